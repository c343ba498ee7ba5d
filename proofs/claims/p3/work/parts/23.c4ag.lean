set_option maxRecDepth 100000 in
set_option maxHeartbeats 4000000 in
theorem c_lt_readSum (l : Launch) (g : zG) (lt : Nat) (ta : Nat) (lo : Nat) (ab : Nat) (sz : Int32) (ln : Int32) (kd : Int32) (bg : Int32) (nx : Int32) (ft : Int32) (fb : Nat → Int32) (lc : Nat) (lz : Int32) (ll : Int32) (lm : Int32) (lg : Int32) (ld : Int32) (fc : Nat → Int32) (b_lz : 0 ≤ lz.toInt ∧ lz.toInt ≤ 400) (hln : 0 ≤ ln.toInt ∧ ln.toInt ≤ 400) (hnx : 0 ≤ nx.toInt ∧ nx.toInt ≤ 400) (hbg : 0 ≤ bg.toInt ∧ bg.toInt ≤ 400) (hkd : zKd kd.toInt bg.toInt nx.toInt) (hft : -1 ≤ ft.toInt) : zM' g l yX2_readSum (Cond.code yX2_readSum cX2_readSum 4 (some .boolean) :: zB) ({ frames := 5, cells := 0, slots := 0, locals := 107 } : Room) [.ref lt] [bLT g lt ta lo, bTape g ta ab sz ln kd bg nx ft fb, bLaw g lo lc lz ll lm lg ld fc] (fun u : Int32 × Int32 × Int32 × Int32 × Int32 × (Nat → Int32) × Int32 => (fun (kd2 : Int32) (bg2 : Int32) (nx2 : Int32) (ft2 : Int32) (lz2 : Int32) (fc2 : Nat → Int32) (q : Int32) => some (.int q)) (u.1) (u.2.1) (u.2.2.1) (u.2.2.2.1) (u.2.2.2.2.1) (u.2.2.2.2.2.1) (u.2.2.2.2.2.2)) (fun u : Int32 × Int32 × Int32 × Int32 × Int32 × (Nat → Int32) × Int32 => (fun (kd2 : Int32) (bg2 : Int32) (nx2 : Int32) (ft2 : Int32) (lz2 : Int32) (fc2 : Nat → Int32) (q : Int32) => (0 ≤ lz2.toInt ∧ lz2.toInt ≤ 400) ∧ (-1 ≤ ft2.toInt) ∧ (0 ≤ nx2.toInt ∧ nx2.toInt ≤ 400) ∧ (0 ≤ bg2.toInt ∧ bg2.toInt ≤ 400) ∧ (zKd kd2.toInt bg2.toInt nx2.toInt) ∧ (q = 0 ∨ q = 1)) (u.1) (u.2.1) (u.2.2.1) (u.2.2.2.1) (u.2.2.2.2.1) (u.2.2.2.2.2.1) (u.2.2.2.2.2.2)) (fun u : Int32 × Int32 × Int32 × Int32 × Int32 × (Nat → Int32) × Int32 => (fun (kd2 : Int32) (bg2 : Int32) (nx2 : Int32) (ft2 : Int32) (lz2 : Int32) (fc2 : Nat → Int32) (q : Int32) => [bLT g lt ta lo, bTape g ta ab sz ln kd2 bg2 nx2 ft2 fb, bLaw g lo lc lz2 ll lm lg ld fc2]) (u.1) (u.2.1) (u.2.2.1) (u.2.2.2.1) (u.2.2.2.2.1) (u.2.2.2.2.2.1) (u.2.2.2.2.2.2)) := by
  refine zM'.of (cc := cX2_readSum) (maxL := 4) (rt := (some .boolean)) (by decide) rfl (Nat.le_of_ble_eq_true rfl) ?_
  intro p e s m args below meth c A ls St hr hlocks hin hK hT hA hP hD hS hl
  obtain ⟨hx, hb, hml, hown, hts⟩ := id St
  have hl : lv_has ls 4 [(0, .ref lt)] := hl
  refine lv_iconst (v := 0) hx hb dX2_readSum_0 (by decide) ?_
  refine lv_istore_n (lv' := [(1, .int 0), (0, .ref lt)]) hx hb dX2_readSum_1 rfl hl (by decide) rfl (fun ls hl => ?_)
  have hl := lv_sub (l' := [(0, .ref lt), (1, .int 0)]) hl [1, 0] rfl
  have LP2_14 : ∀ (kf : Nat) (x_1 : Int32) (x_2 : Int32) (x_3 : Int32) (x_4 : Int32) (x_5 : Int32) (x_6 : Int32) (fc_7 : Nat → Int32), (0 ≤ x_1.toInt ∧ x_1.toInt ≤ 400) → (0 ≤ x_3.toInt ∧ x_3.toInt ≤ 400) → (0 ≤ x_4.toInt ∧ x_4.toInt ≤ 400) → ((-1) ≤ x_5.toInt) → (0 ≤ x_6.toInt ∧ x_6.toInt ≤ 400) → (zKd x_2.toInt x_3.toInt x_4.toInt) → ∀ (H : Heap) (locs : List Loc) (ls : Array Slot), ((401 - x_1.toInt).toNat) < kf → va_P g.1 vwCl (List.flatten [bLT g lt ta lo, bTape g ta ab sz ln x_2 x_3 x_4 x_5 fb, bLaw g lo lc x_6 ll lm lg ld fc_7]) H → va_D A (List.flatten [bLT g lt ta lo, bTape g ta ab sz ln x_2 x_3 x_4 x_5 fb, bLaw g lo lc x_6 ll lm lg ld fc_7]) → va_S A s.heap H locs → lv_has ls 4 [(0, .ref lt), (1, .int x_1)] → W p l e ({ frames := 5, cells := 0, slots := 0, locals := 107 } : Room) s m args below meth c H locs (0) (0) (zF g (fun u : Int32 × Int32 × Int32 × Int32 × Int32 × (Nat → Int32) × Int32 => (fun (kd2 : Int32) (bg2 : Int32) (nx2 : Int32) (ft2 : Int32) (lz2 : Int32) (fc2 : Nat → Int32) (q : Int32) => some (.int q)) (u.1) (u.2.1) (u.2.2.1) (u.2.2.2.1) (u.2.2.2.2.1) (u.2.2.2.2.2.1) (u.2.2.2.2.2.2)) (fun u : Int32 × Int32 × Int32 × Int32 × Int32 × (Nat → Int32) × Int32 => (fun (kd2 : Int32) (bg2 : Int32) (nx2 : Int32) (ft2 : Int32) (lz2 : Int32) (fc2 : Nat → Int32) (q : Int32) => (0 ≤ lz2.toInt ∧ lz2.toInt ≤ 400) ∧ (-1 ≤ ft2.toInt) ∧ (0 ≤ nx2.toInt ∧ nx2.toInt ≤ 400) ∧ (0 ≤ bg2.toInt ∧ bg2.toInt ≤ 400) ∧ (zKd kd2.toInt bg2.toInt nx2.toInt) ∧ (q = 0 ∨ q = 1)) (u.1) (u.2.1) (u.2.2.1) (u.2.2.2.1) (u.2.2.2.2.1) (u.2.2.2.2.2.1) (u.2.2.2.2.2.2)) (fun u : Int32 × Int32 × Int32 × Int32 × Int32 × (Nat → Int32) × Int32 => (fun (kd2 : Int32) (bg2 : Int32) (nx2 : Int32) (ft2 : Int32) (lz2 : Int32) (fc2 : Nat → Int32) (q : Int32) => [bLT g lt ta lo, bTape g ta ab sz ln kd2 bg2 nx2 ft2 fb, bLaw g lo lc lz2 ll lm lg ld fc2]) (u.1) (u.2.1) (u.2.2.1) (u.2.2.2.1) (u.2.2.2.2.1) (u.2.2.2.2.2.1) (u.2.2.2.2.2.2)) ({ frames := 5, cells := 0, slots := 0, locals := 107 } : Room) below args s A) (F0 m 2 ls []) := by
    intro kf
    induction kf with
    | zero => intro x_1 x_2 x_3 x_4 x_5 x_6 fc_7 i8 i9 i10 i11 i12 i13 H locs ls hk; exact absurd hk (Nat.not_lt_zero _)
    | succ kf ih2_15 =>
      intro x_1 x_2 x_3 x_4 x_5 x_6 fc_7 i8 i9 i10 i11 i12 i13 H locs ls hk2_15 hP hD hS hl
      refine lv_iload_n hx hb dX2_readSum_2 rfl (lv_at hl 1 rfl) ?_
      refine lv_sipush (v := 400) hx hb dX2_readSum_3 (by decide) ?_
      refine lv_icmp_ge (tgt := 170) hx hb dX2_readSum_6 (by decide) (fun cb9 => ?_) (fun cb9 => ?_)
      · skip
        have c16 : 400 ≤ x_1.toInt := zle cb9 (by decide) rfl
        have n17 : 400 ≤ x_1.toInt := Int.le_trans (Int.le_refl _) c16
        refine lv_aload_n hx hb dX2_readSum_170 rfl (lv_at hl 0 rfl) ?_
        refine va_get (D := g.1) (ci := 2) (v := .ref ta) (C := RX2) (T := TX2) (N := 2) hx hb hts izRX2 hown hK hP 0 rfl rfl 0 (by decide) (hts _ k290) (fun x9 h9 => u_same (hts _ k291) x9 h9) rfl dX2_readSum_171 ?_
        refine mcallV' (g := g) (q0 := 0) (ci := 6) (As := []) (rest := []) St hK hT hA hP hD hS hl.1 [1] [0, 2] rfl rfl rfl (c_t_refuse l g ta ab sz ln x_2 x_3 x_4 x_5 fb hln i10 i9 i13 i11) (cwV 0 hts (zgL (zl4 k303 k279 k280 k277) k269) rfl rfl rfl (by decide +kernel) ⟨Nat.le_of_ble_eq_true rfl, Nat.le_of_ble_eq_true rfl⟩) rfl rfl rfl rfl (Nat.le_of_ble_eq_true rfl) dX2_readSum_174 ⟨(Nat.le_of_ble_eq_true rfl), (Nat.le_of_ble_eq_true rfl)⟩ (fun ft2_18 H locs hq19 hP hD hS => ?_)
        replace hq19 : (-1 ≤ ft2_18.toInt) := hq19
        have hP : va_P g.1 vwCl (List.flatten [bLT g lt ta lo, bLaw g lo lc x_6 ll lm lg ld fc_7, bTape g ta ab sz ln x_2 x_3 x_4 ft2_18 fb]) H := hP
        have hD : va_D A (List.flatten [bLT g lt ta lo, bLaw g lo lc x_6 ll lm lg ld fc_7, bTape g ta ab sz ln x_2 x_3 x_4 ft2_18 fb]) := hD
        refine W.widen (k := 0) (n := 0) (Nat.le_of_ble_eq_true rfl) (Nat.le_of_ble_eq_true rfl) ?_
        refine W.eq (g2 := F0 m 177 ls [.int 0]) rfl ?_
        have hP : va_P g.1 vwCl (List.flatten [bLT g lt ta lo, bLaw g lo lc x_6 ll lm lg ld fc_7, bTape g ta ab sz ln x_2 x_3 x_4 ft2_18 fb]) H := hP
        have hD : va_D A (List.flatten [bLT g lt ta lo, bLaw g lo lc x_6 ll lm lg ld fc_7, bTape g ta ab sz ln x_2 x_3 x_4 ft2_18 fb]) := hD
        obtain ⟨hP, hD⟩ := zord (g := g) (Bs' := [bLT g lt ta lo, bTape g ta ab sz ln x_2 x_3 x_4 ft2_18 fb, bLaw g lo lc x_6 ll lm lg ld fc_7]) [0, 2, 1] rfl rfl hP hD
        exact mret_z hx hb hr hlocks hS (Nat.le_of_ble_eq_true rfl) (Nat.le_of_ble_eq_true rfl) dX2_readSum_177 (x_2, x_3, x_4, ft2_18, x_6, fc_7, (0 : Int32)) rfl (by decide) (show (0 ≤ x_6.toInt ∧ x_6.toInt ≤ 400) ∧ (-1 ≤ ft2_18.toInt) ∧ (0 ≤ x_4.toInt ∧ x_4.toInt ≤ 400) ∧ (0 ≤ x_3.toInt ∧ x_3.toInt ≤ 400) ∧ (zKd x_2.toInt x_3.toInt x_4.toInt) ∧ (0 = 0 ∨ 0 = 1) from ⟨i12, hq19, i10, i9, i13, (by decide)⟩) hP hD
      · skip
        have c20 : x_1.toInt < 400 := zlti (Int32.not_le.mp cb9) rfl (by decide)
        have n21 : x_1.toInt ≤ 399 := zL1 (b := 400) c20 (Int.le_refl _) (by decide)
        refine lv_aload_n hx hb dX2_readSum_9 rfl (lv_at hl 0 rfl) ?_
        refine va_get (D := g.1) (ci := 2) (v := .ref ta) (C := RX2) (T := TX2) (N := 2) hx hb hts izRX2 hown hK hP 0 rfl rfl 0 (by decide) (hts _ k290) (fun x9 h9 => u_same (hts _ k291) x9 h9) rfl dX2_readSum_10 ?_
        refine va_ldcS (q := g.2 26) hx hb hown (zra8 hT.2.1) dX2_readSum_13 ?_
        refine mcallV' (g := g) (q0 := 0) (ci := 6) (As := [.ref (g.2 26)]) (rest := []) St hK hT hA hP hD hS hl.1 [1] [0, 2] rfl rfl rfl (c_t_isWord l g ta ab sz ln x_2 x_3 x_4 x_5 fb (g.2 26) 8 zqa8 hln i10 i9 i13 i11 rfl zla8 zna8) (cwV 1 hts (zgL (zl4 k292 k282 k283 k277) k268) rfl rfl rfl (by decide +kernel) ⟨Nat.le_of_ble_eq_true rfl, Nat.le_of_ble_eq_true rfl⟩) rfl rfl rfl rfl (Nat.le_of_ble_eq_true rfl) dX2_readSum_15 ⟨(Nat.le_of_ble_eq_true rfl), (Nat.le_of_ble_eq_true rfl)⟩ (fun r_22 H locs hq23 hP hD hS => ?_)
        replace hq23 : (r_22 = 0 ∨ r_22 = 1) := hq23
        have hP : va_P g.1 vwCl (List.flatten [bLT g lt ta lo, bLaw g lo lc x_6 ll lm lg ld fc_7, bTape g ta ab sz ln x_2 x_3 x_4 x_5 fb]) H := hP
        have hD : va_D A (List.flatten [bLT g lt ta lo, bLaw g lo lc x_6 ll lm lg ld fc_7, bTape g ta ab sz ln x_2 x_3 x_4 x_5 fb]) := hD
        refine W.widen (k := 0) (n := 0) (Nat.le_of_ble_eq_true rfl) (Nat.le_of_ble_eq_true rfl) ?_
        refine W.eq (g2 := F0 m 18 ls [.int r_22]) rfl ?_
        rcases hq23 with rfl | rfl
        · skip
          refine lv_if_eq (tgt := 25) hx hb dX2_readSum_18 (by decide) (fun _ => ?_) (fun c24 => absurd (by decide) c24)
          refine lv_aload_n hx hb dX2_readSum_25 rfl (lv_at hl 0 rfl) ?_
          refine va_get (D := g.1) (ci := 2) (v := .ref ta) (C := RX2) (T := TX2) (N := 2) hx hb hts izRX2 hown hK hP 0 rfl rfl 0 (by decide) (hts _ k290) (fun x9 h9 => u_same (hts _ k291) x9 h9) rfl dX2_readSum_26 ?_
          refine va_ldcS (q := g.2 28) hx hb hown (zra9 hT.2.1) dX2_readSum_29 ?_
          refine mcallV' (g := g) (q0 := 0) (ci := 6) (As := [.ref (g.2 28)]) (rest := []) St hK hT hA hP hD hS hl.1 [2] [0, 1] rfl rfl rfl (c_t_isWord l g ta ab sz ln x_2 x_3 x_4 x_5 fb (g.2 28) 9 zqa9 hln i10 i9 i13 i11 rfl zla9 zna9) (cwV 1 hts (zgL (zl4 k292 k282 k283 k277) k268) rfl rfl rfl (by decide +kernel) ⟨Nat.le_of_ble_eq_true rfl, Nat.le_of_ble_eq_true rfl⟩) rfl rfl rfl rfl (Nat.le_of_ble_eq_true rfl) dX2_readSum_31 ⟨(Nat.le_of_ble_eq_true rfl), (Nat.le_of_ble_eq_true rfl)⟩ (fun r_25 H locs hq26 hP hD hS => ?_)
          replace hq26 : (r_25 = 0 ∨ r_25 = 1) := hq26
          have hP : va_P g.1 vwCl (List.flatten [bLT g lt ta lo, bLaw g lo lc x_6 ll lm lg ld fc_7, bTape g ta ab sz ln x_2 x_3 x_4 x_5 fb]) H := hP
          have hD : va_D A (List.flatten [bLT g lt ta lo, bLaw g lo lc x_6 ll lm lg ld fc_7, bTape g ta ab sz ln x_2 x_3 x_4 x_5 fb]) := hD
          refine W.widen (k := 0) (n := 0) (Nat.le_of_ble_eq_true rfl) (Nat.le_of_ble_eq_true rfl) ?_
          refine W.eq (g2 := F0 m 34 ls [.int r_25]) rfl ?_
          rcases hq26 with rfl | rfl
          · skip
            refine lv_if_eq (tgt := 41) hx hb dX2_readSum_34 (by decide) (fun _ => ?_) (fun c27 => absurd (by decide) c27)
            refine lv_aload_n hx hb dX2_readSum_41 rfl (lv_at hl 0 rfl) ?_
            refine va_get (D := g.1) (ci := 2) (v := .ref ta) (C := RX2) (T := TX2) (N := 2) hx hb hts izRX2 hown hK hP 0 rfl rfl 0 (by decide) (hts _ k290) (fun x9 h9 => u_same (hts _ k291) x9 h9) rfl dX2_readSum_42 ?_
            refine va_ldcS (q := g.2 30) hx hb hown (zra10 hT.2.1) dX2_readSum_45 ?_
            refine mcallV' (g := g) (q0 := 0) (ci := 6) (As := [.ref (g.2 30)]) (rest := []) St hK hT hA hP hD hS hl.1 [2] [0, 1] rfl rfl rfl (c_t_isWord l g ta ab sz ln x_2 x_3 x_4 x_5 fb (g.2 30) 10 zqa10 hln i10 i9 i13 i11 rfl zla10 zna10) (cwV 1 hts (zgL (zl4 k292 k282 k283 k277) k268) rfl rfl rfl (by decide +kernel) ⟨Nat.le_of_ble_eq_true rfl, Nat.le_of_ble_eq_true rfl⟩) rfl rfl rfl rfl (Nat.le_of_ble_eq_true rfl) dX2_readSum_47 ⟨(Nat.le_of_ble_eq_true rfl), (Nat.le_of_ble_eq_true rfl)⟩ (fun r_28 H locs hq29 hP hD hS => ?_)
            replace hq29 : (r_28 = 0 ∨ r_28 = 1) := hq29
            have hP : va_P g.1 vwCl (List.flatten [bLT g lt ta lo, bLaw g lo lc x_6 ll lm lg ld fc_7, bTape g ta ab sz ln x_2 x_3 x_4 x_5 fb]) H := hP
            have hD : va_D A (List.flatten [bLT g lt ta lo, bLaw g lo lc x_6 ll lm lg ld fc_7, bTape g ta ab sz ln x_2 x_3 x_4 x_5 fb]) := hD
            refine W.widen (k := 0) (n := 0) (Nat.le_of_ble_eq_true rfl) (Nat.le_of_ble_eq_true rfl) ?_
            refine W.eq (g2 := F0 m 50 ls [.int r_28]) rfl ?_
            rcases hq29 with rfl | rfl
            · skip
              refine lv_if_eq (tgt := 57) hx hb dX2_readSum_50 (by decide) (fun _ => ?_) (fun c30 => absurd (by decide) c30)
              refine lv_aload_n hx hb dX2_readSum_57 rfl (lv_at hl 0 rfl) ?_
              refine va_get (D := g.1) (ci := 2) (v := .ref ta) (C := RX2) (T := TX2) (N := 2) hx hb hts izRX2 hown hK hP 0 rfl rfl 0 (by decide) (hts _ k290) (fun x9 h9 => u_same (hts _ k291) x9 h9) rfl dX2_readSum_58 ?_
              refine va_ldcS (q := g.2 32) hx hb hown (zra11 hT.2.1) dX2_readSum_61 ?_
              refine mcallV' (g := g) (q0 := 0) (ci := 6) (As := [.ref (g.2 32)]) (rest := []) St hK hT hA hP hD hS hl.1 [2] [0, 1] rfl rfl rfl (c_t_isWord l g ta ab sz ln x_2 x_3 x_4 x_5 fb (g.2 32) 11 zqa11 hln i10 i9 i13 i11 rfl zla11 zna11) (cwV 1 hts (zgL (zl4 k292 k282 k283 k277) k268) rfl rfl rfl (by decide +kernel) ⟨Nat.le_of_ble_eq_true rfl, Nat.le_of_ble_eq_true rfl⟩) rfl rfl rfl rfl (Nat.le_of_ble_eq_true rfl) dX2_readSum_63 ⟨(Nat.le_of_ble_eq_true rfl), (Nat.le_of_ble_eq_true rfl)⟩ (fun r_31 H locs hq32 hP hD hS => ?_)
              replace hq32 : (r_31 = 0 ∨ r_31 = 1) := hq32
              have hP : va_P g.1 vwCl (List.flatten [bLT g lt ta lo, bLaw g lo lc x_6 ll lm lg ld fc_7, bTape g ta ab sz ln x_2 x_3 x_4 x_5 fb]) H := hP
              have hD : va_D A (List.flatten [bLT g lt ta lo, bLaw g lo lc x_6 ll lm lg ld fc_7, bTape g ta ab sz ln x_2 x_3 x_4 x_5 fb]) := hD
              refine W.widen (k := 0) (n := 0) (Nat.le_of_ble_eq_true rfl) (Nat.le_of_ble_eq_true rfl) ?_
              refine W.eq (g2 := F0 m 66 ls [.int r_31]) rfl ?_
              rcases hq32 with rfl | rfl
              · skip
                refine lv_if_eq (tgt := 73) hx hb dX2_readSum_66 (by decide) (fun _ => ?_) (fun c33 => absurd (by decide) c33)
                refine lv_aload_n hx hb dX2_readSum_73 rfl (lv_at hl 0 rfl) ?_
                refine va_get (D := g.1) (ci := 2) (v := .ref ta) (C := RX2) (T := TX2) (N := 2) hx hb hts izRX2 hown hK hP 0 rfl rfl 0 (by decide) (hts _ k290) (fun x9 h9 => u_same (hts _ k291) x9 h9) rfl dX2_readSum_74 ?_
                refine va_ldcS (q := g.2 34) hx hb hown (zra12 hT.2.1) dX2_readSum_77 ?_
                refine mcallV' (g := g) (q0 := 0) (ci := 6) (As := [.ref (g.2 34)]) (rest := []) St hK hT hA hP hD hS hl.1 [2] [0, 1] rfl rfl rfl (c_t_isWord l g ta ab sz ln x_2 x_3 x_4 x_5 fb (g.2 34) 12 zqa12 hln i10 i9 i13 i11 rfl zla12 zna12) (cwV 1 hts (zgL (zl4 k292 k282 k283 k277) k268) rfl rfl rfl (by decide +kernel) ⟨Nat.le_of_ble_eq_true rfl, Nat.le_of_ble_eq_true rfl⟩) rfl rfl rfl rfl (Nat.le_of_ble_eq_true rfl) dX2_readSum_79 ⟨(Nat.le_of_ble_eq_true rfl), (Nat.le_of_ble_eq_true rfl)⟩ (fun r_34 H locs hq35 hP hD hS => ?_)
                replace hq35 : (r_34 = 0 ∨ r_34 = 1) := hq35
                have hP : va_P g.1 vwCl (List.flatten [bLT g lt ta lo, bLaw g lo lc x_6 ll lm lg ld fc_7, bTape g ta ab sz ln x_2 x_3 x_4 x_5 fb]) H := hP
                have hD : va_D A (List.flatten [bLT g lt ta lo, bLaw g lo lc x_6 ll lm lg ld fc_7, bTape g ta ab sz ln x_2 x_3 x_4 x_5 fb]) := hD
                refine W.widen (k := 0) (n := 0) (Nat.le_of_ble_eq_true rfl) (Nat.le_of_ble_eq_true rfl) ?_
                refine W.eq (g2 := F0 m 82 ls [.int r_34]) rfl ?_
                rcases hq35 with rfl | rfl
                · skip
                  refine lv_if_eq (tgt := 89) hx hb dX2_readSum_82 (by decide) (fun _ => ?_) (fun c36 => absurd (by decide) c36)
                  refine lv_aload_n hx hb dX2_readSum_89 rfl (lv_at hl 0 rfl) ?_
                  refine va_get (D := g.1) (ci := 2) (v := .ref ta) (C := RX2) (T := TX2) (N := 2) hx hb hts izRX2 hown hK hP 0 rfl rfl 0 (by decide) (hts _ k290) (fun x9 h9 => u_same (hts _ k291) x9 h9) rfl dX2_readSum_90 ?_
                  refine va_ldcS (q := g.2 36) hx hb hown (zra13 hT.2.1) dX2_readSum_93 ?_
                  refine mcallV' (g := g) (q0 := 0) (ci := 6) (As := [.ref (g.2 36)]) (rest := []) St hK hT hA hP hD hS hl.1 [2] [0, 1] rfl rfl rfl (c_t_isWord l g ta ab sz ln x_2 x_3 x_4 x_5 fb (g.2 36) 13 zqa13 hln i10 i9 i13 i11 rfl zla13 zna13) (cwV 1 hts (zgL (zl4 k292 k282 k283 k277) k268) rfl rfl rfl (by decide +kernel) ⟨Nat.le_of_ble_eq_true rfl, Nat.le_of_ble_eq_true rfl⟩) rfl rfl rfl rfl (Nat.le_of_ble_eq_true rfl) dX2_readSum_95 ⟨(Nat.le_of_ble_eq_true rfl), (Nat.le_of_ble_eq_true rfl)⟩ (fun r_37 H locs hq38 hP hD hS => ?_)
                  replace hq38 : (r_37 = 0 ∨ r_37 = 1) := hq38
                  have hP : va_P g.1 vwCl (List.flatten [bLT g lt ta lo, bLaw g lo lc x_6 ll lm lg ld fc_7, bTape g ta ab sz ln x_2 x_3 x_4 x_5 fb]) H := hP
                  have hD : va_D A (List.flatten [bLT g lt ta lo, bLaw g lo lc x_6 ll lm lg ld fc_7, bTape g ta ab sz ln x_2 x_3 x_4 x_5 fb]) := hD
                  refine W.widen (k := 0) (n := 0) (Nat.le_of_ble_eq_true rfl) (Nat.le_of_ble_eq_true rfl) ?_
                  refine W.eq (g2 := F0 m 98 ls [.int r_37]) rfl ?_
                  rcases hq38 with rfl | rfl
                  · skip
                    refine lv_if_eq (tgt := 106) hx hb dX2_readSum_98 (by decide) (fun _ => ?_) (fun c39 => absurd (by decide) c39)
                    refine lv_iconst (v := 0) hx hb dX2_readSum_106 (by decide) ?_
                    refine lv_istore_n (lv' := [(2, .int 0), (0, .ref lt), (1, .int x_1)]) hx hb dX2_readSum_107 rfl hl (by decide) rfl (fun ls hl => ?_)
                    refine lv_iconst (v := 0) hx hb dX2_readSum_108 (by decide) ?_
                    refine lv_istore_n (lv' := [(3, .int 0), (2, .int 0), (0, .ref lt), (1, .int x_1)]) hx hb dX2_readSum_109 rfl hl (by decide) rfl (fun ls hl => ?_)
                    refine lv_iload_n hx hb dX2_readSum_110 rfl (lv_at hl 1 rfl) ?_
                    refine lv_if_ne (tgt := 133) hx hb dX2_readSum_111 (by decide) (fun c40 => absurd (by decide) c40) (fun _ => ?_)
                    refine lv_aload_n hx hb dX2_readSum_114 rfl (lv_at hl 2 rfl) ?_
                    refine va_get (D := g.1) (ci := 2) (v := .ref ta) (C := RX2) (T := TX2) (N := 2) hx hb hts izRX2 hown hK hP 0 rfl rfl 0 (by decide) (hts _ k290) (fun x9 h9 => u_same (hts _ k291) x9 h9) rfl dX2_readSum_115 ?_
                    refine lv_iconst (v := 0) hx hb dX2_readSum_118 (by decide) ?_
                    refine lv_sipush (v := 999) hx hb dX2_readSum_119 (by decide) ?_
                    have hL0 : (0 : Int32).toInt = 0 := by decide
                    have hL999 : (999 : Int32).toInt = 999 := by decide
                    refine mcallV' (g := g) (q0 := 0) (ci := 6) (As := [.int 0, .int 999]) (rest := []) St hK hT hA hP hD hS hl.1 [2] [0, 1] rfl rfl rfl (c_t_number l g ta ab sz ln x_2 x_3 x_4 x_5 fb 0 999 hln i10 i9 i13 i11) (cwV 2 hts (zgL (zl4 k293 k294 k295 k277) k273) rfl rfl rfl (by decide +kernel) ⟨Nat.le_of_ble_eq_true rfl, Nat.le_of_ble_eq_true rfl⟩) rfl rfl rfl rfl (Nat.le_of_ble_eq_true rfl) dX2_readSum_122 ⟨(Nat.le_of_ble_eq_true rfl), (Nat.le_of_ble_eq_true rfl)⟩ (fun u_ H locs hq46 hP hD hS => ?_)
                    obtain ⟨kd2_41, bg2_42, nx2_43, ft2_44, q_45⟩ := u_
                    replace hq46 : (0 ≤ nx2_43.toInt ∧ nx2_43.toInt ≤ 400) ∧ (0 ≤ bg2_42.toInt ∧ bg2_42.toInt ≤ 400) ∧ (zKd kd2_41.toInt bg2_42.toInt nx2_43.toInt) ∧ (-1 ≤ ft2_44.toInt) ∧ (zImp (¬ q_45.toInt = -1) ((0 : Int32).toInt ≤ q_45.toInt ∧ q_45.toInt ≤ (999 : Int32).toInt)) := hq46
                    have hP : va_P g.1 vwCl (List.flatten [bLT g lt ta lo, bLaw g lo lc x_6 ll lm lg ld fc_7, bTape g ta ab sz ln kd2_41 bg2_42 nx2_43 ft2_44 fb]) H := hP
                    have hD : va_D A (List.flatten [bLT g lt ta lo, bLaw g lo lc x_6 ll lm lg ld fc_7, bTape g ta ab sz ln kd2_41 bg2_42 nx2_43 ft2_44 fb]) := hD
                    refine W.widen (k := 0) (n := 0) (Nat.le_of_ble_eq_true rfl) (Nat.le_of_ble_eq_true rfl) ?_
                    refine W.eq (g2 := F0 m 125 ls [.int q_45]) rfl ?_
                    obtain ⟨hq46_0, hq46_1, hq46_2, hq46_3, hq46_4⟩ := hq46
                    refine lv_istore_n (lv' := [(3, .int q_45), (2, .int 0), (0, .ref lt), (1, .int x_1)]) hx hb dX2_readSum_125 rfl hl (by decide) rfl (fun ls hl => ?_)
                    refine lv_iload_n hx hb dX2_readSum_126 rfl (lv_at hl 0 rfl) ?_
                    refine lv_iconst (v := (-1)) hx hb dX2_readSum_127 (by decide) ?_
                    refine lv_icmp_ne (tgt := 140) hx hb dX2_readSum_128 (by decide) (fun cb9 => ?_) (fun cb9 => ?_)
                    · skip
                      have c47 : ¬ q_45.toInt = (-1) := zne cb9 rfl (by decide)
                      have w48 := hq46_4 c47
                      have w49 : 0 ≤ q_45.toInt ∧ q_45.toInt ≤ 999 := by omega
                      refine lv_aload_n hx hb dX2_readSum_140 rfl (lv_at hl 2 rfl) ?_
                      refine va_get (D := g.1) (ci := 2) (v := .ref lo) (C := RX2) (T := TX2) (N := 2) hx hb hts izRX2 hown hK hP 0 rfl rfl 1 (by decide) (hts _ k210) (fun _ h9 => h9) rfl dX2_readSum_141 ?_
                      refine lv_iload_n hx hb dX2_readSum_144 rfl (lv_at hl 1 rfl) ?_
                      refine lv_iload_n hx hb dX2_readSum_145 rfl (lv_at hl 0 rfl) ?_
                      refine mcallV' (g := g) (q0 := 0) (ci := 1) (As := [.int 0, .int q_45]) (rest := []) St hK hT hA hP hD hS hl.1 [1] [0, 2] rfl rfl rfl (c_l_put l g lo lc x_6 ll lm lg ld fc_7 0 q_45 i12) (cwV 2 hts (zgL (zl4 k297 k298 k299 k85) k202) rfl rfl rfl (by decide +kernel) ⟨Nat.le_of_ble_eq_true rfl, Nat.le_of_ble_eq_true rfl⟩) rfl rfl rfl rfl (Nat.le_of_ble_eq_true rfl) dX2_readSum_146 ⟨(Nat.le_of_ble_eq_true rfl), (Nat.le_of_ble_eq_true rfl)⟩ (fun u_ H locs hq53 hP hD hS => ?_)
                      obtain ⟨lz2_50, fc2_51, q_52⟩ := u_
                      replace hq53 : (0 ≤ lz2_50.toInt ∧ lz2_50.toInt ≤ 400) := hq53
                      have hP : va_P g.1 vwCl (List.flatten [bLT g lt ta lo, bTape g ta ab sz ln kd2_41 bg2_42 nx2_43 ft2_44 fb, bLaw g lo lc lz2_50 ll lm lg ld fc2_51]) H := hP
                      have hD : va_D A (List.flatten [bLT g lt ta lo, bTape g ta ab sz ln kd2_41 bg2_42 nx2_43 ft2_44 fb, bLaw g lo lc lz2_50 ll lm lg ld fc2_51]) := hD
                      refine W.widen (k := 0) (n := 0) (Nat.le_of_ble_eq_true rfl) (Nat.le_of_ble_eq_true rfl) ?_
                      refine W.eq (g2 := F0 m 149 ls [.int q_52]) rfl ?_
                      refine lv_pop hx hb dX2_readSum_149 rfl ?_
                      refine lv_aload_n hx hb dX2_readSum_150 rfl (lv_at hl 2 rfl) ?_
                      refine va_get (D := g.1) (ci := 2) (v := .ref ta) (C := RX2) (T := TX2) (N := 2) hx hb hts izRX2 hown hK hP 0 rfl rfl 0 (by decide) (hts _ k290) (fun x9 h9 => u_same (hts _ k291) x9 h9) rfl dX2_readSum_151 ?_
                      refine lv_bipush (v := 43) hx hb dX2_readSum_154 (by decide) ?_
                      refine mcallV' (g := g) (q0 := 0) (ci := 6) (As := [.int 43]) (rest := []) St hK hT hA hP hD hS hl.1 [1] [0, 2] rfl rfl rfl (c_t_takeSign l g ta ab sz ln kd2_41 bg2_42 nx2_43 ft2_44 fb 43 hln hq46_0 hq46_1 hq46_2 hq46_3) (cwV 1 hts (zgL (zl4 k300 k301 k302 k277) k286) rfl rfl rfl (by decide +kernel) ⟨Nat.le_of_ble_eq_true rfl, Nat.le_of_ble_eq_true rfl⟩) rfl rfl rfl rfl (Nat.le_of_ble_eq_true rfl) dX2_readSum_156 ⟨(Nat.le_of_ble_eq_true rfl), (Nat.le_of_ble_eq_true rfl)⟩ (fun u_ H locs hq58 hP hD hS => ?_)
                      obtain ⟨kd2_54, bg2_55, nx2_56, q_57⟩ := u_
                      replace hq58 : (0 ≤ nx2_56.toInt ∧ nx2_56.toInt ≤ 400) ∧ (0 ≤ bg2_55.toInt ∧ bg2_55.toInt ≤ 400) ∧ (zKd kd2_54.toInt bg2_55.toInt nx2_56.toInt) ∧ (q_57 = 0 ∨ q_57 = 1) := hq58
                      have hP : va_P g.1 vwCl (List.flatten [bLT g lt ta lo, bLaw g lo lc lz2_50 ll lm lg ld fc2_51, bTape g ta ab sz ln kd2_54 bg2_55 nx2_56 ft2_44 fb]) H := hP
                      have hD : va_D A (List.flatten [bLT g lt ta lo, bLaw g lo lc lz2_50 ll lm lg ld fc2_51, bTape g ta ab sz ln kd2_54 bg2_55 nx2_56 ft2_44 fb]) := hD
                      refine W.widen (k := 0) (n := 0) (Nat.le_of_ble_eq_true rfl) (Nat.le_of_ble_eq_true rfl) ?_
                      refine W.eq (g2 := F0 m 159 ls [.int q_57]) rfl ?_
                      obtain ⟨hq58_0, hq58_1, hq58_2, hq58_3⟩ := hq58
                      rcases hq58_3 with rfl | rfl
                      · skip
                        refine lv_if_ne (tgt := 164) hx hb dX2_readSum_159 (by decide) (fun c59 => absurd (by decide) c59) (fun _ => ?_)
                        refine lv_iconst (v := 1) hx hb dX2_readSum_162 (by decide) ?_
                        have hP : va_P g.1 vwCl (List.flatten [bLT g lt ta lo, bLaw g lo lc lz2_50 ll lm lg ld fc2_51, bTape g ta ab sz ln kd2_54 bg2_55 nx2_56 ft2_44 fb]) H := hP
                        have hD : va_D A (List.flatten [bLT g lt ta lo, bLaw g lo lc lz2_50 ll lm lg ld fc2_51, bTape g ta ab sz ln kd2_54 bg2_55 nx2_56 ft2_44 fb]) := hD
                        obtain ⟨hP, hD⟩ := zord (g := g) (Bs' := [bLT g lt ta lo, bTape g ta ab sz ln kd2_54 bg2_55 nx2_56 ft2_44 fb, bLaw g lo lc lz2_50 ll lm lg ld fc2_51]) [0, 2, 1] rfl rfl hP hD
                        exact mret_z hx hb hr hlocks hS (Nat.le_of_ble_eq_true rfl) (Nat.le_of_ble_eq_true rfl) dX2_readSum_163 (kd2_54, bg2_55, nx2_56, ft2_44, lz2_50, fc2_51, (1 : Int32)) rfl (by decide) (show (0 ≤ lz2_50.toInt ∧ lz2_50.toInt ≤ 400) ∧ (-1 ≤ ft2_44.toInt) ∧ (0 ≤ nx2_56.toInt ∧ nx2_56.toInt ≤ 400) ∧ (0 ≤ bg2_55.toInt ∧ bg2_55.toInt ≤ 400) ∧ (zKd kd2_54.toInt bg2_55.toInt nx2_56.toInt) ∧ (1 = 0 ∨ 1 = 1) from ⟨hq53, hq46_3, hq58_0, hq58_1, hq58_2, (by decide)⟩) hP hD
                      · skip
                        refine lv_if_ne (tgt := 164) hx hb dX2_readSum_159 (by decide) (fun _ => ?_) (fun c60 => absurd c60 (by decide))
                        refine ziinc3 (n' := 1) (a' := 1) (b' := 400) (lv' := fun v9 => [(1, .int v9), (3, .int q_45), (2, .int 0), (0, .ref lt)]) hx hb dX2_readSum_164 hl (k := 3) rfl (by decide) (fun _ => rfl) (zaddK (i := x_1.toInt) (j := 1) rfl (by decide) i8.1 n21 (Int.le_refl _) (Int.le_refl _) (by decide)) (fun x_61 ls hx_61 hl => ?_)
                        refine lv_goto (tgt := 2) hx hb dX2_readSum_167 (by decide) ?_
                        have hl := lv_sub (l' := [(0, .ref lt), (1, .int x_61), (2, .int 0), (3, .int q_45)]) hl [3, 0, 2, 1] rfl
                        have hP : va_P g.1 vwCl (List.flatten [bLT g lt ta lo, bLaw g lo lc lz2_50 ll lm lg ld fc2_51, bTape g ta ab sz ln kd2_54 bg2_55 nx2_56 ft2_44 fb]) H := hP
                        have hD : va_D A (List.flatten [bLT g lt ta lo, bLaw g lo lc lz2_50 ll lm lg ld fc2_51, bTape g ta ab sz ln kd2_54 bg2_55 nx2_56 ft2_44 fb]) := hD
                        obtain ⟨hP, hD⟩ := zord (g := g) (Bs' := [bLT g lt ta lo, bTape g ta ab sz ln kd2_54 bg2_55 nx2_56 ft2_44 fb, bLaw g lo lc lz2_50 ll lm lg ld fc2_51]) [0, 2, 1] rfl rfl hP hD
                        have hP : va_P g.1 vwCl (List.flatten [bLT g lt ta lo, bTape g ta ab sz ln kd2_54 bg2_55 nx2_56 ft2_44 fb, bLaw g lo lc lz2_50 ll lm lg ld fc2_51]) H := hP
                        have hD : va_D A (List.flatten [bLT g lt ta lo, bTape g ta ab sz ln kd2_54 bg2_55 nx2_56 ft2_44 fb, bLaw g lo lc lz2_50 ll lm lg ld fc2_51]) := hD
                        exact ih2_15 x_61 kd2_54 bg2_55 nx2_56 ft2_44 lz2_50 fc2_51 ⟨(Int.le_trans (by decide) hx_61.2.1), hx_61.2.2⟩ ⟨hq58_1.1, hq58_1.2⟩ ⟨hq58_0.1, hq58_0.2⟩ (by first | omega | assumption | decide) ⟨hq53.1, hq53.2⟩ hq58_2 H _ ls (zmK hx_61.1 (by decide) n21 (by decide) hk2_15)  hP hD hS (lv_sub hl [0, 1] rfl)
                    · skip
                      have c62 : q_45.toInt = (-1) := zeq cb9 rfl (by decide)
                      have n63 : q_45.toInt ≤ (-1) := Int.le_trans (Int.le_of_eq c62) (Int.le_refl _)
                      refine lv_iconst (v := 0) hx hb dX2_readSum_131 (by decide) ?_
                      have hP : va_P g.1 vwCl (List.flatten [bLT g lt ta lo, bLaw g lo lc x_6 ll lm lg ld fc_7, bTape g ta ab sz ln kd2_41 bg2_42 nx2_43 ft2_44 fb]) H := hP
                      have hD : va_D A (List.flatten [bLT g lt ta lo, bLaw g lo lc x_6 ll lm lg ld fc_7, bTape g ta ab sz ln kd2_41 bg2_42 nx2_43 ft2_44 fb]) := hD
                      obtain ⟨hP, hD⟩ := zord (g := g) (Bs' := [bLT g lt ta lo, bTape g ta ab sz ln kd2_41 bg2_42 nx2_43 ft2_44 fb, bLaw g lo lc x_6 ll lm lg ld fc_7]) [0, 2, 1] rfl rfl hP hD
                      exact mret_z hx hb hr hlocks hS (Nat.le_of_ble_eq_true rfl) (Nat.le_of_ble_eq_true rfl) dX2_readSum_132 (kd2_41, bg2_42, nx2_43, ft2_44, x_6, fc_7, (0 : Int32)) rfl (by decide) (show (0 ≤ x_6.toInt ∧ x_6.toInt ≤ 400) ∧ (-1 ≤ ft2_44.toInt) ∧ (0 ≤ nx2_43.toInt ∧ nx2_43.toInt ≤ 400) ∧ (0 ≤ bg2_42.toInt ∧ bg2_42.toInt ≤ 400) ∧ (zKd kd2_41.toInt bg2_42.toInt nx2_43.toInt) ∧ (0 = 0 ∨ 0 = 1) from ⟨i12, hq46_3, hq46_0, hq46_1, hq46_2, (by decide)⟩) hP hD
                  · skip
                    refine lv_if_eq (tgt := 106) hx hb dX2_readSum_98 (by decide) (fun c64 => absurd c64 (by decide)) (fun _ => ?_)
                    refine lv_bipush (v := 6) hx hb dX2_readSum_101 (by decide) ?_
                    refine lv_goto (tgt := 107) hx hb dX2_readSum_103 (by decide) ?_
                    refine lv_istore_n (lv' := [(2, .int 6), (0, .ref lt), (1, .int x_1)]) hx hb dX2_readSum_107 rfl hl (by decide) rfl (fun ls hl => ?_)
                    refine lv_iconst (v := 0) hx hb dX2_readSum_108 (by decide) ?_
                    refine lv_istore_n (lv' := [(3, .int 0), (2, .int 6), (0, .ref lt), (1, .int x_1)]) hx hb dX2_readSum_109 rfl hl (by decide) rfl (fun ls hl => ?_)
                    refine lv_iload_n hx hb dX2_readSum_110 rfl (lv_at hl 1 rfl) ?_
                    refine lv_if_ne (tgt := 133) hx hb dX2_readSum_111 (by decide) (fun _ => ?_) (fun c65 => absurd c65 (by decide))
                    refine lv_aload_n hx hb dX2_readSum_133 rfl (lv_at hl 2 rfl) ?_
                    refine va_get (D := g.1) (ci := 2) (v := .ref ta) (C := RX2) (T := TX2) (N := 2) hx hb hts izRX2 hown hK hP 0 rfl rfl 0 (by decide) (hts _ k290) (fun x9 h9 => u_same (hts _ k291) x9 h9) rfl dX2_readSum_134 ?_
                    refine mcallV' (g := g) (q0 := 0) (ci := 6) (As := []) (rest := []) St hK hT hA hP hD hS hl.1 [2] [0, 1] rfl rfl rfl (c_t_step l g ta ab sz ln x_2 x_3 x_4 x_5 fb hln i10) (cwV 0 hts (zgL (zl4 k296 k275 k276 k277) k271) rfl rfl rfl (by decide +kernel) ⟨Nat.le_of_ble_eq_true rfl, Nat.le_of_ble_eq_true rfl⟩) rfl rfl rfl rfl (Nat.le_of_ble_eq_true rfl) dX2_readSum_137 ⟨(Nat.le_of_ble_eq_true rfl), (Nat.le_of_ble_eq_true rfl)⟩ (fun u_ H locs hq69 hP hD hS => ?_)
                    obtain ⟨kd2_66, bg2_67, nx2_68⟩ := u_
                    replace hq69 : (0 ≤ nx2_68.toInt ∧ nx2_68.toInt ≤ 400) ∧ (0 ≤ bg2_67.toInt ∧ bg2_67.toInt ≤ 400) ∧ (zKd kd2_66.toInt bg2_67.toInt nx2_68.toInt) := hq69
                    have hP : va_P g.1 vwCl (List.flatten [bLT g lt ta lo, bLaw g lo lc x_6 ll lm lg ld fc_7, bTape g ta ab sz ln kd2_66 bg2_67 nx2_68 x_5 fb]) H := hP
                    have hD : va_D A (List.flatten [bLT g lt ta lo, bLaw g lo lc x_6 ll lm lg ld fc_7, bTape g ta ab sz ln kd2_66 bg2_67 nx2_68 x_5 fb]) := hD
                    refine W.widen (k := 0) (n := 0) (Nat.le_of_ble_eq_true rfl) (Nat.le_of_ble_eq_true rfl) ?_
                    refine W.eq (g2 := F0 m 140 ls []) rfl ?_
                    obtain ⟨hq69_0, hq69_1, hq69_2⟩ := hq69
                    refine lv_aload_n hx hb dX2_readSum_140 rfl (lv_at hl 2 rfl) ?_
                    refine va_get (D := g.1) (ci := 2) (v := .ref lo) (C := RX2) (T := TX2) (N := 2) hx hb hts izRX2 hown hK hP 0 rfl rfl 1 (by decide) (hts _ k210) (fun _ h9 => h9) rfl dX2_readSum_141 ?_
                    refine lv_iload_n hx hb dX2_readSum_144 rfl (lv_at hl 1 rfl) ?_
                    refine lv_iload_n hx hb dX2_readSum_145 rfl (lv_at hl 0 rfl) ?_
                    refine mcallV' (g := g) (q0 := 0) (ci := 1) (As := [.int 6, .int 0]) (rest := []) St hK hT hA hP hD hS hl.1 [1] [0, 2] rfl rfl rfl (c_l_put l g lo lc x_6 ll lm lg ld fc_7 6 0 i12) (cwV 2 hts (zgL (zl4 k297 k298 k299 k85) k202) rfl rfl rfl (by decide +kernel) ⟨Nat.le_of_ble_eq_true rfl, Nat.le_of_ble_eq_true rfl⟩) rfl rfl rfl rfl (Nat.le_of_ble_eq_true rfl) dX2_readSum_146 ⟨(Nat.le_of_ble_eq_true rfl), (Nat.le_of_ble_eq_true rfl)⟩ (fun u_ H locs hq73 hP hD hS => ?_)
                    obtain ⟨lz2_70, fc2_71, q_72⟩ := u_
                    replace hq73 : (0 ≤ lz2_70.toInt ∧ lz2_70.toInt ≤ 400) := hq73
                    have hP : va_P g.1 vwCl (List.flatten [bLT g lt ta lo, bTape g ta ab sz ln kd2_66 bg2_67 nx2_68 x_5 fb, bLaw g lo lc lz2_70 ll lm lg ld fc2_71]) H := hP
                    have hD : va_D A (List.flatten [bLT g lt ta lo, bTape g ta ab sz ln kd2_66 bg2_67 nx2_68 x_5 fb, bLaw g lo lc lz2_70 ll lm lg ld fc2_71]) := hD
                    refine W.widen (k := 0) (n := 0) (Nat.le_of_ble_eq_true rfl) (Nat.le_of_ble_eq_true rfl) ?_
                    refine W.eq (g2 := F0 m 149 ls [.int q_72]) rfl ?_
                    refine lv_pop hx hb dX2_readSum_149 rfl ?_
                    refine lv_aload_n hx hb dX2_readSum_150 rfl (lv_at hl 2 rfl) ?_
                    refine va_get (D := g.1) (ci := 2) (v := .ref ta) (C := RX2) (T := TX2) (N := 2) hx hb hts izRX2 hown hK hP 0 rfl rfl 0 (by decide) (hts _ k290) (fun x9 h9 => u_same (hts _ k291) x9 h9) rfl dX2_readSum_151 ?_
                    refine lv_bipush (v := 43) hx hb dX2_readSum_154 (by decide) ?_
                    refine mcallV' (g := g) (q0 := 0) (ci := 6) (As := [.int 43]) (rest := []) St hK hT hA hP hD hS hl.1 [1] [0, 2] rfl rfl rfl (c_t_takeSign l g ta ab sz ln kd2_66 bg2_67 nx2_68 x_5 fb 43 hln hq69_0 hq69_1 hq69_2 i11) (cwV 1 hts (zgL (zl4 k300 k301 k302 k277) k286) rfl rfl rfl (by decide +kernel) ⟨Nat.le_of_ble_eq_true rfl, Nat.le_of_ble_eq_true rfl⟩) rfl rfl rfl rfl (Nat.le_of_ble_eq_true rfl) dX2_readSum_156 ⟨(Nat.le_of_ble_eq_true rfl), (Nat.le_of_ble_eq_true rfl)⟩ (fun u_ H locs hq78 hP hD hS => ?_)
                    obtain ⟨kd2_74, bg2_75, nx2_76, q_77⟩ := u_
                    replace hq78 : (0 ≤ nx2_76.toInt ∧ nx2_76.toInt ≤ 400) ∧ (0 ≤ bg2_75.toInt ∧ bg2_75.toInt ≤ 400) ∧ (zKd kd2_74.toInt bg2_75.toInt nx2_76.toInt) ∧ (q_77 = 0 ∨ q_77 = 1) := hq78
                    have hP : va_P g.1 vwCl (List.flatten [bLT g lt ta lo, bLaw g lo lc lz2_70 ll lm lg ld fc2_71, bTape g ta ab sz ln kd2_74 bg2_75 nx2_76 x_5 fb]) H := hP
                    have hD : va_D A (List.flatten [bLT g lt ta lo, bLaw g lo lc lz2_70 ll lm lg ld fc2_71, bTape g ta ab sz ln kd2_74 bg2_75 nx2_76 x_5 fb]) := hD
                    refine W.widen (k := 0) (n := 0) (Nat.le_of_ble_eq_true rfl) (Nat.le_of_ble_eq_true rfl) ?_
                    refine W.eq (g2 := F0 m 159 ls [.int q_77]) rfl ?_
                    obtain ⟨hq78_0, hq78_1, hq78_2, hq78_3⟩ := hq78
                    rcases hq78_3 with rfl | rfl
                    · skip
                      refine lv_if_ne (tgt := 164) hx hb dX2_readSum_159 (by decide) (fun c79 => absurd (by decide) c79) (fun _ => ?_)
                      refine lv_iconst (v := 1) hx hb dX2_readSum_162 (by decide) ?_
                      have hP : va_P g.1 vwCl (List.flatten [bLT g lt ta lo, bLaw g lo lc lz2_70 ll lm lg ld fc2_71, bTape g ta ab sz ln kd2_74 bg2_75 nx2_76 x_5 fb]) H := hP
                      have hD : va_D A (List.flatten [bLT g lt ta lo, bLaw g lo lc lz2_70 ll lm lg ld fc2_71, bTape g ta ab sz ln kd2_74 bg2_75 nx2_76 x_5 fb]) := hD
                      obtain ⟨hP, hD⟩ := zord (g := g) (Bs' := [bLT g lt ta lo, bTape g ta ab sz ln kd2_74 bg2_75 nx2_76 x_5 fb, bLaw g lo lc lz2_70 ll lm lg ld fc2_71]) [0, 2, 1] rfl rfl hP hD
                      exact mret_z hx hb hr hlocks hS (Nat.le_of_ble_eq_true rfl) (Nat.le_of_ble_eq_true rfl) dX2_readSum_163 (kd2_74, bg2_75, nx2_76, x_5, lz2_70, fc2_71, (1 : Int32)) rfl (by decide) (show (0 ≤ lz2_70.toInt ∧ lz2_70.toInt ≤ 400) ∧ (-1 ≤ x_5.toInt) ∧ (0 ≤ nx2_76.toInt ∧ nx2_76.toInt ≤ 400) ∧ (0 ≤ bg2_75.toInt ∧ bg2_75.toInt ≤ 400) ∧ (zKd kd2_74.toInt bg2_75.toInt nx2_76.toInt) ∧ (1 = 0 ∨ 1 = 1) from ⟨hq73, i11, hq78_0, hq78_1, hq78_2, (by decide)⟩) hP hD
                    · skip
                      refine lv_if_ne (tgt := 164) hx hb dX2_readSum_159 (by decide) (fun _ => ?_) (fun c80 => absurd c80 (by decide))
                      refine ziinc3 (n' := 1) (a' := 1) (b' := 400) (lv' := fun v9 => [(1, .int v9), (3, .int 0), (2, .int 6), (0, .ref lt)]) hx hb dX2_readSum_164 hl (k := 3) rfl (by decide) (fun _ => rfl) (zaddK (i := x_1.toInt) (j := 1) rfl (by decide) i8.1 n21 (Int.le_refl _) (Int.le_refl _) (by decide)) (fun x_81 ls hx_81 hl => ?_)
                      refine lv_goto (tgt := 2) hx hb dX2_readSum_167 (by decide) ?_
                      have hl := lv_sub (l' := [(0, .ref lt), (1, .int x_81), (2, .int 6), (3, .int 0)]) hl [3, 0, 2, 1] rfl
                      have hP : va_P g.1 vwCl (List.flatten [bLT g lt ta lo, bLaw g lo lc lz2_70 ll lm lg ld fc2_71, bTape g ta ab sz ln kd2_74 bg2_75 nx2_76 x_5 fb]) H := hP
                      have hD : va_D A (List.flatten [bLT g lt ta lo, bLaw g lo lc lz2_70 ll lm lg ld fc2_71, bTape g ta ab sz ln kd2_74 bg2_75 nx2_76 x_5 fb]) := hD
                      obtain ⟨hP, hD⟩ := zord (g := g) (Bs' := [bLT g lt ta lo, bTape g ta ab sz ln kd2_74 bg2_75 nx2_76 x_5 fb, bLaw g lo lc lz2_70 ll lm lg ld fc2_71]) [0, 2, 1] rfl rfl hP hD
                      have hP : va_P g.1 vwCl (List.flatten [bLT g lt ta lo, bTape g ta ab sz ln kd2_74 bg2_75 nx2_76 x_5 fb, bLaw g lo lc lz2_70 ll lm lg ld fc2_71]) H := hP
                      have hD : va_D A (List.flatten [bLT g lt ta lo, bTape g ta ab sz ln kd2_74 bg2_75 nx2_76 x_5 fb, bLaw g lo lc lz2_70 ll lm lg ld fc2_71]) := hD
                      exact ih2_15 x_81 kd2_74 bg2_75 nx2_76 x_5 lz2_70 fc2_71 ⟨(Int.le_trans (by decide) hx_81.2.1), hx_81.2.2⟩ ⟨hq78_1.1, hq78_1.2⟩ ⟨hq78_0.1, hq78_0.2⟩ i11 ⟨hq73.1, hq73.2⟩ hq78_2 H _ ls (zmK hx_81.1 (by decide) n21 (by decide) hk2_15)  hP hD hS (lv_sub hl [0, 1] rfl)
                · skip
                  refine lv_if_eq (tgt := 89) hx hb dX2_readSum_82 (by decide) (fun c82 => absurd c82 (by decide)) (fun _ => ?_)
                  refine lv_iconst (v := 5) hx hb dX2_readSum_85 (by decide) ?_
                  refine lv_goto (tgt := 107) hx hb dX2_readSum_86 (by decide) ?_
                  refine lv_istore_n (lv' := [(2, .int 5), (0, .ref lt), (1, .int x_1)]) hx hb dX2_readSum_107 rfl hl (by decide) rfl (fun ls hl => ?_)
                  refine lv_iconst (v := 0) hx hb dX2_readSum_108 (by decide) ?_
                  refine lv_istore_n (lv' := [(3, .int 0), (2, .int 5), (0, .ref lt), (1, .int x_1)]) hx hb dX2_readSum_109 rfl hl (by decide) rfl (fun ls hl => ?_)
                  refine lv_iload_n hx hb dX2_readSum_110 rfl (lv_at hl 1 rfl) ?_
                  refine lv_if_ne (tgt := 133) hx hb dX2_readSum_111 (by decide) (fun _ => ?_) (fun c83 => absurd c83 (by decide))
                  refine lv_aload_n hx hb dX2_readSum_133 rfl (lv_at hl 2 rfl) ?_
                  refine va_get (D := g.1) (ci := 2) (v := .ref ta) (C := RX2) (T := TX2) (N := 2) hx hb hts izRX2 hown hK hP 0 rfl rfl 0 (by decide) (hts _ k290) (fun x9 h9 => u_same (hts _ k291) x9 h9) rfl dX2_readSum_134 ?_
                  refine mcallV' (g := g) (q0 := 0) (ci := 6) (As := []) (rest := []) St hK hT hA hP hD hS hl.1 [2] [0, 1] rfl rfl rfl (c_t_step l g ta ab sz ln x_2 x_3 x_4 x_5 fb hln i10) (cwV 0 hts (zgL (zl4 k296 k275 k276 k277) k271) rfl rfl rfl (by decide +kernel) ⟨Nat.le_of_ble_eq_true rfl, Nat.le_of_ble_eq_true rfl⟩) rfl rfl rfl rfl (Nat.le_of_ble_eq_true rfl) dX2_readSum_137 ⟨(Nat.le_of_ble_eq_true rfl), (Nat.le_of_ble_eq_true rfl)⟩ (fun u_ H locs hq87 hP hD hS => ?_)
                  obtain ⟨kd2_84, bg2_85, nx2_86⟩ := u_
                  replace hq87 : (0 ≤ nx2_86.toInt ∧ nx2_86.toInt ≤ 400) ∧ (0 ≤ bg2_85.toInt ∧ bg2_85.toInt ≤ 400) ∧ (zKd kd2_84.toInt bg2_85.toInt nx2_86.toInt) := hq87
                  have hP : va_P g.1 vwCl (List.flatten [bLT g lt ta lo, bLaw g lo lc x_6 ll lm lg ld fc_7, bTape g ta ab sz ln kd2_84 bg2_85 nx2_86 x_5 fb]) H := hP
                  have hD : va_D A (List.flatten [bLT g lt ta lo, bLaw g lo lc x_6 ll lm lg ld fc_7, bTape g ta ab sz ln kd2_84 bg2_85 nx2_86 x_5 fb]) := hD
                  refine W.widen (k := 0) (n := 0) (Nat.le_of_ble_eq_true rfl) (Nat.le_of_ble_eq_true rfl) ?_
                  refine W.eq (g2 := F0 m 140 ls []) rfl ?_
                  obtain ⟨hq87_0, hq87_1, hq87_2⟩ := hq87
                  refine lv_aload_n hx hb dX2_readSum_140 rfl (lv_at hl 2 rfl) ?_
                  refine va_get (D := g.1) (ci := 2) (v := .ref lo) (C := RX2) (T := TX2) (N := 2) hx hb hts izRX2 hown hK hP 0 rfl rfl 1 (by decide) (hts _ k210) (fun _ h9 => h9) rfl dX2_readSum_141 ?_
                  refine lv_iload_n hx hb dX2_readSum_144 rfl (lv_at hl 1 rfl) ?_
                  refine lv_iload_n hx hb dX2_readSum_145 rfl (lv_at hl 0 rfl) ?_
                  refine mcallV' (g := g) (q0 := 0) (ci := 1) (As := [.int 5, .int 0]) (rest := []) St hK hT hA hP hD hS hl.1 [1] [0, 2] rfl rfl rfl (c_l_put l g lo lc x_6 ll lm lg ld fc_7 5 0 i12) (cwV 2 hts (zgL (zl4 k297 k298 k299 k85) k202) rfl rfl rfl (by decide +kernel) ⟨Nat.le_of_ble_eq_true rfl, Nat.le_of_ble_eq_true rfl⟩) rfl rfl rfl rfl (Nat.le_of_ble_eq_true rfl) dX2_readSum_146 ⟨(Nat.le_of_ble_eq_true rfl), (Nat.le_of_ble_eq_true rfl)⟩ (fun u_ H locs hq91 hP hD hS => ?_)
                  obtain ⟨lz2_88, fc2_89, q_90⟩ := u_
                  replace hq91 : (0 ≤ lz2_88.toInt ∧ lz2_88.toInt ≤ 400) := hq91
                  have hP : va_P g.1 vwCl (List.flatten [bLT g lt ta lo, bTape g ta ab sz ln kd2_84 bg2_85 nx2_86 x_5 fb, bLaw g lo lc lz2_88 ll lm lg ld fc2_89]) H := hP
                  have hD : va_D A (List.flatten [bLT g lt ta lo, bTape g ta ab sz ln kd2_84 bg2_85 nx2_86 x_5 fb, bLaw g lo lc lz2_88 ll lm lg ld fc2_89]) := hD
                  refine W.widen (k := 0) (n := 0) (Nat.le_of_ble_eq_true rfl) (Nat.le_of_ble_eq_true rfl) ?_
                  refine W.eq (g2 := F0 m 149 ls [.int q_90]) rfl ?_
                  refine lv_pop hx hb dX2_readSum_149 rfl ?_
                  refine lv_aload_n hx hb dX2_readSum_150 rfl (lv_at hl 2 rfl) ?_
                  refine va_get (D := g.1) (ci := 2) (v := .ref ta) (C := RX2) (T := TX2) (N := 2) hx hb hts izRX2 hown hK hP 0 rfl rfl 0 (by decide) (hts _ k290) (fun x9 h9 => u_same (hts _ k291) x9 h9) rfl dX2_readSum_151 ?_
                  refine lv_bipush (v := 43) hx hb dX2_readSum_154 (by decide) ?_
                  refine mcallV' (g := g) (q0 := 0) (ci := 6) (As := [.int 43]) (rest := []) St hK hT hA hP hD hS hl.1 [1] [0, 2] rfl rfl rfl (c_t_takeSign l g ta ab sz ln kd2_84 bg2_85 nx2_86 x_5 fb 43 hln hq87_0 hq87_1 hq87_2 i11) (cwV 1 hts (zgL (zl4 k300 k301 k302 k277) k286) rfl rfl rfl (by decide +kernel) ⟨Nat.le_of_ble_eq_true rfl, Nat.le_of_ble_eq_true rfl⟩) rfl rfl rfl rfl (Nat.le_of_ble_eq_true rfl) dX2_readSum_156 ⟨(Nat.le_of_ble_eq_true rfl), (Nat.le_of_ble_eq_true rfl)⟩ (fun u_ H locs hq96 hP hD hS => ?_)
                  obtain ⟨kd2_92, bg2_93, nx2_94, q_95⟩ := u_
                  replace hq96 : (0 ≤ nx2_94.toInt ∧ nx2_94.toInt ≤ 400) ∧ (0 ≤ bg2_93.toInt ∧ bg2_93.toInt ≤ 400) ∧ (zKd kd2_92.toInt bg2_93.toInt nx2_94.toInt) ∧ (q_95 = 0 ∨ q_95 = 1) := hq96
                  have hP : va_P g.1 vwCl (List.flatten [bLT g lt ta lo, bLaw g lo lc lz2_88 ll lm lg ld fc2_89, bTape g ta ab sz ln kd2_92 bg2_93 nx2_94 x_5 fb]) H := hP
                  have hD : va_D A (List.flatten [bLT g lt ta lo, bLaw g lo lc lz2_88 ll lm lg ld fc2_89, bTape g ta ab sz ln kd2_92 bg2_93 nx2_94 x_5 fb]) := hD
                  refine W.widen (k := 0) (n := 0) (Nat.le_of_ble_eq_true rfl) (Nat.le_of_ble_eq_true rfl) ?_
                  refine W.eq (g2 := F0 m 159 ls [.int q_95]) rfl ?_
                  obtain ⟨hq96_0, hq96_1, hq96_2, hq96_3⟩ := hq96
                  rcases hq96_3 with rfl | rfl
                  · skip
                    refine lv_if_ne (tgt := 164) hx hb dX2_readSum_159 (by decide) (fun c97 => absurd (by decide) c97) (fun _ => ?_)
                    refine lv_iconst (v := 1) hx hb dX2_readSum_162 (by decide) ?_
                    have hP : va_P g.1 vwCl (List.flatten [bLT g lt ta lo, bLaw g lo lc lz2_88 ll lm lg ld fc2_89, bTape g ta ab sz ln kd2_92 bg2_93 nx2_94 x_5 fb]) H := hP
                    have hD : va_D A (List.flatten [bLT g lt ta lo, bLaw g lo lc lz2_88 ll lm lg ld fc2_89, bTape g ta ab sz ln kd2_92 bg2_93 nx2_94 x_5 fb]) := hD
                    obtain ⟨hP, hD⟩ := zord (g := g) (Bs' := [bLT g lt ta lo, bTape g ta ab sz ln kd2_92 bg2_93 nx2_94 x_5 fb, bLaw g lo lc lz2_88 ll lm lg ld fc2_89]) [0, 2, 1] rfl rfl hP hD
                    exact mret_z hx hb hr hlocks hS (Nat.le_of_ble_eq_true rfl) (Nat.le_of_ble_eq_true rfl) dX2_readSum_163 (kd2_92, bg2_93, nx2_94, x_5, lz2_88, fc2_89, (1 : Int32)) rfl (by decide) (show (0 ≤ lz2_88.toInt ∧ lz2_88.toInt ≤ 400) ∧ (-1 ≤ x_5.toInt) ∧ (0 ≤ nx2_94.toInt ∧ nx2_94.toInt ≤ 400) ∧ (0 ≤ bg2_93.toInt ∧ bg2_93.toInt ≤ 400) ∧ (zKd kd2_92.toInt bg2_93.toInt nx2_94.toInt) ∧ (1 = 0 ∨ 1 = 1) from ⟨hq91, i11, hq96_0, hq96_1, hq96_2, (by decide)⟩) hP hD
                  · skip
                    refine lv_if_ne (tgt := 164) hx hb dX2_readSum_159 (by decide) (fun _ => ?_) (fun c98 => absurd c98 (by decide))
                    refine ziinc3 (n' := 1) (a' := 1) (b' := 400) (lv' := fun v9 => [(1, .int v9), (3, .int 0), (2, .int 5), (0, .ref lt)]) hx hb dX2_readSum_164 hl (k := 3) rfl (by decide) (fun _ => rfl) (zaddK (i := x_1.toInt) (j := 1) rfl (by decide) i8.1 n21 (Int.le_refl _) (Int.le_refl _) (by decide)) (fun x_99 ls hx_99 hl => ?_)
                    refine lv_goto (tgt := 2) hx hb dX2_readSum_167 (by decide) ?_
                    have hl := lv_sub (l' := [(0, .ref lt), (1, .int x_99), (2, .int 5), (3, .int 0)]) hl [3, 0, 2, 1] rfl
                    have hP : va_P g.1 vwCl (List.flatten [bLT g lt ta lo, bLaw g lo lc lz2_88 ll lm lg ld fc2_89, bTape g ta ab sz ln kd2_92 bg2_93 nx2_94 x_5 fb]) H := hP
                    have hD : va_D A (List.flatten [bLT g lt ta lo, bLaw g lo lc lz2_88 ll lm lg ld fc2_89, bTape g ta ab sz ln kd2_92 bg2_93 nx2_94 x_5 fb]) := hD
                    obtain ⟨hP, hD⟩ := zord (g := g) (Bs' := [bLT g lt ta lo, bTape g ta ab sz ln kd2_92 bg2_93 nx2_94 x_5 fb, bLaw g lo lc lz2_88 ll lm lg ld fc2_89]) [0, 2, 1] rfl rfl hP hD
                    have hP : va_P g.1 vwCl (List.flatten [bLT g lt ta lo, bTape g ta ab sz ln kd2_92 bg2_93 nx2_94 x_5 fb, bLaw g lo lc lz2_88 ll lm lg ld fc2_89]) H := hP
                    have hD : va_D A (List.flatten [bLT g lt ta lo, bTape g ta ab sz ln kd2_92 bg2_93 nx2_94 x_5 fb, bLaw g lo lc lz2_88 ll lm lg ld fc2_89]) := hD
                    exact ih2_15 x_99 kd2_92 bg2_93 nx2_94 x_5 lz2_88 fc2_89 ⟨(Int.le_trans (by decide) hx_99.2.1), hx_99.2.2⟩ ⟨hq96_1.1, hq96_1.2⟩ ⟨hq96_0.1, hq96_0.2⟩ i11 ⟨hq91.1, hq91.2⟩ hq96_2 H _ ls (zmK hx_99.1 (by decide) n21 (by decide) hk2_15)  hP hD hS (lv_sub hl [0, 1] rfl)
              · skip
                refine lv_if_eq (tgt := 73) hx hb dX2_readSum_66 (by decide) (fun c100 => absurd c100 (by decide)) (fun _ => ?_)
                refine lv_iconst (v := 4) hx hb dX2_readSum_69 (by decide) ?_
                refine lv_goto (tgt := 107) hx hb dX2_readSum_70 (by decide) ?_
                refine lv_istore_n (lv' := [(2, .int 4), (0, .ref lt), (1, .int x_1)]) hx hb dX2_readSum_107 rfl hl (by decide) rfl (fun ls hl => ?_)
                refine lv_iconst (v := 0) hx hb dX2_readSum_108 (by decide) ?_
                refine lv_istore_n (lv' := [(3, .int 0), (2, .int 4), (0, .ref lt), (1, .int x_1)]) hx hb dX2_readSum_109 rfl hl (by decide) rfl (fun ls hl => ?_)
                refine lv_iload_n hx hb dX2_readSum_110 rfl (lv_at hl 1 rfl) ?_
                refine lv_if_ne (tgt := 133) hx hb dX2_readSum_111 (by decide) (fun _ => ?_) (fun c101 => absurd c101 (by decide))
                refine lv_aload_n hx hb dX2_readSum_133 rfl (lv_at hl 2 rfl) ?_
                refine va_get (D := g.1) (ci := 2) (v := .ref ta) (C := RX2) (T := TX2) (N := 2) hx hb hts izRX2 hown hK hP 0 rfl rfl 0 (by decide) (hts _ k290) (fun x9 h9 => u_same (hts _ k291) x9 h9) rfl dX2_readSum_134 ?_
                refine mcallV' (g := g) (q0 := 0) (ci := 6) (As := []) (rest := []) St hK hT hA hP hD hS hl.1 [2] [0, 1] rfl rfl rfl (c_t_step l g ta ab sz ln x_2 x_3 x_4 x_5 fb hln i10) (cwV 0 hts (zgL (zl4 k296 k275 k276 k277) k271) rfl rfl rfl (by decide +kernel) ⟨Nat.le_of_ble_eq_true rfl, Nat.le_of_ble_eq_true rfl⟩) rfl rfl rfl rfl (Nat.le_of_ble_eq_true rfl) dX2_readSum_137 ⟨(Nat.le_of_ble_eq_true rfl), (Nat.le_of_ble_eq_true rfl)⟩ (fun u_ H locs hq105 hP hD hS => ?_)
                obtain ⟨kd2_102, bg2_103, nx2_104⟩ := u_
                replace hq105 : (0 ≤ nx2_104.toInt ∧ nx2_104.toInt ≤ 400) ∧ (0 ≤ bg2_103.toInt ∧ bg2_103.toInt ≤ 400) ∧ (zKd kd2_102.toInt bg2_103.toInt nx2_104.toInt) := hq105
                have hP : va_P g.1 vwCl (List.flatten [bLT g lt ta lo, bLaw g lo lc x_6 ll lm lg ld fc_7, bTape g ta ab sz ln kd2_102 bg2_103 nx2_104 x_5 fb]) H := hP
                have hD : va_D A (List.flatten [bLT g lt ta lo, bLaw g lo lc x_6 ll lm lg ld fc_7, bTape g ta ab sz ln kd2_102 bg2_103 nx2_104 x_5 fb]) := hD
                refine W.widen (k := 0) (n := 0) (Nat.le_of_ble_eq_true rfl) (Nat.le_of_ble_eq_true rfl) ?_
                refine W.eq (g2 := F0 m 140 ls []) rfl ?_
                obtain ⟨hq105_0, hq105_1, hq105_2⟩ := hq105
                refine lv_aload_n hx hb dX2_readSum_140 rfl (lv_at hl 2 rfl) ?_
                refine va_get (D := g.1) (ci := 2) (v := .ref lo) (C := RX2) (T := TX2) (N := 2) hx hb hts izRX2 hown hK hP 0 rfl rfl 1 (by decide) (hts _ k210) (fun _ h9 => h9) rfl dX2_readSum_141 ?_
                refine lv_iload_n hx hb dX2_readSum_144 rfl (lv_at hl 1 rfl) ?_
                refine lv_iload_n hx hb dX2_readSum_145 rfl (lv_at hl 0 rfl) ?_
                refine mcallV' (g := g) (q0 := 0) (ci := 1) (As := [.int 4, .int 0]) (rest := []) St hK hT hA hP hD hS hl.1 [1] [0, 2] rfl rfl rfl (c_l_put l g lo lc x_6 ll lm lg ld fc_7 4 0 i12) (cwV 2 hts (zgL (zl4 k297 k298 k299 k85) k202) rfl rfl rfl (by decide +kernel) ⟨Nat.le_of_ble_eq_true rfl, Nat.le_of_ble_eq_true rfl⟩) rfl rfl rfl rfl (Nat.le_of_ble_eq_true rfl) dX2_readSum_146 ⟨(Nat.le_of_ble_eq_true rfl), (Nat.le_of_ble_eq_true rfl)⟩ (fun u_ H locs hq109 hP hD hS => ?_)
                obtain ⟨lz2_106, fc2_107, q_108⟩ := u_
                replace hq109 : (0 ≤ lz2_106.toInt ∧ lz2_106.toInt ≤ 400) := hq109
                have hP : va_P g.1 vwCl (List.flatten [bLT g lt ta lo, bTape g ta ab sz ln kd2_102 bg2_103 nx2_104 x_5 fb, bLaw g lo lc lz2_106 ll lm lg ld fc2_107]) H := hP
                have hD : va_D A (List.flatten [bLT g lt ta lo, bTape g ta ab sz ln kd2_102 bg2_103 nx2_104 x_5 fb, bLaw g lo lc lz2_106 ll lm lg ld fc2_107]) := hD
                refine W.widen (k := 0) (n := 0) (Nat.le_of_ble_eq_true rfl) (Nat.le_of_ble_eq_true rfl) ?_
                refine W.eq (g2 := F0 m 149 ls [.int q_108]) rfl ?_
                refine lv_pop hx hb dX2_readSum_149 rfl ?_
                refine lv_aload_n hx hb dX2_readSum_150 rfl (lv_at hl 2 rfl) ?_
                refine va_get (D := g.1) (ci := 2) (v := .ref ta) (C := RX2) (T := TX2) (N := 2) hx hb hts izRX2 hown hK hP 0 rfl rfl 0 (by decide) (hts _ k290) (fun x9 h9 => u_same (hts _ k291) x9 h9) rfl dX2_readSum_151 ?_
                refine lv_bipush (v := 43) hx hb dX2_readSum_154 (by decide) ?_
                refine mcallV' (g := g) (q0 := 0) (ci := 6) (As := [.int 43]) (rest := []) St hK hT hA hP hD hS hl.1 [1] [0, 2] rfl rfl rfl (c_t_takeSign l g ta ab sz ln kd2_102 bg2_103 nx2_104 x_5 fb 43 hln hq105_0 hq105_1 hq105_2 i11) (cwV 1 hts (zgL (zl4 k300 k301 k302 k277) k286) rfl rfl rfl (by decide +kernel) ⟨Nat.le_of_ble_eq_true rfl, Nat.le_of_ble_eq_true rfl⟩) rfl rfl rfl rfl (Nat.le_of_ble_eq_true rfl) dX2_readSum_156 ⟨(Nat.le_of_ble_eq_true rfl), (Nat.le_of_ble_eq_true rfl)⟩ (fun u_ H locs hq114 hP hD hS => ?_)
                obtain ⟨kd2_110, bg2_111, nx2_112, q_113⟩ := u_
                replace hq114 : (0 ≤ nx2_112.toInt ∧ nx2_112.toInt ≤ 400) ∧ (0 ≤ bg2_111.toInt ∧ bg2_111.toInt ≤ 400) ∧ (zKd kd2_110.toInt bg2_111.toInt nx2_112.toInt) ∧ (q_113 = 0 ∨ q_113 = 1) := hq114
                have hP : va_P g.1 vwCl (List.flatten [bLT g lt ta lo, bLaw g lo lc lz2_106 ll lm lg ld fc2_107, bTape g ta ab sz ln kd2_110 bg2_111 nx2_112 x_5 fb]) H := hP
                have hD : va_D A (List.flatten [bLT g lt ta lo, bLaw g lo lc lz2_106 ll lm lg ld fc2_107, bTape g ta ab sz ln kd2_110 bg2_111 nx2_112 x_5 fb]) := hD
                refine W.widen (k := 0) (n := 0) (Nat.le_of_ble_eq_true rfl) (Nat.le_of_ble_eq_true rfl) ?_
                refine W.eq (g2 := F0 m 159 ls [.int q_113]) rfl ?_
                obtain ⟨hq114_0, hq114_1, hq114_2, hq114_3⟩ := hq114
                rcases hq114_3 with rfl | rfl
                · skip
                  refine lv_if_ne (tgt := 164) hx hb dX2_readSum_159 (by decide) (fun c115 => absurd (by decide) c115) (fun _ => ?_)
                  refine lv_iconst (v := 1) hx hb dX2_readSum_162 (by decide) ?_
                  have hP : va_P g.1 vwCl (List.flatten [bLT g lt ta lo, bLaw g lo lc lz2_106 ll lm lg ld fc2_107, bTape g ta ab sz ln kd2_110 bg2_111 nx2_112 x_5 fb]) H := hP
                  have hD : va_D A (List.flatten [bLT g lt ta lo, bLaw g lo lc lz2_106 ll lm lg ld fc2_107, bTape g ta ab sz ln kd2_110 bg2_111 nx2_112 x_5 fb]) := hD
                  obtain ⟨hP, hD⟩ := zord (g := g) (Bs' := [bLT g lt ta lo, bTape g ta ab sz ln kd2_110 bg2_111 nx2_112 x_5 fb, bLaw g lo lc lz2_106 ll lm lg ld fc2_107]) [0, 2, 1] rfl rfl hP hD
                  exact mret_z hx hb hr hlocks hS (Nat.le_of_ble_eq_true rfl) (Nat.le_of_ble_eq_true rfl) dX2_readSum_163 (kd2_110, bg2_111, nx2_112, x_5, lz2_106, fc2_107, (1 : Int32)) rfl (by decide) (show (0 ≤ lz2_106.toInt ∧ lz2_106.toInt ≤ 400) ∧ (-1 ≤ x_5.toInt) ∧ (0 ≤ nx2_112.toInt ∧ nx2_112.toInt ≤ 400) ∧ (0 ≤ bg2_111.toInt ∧ bg2_111.toInt ≤ 400) ∧ (zKd kd2_110.toInt bg2_111.toInt nx2_112.toInt) ∧ (1 = 0 ∨ 1 = 1) from ⟨hq109, i11, hq114_0, hq114_1, hq114_2, (by decide)⟩) hP hD
                · skip
                  refine lv_if_ne (tgt := 164) hx hb dX2_readSum_159 (by decide) (fun _ => ?_) (fun c116 => absurd c116 (by decide))
                  refine ziinc3 (n' := 1) (a' := 1) (b' := 400) (lv' := fun v9 => [(1, .int v9), (3, .int 0), (2, .int 4), (0, .ref lt)]) hx hb dX2_readSum_164 hl (k := 3) rfl (by decide) (fun _ => rfl) (zaddK (i := x_1.toInt) (j := 1) rfl (by decide) i8.1 n21 (Int.le_refl _) (Int.le_refl _) (by decide)) (fun x_117 ls hx_117 hl => ?_)
                  refine lv_goto (tgt := 2) hx hb dX2_readSum_167 (by decide) ?_
                  have hl := lv_sub (l' := [(0, .ref lt), (1, .int x_117), (2, .int 4), (3, .int 0)]) hl [3, 0, 2, 1] rfl
                  have hP : va_P g.1 vwCl (List.flatten [bLT g lt ta lo, bLaw g lo lc lz2_106 ll lm lg ld fc2_107, bTape g ta ab sz ln kd2_110 bg2_111 nx2_112 x_5 fb]) H := hP
                  have hD : va_D A (List.flatten [bLT g lt ta lo, bLaw g lo lc lz2_106 ll lm lg ld fc2_107, bTape g ta ab sz ln kd2_110 bg2_111 nx2_112 x_5 fb]) := hD
                  obtain ⟨hP, hD⟩ := zord (g := g) (Bs' := [bLT g lt ta lo, bTape g ta ab sz ln kd2_110 bg2_111 nx2_112 x_5 fb, bLaw g lo lc lz2_106 ll lm lg ld fc2_107]) [0, 2, 1] rfl rfl hP hD
                  have hP : va_P g.1 vwCl (List.flatten [bLT g lt ta lo, bTape g ta ab sz ln kd2_110 bg2_111 nx2_112 x_5 fb, bLaw g lo lc lz2_106 ll lm lg ld fc2_107]) H := hP
                  have hD : va_D A (List.flatten [bLT g lt ta lo, bTape g ta ab sz ln kd2_110 bg2_111 nx2_112 x_5 fb, bLaw g lo lc lz2_106 ll lm lg ld fc2_107]) := hD
                  exact ih2_15 x_117 kd2_110 bg2_111 nx2_112 x_5 lz2_106 fc2_107 ⟨(Int.le_trans (by decide) hx_117.2.1), hx_117.2.2⟩ ⟨hq114_1.1, hq114_1.2⟩ ⟨hq114_0.1, hq114_0.2⟩ i11 ⟨hq109.1, hq109.2⟩ hq114_2 H _ ls (zmK hx_117.1 (by decide) n21 (by decide) hk2_15)  hP hD hS (lv_sub hl [0, 1] rfl)
            · skip
              refine lv_if_eq (tgt := 57) hx hb dX2_readSum_50 (by decide) (fun c118 => absurd c118 (by decide)) (fun _ => ?_)
              refine lv_iconst (v := 3) hx hb dX2_readSum_53 (by decide) ?_
              refine lv_goto (tgt := 107) hx hb dX2_readSum_54 (by decide) ?_
              refine lv_istore_n (lv' := [(2, .int 3), (0, .ref lt), (1, .int x_1)]) hx hb dX2_readSum_107 rfl hl (by decide) rfl (fun ls hl => ?_)
              refine lv_iconst (v := 0) hx hb dX2_readSum_108 (by decide) ?_
              refine lv_istore_n (lv' := [(3, .int 0), (2, .int 3), (0, .ref lt), (1, .int x_1)]) hx hb dX2_readSum_109 rfl hl (by decide) rfl (fun ls hl => ?_)
              refine lv_iload_n hx hb dX2_readSum_110 rfl (lv_at hl 1 rfl) ?_
              refine lv_if_ne (tgt := 133) hx hb dX2_readSum_111 (by decide) (fun _ => ?_) (fun c119 => absurd c119 (by decide))
              refine lv_aload_n hx hb dX2_readSum_133 rfl (lv_at hl 2 rfl) ?_
              refine va_get (D := g.1) (ci := 2) (v := .ref ta) (C := RX2) (T := TX2) (N := 2) hx hb hts izRX2 hown hK hP 0 rfl rfl 0 (by decide) (hts _ k290) (fun x9 h9 => u_same (hts _ k291) x9 h9) rfl dX2_readSum_134 ?_
              refine mcallV' (g := g) (q0 := 0) (ci := 6) (As := []) (rest := []) St hK hT hA hP hD hS hl.1 [2] [0, 1] rfl rfl rfl (c_t_step l g ta ab sz ln x_2 x_3 x_4 x_5 fb hln i10) (cwV 0 hts (zgL (zl4 k296 k275 k276 k277) k271) rfl rfl rfl (by decide +kernel) ⟨Nat.le_of_ble_eq_true rfl, Nat.le_of_ble_eq_true rfl⟩) rfl rfl rfl rfl (Nat.le_of_ble_eq_true rfl) dX2_readSum_137 ⟨(Nat.le_of_ble_eq_true rfl), (Nat.le_of_ble_eq_true rfl)⟩ (fun u_ H locs hq123 hP hD hS => ?_)
              obtain ⟨kd2_120, bg2_121, nx2_122⟩ := u_
              replace hq123 : (0 ≤ nx2_122.toInt ∧ nx2_122.toInt ≤ 400) ∧ (0 ≤ bg2_121.toInt ∧ bg2_121.toInt ≤ 400) ∧ (zKd kd2_120.toInt bg2_121.toInt nx2_122.toInt) := hq123
              have hP : va_P g.1 vwCl (List.flatten [bLT g lt ta lo, bLaw g lo lc x_6 ll lm lg ld fc_7, bTape g ta ab sz ln kd2_120 bg2_121 nx2_122 x_5 fb]) H := hP
              have hD : va_D A (List.flatten [bLT g lt ta lo, bLaw g lo lc x_6 ll lm lg ld fc_7, bTape g ta ab sz ln kd2_120 bg2_121 nx2_122 x_5 fb]) := hD
              refine W.widen (k := 0) (n := 0) (Nat.le_of_ble_eq_true rfl) (Nat.le_of_ble_eq_true rfl) ?_
              refine W.eq (g2 := F0 m 140 ls []) rfl ?_
              obtain ⟨hq123_0, hq123_1, hq123_2⟩ := hq123
              refine lv_aload_n hx hb dX2_readSum_140 rfl (lv_at hl 2 rfl) ?_
              refine va_get (D := g.1) (ci := 2) (v := .ref lo) (C := RX2) (T := TX2) (N := 2) hx hb hts izRX2 hown hK hP 0 rfl rfl 1 (by decide) (hts _ k210) (fun _ h9 => h9) rfl dX2_readSum_141 ?_
              refine lv_iload_n hx hb dX2_readSum_144 rfl (lv_at hl 1 rfl) ?_
              refine lv_iload_n hx hb dX2_readSum_145 rfl (lv_at hl 0 rfl) ?_
              refine mcallV' (g := g) (q0 := 0) (ci := 1) (As := [.int 3, .int 0]) (rest := []) St hK hT hA hP hD hS hl.1 [1] [0, 2] rfl rfl rfl (c_l_put l g lo lc x_6 ll lm lg ld fc_7 3 0 i12) (cwV 2 hts (zgL (zl4 k297 k298 k299 k85) k202) rfl rfl rfl (by decide +kernel) ⟨Nat.le_of_ble_eq_true rfl, Nat.le_of_ble_eq_true rfl⟩) rfl rfl rfl rfl (Nat.le_of_ble_eq_true rfl) dX2_readSum_146 ⟨(Nat.le_of_ble_eq_true rfl), (Nat.le_of_ble_eq_true rfl)⟩ (fun u_ H locs hq127 hP hD hS => ?_)
              obtain ⟨lz2_124, fc2_125, q_126⟩ := u_
              replace hq127 : (0 ≤ lz2_124.toInt ∧ lz2_124.toInt ≤ 400) := hq127
              have hP : va_P g.1 vwCl (List.flatten [bLT g lt ta lo, bTape g ta ab sz ln kd2_120 bg2_121 nx2_122 x_5 fb, bLaw g lo lc lz2_124 ll lm lg ld fc2_125]) H := hP
              have hD : va_D A (List.flatten [bLT g lt ta lo, bTape g ta ab sz ln kd2_120 bg2_121 nx2_122 x_5 fb, bLaw g lo lc lz2_124 ll lm lg ld fc2_125]) := hD
              refine W.widen (k := 0) (n := 0) (Nat.le_of_ble_eq_true rfl) (Nat.le_of_ble_eq_true rfl) ?_
              refine W.eq (g2 := F0 m 149 ls [.int q_126]) rfl ?_
              refine lv_pop hx hb dX2_readSum_149 rfl ?_
              refine lv_aload_n hx hb dX2_readSum_150 rfl (lv_at hl 2 rfl) ?_
              refine va_get (D := g.1) (ci := 2) (v := .ref ta) (C := RX2) (T := TX2) (N := 2) hx hb hts izRX2 hown hK hP 0 rfl rfl 0 (by decide) (hts _ k290) (fun x9 h9 => u_same (hts _ k291) x9 h9) rfl dX2_readSum_151 ?_
              refine lv_bipush (v := 43) hx hb dX2_readSum_154 (by decide) ?_
              refine mcallV' (g := g) (q0 := 0) (ci := 6) (As := [.int 43]) (rest := []) St hK hT hA hP hD hS hl.1 [1] [0, 2] rfl rfl rfl (c_t_takeSign l g ta ab sz ln kd2_120 bg2_121 nx2_122 x_5 fb 43 hln hq123_0 hq123_1 hq123_2 i11) (cwV 1 hts (zgL (zl4 k300 k301 k302 k277) k286) rfl rfl rfl (by decide +kernel) ⟨Nat.le_of_ble_eq_true rfl, Nat.le_of_ble_eq_true rfl⟩) rfl rfl rfl rfl (Nat.le_of_ble_eq_true rfl) dX2_readSum_156 ⟨(Nat.le_of_ble_eq_true rfl), (Nat.le_of_ble_eq_true rfl)⟩ (fun u_ H locs hq132 hP hD hS => ?_)
              obtain ⟨kd2_128, bg2_129, nx2_130, q_131⟩ := u_
              replace hq132 : (0 ≤ nx2_130.toInt ∧ nx2_130.toInt ≤ 400) ∧ (0 ≤ bg2_129.toInt ∧ bg2_129.toInt ≤ 400) ∧ (zKd kd2_128.toInt bg2_129.toInt nx2_130.toInt) ∧ (q_131 = 0 ∨ q_131 = 1) := hq132
              have hP : va_P g.1 vwCl (List.flatten [bLT g lt ta lo, bLaw g lo lc lz2_124 ll lm lg ld fc2_125, bTape g ta ab sz ln kd2_128 bg2_129 nx2_130 x_5 fb]) H := hP
              have hD : va_D A (List.flatten [bLT g lt ta lo, bLaw g lo lc lz2_124 ll lm lg ld fc2_125, bTape g ta ab sz ln kd2_128 bg2_129 nx2_130 x_5 fb]) := hD
              refine W.widen (k := 0) (n := 0) (Nat.le_of_ble_eq_true rfl) (Nat.le_of_ble_eq_true rfl) ?_
              refine W.eq (g2 := F0 m 159 ls [.int q_131]) rfl ?_
              obtain ⟨hq132_0, hq132_1, hq132_2, hq132_3⟩ := hq132
              rcases hq132_3 with rfl | rfl
              · skip
                refine lv_if_ne (tgt := 164) hx hb dX2_readSum_159 (by decide) (fun c133 => absurd (by decide) c133) (fun _ => ?_)
                refine lv_iconst (v := 1) hx hb dX2_readSum_162 (by decide) ?_
                have hP : va_P g.1 vwCl (List.flatten [bLT g lt ta lo, bLaw g lo lc lz2_124 ll lm lg ld fc2_125, bTape g ta ab sz ln kd2_128 bg2_129 nx2_130 x_5 fb]) H := hP
                have hD : va_D A (List.flatten [bLT g lt ta lo, bLaw g lo lc lz2_124 ll lm lg ld fc2_125, bTape g ta ab sz ln kd2_128 bg2_129 nx2_130 x_5 fb]) := hD
                obtain ⟨hP, hD⟩ := zord (g := g) (Bs' := [bLT g lt ta lo, bTape g ta ab sz ln kd2_128 bg2_129 nx2_130 x_5 fb, bLaw g lo lc lz2_124 ll lm lg ld fc2_125]) [0, 2, 1] rfl rfl hP hD
                exact mret_z hx hb hr hlocks hS (Nat.le_of_ble_eq_true rfl) (Nat.le_of_ble_eq_true rfl) dX2_readSum_163 (kd2_128, bg2_129, nx2_130, x_5, lz2_124, fc2_125, (1 : Int32)) rfl (by decide) (show (0 ≤ lz2_124.toInt ∧ lz2_124.toInt ≤ 400) ∧ (-1 ≤ x_5.toInt) ∧ (0 ≤ nx2_130.toInt ∧ nx2_130.toInt ≤ 400) ∧ (0 ≤ bg2_129.toInt ∧ bg2_129.toInt ≤ 400) ∧ (zKd kd2_128.toInt bg2_129.toInt nx2_130.toInt) ∧ (1 = 0 ∨ 1 = 1) from ⟨hq127, i11, hq132_0, hq132_1, hq132_2, (by decide)⟩) hP hD
              · skip
                refine lv_if_ne (tgt := 164) hx hb dX2_readSum_159 (by decide) (fun _ => ?_) (fun c134 => absurd c134 (by decide))
                refine ziinc3 (n' := 1) (a' := 1) (b' := 400) (lv' := fun v9 => [(1, .int v9), (3, .int 0), (2, .int 3), (0, .ref lt)]) hx hb dX2_readSum_164 hl (k := 3) rfl (by decide) (fun _ => rfl) (zaddK (i := x_1.toInt) (j := 1) rfl (by decide) i8.1 n21 (Int.le_refl _) (Int.le_refl _) (by decide)) (fun x_135 ls hx_135 hl => ?_)
                refine lv_goto (tgt := 2) hx hb dX2_readSum_167 (by decide) ?_
                have hl := lv_sub (l' := [(0, .ref lt), (1, .int x_135), (2, .int 3), (3, .int 0)]) hl [3, 0, 2, 1] rfl
                have hP : va_P g.1 vwCl (List.flatten [bLT g lt ta lo, bLaw g lo lc lz2_124 ll lm lg ld fc2_125, bTape g ta ab sz ln kd2_128 bg2_129 nx2_130 x_5 fb]) H := hP
                have hD : va_D A (List.flatten [bLT g lt ta lo, bLaw g lo lc lz2_124 ll lm lg ld fc2_125, bTape g ta ab sz ln kd2_128 bg2_129 nx2_130 x_5 fb]) := hD
                obtain ⟨hP, hD⟩ := zord (g := g) (Bs' := [bLT g lt ta lo, bTape g ta ab sz ln kd2_128 bg2_129 nx2_130 x_5 fb, bLaw g lo lc lz2_124 ll lm lg ld fc2_125]) [0, 2, 1] rfl rfl hP hD
                have hP : va_P g.1 vwCl (List.flatten [bLT g lt ta lo, bTape g ta ab sz ln kd2_128 bg2_129 nx2_130 x_5 fb, bLaw g lo lc lz2_124 ll lm lg ld fc2_125]) H := hP
                have hD : va_D A (List.flatten [bLT g lt ta lo, bTape g ta ab sz ln kd2_128 bg2_129 nx2_130 x_5 fb, bLaw g lo lc lz2_124 ll lm lg ld fc2_125]) := hD
                exact ih2_15 x_135 kd2_128 bg2_129 nx2_130 x_5 lz2_124 fc2_125 ⟨(Int.le_trans (by decide) hx_135.2.1), hx_135.2.2⟩ ⟨hq132_1.1, hq132_1.2⟩ ⟨hq132_0.1, hq132_0.2⟩ i11 ⟨hq127.1, hq127.2⟩ hq132_2 H _ ls (zmK hx_135.1 (by decide) n21 (by decide) hk2_15)  hP hD hS (lv_sub hl [0, 1] rfl)
          · skip
            refine lv_if_eq (tgt := 41) hx hb dX2_readSum_34 (by decide) (fun c136 => absurd c136 (by decide)) (fun _ => ?_)
            refine lv_iconst (v := 2) hx hb dX2_readSum_37 (by decide) ?_
            refine lv_goto (tgt := 107) hx hb dX2_readSum_38 (by decide) ?_
            refine lv_istore_n (lv' := [(2, .int 2), (0, .ref lt), (1, .int x_1)]) hx hb dX2_readSum_107 rfl hl (by decide) rfl (fun ls hl => ?_)
            refine lv_iconst (v := 0) hx hb dX2_readSum_108 (by decide) ?_
            refine lv_istore_n (lv' := [(3, .int 0), (2, .int 2), (0, .ref lt), (1, .int x_1)]) hx hb dX2_readSum_109 rfl hl (by decide) rfl (fun ls hl => ?_)
            refine lv_iload_n hx hb dX2_readSum_110 rfl (lv_at hl 1 rfl) ?_
            refine lv_if_ne (tgt := 133) hx hb dX2_readSum_111 (by decide) (fun _ => ?_) (fun c137 => absurd c137 (by decide))
            refine lv_aload_n hx hb dX2_readSum_133 rfl (lv_at hl 2 rfl) ?_
            refine va_get (D := g.1) (ci := 2) (v := .ref ta) (C := RX2) (T := TX2) (N := 2) hx hb hts izRX2 hown hK hP 0 rfl rfl 0 (by decide) (hts _ k290) (fun x9 h9 => u_same (hts _ k291) x9 h9) rfl dX2_readSum_134 ?_
            refine mcallV' (g := g) (q0 := 0) (ci := 6) (As := []) (rest := []) St hK hT hA hP hD hS hl.1 [2] [0, 1] rfl rfl rfl (c_t_step l g ta ab sz ln x_2 x_3 x_4 x_5 fb hln i10) (cwV 0 hts (zgL (zl4 k296 k275 k276 k277) k271) rfl rfl rfl (by decide +kernel) ⟨Nat.le_of_ble_eq_true rfl, Nat.le_of_ble_eq_true rfl⟩) rfl rfl rfl rfl (Nat.le_of_ble_eq_true rfl) dX2_readSum_137 ⟨(Nat.le_of_ble_eq_true rfl), (Nat.le_of_ble_eq_true rfl)⟩ (fun u_ H locs hq141 hP hD hS => ?_)
            obtain ⟨kd2_138, bg2_139, nx2_140⟩ := u_
            replace hq141 : (0 ≤ nx2_140.toInt ∧ nx2_140.toInt ≤ 400) ∧ (0 ≤ bg2_139.toInt ∧ bg2_139.toInt ≤ 400) ∧ (zKd kd2_138.toInt bg2_139.toInt nx2_140.toInt) := hq141
            have hP : va_P g.1 vwCl (List.flatten [bLT g lt ta lo, bLaw g lo lc x_6 ll lm lg ld fc_7, bTape g ta ab sz ln kd2_138 bg2_139 nx2_140 x_5 fb]) H := hP
            have hD : va_D A (List.flatten [bLT g lt ta lo, bLaw g lo lc x_6 ll lm lg ld fc_7, bTape g ta ab sz ln kd2_138 bg2_139 nx2_140 x_5 fb]) := hD
            refine W.widen (k := 0) (n := 0) (Nat.le_of_ble_eq_true rfl) (Nat.le_of_ble_eq_true rfl) ?_
            refine W.eq (g2 := F0 m 140 ls []) rfl ?_
            obtain ⟨hq141_0, hq141_1, hq141_2⟩ := hq141
            refine lv_aload_n hx hb dX2_readSum_140 rfl (lv_at hl 2 rfl) ?_
            refine va_get (D := g.1) (ci := 2) (v := .ref lo) (C := RX2) (T := TX2) (N := 2) hx hb hts izRX2 hown hK hP 0 rfl rfl 1 (by decide) (hts _ k210) (fun _ h9 => h9) rfl dX2_readSum_141 ?_
            refine lv_iload_n hx hb dX2_readSum_144 rfl (lv_at hl 1 rfl) ?_
            refine lv_iload_n hx hb dX2_readSum_145 rfl (lv_at hl 0 rfl) ?_
            refine mcallV' (g := g) (q0 := 0) (ci := 1) (As := [.int 2, .int 0]) (rest := []) St hK hT hA hP hD hS hl.1 [1] [0, 2] rfl rfl rfl (c_l_put l g lo lc x_6 ll lm lg ld fc_7 2 0 i12) (cwV 2 hts (zgL (zl4 k297 k298 k299 k85) k202) rfl rfl rfl (by decide +kernel) ⟨Nat.le_of_ble_eq_true rfl, Nat.le_of_ble_eq_true rfl⟩) rfl rfl rfl rfl (Nat.le_of_ble_eq_true rfl) dX2_readSum_146 ⟨(Nat.le_of_ble_eq_true rfl), (Nat.le_of_ble_eq_true rfl)⟩ (fun u_ H locs hq145 hP hD hS => ?_)
            obtain ⟨lz2_142, fc2_143, q_144⟩ := u_
            replace hq145 : (0 ≤ lz2_142.toInt ∧ lz2_142.toInt ≤ 400) := hq145
            have hP : va_P g.1 vwCl (List.flatten [bLT g lt ta lo, bTape g ta ab sz ln kd2_138 bg2_139 nx2_140 x_5 fb, bLaw g lo lc lz2_142 ll lm lg ld fc2_143]) H := hP
            have hD : va_D A (List.flatten [bLT g lt ta lo, bTape g ta ab sz ln kd2_138 bg2_139 nx2_140 x_5 fb, bLaw g lo lc lz2_142 ll lm lg ld fc2_143]) := hD
            refine W.widen (k := 0) (n := 0) (Nat.le_of_ble_eq_true rfl) (Nat.le_of_ble_eq_true rfl) ?_
            refine W.eq (g2 := F0 m 149 ls [.int q_144]) rfl ?_
            refine lv_pop hx hb dX2_readSum_149 rfl ?_
            refine lv_aload_n hx hb dX2_readSum_150 rfl (lv_at hl 2 rfl) ?_
            refine va_get (D := g.1) (ci := 2) (v := .ref ta) (C := RX2) (T := TX2) (N := 2) hx hb hts izRX2 hown hK hP 0 rfl rfl 0 (by decide) (hts _ k290) (fun x9 h9 => u_same (hts _ k291) x9 h9) rfl dX2_readSum_151 ?_
            refine lv_bipush (v := 43) hx hb dX2_readSum_154 (by decide) ?_
            refine mcallV' (g := g) (q0 := 0) (ci := 6) (As := [.int 43]) (rest := []) St hK hT hA hP hD hS hl.1 [1] [0, 2] rfl rfl rfl (c_t_takeSign l g ta ab sz ln kd2_138 bg2_139 nx2_140 x_5 fb 43 hln hq141_0 hq141_1 hq141_2 i11) (cwV 1 hts (zgL (zl4 k300 k301 k302 k277) k286) rfl rfl rfl (by decide +kernel) ⟨Nat.le_of_ble_eq_true rfl, Nat.le_of_ble_eq_true rfl⟩) rfl rfl rfl rfl (Nat.le_of_ble_eq_true rfl) dX2_readSum_156 ⟨(Nat.le_of_ble_eq_true rfl), (Nat.le_of_ble_eq_true rfl)⟩ (fun u_ H locs hq150 hP hD hS => ?_)
            obtain ⟨kd2_146, bg2_147, nx2_148, q_149⟩ := u_
            replace hq150 : (0 ≤ nx2_148.toInt ∧ nx2_148.toInt ≤ 400) ∧ (0 ≤ bg2_147.toInt ∧ bg2_147.toInt ≤ 400) ∧ (zKd kd2_146.toInt bg2_147.toInt nx2_148.toInt) ∧ (q_149 = 0 ∨ q_149 = 1) := hq150
            have hP : va_P g.1 vwCl (List.flatten [bLT g lt ta lo, bLaw g lo lc lz2_142 ll lm lg ld fc2_143, bTape g ta ab sz ln kd2_146 bg2_147 nx2_148 x_5 fb]) H := hP
            have hD : va_D A (List.flatten [bLT g lt ta lo, bLaw g lo lc lz2_142 ll lm lg ld fc2_143, bTape g ta ab sz ln kd2_146 bg2_147 nx2_148 x_5 fb]) := hD
            refine W.widen (k := 0) (n := 0) (Nat.le_of_ble_eq_true rfl) (Nat.le_of_ble_eq_true rfl) ?_
            refine W.eq (g2 := F0 m 159 ls [.int q_149]) rfl ?_
            obtain ⟨hq150_0, hq150_1, hq150_2, hq150_3⟩ := hq150
            rcases hq150_3 with rfl | rfl
            · skip
              refine lv_if_ne (tgt := 164) hx hb dX2_readSum_159 (by decide) (fun c151 => absurd (by decide) c151) (fun _ => ?_)
              refine lv_iconst (v := 1) hx hb dX2_readSum_162 (by decide) ?_
              have hP : va_P g.1 vwCl (List.flatten [bLT g lt ta lo, bLaw g lo lc lz2_142 ll lm lg ld fc2_143, bTape g ta ab sz ln kd2_146 bg2_147 nx2_148 x_5 fb]) H := hP
              have hD : va_D A (List.flatten [bLT g lt ta lo, bLaw g lo lc lz2_142 ll lm lg ld fc2_143, bTape g ta ab sz ln kd2_146 bg2_147 nx2_148 x_5 fb]) := hD
              obtain ⟨hP, hD⟩ := zord (g := g) (Bs' := [bLT g lt ta lo, bTape g ta ab sz ln kd2_146 bg2_147 nx2_148 x_5 fb, bLaw g lo lc lz2_142 ll lm lg ld fc2_143]) [0, 2, 1] rfl rfl hP hD
              exact mret_z hx hb hr hlocks hS (Nat.le_of_ble_eq_true rfl) (Nat.le_of_ble_eq_true rfl) dX2_readSum_163 (kd2_146, bg2_147, nx2_148, x_5, lz2_142, fc2_143, (1 : Int32)) rfl (by decide) (show (0 ≤ lz2_142.toInt ∧ lz2_142.toInt ≤ 400) ∧ (-1 ≤ x_5.toInt) ∧ (0 ≤ nx2_148.toInt ∧ nx2_148.toInt ≤ 400) ∧ (0 ≤ bg2_147.toInt ∧ bg2_147.toInt ≤ 400) ∧ (zKd kd2_146.toInt bg2_147.toInt nx2_148.toInt) ∧ (1 = 0 ∨ 1 = 1) from ⟨hq145, i11, hq150_0, hq150_1, hq150_2, (by decide)⟩) hP hD
            · skip
              refine lv_if_ne (tgt := 164) hx hb dX2_readSum_159 (by decide) (fun _ => ?_) (fun c152 => absurd c152 (by decide))
              refine ziinc3 (n' := 1) (a' := 1) (b' := 400) (lv' := fun v9 => [(1, .int v9), (3, .int 0), (2, .int 2), (0, .ref lt)]) hx hb dX2_readSum_164 hl (k := 3) rfl (by decide) (fun _ => rfl) (zaddK (i := x_1.toInt) (j := 1) rfl (by decide) i8.1 n21 (Int.le_refl _) (Int.le_refl _) (by decide)) (fun x_153 ls hx_153 hl => ?_)
              refine lv_goto (tgt := 2) hx hb dX2_readSum_167 (by decide) ?_
              have hl := lv_sub (l' := [(0, .ref lt), (1, .int x_153), (2, .int 2), (3, .int 0)]) hl [3, 0, 2, 1] rfl
              have hP : va_P g.1 vwCl (List.flatten [bLT g lt ta lo, bLaw g lo lc lz2_142 ll lm lg ld fc2_143, bTape g ta ab sz ln kd2_146 bg2_147 nx2_148 x_5 fb]) H := hP
              have hD : va_D A (List.flatten [bLT g lt ta lo, bLaw g lo lc lz2_142 ll lm lg ld fc2_143, bTape g ta ab sz ln kd2_146 bg2_147 nx2_148 x_5 fb]) := hD
              obtain ⟨hP, hD⟩ := zord (g := g) (Bs' := [bLT g lt ta lo, bTape g ta ab sz ln kd2_146 bg2_147 nx2_148 x_5 fb, bLaw g lo lc lz2_142 ll lm lg ld fc2_143]) [0, 2, 1] rfl rfl hP hD
              have hP : va_P g.1 vwCl (List.flatten [bLT g lt ta lo, bTape g ta ab sz ln kd2_146 bg2_147 nx2_148 x_5 fb, bLaw g lo lc lz2_142 ll lm lg ld fc2_143]) H := hP
              have hD : va_D A (List.flatten [bLT g lt ta lo, bTape g ta ab sz ln kd2_146 bg2_147 nx2_148 x_5 fb, bLaw g lo lc lz2_142 ll lm lg ld fc2_143]) := hD
              exact ih2_15 x_153 kd2_146 bg2_147 nx2_148 x_5 lz2_142 fc2_143 ⟨(Int.le_trans (by decide) hx_153.2.1), hx_153.2.2⟩ ⟨hq150_1.1, hq150_1.2⟩ ⟨hq150_0.1, hq150_0.2⟩ i11 ⟨hq145.1, hq145.2⟩ hq150_2 H _ ls (zmK hx_153.1 (by decide) n21 (by decide) hk2_15)  hP hD hS (lv_sub hl [0, 1] rfl)
        · skip
          refine lv_if_eq (tgt := 25) hx hb dX2_readSum_18 (by decide) (fun c154 => absurd c154 (by decide)) (fun _ => ?_)
          refine lv_iconst (v := 1) hx hb dX2_readSum_21 (by decide) ?_
          refine lv_goto (tgt := 107) hx hb dX2_readSum_22 (by decide) ?_
          refine lv_istore_n (lv' := [(2, .int 1), (0, .ref lt), (1, .int x_1)]) hx hb dX2_readSum_107 rfl hl (by decide) rfl (fun ls hl => ?_)
          refine lv_iconst (v := 0) hx hb dX2_readSum_108 (by decide) ?_
          refine lv_istore_n (lv' := [(3, .int 0), (2, .int 1), (0, .ref lt), (1, .int x_1)]) hx hb dX2_readSum_109 rfl hl (by decide) rfl (fun ls hl => ?_)
          refine lv_iload_n hx hb dX2_readSum_110 rfl (lv_at hl 1 rfl) ?_
          refine lv_if_ne (tgt := 133) hx hb dX2_readSum_111 (by decide) (fun _ => ?_) (fun c155 => absurd c155 (by decide))
          refine lv_aload_n hx hb dX2_readSum_133 rfl (lv_at hl 2 rfl) ?_
          refine va_get (D := g.1) (ci := 2) (v := .ref ta) (C := RX2) (T := TX2) (N := 2) hx hb hts izRX2 hown hK hP 0 rfl rfl 0 (by decide) (hts _ k290) (fun x9 h9 => u_same (hts _ k291) x9 h9) rfl dX2_readSum_134 ?_
          refine mcallV' (g := g) (q0 := 0) (ci := 6) (As := []) (rest := []) St hK hT hA hP hD hS hl.1 [2] [0, 1] rfl rfl rfl (c_t_step l g ta ab sz ln x_2 x_3 x_4 x_5 fb hln i10) (cwV 0 hts (zgL (zl4 k296 k275 k276 k277) k271) rfl rfl rfl (by decide +kernel) ⟨Nat.le_of_ble_eq_true rfl, Nat.le_of_ble_eq_true rfl⟩) rfl rfl rfl rfl (Nat.le_of_ble_eq_true rfl) dX2_readSum_137 ⟨(Nat.le_of_ble_eq_true rfl), (Nat.le_of_ble_eq_true rfl)⟩ (fun u_ H locs hq159 hP hD hS => ?_)
          obtain ⟨kd2_156, bg2_157, nx2_158⟩ := u_
          replace hq159 : (0 ≤ nx2_158.toInt ∧ nx2_158.toInt ≤ 400) ∧ (0 ≤ bg2_157.toInt ∧ bg2_157.toInt ≤ 400) ∧ (zKd kd2_156.toInt bg2_157.toInt nx2_158.toInt) := hq159
          have hP : va_P g.1 vwCl (List.flatten [bLT g lt ta lo, bLaw g lo lc x_6 ll lm lg ld fc_7, bTape g ta ab sz ln kd2_156 bg2_157 nx2_158 x_5 fb]) H := hP
          have hD : va_D A (List.flatten [bLT g lt ta lo, bLaw g lo lc x_6 ll lm lg ld fc_7, bTape g ta ab sz ln kd2_156 bg2_157 nx2_158 x_5 fb]) := hD
          refine W.widen (k := 0) (n := 0) (Nat.le_of_ble_eq_true rfl) (Nat.le_of_ble_eq_true rfl) ?_
          refine W.eq (g2 := F0 m 140 ls []) rfl ?_
          obtain ⟨hq159_0, hq159_1, hq159_2⟩ := hq159
          refine lv_aload_n hx hb dX2_readSum_140 rfl (lv_at hl 2 rfl) ?_
          refine va_get (D := g.1) (ci := 2) (v := .ref lo) (C := RX2) (T := TX2) (N := 2) hx hb hts izRX2 hown hK hP 0 rfl rfl 1 (by decide) (hts _ k210) (fun _ h9 => h9) rfl dX2_readSum_141 ?_
          refine lv_iload_n hx hb dX2_readSum_144 rfl (lv_at hl 1 rfl) ?_
          refine lv_iload_n hx hb dX2_readSum_145 rfl (lv_at hl 0 rfl) ?_
          refine mcallV' (g := g) (q0 := 0) (ci := 1) (As := [.int 1, .int 0]) (rest := []) St hK hT hA hP hD hS hl.1 [1] [0, 2] rfl rfl rfl (c_l_put l g lo lc x_6 ll lm lg ld fc_7 1 0 i12) (cwV 2 hts (zgL (zl4 k297 k298 k299 k85) k202) rfl rfl rfl (by decide +kernel) ⟨Nat.le_of_ble_eq_true rfl, Nat.le_of_ble_eq_true rfl⟩) rfl rfl rfl rfl (Nat.le_of_ble_eq_true rfl) dX2_readSum_146 ⟨(Nat.le_of_ble_eq_true rfl), (Nat.le_of_ble_eq_true rfl)⟩ (fun u_ H locs hq163 hP hD hS => ?_)
          obtain ⟨lz2_160, fc2_161, q_162⟩ := u_
          replace hq163 : (0 ≤ lz2_160.toInt ∧ lz2_160.toInt ≤ 400) := hq163
          have hP : va_P g.1 vwCl (List.flatten [bLT g lt ta lo, bTape g ta ab sz ln kd2_156 bg2_157 nx2_158 x_5 fb, bLaw g lo lc lz2_160 ll lm lg ld fc2_161]) H := hP
          have hD : va_D A (List.flatten [bLT g lt ta lo, bTape g ta ab sz ln kd2_156 bg2_157 nx2_158 x_5 fb, bLaw g lo lc lz2_160 ll lm lg ld fc2_161]) := hD
          refine W.widen (k := 0) (n := 0) (Nat.le_of_ble_eq_true rfl) (Nat.le_of_ble_eq_true rfl) ?_
          refine W.eq (g2 := F0 m 149 ls [.int q_162]) rfl ?_
          refine lv_pop hx hb dX2_readSum_149 rfl ?_
          refine lv_aload_n hx hb dX2_readSum_150 rfl (lv_at hl 2 rfl) ?_
          refine va_get (D := g.1) (ci := 2) (v := .ref ta) (C := RX2) (T := TX2) (N := 2) hx hb hts izRX2 hown hK hP 0 rfl rfl 0 (by decide) (hts _ k290) (fun x9 h9 => u_same (hts _ k291) x9 h9) rfl dX2_readSum_151 ?_
          refine lv_bipush (v := 43) hx hb dX2_readSum_154 (by decide) ?_
          refine mcallV' (g := g) (q0 := 0) (ci := 6) (As := [.int 43]) (rest := []) St hK hT hA hP hD hS hl.1 [1] [0, 2] rfl rfl rfl (c_t_takeSign l g ta ab sz ln kd2_156 bg2_157 nx2_158 x_5 fb 43 hln hq159_0 hq159_1 hq159_2 i11) (cwV 1 hts (zgL (zl4 k300 k301 k302 k277) k286) rfl rfl rfl (by decide +kernel) ⟨Nat.le_of_ble_eq_true rfl, Nat.le_of_ble_eq_true rfl⟩) rfl rfl rfl rfl (Nat.le_of_ble_eq_true rfl) dX2_readSum_156 ⟨(Nat.le_of_ble_eq_true rfl), (Nat.le_of_ble_eq_true rfl)⟩ (fun u_ H locs hq168 hP hD hS => ?_)
          obtain ⟨kd2_164, bg2_165, nx2_166, q_167⟩ := u_
          replace hq168 : (0 ≤ nx2_166.toInt ∧ nx2_166.toInt ≤ 400) ∧ (0 ≤ bg2_165.toInt ∧ bg2_165.toInt ≤ 400) ∧ (zKd kd2_164.toInt bg2_165.toInt nx2_166.toInt) ∧ (q_167 = 0 ∨ q_167 = 1) := hq168
          have hP : va_P g.1 vwCl (List.flatten [bLT g lt ta lo, bLaw g lo lc lz2_160 ll lm lg ld fc2_161, bTape g ta ab sz ln kd2_164 bg2_165 nx2_166 x_5 fb]) H := hP
          have hD : va_D A (List.flatten [bLT g lt ta lo, bLaw g lo lc lz2_160 ll lm lg ld fc2_161, bTape g ta ab sz ln kd2_164 bg2_165 nx2_166 x_5 fb]) := hD
          refine W.widen (k := 0) (n := 0) (Nat.le_of_ble_eq_true rfl) (Nat.le_of_ble_eq_true rfl) ?_
          refine W.eq (g2 := F0 m 159 ls [.int q_167]) rfl ?_
          obtain ⟨hq168_0, hq168_1, hq168_2, hq168_3⟩ := hq168
          rcases hq168_3 with rfl | rfl
          · skip
            refine lv_if_ne (tgt := 164) hx hb dX2_readSum_159 (by decide) (fun c169 => absurd (by decide) c169) (fun _ => ?_)
            refine lv_iconst (v := 1) hx hb dX2_readSum_162 (by decide) ?_
            have hP : va_P g.1 vwCl (List.flatten [bLT g lt ta lo, bLaw g lo lc lz2_160 ll lm lg ld fc2_161, bTape g ta ab sz ln kd2_164 bg2_165 nx2_166 x_5 fb]) H := hP
            have hD : va_D A (List.flatten [bLT g lt ta lo, bLaw g lo lc lz2_160 ll lm lg ld fc2_161, bTape g ta ab sz ln kd2_164 bg2_165 nx2_166 x_5 fb]) := hD
            obtain ⟨hP, hD⟩ := zord (g := g) (Bs' := [bLT g lt ta lo, bTape g ta ab sz ln kd2_164 bg2_165 nx2_166 x_5 fb, bLaw g lo lc lz2_160 ll lm lg ld fc2_161]) [0, 2, 1] rfl rfl hP hD
            exact mret_z hx hb hr hlocks hS (Nat.le_of_ble_eq_true rfl) (Nat.le_of_ble_eq_true rfl) dX2_readSum_163 (kd2_164, bg2_165, nx2_166, x_5, lz2_160, fc2_161, (1 : Int32)) rfl (by decide) (show (0 ≤ lz2_160.toInt ∧ lz2_160.toInt ≤ 400) ∧ (-1 ≤ x_5.toInt) ∧ (0 ≤ nx2_166.toInt ∧ nx2_166.toInt ≤ 400) ∧ (0 ≤ bg2_165.toInt ∧ bg2_165.toInt ≤ 400) ∧ (zKd kd2_164.toInt bg2_165.toInt nx2_166.toInt) ∧ (1 = 0 ∨ 1 = 1) from ⟨hq163, i11, hq168_0, hq168_1, hq168_2, (by decide)⟩) hP hD
          · skip
            refine lv_if_ne (tgt := 164) hx hb dX2_readSum_159 (by decide) (fun _ => ?_) (fun c170 => absurd c170 (by decide))
            refine ziinc3 (n' := 1) (a' := 1) (b' := 400) (lv' := fun v9 => [(1, .int v9), (3, .int 0), (2, .int 1), (0, .ref lt)]) hx hb dX2_readSum_164 hl (k := 3) rfl (by decide) (fun _ => rfl) (zaddK (i := x_1.toInt) (j := 1) rfl (by decide) i8.1 n21 (Int.le_refl _) (Int.le_refl _) (by decide)) (fun x_171 ls hx_171 hl => ?_)
            refine lv_goto (tgt := 2) hx hb dX2_readSum_167 (by decide) ?_
            have hl := lv_sub (l' := [(0, .ref lt), (1, .int x_171), (2, .int 1), (3, .int 0)]) hl [3, 0, 2, 1] rfl
            have hP : va_P g.1 vwCl (List.flatten [bLT g lt ta lo, bLaw g lo lc lz2_160 ll lm lg ld fc2_161, bTape g ta ab sz ln kd2_164 bg2_165 nx2_166 x_5 fb]) H := hP
            have hD : va_D A (List.flatten [bLT g lt ta lo, bLaw g lo lc lz2_160 ll lm lg ld fc2_161, bTape g ta ab sz ln kd2_164 bg2_165 nx2_166 x_5 fb]) := hD
            obtain ⟨hP, hD⟩ := zord (g := g) (Bs' := [bLT g lt ta lo, bTape g ta ab sz ln kd2_164 bg2_165 nx2_166 x_5 fb, bLaw g lo lc lz2_160 ll lm lg ld fc2_161]) [0, 2, 1] rfl rfl hP hD
            have hP : va_P g.1 vwCl (List.flatten [bLT g lt ta lo, bTape g ta ab sz ln kd2_164 bg2_165 nx2_166 x_5 fb, bLaw g lo lc lz2_160 ll lm lg ld fc2_161]) H := hP
            have hD : va_D A (List.flatten [bLT g lt ta lo, bTape g ta ab sz ln kd2_164 bg2_165 nx2_166 x_5 fb, bLaw g lo lc lz2_160 ll lm lg ld fc2_161]) := hD
            exact ih2_15 x_171 kd2_164 bg2_165 nx2_166 x_5 lz2_160 fc2_161 ⟨(Int.le_trans (by decide) hx_171.2.1), hx_171.2.2⟩ ⟨hq168_1.1, hq168_1.2⟩ ⟨hq168_0.1, hq168_0.2⟩ i11 ⟨hq163.1, hq163.2⟩ hq168_2 H _ ls (zmK hx_171.1 (by decide) n21 (by decide) hk2_15)  hP hD hS (lv_sub hl [0, 1] rfl)
  have hL0 : (0 : Int32).toInt = 0 := by decide
  have hP : va_P g.1 vwCl (List.flatten [bLT g lt ta lo, bTape g ta ab sz ln kd bg nx ft fb, bLaw g lo lc lz ll lm lg ld fc]) s.heap := hP
  have hD : va_D A (List.flatten [bLT g lt ta lo, bTape g ta ab sz ln kd bg nx ft fb, bLaw g lo lc lz ll lm lg ld fc]) := hD
  exact LP2_14 _ 0 kd bg nx ft lz fc (by decide) ⟨hbg.1, hbg.2⟩ ⟨hnx.1, hnx.2⟩ (by first | omega | assumption | decide) ⟨b_lz.1, b_lz.2⟩ hkd s.heap _ ls (Nat.lt_succ_self _)  hP hD hS (lv_sub hl [0, 1] rfl)
