set_option maxRecDepth 100000 in
set_option maxHeartbeats 4000000 in
theorem c_lt_readSum (l : Launch) (g : zG) (lt : Nat) (ta : Nat) (lo : Nat) (ab : Nat) (sz : Int32) (ln : Int32) (kd : Int32) (bg : Int32) (nx : Int32) (ft : Int32) (fb : Nat → Int32) (lc : Nat) (lz : Int32) (ll : Int32) (lm : Int32) (lg : Int32) (ld : Int32) (fc : Nat → Int32) (b_lz : 0 ≤ lz.toInt ∧ lz.toInt ≤ 400) (hln : 0 ≤ ln.toInt ∧ ln.toInt ≤ 400) (hnx : 0 ≤ nx.toInt ∧ nx.toInt ≤ 400) (hbg : 0 ≤ bg.toInt ∧ bg.toInt ≤ 400) (hkd : zKd kd.toInt bg.toInt nx.toInt) (hft : -1 ≤ ft.toInt) : zM' g l yX2_readSum (Cond.code yX2_readSum cX2_readSum 4 (some .boolean) :: zB) ({ frames := 5, cells := 0, slots := 0, locals := 107 } : Room) [.ref lt] [bLT g lt ta lo, bTape g ta ab sz ln kd bg nx ft fb, bLaw g lo lc lz ll lm lg ld fc] (fun u : Int32 × Int32 × Int32 × Int32 × Int32 × (Nat → Int32) × Int32 => (fun (kd2 : Int32) (bg2 : Int32) (nx2 : Int32) (ft2 : Int32) (lz2 : Int32) (fc2 : Nat → Int32) (q : Int32) => some (.int q)) (u.1) (u.2.1) (u.2.2.1) (u.2.2.2.1) (u.2.2.2.2.1) (u.2.2.2.2.2.1) (u.2.2.2.2.2.2)) (fun u : Int32 × Int32 × Int32 × Int32 × Int32 × (Nat → Int32) × Int32 => (fun (kd2 : Int32) (bg2 : Int32) (nx2 : Int32) (ft2 : Int32) (lz2 : Int32) (fc2 : Nat → Int32) (q : Int32) => (0 ≤ lz2.toInt ∧ lz2.toInt ≤ 400) ∧ (-1 ≤ ft2.toInt) ∧ (0 ≤ nx2.toInt ∧ nx2.toInt ≤ 400) ∧ (0 ≤ bg2.toInt ∧ bg2.toInt ≤ 400) ∧ (zKd kd2.toInt bg2.toInt nx2.toInt) ∧ (q = 0 ∨ q = 1)) (u.1) (u.2.1) (u.2.2.1) (u.2.2.2.1) (u.2.2.2.2.1) (u.2.2.2.2.2.1) (u.2.2.2.2.2.2)) (fun u : Int32 × Int32 × Int32 × Int32 × Int32 × (Nat → Int32) × Int32 => (fun (kd2 : Int32) (bg2 : Int32) (nx2 : Int32) (ft2 : Int32) (lz2 : Int32) (fc2 : Nat → Int32) (q : Int32) => [bLT g lt ta lo, bTape g ta ab sz ln kd2 bg2 nx2 ft2 fb, bLaw g lo lc lz2 ll lm lg ld fc2]) (u.1) (u.2.1) (u.2.2.1) (u.2.2.2.1) (u.2.2.2.2.1) (u.2.2.2.2.2.1) (u.2.2.2.2.2.2)) := by
  refine zM'.of (cc := cX2_readSum) (maxL := 4) (rt := (some .boolean)) (by decide) rfl (Nat.le_of_ble_eq_true rfl) ?_
  intro p e s m args below meth c A ls St hr hlocks hin hK hT hA hP hD hS hl
  obtain ⟨hx, hb, hml, hown, hts⟩ := id St
  have hl : lv_has ls 4 [(0, .ref lt)] := hl
  refine lv_iconst (v := 0) hx hb dX2_readSum_0 (by decide) ?_
  refine lv_istore_n (lv' := [(1, .int 0), (0, .ref lt)]) hx hb dX2_readSum_1 rfl hl (by decide) rfl (fun ls hl => ?_)
  have hl := lv_sub (l' := [(0, .ref lt), (1, .int 0)]) hl [1, 0] rfl
  have LP2_13 : ∀ (kf : Nat) (x_1 : Int32) (x_2 : Int32) (x_3 : Int32) (x_4 : Int32) (x_5 : Int32) (x_6 : Int32) (fc_7 : Nat → Int32), (0 ≤ x_1.toInt ∧ x_1.toInt ≤ 400) → (0 ≤ x_3.toInt ∧ x_3.toInt ≤ 400) → (0 ≤ x_4.toInt ∧ x_4.toInt ≤ 400) → ((-1) ≤ x_5.toInt) → (0 ≤ x_6.toInt ∧ x_6.toInt ≤ 400) → ∀ (H : Heap) (locs : List Loc) (ls : Array Slot), ((401 - x_1.toInt).toNat) < kf → va_P g.1 vwCl (List.flatten [bLT g lt ta lo, bTape g ta ab sz ln x_2 x_3 x_4 x_5 fb, bLaw g lo lc x_6 ll lm lg ld fc_7]) H → va_D A (List.flatten [bLT g lt ta lo, bTape g ta ab sz ln x_2 x_3 x_4 x_5 fb, bLaw g lo lc x_6 ll lm lg ld fc_7]) → va_S A s.heap H locs → lv_has ls 4 [(0, .ref lt), (1, .int x_1)] → W p l e ({ frames := 5, cells := 0, slots := 0, locals := 107 } : Room) s m args below meth c H locs (0) (0) (zF g (fun u : Int32 × Int32 × Int32 × Int32 × Int32 × (Nat → Int32) × Int32 => (fun (kd2 : Int32) (bg2 : Int32) (nx2 : Int32) (ft2 : Int32) (lz2 : Int32) (fc2 : Nat → Int32) (q : Int32) => some (.int q)) (u.1) (u.2.1) (u.2.2.1) (u.2.2.2.1) (u.2.2.2.2.1) (u.2.2.2.2.2.1) (u.2.2.2.2.2.2)) (fun u : Int32 × Int32 × Int32 × Int32 × Int32 × (Nat → Int32) × Int32 => (fun (kd2 : Int32) (bg2 : Int32) (nx2 : Int32) (ft2 : Int32) (lz2 : Int32) (fc2 : Nat → Int32) (q : Int32) => (0 ≤ lz2.toInt ∧ lz2.toInt ≤ 400) ∧ (-1 ≤ ft2.toInt) ∧ (0 ≤ nx2.toInt ∧ nx2.toInt ≤ 400) ∧ (0 ≤ bg2.toInt ∧ bg2.toInt ≤ 400) ∧ (zKd kd2.toInt bg2.toInt nx2.toInt) ∧ (q = 0 ∨ q = 1)) (u.1) (u.2.1) (u.2.2.1) (u.2.2.2.1) (u.2.2.2.2.1) (u.2.2.2.2.2.1) (u.2.2.2.2.2.2)) (fun u : Int32 × Int32 × Int32 × Int32 × Int32 × (Nat → Int32) × Int32 => (fun (kd2 : Int32) (bg2 : Int32) (nx2 : Int32) (ft2 : Int32) (lz2 : Int32) (fc2 : Nat → Int32) (q : Int32) => [bLT g lt ta lo, bTape g ta ab sz ln kd2 bg2 nx2 ft2 fb, bLaw g lo lc lz2 ll lm lg ld fc2]) (u.1) (u.2.1) (u.2.2.1) (u.2.2.2.1) (u.2.2.2.2.1) (u.2.2.2.2.2.1) (u.2.2.2.2.2.2)) ({ frames := 5, cells := 0, slots := 0, locals := 107 } : Room) below args s A) (F0 m 2 ls []) := by
    intro kf
    induction kf with
    | zero => intro x_1 x_2 x_3 x_4 x_5 x_6 fc_7 i8 i9 i10 i11 i12 H locs ls hk; exact absurd hk (Nat.not_lt_zero _)
    | succ kf ih2_14 =>
      intro x_1 x_2 x_3 x_4 x_5 x_6 fc_7 i8 i9 i10 i11 i12 H locs ls hk2_14 hP hD hS hl
      refine lv_iload_n hx hb dX2_readSum_2 rfl (lv_at hl 1 rfl) ?_
      refine lv_sipush (v := 400) hx hb dX2_readSum_3 (by decide) ?_
      refine lv_icmp_ge (tgt := 170) hx hb dX2_readSum_6 (by decide) (fun cb9 => ?_) (fun cb9 => ?_)
      · skip
        have c15 : 400 ≤ x_1.toInt := zle cb9 (by decide) rfl
        have n16 : 400 ≤ x_1.toInt := Int.le_trans (Int.le_refl _) c15
        refine lv_aload_n hx hb dX2_readSum_170 rfl (lv_at hl 0 rfl) ?_
        refine va_get (D := g.1) (ci := 2) (v := .ref ta) (C := RX2) (T := TX2) (N := 2) hx hb hts izRX2 hown hK hP 0 rfl rfl 0 (by decide) (hts _ k290) (fun x9 h9 => u_same (hts _ k291) x9 h9) rfl dX2_readSum_171 ?_
        refine mcallV' (g := g) (q0 := 0) (ci := 6) (As := []) (rest := []) St hK hT hA hP hD hS hl.1 [1] [0, 2] rfl rfl rfl (c_t_refuse l g ta ab sz ln x_2 x_3 x_4 x_5 fb (⟨hln.1, hln.2⟩) (⟨i10.1, i10.2⟩) (⟨i9.1, i9.2⟩) (by first | assumption | omega | decide | exact Or.inl (by decide) | exact Or.inr (by decide)) i11) (cwV 0 hts (zgL (zl4 k303 k279 k280 k277) k269) rfl rfl rfl (by decide +kernel) ⟨Nat.le_of_ble_eq_true rfl, Nat.le_of_ble_eq_true rfl⟩) rfl rfl rfl rfl (Nat.le_of_ble_eq_true rfl) dX2_readSum_174 ⟨(Nat.le_of_ble_eq_true rfl), (Nat.le_of_ble_eq_true rfl)⟩ (fun ft2_17 H locs hq18 hP hD hS => ?_)
        replace hq18 : (-1 ≤ ft2_17.toInt) := hq18
        have hP : va_P g.1 vwCl (List.flatten [bLT g lt ta lo, bLaw g lo lc x_6 ll lm lg ld fc_7, bTape g ta ab sz ln x_2 x_3 x_4 ft2_17 fb]) H := hP
        have hD : va_D A (List.flatten [bLT g lt ta lo, bLaw g lo lc x_6 ll lm lg ld fc_7, bTape g ta ab sz ln x_2 x_3 x_4 ft2_17 fb]) := hD
        refine W.widen (k := 0) (n := 0) (Nat.le_of_ble_eq_true rfl) (Nat.le_of_ble_eq_true rfl) ?_
        refine W.eq (g2 := F0 m 177 ls [.int 0]) rfl ?_
        have hP : va_P g.1 vwCl (List.flatten [bLT g lt ta lo, bLaw g lo lc x_6 ll lm lg ld fc_7, bTape g ta ab sz ln x_2 x_3 x_4 ft2_17 fb]) H := hP
        have hD : va_D A (List.flatten [bLT g lt ta lo, bLaw g lo lc x_6 ll lm lg ld fc_7, bTape g ta ab sz ln x_2 x_3 x_4 ft2_17 fb]) := hD
        obtain ⟨hP, hD⟩ := zord (g := g) (Bs' := [bLT g lt ta lo, bTape g ta ab sz ln x_2 x_3 x_4 ft2_17 fb, bLaw g lo lc x_6 ll lm lg ld fc_7]) [0, 2, 1] rfl rfl hP hD
        exact mret_z hx hb hr hlocks hS (Nat.le_of_ble_eq_true rfl) (Nat.le_of_ble_eq_true rfl) dX2_readSum_177 (x_2, x_3, x_4, ft2_17, x_6, fc_7, (0 : Int32)) rfl (by decide) (show (0 ≤ x_6.toInt ∧ x_6.toInt ≤ 400) ∧ (-1 ≤ ft2_17.toInt) ∧ (0 ≤ x_4.toInt ∧ x_4.toInt ≤ 400) ∧ (0 ≤ x_3.toInt ∧ x_3.toInt ≤ 400) ∧ (zKd x_2.toInt x_3.toInt x_4.toInt) ∧ (0 = 0 ∨ 0 = 1) from ⟨(by first | assumption | omega | decide | exact rfl | exact zb01 (by omega) | exact Or.inl (by decide) | exact Or.inr (by first | omega | decide)), (by first | assumption | omega | decide | exact rfl | exact zb01 (by omega) | exact Or.inl (by decide) | exact Or.inr (by first | omega | decide)), (by first | assumption | omega | decide | exact rfl | exact zb01 (by omega) | exact Or.inl (by decide) | exact Or.inr (by first | omega | decide)), (by first | assumption | omega | decide | exact rfl | exact zb01 (by omega) | exact Or.inl (by decide) | exact Or.inr (by first | omega | decide)), (by first | assumption | omega | decide | exact rfl | exact zb01 (by omega) | exact Or.inl (by decide) | exact Or.inr (by first | omega | decide)), (by first | assumption | omega | decide | exact rfl | exact zb01 (by omega) | exact Or.inl (by decide) | exact Or.inr (by first | omega | decide))⟩) hP hD
      · skip
        have c19 : x_1.toInt < 400 := zlti (Int32.not_le.mp cb9) rfl (by decide)
        have n20 : x_1.toInt ≤ 399 := zL1 (b := 400) c19 (Int.le_refl _) (by decide)
        refine lv_aload_n hx hb dX2_readSum_9 rfl (lv_at hl 0 rfl) ?_
        refine va_get (D := g.1) (ci := 2) (v := .ref ta) (C := RX2) (T := TX2) (N := 2) hx hb hts izRX2 hown hK hP 0 rfl rfl 0 (by decide) (hts _ k290) (fun x9 h9 => u_same (hts _ k291) x9 h9) rfl dX2_readSum_10 ?_
        refine va_ldcS (q := g.2 26) hx hb hown (zra8 hT.2.1) dX2_readSum_13 ?_
        refine mcallV' (g := g) (q0 := 0) (ci := 6) (As := [.ref (g.2 26)]) (rest := []) St hK hT hA hP hD hS hl.1 [1] [0, 2] rfl rfl rfl (c_t_isWord l g ta ab sz ln x_2 x_3 x_4 x_5 fb (g.2 26) 8 zqa8 (⟨hln.1, hln.2⟩) (⟨i10.1, i10.2⟩) (⟨i9.1, i9.2⟩) (by first | assumption | omega | decide | exact Or.inl (by decide) | exact Or.inr (by decide)) i11 rfl zla8 zna8) (cwV 1 hts (zgL (zl4 k292 k282 k283 k277) k268) rfl rfl rfl (by decide +kernel) ⟨Nat.le_of_ble_eq_true rfl, Nat.le_of_ble_eq_true rfl⟩) rfl rfl rfl rfl (Nat.le_of_ble_eq_true rfl) dX2_readSum_15 ⟨(Nat.le_of_ble_eq_true rfl), (Nat.le_of_ble_eq_true rfl)⟩ (fun r_21 H locs hq22 hP hD hS => ?_)
        replace hq22 : (r_21 = 0 ∨ r_21 = 1) := hq22
        have hP : va_P g.1 vwCl (List.flatten [bLT g lt ta lo, bLaw g lo lc x_6 ll lm lg ld fc_7, bTape g ta ab sz ln x_2 x_3 x_4 x_5 fb]) H := hP
        have hD : va_D A (List.flatten [bLT g lt ta lo, bLaw g lo lc x_6 ll lm lg ld fc_7, bTape g ta ab sz ln x_2 x_3 x_4 x_5 fb]) := hD
        refine W.widen (k := 0) (n := 0) (Nat.le_of_ble_eq_true rfl) (Nat.le_of_ble_eq_true rfl) ?_
        refine W.eq (g2 := F0 m 18 ls [.int r_21]) rfl ?_
        rcases hq22 with rfl | rfl
        · skip
          refine lv_if_eq (tgt := 25) hx hb dX2_readSum_18 (by decide) (fun _ => ?_) (fun c23 => absurd (by decide) c23)
          refine lv_aload_n hx hb dX2_readSum_25 rfl (lv_at hl 0 rfl) ?_
          refine va_get (D := g.1) (ci := 2) (v := .ref ta) (C := RX2) (T := TX2) (N := 2) hx hb hts izRX2 hown hK hP 0 rfl rfl 0 (by decide) (hts _ k290) (fun x9 h9 => u_same (hts _ k291) x9 h9) rfl dX2_readSum_26 ?_
          refine va_ldcS (q := g.2 28) hx hb hown (zra9 hT.2.1) dX2_readSum_29 ?_
          refine mcallV' (g := g) (q0 := 0) (ci := 6) (As := [.ref (g.2 28)]) (rest := []) St hK hT hA hP hD hS hl.1 [2] [0, 1] rfl rfl rfl (c_t_isWord l g ta ab sz ln x_2 x_3 x_4 x_5 fb (g.2 28) 9 zqa9 (⟨hln.1, hln.2⟩) (⟨i10.1, i10.2⟩) (⟨i9.1, i9.2⟩) (by first | assumption | omega | decide | exact Or.inl (by decide) | exact Or.inr (by decide)) i11 rfl zla9 zna9) (cwV 1 hts (zgL (zl4 k292 k282 k283 k277) k268) rfl rfl rfl (by decide +kernel) ⟨Nat.le_of_ble_eq_true rfl, Nat.le_of_ble_eq_true rfl⟩) rfl rfl rfl rfl (Nat.le_of_ble_eq_true rfl) dX2_readSum_31 ⟨(Nat.le_of_ble_eq_true rfl), (Nat.le_of_ble_eq_true rfl)⟩ (fun r_24 H locs hq25 hP hD hS => ?_)
          replace hq25 : (r_24 = 0 ∨ r_24 = 1) := hq25
          have hP : va_P g.1 vwCl (List.flatten [bLT g lt ta lo, bLaw g lo lc x_6 ll lm lg ld fc_7, bTape g ta ab sz ln x_2 x_3 x_4 x_5 fb]) H := hP
          have hD : va_D A (List.flatten [bLT g lt ta lo, bLaw g lo lc x_6 ll lm lg ld fc_7, bTape g ta ab sz ln x_2 x_3 x_4 x_5 fb]) := hD
          refine W.widen (k := 0) (n := 0) (Nat.le_of_ble_eq_true rfl) (Nat.le_of_ble_eq_true rfl) ?_
          refine W.eq (g2 := F0 m 34 ls [.int r_24]) rfl ?_
          rcases hq25 with rfl | rfl
          · skip
            refine lv_if_eq (tgt := 41) hx hb dX2_readSum_34 (by decide) (fun _ => ?_) (fun c26 => absurd (by decide) c26)
            refine lv_aload_n hx hb dX2_readSum_41 rfl (lv_at hl 0 rfl) ?_
            refine va_get (D := g.1) (ci := 2) (v := .ref ta) (C := RX2) (T := TX2) (N := 2) hx hb hts izRX2 hown hK hP 0 rfl rfl 0 (by decide) (hts _ k290) (fun x9 h9 => u_same (hts _ k291) x9 h9) rfl dX2_readSum_42 ?_
            refine va_ldcS (q := g.2 30) hx hb hown (zra10 hT.2.1) dX2_readSum_45 ?_
            refine mcallV' (g := g) (q0 := 0) (ci := 6) (As := [.ref (g.2 30)]) (rest := []) St hK hT hA hP hD hS hl.1 [2] [0, 1] rfl rfl rfl (c_t_isWord l g ta ab sz ln x_2 x_3 x_4 x_5 fb (g.2 30) 10 zqa10 (⟨hln.1, hln.2⟩) (⟨i10.1, i10.2⟩) (⟨i9.1, i9.2⟩) (by first | assumption | omega | decide | exact Or.inl (by decide) | exact Or.inr (by decide)) i11 rfl zla10 zna10) (cwV 1 hts (zgL (zl4 k292 k282 k283 k277) k268) rfl rfl rfl (by decide +kernel) ⟨Nat.le_of_ble_eq_true rfl, Nat.le_of_ble_eq_true rfl⟩) rfl rfl rfl rfl (Nat.le_of_ble_eq_true rfl) dX2_readSum_47 ⟨(Nat.le_of_ble_eq_true rfl), (Nat.le_of_ble_eq_true rfl)⟩ (fun r_27 H locs hq28 hP hD hS => ?_)
            replace hq28 : (r_27 = 0 ∨ r_27 = 1) := hq28
            have hP : va_P g.1 vwCl (List.flatten [bLT g lt ta lo, bLaw g lo lc x_6 ll lm lg ld fc_7, bTape g ta ab sz ln x_2 x_3 x_4 x_5 fb]) H := hP
            have hD : va_D A (List.flatten [bLT g lt ta lo, bLaw g lo lc x_6 ll lm lg ld fc_7, bTape g ta ab sz ln x_2 x_3 x_4 x_5 fb]) := hD
            refine W.widen (k := 0) (n := 0) (Nat.le_of_ble_eq_true rfl) (Nat.le_of_ble_eq_true rfl) ?_
            refine W.eq (g2 := F0 m 50 ls [.int r_27]) rfl ?_
            rcases hq28 with rfl | rfl
            · skip
              refine lv_if_eq (tgt := 57) hx hb dX2_readSum_50 (by decide) (fun _ => ?_) (fun c29 => absurd (by decide) c29)
              refine lv_aload_n hx hb dX2_readSum_57 rfl (lv_at hl 0 rfl) ?_
              refine va_get (D := g.1) (ci := 2) (v := .ref ta) (C := RX2) (T := TX2) (N := 2) hx hb hts izRX2 hown hK hP 0 rfl rfl 0 (by decide) (hts _ k290) (fun x9 h9 => u_same (hts _ k291) x9 h9) rfl dX2_readSum_58 ?_
              refine va_ldcS (q := g.2 32) hx hb hown (zra11 hT.2.1) dX2_readSum_61 ?_
              refine mcallV' (g := g) (q0 := 0) (ci := 6) (As := [.ref (g.2 32)]) (rest := []) St hK hT hA hP hD hS hl.1 [2] [0, 1] rfl rfl rfl (c_t_isWord l g ta ab sz ln x_2 x_3 x_4 x_5 fb (g.2 32) 11 zqa11 (⟨hln.1, hln.2⟩) (⟨i10.1, i10.2⟩) (⟨i9.1, i9.2⟩) (by first | assumption | omega | decide | exact Or.inl (by decide) | exact Or.inr (by decide)) i11 rfl zla11 zna11) (cwV 1 hts (zgL (zl4 k292 k282 k283 k277) k268) rfl rfl rfl (by decide +kernel) ⟨Nat.le_of_ble_eq_true rfl, Nat.le_of_ble_eq_true rfl⟩) rfl rfl rfl rfl (Nat.le_of_ble_eq_true rfl) dX2_readSum_63 ⟨(Nat.le_of_ble_eq_true rfl), (Nat.le_of_ble_eq_true rfl)⟩ (fun r_30 H locs hq31 hP hD hS => ?_)
              replace hq31 : (r_30 = 0 ∨ r_30 = 1) := hq31
              have hP : va_P g.1 vwCl (List.flatten [bLT g lt ta lo, bLaw g lo lc x_6 ll lm lg ld fc_7, bTape g ta ab sz ln x_2 x_3 x_4 x_5 fb]) H := hP
              have hD : va_D A (List.flatten [bLT g lt ta lo, bLaw g lo lc x_6 ll lm lg ld fc_7, bTape g ta ab sz ln x_2 x_3 x_4 x_5 fb]) := hD
              refine W.widen (k := 0) (n := 0) (Nat.le_of_ble_eq_true rfl) (Nat.le_of_ble_eq_true rfl) ?_
              refine W.eq (g2 := F0 m 66 ls [.int r_30]) rfl ?_
              rcases hq31 with rfl | rfl
              · skip
                refine lv_if_eq (tgt := 73) hx hb dX2_readSum_66 (by decide) (fun _ => ?_) (fun c32 => absurd (by decide) c32)
                refine lv_aload_n hx hb dX2_readSum_73 rfl (lv_at hl 0 rfl) ?_
                refine va_get (D := g.1) (ci := 2) (v := .ref ta) (C := RX2) (T := TX2) (N := 2) hx hb hts izRX2 hown hK hP 0 rfl rfl 0 (by decide) (hts _ k290) (fun x9 h9 => u_same (hts _ k291) x9 h9) rfl dX2_readSum_74 ?_
                refine va_ldcS (q := g.2 34) hx hb hown (zra12 hT.2.1) dX2_readSum_77 ?_
                refine mcallV' (g := g) (q0 := 0) (ci := 6) (As := [.ref (g.2 34)]) (rest := []) St hK hT hA hP hD hS hl.1 [2] [0, 1] rfl rfl rfl (c_t_isWord l g ta ab sz ln x_2 x_3 x_4 x_5 fb (g.2 34) 12 zqa12 (⟨hln.1, hln.2⟩) (⟨i10.1, i10.2⟩) (⟨i9.1, i9.2⟩) (by first | assumption | omega | decide | exact Or.inl (by decide) | exact Or.inr (by decide)) i11 rfl zla12 zna12) (cwV 1 hts (zgL (zl4 k292 k282 k283 k277) k268) rfl rfl rfl (by decide +kernel) ⟨Nat.le_of_ble_eq_true rfl, Nat.le_of_ble_eq_true rfl⟩) rfl rfl rfl rfl (Nat.le_of_ble_eq_true rfl) dX2_readSum_79 ⟨(Nat.le_of_ble_eq_true rfl), (Nat.le_of_ble_eq_true rfl)⟩ (fun r_33 H locs hq34 hP hD hS => ?_)
                replace hq34 : (r_33 = 0 ∨ r_33 = 1) := hq34
                have hP : va_P g.1 vwCl (List.flatten [bLT g lt ta lo, bLaw g lo lc x_6 ll lm lg ld fc_7, bTape g ta ab sz ln x_2 x_3 x_4 x_5 fb]) H := hP
                have hD : va_D A (List.flatten [bLT g lt ta lo, bLaw g lo lc x_6 ll lm lg ld fc_7, bTape g ta ab sz ln x_2 x_3 x_4 x_5 fb]) := hD
                refine W.widen (k := 0) (n := 0) (Nat.le_of_ble_eq_true rfl) (Nat.le_of_ble_eq_true rfl) ?_
                refine W.eq (g2 := F0 m 82 ls [.int r_33]) rfl ?_
                rcases hq34 with rfl | rfl
                · skip
                  refine lv_if_eq (tgt := 89) hx hb dX2_readSum_82 (by decide) (fun _ => ?_) (fun c35 => absurd (by decide) c35)
                  refine lv_aload_n hx hb dX2_readSum_89 rfl (lv_at hl 0 rfl) ?_
                  refine va_get (D := g.1) (ci := 2) (v := .ref ta) (C := RX2) (T := TX2) (N := 2) hx hb hts izRX2 hown hK hP 0 rfl rfl 0 (by decide) (hts _ k290) (fun x9 h9 => u_same (hts _ k291) x9 h9) rfl dX2_readSum_90 ?_
                  refine va_ldcS (q := g.2 36) hx hb hown (zra13 hT.2.1) dX2_readSum_93 ?_
                  refine mcallV' (g := g) (q0 := 0) (ci := 6) (As := [.ref (g.2 36)]) (rest := []) St hK hT hA hP hD hS hl.1 [2] [0, 1] rfl rfl rfl (c_t_isWord l g ta ab sz ln x_2 x_3 x_4 x_5 fb (g.2 36) 13 zqa13 (⟨hln.1, hln.2⟩) (⟨i10.1, i10.2⟩) (⟨i9.1, i9.2⟩) (by first | assumption | omega | decide | exact Or.inl (by decide) | exact Or.inr (by decide)) i11 rfl zla13 zna13) (cwV 1 hts (zgL (zl4 k292 k282 k283 k277) k268) rfl rfl rfl (by decide +kernel) ⟨Nat.le_of_ble_eq_true rfl, Nat.le_of_ble_eq_true rfl⟩) rfl rfl rfl rfl (Nat.le_of_ble_eq_true rfl) dX2_readSum_95 ⟨(Nat.le_of_ble_eq_true rfl), (Nat.le_of_ble_eq_true rfl)⟩ (fun r_36 H locs hq37 hP hD hS => ?_)
                  replace hq37 : (r_36 = 0 ∨ r_36 = 1) := hq37
                  have hP : va_P g.1 vwCl (List.flatten [bLT g lt ta lo, bLaw g lo lc x_6 ll lm lg ld fc_7, bTape g ta ab sz ln x_2 x_3 x_4 x_5 fb]) H := hP
                  have hD : va_D A (List.flatten [bLT g lt ta lo, bLaw g lo lc x_6 ll lm lg ld fc_7, bTape g ta ab sz ln x_2 x_3 x_4 x_5 fb]) := hD
                  refine W.widen (k := 0) (n := 0) (Nat.le_of_ble_eq_true rfl) (Nat.le_of_ble_eq_true rfl) ?_
                  refine W.eq (g2 := F0 m 98 ls [.int r_36]) rfl ?_
                  rcases hq37 with rfl | rfl
                  · skip
                    refine lv_if_eq (tgt := 106) hx hb dX2_readSum_98 (by decide) (fun _ => ?_) (fun c38 => absurd (by decide) c38)
                    refine lv_iconst (v := 0) hx hb dX2_readSum_106 (by decide) ?_
                    refine lv_istore_n (lv' := [(2, .int 0), (0, .ref lt), (1, .int x_1)]) hx hb dX2_readSum_107 rfl hl (by decide) rfl (fun ls hl => ?_)
                    refine lv_iconst (v := 0) hx hb dX2_readSum_108 (by decide) ?_
                    refine lv_istore_n (lv' := [(3, .int 0), (2, .int 0), (0, .ref lt), (1, .int x_1)]) hx hb dX2_readSum_109 rfl hl (by decide) rfl (fun ls hl => ?_)
                    refine lv_iload_n hx hb dX2_readSum_110 rfl (lv_at hl 1 rfl) ?_
                    refine lv_if_ne (tgt := 133) hx hb dX2_readSum_111 (by decide) (fun c39 => absurd (by decide) c39) (fun _ => ?_)
                    refine lv_aload_n hx hb dX2_readSum_114 rfl (lv_at hl 2 rfl) ?_
                    refine va_get (D := g.1) (ci := 2) (v := .ref ta) (C := RX2) (T := TX2) (N := 2) hx hb hts izRX2 hown hK hP 0 rfl rfl 0 (by decide) (hts _ k290) (fun x9 h9 => u_same (hts _ k291) x9 h9) rfl dX2_readSum_115 ?_
                    refine lv_iconst (v := 0) hx hb dX2_readSum_118 (by decide) ?_
                    refine lv_sipush (v := 999) hx hb dX2_readSum_119 (by decide) ?_
                    have hL0 : (0 : Int32).toInt = 0 := by decide
                    have hL999 : (999 : Int32).toInt = 999 := by decide
                    refine mcallV' (g := g) (q0 := 0) (ci := 6) (As := [.int 0, .int 999]) (rest := []) St hK hT hA hP hD hS hl.1 [2] [0, 1] rfl rfl rfl (c_t_number l g ta ab sz ln x_2 x_3 x_4 x_5 fb 0 999 (⟨hln.1, hln.2⟩) (⟨i10.1, i10.2⟩) (⟨i9.1, i9.2⟩) (by first | assumption | omega | decide | exact Or.inl (by decide) | exact Or.inr (by decide)) i11) (cwV 2 hts (zgL (zl4 k293 k294 k295 k277) k273) rfl rfl rfl (by decide +kernel) ⟨Nat.le_of_ble_eq_true rfl, Nat.le_of_ble_eq_true rfl⟩) rfl rfl rfl rfl (Nat.le_of_ble_eq_true rfl) dX2_readSum_122 ⟨(Nat.le_of_ble_eq_true rfl), (Nat.le_of_ble_eq_true rfl)⟩ (fun u_ H locs hq45 hP hD hS => ?_)
                    obtain ⟨kd2_40, bg2_41, nx2_42, ft2_43, q_44⟩ := u_
                    replace hq45 : (0 ≤ nx2_42.toInt ∧ nx2_42.toInt ≤ 400) ∧ (0 ≤ bg2_41.toInt ∧ bg2_41.toInt ≤ 400) ∧ (zKd kd2_40.toInt bg2_41.toInt nx2_42.toInt) ∧ (-1 ≤ ft2_43.toInt) ∧ (zImp (¬ q_44.toInt = -1) ((0 : Int32).toInt ≤ q_44.toInt ∧ q_44.toInt ≤ (999 : Int32).toInt)) := hq45
                    have hP : va_P g.1 vwCl (List.flatten [bLT g lt ta lo, bLaw g lo lc x_6 ll lm lg ld fc_7, bTape g ta ab sz ln kd2_40 bg2_41 nx2_42 ft2_43 fb]) H := hP
                    have hD : va_D A (List.flatten [bLT g lt ta lo, bLaw g lo lc x_6 ll lm lg ld fc_7, bTape g ta ab sz ln kd2_40 bg2_41 nx2_42 ft2_43 fb]) := hD
                    refine W.widen (k := 0) (n := 0) (Nat.le_of_ble_eq_true rfl) (Nat.le_of_ble_eq_true rfl) ?_
                    refine W.eq (g2 := F0 m 125 ls [.int q_44]) rfl ?_
                    obtain ⟨hq45_0, hq45_1, hq45_2, hq45_3, hq45_4⟩ := hq45
                    refine lv_istore_n (lv' := [(3, .int q_44), (2, .int 0), (0, .ref lt), (1, .int x_1)]) hx hb dX2_readSum_125 rfl hl (by decide) rfl (fun ls hl => ?_)
                    refine lv_iload_n hx hb dX2_readSum_126 rfl (lv_at hl 0 rfl) ?_
                    refine lv_iconst (v := (-1)) hx hb dX2_readSum_127 (by decide) ?_
                    refine lv_icmp_ne (tgt := 140) hx hb dX2_readSum_128 (by decide) (fun cb9 => ?_) (fun cb9 => ?_)
                    · skip
                      have c46 : ¬ q_44.toInt = (-1) := zne cb9 rfl (by decide)
                      have w47 := hq45_4 c46
                      have w48 : 0 ≤ q_44.toInt ∧ q_44.toInt ≤ 999 := by first | exact w47 | omega
                      refine lv_aload_n hx hb dX2_readSum_140 rfl (lv_at hl 2 rfl) ?_
                      refine va_get (D := g.1) (ci := 2) (v := .ref lo) (C := RX2) (T := TX2) (N := 2) hx hb hts izRX2 hown hK hP 0 rfl rfl 1 (by decide) (hts _ k210) (fun _ h9 => h9) rfl dX2_readSum_141 ?_
                      refine lv_iload_n hx hb dX2_readSum_144 rfl (lv_at hl 1 rfl) ?_
                      refine lv_iload_n hx hb dX2_readSum_145 rfl (lv_at hl 0 rfl) ?_
                      refine mcallV' (g := g) (q0 := 0) (ci := 1) (As := [.int 0, .int q_44]) (rest := []) St hK hT hA hP hD hS hl.1 [1] [0, 2] rfl rfl rfl (c_l_put l g lo lc x_6 ll lm lg ld fc_7 0 q_44 (⟨i12.1, i12.2⟩)) (cwV 2 hts (zgL (zl4 k297 k298 k299 k85) k202) rfl rfl rfl (by decide +kernel) ⟨Nat.le_of_ble_eq_true rfl, Nat.le_of_ble_eq_true rfl⟩) rfl rfl rfl rfl (Nat.le_of_ble_eq_true rfl) dX2_readSum_146 ⟨(Nat.le_of_ble_eq_true rfl), (Nat.le_of_ble_eq_true rfl)⟩ (fun u_ H locs hq52 hP hD hS => ?_)
                      obtain ⟨lz2_49, fc2_50, q_51⟩ := u_
                      replace hq52 : (0 ≤ lz2_49.toInt ∧ lz2_49.toInt ≤ 400) := hq52
                      have hP : va_P g.1 vwCl (List.flatten [bLT g lt ta lo, bTape g ta ab sz ln kd2_40 bg2_41 nx2_42 ft2_43 fb, bLaw g lo lc lz2_49 ll lm lg ld fc2_50]) H := hP
                      have hD : va_D A (List.flatten [bLT g lt ta lo, bTape g ta ab sz ln kd2_40 bg2_41 nx2_42 ft2_43 fb, bLaw g lo lc lz2_49 ll lm lg ld fc2_50]) := hD
                      refine W.widen (k := 0) (n := 0) (Nat.le_of_ble_eq_true rfl) (Nat.le_of_ble_eq_true rfl) ?_
                      refine W.eq (g2 := F0 m 149 ls [.int q_51]) rfl ?_
                      refine lv_pop hx hb dX2_readSum_149 rfl ?_
                      refine lv_aload_n hx hb dX2_readSum_150 rfl (lv_at hl 2 rfl) ?_
                      refine va_get (D := g.1) (ci := 2) (v := .ref ta) (C := RX2) (T := TX2) (N := 2) hx hb hts izRX2 hown hK hP 0 rfl rfl 0 (by decide) (hts _ k290) (fun x9 h9 => u_same (hts _ k291) x9 h9) rfl dX2_readSum_151 ?_
                      refine lv_bipush (v := 43) hx hb dX2_readSum_154 (by decide) ?_
                      refine mcallV' (g := g) (q0 := 0) (ci := 6) (As := [.int 43]) (rest := []) St hK hT hA hP hD hS hl.1 [1] [0, 2] rfl rfl rfl (c_t_takeSign l g ta ab sz ln kd2_40 bg2_41 nx2_42 ft2_43 fb 43 (⟨hln.1, hln.2⟩) (⟨hq45_0.1, hq45_0.2⟩) (⟨hq45_1.1, hq45_1.2⟩) (by first | assumption | omega | decide | exact Or.inl (by decide) | exact Or.inr (by decide)) (by first | assumption | omega | decide | exact Or.inl (by decide) | exact Or.inr (by decide))) (cwV 1 hts (zgL (zl4 k300 k301 k302 k277) k286) rfl rfl rfl (by decide +kernel) ⟨Nat.le_of_ble_eq_true rfl, Nat.le_of_ble_eq_true rfl⟩) rfl rfl rfl rfl (Nat.le_of_ble_eq_true rfl) dX2_readSum_156 ⟨(Nat.le_of_ble_eq_true rfl), (Nat.le_of_ble_eq_true rfl)⟩ (fun u_ H locs hq57 hP hD hS => ?_)
                      obtain ⟨kd2_53, bg2_54, nx2_55, q_56⟩ := u_
                      replace hq57 : (0 ≤ nx2_55.toInt ∧ nx2_55.toInt ≤ 400) ∧ (0 ≤ bg2_54.toInt ∧ bg2_54.toInt ≤ 400) ∧ (zKd kd2_53.toInt bg2_54.toInt nx2_55.toInt) ∧ (q_56 = 0 ∨ q_56 = 1) := hq57
                      have hP : va_P g.1 vwCl (List.flatten [bLT g lt ta lo, bLaw g lo lc lz2_49 ll lm lg ld fc2_50, bTape g ta ab sz ln kd2_53 bg2_54 nx2_55 ft2_43 fb]) H := hP
                      have hD : va_D A (List.flatten [bLT g lt ta lo, bLaw g lo lc lz2_49 ll lm lg ld fc2_50, bTape g ta ab sz ln kd2_53 bg2_54 nx2_55 ft2_43 fb]) := hD
                      refine W.widen (k := 0) (n := 0) (Nat.le_of_ble_eq_true rfl) (Nat.le_of_ble_eq_true rfl) ?_
                      refine W.eq (g2 := F0 m 159 ls [.int q_56]) rfl ?_
                      obtain ⟨hq57_0, hq57_1, hq57_2, hq57_3⟩ := hq57
                      rcases hq57_3 with rfl | rfl
                      · skip
                        refine lv_if_ne (tgt := 164) hx hb dX2_readSum_159 (by decide) (fun c58 => absurd (by decide) c58) (fun _ => ?_)
                        refine lv_iconst (v := 1) hx hb dX2_readSum_162 (by decide) ?_
                        have hP : va_P g.1 vwCl (List.flatten [bLT g lt ta lo, bLaw g lo lc lz2_49 ll lm lg ld fc2_50, bTape g ta ab sz ln kd2_53 bg2_54 nx2_55 ft2_43 fb]) H := hP
                        have hD : va_D A (List.flatten [bLT g lt ta lo, bLaw g lo lc lz2_49 ll lm lg ld fc2_50, bTape g ta ab sz ln kd2_53 bg2_54 nx2_55 ft2_43 fb]) := hD
                        obtain ⟨hP, hD⟩ := zord (g := g) (Bs' := [bLT g lt ta lo, bTape g ta ab sz ln kd2_53 bg2_54 nx2_55 ft2_43 fb, bLaw g lo lc lz2_49 ll lm lg ld fc2_50]) [0, 2, 1] rfl rfl hP hD
                        exact mret_z hx hb hr hlocks hS (Nat.le_of_ble_eq_true rfl) (Nat.le_of_ble_eq_true rfl) dX2_readSum_163 (kd2_53, bg2_54, nx2_55, ft2_43, lz2_49, fc2_50, (1 : Int32)) rfl (by decide) (show (0 ≤ lz2_49.toInt ∧ lz2_49.toInt ≤ 400) ∧ (-1 ≤ ft2_43.toInt) ∧ (0 ≤ nx2_55.toInt ∧ nx2_55.toInt ≤ 400) ∧ (0 ≤ bg2_54.toInt ∧ bg2_54.toInt ≤ 400) ∧ (zKd kd2_53.toInt bg2_54.toInt nx2_55.toInt) ∧ (1 = 0 ∨ 1 = 1) from ⟨(by first | assumption | omega | decide | exact rfl | exact zb01 (by omega) | exact Or.inl (by decide) | exact Or.inr (by first | omega | decide)), (by first | assumption | omega | decide | exact rfl | exact zb01 (by omega) | exact Or.inl (by decide) | exact Or.inr (by first | omega | decide)), (by first | assumption | omega | decide | exact rfl | exact zb01 (by omega) | exact Or.inl (by decide) | exact Or.inr (by first | omega | decide)), (by first | assumption | omega | decide | exact rfl | exact zb01 (by omega) | exact Or.inl (by decide) | exact Or.inr (by first | omega | decide)), (by first | assumption | omega | decide | exact rfl | exact zb01 (by omega) | exact Or.inl (by decide) | exact Or.inr (by first | omega | decide)), (by first | assumption | omega | decide | exact rfl | exact zb01 (by omega) | exact Or.inl (by decide) | exact Or.inr (by first | omega | decide))⟩) hP hD
                      · skip
                        refine lv_if_ne (tgt := 164) hx hb dX2_readSum_159 (by decide) (fun _ => ?_) (fun c59 => absurd c59 (by decide))
                        refine ziinc3 (n' := 1) (a' := 1) (b' := 400) (lv' := fun v9 => [(1, .int v9), (3, .int q_44), (2, .int 0), (0, .ref lt)]) hx hb dX2_readSum_164 hl (k := 3) rfl (by decide) (fun _ => rfl) (zaddK (i := x_1.toInt) (j := 1) rfl (by decide) i8.1 n20 (Int.le_refl _) (Int.le_refl _) (by decide)) (fun x_60 ls hx_60 hl => ?_)
                        refine lv_goto (tgt := 2) hx hb dX2_readSum_167 (by decide) ?_
                        have hl := lv_sub (l' := [(0, .ref lt), (1, .int x_60), (2, .int 0), (3, .int q_44)]) hl [3, 0, 2, 1] rfl
                        have hP : va_P g.1 vwCl (List.flatten [bLT g lt ta lo, bLaw g lo lc lz2_49 ll lm lg ld fc2_50, bTape g ta ab sz ln kd2_53 bg2_54 nx2_55 ft2_43 fb]) H := hP
                        have hD : va_D A (List.flatten [bLT g lt ta lo, bLaw g lo lc lz2_49 ll lm lg ld fc2_50, bTape g ta ab sz ln kd2_53 bg2_54 nx2_55 ft2_43 fb]) := hD
                        obtain ⟨hP, hD⟩ := zord (g := g) (Bs' := [bLT g lt ta lo, bTape g ta ab sz ln kd2_53 bg2_54 nx2_55 ft2_43 fb, bLaw g lo lc lz2_49 ll lm lg ld fc2_50]) [0, 2, 1] rfl rfl hP hD
                        have hP : va_P g.1 vwCl (List.flatten [bLT g lt ta lo, bTape g ta ab sz ln kd2_53 bg2_54 nx2_55 ft2_43 fb, bLaw g lo lc lz2_49 ll lm lg ld fc2_50]) H := hP
                        have hD : va_D A (List.flatten [bLT g lt ta lo, bTape g ta ab sz ln kd2_53 bg2_54 nx2_55 ft2_43 fb, bLaw g lo lc lz2_49 ll lm lg ld fc2_50]) := hD
                        exact ih2_14 x_60 kd2_53 bg2_54 nx2_55 ft2_43 lz2_49 fc2_50 ⟨(Int.le_trans (by decide) hx_60.2.1), hx_60.2.2⟩ ⟨hq57_1.1, hq57_1.2⟩ ⟨hq57_0.1, hq57_0.2⟩ (by first | omega | assumption | decide) ⟨hq52.1, hq52.2⟩ H _ ls (zmK hx_60.1 (by decide) n20 (by decide) hk2_14)  hP hD hS (lv_sub hl [0, 1] rfl)
                    · skip
                      have c61 : q_44.toInt = (-1) := zeq cb9 rfl (by decide)
                      have n62 : q_44.toInt ≤ (-1) := Int.le_trans (Int.le_of_eq c61) (Int.le_refl _)
                      refine lv_iconst (v := 0) hx hb dX2_readSum_131 (by decide) ?_
                      have hP : va_P g.1 vwCl (List.flatten [bLT g lt ta lo, bLaw g lo lc x_6 ll lm lg ld fc_7, bTape g ta ab sz ln kd2_40 bg2_41 nx2_42 ft2_43 fb]) H := hP
                      have hD : va_D A (List.flatten [bLT g lt ta lo, bLaw g lo lc x_6 ll lm lg ld fc_7, bTape g ta ab sz ln kd2_40 bg2_41 nx2_42 ft2_43 fb]) := hD
                      obtain ⟨hP, hD⟩ := zord (g := g) (Bs' := [bLT g lt ta lo, bTape g ta ab sz ln kd2_40 bg2_41 nx2_42 ft2_43 fb, bLaw g lo lc x_6 ll lm lg ld fc_7]) [0, 2, 1] rfl rfl hP hD
                      exact mret_z hx hb hr hlocks hS (Nat.le_of_ble_eq_true rfl) (Nat.le_of_ble_eq_true rfl) dX2_readSum_132 (kd2_40, bg2_41, nx2_42, ft2_43, x_6, fc_7, (0 : Int32)) rfl (by decide) (show (0 ≤ x_6.toInt ∧ x_6.toInt ≤ 400) ∧ (-1 ≤ ft2_43.toInt) ∧ (0 ≤ nx2_42.toInt ∧ nx2_42.toInt ≤ 400) ∧ (0 ≤ bg2_41.toInt ∧ bg2_41.toInt ≤ 400) ∧ (zKd kd2_40.toInt bg2_41.toInt nx2_42.toInt) ∧ (0 = 0 ∨ 0 = 1) from ⟨(by first | assumption | omega | decide | exact rfl | exact zb01 (by omega) | exact Or.inl (by decide) | exact Or.inr (by first | omega | decide)), (by first | assumption | omega | decide | exact rfl | exact zb01 (by omega) | exact Or.inl (by decide) | exact Or.inr (by first | omega | decide)), (by first | assumption | omega | decide | exact rfl | exact zb01 (by omega) | exact Or.inl (by decide) | exact Or.inr (by first | omega | decide)), (by first | assumption | omega | decide | exact rfl | exact zb01 (by omega) | exact Or.inl (by decide) | exact Or.inr (by first | omega | decide)), (by first | assumption | omega | decide | exact rfl | exact zb01 (by omega) | exact Or.inl (by decide) | exact Or.inr (by first | omega | decide)), (by first | assumption | omega | decide | exact rfl | exact zb01 (by omega) | exact Or.inl (by decide) | exact Or.inr (by first | omega | decide))⟩) hP hD
                  · skip
                    refine lv_if_eq (tgt := 106) hx hb dX2_readSum_98 (by decide) (fun c63 => absurd c63 (by decide)) (fun _ => ?_)
                    refine lv_bipush (v := 6) hx hb dX2_readSum_101 (by decide) ?_
                    refine lv_goto (tgt := 107) hx hb dX2_readSum_103 (by decide) ?_
                    refine lv_istore_n (lv' := [(2, .int 6), (0, .ref lt), (1, .int x_1)]) hx hb dX2_readSum_107 rfl hl (by decide) rfl (fun ls hl => ?_)
                    refine lv_iconst (v := 0) hx hb dX2_readSum_108 (by decide) ?_
                    refine lv_istore_n (lv' := [(3, .int 0), (2, .int 6), (0, .ref lt), (1, .int x_1)]) hx hb dX2_readSum_109 rfl hl (by decide) rfl (fun ls hl => ?_)
                    refine lv_iload_n hx hb dX2_readSum_110 rfl (lv_at hl 1 rfl) ?_
                    refine lv_if_ne (tgt := 133) hx hb dX2_readSum_111 (by decide) (fun _ => ?_) (fun c64 => absurd c64 (by decide))
                    refine lv_aload_n hx hb dX2_readSum_133 rfl (lv_at hl 2 rfl) ?_
                    refine va_get (D := g.1) (ci := 2) (v := .ref ta) (C := RX2) (T := TX2) (N := 2) hx hb hts izRX2 hown hK hP 0 rfl rfl 0 (by decide) (hts _ k290) (fun x9 h9 => u_same (hts _ k291) x9 h9) rfl dX2_readSum_134 ?_
                    refine mcallV' (g := g) (q0 := 0) (ci := 6) (As := []) (rest := []) St hK hT hA hP hD hS hl.1 [2] [0, 1] rfl rfl rfl (c_t_step l g ta ab sz ln x_2 x_3 x_4 x_5 fb (⟨hln.1, hln.2⟩) (⟨i10.1, i10.2⟩)) (cwV 0 hts (zgL (zl4 k296 k275 k276 k277) k271) rfl rfl rfl (by decide +kernel) ⟨Nat.le_of_ble_eq_true rfl, Nat.le_of_ble_eq_true rfl⟩) rfl rfl rfl rfl (Nat.le_of_ble_eq_true rfl) dX2_readSum_137 ⟨(Nat.le_of_ble_eq_true rfl), (Nat.le_of_ble_eq_true rfl)⟩ (fun u_ H locs hq68 hP hD hS => ?_)
                    obtain ⟨kd2_65, bg2_66, nx2_67⟩ := u_
                    replace hq68 : (0 ≤ nx2_67.toInt ∧ nx2_67.toInt ≤ 400) ∧ (0 ≤ bg2_66.toInt ∧ bg2_66.toInt ≤ 400) ∧ (zKd kd2_65.toInt bg2_66.toInt nx2_67.toInt) := hq68
                    have hP : va_P g.1 vwCl (List.flatten [bLT g lt ta lo, bLaw g lo lc x_6 ll lm lg ld fc_7, bTape g ta ab sz ln kd2_65 bg2_66 nx2_67 x_5 fb]) H := hP
                    have hD : va_D A (List.flatten [bLT g lt ta lo, bLaw g lo lc x_6 ll lm lg ld fc_7, bTape g ta ab sz ln kd2_65 bg2_66 nx2_67 x_5 fb]) := hD
                    refine W.widen (k := 0) (n := 0) (Nat.le_of_ble_eq_true rfl) (Nat.le_of_ble_eq_true rfl) ?_
                    refine W.eq (g2 := F0 m 140 ls []) rfl ?_
                    obtain ⟨hq68_0, hq68_1, hq68_2⟩ := hq68
                    refine lv_aload_n hx hb dX2_readSum_140 rfl (lv_at hl 2 rfl) ?_
                    refine va_get (D := g.1) (ci := 2) (v := .ref lo) (C := RX2) (T := TX2) (N := 2) hx hb hts izRX2 hown hK hP 0 rfl rfl 1 (by decide) (hts _ k210) (fun _ h9 => h9) rfl dX2_readSum_141 ?_
                    refine lv_iload_n hx hb dX2_readSum_144 rfl (lv_at hl 1 rfl) ?_
                    refine lv_iload_n hx hb dX2_readSum_145 rfl (lv_at hl 0 rfl) ?_
                    refine mcallV' (g := g) (q0 := 0) (ci := 1) (As := [.int 6, .int 0]) (rest := []) St hK hT hA hP hD hS hl.1 [1] [0, 2] rfl rfl rfl (c_l_put l g lo lc x_6 ll lm lg ld fc_7 6 0 (⟨i12.1, i12.2⟩)) (cwV 2 hts (zgL (zl4 k297 k298 k299 k85) k202) rfl rfl rfl (by decide +kernel) ⟨Nat.le_of_ble_eq_true rfl, Nat.le_of_ble_eq_true rfl⟩) rfl rfl rfl rfl (Nat.le_of_ble_eq_true rfl) dX2_readSum_146 ⟨(Nat.le_of_ble_eq_true rfl), (Nat.le_of_ble_eq_true rfl)⟩ (fun u_ H locs hq72 hP hD hS => ?_)
                    obtain ⟨lz2_69, fc2_70, q_71⟩ := u_
                    replace hq72 : (0 ≤ lz2_69.toInt ∧ lz2_69.toInt ≤ 400) := hq72
                    have hP : va_P g.1 vwCl (List.flatten [bLT g lt ta lo, bTape g ta ab sz ln kd2_65 bg2_66 nx2_67 x_5 fb, bLaw g lo lc lz2_69 ll lm lg ld fc2_70]) H := hP
                    have hD : va_D A (List.flatten [bLT g lt ta lo, bTape g ta ab sz ln kd2_65 bg2_66 nx2_67 x_5 fb, bLaw g lo lc lz2_69 ll lm lg ld fc2_70]) := hD
                    refine W.widen (k := 0) (n := 0) (Nat.le_of_ble_eq_true rfl) (Nat.le_of_ble_eq_true rfl) ?_
                    refine W.eq (g2 := F0 m 149 ls [.int q_71]) rfl ?_
                    refine lv_pop hx hb dX2_readSum_149 rfl ?_
                    refine lv_aload_n hx hb dX2_readSum_150 rfl (lv_at hl 2 rfl) ?_
                    refine va_get (D := g.1) (ci := 2) (v := .ref ta) (C := RX2) (T := TX2) (N := 2) hx hb hts izRX2 hown hK hP 0 rfl rfl 0 (by decide) (hts _ k290) (fun x9 h9 => u_same (hts _ k291) x9 h9) rfl dX2_readSum_151 ?_
                    refine lv_bipush (v := 43) hx hb dX2_readSum_154 (by decide) ?_
                    refine mcallV' (g := g) (q0 := 0) (ci := 6) (As := [.int 43]) (rest := []) St hK hT hA hP hD hS hl.1 [1] [0, 2] rfl rfl rfl (c_t_takeSign l g ta ab sz ln kd2_65 bg2_66 nx2_67 x_5 fb 43 (⟨hln.1, hln.2⟩) (⟨hq68_0.1, hq68_0.2⟩) (⟨hq68_1.1, hq68_1.2⟩) (by first | assumption | omega | decide | exact Or.inl (by decide) | exact Or.inr (by decide)) i11) (cwV 1 hts (zgL (zl4 k300 k301 k302 k277) k286) rfl rfl rfl (by decide +kernel) ⟨Nat.le_of_ble_eq_true rfl, Nat.le_of_ble_eq_true rfl⟩) rfl rfl rfl rfl (Nat.le_of_ble_eq_true rfl) dX2_readSum_156 ⟨(Nat.le_of_ble_eq_true rfl), (Nat.le_of_ble_eq_true rfl)⟩ (fun u_ H locs hq77 hP hD hS => ?_)
                    obtain ⟨kd2_73, bg2_74, nx2_75, q_76⟩ := u_
                    replace hq77 : (0 ≤ nx2_75.toInt ∧ nx2_75.toInt ≤ 400) ∧ (0 ≤ bg2_74.toInt ∧ bg2_74.toInt ≤ 400) ∧ (zKd kd2_73.toInt bg2_74.toInt nx2_75.toInt) ∧ (q_76 = 0 ∨ q_76 = 1) := hq77
                    have hP : va_P g.1 vwCl (List.flatten [bLT g lt ta lo, bLaw g lo lc lz2_69 ll lm lg ld fc2_70, bTape g ta ab sz ln kd2_73 bg2_74 nx2_75 x_5 fb]) H := hP
                    have hD : va_D A (List.flatten [bLT g lt ta lo, bLaw g lo lc lz2_69 ll lm lg ld fc2_70, bTape g ta ab sz ln kd2_73 bg2_74 nx2_75 x_5 fb]) := hD
                    refine W.widen (k := 0) (n := 0) (Nat.le_of_ble_eq_true rfl) (Nat.le_of_ble_eq_true rfl) ?_
                    refine W.eq (g2 := F0 m 159 ls [.int q_76]) rfl ?_
                    obtain ⟨hq77_0, hq77_1, hq77_2, hq77_3⟩ := hq77
                    rcases hq77_3 with rfl | rfl
                    · skip
                      refine lv_if_ne (tgt := 164) hx hb dX2_readSum_159 (by decide) (fun c78 => absurd (by decide) c78) (fun _ => ?_)
                      refine lv_iconst (v := 1) hx hb dX2_readSum_162 (by decide) ?_
                      have hP : va_P g.1 vwCl (List.flatten [bLT g lt ta lo, bLaw g lo lc lz2_69 ll lm lg ld fc2_70, bTape g ta ab sz ln kd2_73 bg2_74 nx2_75 x_5 fb]) H := hP
                      have hD : va_D A (List.flatten [bLT g lt ta lo, bLaw g lo lc lz2_69 ll lm lg ld fc2_70, bTape g ta ab sz ln kd2_73 bg2_74 nx2_75 x_5 fb]) := hD
                      obtain ⟨hP, hD⟩ := zord (g := g) (Bs' := [bLT g lt ta lo, bTape g ta ab sz ln kd2_73 bg2_74 nx2_75 x_5 fb, bLaw g lo lc lz2_69 ll lm lg ld fc2_70]) [0, 2, 1] rfl rfl hP hD
                      exact mret_z hx hb hr hlocks hS (Nat.le_of_ble_eq_true rfl) (Nat.le_of_ble_eq_true rfl) dX2_readSum_163 (kd2_73, bg2_74, nx2_75, x_5, lz2_69, fc2_70, (1 : Int32)) rfl (by decide) (show (0 ≤ lz2_69.toInt ∧ lz2_69.toInt ≤ 400) ∧ (-1 ≤ x_5.toInt) ∧ (0 ≤ nx2_75.toInt ∧ nx2_75.toInt ≤ 400) ∧ (0 ≤ bg2_74.toInt ∧ bg2_74.toInt ≤ 400) ∧ (zKd kd2_73.toInt bg2_74.toInt nx2_75.toInt) ∧ (1 = 0 ∨ 1 = 1) from ⟨(by first | assumption | omega | decide | exact rfl | exact zb01 (by omega) | exact Or.inl (by decide) | exact Or.inr (by first | omega | decide)), (by first | assumption | omega | decide | exact rfl | exact zb01 (by omega) | exact Or.inl (by decide) | exact Or.inr (by first | omega | decide)), (by first | assumption | omega | decide | exact rfl | exact zb01 (by omega) | exact Or.inl (by decide) | exact Or.inr (by first | omega | decide)), (by first | assumption | omega | decide | exact rfl | exact zb01 (by omega) | exact Or.inl (by decide) | exact Or.inr (by first | omega | decide)), (by first | assumption | omega | decide | exact rfl | exact zb01 (by omega) | exact Or.inl (by decide) | exact Or.inr (by first | omega | decide)), (by first | assumption | omega | decide | exact rfl | exact zb01 (by omega) | exact Or.inl (by decide) | exact Or.inr (by first | omega | decide))⟩) hP hD
                    · skip
                      refine lv_if_ne (tgt := 164) hx hb dX2_readSum_159 (by decide) (fun _ => ?_) (fun c79 => absurd c79 (by decide))
                      refine ziinc3 (n' := 1) (a' := 1) (b' := 400) (lv' := fun v9 => [(1, .int v9), (3, .int 0), (2, .int 6), (0, .ref lt)]) hx hb dX2_readSum_164 hl (k := 3) rfl (by decide) (fun _ => rfl) (zaddK (i := x_1.toInt) (j := 1) rfl (by decide) i8.1 n20 (Int.le_refl _) (Int.le_refl _) (by decide)) (fun x_80 ls hx_80 hl => ?_)
                      refine lv_goto (tgt := 2) hx hb dX2_readSum_167 (by decide) ?_
                      have hl := lv_sub (l' := [(0, .ref lt), (1, .int x_80), (2, .int 6), (3, .int 0)]) hl [3, 0, 2, 1] rfl
                      have hP : va_P g.1 vwCl (List.flatten [bLT g lt ta lo, bLaw g lo lc lz2_69 ll lm lg ld fc2_70, bTape g ta ab sz ln kd2_73 bg2_74 nx2_75 x_5 fb]) H := hP
                      have hD : va_D A (List.flatten [bLT g lt ta lo, bLaw g lo lc lz2_69 ll lm lg ld fc2_70, bTape g ta ab sz ln kd2_73 bg2_74 nx2_75 x_5 fb]) := hD
                      obtain ⟨hP, hD⟩ := zord (g := g) (Bs' := [bLT g lt ta lo, bTape g ta ab sz ln kd2_73 bg2_74 nx2_75 x_5 fb, bLaw g lo lc lz2_69 ll lm lg ld fc2_70]) [0, 2, 1] rfl rfl hP hD
                      have hP : va_P g.1 vwCl (List.flatten [bLT g lt ta lo, bTape g ta ab sz ln kd2_73 bg2_74 nx2_75 x_5 fb, bLaw g lo lc lz2_69 ll lm lg ld fc2_70]) H := hP
                      have hD : va_D A (List.flatten [bLT g lt ta lo, bTape g ta ab sz ln kd2_73 bg2_74 nx2_75 x_5 fb, bLaw g lo lc lz2_69 ll lm lg ld fc2_70]) := hD
                      exact ih2_14 x_80 kd2_73 bg2_74 nx2_75 x_5 lz2_69 fc2_70 ⟨(Int.le_trans (by decide) hx_80.2.1), hx_80.2.2⟩ ⟨hq77_1.1, hq77_1.2⟩ ⟨hq77_0.1, hq77_0.2⟩ i11 ⟨hq72.1, hq72.2⟩ H _ ls (zmK hx_80.1 (by decide) n20 (by decide) hk2_14)  hP hD hS (lv_sub hl [0, 1] rfl)
                · skip
                  refine lv_if_eq (tgt := 89) hx hb dX2_readSum_82 (by decide) (fun c81 => absurd c81 (by decide)) (fun _ => ?_)
                  refine lv_iconst (v := 5) hx hb dX2_readSum_85 (by decide) ?_
                  refine lv_goto (tgt := 107) hx hb dX2_readSum_86 (by decide) ?_
                  refine lv_istore_n (lv' := [(2, .int 5), (0, .ref lt), (1, .int x_1)]) hx hb dX2_readSum_107 rfl hl (by decide) rfl (fun ls hl => ?_)
                  refine lv_iconst (v := 0) hx hb dX2_readSum_108 (by decide) ?_
                  refine lv_istore_n (lv' := [(3, .int 0), (2, .int 5), (0, .ref lt), (1, .int x_1)]) hx hb dX2_readSum_109 rfl hl (by decide) rfl (fun ls hl => ?_)
                  refine lv_iload_n hx hb dX2_readSum_110 rfl (lv_at hl 1 rfl) ?_
                  refine lv_if_ne (tgt := 133) hx hb dX2_readSum_111 (by decide) (fun _ => ?_) (fun c82 => absurd c82 (by decide))
                  refine lv_aload_n hx hb dX2_readSum_133 rfl (lv_at hl 2 rfl) ?_
                  refine va_get (D := g.1) (ci := 2) (v := .ref ta) (C := RX2) (T := TX2) (N := 2) hx hb hts izRX2 hown hK hP 0 rfl rfl 0 (by decide) (hts _ k290) (fun x9 h9 => u_same (hts _ k291) x9 h9) rfl dX2_readSum_134 ?_
                  refine mcallV' (g := g) (q0 := 0) (ci := 6) (As := []) (rest := []) St hK hT hA hP hD hS hl.1 [2] [0, 1] rfl rfl rfl (c_t_step l g ta ab sz ln x_2 x_3 x_4 x_5 fb (⟨hln.1, hln.2⟩) (⟨i10.1, i10.2⟩)) (cwV 0 hts (zgL (zl4 k296 k275 k276 k277) k271) rfl rfl rfl (by decide +kernel) ⟨Nat.le_of_ble_eq_true rfl, Nat.le_of_ble_eq_true rfl⟩) rfl rfl rfl rfl (Nat.le_of_ble_eq_true rfl) dX2_readSum_137 ⟨(Nat.le_of_ble_eq_true rfl), (Nat.le_of_ble_eq_true rfl)⟩ (fun u_ H locs hq86 hP hD hS => ?_)
                  obtain ⟨kd2_83, bg2_84, nx2_85⟩ := u_
                  replace hq86 : (0 ≤ nx2_85.toInt ∧ nx2_85.toInt ≤ 400) ∧ (0 ≤ bg2_84.toInt ∧ bg2_84.toInt ≤ 400) ∧ (zKd kd2_83.toInt bg2_84.toInt nx2_85.toInt) := hq86
                  have hP : va_P g.1 vwCl (List.flatten [bLT g lt ta lo, bLaw g lo lc x_6 ll lm lg ld fc_7, bTape g ta ab sz ln kd2_83 bg2_84 nx2_85 x_5 fb]) H := hP
                  have hD : va_D A (List.flatten [bLT g lt ta lo, bLaw g lo lc x_6 ll lm lg ld fc_7, bTape g ta ab sz ln kd2_83 bg2_84 nx2_85 x_5 fb]) := hD
                  refine W.widen (k := 0) (n := 0) (Nat.le_of_ble_eq_true rfl) (Nat.le_of_ble_eq_true rfl) ?_
                  refine W.eq (g2 := F0 m 140 ls []) rfl ?_
                  obtain ⟨hq86_0, hq86_1, hq86_2⟩ := hq86
                  refine lv_aload_n hx hb dX2_readSum_140 rfl (lv_at hl 2 rfl) ?_
                  refine va_get (D := g.1) (ci := 2) (v := .ref lo) (C := RX2) (T := TX2) (N := 2) hx hb hts izRX2 hown hK hP 0 rfl rfl 1 (by decide) (hts _ k210) (fun _ h9 => h9) rfl dX2_readSum_141 ?_
                  refine lv_iload_n hx hb dX2_readSum_144 rfl (lv_at hl 1 rfl) ?_
                  refine lv_iload_n hx hb dX2_readSum_145 rfl (lv_at hl 0 rfl) ?_
                  refine mcallV' (g := g) (q0 := 0) (ci := 1) (As := [.int 5, .int 0]) (rest := []) St hK hT hA hP hD hS hl.1 [1] [0, 2] rfl rfl rfl (c_l_put l g lo lc x_6 ll lm lg ld fc_7 5 0 (⟨i12.1, i12.2⟩)) (cwV 2 hts (zgL (zl4 k297 k298 k299 k85) k202) rfl rfl rfl (by decide +kernel) ⟨Nat.le_of_ble_eq_true rfl, Nat.le_of_ble_eq_true rfl⟩) rfl rfl rfl rfl (Nat.le_of_ble_eq_true rfl) dX2_readSum_146 ⟨(Nat.le_of_ble_eq_true rfl), (Nat.le_of_ble_eq_true rfl)⟩ (fun u_ H locs hq90 hP hD hS => ?_)
                  obtain ⟨lz2_87, fc2_88, q_89⟩ := u_
                  replace hq90 : (0 ≤ lz2_87.toInt ∧ lz2_87.toInt ≤ 400) := hq90
                  have hP : va_P g.1 vwCl (List.flatten [bLT g lt ta lo, bTape g ta ab sz ln kd2_83 bg2_84 nx2_85 x_5 fb, bLaw g lo lc lz2_87 ll lm lg ld fc2_88]) H := hP
                  have hD : va_D A (List.flatten [bLT g lt ta lo, bTape g ta ab sz ln kd2_83 bg2_84 nx2_85 x_5 fb, bLaw g lo lc lz2_87 ll lm lg ld fc2_88]) := hD
                  refine W.widen (k := 0) (n := 0) (Nat.le_of_ble_eq_true rfl) (Nat.le_of_ble_eq_true rfl) ?_
                  refine W.eq (g2 := F0 m 149 ls [.int q_89]) rfl ?_
                  refine lv_pop hx hb dX2_readSum_149 rfl ?_
                  refine lv_aload_n hx hb dX2_readSum_150 rfl (lv_at hl 2 rfl) ?_
                  refine va_get (D := g.1) (ci := 2) (v := .ref ta) (C := RX2) (T := TX2) (N := 2) hx hb hts izRX2 hown hK hP 0 rfl rfl 0 (by decide) (hts _ k290) (fun x9 h9 => u_same (hts _ k291) x9 h9) rfl dX2_readSum_151 ?_
                  refine lv_bipush (v := 43) hx hb dX2_readSum_154 (by decide) ?_
                  refine mcallV' (g := g) (q0 := 0) (ci := 6) (As := [.int 43]) (rest := []) St hK hT hA hP hD hS hl.1 [1] [0, 2] rfl rfl rfl (c_t_takeSign l g ta ab sz ln kd2_83 bg2_84 nx2_85 x_5 fb 43 (⟨hln.1, hln.2⟩) (⟨hq86_0.1, hq86_0.2⟩) (⟨hq86_1.1, hq86_1.2⟩) (by first | assumption | omega | decide | exact Or.inl (by decide) | exact Or.inr (by decide)) i11) (cwV 1 hts (zgL (zl4 k300 k301 k302 k277) k286) rfl rfl rfl (by decide +kernel) ⟨Nat.le_of_ble_eq_true rfl, Nat.le_of_ble_eq_true rfl⟩) rfl rfl rfl rfl (Nat.le_of_ble_eq_true rfl) dX2_readSum_156 ⟨(Nat.le_of_ble_eq_true rfl), (Nat.le_of_ble_eq_true rfl)⟩ (fun u_ H locs hq95 hP hD hS => ?_)
                  obtain ⟨kd2_91, bg2_92, nx2_93, q_94⟩ := u_
                  replace hq95 : (0 ≤ nx2_93.toInt ∧ nx2_93.toInt ≤ 400) ∧ (0 ≤ bg2_92.toInt ∧ bg2_92.toInt ≤ 400) ∧ (zKd kd2_91.toInt bg2_92.toInt nx2_93.toInt) ∧ (q_94 = 0 ∨ q_94 = 1) := hq95
                  have hP : va_P g.1 vwCl (List.flatten [bLT g lt ta lo, bLaw g lo lc lz2_87 ll lm lg ld fc2_88, bTape g ta ab sz ln kd2_91 bg2_92 nx2_93 x_5 fb]) H := hP
                  have hD : va_D A (List.flatten [bLT g lt ta lo, bLaw g lo lc lz2_87 ll lm lg ld fc2_88, bTape g ta ab sz ln kd2_91 bg2_92 nx2_93 x_5 fb]) := hD
                  refine W.widen (k := 0) (n := 0) (Nat.le_of_ble_eq_true rfl) (Nat.le_of_ble_eq_true rfl) ?_
                  refine W.eq (g2 := F0 m 159 ls [.int q_94]) rfl ?_
                  obtain ⟨hq95_0, hq95_1, hq95_2, hq95_3⟩ := hq95
                  rcases hq95_3 with rfl | rfl
                  · skip
                    refine lv_if_ne (tgt := 164) hx hb dX2_readSum_159 (by decide) (fun c96 => absurd (by decide) c96) (fun _ => ?_)
                    refine lv_iconst (v := 1) hx hb dX2_readSum_162 (by decide) ?_
                    have hP : va_P g.1 vwCl (List.flatten [bLT g lt ta lo, bLaw g lo lc lz2_87 ll lm lg ld fc2_88, bTape g ta ab sz ln kd2_91 bg2_92 nx2_93 x_5 fb]) H := hP
                    have hD : va_D A (List.flatten [bLT g lt ta lo, bLaw g lo lc lz2_87 ll lm lg ld fc2_88, bTape g ta ab sz ln kd2_91 bg2_92 nx2_93 x_5 fb]) := hD
                    obtain ⟨hP, hD⟩ := zord (g := g) (Bs' := [bLT g lt ta lo, bTape g ta ab sz ln kd2_91 bg2_92 nx2_93 x_5 fb, bLaw g lo lc lz2_87 ll lm lg ld fc2_88]) [0, 2, 1] rfl rfl hP hD
                    exact mret_z hx hb hr hlocks hS (Nat.le_of_ble_eq_true rfl) (Nat.le_of_ble_eq_true rfl) dX2_readSum_163 (kd2_91, bg2_92, nx2_93, x_5, lz2_87, fc2_88, (1 : Int32)) rfl (by decide) (show (0 ≤ lz2_87.toInt ∧ lz2_87.toInt ≤ 400) ∧ (-1 ≤ x_5.toInt) ∧ (0 ≤ nx2_93.toInt ∧ nx2_93.toInt ≤ 400) ∧ (0 ≤ bg2_92.toInt ∧ bg2_92.toInt ≤ 400) ∧ (zKd kd2_91.toInt bg2_92.toInt nx2_93.toInt) ∧ (1 = 0 ∨ 1 = 1) from ⟨(by first | assumption | omega | decide | exact rfl | exact zb01 (by omega) | exact Or.inl (by decide) | exact Or.inr (by first | omega | decide)), (by first | assumption | omega | decide | exact rfl | exact zb01 (by omega) | exact Or.inl (by decide) | exact Or.inr (by first | omega | decide)), (by first | assumption | omega | decide | exact rfl | exact zb01 (by omega) | exact Or.inl (by decide) | exact Or.inr (by first | omega | decide)), (by first | assumption | omega | decide | exact rfl | exact zb01 (by omega) | exact Or.inl (by decide) | exact Or.inr (by first | omega | decide)), (by first | assumption | omega | decide | exact rfl | exact zb01 (by omega) | exact Or.inl (by decide) | exact Or.inr (by first | omega | decide)), (by first | assumption | omega | decide | exact rfl | exact zb01 (by omega) | exact Or.inl (by decide) | exact Or.inr (by first | omega | decide))⟩) hP hD
                  · skip
                    refine lv_if_ne (tgt := 164) hx hb dX2_readSum_159 (by decide) (fun _ => ?_) (fun c97 => absurd c97 (by decide))
                    refine ziinc3 (n' := 1) (a' := 1) (b' := 400) (lv' := fun v9 => [(1, .int v9), (3, .int 0), (2, .int 5), (0, .ref lt)]) hx hb dX2_readSum_164 hl (k := 3) rfl (by decide) (fun _ => rfl) (zaddK (i := x_1.toInt) (j := 1) rfl (by decide) i8.1 n20 (Int.le_refl _) (Int.le_refl _) (by decide)) (fun x_98 ls hx_98 hl => ?_)
                    refine lv_goto (tgt := 2) hx hb dX2_readSum_167 (by decide) ?_
                    have hl := lv_sub (l' := [(0, .ref lt), (1, .int x_98), (2, .int 5), (3, .int 0)]) hl [3, 0, 2, 1] rfl
                    have hP : va_P g.1 vwCl (List.flatten [bLT g lt ta lo, bLaw g lo lc lz2_87 ll lm lg ld fc2_88, bTape g ta ab sz ln kd2_91 bg2_92 nx2_93 x_5 fb]) H := hP
                    have hD : va_D A (List.flatten [bLT g lt ta lo, bLaw g lo lc lz2_87 ll lm lg ld fc2_88, bTape g ta ab sz ln kd2_91 bg2_92 nx2_93 x_5 fb]) := hD
                    obtain ⟨hP, hD⟩ := zord (g := g) (Bs' := [bLT g lt ta lo, bTape g ta ab sz ln kd2_91 bg2_92 nx2_93 x_5 fb, bLaw g lo lc lz2_87 ll lm lg ld fc2_88]) [0, 2, 1] rfl rfl hP hD
                    have hP : va_P g.1 vwCl (List.flatten [bLT g lt ta lo, bTape g ta ab sz ln kd2_91 bg2_92 nx2_93 x_5 fb, bLaw g lo lc lz2_87 ll lm lg ld fc2_88]) H := hP
                    have hD : va_D A (List.flatten [bLT g lt ta lo, bTape g ta ab sz ln kd2_91 bg2_92 nx2_93 x_5 fb, bLaw g lo lc lz2_87 ll lm lg ld fc2_88]) := hD
                    exact ih2_14 x_98 kd2_91 bg2_92 nx2_93 x_5 lz2_87 fc2_88 ⟨(Int.le_trans (by decide) hx_98.2.1), hx_98.2.2⟩ ⟨hq95_1.1, hq95_1.2⟩ ⟨hq95_0.1, hq95_0.2⟩ i11 ⟨hq90.1, hq90.2⟩ H _ ls (zmK hx_98.1 (by decide) n20 (by decide) hk2_14)  hP hD hS (lv_sub hl [0, 1] rfl)
              · skip
                refine lv_if_eq (tgt := 73) hx hb dX2_readSum_66 (by decide) (fun c99 => absurd c99 (by decide)) (fun _ => ?_)
                refine lv_iconst (v := 4) hx hb dX2_readSum_69 (by decide) ?_
                refine lv_goto (tgt := 107) hx hb dX2_readSum_70 (by decide) ?_
                refine lv_istore_n (lv' := [(2, .int 4), (0, .ref lt), (1, .int x_1)]) hx hb dX2_readSum_107 rfl hl (by decide) rfl (fun ls hl => ?_)
                refine lv_iconst (v := 0) hx hb dX2_readSum_108 (by decide) ?_
                refine lv_istore_n (lv' := [(3, .int 0), (2, .int 4), (0, .ref lt), (1, .int x_1)]) hx hb dX2_readSum_109 rfl hl (by decide) rfl (fun ls hl => ?_)
                refine lv_iload_n hx hb dX2_readSum_110 rfl (lv_at hl 1 rfl) ?_
                refine lv_if_ne (tgt := 133) hx hb dX2_readSum_111 (by decide) (fun _ => ?_) (fun c100 => absurd c100 (by decide))
                refine lv_aload_n hx hb dX2_readSum_133 rfl (lv_at hl 2 rfl) ?_
                refine va_get (D := g.1) (ci := 2) (v := .ref ta) (C := RX2) (T := TX2) (N := 2) hx hb hts izRX2 hown hK hP 0 rfl rfl 0 (by decide) (hts _ k290) (fun x9 h9 => u_same (hts _ k291) x9 h9) rfl dX2_readSum_134 ?_
                refine mcallV' (g := g) (q0 := 0) (ci := 6) (As := []) (rest := []) St hK hT hA hP hD hS hl.1 [2] [0, 1] rfl rfl rfl (c_t_step l g ta ab sz ln x_2 x_3 x_4 x_5 fb (⟨hln.1, hln.2⟩) (⟨i10.1, i10.2⟩)) (cwV 0 hts (zgL (zl4 k296 k275 k276 k277) k271) rfl rfl rfl (by decide +kernel) ⟨Nat.le_of_ble_eq_true rfl, Nat.le_of_ble_eq_true rfl⟩) rfl rfl rfl rfl (Nat.le_of_ble_eq_true rfl) dX2_readSum_137 ⟨(Nat.le_of_ble_eq_true rfl), (Nat.le_of_ble_eq_true rfl)⟩ (fun u_ H locs hq104 hP hD hS => ?_)
                obtain ⟨kd2_101, bg2_102, nx2_103⟩ := u_
                replace hq104 : (0 ≤ nx2_103.toInt ∧ nx2_103.toInt ≤ 400) ∧ (0 ≤ bg2_102.toInt ∧ bg2_102.toInt ≤ 400) ∧ (zKd kd2_101.toInt bg2_102.toInt nx2_103.toInt) := hq104
                have hP : va_P g.1 vwCl (List.flatten [bLT g lt ta lo, bLaw g lo lc x_6 ll lm lg ld fc_7, bTape g ta ab sz ln kd2_101 bg2_102 nx2_103 x_5 fb]) H := hP
                have hD : va_D A (List.flatten [bLT g lt ta lo, bLaw g lo lc x_6 ll lm lg ld fc_7, bTape g ta ab sz ln kd2_101 bg2_102 nx2_103 x_5 fb]) := hD
                refine W.widen (k := 0) (n := 0) (Nat.le_of_ble_eq_true rfl) (Nat.le_of_ble_eq_true rfl) ?_
                refine W.eq (g2 := F0 m 140 ls []) rfl ?_
                obtain ⟨hq104_0, hq104_1, hq104_2⟩ := hq104
                refine lv_aload_n hx hb dX2_readSum_140 rfl (lv_at hl 2 rfl) ?_
                refine va_get (D := g.1) (ci := 2) (v := .ref lo) (C := RX2) (T := TX2) (N := 2) hx hb hts izRX2 hown hK hP 0 rfl rfl 1 (by decide) (hts _ k210) (fun _ h9 => h9) rfl dX2_readSum_141 ?_
                refine lv_iload_n hx hb dX2_readSum_144 rfl (lv_at hl 1 rfl) ?_
                refine lv_iload_n hx hb dX2_readSum_145 rfl (lv_at hl 0 rfl) ?_
                refine mcallV' (g := g) (q0 := 0) (ci := 1) (As := [.int 4, .int 0]) (rest := []) St hK hT hA hP hD hS hl.1 [1] [0, 2] rfl rfl rfl (c_l_put l g lo lc x_6 ll lm lg ld fc_7 4 0 (⟨i12.1, i12.2⟩)) (cwV 2 hts (zgL (zl4 k297 k298 k299 k85) k202) rfl rfl rfl (by decide +kernel) ⟨Nat.le_of_ble_eq_true rfl, Nat.le_of_ble_eq_true rfl⟩) rfl rfl rfl rfl (Nat.le_of_ble_eq_true rfl) dX2_readSum_146 ⟨(Nat.le_of_ble_eq_true rfl), (Nat.le_of_ble_eq_true rfl)⟩ (fun u_ H locs hq108 hP hD hS => ?_)
                obtain ⟨lz2_105, fc2_106, q_107⟩ := u_
                replace hq108 : (0 ≤ lz2_105.toInt ∧ lz2_105.toInt ≤ 400) := hq108
                have hP : va_P g.1 vwCl (List.flatten [bLT g lt ta lo, bTape g ta ab sz ln kd2_101 bg2_102 nx2_103 x_5 fb, bLaw g lo lc lz2_105 ll lm lg ld fc2_106]) H := hP
                have hD : va_D A (List.flatten [bLT g lt ta lo, bTape g ta ab sz ln kd2_101 bg2_102 nx2_103 x_5 fb, bLaw g lo lc lz2_105 ll lm lg ld fc2_106]) := hD
                refine W.widen (k := 0) (n := 0) (Nat.le_of_ble_eq_true rfl) (Nat.le_of_ble_eq_true rfl) ?_
                refine W.eq (g2 := F0 m 149 ls [.int q_107]) rfl ?_
                refine lv_pop hx hb dX2_readSum_149 rfl ?_
                refine lv_aload_n hx hb dX2_readSum_150 rfl (lv_at hl 2 rfl) ?_
                refine va_get (D := g.1) (ci := 2) (v := .ref ta) (C := RX2) (T := TX2) (N := 2) hx hb hts izRX2 hown hK hP 0 rfl rfl 0 (by decide) (hts _ k290) (fun x9 h9 => u_same (hts _ k291) x9 h9) rfl dX2_readSum_151 ?_
                refine lv_bipush (v := 43) hx hb dX2_readSum_154 (by decide) ?_
                refine mcallV' (g := g) (q0 := 0) (ci := 6) (As := [.int 43]) (rest := []) St hK hT hA hP hD hS hl.1 [1] [0, 2] rfl rfl rfl (c_t_takeSign l g ta ab sz ln kd2_101 bg2_102 nx2_103 x_5 fb 43 (⟨hln.1, hln.2⟩) (⟨hq104_0.1, hq104_0.2⟩) (⟨hq104_1.1, hq104_1.2⟩) (by first | assumption | omega | decide | exact Or.inl (by decide) | exact Or.inr (by decide)) i11) (cwV 1 hts (zgL (zl4 k300 k301 k302 k277) k286) rfl rfl rfl (by decide +kernel) ⟨Nat.le_of_ble_eq_true rfl, Nat.le_of_ble_eq_true rfl⟩) rfl rfl rfl rfl (Nat.le_of_ble_eq_true rfl) dX2_readSum_156 ⟨(Nat.le_of_ble_eq_true rfl), (Nat.le_of_ble_eq_true rfl)⟩ (fun u_ H locs hq113 hP hD hS => ?_)
                obtain ⟨kd2_109, bg2_110, nx2_111, q_112⟩ := u_
                replace hq113 : (0 ≤ nx2_111.toInt ∧ nx2_111.toInt ≤ 400) ∧ (0 ≤ bg2_110.toInt ∧ bg2_110.toInt ≤ 400) ∧ (zKd kd2_109.toInt bg2_110.toInt nx2_111.toInt) ∧ (q_112 = 0 ∨ q_112 = 1) := hq113
                have hP : va_P g.1 vwCl (List.flatten [bLT g lt ta lo, bLaw g lo lc lz2_105 ll lm lg ld fc2_106, bTape g ta ab sz ln kd2_109 bg2_110 nx2_111 x_5 fb]) H := hP
                have hD : va_D A (List.flatten [bLT g lt ta lo, bLaw g lo lc lz2_105 ll lm lg ld fc2_106, bTape g ta ab sz ln kd2_109 bg2_110 nx2_111 x_5 fb]) := hD
                refine W.widen (k := 0) (n := 0) (Nat.le_of_ble_eq_true rfl) (Nat.le_of_ble_eq_true rfl) ?_
                refine W.eq (g2 := F0 m 159 ls [.int q_112]) rfl ?_
                obtain ⟨hq113_0, hq113_1, hq113_2, hq113_3⟩ := hq113
                rcases hq113_3 with rfl | rfl
                · skip
                  refine lv_if_ne (tgt := 164) hx hb dX2_readSum_159 (by decide) (fun c114 => absurd (by decide) c114) (fun _ => ?_)
                  refine lv_iconst (v := 1) hx hb dX2_readSum_162 (by decide) ?_
                  have hP : va_P g.1 vwCl (List.flatten [bLT g lt ta lo, bLaw g lo lc lz2_105 ll lm lg ld fc2_106, bTape g ta ab sz ln kd2_109 bg2_110 nx2_111 x_5 fb]) H := hP
                  have hD : va_D A (List.flatten [bLT g lt ta lo, bLaw g lo lc lz2_105 ll lm lg ld fc2_106, bTape g ta ab sz ln kd2_109 bg2_110 nx2_111 x_5 fb]) := hD
                  obtain ⟨hP, hD⟩ := zord (g := g) (Bs' := [bLT g lt ta lo, bTape g ta ab sz ln kd2_109 bg2_110 nx2_111 x_5 fb, bLaw g lo lc lz2_105 ll lm lg ld fc2_106]) [0, 2, 1] rfl rfl hP hD
                  exact mret_z hx hb hr hlocks hS (Nat.le_of_ble_eq_true rfl) (Nat.le_of_ble_eq_true rfl) dX2_readSum_163 (kd2_109, bg2_110, nx2_111, x_5, lz2_105, fc2_106, (1 : Int32)) rfl (by decide) (show (0 ≤ lz2_105.toInt ∧ lz2_105.toInt ≤ 400) ∧ (-1 ≤ x_5.toInt) ∧ (0 ≤ nx2_111.toInt ∧ nx2_111.toInt ≤ 400) ∧ (0 ≤ bg2_110.toInt ∧ bg2_110.toInt ≤ 400) ∧ (zKd kd2_109.toInt bg2_110.toInt nx2_111.toInt) ∧ (1 = 0 ∨ 1 = 1) from ⟨(by first | assumption | omega | decide | exact rfl | exact zb01 (by omega) | exact Or.inl (by decide) | exact Or.inr (by first | omega | decide)), (by first | assumption | omega | decide | exact rfl | exact zb01 (by omega) | exact Or.inl (by decide) | exact Or.inr (by first | omega | decide)), (by first | assumption | omega | decide | exact rfl | exact zb01 (by omega) | exact Or.inl (by decide) | exact Or.inr (by first | omega | decide)), (by first | assumption | omega | decide | exact rfl | exact zb01 (by omega) | exact Or.inl (by decide) | exact Or.inr (by first | omega | decide)), (by first | assumption | omega | decide | exact rfl | exact zb01 (by omega) | exact Or.inl (by decide) | exact Or.inr (by first | omega | decide)), (by first | assumption | omega | decide | exact rfl | exact zb01 (by omega) | exact Or.inl (by decide) | exact Or.inr (by first | omega | decide))⟩) hP hD
                · skip
                  refine lv_if_ne (tgt := 164) hx hb dX2_readSum_159 (by decide) (fun _ => ?_) (fun c115 => absurd c115 (by decide))
                  refine ziinc3 (n' := 1) (a' := 1) (b' := 400) (lv' := fun v9 => [(1, .int v9), (3, .int 0), (2, .int 4), (0, .ref lt)]) hx hb dX2_readSum_164 hl (k := 3) rfl (by decide) (fun _ => rfl) (zaddK (i := x_1.toInt) (j := 1) rfl (by decide) i8.1 n20 (Int.le_refl _) (Int.le_refl _) (by decide)) (fun x_116 ls hx_116 hl => ?_)
                  refine lv_goto (tgt := 2) hx hb dX2_readSum_167 (by decide) ?_
                  have hl := lv_sub (l' := [(0, .ref lt), (1, .int x_116), (2, .int 4), (3, .int 0)]) hl [3, 0, 2, 1] rfl
                  have hP : va_P g.1 vwCl (List.flatten [bLT g lt ta lo, bLaw g lo lc lz2_105 ll lm lg ld fc2_106, bTape g ta ab sz ln kd2_109 bg2_110 nx2_111 x_5 fb]) H := hP
                  have hD : va_D A (List.flatten [bLT g lt ta lo, bLaw g lo lc lz2_105 ll lm lg ld fc2_106, bTape g ta ab sz ln kd2_109 bg2_110 nx2_111 x_5 fb]) := hD
                  obtain ⟨hP, hD⟩ := zord (g := g) (Bs' := [bLT g lt ta lo, bTape g ta ab sz ln kd2_109 bg2_110 nx2_111 x_5 fb, bLaw g lo lc lz2_105 ll lm lg ld fc2_106]) [0, 2, 1] rfl rfl hP hD
                  have hP : va_P g.1 vwCl (List.flatten [bLT g lt ta lo, bTape g ta ab sz ln kd2_109 bg2_110 nx2_111 x_5 fb, bLaw g lo lc lz2_105 ll lm lg ld fc2_106]) H := hP
                  have hD : va_D A (List.flatten [bLT g lt ta lo, bTape g ta ab sz ln kd2_109 bg2_110 nx2_111 x_5 fb, bLaw g lo lc lz2_105 ll lm lg ld fc2_106]) := hD
                  exact ih2_14 x_116 kd2_109 bg2_110 nx2_111 x_5 lz2_105 fc2_106 ⟨(Int.le_trans (by decide) hx_116.2.1), hx_116.2.2⟩ ⟨hq113_1.1, hq113_1.2⟩ ⟨hq113_0.1, hq113_0.2⟩ i11 ⟨hq108.1, hq108.2⟩ H _ ls (zmK hx_116.1 (by decide) n20 (by decide) hk2_14)  hP hD hS (lv_sub hl [0, 1] rfl)
            · skip
              refine lv_if_eq (tgt := 57) hx hb dX2_readSum_50 (by decide) (fun c117 => absurd c117 (by decide)) (fun _ => ?_)
              refine lv_iconst (v := 3) hx hb dX2_readSum_53 (by decide) ?_
              refine lv_goto (tgt := 107) hx hb dX2_readSum_54 (by decide) ?_
              refine lv_istore_n (lv' := [(2, .int 3), (0, .ref lt), (1, .int x_1)]) hx hb dX2_readSum_107 rfl hl (by decide) rfl (fun ls hl => ?_)
              refine lv_iconst (v := 0) hx hb dX2_readSum_108 (by decide) ?_
              refine lv_istore_n (lv' := [(3, .int 0), (2, .int 3), (0, .ref lt), (1, .int x_1)]) hx hb dX2_readSum_109 rfl hl (by decide) rfl (fun ls hl => ?_)
              refine lv_iload_n hx hb dX2_readSum_110 rfl (lv_at hl 1 rfl) ?_
              refine lv_if_ne (tgt := 133) hx hb dX2_readSum_111 (by decide) (fun _ => ?_) (fun c118 => absurd c118 (by decide))
              refine lv_aload_n hx hb dX2_readSum_133 rfl (lv_at hl 2 rfl) ?_
              refine va_get (D := g.1) (ci := 2) (v := .ref ta) (C := RX2) (T := TX2) (N := 2) hx hb hts izRX2 hown hK hP 0 rfl rfl 0 (by decide) (hts _ k290) (fun x9 h9 => u_same (hts _ k291) x9 h9) rfl dX2_readSum_134 ?_
              refine mcallV' (g := g) (q0 := 0) (ci := 6) (As := []) (rest := []) St hK hT hA hP hD hS hl.1 [2] [0, 1] rfl rfl rfl (c_t_step l g ta ab sz ln x_2 x_3 x_4 x_5 fb (⟨hln.1, hln.2⟩) (⟨i10.1, i10.2⟩)) (cwV 0 hts (zgL (zl4 k296 k275 k276 k277) k271) rfl rfl rfl (by decide +kernel) ⟨Nat.le_of_ble_eq_true rfl, Nat.le_of_ble_eq_true rfl⟩) rfl rfl rfl rfl (Nat.le_of_ble_eq_true rfl) dX2_readSum_137 ⟨(Nat.le_of_ble_eq_true rfl), (Nat.le_of_ble_eq_true rfl)⟩ (fun u_ H locs hq122 hP hD hS => ?_)
              obtain ⟨kd2_119, bg2_120, nx2_121⟩ := u_
              replace hq122 : (0 ≤ nx2_121.toInt ∧ nx2_121.toInt ≤ 400) ∧ (0 ≤ bg2_120.toInt ∧ bg2_120.toInt ≤ 400) ∧ (zKd kd2_119.toInt bg2_120.toInt nx2_121.toInt) := hq122
              have hP : va_P g.1 vwCl (List.flatten [bLT g lt ta lo, bLaw g lo lc x_6 ll lm lg ld fc_7, bTape g ta ab sz ln kd2_119 bg2_120 nx2_121 x_5 fb]) H := hP
              have hD : va_D A (List.flatten [bLT g lt ta lo, bLaw g lo lc x_6 ll lm lg ld fc_7, bTape g ta ab sz ln kd2_119 bg2_120 nx2_121 x_5 fb]) := hD
              refine W.widen (k := 0) (n := 0) (Nat.le_of_ble_eq_true rfl) (Nat.le_of_ble_eq_true rfl) ?_
              refine W.eq (g2 := F0 m 140 ls []) rfl ?_
              obtain ⟨hq122_0, hq122_1, hq122_2⟩ := hq122
              refine lv_aload_n hx hb dX2_readSum_140 rfl (lv_at hl 2 rfl) ?_
              refine va_get (D := g.1) (ci := 2) (v := .ref lo) (C := RX2) (T := TX2) (N := 2) hx hb hts izRX2 hown hK hP 0 rfl rfl 1 (by decide) (hts _ k210) (fun _ h9 => h9) rfl dX2_readSum_141 ?_
              refine lv_iload_n hx hb dX2_readSum_144 rfl (lv_at hl 1 rfl) ?_
              refine lv_iload_n hx hb dX2_readSum_145 rfl (lv_at hl 0 rfl) ?_
              refine mcallV' (g := g) (q0 := 0) (ci := 1) (As := [.int 3, .int 0]) (rest := []) St hK hT hA hP hD hS hl.1 [1] [0, 2] rfl rfl rfl (c_l_put l g lo lc x_6 ll lm lg ld fc_7 3 0 (⟨i12.1, i12.2⟩)) (cwV 2 hts (zgL (zl4 k297 k298 k299 k85) k202) rfl rfl rfl (by decide +kernel) ⟨Nat.le_of_ble_eq_true rfl, Nat.le_of_ble_eq_true rfl⟩) rfl rfl rfl rfl (Nat.le_of_ble_eq_true rfl) dX2_readSum_146 ⟨(Nat.le_of_ble_eq_true rfl), (Nat.le_of_ble_eq_true rfl)⟩ (fun u_ H locs hq126 hP hD hS => ?_)
              obtain ⟨lz2_123, fc2_124, q_125⟩ := u_
              replace hq126 : (0 ≤ lz2_123.toInt ∧ lz2_123.toInt ≤ 400) := hq126
              have hP : va_P g.1 vwCl (List.flatten [bLT g lt ta lo, bTape g ta ab sz ln kd2_119 bg2_120 nx2_121 x_5 fb, bLaw g lo lc lz2_123 ll lm lg ld fc2_124]) H := hP
              have hD : va_D A (List.flatten [bLT g lt ta lo, bTape g ta ab sz ln kd2_119 bg2_120 nx2_121 x_5 fb, bLaw g lo lc lz2_123 ll lm lg ld fc2_124]) := hD
              refine W.widen (k := 0) (n := 0) (Nat.le_of_ble_eq_true rfl) (Nat.le_of_ble_eq_true rfl) ?_
              refine W.eq (g2 := F0 m 149 ls [.int q_125]) rfl ?_
              refine lv_pop hx hb dX2_readSum_149 rfl ?_
              refine lv_aload_n hx hb dX2_readSum_150 rfl (lv_at hl 2 rfl) ?_
              refine va_get (D := g.1) (ci := 2) (v := .ref ta) (C := RX2) (T := TX2) (N := 2) hx hb hts izRX2 hown hK hP 0 rfl rfl 0 (by decide) (hts _ k290) (fun x9 h9 => u_same (hts _ k291) x9 h9) rfl dX2_readSum_151 ?_
              refine lv_bipush (v := 43) hx hb dX2_readSum_154 (by decide) ?_
              refine mcallV' (g := g) (q0 := 0) (ci := 6) (As := [.int 43]) (rest := []) St hK hT hA hP hD hS hl.1 [1] [0, 2] rfl rfl rfl (c_t_takeSign l g ta ab sz ln kd2_119 bg2_120 nx2_121 x_5 fb 43 (⟨hln.1, hln.2⟩) (⟨hq122_0.1, hq122_0.2⟩) (⟨hq122_1.1, hq122_1.2⟩) (by first | assumption | omega | decide | exact Or.inl (by decide) | exact Or.inr (by decide)) i11) (cwV 1 hts (zgL (zl4 k300 k301 k302 k277) k286) rfl rfl rfl (by decide +kernel) ⟨Nat.le_of_ble_eq_true rfl, Nat.le_of_ble_eq_true rfl⟩) rfl rfl rfl rfl (Nat.le_of_ble_eq_true rfl) dX2_readSum_156 ⟨(Nat.le_of_ble_eq_true rfl), (Nat.le_of_ble_eq_true rfl)⟩ (fun u_ H locs hq131 hP hD hS => ?_)
              obtain ⟨kd2_127, bg2_128, nx2_129, q_130⟩ := u_
              replace hq131 : (0 ≤ nx2_129.toInt ∧ nx2_129.toInt ≤ 400) ∧ (0 ≤ bg2_128.toInt ∧ bg2_128.toInt ≤ 400) ∧ (zKd kd2_127.toInt bg2_128.toInt nx2_129.toInt) ∧ (q_130 = 0 ∨ q_130 = 1) := hq131
              have hP : va_P g.1 vwCl (List.flatten [bLT g lt ta lo, bLaw g lo lc lz2_123 ll lm lg ld fc2_124, bTape g ta ab sz ln kd2_127 bg2_128 nx2_129 x_5 fb]) H := hP
              have hD : va_D A (List.flatten [bLT g lt ta lo, bLaw g lo lc lz2_123 ll lm lg ld fc2_124, bTape g ta ab sz ln kd2_127 bg2_128 nx2_129 x_5 fb]) := hD
              refine W.widen (k := 0) (n := 0) (Nat.le_of_ble_eq_true rfl) (Nat.le_of_ble_eq_true rfl) ?_
              refine W.eq (g2 := F0 m 159 ls [.int q_130]) rfl ?_
              obtain ⟨hq131_0, hq131_1, hq131_2, hq131_3⟩ := hq131
              rcases hq131_3 with rfl | rfl
              · skip
                refine lv_if_ne (tgt := 164) hx hb dX2_readSum_159 (by decide) (fun c132 => absurd (by decide) c132) (fun _ => ?_)
                refine lv_iconst (v := 1) hx hb dX2_readSum_162 (by decide) ?_
                have hP : va_P g.1 vwCl (List.flatten [bLT g lt ta lo, bLaw g lo lc lz2_123 ll lm lg ld fc2_124, bTape g ta ab sz ln kd2_127 bg2_128 nx2_129 x_5 fb]) H := hP
                have hD : va_D A (List.flatten [bLT g lt ta lo, bLaw g lo lc lz2_123 ll lm lg ld fc2_124, bTape g ta ab sz ln kd2_127 bg2_128 nx2_129 x_5 fb]) := hD
                obtain ⟨hP, hD⟩ := zord (g := g) (Bs' := [bLT g lt ta lo, bTape g ta ab sz ln kd2_127 bg2_128 nx2_129 x_5 fb, bLaw g lo lc lz2_123 ll lm lg ld fc2_124]) [0, 2, 1] rfl rfl hP hD
                exact mret_z hx hb hr hlocks hS (Nat.le_of_ble_eq_true rfl) (Nat.le_of_ble_eq_true rfl) dX2_readSum_163 (kd2_127, bg2_128, nx2_129, x_5, lz2_123, fc2_124, (1 : Int32)) rfl (by decide) (show (0 ≤ lz2_123.toInt ∧ lz2_123.toInt ≤ 400) ∧ (-1 ≤ x_5.toInt) ∧ (0 ≤ nx2_129.toInt ∧ nx2_129.toInt ≤ 400) ∧ (0 ≤ bg2_128.toInt ∧ bg2_128.toInt ≤ 400) ∧ (zKd kd2_127.toInt bg2_128.toInt nx2_129.toInt) ∧ (1 = 0 ∨ 1 = 1) from ⟨(by first | assumption | omega | decide | exact rfl | exact zb01 (by omega) | exact Or.inl (by decide) | exact Or.inr (by first | omega | decide)), (by first | assumption | omega | decide | exact rfl | exact zb01 (by omega) | exact Or.inl (by decide) | exact Or.inr (by first | omega | decide)), (by first | assumption | omega | decide | exact rfl | exact zb01 (by omega) | exact Or.inl (by decide) | exact Or.inr (by first | omega | decide)), (by first | assumption | omega | decide | exact rfl | exact zb01 (by omega) | exact Or.inl (by decide) | exact Or.inr (by first | omega | decide)), (by first | assumption | omega | decide | exact rfl | exact zb01 (by omega) | exact Or.inl (by decide) | exact Or.inr (by first | omega | decide)), (by first | assumption | omega | decide | exact rfl | exact zb01 (by omega) | exact Or.inl (by decide) | exact Or.inr (by first | omega | decide))⟩) hP hD
              · skip
                refine lv_if_ne (tgt := 164) hx hb dX2_readSum_159 (by decide) (fun _ => ?_) (fun c133 => absurd c133 (by decide))
                refine ziinc3 (n' := 1) (a' := 1) (b' := 400) (lv' := fun v9 => [(1, .int v9), (3, .int 0), (2, .int 3), (0, .ref lt)]) hx hb dX2_readSum_164 hl (k := 3) rfl (by decide) (fun _ => rfl) (zaddK (i := x_1.toInt) (j := 1) rfl (by decide) i8.1 n20 (Int.le_refl _) (Int.le_refl _) (by decide)) (fun x_134 ls hx_134 hl => ?_)
                refine lv_goto (tgt := 2) hx hb dX2_readSum_167 (by decide) ?_
                have hl := lv_sub (l' := [(0, .ref lt), (1, .int x_134), (2, .int 3), (3, .int 0)]) hl [3, 0, 2, 1] rfl
                have hP : va_P g.1 vwCl (List.flatten [bLT g lt ta lo, bLaw g lo lc lz2_123 ll lm lg ld fc2_124, bTape g ta ab sz ln kd2_127 bg2_128 nx2_129 x_5 fb]) H := hP
                have hD : va_D A (List.flatten [bLT g lt ta lo, bLaw g lo lc lz2_123 ll lm lg ld fc2_124, bTape g ta ab sz ln kd2_127 bg2_128 nx2_129 x_5 fb]) := hD
                obtain ⟨hP, hD⟩ := zord (g := g) (Bs' := [bLT g lt ta lo, bTape g ta ab sz ln kd2_127 bg2_128 nx2_129 x_5 fb, bLaw g lo lc lz2_123 ll lm lg ld fc2_124]) [0, 2, 1] rfl rfl hP hD
                have hP : va_P g.1 vwCl (List.flatten [bLT g lt ta lo, bTape g ta ab sz ln kd2_127 bg2_128 nx2_129 x_5 fb, bLaw g lo lc lz2_123 ll lm lg ld fc2_124]) H := hP
                have hD : va_D A (List.flatten [bLT g lt ta lo, bTape g ta ab sz ln kd2_127 bg2_128 nx2_129 x_5 fb, bLaw g lo lc lz2_123 ll lm lg ld fc2_124]) := hD
                exact ih2_14 x_134 kd2_127 bg2_128 nx2_129 x_5 lz2_123 fc2_124 ⟨(Int.le_trans (by decide) hx_134.2.1), hx_134.2.2⟩ ⟨hq131_1.1, hq131_1.2⟩ ⟨hq131_0.1, hq131_0.2⟩ i11 ⟨hq126.1, hq126.2⟩ H _ ls (zmK hx_134.1 (by decide) n20 (by decide) hk2_14)  hP hD hS (lv_sub hl [0, 1] rfl)
          · skip
            refine lv_if_eq (tgt := 41) hx hb dX2_readSum_34 (by decide) (fun c135 => absurd c135 (by decide)) (fun _ => ?_)
            refine lv_iconst (v := 2) hx hb dX2_readSum_37 (by decide) ?_
            refine lv_goto (tgt := 107) hx hb dX2_readSum_38 (by decide) ?_
            refine lv_istore_n (lv' := [(2, .int 2), (0, .ref lt), (1, .int x_1)]) hx hb dX2_readSum_107 rfl hl (by decide) rfl (fun ls hl => ?_)
            refine lv_iconst (v := 0) hx hb dX2_readSum_108 (by decide) ?_
            refine lv_istore_n (lv' := [(3, .int 0), (2, .int 2), (0, .ref lt), (1, .int x_1)]) hx hb dX2_readSum_109 rfl hl (by decide) rfl (fun ls hl => ?_)
            refine lv_iload_n hx hb dX2_readSum_110 rfl (lv_at hl 1 rfl) ?_
            refine lv_if_ne (tgt := 133) hx hb dX2_readSum_111 (by decide) (fun _ => ?_) (fun c136 => absurd c136 (by decide))
            refine lv_aload_n hx hb dX2_readSum_133 rfl (lv_at hl 2 rfl) ?_
            refine va_get (D := g.1) (ci := 2) (v := .ref ta) (C := RX2) (T := TX2) (N := 2) hx hb hts izRX2 hown hK hP 0 rfl rfl 0 (by decide) (hts _ k290) (fun x9 h9 => u_same (hts _ k291) x9 h9) rfl dX2_readSum_134 ?_
            refine mcallV' (g := g) (q0 := 0) (ci := 6) (As := []) (rest := []) St hK hT hA hP hD hS hl.1 [2] [0, 1] rfl rfl rfl (c_t_step l g ta ab sz ln x_2 x_3 x_4 x_5 fb (⟨hln.1, hln.2⟩) (⟨i10.1, i10.2⟩)) (cwV 0 hts (zgL (zl4 k296 k275 k276 k277) k271) rfl rfl rfl (by decide +kernel) ⟨Nat.le_of_ble_eq_true rfl, Nat.le_of_ble_eq_true rfl⟩) rfl rfl rfl rfl (Nat.le_of_ble_eq_true rfl) dX2_readSum_137 ⟨(Nat.le_of_ble_eq_true rfl), (Nat.le_of_ble_eq_true rfl)⟩ (fun u_ H locs hq140 hP hD hS => ?_)
            obtain ⟨kd2_137, bg2_138, nx2_139⟩ := u_
            replace hq140 : (0 ≤ nx2_139.toInt ∧ nx2_139.toInt ≤ 400) ∧ (0 ≤ bg2_138.toInt ∧ bg2_138.toInt ≤ 400) ∧ (zKd kd2_137.toInt bg2_138.toInt nx2_139.toInt) := hq140
            have hP : va_P g.1 vwCl (List.flatten [bLT g lt ta lo, bLaw g lo lc x_6 ll lm lg ld fc_7, bTape g ta ab sz ln kd2_137 bg2_138 nx2_139 x_5 fb]) H := hP
            have hD : va_D A (List.flatten [bLT g lt ta lo, bLaw g lo lc x_6 ll lm lg ld fc_7, bTape g ta ab sz ln kd2_137 bg2_138 nx2_139 x_5 fb]) := hD
            refine W.widen (k := 0) (n := 0) (Nat.le_of_ble_eq_true rfl) (Nat.le_of_ble_eq_true rfl) ?_
            refine W.eq (g2 := F0 m 140 ls []) rfl ?_
            obtain ⟨hq140_0, hq140_1, hq140_2⟩ := hq140
            refine lv_aload_n hx hb dX2_readSum_140 rfl (lv_at hl 2 rfl) ?_
            refine va_get (D := g.1) (ci := 2) (v := .ref lo) (C := RX2) (T := TX2) (N := 2) hx hb hts izRX2 hown hK hP 0 rfl rfl 1 (by decide) (hts _ k210) (fun _ h9 => h9) rfl dX2_readSum_141 ?_
            refine lv_iload_n hx hb dX2_readSum_144 rfl (lv_at hl 1 rfl) ?_
            refine lv_iload_n hx hb dX2_readSum_145 rfl (lv_at hl 0 rfl) ?_
            refine mcallV' (g := g) (q0 := 0) (ci := 1) (As := [.int 2, .int 0]) (rest := []) St hK hT hA hP hD hS hl.1 [1] [0, 2] rfl rfl rfl (c_l_put l g lo lc x_6 ll lm lg ld fc_7 2 0 (⟨i12.1, i12.2⟩)) (cwV 2 hts (zgL (zl4 k297 k298 k299 k85) k202) rfl rfl rfl (by decide +kernel) ⟨Nat.le_of_ble_eq_true rfl, Nat.le_of_ble_eq_true rfl⟩) rfl rfl rfl rfl (Nat.le_of_ble_eq_true rfl) dX2_readSum_146 ⟨(Nat.le_of_ble_eq_true rfl), (Nat.le_of_ble_eq_true rfl)⟩ (fun u_ H locs hq144 hP hD hS => ?_)
            obtain ⟨lz2_141, fc2_142, q_143⟩ := u_
            replace hq144 : (0 ≤ lz2_141.toInt ∧ lz2_141.toInt ≤ 400) := hq144
            have hP : va_P g.1 vwCl (List.flatten [bLT g lt ta lo, bTape g ta ab sz ln kd2_137 bg2_138 nx2_139 x_5 fb, bLaw g lo lc lz2_141 ll lm lg ld fc2_142]) H := hP
            have hD : va_D A (List.flatten [bLT g lt ta lo, bTape g ta ab sz ln kd2_137 bg2_138 nx2_139 x_5 fb, bLaw g lo lc lz2_141 ll lm lg ld fc2_142]) := hD
            refine W.widen (k := 0) (n := 0) (Nat.le_of_ble_eq_true rfl) (Nat.le_of_ble_eq_true rfl) ?_
            refine W.eq (g2 := F0 m 149 ls [.int q_143]) rfl ?_
            refine lv_pop hx hb dX2_readSum_149 rfl ?_
            refine lv_aload_n hx hb dX2_readSum_150 rfl (lv_at hl 2 rfl) ?_
            refine va_get (D := g.1) (ci := 2) (v := .ref ta) (C := RX2) (T := TX2) (N := 2) hx hb hts izRX2 hown hK hP 0 rfl rfl 0 (by decide) (hts _ k290) (fun x9 h9 => u_same (hts _ k291) x9 h9) rfl dX2_readSum_151 ?_
            refine lv_bipush (v := 43) hx hb dX2_readSum_154 (by decide) ?_
            refine mcallV' (g := g) (q0 := 0) (ci := 6) (As := [.int 43]) (rest := []) St hK hT hA hP hD hS hl.1 [1] [0, 2] rfl rfl rfl (c_t_takeSign l g ta ab sz ln kd2_137 bg2_138 nx2_139 x_5 fb 43 (⟨hln.1, hln.2⟩) (⟨hq140_0.1, hq140_0.2⟩) (⟨hq140_1.1, hq140_1.2⟩) (by first | assumption | omega | decide | exact Or.inl (by decide) | exact Or.inr (by decide)) i11) (cwV 1 hts (zgL (zl4 k300 k301 k302 k277) k286) rfl rfl rfl (by decide +kernel) ⟨Nat.le_of_ble_eq_true rfl, Nat.le_of_ble_eq_true rfl⟩) rfl rfl rfl rfl (Nat.le_of_ble_eq_true rfl) dX2_readSum_156 ⟨(Nat.le_of_ble_eq_true rfl), (Nat.le_of_ble_eq_true rfl)⟩ (fun u_ H locs hq149 hP hD hS => ?_)
            obtain ⟨kd2_145, bg2_146, nx2_147, q_148⟩ := u_
            replace hq149 : (0 ≤ nx2_147.toInt ∧ nx2_147.toInt ≤ 400) ∧ (0 ≤ bg2_146.toInt ∧ bg2_146.toInt ≤ 400) ∧ (zKd kd2_145.toInt bg2_146.toInt nx2_147.toInt) ∧ (q_148 = 0 ∨ q_148 = 1) := hq149
            have hP : va_P g.1 vwCl (List.flatten [bLT g lt ta lo, bLaw g lo lc lz2_141 ll lm lg ld fc2_142, bTape g ta ab sz ln kd2_145 bg2_146 nx2_147 x_5 fb]) H := hP
            have hD : va_D A (List.flatten [bLT g lt ta lo, bLaw g lo lc lz2_141 ll lm lg ld fc2_142, bTape g ta ab sz ln kd2_145 bg2_146 nx2_147 x_5 fb]) := hD
            refine W.widen (k := 0) (n := 0) (Nat.le_of_ble_eq_true rfl) (Nat.le_of_ble_eq_true rfl) ?_
            refine W.eq (g2 := F0 m 159 ls [.int q_148]) rfl ?_
            obtain ⟨hq149_0, hq149_1, hq149_2, hq149_3⟩ := hq149
            rcases hq149_3 with rfl | rfl
            · skip
              refine lv_if_ne (tgt := 164) hx hb dX2_readSum_159 (by decide) (fun c150 => absurd (by decide) c150) (fun _ => ?_)
              refine lv_iconst (v := 1) hx hb dX2_readSum_162 (by decide) ?_
              have hP : va_P g.1 vwCl (List.flatten [bLT g lt ta lo, bLaw g lo lc lz2_141 ll lm lg ld fc2_142, bTape g ta ab sz ln kd2_145 bg2_146 nx2_147 x_5 fb]) H := hP
              have hD : va_D A (List.flatten [bLT g lt ta lo, bLaw g lo lc lz2_141 ll lm lg ld fc2_142, bTape g ta ab sz ln kd2_145 bg2_146 nx2_147 x_5 fb]) := hD
              obtain ⟨hP, hD⟩ := zord (g := g) (Bs' := [bLT g lt ta lo, bTape g ta ab sz ln kd2_145 bg2_146 nx2_147 x_5 fb, bLaw g lo lc lz2_141 ll lm lg ld fc2_142]) [0, 2, 1] rfl rfl hP hD
              exact mret_z hx hb hr hlocks hS (Nat.le_of_ble_eq_true rfl) (Nat.le_of_ble_eq_true rfl) dX2_readSum_163 (kd2_145, bg2_146, nx2_147, x_5, lz2_141, fc2_142, (1 : Int32)) rfl (by decide) (show (0 ≤ lz2_141.toInt ∧ lz2_141.toInt ≤ 400) ∧ (-1 ≤ x_5.toInt) ∧ (0 ≤ nx2_147.toInt ∧ nx2_147.toInt ≤ 400) ∧ (0 ≤ bg2_146.toInt ∧ bg2_146.toInt ≤ 400) ∧ (zKd kd2_145.toInt bg2_146.toInt nx2_147.toInt) ∧ (1 = 0 ∨ 1 = 1) from ⟨(by first | assumption | omega | decide | exact rfl | exact zb01 (by omega) | exact Or.inl (by decide) | exact Or.inr (by first | omega | decide)), (by first | assumption | omega | decide | exact rfl | exact zb01 (by omega) | exact Or.inl (by decide) | exact Or.inr (by first | omega | decide)), (by first | assumption | omega | decide | exact rfl | exact zb01 (by omega) | exact Or.inl (by decide) | exact Or.inr (by first | omega | decide)), (by first | assumption | omega | decide | exact rfl | exact zb01 (by omega) | exact Or.inl (by decide) | exact Or.inr (by first | omega | decide)), (by first | assumption | omega | decide | exact rfl | exact zb01 (by omega) | exact Or.inl (by decide) | exact Or.inr (by first | omega | decide)), (by first | assumption | omega | decide | exact rfl | exact zb01 (by omega) | exact Or.inl (by decide) | exact Or.inr (by first | omega | decide))⟩) hP hD
            · skip
              refine lv_if_ne (tgt := 164) hx hb dX2_readSum_159 (by decide) (fun _ => ?_) (fun c151 => absurd c151 (by decide))
              refine ziinc3 (n' := 1) (a' := 1) (b' := 400) (lv' := fun v9 => [(1, .int v9), (3, .int 0), (2, .int 2), (0, .ref lt)]) hx hb dX2_readSum_164 hl (k := 3) rfl (by decide) (fun _ => rfl) (zaddK (i := x_1.toInt) (j := 1) rfl (by decide) i8.1 n20 (Int.le_refl _) (Int.le_refl _) (by decide)) (fun x_152 ls hx_152 hl => ?_)
              refine lv_goto (tgt := 2) hx hb dX2_readSum_167 (by decide) ?_
              have hl := lv_sub (l' := [(0, .ref lt), (1, .int x_152), (2, .int 2), (3, .int 0)]) hl [3, 0, 2, 1] rfl
              have hP : va_P g.1 vwCl (List.flatten [bLT g lt ta lo, bLaw g lo lc lz2_141 ll lm lg ld fc2_142, bTape g ta ab sz ln kd2_145 bg2_146 nx2_147 x_5 fb]) H := hP
              have hD : va_D A (List.flatten [bLT g lt ta lo, bLaw g lo lc lz2_141 ll lm lg ld fc2_142, bTape g ta ab sz ln kd2_145 bg2_146 nx2_147 x_5 fb]) := hD
              obtain ⟨hP, hD⟩ := zord (g := g) (Bs' := [bLT g lt ta lo, bTape g ta ab sz ln kd2_145 bg2_146 nx2_147 x_5 fb, bLaw g lo lc lz2_141 ll lm lg ld fc2_142]) [0, 2, 1] rfl rfl hP hD
              have hP : va_P g.1 vwCl (List.flatten [bLT g lt ta lo, bTape g ta ab sz ln kd2_145 bg2_146 nx2_147 x_5 fb, bLaw g lo lc lz2_141 ll lm lg ld fc2_142]) H := hP
              have hD : va_D A (List.flatten [bLT g lt ta lo, bTape g ta ab sz ln kd2_145 bg2_146 nx2_147 x_5 fb, bLaw g lo lc lz2_141 ll lm lg ld fc2_142]) := hD
              exact ih2_14 x_152 kd2_145 bg2_146 nx2_147 x_5 lz2_141 fc2_142 ⟨(Int.le_trans (by decide) hx_152.2.1), hx_152.2.2⟩ ⟨hq149_1.1, hq149_1.2⟩ ⟨hq149_0.1, hq149_0.2⟩ i11 ⟨hq144.1, hq144.2⟩ H _ ls (zmK hx_152.1 (by decide) n20 (by decide) hk2_14)  hP hD hS (lv_sub hl [0, 1] rfl)
        · skip
          refine lv_if_eq (tgt := 25) hx hb dX2_readSum_18 (by decide) (fun c153 => absurd c153 (by decide)) (fun _ => ?_)
          refine lv_iconst (v := 1) hx hb dX2_readSum_21 (by decide) ?_
          refine lv_goto (tgt := 107) hx hb dX2_readSum_22 (by decide) ?_
          refine lv_istore_n (lv' := [(2, .int 1), (0, .ref lt), (1, .int x_1)]) hx hb dX2_readSum_107 rfl hl (by decide) rfl (fun ls hl => ?_)
          refine lv_iconst (v := 0) hx hb dX2_readSum_108 (by decide) ?_
          refine lv_istore_n (lv' := [(3, .int 0), (2, .int 1), (0, .ref lt), (1, .int x_1)]) hx hb dX2_readSum_109 rfl hl (by decide) rfl (fun ls hl => ?_)
          refine lv_iload_n hx hb dX2_readSum_110 rfl (lv_at hl 1 rfl) ?_
          refine lv_if_ne (tgt := 133) hx hb dX2_readSum_111 (by decide) (fun _ => ?_) (fun c154 => absurd c154 (by decide))
          refine lv_aload_n hx hb dX2_readSum_133 rfl (lv_at hl 2 rfl) ?_
          refine va_get (D := g.1) (ci := 2) (v := .ref ta) (C := RX2) (T := TX2) (N := 2) hx hb hts izRX2 hown hK hP 0 rfl rfl 0 (by decide) (hts _ k290) (fun x9 h9 => u_same (hts _ k291) x9 h9) rfl dX2_readSum_134 ?_
          refine mcallV' (g := g) (q0 := 0) (ci := 6) (As := []) (rest := []) St hK hT hA hP hD hS hl.1 [2] [0, 1] rfl rfl rfl (c_t_step l g ta ab sz ln x_2 x_3 x_4 x_5 fb (⟨hln.1, hln.2⟩) (⟨i10.1, i10.2⟩)) (cwV 0 hts (zgL (zl4 k296 k275 k276 k277) k271) rfl rfl rfl (by decide +kernel) ⟨Nat.le_of_ble_eq_true rfl, Nat.le_of_ble_eq_true rfl⟩) rfl rfl rfl rfl (Nat.le_of_ble_eq_true rfl) dX2_readSum_137 ⟨(Nat.le_of_ble_eq_true rfl), (Nat.le_of_ble_eq_true rfl)⟩ (fun u_ H locs hq158 hP hD hS => ?_)
          obtain ⟨kd2_155, bg2_156, nx2_157⟩ := u_
          replace hq158 : (0 ≤ nx2_157.toInt ∧ nx2_157.toInt ≤ 400) ∧ (0 ≤ bg2_156.toInt ∧ bg2_156.toInt ≤ 400) ∧ (zKd kd2_155.toInt bg2_156.toInt nx2_157.toInt) := hq158
          have hP : va_P g.1 vwCl (List.flatten [bLT g lt ta lo, bLaw g lo lc x_6 ll lm lg ld fc_7, bTape g ta ab sz ln kd2_155 bg2_156 nx2_157 x_5 fb]) H := hP
          have hD : va_D A (List.flatten [bLT g lt ta lo, bLaw g lo lc x_6 ll lm lg ld fc_7, bTape g ta ab sz ln kd2_155 bg2_156 nx2_157 x_5 fb]) := hD
          refine W.widen (k := 0) (n := 0) (Nat.le_of_ble_eq_true rfl) (Nat.le_of_ble_eq_true rfl) ?_
          refine W.eq (g2 := F0 m 140 ls []) rfl ?_
          obtain ⟨hq158_0, hq158_1, hq158_2⟩ := hq158
          refine lv_aload_n hx hb dX2_readSum_140 rfl (lv_at hl 2 rfl) ?_
          refine va_get (D := g.1) (ci := 2) (v := .ref lo) (C := RX2) (T := TX2) (N := 2) hx hb hts izRX2 hown hK hP 0 rfl rfl 1 (by decide) (hts _ k210) (fun _ h9 => h9) rfl dX2_readSum_141 ?_
          refine lv_iload_n hx hb dX2_readSum_144 rfl (lv_at hl 1 rfl) ?_
          refine lv_iload_n hx hb dX2_readSum_145 rfl (lv_at hl 0 rfl) ?_
          refine mcallV' (g := g) (q0 := 0) (ci := 1) (As := [.int 1, .int 0]) (rest := []) St hK hT hA hP hD hS hl.1 [1] [0, 2] rfl rfl rfl (c_l_put l g lo lc x_6 ll lm lg ld fc_7 1 0 (⟨i12.1, i12.2⟩)) (cwV 2 hts (zgL (zl4 k297 k298 k299 k85) k202) rfl rfl rfl (by decide +kernel) ⟨Nat.le_of_ble_eq_true rfl, Nat.le_of_ble_eq_true rfl⟩) rfl rfl rfl rfl (Nat.le_of_ble_eq_true rfl) dX2_readSum_146 ⟨(Nat.le_of_ble_eq_true rfl), (Nat.le_of_ble_eq_true rfl)⟩ (fun u_ H locs hq162 hP hD hS => ?_)
          obtain ⟨lz2_159, fc2_160, q_161⟩ := u_
          replace hq162 : (0 ≤ lz2_159.toInt ∧ lz2_159.toInt ≤ 400) := hq162
          have hP : va_P g.1 vwCl (List.flatten [bLT g lt ta lo, bTape g ta ab sz ln kd2_155 bg2_156 nx2_157 x_5 fb, bLaw g lo lc lz2_159 ll lm lg ld fc2_160]) H := hP
          have hD : va_D A (List.flatten [bLT g lt ta lo, bTape g ta ab sz ln kd2_155 bg2_156 nx2_157 x_5 fb, bLaw g lo lc lz2_159 ll lm lg ld fc2_160]) := hD
          refine W.widen (k := 0) (n := 0) (Nat.le_of_ble_eq_true rfl) (Nat.le_of_ble_eq_true rfl) ?_
          refine W.eq (g2 := F0 m 149 ls [.int q_161]) rfl ?_
          refine lv_pop hx hb dX2_readSum_149 rfl ?_
          refine lv_aload_n hx hb dX2_readSum_150 rfl (lv_at hl 2 rfl) ?_
          refine va_get (D := g.1) (ci := 2) (v := .ref ta) (C := RX2) (T := TX2) (N := 2) hx hb hts izRX2 hown hK hP 0 rfl rfl 0 (by decide) (hts _ k290) (fun x9 h9 => u_same (hts _ k291) x9 h9) rfl dX2_readSum_151 ?_
          refine lv_bipush (v := 43) hx hb dX2_readSum_154 (by decide) ?_
          refine mcallV' (g := g) (q0 := 0) (ci := 6) (As := [.int 43]) (rest := []) St hK hT hA hP hD hS hl.1 [1] [0, 2] rfl rfl rfl (c_t_takeSign l g ta ab sz ln kd2_155 bg2_156 nx2_157 x_5 fb 43 (⟨hln.1, hln.2⟩) (⟨hq158_0.1, hq158_0.2⟩) (⟨hq158_1.1, hq158_1.2⟩) (by first | assumption | omega | decide | exact Or.inl (by decide) | exact Or.inr (by decide)) i11) (cwV 1 hts (zgL (zl4 k300 k301 k302 k277) k286) rfl rfl rfl (by decide +kernel) ⟨Nat.le_of_ble_eq_true rfl, Nat.le_of_ble_eq_true rfl⟩) rfl rfl rfl rfl (Nat.le_of_ble_eq_true rfl) dX2_readSum_156 ⟨(Nat.le_of_ble_eq_true rfl), (Nat.le_of_ble_eq_true rfl)⟩ (fun u_ H locs hq167 hP hD hS => ?_)
          obtain ⟨kd2_163, bg2_164, nx2_165, q_166⟩ := u_
          replace hq167 : (0 ≤ nx2_165.toInt ∧ nx2_165.toInt ≤ 400) ∧ (0 ≤ bg2_164.toInt ∧ bg2_164.toInt ≤ 400) ∧ (zKd kd2_163.toInt bg2_164.toInt nx2_165.toInt) ∧ (q_166 = 0 ∨ q_166 = 1) := hq167
          have hP : va_P g.1 vwCl (List.flatten [bLT g lt ta lo, bLaw g lo lc lz2_159 ll lm lg ld fc2_160, bTape g ta ab sz ln kd2_163 bg2_164 nx2_165 x_5 fb]) H := hP
          have hD : va_D A (List.flatten [bLT g lt ta lo, bLaw g lo lc lz2_159 ll lm lg ld fc2_160, bTape g ta ab sz ln kd2_163 bg2_164 nx2_165 x_5 fb]) := hD
          refine W.widen (k := 0) (n := 0) (Nat.le_of_ble_eq_true rfl) (Nat.le_of_ble_eq_true rfl) ?_
          refine W.eq (g2 := F0 m 159 ls [.int q_166]) rfl ?_
          obtain ⟨hq167_0, hq167_1, hq167_2, hq167_3⟩ := hq167
          rcases hq167_3 with rfl | rfl
          · skip
            refine lv_if_ne (tgt := 164) hx hb dX2_readSum_159 (by decide) (fun c168 => absurd (by decide) c168) (fun _ => ?_)
            refine lv_iconst (v := 1) hx hb dX2_readSum_162 (by decide) ?_
            have hP : va_P g.1 vwCl (List.flatten [bLT g lt ta lo, bLaw g lo lc lz2_159 ll lm lg ld fc2_160, bTape g ta ab sz ln kd2_163 bg2_164 nx2_165 x_5 fb]) H := hP
            have hD : va_D A (List.flatten [bLT g lt ta lo, bLaw g lo lc lz2_159 ll lm lg ld fc2_160, bTape g ta ab sz ln kd2_163 bg2_164 nx2_165 x_5 fb]) := hD
            obtain ⟨hP, hD⟩ := zord (g := g) (Bs' := [bLT g lt ta lo, bTape g ta ab sz ln kd2_163 bg2_164 nx2_165 x_5 fb, bLaw g lo lc lz2_159 ll lm lg ld fc2_160]) [0, 2, 1] rfl rfl hP hD
            exact mret_z hx hb hr hlocks hS (Nat.le_of_ble_eq_true rfl) (Nat.le_of_ble_eq_true rfl) dX2_readSum_163 (kd2_163, bg2_164, nx2_165, x_5, lz2_159, fc2_160, (1 : Int32)) rfl (by decide) (show (0 ≤ lz2_159.toInt ∧ lz2_159.toInt ≤ 400) ∧ (-1 ≤ x_5.toInt) ∧ (0 ≤ nx2_165.toInt ∧ nx2_165.toInt ≤ 400) ∧ (0 ≤ bg2_164.toInt ∧ bg2_164.toInt ≤ 400) ∧ (zKd kd2_163.toInt bg2_164.toInt nx2_165.toInt) ∧ (1 = 0 ∨ 1 = 1) from ⟨(by first | assumption | omega | decide | exact rfl | exact zb01 (by omega) | exact Or.inl (by decide) | exact Or.inr (by first | omega | decide)), (by first | assumption | omega | decide | exact rfl | exact zb01 (by omega) | exact Or.inl (by decide) | exact Or.inr (by first | omega | decide)), (by first | assumption | omega | decide | exact rfl | exact zb01 (by omega) | exact Or.inl (by decide) | exact Or.inr (by first | omega | decide)), (by first | assumption | omega | decide | exact rfl | exact zb01 (by omega) | exact Or.inl (by decide) | exact Or.inr (by first | omega | decide)), (by first | assumption | omega | decide | exact rfl | exact zb01 (by omega) | exact Or.inl (by decide) | exact Or.inr (by first | omega | decide)), (by first | assumption | omega | decide | exact rfl | exact zb01 (by omega) | exact Or.inl (by decide) | exact Or.inr (by first | omega | decide))⟩) hP hD
          · skip
            refine lv_if_ne (tgt := 164) hx hb dX2_readSum_159 (by decide) (fun _ => ?_) (fun c169 => absurd c169 (by decide))
            refine ziinc3 (n' := 1) (a' := 1) (b' := 400) (lv' := fun v9 => [(1, .int v9), (3, .int 0), (2, .int 1), (0, .ref lt)]) hx hb dX2_readSum_164 hl (k := 3) rfl (by decide) (fun _ => rfl) (zaddK (i := x_1.toInt) (j := 1) rfl (by decide) i8.1 n20 (Int.le_refl _) (Int.le_refl _) (by decide)) (fun x_170 ls hx_170 hl => ?_)
            refine lv_goto (tgt := 2) hx hb dX2_readSum_167 (by decide) ?_
            have hl := lv_sub (l' := [(0, .ref lt), (1, .int x_170), (2, .int 1), (3, .int 0)]) hl [3, 0, 2, 1] rfl
            have hP : va_P g.1 vwCl (List.flatten [bLT g lt ta lo, bLaw g lo lc lz2_159 ll lm lg ld fc2_160, bTape g ta ab sz ln kd2_163 bg2_164 nx2_165 x_5 fb]) H := hP
            have hD : va_D A (List.flatten [bLT g lt ta lo, bLaw g lo lc lz2_159 ll lm lg ld fc2_160, bTape g ta ab sz ln kd2_163 bg2_164 nx2_165 x_5 fb]) := hD
            obtain ⟨hP, hD⟩ := zord (g := g) (Bs' := [bLT g lt ta lo, bTape g ta ab sz ln kd2_163 bg2_164 nx2_165 x_5 fb, bLaw g lo lc lz2_159 ll lm lg ld fc2_160]) [0, 2, 1] rfl rfl hP hD
            have hP : va_P g.1 vwCl (List.flatten [bLT g lt ta lo, bTape g ta ab sz ln kd2_163 bg2_164 nx2_165 x_5 fb, bLaw g lo lc lz2_159 ll lm lg ld fc2_160]) H := hP
            have hD : va_D A (List.flatten [bLT g lt ta lo, bTape g ta ab sz ln kd2_163 bg2_164 nx2_165 x_5 fb, bLaw g lo lc lz2_159 ll lm lg ld fc2_160]) := hD
            exact ih2_14 x_170 kd2_163 bg2_164 nx2_165 x_5 lz2_159 fc2_160 ⟨(Int.le_trans (by decide) hx_170.2.1), hx_170.2.2⟩ ⟨hq167_1.1, hq167_1.2⟩ ⟨hq167_0.1, hq167_0.2⟩ i11 ⟨hq162.1, hq162.2⟩ H _ ls (zmK hx_170.1 (by decide) n20 (by decide) hk2_14)  hP hD hS (lv_sub hl [0, 1] rfl)
  have hP : va_P g.1 vwCl (List.flatten [bLT g lt ta lo, bTape g ta ab sz ln kd bg nx ft fb, bLaw g lo lc lz ll lm lg ld fc]) s.heap := hP
  have hD : va_D A (List.flatten [bLT g lt ta lo, bTape g ta ab sz ln kd bg nx ft fb, bLaw g lo lc lz ll lm lg ld fc]) := hD
  exact LP2_13 _ 0 kd bg nx ft lz fc (by decide) ⟨hbg.1, hbg.2⟩ ⟨hnx.1, hnx.2⟩ (by first | omega | assumption | decide) ⟨b_lz.1, b_lz.2⟩ s.heap _ ls (Nat.lt_succ_self _)  hP hD hS (lv_sub hl [0, 1] rfl)
