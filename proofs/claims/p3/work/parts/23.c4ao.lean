set_option maxRecDepth 100000 in
set_option maxHeartbeats 4000000 in
theorem c_lt_readCondition4 (l : Launch) (g : zG) (lt : Nat) (ta : Nat) (lo : Nat) (ab : Nat) (sz : Int32) (ln : Int32) (kd : Int32) (bg : Int32) (nx : Int32) (ft : Int32) (fb : Nat → Int32) (lc : Nat) (lz : Int32) (ll : Int32) (lm : Int32) (lg : Int32) (ld : Int32) (fc : Nat → Int32) (b_lz : 0 ≤ lz.toInt ∧ lz.toInt ≤ 400) (hln : 0 ≤ ln.toInt ∧ ln.toInt ≤ 400) (hnx : 0 ≤ nx.toInt ∧ nx.toInt ≤ 400) (hbg : 0 ≤ bg.toInt ∧ bg.toInt ≤ 400) (hkd : zKd kd.toInt bg.toInt nx.toInt) (hft : -1 ≤ ft.toInt) : zM' g l yX2_readCondition (Cond.code yX2_readCondition cX2_readCondition 5 (some .boolean) :: zB) ({ frames := 13, cells := 0, slots := 0, locals := 286 } : Room) [.ref lt, .int 4] [bLT g lt ta lo, bTape g ta ab sz ln kd bg nx ft fb, bLaw g lo lc lz ll lm lg ld fc] (fun u : Int32 × Int32 × Int32 × Int32 × Int32 × (Nat → Int32) × Int32 => (fun (kd2 : Int32) (bg2 : Int32) (nx2 : Int32) (ft2 : Int32) (lz2 : Int32) (fc2 : Nat → Int32) (q : Int32) => some (.int q)) (u.1) (u.2.1) (u.2.2.1) (u.2.2.2.1) (u.2.2.2.2.1) (u.2.2.2.2.2.1) (u.2.2.2.2.2.2)) (fun u : Int32 × Int32 × Int32 × Int32 × Int32 × (Nat → Int32) × Int32 => (fun (kd2 : Int32) (bg2 : Int32) (nx2 : Int32) (ft2 : Int32) (lz2 : Int32) (fc2 : Nat → Int32) (q : Int32) => (0 ≤ lz2.toInt ∧ lz2.toInt ≤ 400) ∧ (-1 ≤ ft2.toInt) ∧ (0 ≤ nx2.toInt ∧ nx2.toInt ≤ 400) ∧ (0 ≤ bg2.toInt ∧ bg2.toInt ≤ 400) ∧ (zKd kd2.toInt bg2.toInt nx2.toInt) ∧ (q = 0 ∨ q = 1)) (u.1) (u.2.1) (u.2.2.1) (u.2.2.2.1) (u.2.2.2.2.1) (u.2.2.2.2.2.1) (u.2.2.2.2.2.2)) (fun u : Int32 × Int32 × Int32 × Int32 × Int32 × (Nat → Int32) × Int32 => (fun (kd2 : Int32) (bg2 : Int32) (nx2 : Int32) (ft2 : Int32) (lz2 : Int32) (fc2 : Nat → Int32) (q : Int32) => [bLT g lt ta lo, bTape g ta ab sz ln kd2 bg2 nx2 ft2 fb, bLaw g lo lc lz2 ll lm lg ld fc2]) (u.1) (u.2.1) (u.2.2.1) (u.2.2.2.1) (u.2.2.2.2.1) (u.2.2.2.2.2.1) (u.2.2.2.2.2.2)) := by
  refine zM'.of (cc := cX2_readCondition) (maxL := 5) (rt := (some .boolean)) (by decide) rfl (Nat.le_of_ble_eq_true rfl) ?_
  intro p e s m args below meth c A ls St hr hlocks hin hK hT hA hP hD hS hl
  obtain ⟨hx, hb, hml, hown, hts⟩ := id St
  have hl : lv_has ls 5 [(0, .ref lt), (1, .int 4)] := hl
  refine lv_iconst (v := (-1)) hx hb dX2_readCondition_0 (by decide) ?_
  refine lv_istore_n (lv' := [(2, .int (-1)), (0, .ref lt), (1, .int 4)]) hx hb dX2_readCondition_1 rfl hl (by decide) rfl (fun ls hl => ?_)
  refine lv_iconst (v := (-1)) hx hb dX2_readCondition_2 (by decide) ?_
  refine lv_istore_n (lv' := [(3, .int (-1)), (2, .int (-1)), (0, .ref lt), (1, .int 4)]) hx hb dX2_readCondition_3 rfl hl (by decide) rfl (fun ls hl => ?_)
  refine lv_iconst (v := 0) hx hb dX2_readCondition_4 (by decide) ?_
  refine lv_istore (lv' := [(4, .int 0), (3, .int (-1)), (2, .int (-1)), (0, .ref lt), (1, .int 4)]) hx hb dX2_readCondition_5 hl (by decide) rfl (fun ls hl => ?_)
  have hl := lv_sub (l' := [(0, .ref lt), (1, .int 4), (2, .int (-1)), (3, .int (-1)), (4, .int 0)]) hl [3, 4, 2, 1, 0] rfl
  have LP7_15 : ∀ (kf : Nat) (x_1 : Int32) (x_2 : Int32) (x_3 : Int32) (x_4 : Int32) (x_5 : Int32) (x_6 : Int32) (x_7 : Int32) (x_8 : Int32) (fc_9 : Nat → Int32), (0 ≤ x_3.toInt ∧ x_3.toInt ≤ 400) → (0 ≤ x_5.toInt ∧ x_5.toInt ≤ 400) → (0 ≤ x_6.toInt ∧ x_6.toInt ≤ 400) → ((-1) ≤ x_7.toInt) → (0 ≤ x_8.toInt ∧ x_8.toInt ≤ 400) → ∀ (H : Heap) (locs : List Loc) (ls : Array Slot), ((401 - x_3.toInt).toNat) < kf → va_P g.1 vwCl (List.flatten [bLT g lt ta lo, bTape g ta ab sz ln x_4 x_5 x_6 x_7 fb, bLaw g lo lc x_8 ll lm lg ld fc_9]) H → va_D A (List.flatten [bLT g lt ta lo, bTape g ta ab sz ln x_4 x_5 x_6 x_7 fb, bLaw g lo lc x_8 ll lm lg ld fc_9]) → va_S A s.heap H locs → lv_has ls 5 [(0, .ref lt), (1, .int 4), (2, .int x_1), (3, .int x_2), (4, .int x_3)] → W p l e ({ frames := 13, cells := 0, slots := 0, locals := 286 } : Room) s m args below meth c H locs (0) (0) (zF g (fun u : Int32 × Int32 × Int32 × Int32 × Int32 × (Nat → Int32) × Int32 => (fun (kd2 : Int32) (bg2 : Int32) (nx2 : Int32) (ft2 : Int32) (lz2 : Int32) (fc2 : Nat → Int32) (q : Int32) => some (.int q)) (u.1) (u.2.1) (u.2.2.1) (u.2.2.2.1) (u.2.2.2.2.1) (u.2.2.2.2.2.1) (u.2.2.2.2.2.2)) (fun u : Int32 × Int32 × Int32 × Int32 × Int32 × (Nat → Int32) × Int32 => (fun (kd2 : Int32) (bg2 : Int32) (nx2 : Int32) (ft2 : Int32) (lz2 : Int32) (fc2 : Nat → Int32) (q : Int32) => (0 ≤ lz2.toInt ∧ lz2.toInt ≤ 400) ∧ (-1 ≤ ft2.toInt) ∧ (0 ≤ nx2.toInt ∧ nx2.toInt ≤ 400) ∧ (0 ≤ bg2.toInt ∧ bg2.toInt ≤ 400) ∧ (zKd kd2.toInt bg2.toInt nx2.toInt) ∧ (q = 0 ∨ q = 1)) (u.1) (u.2.1) (u.2.2.1) (u.2.2.2.1) (u.2.2.2.2.1) (u.2.2.2.2.2.1) (u.2.2.2.2.2.2)) (fun u : Int32 × Int32 × Int32 × Int32 × Int32 × (Nat → Int32) × Int32 => (fun (kd2 : Int32) (bg2 : Int32) (nx2 : Int32) (ft2 : Int32) (lz2 : Int32) (fc2 : Nat → Int32) (q : Int32) => [bLT g lt ta lo, bTape g ta ab sz ln kd2 bg2 nx2 ft2 fb, bLaw g lo lc lz2 ll lm lg ld fc2]) (u.1) (u.2.1) (u.2.2.1) (u.2.2.2.1) (u.2.2.2.2.1) (u.2.2.2.2.2.1) (u.2.2.2.2.2.2)) ({ frames := 13, cells := 0, slots := 0, locals := 286 } : Room) below args s A) (F0 m 7 ls []) := by
    intro kf
    induction kf with
    | zero => intro x_1 x_2 x_3 x_4 x_5 x_6 x_7 x_8 fc_9 i10 i11 i12 i13 i14 H locs ls hk; exact absurd hk (Nat.not_lt_zero _)
    | succ kf ih7_16 =>
      intro x_1 x_2 x_3 x_4 x_5 x_6 x_7 x_8 fc_9 i10 i11 i12 i13 i14 H locs ls hk7_16 hP hD hS hl
      refine lv_iload hx hb dX2_readCondition_7 (lv_at hl 4 rfl) ?_
      refine lv_sipush (v := 400) hx hb dX2_readCondition_9 (by decide) ?_
      refine lv_icmp_ge (tgt := 100) hx hb dX2_readCondition_12 (by decide) (fun cb9 => ?_) (fun cb9 => ?_)
      · skip
        have c17 : 400 ≤ x_3.toInt := zle cb9 (by decide) rfl
        have n18 : 400 ≤ x_3.toInt := Int.le_trans (Int.le_refl _) c17
        refine lv_aload_n hx hb dX2_readCondition_100 rfl (lv_at hl 0 rfl) ?_
        refine va_get (D := g.1) (ci := 2) (v := .ref ta) (C := RX2) (T := TX2) (N := 2) hx hb hts izRX2 hown hK hP 0 rfl rfl 0 (by decide) (hts _ k290) (fun x9 h9 => u_same (hts _ k291) x9 h9) rfl dX2_readCondition_101 ?_
        refine mcallV' (g := g) (q0 := 0) (ci := 6) (As := []) (rest := []) St hK hT hA hP hD hS hl.1 [1] [0, 2] rfl rfl rfl (c_t_refuse l g ta ab sz ln x_4 x_5 x_6 x_7 fb (⟨hln.1, hln.2⟩) (⟨i12.1, i12.2⟩) (⟨i11.1, i11.2⟩) (by first | assumption | omega | decide | exact Or.inl (by decide) | exact Or.inr (by decide)) i13) (cwV 0 hts (zgL (zl4 k303 k279 k280 k277) k269) rfl rfl rfl (by decide +kernel) ⟨Nat.le_of_ble_eq_true rfl, Nat.le_of_ble_eq_true rfl⟩) rfl rfl rfl rfl (Nat.le_of_ble_eq_true rfl) dX2_readCondition_104 ⟨(Nat.le_of_ble_eq_true rfl), (Nat.le_of_ble_eq_true rfl)⟩ (fun ft2_19 H locs hq20 hP hD hS => ?_)
        replace hq20 : (-1 ≤ ft2_19.toInt) := hq20
        have hP : va_P g.1 vwCl (List.flatten [bLT g lt ta lo, bLaw g lo lc x_8 ll lm lg ld fc_9, bTape g ta ab sz ln x_4 x_5 x_6 ft2_19 fb]) H := hP
        have hD : va_D A (List.flatten [bLT g lt ta lo, bLaw g lo lc x_8 ll lm lg ld fc_9, bTape g ta ab sz ln x_4 x_5 x_6 ft2_19 fb]) := hD
        refine W.widen (k := 0) (n := 0) (Nat.le_of_ble_eq_true rfl) (Nat.le_of_ble_eq_true rfl) ?_
        refine W.eq (g2 := F0 m 107 ls [.int 0]) rfl ?_
        have hP : va_P g.1 vwCl (List.flatten [bLT g lt ta lo, bLaw g lo lc x_8 ll lm lg ld fc_9, bTape g ta ab sz ln x_4 x_5 x_6 ft2_19 fb]) H := hP
        have hD : va_D A (List.flatten [bLT g lt ta lo, bLaw g lo lc x_8 ll lm lg ld fc_9, bTape g ta ab sz ln x_4 x_5 x_6 ft2_19 fb]) := hD
        obtain ⟨hP, hD⟩ := zord (g := g) (Bs' := [bLT g lt ta lo, bTape g ta ab sz ln x_4 x_5 x_6 ft2_19 fb, bLaw g lo lc x_8 ll lm lg ld fc_9]) [0, 2, 1] rfl rfl hP hD
        exact mret_z hx hb hr hlocks hS (Nat.le_of_ble_eq_true rfl) (Nat.le_of_ble_eq_true rfl) dX2_readCondition_107 (x_4, x_5, x_6, ft2_19, x_8, fc_9, (0 : Int32)) rfl (by decide) (show (0 ≤ x_8.toInt ∧ x_8.toInt ≤ 400) ∧ (-1 ≤ ft2_19.toInt) ∧ (0 ≤ x_6.toInt ∧ x_6.toInt ≤ 400) ∧ (0 ≤ x_5.toInt ∧ x_5.toInt ≤ 400) ∧ (zKd x_4.toInt x_5.toInt x_6.toInt) ∧ (0 = 0 ∨ 0 = 1) from ⟨(by first | assumption | omega | decide | exact rfl | exact zb01 (by omega) | exact Or.inl (by decide) | exact Or.inr (by first | omega | decide)), (by first | assumption | omega | decide | exact rfl | exact zb01 (by omega) | exact Or.inl (by decide) | exact Or.inr (by first | omega | decide)), (by first | assumption | omega | decide | exact rfl | exact zb01 (by omega) | exact Or.inl (by decide) | exact Or.inr (by first | omega | decide)), (by first | assumption | omega | decide | exact rfl | exact zb01 (by omega) | exact Or.inl (by decide) | exact Or.inr (by first | omega | decide)), (by first | assumption | omega | decide | exact rfl | exact zb01 (by omega) | exact Or.inl (by decide) | exact Or.inr (by first | omega | decide)), (by first | assumption | omega | decide | exact rfl | exact zb01 (by omega) | exact Or.inl (by decide) | exact Or.inr (by first | omega | decide))⟩) hP hD
      · skip
        have c21 : x_3.toInt < 400 := zlti (Int32.not_le.mp cb9) rfl (by decide)
        have n22 : x_3.toInt ≤ 399 := zL1 (b := 400) c21 (Int.le_refl _) (by decide)
        refine lv_aload_n hx hb dX2_readCondition_15 rfl (lv_at hl 0 rfl) ?_
        refine lv_iload_n hx hb dX2_readCondition_16 rfl (lv_at hl 1 rfl) ?_
        refine mcallV' (g := g) (q0 := 0) (ci := 2) (As := [.int 4]) (rest := []) St hK hT hA hP hD hS hl.1 [0, 1, 2] [] rfl rfl rfl (c_lt_readAtom4 l g lt ta lo ab sz ln x_4 x_5 x_6 x_7 fb lc x_8 ll lm lg ld fc_9 (⟨i14.1, i14.2⟩) (⟨hln.1, hln.2⟩) (⟨i12.1, i12.2⟩) (⟨i11.1, i11.2⟩) (by first | assumption | omega | decide | exact Or.inl (by decide) | exact Or.inr (by decide)) i13) (cwV 1 hts (zgL (zl4 k317 k318 k319 k309) k327) rfl rfl rfl (by decide +kernel) ⟨Nat.le_of_ble_eq_true rfl, Nat.le_of_ble_eq_true rfl⟩) rfl rfl rfl rfl (Nat.le_of_ble_eq_true rfl) dX2_readCondition_17 ⟨(Nat.le_of_ble_eq_true rfl), (Nat.le_of_ble_eq_true rfl)⟩ (fun u_ H locs hq30 hP hD hS => ?_)
        obtain ⟨kd2_23, bg2_24, nx2_25, ft2_26, lz2_27, fc2_28, q_29⟩ := u_
        replace hq30 : (0 ≤ lz2_27.toInt ∧ lz2_27.toInt ≤ 400) ∧ (-1 ≤ ft2_26.toInt) ∧ (0 ≤ nx2_25.toInt ∧ nx2_25.toInt ≤ 400) ∧ (0 ≤ bg2_24.toInt ∧ bg2_24.toInt ≤ 400) ∧ (zKd kd2_23.toInt bg2_24.toInt nx2_25.toInt) ∧ (q_29 = 0 ∨ q_29 = 1) := hq30
        have hP : va_P g.1 vwCl (List.flatten [bLT g lt ta lo, bTape g ta ab sz ln kd2_23 bg2_24 nx2_25 ft2_26 fb, bLaw g lo lc lz2_27 ll lm lg ld fc2_28]) H := hP
        have hD : va_D A (List.flatten [bLT g lt ta lo, bTape g ta ab sz ln kd2_23 bg2_24 nx2_25 ft2_26 fb, bLaw g lo lc lz2_27 ll lm lg ld fc2_28]) := hD
        refine W.widen (k := 0) (n := 0) (Nat.le_of_ble_eq_true rfl) (Nat.le_of_ble_eq_true rfl) ?_
        refine W.eq (g2 := F0 m 20 ls [.int q_29]) rfl ?_
        obtain ⟨hq30_0, hq30_1, hq30_2, hq30_3, hq30_4, hq30_5⟩ := hq30
        rcases hq30_5 with rfl | rfl
        · skip
          refine lv_if_ne (tgt := 25) hx hb dX2_readCondition_20 (by decide) (fun c31 => absurd (by decide) c31) (fun _ => ?_)
          refine lv_iconst (v := 0) hx hb dX2_readCondition_23 (by decide) ?_
          have hP : va_P g.1 vwCl (List.flatten [bLT g lt ta lo, bTape g ta ab sz ln kd2_23 bg2_24 nx2_25 ft2_26 fb, bLaw g lo lc lz2_27 ll lm lg ld fc2_28]) H := hP
          have hD : va_D A (List.flatten [bLT g lt ta lo, bTape g ta ab sz ln kd2_23 bg2_24 nx2_25 ft2_26 fb, bLaw g lo lc lz2_27 ll lm lg ld fc2_28]) := hD
          exact mret_z hx hb hr hlocks hS (Nat.le_of_ble_eq_true rfl) (Nat.le_of_ble_eq_true rfl) dX2_readCondition_24 (kd2_23, bg2_24, nx2_25, ft2_26, lz2_27, fc2_28, (0 : Int32)) rfl (by decide) (show (0 ≤ lz2_27.toInt ∧ lz2_27.toInt ≤ 400) ∧ (-1 ≤ ft2_26.toInt) ∧ (0 ≤ nx2_25.toInt ∧ nx2_25.toInt ≤ 400) ∧ (0 ≤ bg2_24.toInt ∧ bg2_24.toInt ≤ 400) ∧ (zKd kd2_23.toInt bg2_24.toInt nx2_25.toInt) ∧ (0 = 0 ∨ 0 = 1) from ⟨(by first | assumption | omega | decide | exact rfl | exact zb01 (by omega) | exact Or.inl (by decide) | exact Or.inr (by first | omega | decide)), (by first | assumption | omega | decide | exact rfl | exact zb01 (by omega) | exact Or.inl (by decide) | exact Or.inr (by first | omega | decide)), (by first | assumption | omega | decide | exact rfl | exact zb01 (by omega) | exact Or.inl (by decide) | exact Or.inr (by first | omega | decide)), (by first | assumption | omega | decide | exact rfl | exact zb01 (by omega) | exact Or.inl (by decide) | exact Or.inr (by first | omega | decide)), (by first | assumption | omega | decide | exact rfl | exact zb01 (by omega) | exact Or.inl (by decide) | exact Or.inr (by first | omega | decide)), (by first | assumption | omega | decide | exact rfl | exact zb01 (by omega) | exact Or.inl (by decide) | exact Or.inr (by first | omega | decide))⟩) hP hD
        · skip
          refine lv_if_ne (tgt := 25) hx hb dX2_readCondition_20 (by decide) (fun _ => ?_) (fun c32 => absurd c32 (by decide))
          refine lv_aload_n hx hb dX2_readCondition_25 rfl (lv_at hl 0 rfl) ?_
          refine va_get (D := g.1) (ci := 2) (v := .ref lo) (C := RX2) (T := TX2) (N := 2) hx hb hts izRX2 hown hK hP 0 rfl rfl 1 (by decide) (hts _ k210) (fun _ h9 => h9) rfl dX2_readCondition_26 ?_
          refine lv_iload_n hx hb dX2_readCondition_29 rfl (lv_at hl 3 rfl) ?_
          refine mcallV' (g := g) (q0 := 0) (ci := 1) (As := [.int x_2]) (rest := []) St hK hT hA hP hD hS hl.1 [2] [0, 1] rfl rfl rfl (c_l_aim l g lo lc lz2_27 ll lm lg ld fc2_28 x_2 (⟨hq30_0.1, hq30_0.2⟩)) (cwV 1 hts (zgL (zl4 k320 k321 k322 k85) k203) rfl rfl rfl (by decide +kernel) ⟨Nat.le_of_ble_eq_true rfl, Nat.le_of_ble_eq_true rfl⟩) rfl rfl rfl rfl (Nat.le_of_ble_eq_true rfl) dX2_readCondition_30 ⟨(Nat.le_of_ble_eq_true rfl), (Nat.le_of_ble_eq_true rfl)⟩ (fun fc2_33 H locs hq34 hP hD hS => ?_)
          have hP : va_P g.1 vwCl (List.flatten [bLT g lt ta lo, bTape g ta ab sz ln kd2_23 bg2_24 nx2_25 ft2_26 fb, bLaw g lo lc lz2_27 ll lm lg ld fc2_33]) H := hP
          have hD : va_D A (List.flatten [bLT g lt ta lo, bTape g ta ab sz ln kd2_23 bg2_24 nx2_25 ft2_26 fb, bLaw g lo lc lz2_27 ll lm lg ld fc2_33]) := hD
          refine W.widen (k := 0) (n := 0) (Nat.le_of_ble_eq_true rfl) (Nat.le_of_ble_eq_true rfl) ?_
          refine W.eq (g2 := F0 m 33 ls []) rfl ?_
          refine lv_iconst (v := (-1)) hx hb dX2_readCondition_33 (by decide) ?_
          refine lv_istore_n (lv' := [(3, .int (-1)), (0, .ref lt), (1, .int 4), (2, .int x_1), (4, .int x_3)]) hx hb dX2_readCondition_34 rfl hl (by decide) rfl (fun ls hl => ?_)
          refine lv_aload_n hx hb dX2_readCondition_35 rfl (lv_at hl 1 rfl) ?_
          refine va_get (D := g.1) (ci := 2) (v := .ref ta) (C := RX2) (T := TX2) (N := 2) hx hb hts izRX2 hown hK hP 0 rfl rfl 0 (by decide) (hts _ k290) (fun x9 h9 => u_same (hts _ k291) x9 h9) rfl dX2_readCondition_36 ?_
          refine va_ldcS (q := g.2 16) hx hb hown (zra3 hT.2.1) dX2_readCondition_39 ?_
          refine mcallV' (g := g) (q0 := 0) (ci := 6) (As := [.ref (g.2 16)]) (rest := []) St hK hT hA hP hD hS hl.1 [1] [0, 2] rfl rfl rfl (c_t_takeWord l g ta ab sz ln kd2_23 bg2_24 nx2_25 ft2_26 fb (g.2 16) 3 zqa3 (⟨hln.1, hln.2⟩) (⟨hq30_2.1, hq30_2.2⟩) (⟨hq30_3.1, hq30_3.2⟩) (by first | assumption | omega | decide | exact Or.inl (by decide) | exact Or.inr (by decide)) (by first | assumption | omega | decide | exact Or.inl (by decide) | exact Or.inr (by decide)) rfl zla3 zna3) (cwV 1 hts (zgL (zl4 k310 k311 k312 k277) k284) rfl rfl rfl (by decide +kernel) ⟨Nat.le_of_ble_eq_true rfl, Nat.le_of_ble_eq_true rfl⟩) rfl rfl rfl rfl (Nat.le_of_ble_eq_true rfl) dX2_readCondition_41 ⟨(Nat.le_of_ble_eq_true rfl), (Nat.le_of_ble_eq_true rfl)⟩ (fun u_ H locs hq39 hP hD hS => ?_)
          obtain ⟨kd2_35, bg2_36, nx2_37, r_38⟩ := u_
          replace hq39 : (0 ≤ nx2_37.toInt ∧ nx2_37.toInt ≤ 400) ∧ (0 ≤ bg2_36.toInt ∧ bg2_36.toInt ≤ 400) ∧ (zKd kd2_35.toInt bg2_36.toInt nx2_37.toInt) ∧ (r_38 = 0 ∨ r_38 = 1) := hq39
          have hP : va_P g.1 vwCl (List.flatten [bLT g lt ta lo, bLaw g lo lc lz2_27 ll lm lg ld fc2_33, bTape g ta ab sz ln kd2_35 bg2_36 nx2_37 ft2_26 fb]) H := hP
          have hD : va_D A (List.flatten [bLT g lt ta lo, bLaw g lo lc lz2_27 ll lm lg ld fc2_33, bTape g ta ab sz ln kd2_35 bg2_36 nx2_37 ft2_26 fb]) := hD
          refine W.widen (k := 0) (n := 0) (Nat.le_of_ble_eq_true rfl) (Nat.le_of_ble_eq_true rfl) ?_
          refine W.eq (g2 := F0 m 44 ls [.int r_38]) rfl ?_
          obtain ⟨hq39_0, hq39_1, hq39_2, hq39_3⟩ := hq39
          rcases hq39_3 with rfl | rfl
          · skip
            refine lv_if_eq (tgt := 61) hx hb dX2_readCondition_44 (by decide) (fun _ => ?_) (fun c40 => absurd (by decide) c40)
            refine lv_aload_n hx hb dX2_readCondition_61 rfl (lv_at hl 1 rfl) ?_
            refine va_get (D := g.1) (ci := 2) (v := .ref lo) (C := RX2) (T := TX2) (N := 2) hx hb hts izRX2 hown hK hP 0 rfl rfl 1 (by decide) (hts _ k210) (fun _ h9 => h9) rfl dX2_readCondition_62 ?_
            refine lv_iload_n hx hb dX2_readCondition_65 rfl (lv_at hl 3 rfl) ?_
            refine mcallV' (g := g) (q0 := 0) (ci := 1) (As := [.int x_1]) (rest := []) St hK hT hA hP hD hS hl.1 [1] [0, 2] rfl rfl rfl (c_l_aim l g lo lc lz2_27 ll lm lg ld fc2_33 x_1 (⟨hq30_0.1, hq30_0.2⟩)) (cwV 1 hts (zgL (zl4 k320 k321 k322 k85) k203) rfl rfl rfl (by decide +kernel) ⟨Nat.le_of_ble_eq_true rfl, Nat.le_of_ble_eq_true rfl⟩) rfl rfl rfl rfl (Nat.le_of_ble_eq_true rfl) dX2_readCondition_66 ⟨(Nat.le_of_ble_eq_true rfl), (Nat.le_of_ble_eq_true rfl)⟩ (fun fc2_41 H locs hq42 hP hD hS => ?_)
            have hP : va_P g.1 vwCl (List.flatten [bLT g lt ta lo, bTape g ta ab sz ln kd2_35 bg2_36 nx2_37 ft2_26 fb, bLaw g lo lc lz2_27 ll lm lg ld fc2_41]) H := hP
            have hD : va_D A (List.flatten [bLT g lt ta lo, bTape g ta ab sz ln kd2_35 bg2_36 nx2_37 ft2_26 fb, bLaw g lo lc lz2_27 ll lm lg ld fc2_41]) := hD
            refine W.widen (k := 0) (n := 0) (Nat.le_of_ble_eq_true rfl) (Nat.le_of_ble_eq_true rfl) ?_
            refine W.eq (g2 := F0 m 69 ls []) rfl ?_
            refine lv_aload_n hx hb dX2_readCondition_69 rfl (lv_at hl 1 rfl) ?_
            refine va_get (D := g.1) (ci := 2) (v := .ref ta) (C := RX2) (T := TX2) (N := 2) hx hb hts izRX2 hown hK hP 0 rfl rfl 0 (by decide) (hts _ k290) (fun x9 h9 => u_same (hts _ k291) x9 h9) rfl dX2_readCondition_70 ?_
            refine va_ldcS (q := g.2 18) hx hb hown (zra4 hT.2.1) dX2_readCondition_73 ?_
            refine mcallV' (g := g) (q0 := 0) (ci := 6) (As := [.ref (g.2 18)]) (rest := []) St hK hT hA hP hD hS hl.1 [1] [0, 2] rfl rfl rfl (c_t_takeWord l g ta ab sz ln kd2_35 bg2_36 nx2_37 ft2_26 fb (g.2 18) 4 zqa4 (⟨hln.1, hln.2⟩) (⟨hq39_0.1, hq39_0.2⟩) (⟨hq39_1.1, hq39_1.2⟩) (by first | assumption | omega | decide | exact Or.inl (by decide) | exact Or.inr (by decide)) (by first | assumption | omega | decide | exact Or.inl (by decide) | exact Or.inr (by decide)) rfl zla4 zna4) (cwV 1 hts (zgL (zl4 k310 k311 k312 k277) k284) rfl rfl rfl (by decide +kernel) ⟨Nat.le_of_ble_eq_true rfl, Nat.le_of_ble_eq_true rfl⟩) rfl rfl rfl rfl (Nat.le_of_ble_eq_true rfl) dX2_readCondition_75 ⟨(Nat.le_of_ble_eq_true rfl), (Nat.le_of_ble_eq_true rfl)⟩ (fun u_ H locs hq47 hP hD hS => ?_)
            obtain ⟨kd2_43, bg2_44, nx2_45, r_46⟩ := u_
            replace hq47 : (0 ≤ nx2_45.toInt ∧ nx2_45.toInt ≤ 400) ∧ (0 ≤ bg2_44.toInt ∧ bg2_44.toInt ≤ 400) ∧ (zKd kd2_43.toInt bg2_44.toInt nx2_45.toInt) ∧ (r_46 = 0 ∨ r_46 = 1) := hq47
            have hP : va_P g.1 vwCl (List.flatten [bLT g lt ta lo, bLaw g lo lc lz2_27 ll lm lg ld fc2_41, bTape g ta ab sz ln kd2_43 bg2_44 nx2_45 ft2_26 fb]) H := hP
            have hD : va_D A (List.flatten [bLT g lt ta lo, bLaw g lo lc lz2_27 ll lm lg ld fc2_41, bTape g ta ab sz ln kd2_43 bg2_44 nx2_45 ft2_26 fb]) := hD
            refine W.widen (k := 0) (n := 0) (Nat.le_of_ble_eq_true rfl) (Nat.le_of_ble_eq_true rfl) ?_
            refine W.eq (g2 := F0 m 78 ls [.int r_46]) rfl ?_
            obtain ⟨hq47_0, hq47_1, hq47_2, hq47_3⟩ := hq47
            rcases hq47_3 with rfl | rfl
            · skip
              refine lv_if_ne (tgt := 83) hx hb dX2_readCondition_78 (by decide) (fun c48 => absurd (by decide) c48) (fun _ => ?_)
              refine lv_iconst (v := 1) hx hb dX2_readCondition_81 (by decide) ?_
              have hP : va_P g.1 vwCl (List.flatten [bLT g lt ta lo, bLaw g lo lc lz2_27 ll lm lg ld fc2_41, bTape g ta ab sz ln kd2_43 bg2_44 nx2_45 ft2_26 fb]) H := hP
              have hD : va_D A (List.flatten [bLT g lt ta lo, bLaw g lo lc lz2_27 ll lm lg ld fc2_41, bTape g ta ab sz ln kd2_43 bg2_44 nx2_45 ft2_26 fb]) := hD
              obtain ⟨hP, hD⟩ := zord (g := g) (Bs' := [bLT g lt ta lo, bTape g ta ab sz ln kd2_43 bg2_44 nx2_45 ft2_26 fb, bLaw g lo lc lz2_27 ll lm lg ld fc2_41]) [0, 2, 1] rfl rfl hP hD
              exact mret_z hx hb hr hlocks hS (Nat.le_of_ble_eq_true rfl) (Nat.le_of_ble_eq_true rfl) dX2_readCondition_82 (kd2_43, bg2_44, nx2_45, ft2_26, lz2_27, fc2_41, (1 : Int32)) rfl (by decide) (show (0 ≤ lz2_27.toInt ∧ lz2_27.toInt ≤ 400) ∧ (-1 ≤ ft2_26.toInt) ∧ (0 ≤ nx2_45.toInt ∧ nx2_45.toInt ≤ 400) ∧ (0 ≤ bg2_44.toInt ∧ bg2_44.toInt ≤ 400) ∧ (zKd kd2_43.toInt bg2_44.toInt nx2_45.toInt) ∧ (1 = 0 ∨ 1 = 1) from ⟨(by first | assumption | omega | decide | exact rfl | exact zb01 (by omega) | exact Or.inl (by decide) | exact Or.inr (by first | omega | decide)), (by first | assumption | omega | decide | exact rfl | exact zb01 (by omega) | exact Or.inl (by decide) | exact Or.inr (by first | omega | decide)), (by first | assumption | omega | decide | exact rfl | exact zb01 (by omega) | exact Or.inl (by decide) | exact Or.inr (by first | omega | decide)), (by first | assumption | omega | decide | exact rfl | exact zb01 (by omega) | exact Or.inl (by decide) | exact Or.inr (by first | omega | decide)), (by first | assumption | omega | decide | exact rfl | exact zb01 (by omega) | exact Or.inl (by decide) | exact Or.inr (by first | omega | decide)), (by first | assumption | omega | decide | exact rfl | exact zb01 (by omega) | exact Or.inl (by decide) | exact Or.inr (by first | omega | decide))⟩) hP hD
            · skip
              refine lv_if_ne (tgt := 83) hx hb dX2_readCondition_78 (by decide) (fun _ => ?_) (fun c49 => absurd c49 (by decide))
              refine lv_aload_n hx hb dX2_readCondition_83 rfl (lv_at hl 1 rfl) ?_
              refine va_get (D := g.1) (ci := 2) (v := .ref lo) (C := RX2) (T := TX2) (N := 2) hx hb hts izRX2 hown hK hP 0 rfl rfl 1 (by decide) (hts _ k210) (fun _ h9 => h9) rfl dX2_readCondition_84 ?_
              refine lv_bipush (v := 14) hx hb dX2_readCondition_87 (by decide) ?_
              refine lv_iconst (v := 0) hx hb dX2_readCondition_89 (by decide) ?_
              refine mcallV' (g := g) (q0 := 0) (ci := 1) (As := [.int 14, .int 0]) (rest := []) St hK hT hA hP hD hS hl.1 [1] [0, 2] rfl rfl rfl (c_l_put l g lo lc lz2_27 ll lm lg ld fc2_41 14 0 (⟨hq30_0.1, hq30_0.2⟩)) (cwV 2 hts (zgL (zl4 k297 k298 k299 k85) k202) rfl rfl rfl (by decide +kernel) ⟨Nat.le_of_ble_eq_true rfl, Nat.le_of_ble_eq_true rfl⟩) rfl rfl rfl rfl (Nat.le_of_ble_eq_true rfl) dX2_readCondition_90 ⟨(Nat.le_of_ble_eq_true rfl), (Nat.le_of_ble_eq_true rfl)⟩ (fun u_ H locs hq53 hP hD hS => ?_)
              obtain ⟨lz2_50, fc2_51, q_52⟩ := u_
              replace hq53 : (0 ≤ lz2_50.toInt ∧ lz2_50.toInt ≤ 400) := hq53
              have hP : va_P g.1 vwCl (List.flatten [bLT g lt ta lo, bTape g ta ab sz ln kd2_43 bg2_44 nx2_45 ft2_26 fb, bLaw g lo lc lz2_50 ll lm lg ld fc2_51]) H := hP
              have hD : va_D A (List.flatten [bLT g lt ta lo, bTape g ta ab sz ln kd2_43 bg2_44 nx2_45 ft2_26 fb, bLaw g lo lc lz2_50 ll lm lg ld fc2_51]) := hD
              refine W.widen (k := 0) (n := 0) (Nat.le_of_ble_eq_true rfl) (Nat.le_of_ble_eq_true rfl) ?_
              refine W.eq (g2 := F0 m 93 ls [.int q_52]) rfl ?_
              refine lv_istore_n (lv' := [(2, .int q_52), (3, .int (-1)), (0, .ref lt), (1, .int 4), (4, .int x_3)]) hx hb dX2_readCondition_93 rfl hl (by decide) rfl (fun ls hl => ?_)
              refine ziinc3 (n' := 1) (a' := 1) (b' := 400) (lv' := fun v9 => [(4, .int v9), (2, .int q_52), (3, .int (-1)), (0, .ref lt), (1, .int 4)]) hx hb dX2_readCondition_94 hl (k := 4) rfl (by decide) (fun _ => rfl) (zaddK (i := x_3.toInt) (j := 1) rfl (by decide) i10.1 n22 (Int.le_refl _) (Int.le_refl _) (by decide)) (fun x_54 ls hx_54 hl => ?_)
              refine lv_goto (tgt := 7) hx hb dX2_readCondition_97 (by decide) ?_
              have hl := lv_sub (l' := [(0, .ref lt), (1, .int 4), (2, .int q_52), (3, .int (-1)), (4, .int x_54)]) hl [3, 4, 1, 2, 0] rfl
              have hP : va_P g.1 vwCl (List.flatten [bLT g lt ta lo, bTape g ta ab sz ln kd2_43 bg2_44 nx2_45 ft2_26 fb, bLaw g lo lc lz2_50 ll lm lg ld fc2_51]) H := hP
              have hD : va_D A (List.flatten [bLT g lt ta lo, bTape g ta ab sz ln kd2_43 bg2_44 nx2_45 ft2_26 fb, bLaw g lo lc lz2_50 ll lm lg ld fc2_51]) := hD
              exact ih7_16 q_52 (-1) x_54 kd2_43 bg2_44 nx2_45 ft2_26 lz2_50 fc2_51 ⟨(Int.le_trans (by decide) hx_54.2.1), hx_54.2.2⟩ ⟨hq47_1.1, hq47_1.2⟩ ⟨hq47_0.1, hq47_0.2⟩ (by first | omega | assumption | decide) ⟨hq53.1, hq53.2⟩ H _ ls (zmK hx_54.1 (by decide) n22 (by decide) hk7_16)  hP hD hS (lv_sub hl [0, 1, 2, 3, 4] rfl)
          · skip
            refine lv_if_eq (tgt := 61) hx hb dX2_readCondition_44 (by decide) (fun c55 => absurd c55 (by decide)) (fun _ => ?_)
            refine lv_aload_n hx hb dX2_readCondition_47 rfl (lv_at hl 1 rfl) ?_
            refine va_get (D := g.1) (ci := 2) (v := .ref lo) (C := RX2) (T := TX2) (N := 2) hx hb hts izRX2 hown hK hP 0 rfl rfl 1 (by decide) (hts _ k210) (fun _ h9 => h9) rfl dX2_readCondition_48 ?_
            refine lv_bipush (v := 13) hx hb dX2_readCondition_51 (by decide) ?_
            refine lv_iconst (v := 0) hx hb dX2_readCondition_53 (by decide) ?_
            refine mcallV' (g := g) (q0 := 0) (ci := 1) (As := [.int 13, .int 0]) (rest := []) St hK hT hA hP hD hS hl.1 [1] [0, 2] rfl rfl rfl (c_l_put l g lo lc lz2_27 ll lm lg ld fc2_33 13 0 (⟨hq30_0.1, hq30_0.2⟩)) (cwV 2 hts (zgL (zl4 k297 k298 k299 k85) k202) rfl rfl rfl (by decide +kernel) ⟨Nat.le_of_ble_eq_true rfl, Nat.le_of_ble_eq_true rfl⟩) rfl rfl rfl rfl (Nat.le_of_ble_eq_true rfl) dX2_readCondition_54 ⟨(Nat.le_of_ble_eq_true rfl), (Nat.le_of_ble_eq_true rfl)⟩ (fun u_ H locs hq59 hP hD hS => ?_)
            obtain ⟨lz2_56, fc2_57, q_58⟩ := u_
            replace hq59 : (0 ≤ lz2_56.toInt ∧ lz2_56.toInt ≤ 400) := hq59
            have hP : va_P g.1 vwCl (List.flatten [bLT g lt ta lo, bTape g ta ab sz ln kd2_35 bg2_36 nx2_37 ft2_26 fb, bLaw g lo lc lz2_56 ll lm lg ld fc2_57]) H := hP
            have hD : va_D A (List.flatten [bLT g lt ta lo, bTape g ta ab sz ln kd2_35 bg2_36 nx2_37 ft2_26 fb, bLaw g lo lc lz2_56 ll lm lg ld fc2_57]) := hD
            refine W.widen (k := 0) (n := 0) (Nat.le_of_ble_eq_true rfl) (Nat.le_of_ble_eq_true rfl) ?_
            refine W.eq (g2 := F0 m 57 ls [.int q_58]) rfl ?_
            refine lv_istore_n (lv' := [(3, .int q_58), (0, .ref lt), (1, .int 4), (2, .int x_1), (4, .int x_3)]) hx hb dX2_readCondition_57 rfl hl (by decide) rfl (fun ls hl => ?_)
            refine lv_goto (tgt := 94) hx hb dX2_readCondition_58 (by decide) ?_
            refine ziinc3 (n' := 1) (a' := 1) (b' := 400) (lv' := fun v9 => [(4, .int v9), (3, .int q_58), (0, .ref lt), (1, .int 4), (2, .int x_1)]) hx hb dX2_readCondition_94 hl (k := 4) rfl (by decide) (fun _ => rfl) (zaddK (i := x_3.toInt) (j := 1) rfl (by decide) i10.1 n22 (Int.le_refl _) (Int.le_refl _) (by decide)) (fun x_60 ls hx_60 hl => ?_)
            refine lv_goto (tgt := 7) hx hb dX2_readCondition_97 (by decide) ?_
            have hl := lv_sub (l' := [(0, .ref lt), (1, .int 4), (2, .int x_1), (3, .int q_58), (4, .int x_60)]) hl [2, 3, 4, 1, 0] rfl
            have hP : va_P g.1 vwCl (List.flatten [bLT g lt ta lo, bTape g ta ab sz ln kd2_35 bg2_36 nx2_37 ft2_26 fb, bLaw g lo lc lz2_56 ll lm lg ld fc2_57]) H := hP
            have hD : va_D A (List.flatten [bLT g lt ta lo, bTape g ta ab sz ln kd2_35 bg2_36 nx2_37 ft2_26 fb, bLaw g lo lc lz2_56 ll lm lg ld fc2_57]) := hD
            exact ih7_16 x_1 q_58 x_60 kd2_35 bg2_36 nx2_37 ft2_26 lz2_56 fc2_57 ⟨(Int.le_trans (by decide) hx_60.2.1), hx_60.2.2⟩ ⟨hq39_1.1, hq39_1.2⟩ ⟨hq39_0.1, hq39_0.2⟩ (by first | omega | assumption | decide) ⟨hq59.1, hq59.2⟩ H _ ls (zmK hx_60.1 (by decide) n22 (by decide) hk7_16)  hP hD hS (lv_sub hl [0, 1, 2, 3, 4] rfl)
  have hP : va_P g.1 vwCl (List.flatten [bLT g lt ta lo, bTape g ta ab sz ln kd bg nx ft fb, bLaw g lo lc lz ll lm lg ld fc]) s.heap := hP
  have hD : va_D A (List.flatten [bLT g lt ta lo, bTape g ta ab sz ln kd bg nx ft fb, bLaw g lo lc lz ll lm lg ld fc]) := hD
  exact LP7_15 _ (-1) (-1) 0 kd bg nx ft lz fc (by decide) ⟨hbg.1, hbg.2⟩ ⟨hnx.1, hnx.2⟩ (by first | omega | assumption | decide) ⟨b_lz.1, b_lz.2⟩ s.heap _ ls (Nat.lt_succ_self _)  hP hD hS (lv_sub hl [0, 1, 2, 3, 4] rfl)
