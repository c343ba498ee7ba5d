set_option maxRecDepth 100000 in
set_option maxHeartbeats 4000000 in
theorem c_lt_readCondition1 (l : Launch) (g : zG) (lt : Nat) (ta : Nat) (lo : Nat) (ab : Nat) (sz : Int32) (ln : Int32) (kd : Int32) (bg : Int32) (nx : Int32) (ft : Int32) (fb : Nat → Int32) (lc : Nat) (lz : Int32) (ll : Int32) (lm : Int32) (lg : Int32) (ld : Int32) (fc : Nat → Int32) (b_lz : 0 ≤ lz.toInt ∧ lz.toInt ≤ 400) (hln : 0 ≤ ln.toInt ∧ ln.toInt ≤ 400) (hnx : 0 ≤ nx.toInt ∧ nx.toInt ≤ 400) (hbg : 0 ≤ bg.toInt ∧ bg.toInt ≤ 400) (hkd : zKd kd.toInt bg.toInt nx.toInt) (hft : -1 ≤ ft.toInt) : zM' g l yX2_readCondition (Cond.code yX2_readCondition cX2_readCondition 5 (some .boolean) :: zB) ({ frames := 22, cells := 0, slots := 0, locals := 487 } : Room) [.ref lt, .int 1] [bLT g lt ta lo, bTape g ta ab sz ln kd bg nx ft fb, bLaw g lo lc lz ll lm lg ld fc] (fun u : Int32 × Int32 × Int32 × Int32 × Int32 × (Nat → Int32) × Int32 => (fun (kd2 : Int32) (bg2 : Int32) (nx2 : Int32) (ft2 : Int32) (lz2 : Int32) (fc2 : Nat → Int32) (q : Int32) => some (.int q)) (u.1) (u.2.1) (u.2.2.1) (u.2.2.2.1) (u.2.2.2.2.1) (u.2.2.2.2.2.1) (u.2.2.2.2.2.2)) (fun u : Int32 × Int32 × Int32 × Int32 × Int32 × (Nat → Int32) × Int32 => (fun (kd2 : Int32) (bg2 : Int32) (nx2 : Int32) (ft2 : Int32) (lz2 : Int32) (fc2 : Nat → Int32) (q : Int32) => (0 ≤ lz2.toInt ∧ lz2.toInt ≤ 400) ∧ (-1 ≤ ft2.toInt) ∧ (0 ≤ nx2.toInt ∧ nx2.toInt ≤ 400) ∧ (0 ≤ bg2.toInt ∧ bg2.toInt ≤ 400) ∧ (zKd kd2.toInt bg2.toInt nx2.toInt) ∧ (q = 0 ∨ q = 1)) (u.1) (u.2.1) (u.2.2.1) (u.2.2.2.1) (u.2.2.2.2.1) (u.2.2.2.2.2.1) (u.2.2.2.2.2.2)) (fun u : Int32 × Int32 × Int32 × Int32 × Int32 × (Nat → Int32) × Int32 => (fun (kd2 : Int32) (bg2 : Int32) (nx2 : Int32) (ft2 : Int32) (lz2 : Int32) (fc2 : Nat → Int32) (q : Int32) => [bLT g lt ta lo, bTape g ta ab sz ln kd2 bg2 nx2 ft2 fb, bLaw g lo lc lz2 ll lm lg ld fc2]) (u.1) (u.2.1) (u.2.2.1) (u.2.2.2.1) (u.2.2.2.2.1) (u.2.2.2.2.2.1) (u.2.2.2.2.2.2)) := by
  refine zM'.of (cc := cX2_readCondition) (maxL := 5) (rt := (some .boolean)) (by decide) rfl (Nat.le_of_ble_eq_true rfl) ?_
  intro p e s m args below meth c A ls St hr hlocks hin hK hT hA hP hD hS hl
  obtain ⟨hx, hb, hml, hown, hts⟩ := id St
  have hl : lv_has ls 5 [(0, .ref lt), (1, .int 1)] := hl
  refine lv_iconst (v := (-1)) hx hb dX2_readCondition_0 (by decide) ?_
  refine lv_istore_n (lv' := [(2, .int (-1)), (0, .ref lt), (1, .int 1)]) hx hb dX2_readCondition_1 rfl hl (by decide) rfl (fun ls hl => ?_)
  refine lv_iconst (v := (-1)) hx hb dX2_readCondition_2 (by decide) ?_
  refine lv_istore_n (lv' := [(3, .int (-1)), (2, .int (-1)), (0, .ref lt), (1, .int 1)]) hx hb dX2_readCondition_3 rfl hl (by decide) rfl (fun ls hl => ?_)
  refine lv_iconst (v := 0) hx hb dX2_readCondition_4 (by decide) ?_
  refine lv_istore (lv' := [(4, .int 0), (3, .int (-1)), (2, .int (-1)), (0, .ref lt), (1, .int 1)]) hx hb dX2_readCondition_5 hl (by decide) rfl (fun ls hl => ?_)
  have hl := lv_sub (l' := [(0, .ref lt), (1, .int 1), (2, .int (-1)), (3, .int (-1)), (4, .int 0)]) hl [3, 4, 2, 1, 0] rfl
  have LP7_16 : ∀ (kf : Nat) (x_1 : Int32) (x_2 : Int32) (x_3 : Int32) (x_4 : Int32) (x_5 : Int32) (x_6 : Int32) (x_7 : Int32) (x_8 : Int32) (fc_9 : Nat → Int32), (0 ≤ x_3.toInt ∧ x_3.toInt ≤ 400) → (0 ≤ x_5.toInt ∧ x_5.toInt ≤ 400) → (0 ≤ x_6.toInt ∧ x_6.toInt ≤ 400) → ((-1) ≤ x_7.toInt) → (0 ≤ x_8.toInt ∧ x_8.toInt ≤ 400) → (zKd x_4.toInt x_5.toInt x_6.toInt) → ∀ (H : Heap) (locs : List Loc) (ls : Array Slot), ((401 - x_3.toInt).toNat) < kf → va_P g.1 vwCl (List.flatten [bLT g lt ta lo, bTape g ta ab sz ln x_4 x_5 x_6 x_7 fb, bLaw g lo lc x_8 ll lm lg ld fc_9]) H → va_D A (List.flatten [bLT g lt ta lo, bTape g ta ab sz ln x_4 x_5 x_6 x_7 fb, bLaw g lo lc x_8 ll lm lg ld fc_9]) → va_S A s.heap H locs → lv_has ls 5 [(0, .ref lt), (1, .int 1), (2, .int x_1), (3, .int x_2), (4, .int x_3)] → W p l e ({ frames := 22, cells := 0, slots := 0, locals := 487 } : Room) s m args below meth c H locs (0) (0) (zF g (fun u : Int32 × Int32 × Int32 × Int32 × Int32 × (Nat → Int32) × Int32 => (fun (kd2 : Int32) (bg2 : Int32) (nx2 : Int32) (ft2 : Int32) (lz2 : Int32) (fc2 : Nat → Int32) (q : Int32) => some (.int q)) (u.1) (u.2.1) (u.2.2.1) (u.2.2.2.1) (u.2.2.2.2.1) (u.2.2.2.2.2.1) (u.2.2.2.2.2.2)) (fun u : Int32 × Int32 × Int32 × Int32 × Int32 × (Nat → Int32) × Int32 => (fun (kd2 : Int32) (bg2 : Int32) (nx2 : Int32) (ft2 : Int32) (lz2 : Int32) (fc2 : Nat → Int32) (q : Int32) => (0 ≤ lz2.toInt ∧ lz2.toInt ≤ 400) ∧ (-1 ≤ ft2.toInt) ∧ (0 ≤ nx2.toInt ∧ nx2.toInt ≤ 400) ∧ (0 ≤ bg2.toInt ∧ bg2.toInt ≤ 400) ∧ (zKd kd2.toInt bg2.toInt nx2.toInt) ∧ (q = 0 ∨ q = 1)) (u.1) (u.2.1) (u.2.2.1) (u.2.2.2.1) (u.2.2.2.2.1) (u.2.2.2.2.2.1) (u.2.2.2.2.2.2)) (fun u : Int32 × Int32 × Int32 × Int32 × Int32 × (Nat → Int32) × Int32 => (fun (kd2 : Int32) (bg2 : Int32) (nx2 : Int32) (ft2 : Int32) (lz2 : Int32) (fc2 : Nat → Int32) (q : Int32) => [bLT g lt ta lo, bTape g ta ab sz ln kd2 bg2 nx2 ft2 fb, bLaw g lo lc lz2 ll lm lg ld fc2]) (u.1) (u.2.1) (u.2.2.1) (u.2.2.2.1) (u.2.2.2.2.1) (u.2.2.2.2.2.1) (u.2.2.2.2.2.2)) ({ frames := 22, cells := 0, slots := 0, locals := 487 } : Room) below args s A) (F0 m 7 ls []) := by
    intro kf
    induction kf with
    | zero => intro x_1 x_2 x_3 x_4 x_5 x_6 x_7 x_8 fc_9 i10 i11 i12 i13 i14 i15 H locs ls hk; exact absurd hk (Nat.not_lt_zero _)
    | succ kf ih7_17 =>
      intro x_1 x_2 x_3 x_4 x_5 x_6 x_7 x_8 fc_9 i10 i11 i12 i13 i14 i15 H locs ls hk7_17 hP hD hS hl
      refine lv_iload hx hb dX2_readCondition_7 (lv_at hl 4 rfl) ?_
      refine lv_sipush (v := 400) hx hb dX2_readCondition_9 (by decide) ?_
      refine lv_icmp_ge (tgt := 100) hx hb dX2_readCondition_12 (by decide) (fun cb9 => ?_) (fun cb9 => ?_)
      · skip
        have c18 : 400 ≤ x_3.toInt := zle cb9 (by decide) rfl
        have n19 : 400 ≤ x_3.toInt := Int.le_trans (Int.le_refl _) c18
        refine lv_aload_n hx hb dX2_readCondition_100 rfl (lv_at hl 0 rfl) ?_
        refine va_get (D := g.1) (ci := 2) (v := .ref ta) (C := RX2) (T := TX2) (N := 2) hx hb hts izRX2 hown hK hP 0 rfl rfl 0 (by decide) (hts _ k290) (fun x9 h9 => u_same (hts _ k291) x9 h9) rfl dX2_readCondition_101 ?_
        refine mcallV' (g := g) (q0 := 0) (ci := 6) (As := []) (rest := []) St hK hT hA hP hD hS hl.1 [1] [0, 2] rfl rfl rfl (c_t_refuse l g ta ab sz ln x_4 x_5 x_6 x_7 fb hln i12 i11 i15 i13) (cwV 0 hts (zgL (zl4 k303 k279 k280 k277) k269) rfl rfl rfl (by decide +kernel) ⟨Nat.le_of_ble_eq_true rfl, Nat.le_of_ble_eq_true rfl⟩) rfl rfl rfl rfl (Nat.le_of_ble_eq_true rfl) dX2_readCondition_104 ⟨(Nat.le_of_ble_eq_true rfl), (Nat.le_of_ble_eq_true rfl)⟩ (fun ft2_20 H locs hq21 hP hD hS => ?_)
        replace hq21 : (-1 ≤ ft2_20.toInt) := hq21
        have hP : va_P g.1 vwCl (List.flatten [bLT g lt ta lo, bLaw g lo lc x_8 ll lm lg ld fc_9, bTape g ta ab sz ln x_4 x_5 x_6 ft2_20 fb]) H := hP
        have hD : va_D A (List.flatten [bLT g lt ta lo, bLaw g lo lc x_8 ll lm lg ld fc_9, bTape g ta ab sz ln x_4 x_5 x_6 ft2_20 fb]) := hD
        refine W.widen (k := 0) (n := 0) (Nat.le_of_ble_eq_true rfl) (Nat.le_of_ble_eq_true rfl) ?_
        refine W.eq (g2 := F0 m 107 ls [.int 0]) rfl ?_
        have hP : va_P g.1 vwCl (List.flatten [bLT g lt ta lo, bLaw g lo lc x_8 ll lm lg ld fc_9, bTape g ta ab sz ln x_4 x_5 x_6 ft2_20 fb]) H := hP
        have hD : va_D A (List.flatten [bLT g lt ta lo, bLaw g lo lc x_8 ll lm lg ld fc_9, bTape g ta ab sz ln x_4 x_5 x_6 ft2_20 fb]) := hD
        obtain ⟨hP, hD⟩ := zord (g := g) (Bs' := [bLT g lt ta lo, bTape g ta ab sz ln x_4 x_5 x_6 ft2_20 fb, bLaw g lo lc x_8 ll lm lg ld fc_9]) [0, 2, 1] rfl rfl hP hD
        exact mret_z hx hb hr hlocks hS (Nat.le_of_ble_eq_true rfl) (Nat.le_of_ble_eq_true rfl) dX2_readCondition_107 (x_4, x_5, x_6, ft2_20, x_8, fc_9, (0 : Int32)) rfl (by decide) (show (0 ≤ x_8.toInt ∧ x_8.toInt ≤ 400) ∧ (-1 ≤ ft2_20.toInt) ∧ (0 ≤ x_6.toInt ∧ x_6.toInt ≤ 400) ∧ (0 ≤ x_5.toInt ∧ x_5.toInt ≤ 400) ∧ (zKd x_4.toInt x_5.toInt x_6.toInt) ∧ (0 = 0 ∨ 0 = 1) from ⟨i14, hq21, i12, i11, i15, (by decide)⟩) hP hD
      · skip
        have c22 : x_3.toInt < 400 := zlti (Int32.not_le.mp cb9) rfl (by decide)
        have n23 : x_3.toInt ≤ 399 := zL1 (b := 400) c22 (Int.le_refl _) (by decide)
        refine lv_aload_n hx hb dX2_readCondition_15 rfl (lv_at hl 0 rfl) ?_
        refine lv_iload_n hx hb dX2_readCondition_16 rfl (lv_at hl 1 rfl) ?_
        refine mcallV' (g := g) (q0 := 0) (ci := 2) (As := [.int 1]) (rest := []) St hK hT hA hP hD hS hl.1 [0, 1, 2] [] rfl rfl rfl (c_lt_readAtom1 l g lt ta lo ab sz ln x_4 x_5 x_6 x_7 fb lc x_8 ll lm lg ld fc_9 i14 hln i12 i11 i15 i13) (cwV 1 hts (zgL (zl4 k317 k318 k319 k309) k327) rfl rfl rfl (by decide +kernel) ⟨Nat.le_of_ble_eq_true rfl, Nat.le_of_ble_eq_true rfl⟩) rfl rfl rfl rfl (Nat.le_of_ble_eq_true rfl) dX2_readCondition_17 ⟨(Nat.le_of_ble_eq_true rfl), (Nat.le_of_ble_eq_true rfl)⟩ (fun u_ H locs hq31 hP hD hS => ?_)
        obtain ⟨kd2_24, bg2_25, nx2_26, ft2_27, lz2_28, fc2_29, q_30⟩ := u_
        replace hq31 : (0 ≤ lz2_28.toInt ∧ lz2_28.toInt ≤ 400) ∧ (-1 ≤ ft2_27.toInt) ∧ (0 ≤ nx2_26.toInt ∧ nx2_26.toInt ≤ 400) ∧ (0 ≤ bg2_25.toInt ∧ bg2_25.toInt ≤ 400) ∧ (zKd kd2_24.toInt bg2_25.toInt nx2_26.toInt) ∧ (q_30 = 0 ∨ q_30 = 1) := hq31
        have hP : va_P g.1 vwCl (List.flatten [bLT g lt ta lo, bTape g ta ab sz ln kd2_24 bg2_25 nx2_26 ft2_27 fb, bLaw g lo lc lz2_28 ll lm lg ld fc2_29]) H := hP
        have hD : va_D A (List.flatten [bLT g lt ta lo, bTape g ta ab sz ln kd2_24 bg2_25 nx2_26 ft2_27 fb, bLaw g lo lc lz2_28 ll lm lg ld fc2_29]) := hD
        refine W.widen (k := 0) (n := 0) (Nat.le_of_ble_eq_true rfl) (Nat.le_of_ble_eq_true rfl) ?_
        refine W.eq (g2 := F0 m 20 ls [.int q_30]) rfl ?_
        obtain ⟨hq31_0, hq31_1, hq31_2, hq31_3, hq31_4, hq31_5⟩ := hq31
        rcases hq31_5 with rfl | rfl
        · skip
          refine lv_if_ne (tgt := 25) hx hb dX2_readCondition_20 (by decide) (fun c32 => absurd (by decide) c32) (fun _ => ?_)
          refine lv_iconst (v := 0) hx hb dX2_readCondition_23 (by decide) ?_
          have hP : va_P g.1 vwCl (List.flatten [bLT g lt ta lo, bTape g ta ab sz ln kd2_24 bg2_25 nx2_26 ft2_27 fb, bLaw g lo lc lz2_28 ll lm lg ld fc2_29]) H := hP
          have hD : va_D A (List.flatten [bLT g lt ta lo, bTape g ta ab sz ln kd2_24 bg2_25 nx2_26 ft2_27 fb, bLaw g lo lc lz2_28 ll lm lg ld fc2_29]) := hD
          exact mret_z hx hb hr hlocks hS (Nat.le_of_ble_eq_true rfl) (Nat.le_of_ble_eq_true rfl) dX2_readCondition_24 (kd2_24, bg2_25, nx2_26, ft2_27, lz2_28, fc2_29, (0 : Int32)) rfl (by decide) (show (0 ≤ lz2_28.toInt ∧ lz2_28.toInt ≤ 400) ∧ (-1 ≤ ft2_27.toInt) ∧ (0 ≤ nx2_26.toInt ∧ nx2_26.toInt ≤ 400) ∧ (0 ≤ bg2_25.toInt ∧ bg2_25.toInt ≤ 400) ∧ (zKd kd2_24.toInt bg2_25.toInt nx2_26.toInt) ∧ (0 = 0 ∨ 0 = 1) from ⟨hq31_0, hq31_1, hq31_2, hq31_3, hq31_4, (by decide)⟩) hP hD
        · skip
          refine lv_if_ne (tgt := 25) hx hb dX2_readCondition_20 (by decide) (fun _ => ?_) (fun c33 => absurd c33 (by decide))
          refine lv_aload_n hx hb dX2_readCondition_25 rfl (lv_at hl 0 rfl) ?_
          refine va_get (D := g.1) (ci := 2) (v := .ref lo) (C := RX2) (T := TX2) (N := 2) hx hb hts izRX2 hown hK hP 0 rfl rfl 1 (by decide) (hts _ k210) (fun _ h9 => h9) rfl dX2_readCondition_26 ?_
          refine lv_iload_n hx hb dX2_readCondition_29 rfl (lv_at hl 3 rfl) ?_
          refine mcallV' (g := g) (q0 := 0) (ci := 1) (As := [.int x_2]) (rest := []) St hK hT hA hP hD hS hl.1 [2] [0, 1] rfl rfl rfl (c_l_aim l g lo lc lz2_28 ll lm lg ld fc2_29 x_2 hq31_0) (cwV 1 hts (zgL (zl4 k320 k321 k322 k85) k203) rfl rfl rfl (by decide +kernel) ⟨Nat.le_of_ble_eq_true rfl, Nat.le_of_ble_eq_true rfl⟩) rfl rfl rfl rfl (Nat.le_of_ble_eq_true rfl) dX2_readCondition_30 ⟨(Nat.le_of_ble_eq_true rfl), (Nat.le_of_ble_eq_true rfl)⟩ (fun fc2_34 H locs hq35 hP hD hS => ?_)
          have hP : va_P g.1 vwCl (List.flatten [bLT g lt ta lo, bTape g ta ab sz ln kd2_24 bg2_25 nx2_26 ft2_27 fb, bLaw g lo lc lz2_28 ll lm lg ld fc2_34]) H := hP
          have hD : va_D A (List.flatten [bLT g lt ta lo, bTape g ta ab sz ln kd2_24 bg2_25 nx2_26 ft2_27 fb, bLaw g lo lc lz2_28 ll lm lg ld fc2_34]) := hD
          refine W.widen (k := 0) (n := 0) (Nat.le_of_ble_eq_true rfl) (Nat.le_of_ble_eq_true rfl) ?_
          refine W.eq (g2 := F0 m 33 ls []) rfl ?_
          refine lv_iconst (v := (-1)) hx hb dX2_readCondition_33 (by decide) ?_
          refine lv_istore_n (lv' := [(3, .int (-1)), (0, .ref lt), (1, .int 1), (2, .int x_1), (4, .int x_3)]) hx hb dX2_readCondition_34 rfl hl (by decide) rfl (fun ls hl => ?_)
          refine lv_aload_n hx hb dX2_readCondition_35 rfl (lv_at hl 1 rfl) ?_
          refine va_get (D := g.1) (ci := 2) (v := .ref ta) (C := RX2) (T := TX2) (N := 2) hx hb hts izRX2 hown hK hP 0 rfl rfl 0 (by decide) (hts _ k290) (fun x9 h9 => u_same (hts _ k291) x9 h9) rfl dX2_readCondition_36 ?_
          refine va_ldcS (q := g.2 16) hx hb hown (zra3 hT.2.1) dX2_readCondition_39 ?_
          refine mcallV' (g := g) (q0 := 0) (ci := 6) (As := [.ref (g.2 16)]) (rest := []) St hK hT hA hP hD hS hl.1 [1] [0, 2] rfl rfl rfl (c_t_takeWord l g ta ab sz ln kd2_24 bg2_25 nx2_26 ft2_27 fb (g.2 16) 3 zqa3 hln hq31_2 hq31_3 hq31_4 hq31_1 rfl zla3 zna3) (cwV 1 hts (zgL (zl4 k310 k311 k312 k277) k284) rfl rfl rfl (by decide +kernel) ⟨Nat.le_of_ble_eq_true rfl, Nat.le_of_ble_eq_true rfl⟩) rfl rfl rfl rfl (Nat.le_of_ble_eq_true rfl) dX2_readCondition_41 ⟨(Nat.le_of_ble_eq_true rfl), (Nat.le_of_ble_eq_true rfl)⟩ (fun u_ H locs hq40 hP hD hS => ?_)
          obtain ⟨kd2_36, bg2_37, nx2_38, r_39⟩ := u_
          replace hq40 : (0 ≤ nx2_38.toInt ∧ nx2_38.toInt ≤ 400) ∧ (0 ≤ bg2_37.toInt ∧ bg2_37.toInt ≤ 400) ∧ (zKd kd2_36.toInt bg2_37.toInt nx2_38.toInt) ∧ (r_39 = 0 ∨ r_39 = 1) := hq40
          have hP : va_P g.1 vwCl (List.flatten [bLT g lt ta lo, bLaw g lo lc lz2_28 ll lm lg ld fc2_34, bTape g ta ab sz ln kd2_36 bg2_37 nx2_38 ft2_27 fb]) H := hP
          have hD : va_D A (List.flatten [bLT g lt ta lo, bLaw g lo lc lz2_28 ll lm lg ld fc2_34, bTape g ta ab sz ln kd2_36 bg2_37 nx2_38 ft2_27 fb]) := hD
          refine W.widen (k := 0) (n := 0) (Nat.le_of_ble_eq_true rfl) (Nat.le_of_ble_eq_true rfl) ?_
          refine W.eq (g2 := F0 m 44 ls [.int r_39]) rfl ?_
          obtain ⟨hq40_0, hq40_1, hq40_2, hq40_3⟩ := hq40
          rcases hq40_3 with rfl | rfl
          · skip
            refine lv_if_eq (tgt := 61) hx hb dX2_readCondition_44 (by decide) (fun _ => ?_) (fun c41 => absurd (by decide) c41)
            refine lv_aload_n hx hb dX2_readCondition_61 rfl (lv_at hl 1 rfl) ?_
            refine va_get (D := g.1) (ci := 2) (v := .ref lo) (C := RX2) (T := TX2) (N := 2) hx hb hts izRX2 hown hK hP 0 rfl rfl 1 (by decide) (hts _ k210) (fun _ h9 => h9) rfl dX2_readCondition_62 ?_
            refine lv_iload_n hx hb dX2_readCondition_65 rfl (lv_at hl 3 rfl) ?_
            refine mcallV' (g := g) (q0 := 0) (ci := 1) (As := [.int x_1]) (rest := []) St hK hT hA hP hD hS hl.1 [1] [0, 2] rfl rfl rfl (c_l_aim l g lo lc lz2_28 ll lm lg ld fc2_34 x_1 hq31_0) (cwV 1 hts (zgL (zl4 k320 k321 k322 k85) k203) rfl rfl rfl (by decide +kernel) ⟨Nat.le_of_ble_eq_true rfl, Nat.le_of_ble_eq_true rfl⟩) rfl rfl rfl rfl (Nat.le_of_ble_eq_true rfl) dX2_readCondition_66 ⟨(Nat.le_of_ble_eq_true rfl), (Nat.le_of_ble_eq_true rfl)⟩ (fun fc2_42 H locs hq43 hP hD hS => ?_)
            have hP : va_P g.1 vwCl (List.flatten [bLT g lt ta lo, bTape g ta ab sz ln kd2_36 bg2_37 nx2_38 ft2_27 fb, bLaw g lo lc lz2_28 ll lm lg ld fc2_42]) H := hP
            have hD : va_D A (List.flatten [bLT g lt ta lo, bTape g ta ab sz ln kd2_36 bg2_37 nx2_38 ft2_27 fb, bLaw g lo lc lz2_28 ll lm lg ld fc2_42]) := hD
            refine W.widen (k := 0) (n := 0) (Nat.le_of_ble_eq_true rfl) (Nat.le_of_ble_eq_true rfl) ?_
            refine W.eq (g2 := F0 m 69 ls []) rfl ?_
            refine lv_aload_n hx hb dX2_readCondition_69 rfl (lv_at hl 1 rfl) ?_
            refine va_get (D := g.1) (ci := 2) (v := .ref ta) (C := RX2) (T := TX2) (N := 2) hx hb hts izRX2 hown hK hP 0 rfl rfl 0 (by decide) (hts _ k290) (fun x9 h9 => u_same (hts _ k291) x9 h9) rfl dX2_readCondition_70 ?_
            refine va_ldcS (q := g.2 18) hx hb hown (zra4 hT.2.1) dX2_readCondition_73 ?_
            refine mcallV' (g := g) (q0 := 0) (ci := 6) (As := [.ref (g.2 18)]) (rest := []) St hK hT hA hP hD hS hl.1 [1] [0, 2] rfl rfl rfl (c_t_takeWord l g ta ab sz ln kd2_36 bg2_37 nx2_38 ft2_27 fb (g.2 18) 4 zqa4 hln hq40_0 hq40_1 hq40_2 hq31_1 rfl zla4 zna4) (cwV 1 hts (zgL (zl4 k310 k311 k312 k277) k284) rfl rfl rfl (by decide +kernel) ⟨Nat.le_of_ble_eq_true rfl, Nat.le_of_ble_eq_true rfl⟩) rfl rfl rfl rfl (Nat.le_of_ble_eq_true rfl) dX2_readCondition_75 ⟨(Nat.le_of_ble_eq_true rfl), (Nat.le_of_ble_eq_true rfl)⟩ (fun u_ H locs hq48 hP hD hS => ?_)
            obtain ⟨kd2_44, bg2_45, nx2_46, r_47⟩ := u_
            replace hq48 : (0 ≤ nx2_46.toInt ∧ nx2_46.toInt ≤ 400) ∧ (0 ≤ bg2_45.toInt ∧ bg2_45.toInt ≤ 400) ∧ (zKd kd2_44.toInt bg2_45.toInt nx2_46.toInt) ∧ (r_47 = 0 ∨ r_47 = 1) := hq48
            have hP : va_P g.1 vwCl (List.flatten [bLT g lt ta lo, bLaw g lo lc lz2_28 ll lm lg ld fc2_42, bTape g ta ab sz ln kd2_44 bg2_45 nx2_46 ft2_27 fb]) H := hP
            have hD : va_D A (List.flatten [bLT g lt ta lo, bLaw g lo lc lz2_28 ll lm lg ld fc2_42, bTape g ta ab sz ln kd2_44 bg2_45 nx2_46 ft2_27 fb]) := hD
            refine W.widen (k := 0) (n := 0) (Nat.le_of_ble_eq_true rfl) (Nat.le_of_ble_eq_true rfl) ?_
            refine W.eq (g2 := F0 m 78 ls [.int r_47]) rfl ?_
            obtain ⟨hq48_0, hq48_1, hq48_2, hq48_3⟩ := hq48
            rcases hq48_3 with rfl | rfl
            · skip
              refine lv_if_ne (tgt := 83) hx hb dX2_readCondition_78 (by decide) (fun c49 => absurd (by decide) c49) (fun _ => ?_)
              refine lv_iconst (v := 1) hx hb dX2_readCondition_81 (by decide) ?_
              have hP : va_P g.1 vwCl (List.flatten [bLT g lt ta lo, bLaw g lo lc lz2_28 ll lm lg ld fc2_42, bTape g ta ab sz ln kd2_44 bg2_45 nx2_46 ft2_27 fb]) H := hP
              have hD : va_D A (List.flatten [bLT g lt ta lo, bLaw g lo lc lz2_28 ll lm lg ld fc2_42, bTape g ta ab sz ln kd2_44 bg2_45 nx2_46 ft2_27 fb]) := hD
              obtain ⟨hP, hD⟩ := zord (g := g) (Bs' := [bLT g lt ta lo, bTape g ta ab sz ln kd2_44 bg2_45 nx2_46 ft2_27 fb, bLaw g lo lc lz2_28 ll lm lg ld fc2_42]) [0, 2, 1] rfl rfl hP hD
              exact mret_z hx hb hr hlocks hS (Nat.le_of_ble_eq_true rfl) (Nat.le_of_ble_eq_true rfl) dX2_readCondition_82 (kd2_44, bg2_45, nx2_46, ft2_27, lz2_28, fc2_42, (1 : Int32)) rfl (by decide) (show (0 ≤ lz2_28.toInt ∧ lz2_28.toInt ≤ 400) ∧ (-1 ≤ ft2_27.toInt) ∧ (0 ≤ nx2_46.toInt ∧ nx2_46.toInt ≤ 400) ∧ (0 ≤ bg2_45.toInt ∧ bg2_45.toInt ≤ 400) ∧ (zKd kd2_44.toInt bg2_45.toInt nx2_46.toInt) ∧ (1 = 0 ∨ 1 = 1) from ⟨hq31_0, hq31_1, hq48_0, hq48_1, hq48_2, (by decide)⟩) hP hD
            · skip
              refine lv_if_ne (tgt := 83) hx hb dX2_readCondition_78 (by decide) (fun _ => ?_) (fun c50 => absurd c50 (by decide))
              refine lv_aload_n hx hb dX2_readCondition_83 rfl (lv_at hl 1 rfl) ?_
              refine va_get (D := g.1) (ci := 2) (v := .ref lo) (C := RX2) (T := TX2) (N := 2) hx hb hts izRX2 hown hK hP 0 rfl rfl 1 (by decide) (hts _ k210) (fun _ h9 => h9) rfl dX2_readCondition_84 ?_
              refine lv_bipush (v := 14) hx hb dX2_readCondition_87 (by decide) ?_
              refine lv_iconst (v := 0) hx hb dX2_readCondition_89 (by decide) ?_
              refine mcallV' (g := g) (q0 := 0) (ci := 1) (As := [.int 14, .int 0]) (rest := []) St hK hT hA hP hD hS hl.1 [1] [0, 2] rfl rfl rfl (c_l_put l g lo lc lz2_28 ll lm lg ld fc2_42 14 0 hq31_0) (cwV 2 hts (zgL (zl4 k297 k298 k299 k85) k202) rfl rfl rfl (by decide +kernel) ⟨Nat.le_of_ble_eq_true rfl, Nat.le_of_ble_eq_true rfl⟩) rfl rfl rfl rfl (Nat.le_of_ble_eq_true rfl) dX2_readCondition_90 ⟨(Nat.le_of_ble_eq_true rfl), (Nat.le_of_ble_eq_true rfl)⟩ (fun u_ H locs hq54 hP hD hS => ?_)
              obtain ⟨lz2_51, fc2_52, q_53⟩ := u_
              replace hq54 : (0 ≤ lz2_51.toInt ∧ lz2_51.toInt ≤ 400) := hq54
              have hP : va_P g.1 vwCl (List.flatten [bLT g lt ta lo, bTape g ta ab sz ln kd2_44 bg2_45 nx2_46 ft2_27 fb, bLaw g lo lc lz2_51 ll lm lg ld fc2_52]) H := hP
              have hD : va_D A (List.flatten [bLT g lt ta lo, bTape g ta ab sz ln kd2_44 bg2_45 nx2_46 ft2_27 fb, bLaw g lo lc lz2_51 ll lm lg ld fc2_52]) := hD
              refine W.widen (k := 0) (n := 0) (Nat.le_of_ble_eq_true rfl) (Nat.le_of_ble_eq_true rfl) ?_
              refine W.eq (g2 := F0 m 93 ls [.int q_53]) rfl ?_
              refine lv_istore_n (lv' := [(2, .int q_53), (3, .int (-1)), (0, .ref lt), (1, .int 1), (4, .int x_3)]) hx hb dX2_readCondition_93 rfl hl (by decide) rfl (fun ls hl => ?_)
              refine ziinc3 (n' := 1) (a' := 1) (b' := 400) (lv' := fun v9 => [(4, .int v9), (2, .int q_53), (3, .int (-1)), (0, .ref lt), (1, .int 1)]) hx hb dX2_readCondition_94 hl (k := 4) rfl (by decide) (fun _ => rfl) (zaddK (i := x_3.toInt) (j := 1) rfl (by decide) i10.1 n23 (Int.le_refl _) (Int.le_refl _) (by decide)) (fun x_55 ls hx_55 hl => ?_)
              refine lv_goto (tgt := 7) hx hb dX2_readCondition_97 (by decide) ?_
              have hl := lv_sub (l' := [(0, .ref lt), (1, .int 1), (2, .int q_53), (3, .int (-1)), (4, .int x_55)]) hl [3, 4, 1, 2, 0] rfl
              have hLn1 : ((-1) : Int32).toInt = (-1) := by decide
              have hP : va_P g.1 vwCl (List.flatten [bLT g lt ta lo, bTape g ta ab sz ln kd2_44 bg2_45 nx2_46 ft2_27 fb, bLaw g lo lc lz2_51 ll lm lg ld fc2_52]) H := hP
              have hD : va_D A (List.flatten [bLT g lt ta lo, bTape g ta ab sz ln kd2_44 bg2_45 nx2_46 ft2_27 fb, bLaw g lo lc lz2_51 ll lm lg ld fc2_52]) := hD
              exact ih7_17 q_53 (-1) x_55 kd2_44 bg2_45 nx2_46 ft2_27 lz2_51 fc2_52 ⟨(Int.le_trans (by decide) hx_55.2.1), hx_55.2.2⟩ ⟨hq48_1.1, hq48_1.2⟩ ⟨hq48_0.1, hq48_0.2⟩ (by first | omega | assumption | decide) ⟨hq54.1, hq54.2⟩ hq48_2 H _ ls (zmK hx_55.1 (by decide) n23 (by decide) hk7_17)  hP hD hS (lv_sub hl [0, 1, 2, 3, 4] rfl)
          · skip
            refine lv_if_eq (tgt := 61) hx hb dX2_readCondition_44 (by decide) (fun c56 => absurd c56 (by decide)) (fun _ => ?_)
            refine lv_aload_n hx hb dX2_readCondition_47 rfl (lv_at hl 1 rfl) ?_
            refine va_get (D := g.1) (ci := 2) (v := .ref lo) (C := RX2) (T := TX2) (N := 2) hx hb hts izRX2 hown hK hP 0 rfl rfl 1 (by decide) (hts _ k210) (fun _ h9 => h9) rfl dX2_readCondition_48 ?_
            refine lv_bipush (v := 13) hx hb dX2_readCondition_51 (by decide) ?_
            refine lv_iconst (v := 0) hx hb dX2_readCondition_53 (by decide) ?_
            refine mcallV' (g := g) (q0 := 0) (ci := 1) (As := [.int 13, .int 0]) (rest := []) St hK hT hA hP hD hS hl.1 [1] [0, 2] rfl rfl rfl (c_l_put l g lo lc lz2_28 ll lm lg ld fc2_34 13 0 hq31_0) (cwV 2 hts (zgL (zl4 k297 k298 k299 k85) k202) rfl rfl rfl (by decide +kernel) ⟨Nat.le_of_ble_eq_true rfl, Nat.le_of_ble_eq_true rfl⟩) rfl rfl rfl rfl (Nat.le_of_ble_eq_true rfl) dX2_readCondition_54 ⟨(Nat.le_of_ble_eq_true rfl), (Nat.le_of_ble_eq_true rfl)⟩ (fun u_ H locs hq60 hP hD hS => ?_)
            obtain ⟨lz2_57, fc2_58, q_59⟩ := u_
            replace hq60 : (0 ≤ lz2_57.toInt ∧ lz2_57.toInt ≤ 400) := hq60
            have hP : va_P g.1 vwCl (List.flatten [bLT g lt ta lo, bTape g ta ab sz ln kd2_36 bg2_37 nx2_38 ft2_27 fb, bLaw g lo lc lz2_57 ll lm lg ld fc2_58]) H := hP
            have hD : va_D A (List.flatten [bLT g lt ta lo, bTape g ta ab sz ln kd2_36 bg2_37 nx2_38 ft2_27 fb, bLaw g lo lc lz2_57 ll lm lg ld fc2_58]) := hD
            refine W.widen (k := 0) (n := 0) (Nat.le_of_ble_eq_true rfl) (Nat.le_of_ble_eq_true rfl) ?_
            refine W.eq (g2 := F0 m 57 ls [.int q_59]) rfl ?_
            refine lv_istore_n (lv' := [(3, .int q_59), (0, .ref lt), (1, .int 1), (2, .int x_1), (4, .int x_3)]) hx hb dX2_readCondition_57 rfl hl (by decide) rfl (fun ls hl => ?_)
            refine lv_goto (tgt := 94) hx hb dX2_readCondition_58 (by decide) ?_
            refine ziinc3 (n' := 1) (a' := 1) (b' := 400) (lv' := fun v9 => [(4, .int v9), (3, .int q_59), (0, .ref lt), (1, .int 1), (2, .int x_1)]) hx hb dX2_readCondition_94 hl (k := 4) rfl (by decide) (fun _ => rfl) (zaddK (i := x_3.toInt) (j := 1) rfl (by decide) i10.1 n23 (Int.le_refl _) (Int.le_refl _) (by decide)) (fun x_61 ls hx_61 hl => ?_)
            refine lv_goto (tgt := 7) hx hb dX2_readCondition_97 (by decide) ?_
            have hl := lv_sub (l' := [(0, .ref lt), (1, .int 1), (2, .int x_1), (3, .int q_59), (4, .int x_61)]) hl [2, 3, 4, 1, 0] rfl
            have hP : va_P g.1 vwCl (List.flatten [bLT g lt ta lo, bTape g ta ab sz ln kd2_36 bg2_37 nx2_38 ft2_27 fb, bLaw g lo lc lz2_57 ll lm lg ld fc2_58]) H := hP
            have hD : va_D A (List.flatten [bLT g lt ta lo, bTape g ta ab sz ln kd2_36 bg2_37 nx2_38 ft2_27 fb, bLaw g lo lc lz2_57 ll lm lg ld fc2_58]) := hD
            exact ih7_17 x_1 q_59 x_61 kd2_36 bg2_37 nx2_38 ft2_27 lz2_57 fc2_58 ⟨(Int.le_trans (by decide) hx_61.2.1), hx_61.2.2⟩ ⟨hq40_1.1, hq40_1.2⟩ ⟨hq40_0.1, hq40_0.2⟩ (by first | omega | assumption | decide) ⟨hq60.1, hq60.2⟩ hq40_2 H _ ls (zmK hx_61.1 (by decide) n23 (by decide) hk7_17)  hP hD hS (lv_sub hl [0, 1, 2, 3, 4] rfl)
  have hLn1 : ((-1) : Int32).toInt = (-1) := by decide
  have hL0 : (0 : Int32).toInt = 0 := by decide
  have hP : va_P g.1 vwCl (List.flatten [bLT g lt ta lo, bTape g ta ab sz ln kd bg nx ft fb, bLaw g lo lc lz ll lm lg ld fc]) s.heap := hP
  have hD : va_D A (List.flatten [bLT g lt ta lo, bTape g ta ab sz ln kd bg nx ft fb, bLaw g lo lc lz ll lm lg ld fc]) := hD
  exact LP7_16 _ (-1) (-1) 0 kd bg nx ft lz fc (by decide) ⟨hbg.1, hbg.2⟩ ⟨hnx.1, hnx.2⟩ (by first | omega | assumption | decide) ⟨b_lz.1, b_lz.2⟩ hkd s.heap _ ls (Nat.lt_succ_self _)  hP hD hS (lv_sub hl [0, 1, 2, 3, 4] rfl)
