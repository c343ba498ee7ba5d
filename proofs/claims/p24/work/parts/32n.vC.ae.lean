set_option maxRecDepth 100000 in
set_option maxHeartbeats 4000000 in
theorem c_lt_readCondition0C (l : Launch) (g : zG) (lt : Nat) (ta : Nat) (lo : Nat) (ab : Nat) (sz : Int32) (ln : Int32) (kd : Int32) (bg : Int32) (nx : Int32) (fb : Nat → Int32) (lc : Nat) (lz : Int32) (ll : Int32) (lm : Int32) (lg : Int32) (ld : Int32) (fc : Nat → Int32) (b_lz : 0 ≤ lz.toInt ∧ lz.toInt ≤ 400) (hln : 0 ≤ ln.toInt ∧ ln.toInt ≤ 400) (hnx : 0 ≤ nx.toInt ∧ nx.toInt ≤ 400) (hbg : 0 ≤ bg.toInt ∧ bg.toInt ≤ 400) (hkd : zKd kd.toInt bg.toInt nx.toInt) (hTk : zTk fb ln.toInt kd.toInt bg.toInt nx.toInt) (hlb : lz.toInt + 2 ≤ bg.toInt) : zM' g l yX2_readCondition (Cond.code yX2_readCondition cX2_readCondition 5 (some .boolean) :: zB) ({ frames := 25, cells := 0, slots := 0, locals := 554 } : Room) [.ref lt, .int 0] [bLT g lt ta lo, bTape g ta ab sz ln kd bg nx (-1) fb, bLaw g lo lc lz ll lm lg ld fc] (fun u : Int32 × Int32 × Int32 × Int32 × Int32 × (Nat → Int32) × Int32 => (fun (kd2 : Int32) (bg2 : Int32) (nx2 : Int32) (ft2 : Int32) (lz2 : Int32) (fc2 : Nat → Int32) (q : Int32) => some (.int q)) (u.1) (u.2.1) (u.2.2.1) (u.2.2.2.1) (u.2.2.2.2.1) (u.2.2.2.2.2.1) (u.2.2.2.2.2.2)) (fun u : Int32 × Int32 × Int32 × Int32 × Int32 × (Nat → Int32) × Int32 => (fun (kd2 : Int32) (bg2 : Int32) (nx2 : Int32) (ft2 : Int32) (lz2 : Int32) (fc2 : Nat → Int32) (q : Int32) => (0 ≤ lz2.toInt ∧ lz2.toInt ≤ 400) ∧ (-1 ≤ ft2.toInt) ∧ (0 ≤ nx2.toInt ∧ nx2.toInt ≤ 400) ∧ (0 ≤ bg2.toInt ∧ bg2.toInt ≤ 400) ∧ (zKd kd2.toInt bg2.toInt nx2.toInt) ∧ (zTk fb ln.toInt kd2.toInt bg2.toInt nx2.toInt) ∧ (q = 1 ∧ zCond fb ln.toInt (zAtom fb ln.toInt 6) bg.toInt (.ok bg2.toInt) ∧ (-1) = ft2 ∧ zAC (fun e9 v9 => zCv fb ln.toInt (zAv fb ln.toInt e9 6) false true bg.toInt bg2.toInt v9) bg.toInt bg2.toInt fc fc2 lz.toInt lz2.toInt ∨ q = 0 ∧ zCond fb ln.toInt (zAtom fb ln.toInt 6) bg.toInt (.bad ft2.toInt))) (u.1) (u.2.1) (u.2.2.1) (u.2.2.2.1) (u.2.2.2.2.1) (u.2.2.2.2.2.1) (u.2.2.2.2.2.2)) (fun u : Int32 × Int32 × Int32 × Int32 × Int32 × (Nat → Int32) × Int32 => (fun (kd2 : Int32) (bg2 : Int32) (nx2 : Int32) (ft2 : Int32) (lz2 : Int32) (fc2 : Nat → Int32) (q : Int32) => [bLT g lt ta lo, bTape g ta ab sz ln kd2 bg2 nx2 ft2 fb, bLaw g lo lc lz2 ll lm lg ld fc2]) (u.1) (u.2.1) (u.2.2.1) (u.2.2.2.1) (u.2.2.2.2.1) (u.2.2.2.2.2.1) (u.2.2.2.2.2.2)) := by
  refine zM'.of (cc := cX2_readCondition) (maxL := 5) (rt := (some .boolean)) (by decide) rfl (Nat.le_of_ble_eq_true rfl) ?_
  intro p e s m args below meth c A ls St hr hlocks hin hK hT hA hP hD hS hl
  obtain ⟨hx, hb, hml, hown, hts⟩ := id St
  have hl : lv_has ls 5 [(0, .ref lt), (1, .int 0)] := hl
  refine lv_iconst (v := (-1)) hx hb dX2_readCondition_0 (by decide) ?_
  refine lv_istore_n (lv' := [(2, .int (-1)), (0, .ref lt), (1, .int 0)]) hx hb dX2_readCondition_1 rfl hl (by decide) rfl (fun ls hl => ?_)
  refine lv_iconst (v := (-1)) hx hb dX2_readCondition_2 (by decide) ?_
  refine lv_istore_n (lv' := [(3, .int (-1)), (2, .int (-1)), (0, .ref lt), (1, .int 0)]) hx hb dX2_readCondition_3 rfl hl (by decide) rfl (fun ls hl => ?_)
  refine lv_iconst (v := 0) hx hb dX2_readCondition_4 (by decide) ?_
  refine lv_istore (lv' := [(4, .int 0), (3, .int (-1)), (2, .int (-1)), (0, .ref lt), (1, .int 0)]) hx hb dX2_readCondition_5 hl (by decide) rfl (fun ls hl => ?_)
  have hl := lv_sub (l' := [(0, .ref lt), (1, .int 0), (2, .int (-1)), (3, .int (-1)), (4, .int 0)]) hl [3, 4, 2, 1, 0] rfl
  have LP7_20 : ∀ (kf : Nat) (x_1 : Int32) (x_2 : Int32) (x_3 : Int32) (x_4 : Int32) (x_5 : Int32) (x_6 : Int32) (x_7 : Int32) (fc_8 : Nat → Int32), ((-1) ≤ x_1.toInt ∧ x_1.toInt ≤ 400) → ((-1) ≤ x_2.toInt ∧ x_2.toInt ≤ 400) → (0 ≤ x_3.toInt ∧ x_3.toInt ≤ 400) → (0 ≤ x_5.toInt ∧ x_5.toInt ≤ 400) → (0 ≤ x_6.toInt ∧ x_6.toInt ≤ 400) → (0 ≤ x_7.toInt ∧ x_7.toInt ≤ 400) → (zKd x_4.toInt x_5.toInt x_6.toInt) → (zTk fb ln.toInt x_4.toInt x_5.toInt x_6.toInt) → (x_3.toInt ≤ x_5.toInt) → (∀ r9, zCond fb ln.toInt (zAtom fb ln.toInt 6) x_5.toInt r9 → zCond fb ln.toInt (zAtom fb ln.toInt 6) bg.toInt r9) → (zCI (fun e9 => zAv fb ln.toInt e9 6) fb ln.toInt bg.toInt x_5.toInt fc fc_8 lz.toInt x_7.toInt x_1.toInt x_2.toInt) → ∀ (H : Heap) (locs : List Loc) (ls : Array Slot), ((401 - x_3.toInt).toNat) < kf → va_P g.1 vwCl (List.flatten [bLT g lt ta lo, bTape g ta ab sz ln x_4 x_5 x_6 (-1) fb, bLaw g lo lc x_7 ll lm lg ld fc_8]) H → va_D A (List.flatten [bLT g lt ta lo, bTape g ta ab sz ln x_4 x_5 x_6 (-1) fb, bLaw g lo lc x_7 ll lm lg ld fc_8]) → va_S A s.heap H locs → lv_has ls 5 [(0, .ref lt), (1, .int 0), (2, .int x_1), (3, .int x_2), (4, .int x_3)] → W p l e ({ frames := 25, cells := 0, slots := 0, locals := 554 } : Room) s m args below meth c H locs (0) (0) (zF g (fun u : Int32 × Int32 × Int32 × Int32 × Int32 × (Nat → Int32) × Int32 => (fun (kd2 : Int32) (bg2 : Int32) (nx2 : Int32) (ft2 : Int32) (lz2 : Int32) (fc2 : Nat → Int32) (q : Int32) => some (.int q)) (u.1) (u.2.1) (u.2.2.1) (u.2.2.2.1) (u.2.2.2.2.1) (u.2.2.2.2.2.1) (u.2.2.2.2.2.2)) (fun u : Int32 × Int32 × Int32 × Int32 × Int32 × (Nat → Int32) × Int32 => (fun (kd2 : Int32) (bg2 : Int32) (nx2 : Int32) (ft2 : Int32) (lz2 : Int32) (fc2 : Nat → Int32) (q : Int32) => (0 ≤ lz2.toInt ∧ lz2.toInt ≤ 400) ∧ (-1 ≤ ft2.toInt) ∧ (0 ≤ nx2.toInt ∧ nx2.toInt ≤ 400) ∧ (0 ≤ bg2.toInt ∧ bg2.toInt ≤ 400) ∧ (zKd kd2.toInt bg2.toInt nx2.toInt) ∧ (zTk fb ln.toInt kd2.toInt bg2.toInt nx2.toInt) ∧ (q = 1 ∧ zCond fb ln.toInt (zAtom fb ln.toInt 6) bg.toInt (.ok bg2.toInt) ∧ (-1) = ft2 ∧ zAC (fun e9 v9 => zCv fb ln.toInt (zAv fb ln.toInt e9 6) false true bg.toInt bg2.toInt v9) bg.toInt bg2.toInt fc fc2 lz.toInt lz2.toInt ∨ q = 0 ∧ zCond fb ln.toInt (zAtom fb ln.toInt 6) bg.toInt (.bad ft2.toInt))) (u.1) (u.2.1) (u.2.2.1) (u.2.2.2.1) (u.2.2.2.2.1) (u.2.2.2.2.2.1) (u.2.2.2.2.2.2)) (fun u : Int32 × Int32 × Int32 × Int32 × Int32 × (Nat → Int32) × Int32 => (fun (kd2 : Int32) (bg2 : Int32) (nx2 : Int32) (ft2 : Int32) (lz2 : Int32) (fc2 : Nat → Int32) (q : Int32) => [bLT g lt ta lo, bTape g ta ab sz ln kd2 bg2 nx2 ft2 fb, bLaw g lo lc lz2 ll lm lg ld fc2]) (u.1) (u.2.1) (u.2.2.1) (u.2.2.2.1) (u.2.2.2.2.1) (u.2.2.2.2.2.1) (u.2.2.2.2.2.2)) ({ frames := 25, cells := 0, slots := 0, locals := 554 } : Room) below args s A) (F0 m 7 ls []) := by
    intro kf
    induction kf with
    | zero => intro x_1 x_2 x_3 x_4 x_5 x_6 x_7 fc_8 i9 i10 i11 i12 i13 i14 i15 i16 i17 i18 i19 H locs ls hk; exact absurd hk (Nat.not_lt_zero _)
    | succ kf ih7_21 =>
      intro x_1 x_2 x_3 x_4 x_5 x_6 x_7 fc_8 i9 i10 i11 i12 i13 i14 i15 i16 i17 i18 i19 H locs ls hk7_21 hP hD hS hl
      refine lv_iload hx hb dX2_readCondition_7 (lv_at hl 4 rfl) ?_
      refine lv_sipush (v := 400) hx hb dX2_readCondition_9 (by decide) ?_
      refine lv_icmp_ge (tgt := 100) hx hb dX2_readCondition_12 (by decide) (fun cb9 => ?_) (fun cb9 => ?_)
      · skip
        have c22 : 400 ≤ x_3.toInt := zle cb9 (by decide) rfl
        have n23 : 400 ≤ x_3.toInt := Int.le_trans (Int.le_refl _) c22
        refine lv_aload_n hx hb dX2_readCondition_100 rfl (lv_at hl 0 rfl) ?_
        refine va_get (D := g.1) (ci := 2) (v := .ref ta) (C := RX2) (T := TX2) (N := 2) hx hb hts izRX2 hown hK hP 0 rfl rfl 0 (by decide) (hts _ k290) (fun x9 h9 => u_same (hts _ k291) x9 h9) rfl dX2_readCondition_101 ?_
        refine mcallV' (g := g) (q0 := 0) (ci := 6) (As := []) (rest := []) St hK hT hA hP hD hS hl.1 [1] [0, 2] rfl rfl rfl (c_t_refuseF l g ta ab sz ln x_4 x_5 x_6 fb ) (cwV 0 hts (zgL (zl4 k303 k279 k280 k277) k269) rfl rfl rfl (by decide +kernel) ⟨Nat.le_of_ble_eq_true rfl, Nat.le_of_ble_eq_true rfl⟩) rfl rfl rfl rfl (Nat.le_of_ble_eq_true rfl) dX2_readCondition_104 ⟨(Nat.le_of_ble_eq_true rfl), (Nat.le_of_ble_eq_true rfl)⟩ (fun _u H locs hq24 hP hD hS => ?_)
        have hP : va_P g.1 vwCl (List.flatten [bLT g lt ta lo, bLaw g lo lc x_7 ll lm lg ld fc_8, bTape g ta ab sz ln x_4 x_5 x_6 x_5 fb]) H := hP
        have hD : va_D A (List.flatten [bLT g lt ta lo, bLaw g lo lc x_7 ll lm lg ld fc_8, bTape g ta ab sz ln x_4 x_5 x_6 x_5 fb]) := hD
        refine W.widen (k := 0) (n := 0) (Nat.le_of_ble_eq_true rfl) (Nat.le_of_ble_eq_true rfl) ?_
        refine W.eq (g2 := F0 m 107 ls [.int 0]) rfl ?_
        have hP : va_P g.1 vwCl (List.flatten [bLT g lt ta lo, bLaw g lo lc x_7 ll lm lg ld fc_8, bTape g ta ab sz ln x_4 x_5 x_6 x_5 fb]) H := hP
        have hD : va_D A (List.flatten [bLT g lt ta lo, bLaw g lo lc x_7 ll lm lg ld fc_8, bTape g ta ab sz ln x_4 x_5 x_6 x_5 fb]) := hD
        obtain ⟨hP, hD⟩ := zord (g := g) (Bs' := [bLT g lt ta lo, bTape g ta ab sz ln x_4 x_5 x_6 x_5 fb, bLaw g lo lc x_7 ll lm lg ld fc_8]) [0, 2, 1] rfl rfl hP hD
        exact mret_z hx hb hr hlocks hS (Nat.le_of_ble_eq_true rfl) (Nat.le_of_ble_eq_true rfl) dX2_readCondition_107 (x_4, x_5, x_6, x_5, x_7, fc_8, (0 : Int32)) rfl (by decide) (show (0 ≤ x_7.toInt ∧ x_7.toInt ≤ 400) ∧ (-1 ≤ x_5.toInt) ∧ (0 ≤ x_6.toInt ∧ x_6.toInt ≤ 400) ∧ (0 ≤ x_5.toInt ∧ x_5.toInt ≤ 400) ∧ (zKd x_4.toInt x_5.toInt x_6.toInt) ∧ (zTk fb ln.toInt x_4.toInt x_5.toInt x_6.toInt) ∧ (0 = 1 ∧ zCond fb ln.toInt (zAtom fb ln.toInt 6) bg.toInt (.ok x_5.toInt) ∧ (-1) = x_5 ∧ zAC (fun e9 v9 => zCv fb ln.toInt (zAv fb ln.toInt e9 6) false true bg.toInt x_5.toInt v9) bg.toInt x_5.toInt fc fc_8 lz.toInt x_7.toInt ∨ 0 = 0 ∧ zCond fb ln.toInt (zAtom fb ln.toInt 6) bg.toInt (.bad x_5.toInt)) from ⟨(by first | assumption | omega | exact Or.inl (by decide) | exact Or.inr (by omega)), (by first | decide | omega), (by first | assumption | omega | exact Or.inl (by decide) | exact Or.inr (by omega)), (by first | assumption | omega | exact Or.inl (by decide) | exact Or.inr (by omega)), (by first | assumption | omega | exact Or.inl (by decide) | exact Or.inr (by omega)), (by assumption), (Or.inr ⟨rfl, i18 _ (.wrong (zAt_e (by omega)))⟩)⟩) hP hD
      · skip
        have c25 : x_3.toInt < 400 := zlti (Int32.not_le.mp cb9) rfl (by decide)
        have n26 : x_3.toInt ≤ 399 := zL1 (b := 400) c25 (Int.le_refl _) (by decide)
        have w27 := i19.1
        have w28 := i19.2.1
        refine lv_aload_n hx hb dX2_readCondition_15 rfl (lv_at hl 0 rfl) ?_
        refine lv_iload_n hx hb dX2_readCondition_16 rfl (lv_at hl 1 rfl) ?_
        refine mcallV' (g := g) (q0 := 0) (ci := 2) (As := [.int 0]) (rest := []) St hK hT hA hP hD hS hl.1 [0, 1, 2] [] rfl rfl rfl (c_lt_readAtom0C l g lt ta lo ab sz ln x_4 x_5 x_6 fb lc x_7 ll lm lg ld fc_8 i14 hln i13 i12 i15 i16 (by first | assumption | omega | decide | exact Or.inl (by decide) | exact Or.inr (by decide))) (cwV 1 hts (zgL (zl4 k317 k318 k319 k309) k327) rfl rfl rfl (by decide +kernel) ⟨Nat.le_of_ble_eq_true rfl, Nat.le_of_ble_eq_true rfl⟩) rfl rfl rfl rfl (Nat.le_of_ble_eq_true rfl) dX2_readCondition_17 ⟨(Nat.le_of_ble_eq_true rfl), (Nat.le_of_ble_eq_true rfl)⟩ (fun u_ H locs hq36 hP hD hS => ?_)
        obtain ⟨kd2_29, bg2_30, nx2_31, ft2_32, lz2_33, fc2_34, q_35⟩ := u_
        replace hq36 : (0 ≤ lz2_33.toInt ∧ lz2_33.toInt ≤ 400) ∧ (-1 ≤ ft2_32.toInt) ∧ (0 ≤ nx2_31.toInt ∧ nx2_31.toInt ≤ 400) ∧ (0 ≤ bg2_30.toInt ∧ bg2_30.toInt ≤ 400) ∧ (zKd kd2_29.toInt bg2_30.toInt nx2_31.toInt) ∧ (zTk fb ln.toInt kd2_29.toInt bg2_30.toInt nx2_31.toInt) ∧ (q_35 = 1 ∧ zAtom fb ln.toInt 6 x_5.toInt (.ok bg2_30.toInt) ∧ (-1) = ft2_32 ∧ zAC (fun e9 v9 => zAv fb ln.toInt e9 6 x_5.toInt bg2_30.toInt v9) x_5.toInt bg2_30.toInt fc_8 fc2_34 x_7.toInt lz2_33.toInt ∨ q_35 = 0 ∧ zAtom fb ln.toInt 6 x_5.toInt (.bad ft2_32.toInt)) := hq36
        have hP : va_P g.1 vwCl (List.flatten [bLT g lt ta lo, bTape g ta ab sz ln kd2_29 bg2_30 nx2_31 ft2_32 fb, bLaw g lo lc lz2_33 ll lm lg ld fc2_34]) H := hP
        have hD : va_D A (List.flatten [bLT g lt ta lo, bTape g ta ab sz ln kd2_29 bg2_30 nx2_31 ft2_32 fb, bLaw g lo lc lz2_33 ll lm lg ld fc2_34]) := hD
        refine W.widen (k := 0) (n := 0) (Nat.le_of_ble_eq_true rfl) (Nat.le_of_ble_eq_true rfl) ?_
        refine W.eq (g2 := F0 m 20 ls [.int q_35]) rfl ?_
        obtain ⟨hq36_0, hq36_1, hq36_2, hq36_3, hq36_4, hq36_5, hq36_6⟩ := hq36
        rcases hq36_6 with ⟨rfl, hq36_k, rfl, hq36_kc⟩ | ⟨rfl, hq36_k⟩
        · skip
          have w37 := hq36_kc.1
          refine lv_if_ne (tgt := 25) hx hb dX2_readCondition_20 (by decide) (fun _ => ?_) (fun c38 => absurd c38 (by decide))
          refine lv_aload_n hx hb dX2_readCondition_25 rfl (lv_at hl 0 rfl) ?_
          refine va_get (D := g.1) (ci := 2) (v := .ref lo) (C := RX2) (T := TX2) (N := 2) hx hb hts izRX2 hown hK hP 0 rfl rfl 1 (by decide) (hts _ k210) (fun _ h9 => h9) rfl dX2_readCondition_26 ?_
          refine lv_iload_n hx hb dX2_readCondition_29 rfl (lv_at hl 3 rfl) ?_
          refine mcallV' (g := g) (q0 := 0) (ci := 1) (As := [.int x_2]) (rest := []) St hK hT hA hP hD hS hl.1 [2] [0, 1] rfl rfl rfl (c_l_aimC l g lo lc lz2_33 ll lm lg ld fc2_34 x_2 hq36_0 hq36_0 (by first | assumption | omega | decide | exact Or.inl (by decide) | exact Or.inr (by decide))) (cwV 1 hts (zgL (zl4 k320 k321 k322 k85) k203) rfl rfl rfl (by decide +kernel) ⟨Nat.le_of_ble_eq_true rfl, Nat.le_of_ble_eq_true rfl⟩) rfl rfl rfl rfl (Nat.le_of_ble_eq_true rfl) dX2_readCondition_30 ⟨(Nat.le_of_ble_eq_true rfl), (Nat.le_of_ble_eq_true rfl)⟩ (fun fc2_39 H locs hq40 hP hD hS => ?_)
          replace hq40 : (zAim lz2_33.toInt x_2.toInt fc2_34 fc2_39) := hq40
          have hP : va_P g.1 vwCl (List.flatten [bLT g lt ta lo, bTape g ta ab sz ln kd2_29 bg2_30 nx2_31 (-1) fb, bLaw g lo lc lz2_33 ll lm lg ld fc2_39]) H := hP
          have hD : va_D A (List.flatten [bLT g lt ta lo, bTape g ta ab sz ln kd2_29 bg2_30 nx2_31 (-1) fb, bLaw g lo lc lz2_33 ll lm lg ld fc2_39]) := hD
          refine W.widen (k := 0) (n := 0) (Nat.le_of_ble_eq_true rfl) (Nat.le_of_ble_eq_true rfl) ?_
          refine W.eq (g2 := F0 m 33 ls []) rfl ?_
          have w41 := zCM_of (by omega) i19 hq36_kc hq40 (by omega)
          have w42 := w41.1
          have w43 := w41.2.1
          refine lv_iconst (v := (-1)) hx hb dX2_readCondition_33 (by decide) ?_
          refine lv_istore_n (lv' := [(3, .int (-1)), (0, .ref lt), (1, .int 0), (2, .int x_1), (4, .int x_3)]) hx hb dX2_readCondition_34 rfl hl (by decide) rfl (fun ls hl => ?_)
          refine lv_aload_n hx hb dX2_readCondition_35 rfl (lv_at hl 1 rfl) ?_
          refine va_get (D := g.1) (ci := 2) (v := .ref ta) (C := RX2) (T := TX2) (N := 2) hx hb hts izRX2 hown hK hP 0 rfl rfl 0 (by decide) (hts _ k290) (fun x9 h9 => u_same (hts _ k291) x9 h9) rfl dX2_readCondition_36 ?_
          refine va_ldcS (q := g.2 16) hx hb hown (zra3 hT.2.1) dX2_readCondition_39 ?_
          refine mcallV' (g := g) (q0 := 0) (ci := 6) (As := [.ref (g.2 16)]) (rest := []) St hK hT hA hP hD hS hl.1 [1] [0, 2] rfl rfl rfl (c_t_takeWordF l g ta ab sz ln kd2_29 bg2_30 nx2_31 (-1) fb (g.2 16) 3 zqa3 hln hq36_2 hq36_3 hq36_4 hq36_5 rfl zla3 zna3 (zlitB zla3)) (cwV 1 hts (zgL (zl4 k310 k311 k312 k277) k284) rfl rfl rfl (by decide +kernel) ⟨Nat.le_of_ble_eq_true rfl, Nat.le_of_ble_eq_true rfl⟩) rfl rfl rfl rfl (Nat.le_of_ble_eq_true rfl) dX2_readCondition_41 ⟨(Nat.le_of_ble_eq_true rfl), (Nat.le_of_ble_eq_true rfl)⟩ (fun u_ H locs hq48 hP hD hS => ?_)
          obtain ⟨kd2_44, bg2_45, nx2_46, r_47⟩ := u_
          replace hq48 : (0 ≤ nx2_46.toInt ∧ nx2_46.toInt ≤ 400) ∧ (0 ≤ bg2_45.toInt ∧ bg2_45.toInt ≤ 400) ∧ (zKd kd2_44.toInt bg2_45.toInt nx2_46.toInt) ∧ (zTk fb ln.toInt kd2_44.toInt bg2_45.toInt nx2_46.toInt) ∧ (r_47 = 1 ∧ zisW fb ln.toInt bg2_30.toInt zqa3.2.2.2 ∧ zMv fb ln.toInt bg2_30.toInt bg2_45.toInt ∨ r_47 = 0 ∧ ¬ zisW fb ln.toInt bg2_30.toInt zqa3.2.2.2 ∧ kd2_29 = kd2_44 ∧ bg2_30 = bg2_45 ∧ nx2_31 = nx2_46) := hq48
          have hP : va_P g.1 vwCl (List.flatten [bLT g lt ta lo, bLaw g lo lc lz2_33 ll lm lg ld fc2_39, bTape g ta ab sz ln kd2_44 bg2_45 nx2_46 (-1) fb]) H := hP
          have hD : va_D A (List.flatten [bLT g lt ta lo, bLaw g lo lc lz2_33 ll lm lg ld fc2_39, bTape g ta ab sz ln kd2_44 bg2_45 nx2_46 (-1) fb]) := hD
          refine W.widen (k := 0) (n := 0) (Nat.le_of_ble_eq_true rfl) (Nat.le_of_ble_eq_true rfl) ?_
          refine W.eq (g2 := F0 m 44 ls [.int r_47]) rfl ?_
          obtain ⟨hq48_0, hq48_1, hq48_2, hq48_3, hq48_4⟩ := hq48
          rcases hq48_4 with ⟨rfl, hq48_k, hq48_km⟩ | ⟨rfl, hq48_k, rfl, rfl, rfl⟩
          · skip
            refine lv_if_eq (tgt := 61) hx hb dX2_readCondition_44 (by decide) (fun c49 => absurd c49 (by decide)) (fun _ => ?_)
            refine lv_aload_n hx hb dX2_readCondition_47 rfl (lv_at hl 1 rfl) ?_
            refine va_get (D := g.1) (ci := 2) (v := .ref lo) (C := RX2) (T := TX2) (N := 2) hx hb hts izRX2 hown hK hP 0 rfl rfl 1 (by decide) (hts _ k210) (fun _ h9 => h9) rfl dX2_readCondition_48 ?_
            refine lv_bipush (v := 13) hx hb dX2_readCondition_51 (by decide) ?_
            refine lv_iconst (v := 0) hx hb dX2_readCondition_53 (by decide) ?_
            refine mcallV' (g := g) (q0 := 0) (ci := 1) (As := [.int 13, .int 0]) (rest := []) St hK hT hA hP hD hS hl.1 [1] [0, 2] rfl rfl rfl (c_l_putC l g lo lc lz2_33 ll lm lg ld fc2_39 13 0 hq36_0 (by first | assumption | omega | decide | exact Or.inl (by decide) | exact Or.inr (by decide))) (cwV 2 hts (zgL (zl4 k297 k298 k299 k85) k202) rfl rfl rfl (by decide +kernel) ⟨Nat.le_of_ble_eq_true rfl, Nat.le_of_ble_eq_true rfl⟩) rfl rfl rfl rfl (Nat.le_of_ble_eq_true rfl) dX2_readCondition_54 ⟨(Nat.le_of_ble_eq_true rfl), (Nat.le_of_ble_eq_true rfl)⟩ (fun u_ H locs hq52 hP hD hS => ?_)
            obtain ⟨lz2_50, fc2_51⟩ := u_
            replace hq52 : (0 ≤ lz2_50.toInt ∧ lz2_50.toInt ≤ 400) ∧ (lz2_50.toInt = lz2_33.toInt + 1) ∧ (fc2_51 = upd fc2_39 lz2_33.toInt.toNat (13 + 32 * 0)) := hq52
            have hP : va_P g.1 vwCl (List.flatten [bLT g lt ta lo, bTape g ta ab sz ln kd2_44 bg2_45 nx2_46 (-1) fb, bLaw g lo lc lz2_50 ll lm lg ld fc2_51]) H := hP
            have hD : va_D A (List.flatten [bLT g lt ta lo, bTape g ta ab sz ln kd2_44 bg2_45 nx2_46 (-1) fb, bLaw g lo lc lz2_50 ll lm lg ld fc2_51]) := hD
            refine W.widen (k := 0) (n := 0) (Nat.le_of_ble_eq_true rfl) (Nat.le_of_ble_eq_true rfl) ?_
            refine W.eq (g2 := F0 m 57 ls [.int lz2_33]) rfl ?_
            obtain ⟨hq52_0, hq52_1, hq52_2⟩ := hq52
            refine lv_istore_n (lv' := [(3, .int lz2_33), (0, .ref lt), (1, .int 0), (2, .int x_1), (4, .int x_3)]) hx hb dX2_readCondition_57 rfl hl (by decide) rfl (fun ls hl => ?_)
            refine lv_goto (tgt := 94) hx hb dX2_readCondition_58 (by decide) ?_
            have w53 : x_5.toInt < bg2_30.toInt := zAtom_gt fb ln.toInt _ _ _ (by omega) hq36_k
            have w54 : bg2_30.toInt < bg2_45.toInt := zMv_lt (f := fb) (n := ln.toInt) (by omega) (zisW_z hq48_k) hq48_km
            have w55 : ∀ r9, zCond fb ln.toInt (zAtom fb ln.toInt 6) bg2_45.toInt r9 → zCond fb ln.toInt (zAtom fb ln.toInt 6) bg.toInt r9 := fun r9 h9 => i18 r9 (zCo_more hq36_k (Or.inl hq48_k) hq48_km h9)
            have w56 : zCI (fun e9 => zAv fb ln.toInt e9 6) fb ln.toInt bg.toInt bg2_45.toInt fc fc2_51 lz.toInt lz2_50.toInt x_1.toInt lz2_33.toInt := zCI_and (by omega) (by omega) w41 hq48_k hq48_km (by decide) hq52_2 hq52_1
            refine ziinc3 (n' := 1) (a' := 1) (b' := 400) (lv' := fun v9 => [(4, .int v9), (3, .int lz2_33), (0, .ref lt), (1, .int 0), (2, .int x_1)]) hx hb dX2_readCondition_94 hl (k := 4) rfl (by decide) (fun _ => rfl) (zaddK (i := x_3.toInt) (j := 1) rfl (by decide) i11.1 n26 (Int.le_refl _) (Int.le_refl _) (by decide)) (fun x_57 ls hx_57 hl => ?_)
            refine lv_goto (tgt := 7) hx hb dX2_readCondition_97 (by decide) ?_
            have hl := lv_sub (l' := [(0, .ref lt), (1, .int 0), (2, .int x_1), (3, .int lz2_33), (4, .int x_57)]) hl [2, 3, 4, 1, 0] rfl
            have hP : va_P g.1 vwCl (List.flatten [bLT g lt ta lo, bTape g ta ab sz ln kd2_44 bg2_45 nx2_46 (-1) fb, bLaw g lo lc lz2_50 ll lm lg ld fc2_51]) H := hP
            have hD : va_D A (List.flatten [bLT g lt ta lo, bTape g ta ab sz ln kd2_44 bg2_45 nx2_46 (-1) fb, bLaw g lo lc lz2_50 ll lm lg ld fc2_51]) := hD
            exact ih7_21 x_1 lz2_33 x_57 kd2_44 bg2_45 nx2_46 lz2_50 fc2_51 ⟨i9.1, i9.2⟩ ⟨(Int.le_trans (by decide) hq36_0.1), hq36_0.2⟩ ⟨(Int.le_trans (by decide) hx_57.2.1), hx_57.2.2⟩ ⟨hq48_1.1, hq48_1.2⟩ ⟨hq48_0.1, hq48_0.2⟩ ⟨hq52_0.1, hq52_0.2⟩ hq48_2 hq48_3 (by first | omega | assumption | decide) w55 w56 H _ ls (zmK hx_57.1 (by decide) n26 (by decide) hk7_21)  hP hD hS (lv_sub hl [0, 1, 2, 3, 4] rfl)
          · skip
            refine lv_if_eq (tgt := 61) hx hb dX2_readCondition_44 (by decide) (fun _ => ?_) (fun c58 => absurd (by decide) c58)
            refine lv_aload_n hx hb dX2_readCondition_61 rfl (lv_at hl 1 rfl) ?_
            refine va_get (D := g.1) (ci := 2) (v := .ref lo) (C := RX2) (T := TX2) (N := 2) hx hb hts izRX2 hown hK hP 0 rfl rfl 1 (by decide) (hts _ k210) (fun _ h9 => h9) rfl dX2_readCondition_62 ?_
            refine lv_iload_n hx hb dX2_readCondition_65 rfl (lv_at hl 3 rfl) ?_
            refine mcallV' (g := g) (q0 := 0) (ci := 1) (As := [.int x_1]) (rest := []) St hK hT hA hP hD hS hl.1 [1] [0, 2] rfl rfl rfl (c_l_aimC l g lo lc lz2_33 ll lm lg ld fc2_39 x_1 hq36_0 hq36_0 (by first | assumption | omega | decide | exact Or.inl (by decide) | exact Or.inr (by decide))) (cwV 1 hts (zgL (zl4 k320 k321 k322 k85) k203) rfl rfl rfl (by decide +kernel) ⟨Nat.le_of_ble_eq_true rfl, Nat.le_of_ble_eq_true rfl⟩) rfl rfl rfl rfl (Nat.le_of_ble_eq_true rfl) dX2_readCondition_66 ⟨(Nat.le_of_ble_eq_true rfl), (Nat.le_of_ble_eq_true rfl)⟩ (fun fc2_59 H locs hq60 hP hD hS => ?_)
            replace hq60 : (zAim lz2_33.toInt x_1.toInt fc2_39 fc2_59) := hq60
            have hP : va_P g.1 vwCl (List.flatten [bLT g lt ta lo, bTape g ta ab sz ln kd2_29 bg2_30 nx2_31 (-1) fb, bLaw g lo lc lz2_33 ll lm lg ld fc2_59]) H := hP
            have hD : va_D A (List.flatten [bLT g lt ta lo, bTape g ta ab sz ln kd2_29 bg2_30 nx2_31 (-1) fb, bLaw g lo lc lz2_33 ll lm lg ld fc2_59]) := hD
            refine W.widen (k := 0) (n := 0) (Nat.le_of_ble_eq_true rfl) (Nat.le_of_ble_eq_true rfl) ?_
            refine W.eq (g2 := F0 m 69 ls []) rfl ?_
            refine lv_aload_n hx hb dX2_readCondition_69 rfl (lv_at hl 1 rfl) ?_
            refine va_get (D := g.1) (ci := 2) (v := .ref ta) (C := RX2) (T := TX2) (N := 2) hx hb hts izRX2 hown hK hP 0 rfl rfl 0 (by decide) (hts _ k290) (fun x9 h9 => u_same (hts _ k291) x9 h9) rfl dX2_readCondition_70 ?_
            refine va_ldcS (q := g.2 18) hx hb hown (zra4 hT.2.1) dX2_readCondition_73 ?_
            refine mcallV' (g := g) (q0 := 0) (ci := 6) (As := [.ref (g.2 18)]) (rest := []) St hK hT hA hP hD hS hl.1 [1] [0, 2] rfl rfl rfl (c_t_takeWordF l g ta ab sz ln kd2_29 bg2_30 nx2_31 (-1) fb (g.2 18) 4 zqa4 hln hq36_2 hq36_3 hq36_4 hq36_5 rfl zla4 zna4 (zlitB zla4)) (cwV 1 hts (zgL (zl4 k310 k311 k312 k277) k284) rfl rfl rfl (by decide +kernel) ⟨Nat.le_of_ble_eq_true rfl, Nat.le_of_ble_eq_true rfl⟩) rfl rfl rfl rfl (Nat.le_of_ble_eq_true rfl) dX2_readCondition_75 ⟨(Nat.le_of_ble_eq_true rfl), (Nat.le_of_ble_eq_true rfl)⟩ (fun u_ H locs hq65 hP hD hS => ?_)
            obtain ⟨kd2_61, bg2_62, nx2_63, r_64⟩ := u_
            replace hq65 : (0 ≤ nx2_63.toInt ∧ nx2_63.toInt ≤ 400) ∧ (0 ≤ bg2_62.toInt ∧ bg2_62.toInt ≤ 400) ∧ (zKd kd2_61.toInt bg2_62.toInt nx2_63.toInt) ∧ (zTk fb ln.toInt kd2_61.toInt bg2_62.toInt nx2_63.toInt) ∧ (r_64 = 1 ∧ zisW fb ln.toInt bg2_30.toInt zqa4.2.2.2 ∧ zMv fb ln.toInt bg2_30.toInt bg2_62.toInt ∨ r_64 = 0 ∧ ¬ zisW fb ln.toInt bg2_30.toInt zqa4.2.2.2 ∧ kd2_29 = kd2_61 ∧ bg2_30 = bg2_62 ∧ nx2_31 = nx2_63) := hq65
            have hP : va_P g.1 vwCl (List.flatten [bLT g lt ta lo, bLaw g lo lc lz2_33 ll lm lg ld fc2_59, bTape g ta ab sz ln kd2_61 bg2_62 nx2_63 (-1) fb]) H := hP
            have hD : va_D A (List.flatten [bLT g lt ta lo, bLaw g lo lc lz2_33 ll lm lg ld fc2_59, bTape g ta ab sz ln kd2_61 bg2_62 nx2_63 (-1) fb]) := hD
            refine W.widen (k := 0) (n := 0) (Nat.le_of_ble_eq_true rfl) (Nat.le_of_ble_eq_true rfl) ?_
            refine W.eq (g2 := F0 m 78 ls [.int r_64]) rfl ?_
            obtain ⟨hq65_0, hq65_1, hq65_2, hq65_3, hq65_4⟩ := hq65
            rcases hq65_4 with ⟨rfl, hq65_k, hq65_km⟩ | ⟨rfl, hq65_k, rfl, rfl, rfl⟩
            · skip
              refine lv_if_ne (tgt := 83) hx hb dX2_readCondition_78 (by decide) (fun _ => ?_) (fun c66 => absurd c66 (by decide))
              refine lv_aload_n hx hb dX2_readCondition_83 rfl (lv_at hl 1 rfl) ?_
              refine va_get (D := g.1) (ci := 2) (v := .ref lo) (C := RX2) (T := TX2) (N := 2) hx hb hts izRX2 hown hK hP 0 rfl rfl 1 (by decide) (hts _ k210) (fun _ h9 => h9) rfl dX2_readCondition_84 ?_
              refine lv_bipush (v := 14) hx hb dX2_readCondition_87 (by decide) ?_
              refine lv_iconst (v := 0) hx hb dX2_readCondition_89 (by decide) ?_
              refine mcallV' (g := g) (q0 := 0) (ci := 1) (As := [.int 14, .int 0]) (rest := []) St hK hT hA hP hD hS hl.1 [1] [0, 2] rfl rfl rfl (c_l_putC l g lo lc lz2_33 ll lm lg ld fc2_59 14 0 hq36_0 (by first | assumption | omega | decide | exact Or.inl (by decide) | exact Or.inr (by decide))) (cwV 2 hts (zgL (zl4 k297 k298 k299 k85) k202) rfl rfl rfl (by decide +kernel) ⟨Nat.le_of_ble_eq_true rfl, Nat.le_of_ble_eq_true rfl⟩) rfl rfl rfl rfl (Nat.le_of_ble_eq_true rfl) dX2_readCondition_90 ⟨(Nat.le_of_ble_eq_true rfl), (Nat.le_of_ble_eq_true rfl)⟩ (fun u_ H locs hq69 hP hD hS => ?_)
              obtain ⟨lz2_67, fc2_68⟩ := u_
              replace hq69 : (0 ≤ lz2_67.toInt ∧ lz2_67.toInt ≤ 400) ∧ (lz2_67.toInt = lz2_33.toInt + 1) ∧ (fc2_68 = upd fc2_59 lz2_33.toInt.toNat (14 + 32 * 0)) := hq69
              have hP : va_P g.1 vwCl (List.flatten [bLT g lt ta lo, bTape g ta ab sz ln kd2_61 bg2_62 nx2_63 (-1) fb, bLaw g lo lc lz2_67 ll lm lg ld fc2_68]) H := hP
              have hD : va_D A (List.flatten [bLT g lt ta lo, bTape g ta ab sz ln kd2_61 bg2_62 nx2_63 (-1) fb, bLaw g lo lc lz2_67 ll lm lg ld fc2_68]) := hD
              refine W.widen (k := 0) (n := 0) (Nat.le_of_ble_eq_true rfl) (Nat.le_of_ble_eq_true rfl) ?_
              refine W.eq (g2 := F0 m 93 ls [.int lz2_33]) rfl ?_
              obtain ⟨hq69_0, hq69_1, hq69_2⟩ := hq69
              refine lv_istore_n (lv' := [(2, .int lz2_33), (3, .int (-1)), (0, .ref lt), (1, .int 0), (4, .int x_3)]) hx hb dX2_readCondition_93 rfl hl (by decide) rfl (fun ls hl => ?_)
              have w70 : x_5.toInt < bg2_30.toInt := zAtom_gt fb ln.toInt _ _ _ (by omega) hq36_k
              have w71 : bg2_30.toInt < bg2_62.toInt := zMv_lt (f := fb) (n := ln.toInt) (by omega) (zisW_z hq65_k) hq65_km
              have w72 : ∀ r9, zCond fb ln.toInt (zAtom fb ln.toInt 6) bg2_62.toInt r9 → zCond fb ln.toInt (zAtom fb ln.toInt 6) bg.toInt r9 := fun r9 h9 => i18 r9 (zCo_more hq36_k (Or.inr hq65_k) hq65_km h9)
              have w73 : zCI (fun e9 => zAv fb ln.toInt e9 6) fb ln.toInt bg.toInt bg2_62.toInt fc fc2_68 lz.toInt lz2_67.toInt lz2_33.toInt (-1) := zCI_or (by omega) (by omega) (by omega) w41 hq60 hq48_k hq65_k hq65_km (by decide) hq69_2 hq69_1
              refine ziinc3 (n' := 1) (a' := 1) (b' := 400) (lv' := fun v9 => [(4, .int v9), (2, .int lz2_33), (3, .int (-1)), (0, .ref lt), (1, .int 0)]) hx hb dX2_readCondition_94 hl (k := 4) rfl (by decide) (fun _ => rfl) (zaddK (i := x_3.toInt) (j := 1) rfl (by decide) i11.1 n26 (Int.le_refl _) (Int.le_refl _) (by decide)) (fun x_74 ls hx_74 hl => ?_)
              refine lv_goto (tgt := 7) hx hb dX2_readCondition_97 (by decide) ?_
              have hl := lv_sub (l' := [(0, .ref lt), (1, .int 0), (2, .int lz2_33), (3, .int (-1)), (4, .int x_74)]) hl [3, 4, 1, 2, 0] rfl
              have hLn1 : ((-1) : Int32).toInt = (-1) := by decide
              have hP : va_P g.1 vwCl (List.flatten [bLT g lt ta lo, bTape g ta ab sz ln kd2_61 bg2_62 nx2_63 (-1) fb, bLaw g lo lc lz2_67 ll lm lg ld fc2_68]) H := hP
              have hD : va_D A (List.flatten [bLT g lt ta lo, bTape g ta ab sz ln kd2_61 bg2_62 nx2_63 (-1) fb, bLaw g lo lc lz2_67 ll lm lg ld fc2_68]) := hD
              exact ih7_21 lz2_33 (-1) x_74 kd2_61 bg2_62 nx2_63 lz2_67 fc2_68 ⟨(Int.le_trans (by decide) hq36_0.1), hq36_0.2⟩ (by decide) ⟨(Int.le_trans (by decide) hx_74.2.1), hx_74.2.2⟩ ⟨hq65_1.1, hq65_1.2⟩ ⟨hq65_0.1, hq65_0.2⟩ ⟨hq69_0.1, hq69_0.2⟩ hq65_2 hq65_3 (by first | omega | assumption | decide) w72 (by first | omega | assumption | decide) H _ ls (zmK hx_74.1 (by decide) n26 (by decide) hk7_21)  hP hD hS (lv_sub hl [0, 1, 2, 3, 4] rfl)
            · skip
              refine lv_if_ne (tgt := 83) hx hb dX2_readCondition_78 (by decide) (fun c75 => absurd (by decide) c75) (fun _ => ?_)
              refine lv_iconst (v := 1) hx hb dX2_readCondition_81 (by decide) ?_
              have hP : va_P g.1 vwCl (List.flatten [bLT g lt ta lo, bLaw g lo lc lz2_33 ll lm lg ld fc2_59, bTape g ta ab sz ln kd2_29 bg2_30 nx2_31 (-1) fb]) H := hP
              have hD : va_D A (List.flatten [bLT g lt ta lo, bLaw g lo lc lz2_33 ll lm lg ld fc2_59, bTape g ta ab sz ln kd2_29 bg2_30 nx2_31 (-1) fb]) := hD
              obtain ⟨hP, hD⟩ := zord (g := g) (Bs' := [bLT g lt ta lo, bTape g ta ab sz ln kd2_29 bg2_30 nx2_31 (-1) fb, bLaw g lo lc lz2_33 ll lm lg ld fc2_59]) [0, 2, 1] rfl rfl hP hD
              exact mret_z hx hb hr hlocks hS (Nat.le_of_ble_eq_true rfl) (Nat.le_of_ble_eq_true rfl) dX2_readCondition_82 (kd2_29, bg2_30, nx2_31, -1, lz2_33, fc2_59, (1 : Int32)) rfl (by decide) (show (0 ≤ lz2_33.toInt ∧ lz2_33.toInt ≤ 400) ∧ (-1 ≤ ((-1) : Int32).toInt) ∧ (0 ≤ nx2_31.toInt ∧ nx2_31.toInt ≤ 400) ∧ (0 ≤ bg2_30.toInt ∧ bg2_30.toInt ≤ 400) ∧ (zKd kd2_29.toInt bg2_30.toInt nx2_31.toInt) ∧ (zTk fb ln.toInt kd2_29.toInt bg2_30.toInt nx2_31.toInt) ∧ (1 = 1 ∧ zCond fb ln.toInt (zAtom fb ln.toInt 6) bg.toInt (.ok bg2_30.toInt) ∧ (-1) = (-1) ∧ zAC (fun e9 v9 => zCv fb ln.toInt (zAv fb ln.toInt e9 6) false true bg.toInt bg2_30.toInt v9) bg.toInt bg2_30.toInt fc fc2_59 lz.toInt lz2_33.toInt ∨ 1 = 0 ∧ zCond fb ln.toInt (zAtom fb ln.toInt 6) bg.toInt (.bad ((-1) : Int32).toInt)) from ⟨(by first | assumption | omega | exact Or.inl (by decide) | exact Or.inr (by omega)), (by decide), (by first | assumption | omega | exact Or.inl (by decide) | exact Or.inr (by omega)), (by first | assumption | omega | exact Or.inl (by decide) | exact Or.inr (by omega)), (by first | assumption | omega | exact Or.inl (by decide) | exact Or.inr (by omega)), (by assumption), (Or.inl ⟨rfl, i18 _ (.one hq36_k (zor_n hq48_k hq65_k)), rfl, (zAC_end (by omega) w41 hq60 hq48_k hq65_k)⟩)⟩) hP hD
        · skip
          refine lv_if_ne (tgt := 25) hx hb dX2_readCondition_20 (by decide) (fun c76 => absurd (by decide) c76) (fun _ => ?_)
          refine lv_iconst (v := 0) hx hb dX2_readCondition_23 (by decide) ?_
          have hP : va_P g.1 vwCl (List.flatten [bLT g lt ta lo, bTape g ta ab sz ln kd2_29 bg2_30 nx2_31 ft2_32 fb, bLaw g lo lc lz2_33 ll lm lg ld fc2_34]) H := hP
          have hD : va_D A (List.flatten [bLT g lt ta lo, bTape g ta ab sz ln kd2_29 bg2_30 nx2_31 ft2_32 fb, bLaw g lo lc lz2_33 ll lm lg ld fc2_34]) := hD
          exact mret_z hx hb hr hlocks hS (Nat.le_of_ble_eq_true rfl) (Nat.le_of_ble_eq_true rfl) dX2_readCondition_24 (kd2_29, bg2_30, nx2_31, ft2_32, lz2_33, fc2_34, (0 : Int32)) rfl (by decide) (show (0 ≤ lz2_33.toInt ∧ lz2_33.toInt ≤ 400) ∧ (-1 ≤ ft2_32.toInt) ∧ (0 ≤ nx2_31.toInt ∧ nx2_31.toInt ≤ 400) ∧ (0 ≤ bg2_30.toInt ∧ bg2_30.toInt ≤ 400) ∧ (zKd kd2_29.toInt bg2_30.toInt nx2_31.toInt) ∧ (zTk fb ln.toInt kd2_29.toInt bg2_30.toInt nx2_31.toInt) ∧ (0 = 1 ∧ zCond fb ln.toInt (zAtom fb ln.toInt 6) bg.toInt (.ok bg2_30.toInt) ∧ (-1) = ft2_32 ∧ zAC (fun e9 v9 => zCv fb ln.toInt (zAv fb ln.toInt e9 6) false true bg.toInt bg2_30.toInt v9) bg.toInt bg2_30.toInt fc fc2_34 lz.toInt lz2_33.toInt ∨ 0 = 0 ∧ zCond fb ln.toInt (zAtom fb ln.toInt 6) bg.toInt (.bad ft2_32.toInt)) from ⟨(by first | assumption | omega | exact Or.inl (by decide) | exact Or.inr (by omega)), (by first | decide | omega), (by first | assumption | omega | exact Or.inl (by decide) | exact Or.inr (by omega)), (by first | assumption | omega | exact Or.inl (by decide) | exact Or.inr (by omega)), (by first | assumption | omega | exact Or.inl (by decide) | exact Or.inr (by omega)), (by assumption), (Or.inr ⟨rfl, i18 _ (.wrong hq36_k)⟩)⟩) hP hD
  have hLn1 : ((-1) : Int32).toInt = (-1) := by decide
  have hL0 : (0 : Int32).toInt = 0 := by decide
  have hP : va_P g.1 vwCl (List.flatten [bLT g lt ta lo, bTape g ta ab sz ln kd bg nx (-1) fb, bLaw g lo lc lz ll lm lg ld fc]) s.heap := hP
  have hD : va_D A (List.flatten [bLT g lt ta lo, bTape g ta ab sz ln kd bg nx (-1) fb, bLaw g lo lc lz ll lm lg ld fc]) := hD
  exact LP7_20 _ (-1) (-1) 0 kd bg nx lz fc (by decide) (by decide) (by decide) ⟨hbg.1, hbg.2⟩ ⟨hnx.1, hnx.2⟩ ⟨b_lz.1, b_lz.2⟩ hkd hTk (by first | omega | assumption | decide) (fun _ h9 => h9) (zCI_0 (by omega)) s.heap _ ls (Nat.lt_succ_self _)  hP hD hS (lv_sub hl [0, 1, 2, 3, 4] rfl)
set_option maxRecDepth 100000 in
set_option maxHeartbeats 4000000 in
theorem c_lt_readLineC (l : Launch) (g : zG) (lt : Nat) (ta : Nat) (lo : Nat) (ab : Nat) (sz : Int32) (ln : Int32) (kd : Int32) (bg : Int32) (nx : Int32) (fb : Nat → Int32) (lc : Nat) (lz : Int32) (ll : Int32) (lm : Int32) (lg : Int32) (ld : Int32) (fc : Nat → Int32) (b_lz : 0 ≤ lz.toInt ∧ lz.toInt ≤ 400) (hln : 0 ≤ ln.toInt ∧ ln.toInt ≤ 400) (hnx : 0 ≤ nx.toInt ∧ nx.toInt ≤ 400) (hbg : 0 ≤ bg.toInt ∧ bg.toInt ≤ 400) (hkd : zKd kd.toInt bg.toInt nx.toInt) (hTk : zTk fb ln.toInt kd.toInt bg.toInt nx.toInt) (hlb : lz.toInt ≤ bg.toInt) : zM' g l yX2_readLine (Cond.code yX2_readLine cX2_readLine 3 (some .boolean) :: zB) ({ frames := 26, cells := 0, slots := 0, locals := 578 } : Room) [.ref lt] [bLT g lt ta lo, bTape g ta ab sz ln kd bg nx (-1) fb, bLaw g lo lc lz ll lm lg ld fc] (fun u : Int32 × Int32 × Int32 × Int32 × Int32 × (Nat → Int32) × Int32 => (fun (kd2 : Int32) (bg2 : Int32) (nx2 : Int32) (ft2 : Int32) (lz2 : Int32) (fc2 : Nat → Int32) (q : Int32) => some (.int q)) (u.1) (u.2.1) (u.2.2.1) (u.2.2.2.1) (u.2.2.2.2.1) (u.2.2.2.2.2.1) (u.2.2.2.2.2.2)) (fun u : Int32 × Int32 × Int32 × Int32 × Int32 × (Nat → Int32) × Int32 => (fun (kd2 : Int32) (bg2 : Int32) (nx2 : Int32) (ft2 : Int32) (lz2 : Int32) (fc2 : Nat → Int32) (q : Int32) => (0 ≤ lz2.toInt ∧ lz2.toInt ≤ 400) ∧ (-1 ≤ ft2.toInt) ∧ (0 ≤ nx2.toInt ∧ nx2.toInt ≤ 400) ∧ (0 ≤ bg2.toInt ∧ bg2.toInt ≤ 400) ∧ (zKd kd2.toInt bg2.toInt nx2.toInt) ∧ (zTk fb ln.toInt kd2.toInt bg2.toInt nx2.toInt) ∧ (q = 1 ∧ zLLine fb ln.toInt bg.toInt (.ok bg2.toInt) ∧ (-1) = ft2 ∧ zLC fb ln.toInt bg.toInt bg2.toInt fc fc2 lz.toInt lz2.toInt ∨ q = 0 ∧ zLLine fb ln.toInt bg.toInt (.bad ft2.toInt))) (u.1) (u.2.1) (u.2.2.1) (u.2.2.2.1) (u.2.2.2.2.1) (u.2.2.2.2.2.1) (u.2.2.2.2.2.2)) (fun u : Int32 × Int32 × Int32 × Int32 × Int32 × (Nat → Int32) × Int32 => (fun (kd2 : Int32) (bg2 : Int32) (nx2 : Int32) (ft2 : Int32) (lz2 : Int32) (fc2 : Nat → Int32) (q : Int32) => [bLT g lt ta lo, bTape g ta ab sz ln kd2 bg2 nx2 ft2 fb, bLaw g lo lc lz2 ll lm lg ld fc2]) (u.1) (u.2.1) (u.2.2.1) (u.2.2.2.1) (u.2.2.2.2.1) (u.2.2.2.2.2.1) (u.2.2.2.2.2.2)) := by
  refine zM'.of (cc := cX2_readLine) (maxL := 3) (rt := (some .boolean)) (by decide) rfl (Nat.le_of_ble_eq_true rfl) ?_
  intro p e s m args below meth c A ls St hr hlocks hin hK hT hA hP hD hS hl
  obtain ⟨hx, hb, hml, hown, hts⟩ := id St
  have hl : lv_has ls 3 [(0, .ref lt)] := hl
  refine lv_aload_n hx hb dX2_readLine_0 rfl (lv_at hl 0 rfl) ?_
  refine va_get (D := g.1) (ci := 2) (v := .ref ta) (C := RX2) (T := TX2) (N := 2) hx hb hts izRX2 hown hK hP 0 rfl rfl 0 (by decide) (hts _ k290) (fun x9 h9 => u_same (hts _ k291) x9 h9) rfl dX2_readLine_1 ?_
  refine va_ldcS (q := g.2 10) hx hb hown (zra0 hT.2.1) dX2_readLine_4 ?_
  refine mcallV' (g := g) (q0 := 0) (ci := 6) (As := [.ref (g.2 10)]) (rest := []) St hK hT hA hP hD hS hl.1 [1] [0, 2] rfl rfl rfl (c_t_isWordF l g ta ab sz ln kd bg nx (-1) fb (g.2 10) 0 zqa0 hln hnx hbg hkd hTk rfl zla0 zna0 (zlitB zla0)) (cwV 1 hts (zgL (zl4 k292 k282 k283 k277) k268) rfl rfl rfl (by decide +kernel) ⟨Nat.le_of_ble_eq_true rfl, Nat.le_of_ble_eq_true rfl⟩) rfl rfl rfl rfl (Nat.le_of_ble_eq_true rfl) dX2_readLine_6 ⟨(Nat.le_of_ble_eq_true rfl), (Nat.le_of_ble_eq_true rfl)⟩ (fun r_1 H locs hq2 hP hD hS => ?_)
  replace hq2 : (r_1 = 1 ∧ zisW fb ln.toInt bg.toInt zqa0.2.2.2 ∨ r_1 = 0 ∧ ¬ zisW fb ln.toInt bg.toInt zqa0.2.2.2) := hq2
  have hP : va_P g.1 vwCl (List.flatten [bLT g lt ta lo, bLaw g lo lc lz ll lm lg ld fc, bTape g ta ab sz ln kd bg nx (-1) fb]) H := hP
  have hD : va_D A (List.flatten [bLT g lt ta lo, bLaw g lo lc lz ll lm lg ld fc, bTape g ta ab sz ln kd bg nx (-1) fb]) := hD
  refine W.widen (k := 0) (n := 0) (Nat.le_of_ble_eq_true rfl) (Nat.le_of_ble_eq_true rfl) ?_
  refine W.eq (g2 := F0 m 9 ls [.int r_1]) rfl ?_
  rcases hq2 with ⟨rfl, hq2_k⟩ | ⟨rfl, hq2_k⟩
  · skip
    refine lv_istore_n (lv' := [(1, .int 1), (0, .ref lt)]) hx hb dX2_readLine_9 rfl hl (by decide) rfl (fun ls hl => ?_)
    refine lv_iload_n hx hb dX2_readLine_10 rfl (lv_at hl 0 rfl) ?_
    refine lv_if_ne (tgt := 34) hx hb dX2_readLine_11 (by decide) (fun _ => ?_) (fun c3 => absurd c3 (by decide))
    refine lv_aload_n hx hb dX2_readLine_34 rfl (lv_at hl 1 rfl) ?_
    refine va_get (D := g.1) (ci := 2) (v := .ref ta) (C := RX2) (T := TX2) (N := 2) hx hb hts izRX2 hown hK hP 0 rfl rfl 0 (by decide) (hts _ k290) (fun x9 h9 => u_same (hts _ k291) x9 h9) rfl dX2_readLine_35 ?_
    refine mcallV' (g := g) (q0 := 0) (ci := 6) (As := []) (rest := []) St hK hT hA hP hD hS hl.1 [2] [0, 1] rfl rfl rfl (c_t_stepF l g ta ab sz ln kd bg nx (-1) fb hln hnx) (cwV 0 hts (zgL (zl4 k296 k275 k276 k277) k271) rfl rfl rfl (by decide +kernel) ⟨Nat.le_of_ble_eq_true rfl, Nat.le_of_ble_eq_true rfl⟩) rfl rfl rfl rfl (Nat.le_of_ble_eq_true rfl) dX2_readLine_38 ⟨(Nat.le_of_ble_eq_true rfl), (Nat.le_of_ble_eq_true rfl)⟩ (fun u_ H locs hq7 hP hD hS => ?_)
    obtain ⟨kd2_4, bg2_5, nx2_6⟩ := u_
    replace hq7 : (0 ≤ nx2_6.toInt ∧ nx2_6.toInt ≤ 400) ∧ (0 ≤ bg2_5.toInt ∧ bg2_5.toInt ≤ 400) ∧ (zKd kd2_4.toInt bg2_5.toInt nx2_6.toInt) ∧ (zSk fb ln.toInt nx.toInt bg2_5.toInt) ∧ (zTk fb ln.toInt kd2_4.toInt bg2_5.toInt nx2_6.toInt) := hq7
    have hP : va_P g.1 vwCl (List.flatten [bLT g lt ta lo, bLaw g lo lc lz ll lm lg ld fc, bTape g ta ab sz ln kd2_4 bg2_5 nx2_6 (-1) fb]) H := hP
    have hD : va_D A (List.flatten [bLT g lt ta lo, bLaw g lo lc lz ll lm lg ld fc, bTape g ta ab sz ln kd2_4 bg2_5 nx2_6 (-1) fb]) := hD
    refine W.widen (k := 0) (n := 0) (Nat.le_of_ble_eq_true rfl) (Nat.le_of_ble_eq_true rfl) ?_
    refine W.eq (g2 := F0 m 41 ls []) rfl ?_
    obtain ⟨hq7_0, hq7_1, hq7_2, hq7_3, hq7_4⟩ := hq7
    have w8 := zMv_lt (f := fb) (n := ln.toInt) (by omega) (zisW_z hq2_k) (zMv_mk hTk hq7_3)
    refine lv_aload_n hx hb dX2_readLine_41 rfl (lv_at hl 1 rfl) ?_
    refine va_get (D := g.1) (ci := 2) (v := .ref ta) (C := RX2) (T := TX2) (N := 2) hx hb hts izRX2 hown hK hP 0 rfl rfl 0 (by decide) (hts _ k290) (fun x9 h9 => u_same (hts _ k291) x9 h9) rfl dX2_readLine_42 ?_
    refine lv_iconst (v := 0) hx hb dX2_readLine_45 (by decide) ?_
    refine lv_bipush (v := 30) hx hb dX2_readLine_46 (by decide) ?_
    have hL0 : (0 : Int32).toInt = 0 := by decide
    have hL30 : (30 : Int32).toInt = 30 := by decide
    refine mcallV' (g := g) (q0 := 0) (ci := 6) (As := [.int 0, .int 30]) (rest := []) St hK hT hA hP hD hS hl.1 [2] [0, 1] rfl rfl rfl (c_t_numberF l g ta ab sz ln kd2_4 bg2_5 nx2_6 fb 0 30 hln hq7_0 hq7_1 hq7_2 hq7_4) (cwV 2 hts (zgL (zl4 k293 k294 k295 k277) k273) rfl rfl rfl (by decide +kernel) ⟨Nat.le_of_ble_eq_true rfl, Nat.le_of_ble_eq_true rfl⟩) rfl rfl rfl rfl (Nat.le_of_ble_eq_true rfl) dX2_readLine_48 ⟨(Nat.le_of_ble_eq_true rfl), (Nat.le_of_ble_eq_true rfl)⟩ (fun u_ H locs hq14 hP hD hS => ?_)
    obtain ⟨kd2_9, bg2_10, nx2_11, ft2_12, q_13⟩ := u_
    replace hq14 : (-1 ≤ ft2_12.toInt) ∧ (0 ≤ nx2_11.toInt ∧ nx2_11.toInt ≤ 400) ∧ (0 ≤ bg2_10.toInt ∧ bg2_10.toInt ≤ 400) ∧ (zKd kd2_9.toInt bg2_10.toInt nx2_11.toInt) ∧ (zTk fb ln.toInt kd2_9.toInt bg2_10.toInt nx2_11.toInt) ∧ (zNu fb ln.toInt bg2_5.toInt (0 : Int32).toInt (30 : Int32).toInt q_13 ∧ zMv fb ln.toInt bg2_5.toInt bg2_10.toInt ∧ (-1) = ft2_12 ∨ q_13 = -1 ∧ (¬ ∃ v9, zNu fb ln.toInt bg2_5.toInt (0 : Int32).toInt (30 : Int32).toInt v9) ∧ bg2_5 = ft2_12 ∧ kd2_4 = kd2_9 ∧ bg2_5 = bg2_10 ∧ nx2_6 = nx2_11) := hq14
    have hP : va_P g.1 vwCl (List.flatten [bLT g lt ta lo, bLaw g lo lc lz ll lm lg ld fc, bTape g ta ab sz ln kd2_9 bg2_10 nx2_11 ft2_12 fb]) H := hP
    have hD : va_D A (List.flatten [bLT g lt ta lo, bLaw g lo lc lz ll lm lg ld fc, bTape g ta ab sz ln kd2_9 bg2_10 nx2_11 ft2_12 fb]) := hD
    refine W.widen (k := 0) (n := 0) (Nat.le_of_ble_eq_true rfl) (Nat.le_of_ble_eq_true rfl) ?_
    refine W.eq (g2 := F0 m 51 ls [.int q_13]) rfl ?_
    obtain ⟨hq14_0, hq14_1, hq14_2, hq14_3, hq14_4, hq14_5⟩ := hq14
    rcases hq14_5 with ⟨hq14_k, hq14_km, rfl⟩ | ⟨rfl, hq14_k, rfl, rfl, rfl, rfl⟩
    · skip
      have w15 : 0 ≤ q_13.toInt ∧ q_13.toInt ≤ 30 := ⟨(by have h9 := hq14_k.2.2.1; omega), (by have h9 := hq14_k.2.2.2; omega)⟩
      refine lv_istore_n (lv' := [(2, .int q_13), (1, .int 1), (0, .ref lt)]) hx hb dX2_readLine_51 rfl hl (by decide) rfl (fun ls hl => ?_)
      refine lv_iload_n hx hb dX2_readLine_52 rfl (lv_at hl 0 rfl) ?_
      refine lv_iconst (v := (-1)) hx hb dX2_readLine_53 (by decide) ?_
      refine lv_icmp_eq (tgt := 77) hx hb dX2_readLine_54 (by decide) (fun cb9 => ?_) (fun cb9 => ?_)
      · skip
        exact absurd (show q_13.toInt = (-1) from zeq cb9 rfl (by decide)) (zDeq2 (a := 0) (b := (-1)) w15.1 (Int.le_refl _) (by decide))
      · skip
        have c17 : ¬ q_13.toInt = (-1) := zne cb9 rfl (by decide)
        have w18 := zMv_lt (f := fb) (n := ln.toInt) (by omega) (zNu_z hq14_k) hq14_km
        refine lv_aload_n hx hb dX2_readLine_57 rfl (lv_at hl 2 rfl) ?_
        refine va_get (D := g.1) (ci := 2) (v := .ref ta) (C := RX2) (T := TX2) (N := 2) hx hb hts izRX2 hown hK hP 0 rfl rfl 0 (by decide) (hts _ k290) (fun x9 h9 => u_same (hts _ k291) x9 h9) rfl dX2_readLine_58 ?_
        refine va_ldcS (q := g.2 14) hx hb hown (zra2 hT.2.1) dX2_readLine_61 ?_
        refine mcallV' (g := g) (q0 := 0) (ci := 6) (As := [.ref (g.2 14)]) (rest := []) St hK hT hA hP hD hS hl.1 [2] [0, 1] rfl rfl rfl (c_t_takeWordF l g ta ab sz ln kd2_9 bg2_10 nx2_11 (-1) fb (g.2 14) 2 zqa2 hln hq14_1 hq14_2 hq14_3 hq14_4 rfl zla2 zna2 (zlitB zla2)) (cwV 1 hts (zgL (zl4 k310 k311 k312 k277) k284) rfl rfl rfl (by decide +kernel) ⟨Nat.le_of_ble_eq_true rfl, Nat.le_of_ble_eq_true rfl⟩) rfl rfl rfl rfl (Nat.le_of_ble_eq_true rfl) dX2_readLine_63 ⟨(Nat.le_of_ble_eq_true rfl), (Nat.le_of_ble_eq_true rfl)⟩ (fun u_ H locs hq23 hP hD hS => ?_)
        obtain ⟨kd2_19, bg2_20, nx2_21, r_22⟩ := u_
        replace hq23 : (0 ≤ nx2_21.toInt ∧ nx2_21.toInt ≤ 400) ∧ (0 ≤ bg2_20.toInt ∧ bg2_20.toInt ≤ 400) ∧ (zKd kd2_19.toInt bg2_20.toInt nx2_21.toInt) ∧ (zTk fb ln.toInt kd2_19.toInt bg2_20.toInt nx2_21.toInt) ∧ (r_22 = 1 ∧ zisW fb ln.toInt bg2_10.toInt zqa2.2.2.2 ∧ zMv fb ln.toInt bg2_10.toInt bg2_20.toInt ∨ r_22 = 0 ∧ ¬ zisW fb ln.toInt bg2_10.toInt zqa2.2.2.2 ∧ kd2_9 = kd2_19 ∧ bg2_10 = bg2_20 ∧ nx2_11 = nx2_21) := hq23
        have hP : va_P g.1 vwCl (List.flatten [bLT g lt ta lo, bLaw g lo lc lz ll lm lg ld fc, bTape g ta ab sz ln kd2_19 bg2_20 nx2_21 (-1) fb]) H := hP
        have hD : va_D A (List.flatten [bLT g lt ta lo, bLaw g lo lc lz ll lm lg ld fc, bTape g ta ab sz ln kd2_19 bg2_20 nx2_21 (-1) fb]) := hD
        refine W.widen (k := 0) (n := 0) (Nat.le_of_ble_eq_true rfl) (Nat.le_of_ble_eq_true rfl) ?_
        refine W.eq (g2 := F0 m 66 ls [.int r_22]) rfl ?_
        obtain ⟨hq23_0, hq23_1, hq23_2, hq23_3, hq23_4⟩ := hq23
        rcases hq23_4 with ⟨rfl, hq23_k, hq23_km⟩ | ⟨rfl, hq23_k, rfl, rfl, rfl⟩
        · skip
          refine lv_if_eq (tgt := 79) hx hb dX2_readLine_66 (by decide) (fun c24 => absurd c24 (by decide)) (fun _ => ?_)
          have w25 := zMv_lt (f := fb) (n := ln.toInt) (by omega) (zisW_z hq23_k) hq23_km
          refine lv_aload_n hx hb dX2_readLine_69 rfl (lv_at hl 2 rfl) ?_
          refine lv_iconst (v := 0) hx hb dX2_readLine_70 (by decide) ?_
          refine mcallV' (g := g) (q0 := 0) (ci := 2) (As := [.int 0]) (rest := []) St hK hT hA hP hD hS hl.1 [0, 2, 1] [] rfl rfl rfl (c_lt_readCondition0C l g lt ta lo ab sz ln kd2_19 bg2_20 nx2_21 fb lc lz ll lm lg ld fc b_lz hln hq23_0 hq23_1 hq23_2 hq23_3 (by first | assumption | omega | decide | exact Or.inl (by decide) | exact Or.inr (by decide))) (cwV 1 hts (zgL (zl4 k324 k325 k326 k309) k316) rfl rfl rfl (by decide +kernel) ⟨Nat.le_of_ble_eq_true rfl, Nat.le_of_ble_eq_true rfl⟩) rfl rfl rfl rfl (Nat.le_of_ble_eq_true rfl) dX2_readLine_71 ⟨(Nat.le_of_ble_eq_true rfl), (Nat.le_of_ble_eq_true rfl)⟩ (fun u_ H locs hq33 hP hD hS => ?_)
          obtain ⟨kd2_26, bg2_27, nx2_28, ft2_29, lz2_30, fc2_31, q_32⟩ := u_
          replace hq33 : (0 ≤ lz2_30.toInt ∧ lz2_30.toInt ≤ 400) ∧ (-1 ≤ ft2_29.toInt) ∧ (0 ≤ nx2_28.toInt ∧ nx2_28.toInt ≤ 400) ∧ (0 ≤ bg2_27.toInt ∧ bg2_27.toInt ≤ 400) ∧ (zKd kd2_26.toInt bg2_27.toInt nx2_28.toInt) ∧ (zTk fb ln.toInt kd2_26.toInt bg2_27.toInt nx2_28.toInt) ∧ (q_32 = 1 ∧ zCond fb ln.toInt (zAtom fb ln.toInt 6) bg2_20.toInt (.ok bg2_27.toInt) ∧ (-1) = ft2_29 ∧ zAC (fun e9 v9 => zCv fb ln.toInt (zAv fb ln.toInt e9 6) false true bg2_20.toInt bg2_27.toInt v9) bg2_20.toInt bg2_27.toInt fc fc2_31 lz.toInt lz2_30.toInt ∨ q_32 = 0 ∧ zCond fb ln.toInt (zAtom fb ln.toInt 6) bg2_20.toInt (.bad ft2_29.toInt)) := hq33
          have hP : va_P g.1 vwCl (List.flatten [bLT g lt ta lo, bTape g ta ab sz ln kd2_26 bg2_27 nx2_28 ft2_29 fb, bLaw g lo lc lz2_30 ll lm lg ld fc2_31]) H := hP
          have hD : va_D A (List.flatten [bLT g lt ta lo, bTape g ta ab sz ln kd2_26 bg2_27 nx2_28 ft2_29 fb, bLaw g lo lc lz2_30 ll lm lg ld fc2_31]) := hD
          refine W.widen (k := 0) (n := 0) (Nat.le_of_ble_eq_true rfl) (Nat.le_of_ble_eq_true rfl) ?_
          refine W.eq (g2 := F0 m 74 ls [.int q_32]) rfl ?_
          obtain ⟨hq33_0, hq33_1, hq33_2, hq33_3, hq33_4, hq33_5, hq33_6⟩ := hq33
          rcases hq33_6 with ⟨rfl, hq33_k, rfl, hq33_kc⟩ | ⟨rfl, hq33_k⟩
          · skip
            have w34 := hq33_kc.1
            refine lv_if_ne (tgt := 79) hx hb dX2_readLine_74 (by decide) (fun _ => ?_) (fun c35 => absurd c35 (by decide))
            refine lv_aload_n hx hb dX2_readLine_79 rfl (lv_at hl 2 rfl) ?_
            refine va_get (D := g.1) (ci := 2) (v := .ref lo) (C := RX2) (T := TX2) (N := 2) hx hb hts izRX2 hown hK hP 0 rfl rfl 1 (by decide) (hts _ k210) (fun _ h9 => h9) rfl dX2_readLine_80 ?_
            refine lv_iload_n hx hb dX2_readLine_83 rfl (lv_at hl 1 rfl) ?_
            refine lv_if_eq (tgt := 92) hx hb dX2_readLine_84 (by decide) (fun c36 => absurd c36 (by decide)) (fun _ => ?_)
            refine lv_bipush (v := 15) hx hb dX2_readLine_87 (by decide) ?_
            refine lv_goto (tgt := 94) hx hb dX2_readLine_89 (by decide) ?_
            refine lv_iload_n hx hb dX2_readLine_94 rfl (lv_at hl 0 rfl) ?_
            refine mcallV' (g := g) (q0 := 0) (ci := 1) (As := [.int 15, .int q_13]) (rest := []) St hK hT hA hP hD hS hl.1 [2] [0, 1] rfl rfl rfl (c_l_putC l g lo lc lz2_30 ll lm lg ld fc2_31 15 q_13 hq33_0 (by first | assumption | omega | decide | exact Or.inl (by decide) | exact Or.inr (by decide))) (cwV 2 hts (zgL (zl4 k297 k298 k299 k85) k202) rfl rfl rfl (by decide +kernel) ⟨Nat.le_of_ble_eq_true rfl, Nat.le_of_ble_eq_true rfl⟩) rfl rfl rfl rfl (Nat.le_of_ble_eq_true rfl) dX2_readLine_95 ⟨(Nat.le_of_ble_eq_true rfl), (Nat.le_of_ble_eq_true rfl)⟩ (fun u_ H locs hq39 hP hD hS => ?_)
            obtain ⟨lz2_37, fc2_38⟩ := u_
            replace hq39 : (0 ≤ lz2_37.toInt ∧ lz2_37.toInt ≤ 400) ∧ (lz2_37.toInt = lz2_30.toInt + 1) ∧ (fc2_38 = upd fc2_31 lz2_30.toInt.toNat (15 + 32 * q_13)) := hq39
            have hP : va_P g.1 vwCl (List.flatten [bLT g lt ta lo, bTape g ta ab sz ln kd2_26 bg2_27 nx2_28 (-1) fb, bLaw g lo lc lz2_37 ll lm lg ld fc2_38]) H := hP
            have hD : va_D A (List.flatten [bLT g lt ta lo, bTape g ta ab sz ln kd2_26 bg2_27 nx2_28 (-1) fb, bLaw g lo lc lz2_37 ll lm lg ld fc2_38]) := hD
            refine W.widen (k := 0) (n := 0) (Nat.le_of_ble_eq_true rfl) (Nat.le_of_ble_eq_true rfl) ?_
            refine W.eq (g2 := F0 m 98 ls [.int lz2_30]) rfl ?_
            obtain ⟨hq39_0, hq39_1, hq39_2⟩ := hq39
            refine lv_pop hx hb dX2_readLine_98 rfl ?_
            refine lv_iconst (v := 1) hx hb dX2_readLine_99 (by decide) ?_
            have hP : va_P g.1 vwCl (List.flatten [bLT g lt ta lo, bTape g ta ab sz ln kd2_26 bg2_27 nx2_28 (-1) fb, bLaw g lo lc lz2_37 ll lm lg ld fc2_38]) H := hP
            have hD : va_D A (List.flatten [bLT g lt ta lo, bTape g ta ab sz ln kd2_26 bg2_27 nx2_28 (-1) fb, bLaw g lo lc lz2_37 ll lm lg ld fc2_38]) := hD
            exact mret_z hx hb hr hlocks hS (Nat.le_of_ble_eq_true rfl) (Nat.le_of_ble_eq_true rfl) dX2_readLine_100 (kd2_26, bg2_27, nx2_28, -1, lz2_37, fc2_38, (1 : Int32)) rfl (by decide) (show (0 ≤ lz2_37.toInt ∧ lz2_37.toInt ≤ 400) ∧ (-1 ≤ ((-1) : Int32).toInt) ∧ (0 ≤ nx2_28.toInt ∧ nx2_28.toInt ≤ 400) ∧ (0 ≤ bg2_27.toInt ∧ bg2_27.toInt ≤ 400) ∧ (zKd kd2_26.toInt bg2_27.toInt nx2_28.toInt) ∧ (zTk fb ln.toInt kd2_26.toInt bg2_27.toInt nx2_28.toInt) ∧ (1 = 1 ∧ zLLine fb ln.toInt bg.toInt (.ok bg2_27.toInt) ∧ (-1) = (-1) ∧ zLC fb ln.toInt bg.toInt bg2_27.toInt fc fc2_38 lz.toInt lz2_37.toInt ∨ 1 = 0 ∧ zLLine fb ln.toInt bg.toInt (.bad ((-1) : Int32).toInt)) from ⟨(by first | assumption | omega | exact Or.inl (by decide) | exact Or.inr (by omega)), (by decide), (by first | assumption | omega | exact Or.inl (by decide) | exact Or.inr (by omega)), (by first | assumption | omega | exact Or.inl (by decide) | exact Or.inr (by omega)), (by first | assumption | omega | exact Or.inl (by decide) | exact Or.inr (by omega)), (by assumption), (Or.inl ⟨rfl, zLL_cond (Or.inl hq2_k) (zMv_mk hTk hq7_3) hq14_k hq14_km hq23_k hq23_km hq33_k, rfl, (zLC_x (k := 15) (by omega) (Or.inl ⟨rfl, hq2_k⟩) (zMv_mk hTk hq7_3) hq14_k hq14_km (zLx_c hq23_k hq23_km hq33_kc) (by decide) rfl hq39_2 hq39_1 (by omega) (by omega))⟩)⟩) hP hD
          · skip
            refine lv_if_ne (tgt := 79) hx hb dX2_readLine_74 (by decide) (fun c40 => absurd (by decide) c40) (fun _ => ?_)
            refine lv_iconst (v := 0) hx hb dX2_readLine_77 (by decide) ?_
            have hP : va_P g.1 vwCl (List.flatten [bLT g lt ta lo, bTape g ta ab sz ln kd2_26 bg2_27 nx2_28 ft2_29 fb, bLaw g lo lc lz2_30 ll lm lg ld fc2_31]) H := hP
            have hD : va_D A (List.flatten [bLT g lt ta lo, bTape g ta ab sz ln kd2_26 bg2_27 nx2_28 ft2_29 fb, bLaw g lo lc lz2_30 ll lm lg ld fc2_31]) := hD
            exact mret_z hx hb hr hlocks hS (Nat.le_of_ble_eq_true rfl) (Nat.le_of_ble_eq_true rfl) dX2_readLine_78 (kd2_26, bg2_27, nx2_28, ft2_29, lz2_30, fc2_31, (0 : Int32)) rfl (by decide) (show (0 ≤ lz2_30.toInt ∧ lz2_30.toInt ≤ 400) ∧ (-1 ≤ ft2_29.toInt) ∧ (0 ≤ nx2_28.toInt ∧ nx2_28.toInt ≤ 400) ∧ (0 ≤ bg2_27.toInt ∧ bg2_27.toInt ≤ 400) ∧ (zKd kd2_26.toInt bg2_27.toInt nx2_28.toInt) ∧ (zTk fb ln.toInt kd2_26.toInt bg2_27.toInt nx2_28.toInt) ∧ (0 = 1 ∧ zLLine fb ln.toInt bg.toInt (.ok bg2_27.toInt) ∧ (-1) = ft2_29 ∧ zLC fb ln.toInt bg.toInt bg2_27.toInt fc fc2_31 lz.toInt lz2_30.toInt ∨ 0 = 0 ∧ zLLine fb ln.toInt bg.toInt (.bad ft2_29.toInt)) from ⟨(by first | assumption | omega | exact Or.inl (by decide) | exact Or.inr (by omega)), (by first | decide | omega), (by first | assumption | omega | exact Or.inl (by decide) | exact Or.inr (by omega)), (by first | assumption | omega | exact Or.inl (by decide) | exact Or.inr (by omega)), (by first | assumption | omega | exact Or.inl (by decide) | exact Or.inr (by omega)), (by assumption), (Or.inr ⟨rfl, zLL_cond (Or.inl hq2_k) (zMv_mk hTk hq7_3) hq14_k hq14_km hq23_k hq23_km hq33_k⟩)⟩) hP hD
        · skip
          refine lv_if_eq (tgt := 79) hx hb dX2_readLine_66 (by decide) (fun _ => ?_) (fun c41 => absurd (by decide) c41)
          refine lv_aload_n hx hb dX2_readLine_79 rfl (lv_at hl 2 rfl) ?_
          refine va_get (D := g.1) (ci := 2) (v := .ref lo) (C := RX2) (T := TX2) (N := 2) hx hb hts izRX2 hown hK hP 0 rfl rfl 1 (by decide) (hts _ k210) (fun _ h9 => h9) rfl dX2_readLine_80 ?_
          refine lv_iload_n hx hb dX2_readLine_83 rfl (lv_at hl 1 rfl) ?_
          refine lv_if_eq (tgt := 92) hx hb dX2_readLine_84 (by decide) (fun c42 => absurd c42 (by decide)) (fun _ => ?_)
          refine lv_bipush (v := 15) hx hb dX2_readLine_87 (by decide) ?_
          refine lv_goto (tgt := 94) hx hb dX2_readLine_89 (by decide) ?_
          refine lv_iload_n hx hb dX2_readLine_94 rfl (lv_at hl 0 rfl) ?_
          refine mcallV' (g := g) (q0 := 0) (ci := 1) (As := [.int 15, .int q_13]) (rest := []) St hK hT hA hP hD hS hl.1 [1] [0, 2] rfl rfl rfl (c_l_putC l g lo lc lz ll lm lg ld fc 15 q_13 b_lz (by first | assumption | omega | decide | exact Or.inl (by decide) | exact Or.inr (by decide))) (cwV 2 hts (zgL (zl4 k297 k298 k299 k85) k202) rfl rfl rfl (by decide +kernel) ⟨Nat.le_of_ble_eq_true rfl, Nat.le_of_ble_eq_true rfl⟩) rfl rfl rfl rfl (Nat.le_of_ble_eq_true rfl) dX2_readLine_95 ⟨(Nat.le_of_ble_eq_true rfl), (Nat.le_of_ble_eq_true rfl)⟩ (fun u_ H locs hq45 hP hD hS => ?_)
          obtain ⟨lz2_43, fc2_44⟩ := u_
          replace hq45 : (0 ≤ lz2_43.toInt ∧ lz2_43.toInt ≤ 400) ∧ (lz2_43.toInt = lz.toInt + 1) ∧ (fc2_44 = upd fc lz.toInt.toNat (15 + 32 * q_13)) := hq45
          have hP : va_P g.1 vwCl (List.flatten [bLT g lt ta lo, bTape g ta ab sz ln kd2_9 bg2_10 nx2_11 (-1) fb, bLaw g lo lc lz2_43 ll lm lg ld fc2_44]) H := hP
          have hD : va_D A (List.flatten [bLT g lt ta lo, bTape g ta ab sz ln kd2_9 bg2_10 nx2_11 (-1) fb, bLaw g lo lc lz2_43 ll lm lg ld fc2_44]) := hD
          refine W.widen (k := 0) (n := 0) (Nat.le_of_ble_eq_true rfl) (Nat.le_of_ble_eq_true rfl) ?_
          refine W.eq (g2 := F0 m 98 ls [.int lz]) rfl ?_
          obtain ⟨hq45_0, hq45_1, hq45_2⟩ := hq45
          refine lv_pop hx hb dX2_readLine_98 rfl ?_
          refine lv_iconst (v := 1) hx hb dX2_readLine_99 (by decide) ?_
          have hP : va_P g.1 vwCl (List.flatten [bLT g lt ta lo, bTape g ta ab sz ln kd2_9 bg2_10 nx2_11 (-1) fb, bLaw g lo lc lz2_43 ll lm lg ld fc2_44]) H := hP
          have hD : va_D A (List.flatten [bLT g lt ta lo, bTape g ta ab sz ln kd2_9 bg2_10 nx2_11 (-1) fb, bLaw g lo lc lz2_43 ll lm lg ld fc2_44]) := hD
          exact mret_z hx hb hr hlocks hS (Nat.le_of_ble_eq_true rfl) (Nat.le_of_ble_eq_true rfl) dX2_readLine_100 (kd2_9, bg2_10, nx2_11, -1, lz2_43, fc2_44, (1 : Int32)) rfl (by decide) (show (0 ≤ lz2_43.toInt ∧ lz2_43.toInt ≤ 400) ∧ (-1 ≤ ((-1) : Int32).toInt) ∧ (0 ≤ nx2_11.toInt ∧ nx2_11.toInt ≤ 400) ∧ (0 ≤ bg2_10.toInt ∧ bg2_10.toInt ≤ 400) ∧ (zKd kd2_9.toInt bg2_10.toInt nx2_11.toInt) ∧ (zTk fb ln.toInt kd2_9.toInt bg2_10.toInt nx2_11.toInt) ∧ (1 = 1 ∧ zLLine fb ln.toInt bg.toInt (.ok bg2_10.toInt) ∧ (-1) = (-1) ∧ zLC fb ln.toInt bg.toInt bg2_10.toInt fc fc2_44 lz.toInt lz2_43.toInt ∨ 1 = 0 ∧ zLLine fb ln.toInt bg.toInt (.bad ((-1) : Int32).toInt)) from ⟨(by first | assumption | omega | exact Or.inl (by decide) | exact Or.inr (by omega)), (by decide), (by first | assumption | omega | exact Or.inl (by decide) | exact Or.inr (by omega)), (by first | assumption | omega | exact Or.inl (by decide) | exact Or.inr (by omega)), (by first | assumption | omega | exact Or.inl (by decide) | exact Or.inr (by omega)), (by assumption), (Or.inl ⟨rfl, zLL_plain (Or.inl hq2_k) (zMv_mk hTk hq7_3) hq14_k hq14_km hq23_k, rfl, (zLC_x (k := 15) (by omega) (Or.inl ⟨rfl, hq2_k⟩) (zMv_mk hTk hq7_3) hq14_k hq14_km (zLx_p hq23_k) (by decide) rfl hq45_2 hq45_1 (by omega) (by omega))⟩)⟩) hP hD
    · skip
      refine lv_istore_n (lv' := [(2, .int (-1)), (1, .int 1), (0, .ref lt)]) hx hb dX2_readLine_51 rfl hl (by decide) rfl (fun ls hl => ?_)
      refine lv_iload_n hx hb dX2_readLine_52 rfl (lv_at hl 0 rfl) ?_
      refine lv_iconst (v := (-1)) hx hb dX2_readLine_53 (by decide) ?_
      refine lv_icmp_eq (tgt := 77) hx hb dX2_readLine_54 (by decide) (fun _ => ?_) (fun c46 => absurd (by decide) c46)
      refine lv_iconst (v := 0) hx hb dX2_readLine_77 (by decide) ?_
      have hP : va_P g.1 vwCl (List.flatten [bLT g lt ta lo, bLaw g lo lc lz ll lm lg ld fc, bTape g ta ab sz ln kd2_4 bg2_5 nx2_6 bg2_5 fb]) H := hP
      have hD : va_D A (List.flatten [bLT g lt ta lo, bLaw g lo lc lz ll lm lg ld fc, bTape g ta ab sz ln kd2_4 bg2_5 nx2_6 bg2_5 fb]) := hD
      obtain ⟨hP, hD⟩ := zord (g := g) (Bs' := [bLT g lt ta lo, bTape g ta ab sz ln kd2_4 bg2_5 nx2_6 bg2_5 fb, bLaw g lo lc lz ll lm lg ld fc]) [0, 2, 1] rfl rfl hP hD
      exact mret_z hx hb hr hlocks hS (Nat.le_of_ble_eq_true rfl) (Nat.le_of_ble_eq_true rfl) dX2_readLine_78 (kd2_4, bg2_5, nx2_6, bg2_5, lz, fc, (0 : Int32)) rfl (by decide) (show (0 ≤ lz.toInt ∧ lz.toInt ≤ 400) ∧ (-1 ≤ bg2_5.toInt) ∧ (0 ≤ nx2_6.toInt ∧ nx2_6.toInt ≤ 400) ∧ (0 ≤ bg2_5.toInt ∧ bg2_5.toInt ≤ 400) ∧ (zKd kd2_4.toInt bg2_5.toInt nx2_6.toInt) ∧ (zTk fb ln.toInt kd2_4.toInt bg2_5.toInt nx2_6.toInt) ∧ (0 = 1 ∧ zLLine fb ln.toInt bg.toInt (.ok bg2_5.toInt) ∧ (-1) = bg2_5 ∧ zLC fb ln.toInt bg.toInt bg2_5.toInt fc fc lz.toInt lz.toInt ∨ 0 = 0 ∧ zLLine fb ln.toInt bg.toInt (.bad bg2_5.toInt)) from ⟨(by first | assumption | omega | exact Or.inl (by decide) | exact Or.inr (by omega)), (by first | decide | omega), (by first | assumption | omega | exact Or.inl (by decide) | exact Or.inr (by omega)), (by first | assumption | omega | exact Or.inl (by decide) | exact Or.inr (by omega)), (by first | assumption | omega | exact Or.inl (by decide) | exact Or.inr (by omega)), (by assumption), (Or.inr ⟨rfl, zLL_bad2 (Or.inl hq2_k) (zMv_mk hTk hq7_3) hq14_k⟩)⟩) hP hD
  · skip
    refine lv_istore_n (lv' := [(1, .int 0), (0, .ref lt)]) hx hb dX2_readLine_9 rfl hl (by decide) rfl (fun ls hl => ?_)
    refine lv_iload_n hx hb dX2_readLine_10 rfl (lv_at hl 0 rfl) ?_
    refine lv_if_ne (tgt := 34) hx hb dX2_readLine_11 (by decide) (fun c47 => absurd (by decide) c47) (fun _ => ?_)
    refine lv_aload_n hx hb dX2_readLine_14 rfl (lv_at hl 1 rfl) ?_
    refine va_get (D := g.1) (ci := 2) (v := .ref ta) (C := RX2) (T := TX2) (N := 2) hx hb hts izRX2 hown hK hP 0 rfl rfl 0 (by decide) (hts _ k290) (fun x9 h9 => u_same (hts _ k291) x9 h9) rfl dX2_readLine_15 ?_
    refine va_ldcS (q := g.2 12) hx hb hown (zra1 hT.2.1) dX2_readLine_18 ?_
    refine mcallV' (g := g) (q0 := 0) (ci := 6) (As := [.ref (g.2 12)]) (rest := []) St hK hT hA hP hD hS hl.1 [2] [0, 1] rfl rfl rfl (c_t_isWordF l g ta ab sz ln kd bg nx (-1) fb (g.2 12) 1 zqa1 hln hnx hbg hkd hTk rfl zla1 zna1 (zlitB zla1)) (cwV 1 hts (zgL (zl4 k292 k282 k283 k277) k268) rfl rfl rfl (by decide +kernel) ⟨Nat.le_of_ble_eq_true rfl, Nat.le_of_ble_eq_true rfl⟩) rfl rfl rfl rfl (Nat.le_of_ble_eq_true rfl) dX2_readLine_20 ⟨(Nat.le_of_ble_eq_true rfl), (Nat.le_of_ble_eq_true rfl)⟩ (fun r_48 H locs hq49 hP hD hS => ?_)
    replace hq49 : (r_48 = 1 ∧ zisW fb ln.toInt bg.toInt zqa1.2.2.2 ∨ r_48 = 0 ∧ ¬ zisW fb ln.toInt bg.toInt zqa1.2.2.2) := hq49
    have hP : va_P g.1 vwCl (List.flatten [bLT g lt ta lo, bLaw g lo lc lz ll lm lg ld fc, bTape g ta ab sz ln kd bg nx (-1) fb]) H := hP
    have hD : va_D A (List.flatten [bLT g lt ta lo, bLaw g lo lc lz ll lm lg ld fc, bTape g ta ab sz ln kd bg nx (-1) fb]) := hD
    refine W.widen (k := 0) (n := 0) (Nat.le_of_ble_eq_true rfl) (Nat.le_of_ble_eq_true rfl) ?_
    refine W.eq (g2 := F0 m 23 ls [.int r_48]) rfl ?_
    rcases hq49 with ⟨rfl, hq49_k⟩ | ⟨rfl, hq49_k⟩
    · skip
      refine lv_if_ne (tgt := 34) hx hb dX2_readLine_23 (by decide) (fun _ => ?_) (fun c50 => absurd c50 (by decide))
      refine lv_aload_n hx hb dX2_readLine_34 rfl (lv_at hl 1 rfl) ?_
      refine va_get (D := g.1) (ci := 2) (v := .ref ta) (C := RX2) (T := TX2) (N := 2) hx hb hts izRX2 hown hK hP 0 rfl rfl 0 (by decide) (hts _ k290) (fun x9 h9 => u_same (hts _ k291) x9 h9) rfl dX2_readLine_35 ?_
      refine mcallV' (g := g) (q0 := 0) (ci := 6) (As := []) (rest := []) St hK hT hA hP hD hS hl.1 [2] [0, 1] rfl rfl rfl (c_t_stepF l g ta ab sz ln kd bg nx (-1) fb hln hnx) (cwV 0 hts (zgL (zl4 k296 k275 k276 k277) k271) rfl rfl rfl (by decide +kernel) ⟨Nat.le_of_ble_eq_true rfl, Nat.le_of_ble_eq_true rfl⟩) rfl rfl rfl rfl (Nat.le_of_ble_eq_true rfl) dX2_readLine_38 ⟨(Nat.le_of_ble_eq_true rfl), (Nat.le_of_ble_eq_true rfl)⟩ (fun u_ H locs hq54 hP hD hS => ?_)
      obtain ⟨kd2_51, bg2_52, nx2_53⟩ := u_
      replace hq54 : (0 ≤ nx2_53.toInt ∧ nx2_53.toInt ≤ 400) ∧ (0 ≤ bg2_52.toInt ∧ bg2_52.toInt ≤ 400) ∧ (zKd kd2_51.toInt bg2_52.toInt nx2_53.toInt) ∧ (zSk fb ln.toInt nx.toInt bg2_52.toInt) ∧ (zTk fb ln.toInt kd2_51.toInt bg2_52.toInt nx2_53.toInt) := hq54
      have hP : va_P g.1 vwCl (List.flatten [bLT g lt ta lo, bLaw g lo lc lz ll lm lg ld fc, bTape g ta ab sz ln kd2_51 bg2_52 nx2_53 (-1) fb]) H := hP
      have hD : va_D A (List.flatten [bLT g lt ta lo, bLaw g lo lc lz ll lm lg ld fc, bTape g ta ab sz ln kd2_51 bg2_52 nx2_53 (-1) fb]) := hD
      refine W.widen (k := 0) (n := 0) (Nat.le_of_ble_eq_true rfl) (Nat.le_of_ble_eq_true rfl) ?_
      refine W.eq (g2 := F0 m 41 ls []) rfl ?_
      obtain ⟨hq54_0, hq54_1, hq54_2, hq54_3, hq54_4⟩ := hq54
      have w55 := zMv_lt (f := fb) (n := ln.toInt) (by omega) (zisW_z hq49_k) (zMv_mk hTk hq54_3)
      refine lv_aload_n hx hb dX2_readLine_41 rfl (lv_at hl 1 rfl) ?_
      refine va_get (D := g.1) (ci := 2) (v := .ref ta) (C := RX2) (T := TX2) (N := 2) hx hb hts izRX2 hown hK hP 0 rfl rfl 0 (by decide) (hts _ k290) (fun x9 h9 => u_same (hts _ k291) x9 h9) rfl dX2_readLine_42 ?_
      refine lv_iconst (v := 0) hx hb dX2_readLine_45 (by decide) ?_
      refine lv_bipush (v := 30) hx hb dX2_readLine_46 (by decide) ?_
      have hL0 : (0 : Int32).toInt = 0 := by decide
      have hL30 : (30 : Int32).toInt = 30 := by decide
      refine mcallV' (g := g) (q0 := 0) (ci := 6) (As := [.int 0, .int 30]) (rest := []) St hK hT hA hP hD hS hl.1 [2] [0, 1] rfl rfl rfl (c_t_numberF l g ta ab sz ln kd2_51 bg2_52 nx2_53 fb 0 30 hln hq54_0 hq54_1 hq54_2 hq54_4) (cwV 2 hts (zgL (zl4 k293 k294 k295 k277) k273) rfl rfl rfl (by decide +kernel) ⟨Nat.le_of_ble_eq_true rfl, Nat.le_of_ble_eq_true rfl⟩) rfl rfl rfl rfl (Nat.le_of_ble_eq_true rfl) dX2_readLine_48 ⟨(Nat.le_of_ble_eq_true rfl), (Nat.le_of_ble_eq_true rfl)⟩ (fun u_ H locs hq61 hP hD hS => ?_)
      obtain ⟨kd2_56, bg2_57, nx2_58, ft2_59, q_60⟩ := u_
      replace hq61 : (-1 ≤ ft2_59.toInt) ∧ (0 ≤ nx2_58.toInt ∧ nx2_58.toInt ≤ 400) ∧ (0 ≤ bg2_57.toInt ∧ bg2_57.toInt ≤ 400) ∧ (zKd kd2_56.toInt bg2_57.toInt nx2_58.toInt) ∧ (zTk fb ln.toInt kd2_56.toInt bg2_57.toInt nx2_58.toInt) ∧ (zNu fb ln.toInt bg2_52.toInt (0 : Int32).toInt (30 : Int32).toInt q_60 ∧ zMv fb ln.toInt bg2_52.toInt bg2_57.toInt ∧ (-1) = ft2_59 ∨ q_60 = -1 ∧ (¬ ∃ v9, zNu fb ln.toInt bg2_52.toInt (0 : Int32).toInt (30 : Int32).toInt v9) ∧ bg2_52 = ft2_59 ∧ kd2_51 = kd2_56 ∧ bg2_52 = bg2_57 ∧ nx2_53 = nx2_58) := hq61
      have hP : va_P g.1 vwCl (List.flatten [bLT g lt ta lo, bLaw g lo lc lz ll lm lg ld fc, bTape g ta ab sz ln kd2_56 bg2_57 nx2_58 ft2_59 fb]) H := hP
      have hD : va_D A (List.flatten [bLT g lt ta lo, bLaw g lo lc lz ll lm lg ld fc, bTape g ta ab sz ln kd2_56 bg2_57 nx2_58 ft2_59 fb]) := hD
      refine W.widen (k := 0) (n := 0) (Nat.le_of_ble_eq_true rfl) (Nat.le_of_ble_eq_true rfl) ?_
      refine W.eq (g2 := F0 m 51 ls [.int q_60]) rfl ?_
      obtain ⟨hq61_0, hq61_1, hq61_2, hq61_3, hq61_4, hq61_5⟩ := hq61
      rcases hq61_5 with ⟨hq61_k, hq61_km, rfl⟩ | ⟨rfl, hq61_k, rfl, rfl, rfl, rfl⟩
      · skip
        have w62 : 0 ≤ q_60.toInt ∧ q_60.toInt ≤ 30 := ⟨(by have h9 := hq61_k.2.2.1; omega), (by have h9 := hq61_k.2.2.2; omega)⟩
        refine lv_istore_n (lv' := [(2, .int q_60), (1, .int 0), (0, .ref lt)]) hx hb dX2_readLine_51 rfl hl (by decide) rfl (fun ls hl => ?_)
        refine lv_iload_n hx hb dX2_readLine_52 rfl (lv_at hl 0 rfl) ?_
        refine lv_iconst (v := (-1)) hx hb dX2_readLine_53 (by decide) ?_
        refine lv_icmp_eq (tgt := 77) hx hb dX2_readLine_54 (by decide) (fun cb9 => ?_) (fun cb9 => ?_)
        · skip
          exact absurd (show q_60.toInt = (-1) from zeq cb9 rfl (by decide)) (zDeq2 (a := 0) (b := (-1)) w62.1 (Int.le_refl _) (by decide))
        · skip
          have c64 : ¬ q_60.toInt = (-1) := zne cb9 rfl (by decide)
          have w65 := zMv_lt (f := fb) (n := ln.toInt) (by omega) (zNu_z hq61_k) hq61_km
          refine lv_aload_n hx hb dX2_readLine_57 rfl (lv_at hl 2 rfl) ?_
          refine va_get (D := g.1) (ci := 2) (v := .ref ta) (C := RX2) (T := TX2) (N := 2) hx hb hts izRX2 hown hK hP 0 rfl rfl 0 (by decide) (hts _ k290) (fun x9 h9 => u_same (hts _ k291) x9 h9) rfl dX2_readLine_58 ?_
          refine va_ldcS (q := g.2 14) hx hb hown (zra2 hT.2.1) dX2_readLine_61 ?_
          refine mcallV' (g := g) (q0 := 0) (ci := 6) (As := [.ref (g.2 14)]) (rest := []) St hK hT hA hP hD hS hl.1 [2] [0, 1] rfl rfl rfl (c_t_takeWordF l g ta ab sz ln kd2_56 bg2_57 nx2_58 (-1) fb (g.2 14) 2 zqa2 hln hq61_1 hq61_2 hq61_3 hq61_4 rfl zla2 zna2 (zlitB zla2)) (cwV 1 hts (zgL (zl4 k310 k311 k312 k277) k284) rfl rfl rfl (by decide +kernel) ⟨Nat.le_of_ble_eq_true rfl, Nat.le_of_ble_eq_true rfl⟩) rfl rfl rfl rfl (Nat.le_of_ble_eq_true rfl) dX2_readLine_63 ⟨(Nat.le_of_ble_eq_true rfl), (Nat.le_of_ble_eq_true rfl)⟩ (fun u_ H locs hq70 hP hD hS => ?_)
          obtain ⟨kd2_66, bg2_67, nx2_68, r_69⟩ := u_
          replace hq70 : (0 ≤ nx2_68.toInt ∧ nx2_68.toInt ≤ 400) ∧ (0 ≤ bg2_67.toInt ∧ bg2_67.toInt ≤ 400) ∧ (zKd kd2_66.toInt bg2_67.toInt nx2_68.toInt) ∧ (zTk fb ln.toInt kd2_66.toInt bg2_67.toInt nx2_68.toInt) ∧ (r_69 = 1 ∧ zisW fb ln.toInt bg2_57.toInt zqa2.2.2.2 ∧ zMv fb ln.toInt bg2_57.toInt bg2_67.toInt ∨ r_69 = 0 ∧ ¬ zisW fb ln.toInt bg2_57.toInt zqa2.2.2.2 ∧ kd2_56 = kd2_66 ∧ bg2_57 = bg2_67 ∧ nx2_58 = nx2_68) := hq70
          have hP : va_P g.1 vwCl (List.flatten [bLT g lt ta lo, bLaw g lo lc lz ll lm lg ld fc, bTape g ta ab sz ln kd2_66 bg2_67 nx2_68 (-1) fb]) H := hP
          have hD : va_D A (List.flatten [bLT g lt ta lo, bLaw g lo lc lz ll lm lg ld fc, bTape g ta ab sz ln kd2_66 bg2_67 nx2_68 (-1) fb]) := hD
          refine W.widen (k := 0) (n := 0) (Nat.le_of_ble_eq_true rfl) (Nat.le_of_ble_eq_true rfl) ?_
          refine W.eq (g2 := F0 m 66 ls [.int r_69]) rfl ?_
          obtain ⟨hq70_0, hq70_1, hq70_2, hq70_3, hq70_4⟩ := hq70
          rcases hq70_4 with ⟨rfl, hq70_k, hq70_km⟩ | ⟨rfl, hq70_k, rfl, rfl, rfl⟩
          · skip
            refine lv_if_eq (tgt := 79) hx hb dX2_readLine_66 (by decide) (fun c71 => absurd c71 (by decide)) (fun _ => ?_)
            have w72 := zMv_lt (f := fb) (n := ln.toInt) (by omega) (zisW_z hq70_k) hq70_km
            refine lv_aload_n hx hb dX2_readLine_69 rfl (lv_at hl 2 rfl) ?_
            refine lv_iconst (v := 0) hx hb dX2_readLine_70 (by decide) ?_
            refine mcallV' (g := g) (q0 := 0) (ci := 2) (As := [.int 0]) (rest := []) St hK hT hA hP hD hS hl.1 [0, 2, 1] [] rfl rfl rfl (c_lt_readCondition0C l g lt ta lo ab sz ln kd2_66 bg2_67 nx2_68 fb lc lz ll lm lg ld fc b_lz hln hq70_0 hq70_1 hq70_2 hq70_3 (by first | assumption | omega | decide | exact Or.inl (by decide) | exact Or.inr (by decide))) (cwV 1 hts (zgL (zl4 k324 k325 k326 k309) k316) rfl rfl rfl (by decide +kernel) ⟨Nat.le_of_ble_eq_true rfl, Nat.le_of_ble_eq_true rfl⟩) rfl rfl rfl rfl (Nat.le_of_ble_eq_true rfl) dX2_readLine_71 ⟨(Nat.le_of_ble_eq_true rfl), (Nat.le_of_ble_eq_true rfl)⟩ (fun u_ H locs hq80 hP hD hS => ?_)
            obtain ⟨kd2_73, bg2_74, nx2_75, ft2_76, lz2_77, fc2_78, q_79⟩ := u_
            replace hq80 : (0 ≤ lz2_77.toInt ∧ lz2_77.toInt ≤ 400) ∧ (-1 ≤ ft2_76.toInt) ∧ (0 ≤ nx2_75.toInt ∧ nx2_75.toInt ≤ 400) ∧ (0 ≤ bg2_74.toInt ∧ bg2_74.toInt ≤ 400) ∧ (zKd kd2_73.toInt bg2_74.toInt nx2_75.toInt) ∧ (zTk fb ln.toInt kd2_73.toInt bg2_74.toInt nx2_75.toInt) ∧ (q_79 = 1 ∧ zCond fb ln.toInt (zAtom fb ln.toInt 6) bg2_67.toInt (.ok bg2_74.toInt) ∧ (-1) = ft2_76 ∧ zAC (fun e9 v9 => zCv fb ln.toInt (zAv fb ln.toInt e9 6) false true bg2_67.toInt bg2_74.toInt v9) bg2_67.toInt bg2_74.toInt fc fc2_78 lz.toInt lz2_77.toInt ∨ q_79 = 0 ∧ zCond fb ln.toInt (zAtom fb ln.toInt 6) bg2_67.toInt (.bad ft2_76.toInt)) := hq80
            have hP : va_P g.1 vwCl (List.flatten [bLT g lt ta lo, bTape g ta ab sz ln kd2_73 bg2_74 nx2_75 ft2_76 fb, bLaw g lo lc lz2_77 ll lm lg ld fc2_78]) H := hP
            have hD : va_D A (List.flatten [bLT g lt ta lo, bTape g ta ab sz ln kd2_73 bg2_74 nx2_75 ft2_76 fb, bLaw g lo lc lz2_77 ll lm lg ld fc2_78]) := hD
            refine W.widen (k := 0) (n := 0) (Nat.le_of_ble_eq_true rfl) (Nat.le_of_ble_eq_true rfl) ?_
            refine W.eq (g2 := F0 m 74 ls [.int q_79]) rfl ?_
            obtain ⟨hq80_0, hq80_1, hq80_2, hq80_3, hq80_4, hq80_5, hq80_6⟩ := hq80
            rcases hq80_6 with ⟨rfl, hq80_k, rfl, hq80_kc⟩ | ⟨rfl, hq80_k⟩
            · skip
              have w81 := hq80_kc.1
              refine lv_if_ne (tgt := 79) hx hb dX2_readLine_74 (by decide) (fun _ => ?_) (fun c82 => absurd c82 (by decide))
              refine lv_aload_n hx hb dX2_readLine_79 rfl (lv_at hl 2 rfl) ?_
              refine va_get (D := g.1) (ci := 2) (v := .ref lo) (C := RX2) (T := TX2) (N := 2) hx hb hts izRX2 hown hK hP 0 rfl rfl 1 (by decide) (hts _ k210) (fun _ h9 => h9) rfl dX2_readLine_80 ?_
              refine lv_iload_n hx hb dX2_readLine_83 rfl (lv_at hl 1 rfl) ?_
              refine lv_if_eq (tgt := 92) hx hb dX2_readLine_84 (by decide) (fun _ => ?_) (fun c83 => absurd (by decide) c83)
              refine lv_bipush (v := 16) hx hb dX2_readLine_92 (by decide) ?_
              refine lv_iload_n hx hb dX2_readLine_94 rfl (lv_at hl 0 rfl) ?_
              refine mcallV' (g := g) (q0 := 0) (ci := 1) (As := [.int 16, .int q_60]) (rest := []) St hK hT hA hP hD hS hl.1 [2] [0, 1] rfl rfl rfl (c_l_putC l g lo lc lz2_77 ll lm lg ld fc2_78 16 q_60 hq80_0 (by first | assumption | omega | decide | exact Or.inl (by decide) | exact Or.inr (by decide))) (cwV 2 hts (zgL (zl4 k297 k298 k299 k85) k202) rfl rfl rfl (by decide +kernel) ⟨Nat.le_of_ble_eq_true rfl, Nat.le_of_ble_eq_true rfl⟩) rfl rfl rfl rfl (Nat.le_of_ble_eq_true rfl) dX2_readLine_95 ⟨(Nat.le_of_ble_eq_true rfl), (Nat.le_of_ble_eq_true rfl)⟩ (fun u_ H locs hq86 hP hD hS => ?_)
              obtain ⟨lz2_84, fc2_85⟩ := u_
              replace hq86 : (0 ≤ lz2_84.toInt ∧ lz2_84.toInt ≤ 400) ∧ (lz2_84.toInt = lz2_77.toInt + 1) ∧ (fc2_85 = upd fc2_78 lz2_77.toInt.toNat (16 + 32 * q_60)) := hq86
              have hP : va_P g.1 vwCl (List.flatten [bLT g lt ta lo, bTape g ta ab sz ln kd2_73 bg2_74 nx2_75 (-1) fb, bLaw g lo lc lz2_84 ll lm lg ld fc2_85]) H := hP
              have hD : va_D A (List.flatten [bLT g lt ta lo, bTape g ta ab sz ln kd2_73 bg2_74 nx2_75 (-1) fb, bLaw g lo lc lz2_84 ll lm lg ld fc2_85]) := hD
              refine W.widen (k := 0) (n := 0) (Nat.le_of_ble_eq_true rfl) (Nat.le_of_ble_eq_true rfl) ?_
              refine W.eq (g2 := F0 m 98 ls [.int lz2_77]) rfl ?_
              obtain ⟨hq86_0, hq86_1, hq86_2⟩ := hq86
              refine lv_pop hx hb dX2_readLine_98 rfl ?_
              refine lv_iconst (v := 1) hx hb dX2_readLine_99 (by decide) ?_
              have hP : va_P g.1 vwCl (List.flatten [bLT g lt ta lo, bTape g ta ab sz ln kd2_73 bg2_74 nx2_75 (-1) fb, bLaw g lo lc lz2_84 ll lm lg ld fc2_85]) H := hP
              have hD : va_D A (List.flatten [bLT g lt ta lo, bTape g ta ab sz ln kd2_73 bg2_74 nx2_75 (-1) fb, bLaw g lo lc lz2_84 ll lm lg ld fc2_85]) := hD
              exact mret_z hx hb hr hlocks hS (Nat.le_of_ble_eq_true rfl) (Nat.le_of_ble_eq_true rfl) dX2_readLine_100 (kd2_73, bg2_74, nx2_75, -1, lz2_84, fc2_85, (1 : Int32)) rfl (by decide) (show (0 ≤ lz2_84.toInt ∧ lz2_84.toInt ≤ 400) ∧ (-1 ≤ ((-1) : Int32).toInt) ∧ (0 ≤ nx2_75.toInt ∧ nx2_75.toInt ≤ 400) ∧ (0 ≤ bg2_74.toInt ∧ bg2_74.toInt ≤ 400) ∧ (zKd kd2_73.toInt bg2_74.toInt nx2_75.toInt) ∧ (zTk fb ln.toInt kd2_73.toInt bg2_74.toInt nx2_75.toInt) ∧ (1 = 1 ∧ zLLine fb ln.toInt bg.toInt (.ok bg2_74.toInt) ∧ (-1) = (-1) ∧ zLC fb ln.toInt bg.toInt bg2_74.toInt fc fc2_85 lz.toInt lz2_84.toInt ∨ 1 = 0 ∧ zLLine fb ln.toInt bg.toInt (.bad ((-1) : Int32).toInt)) from ⟨(by first | assumption | omega | exact Or.inl (by decide) | exact Or.inr (by omega)), (by decide), (by first | assumption | omega | exact Or.inl (by decide) | exact Or.inr (by omega)), (by first | assumption | omega | exact Or.inl (by decide) | exact Or.inr (by omega)), (by first | assumption | omega | exact Or.inl (by decide) | exact Or.inr (by omega)), (by assumption), (Or.inl ⟨rfl, zLL_cond (Or.inr hq49_k) (zMv_mk hTk hq54_3) hq61_k hq61_km hq70_k hq70_km hq80_k, rfl, (zLC_x (k := 16) (by omega) (Or.inr ⟨rfl, hq2_k, hq49_k⟩) (zMv_mk hTk hq54_3) hq61_k hq61_km (zLx_c hq70_k hq70_km hq80_kc) (by decide) rfl hq86_2 hq86_1 (by omega) (by omega))⟩)⟩) hP hD
            · skip
              refine lv_if_ne (tgt := 79) hx hb dX2_readLine_74 (by decide) (fun c87 => absurd (by decide) c87) (fun _ => ?_)
              refine lv_iconst (v := 0) hx hb dX2_readLine_77 (by decide) ?_
              have hP : va_P g.1 vwCl (List.flatten [bLT g lt ta lo, bTape g ta ab sz ln kd2_73 bg2_74 nx2_75 ft2_76 fb, bLaw g lo lc lz2_77 ll lm lg ld fc2_78]) H := hP
              have hD : va_D A (List.flatten [bLT g lt ta lo, bTape g ta ab sz ln kd2_73 bg2_74 nx2_75 ft2_76 fb, bLaw g lo lc lz2_77 ll lm lg ld fc2_78]) := hD
              exact mret_z hx hb hr hlocks hS (Nat.le_of_ble_eq_true rfl) (Nat.le_of_ble_eq_true rfl) dX2_readLine_78 (kd2_73, bg2_74, nx2_75, ft2_76, lz2_77, fc2_78, (0 : Int32)) rfl (by decide) (show (0 ≤ lz2_77.toInt ∧ lz2_77.toInt ≤ 400) ∧ (-1 ≤ ft2_76.toInt) ∧ (0 ≤ nx2_75.toInt ∧ nx2_75.toInt ≤ 400) ∧ (0 ≤ bg2_74.toInt ∧ bg2_74.toInt ≤ 400) ∧ (zKd kd2_73.toInt bg2_74.toInt nx2_75.toInt) ∧ (zTk fb ln.toInt kd2_73.toInt bg2_74.toInt nx2_75.toInt) ∧ (0 = 1 ∧ zLLine fb ln.toInt bg.toInt (.ok bg2_74.toInt) ∧ (-1) = ft2_76 ∧ zLC fb ln.toInt bg.toInt bg2_74.toInt fc fc2_78 lz.toInt lz2_77.toInt ∨ 0 = 0 ∧ zLLine fb ln.toInt bg.toInt (.bad ft2_76.toInt)) from ⟨(by first | assumption | omega | exact Or.inl (by decide) | exact Or.inr (by omega)), (by first | decide | omega), (by first | assumption | omega | exact Or.inl (by decide) | exact Or.inr (by omega)), (by first | assumption | omega | exact Or.inl (by decide) | exact Or.inr (by omega)), (by first | assumption | omega | exact Or.inl (by decide) | exact Or.inr (by omega)), (by assumption), (Or.inr ⟨rfl, zLL_cond (Or.inr hq49_k) (zMv_mk hTk hq54_3) hq61_k hq61_km hq70_k hq70_km hq80_k⟩)⟩) hP hD
          · skip
            refine lv_if_eq (tgt := 79) hx hb dX2_readLine_66 (by decide) (fun _ => ?_) (fun c88 => absurd (by decide) c88)
            refine lv_aload_n hx hb dX2_readLine_79 rfl (lv_at hl 2 rfl) ?_
            refine va_get (D := g.1) (ci := 2) (v := .ref lo) (C := RX2) (T := TX2) (N := 2) hx hb hts izRX2 hown hK hP 0 rfl rfl 1 (by decide) (hts _ k210) (fun _ h9 => h9) rfl dX2_readLine_80 ?_
            refine lv_iload_n hx hb dX2_readLine_83 rfl (lv_at hl 1 rfl) ?_
            refine lv_if_eq (tgt := 92) hx hb dX2_readLine_84 (by decide) (fun _ => ?_) (fun c89 => absurd (by decide) c89)
            refine lv_bipush (v := 16) hx hb dX2_readLine_92 (by decide) ?_
            refine lv_iload_n hx hb dX2_readLine_94 rfl (lv_at hl 0 rfl) ?_
            refine mcallV' (g := g) (q0 := 0) (ci := 1) (As := [.int 16, .int q_60]) (rest := []) St hK hT hA hP hD hS hl.1 [1] [0, 2] rfl rfl rfl (c_l_putC l g lo lc lz ll lm lg ld fc 16 q_60 b_lz (by first | assumption | omega | decide | exact Or.inl (by decide) | exact Or.inr (by decide))) (cwV 2 hts (zgL (zl4 k297 k298 k299 k85) k202) rfl rfl rfl (by decide +kernel) ⟨Nat.le_of_ble_eq_true rfl, Nat.le_of_ble_eq_true rfl⟩) rfl rfl rfl rfl (Nat.le_of_ble_eq_true rfl) dX2_readLine_95 ⟨(Nat.le_of_ble_eq_true rfl), (Nat.le_of_ble_eq_true rfl)⟩ (fun u_ H locs hq92 hP hD hS => ?_)
            obtain ⟨lz2_90, fc2_91⟩ := u_
            replace hq92 : (0 ≤ lz2_90.toInt ∧ lz2_90.toInt ≤ 400) ∧ (lz2_90.toInt = lz.toInt + 1) ∧ (fc2_91 = upd fc lz.toInt.toNat (16 + 32 * q_60)) := hq92
            have hP : va_P g.1 vwCl (List.flatten [bLT g lt ta lo, bTape g ta ab sz ln kd2_56 bg2_57 nx2_58 (-1) fb, bLaw g lo lc lz2_90 ll lm lg ld fc2_91]) H := hP
            have hD : va_D A (List.flatten [bLT g lt ta lo, bTape g ta ab sz ln kd2_56 bg2_57 nx2_58 (-1) fb, bLaw g lo lc lz2_90 ll lm lg ld fc2_91]) := hD
            refine W.widen (k := 0) (n := 0) (Nat.le_of_ble_eq_true rfl) (Nat.le_of_ble_eq_true rfl) ?_
            refine W.eq (g2 := F0 m 98 ls [.int lz]) rfl ?_
            obtain ⟨hq92_0, hq92_1, hq92_2⟩ := hq92
            refine lv_pop hx hb dX2_readLine_98 rfl ?_
            refine lv_iconst (v := 1) hx hb dX2_readLine_99 (by decide) ?_
            have hP : va_P g.1 vwCl (List.flatten [bLT g lt ta lo, bTape g ta ab sz ln kd2_56 bg2_57 nx2_58 (-1) fb, bLaw g lo lc lz2_90 ll lm lg ld fc2_91]) H := hP
            have hD : va_D A (List.flatten [bLT g lt ta lo, bTape g ta ab sz ln kd2_56 bg2_57 nx2_58 (-1) fb, bLaw g lo lc lz2_90 ll lm lg ld fc2_91]) := hD
            exact mret_z hx hb hr hlocks hS (Nat.le_of_ble_eq_true rfl) (Nat.le_of_ble_eq_true rfl) dX2_readLine_100 (kd2_56, bg2_57, nx2_58, -1, lz2_90, fc2_91, (1 : Int32)) rfl (by decide) (show (0 ≤ lz2_90.toInt ∧ lz2_90.toInt ≤ 400) ∧ (-1 ≤ ((-1) : Int32).toInt) ∧ (0 ≤ nx2_58.toInt ∧ nx2_58.toInt ≤ 400) ∧ (0 ≤ bg2_57.toInt ∧ bg2_57.toInt ≤ 400) ∧ (zKd kd2_56.toInt bg2_57.toInt nx2_58.toInt) ∧ (zTk fb ln.toInt kd2_56.toInt bg2_57.toInt nx2_58.toInt) ∧ (1 = 1 ∧ zLLine fb ln.toInt bg.toInt (.ok bg2_57.toInt) ∧ (-1) = (-1) ∧ zLC fb ln.toInt bg.toInt bg2_57.toInt fc fc2_91 lz.toInt lz2_90.toInt ∨ 1 = 0 ∧ zLLine fb ln.toInt bg.toInt (.bad ((-1) : Int32).toInt)) from ⟨(by first | assumption | omega | exact Or.inl (by decide) | exact Or.inr (by omega)), (by decide), (by first | assumption | omega | exact Or.inl (by decide) | exact Or.inr (by omega)), (by first | assumption | omega | exact Or.inl (by decide) | exact Or.inr (by omega)), (by first | assumption | omega | exact Or.inl (by decide) | exact Or.inr (by omega)), (by assumption), (Or.inl ⟨rfl, zLL_plain (Or.inr hq49_k) (zMv_mk hTk hq54_3) hq61_k hq61_km hq70_k, rfl, (zLC_x (k := 16) (by omega) (Or.inr ⟨rfl, hq2_k, hq49_k⟩) (zMv_mk hTk hq54_3) hq61_k hq61_km (zLx_p hq70_k) (by decide) rfl hq92_2 hq92_1 (by omega) (by omega))⟩)⟩) hP hD
      · skip
        refine lv_istore_n (lv' := [(2, .int (-1)), (1, .int 0), (0, .ref lt)]) hx hb dX2_readLine_51 rfl hl (by decide) rfl (fun ls hl => ?_)
        refine lv_iload_n hx hb dX2_readLine_52 rfl (lv_at hl 0 rfl) ?_
        refine lv_iconst (v := (-1)) hx hb dX2_readLine_53 (by decide) ?_
        refine lv_icmp_eq (tgt := 77) hx hb dX2_readLine_54 (by decide) (fun _ => ?_) (fun c93 => absurd (by decide) c93)
        refine lv_iconst (v := 0) hx hb dX2_readLine_77 (by decide) ?_
        have hP : va_P g.1 vwCl (List.flatten [bLT g lt ta lo, bLaw g lo lc lz ll lm lg ld fc, bTape g ta ab sz ln kd2_51 bg2_52 nx2_53 bg2_52 fb]) H := hP
        have hD : va_D A (List.flatten [bLT g lt ta lo, bLaw g lo lc lz ll lm lg ld fc, bTape g ta ab sz ln kd2_51 bg2_52 nx2_53 bg2_52 fb]) := hD
        obtain ⟨hP, hD⟩ := zord (g := g) (Bs' := [bLT g lt ta lo, bTape g ta ab sz ln kd2_51 bg2_52 nx2_53 bg2_52 fb, bLaw g lo lc lz ll lm lg ld fc]) [0, 2, 1] rfl rfl hP hD
        exact mret_z hx hb hr hlocks hS (Nat.le_of_ble_eq_true rfl) (Nat.le_of_ble_eq_true rfl) dX2_readLine_78 (kd2_51, bg2_52, nx2_53, bg2_52, lz, fc, (0 : Int32)) rfl (by decide) (show (0 ≤ lz.toInt ∧ lz.toInt ≤ 400) ∧ (-1 ≤ bg2_52.toInt) ∧ (0 ≤ nx2_53.toInt ∧ nx2_53.toInt ≤ 400) ∧ (0 ≤ bg2_52.toInt ∧ bg2_52.toInt ≤ 400) ∧ (zKd kd2_51.toInt bg2_52.toInt nx2_53.toInt) ∧ (zTk fb ln.toInt kd2_51.toInt bg2_52.toInt nx2_53.toInt) ∧ (0 = 1 ∧ zLLine fb ln.toInt bg.toInt (.ok bg2_52.toInt) ∧ (-1) = bg2_52 ∧ zLC fb ln.toInt bg.toInt bg2_52.toInt fc fc lz.toInt lz.toInt ∨ 0 = 0 ∧ zLLine fb ln.toInt bg.toInt (.bad bg2_52.toInt)) from ⟨(by first | assumption | omega | exact Or.inl (by decide) | exact Or.inr (by omega)), (by first | decide | omega), (by first | assumption | omega | exact Or.inl (by decide) | exact Or.inr (by omega)), (by first | assumption | omega | exact Or.inl (by decide) | exact Or.inr (by omega)), (by first | assumption | omega | exact Or.inl (by decide) | exact Or.inr (by omega)), (by assumption), (Or.inr ⟨rfl, zLL_bad2 (Or.inr hq49_k) (zMv_mk hTk hq54_3) hq61_k⟩)⟩) hP hD
    · skip
      refine lv_if_ne (tgt := 34) hx hb dX2_readLine_23 (by decide) (fun c94 => absurd (by decide) c94) (fun _ => ?_)
      refine lv_aload_n hx hb dX2_readLine_26 rfl (lv_at hl 1 rfl) ?_
      refine va_get (D := g.1) (ci := 2) (v := .ref ta) (C := RX2) (T := TX2) (N := 2) hx hb hts izRX2 hown hK hP 0 rfl rfl 0 (by decide) (hts _ k290) (fun x9 h9 => u_same (hts _ k291) x9 h9) rfl dX2_readLine_27 ?_
      refine mcallV' (g := g) (q0 := 0) (ci := 6) (As := []) (rest := []) St hK hT hA hP hD hS hl.1 [2] [0, 1] rfl rfl rfl (c_t_refuseF l g ta ab sz ln kd bg nx fb ) (cwV 0 hts (zgL (zl4 k303 k279 k280 k277) k269) rfl rfl rfl (by decide +kernel) ⟨Nat.le_of_ble_eq_true rfl, Nat.le_of_ble_eq_true rfl⟩) rfl rfl rfl rfl (Nat.le_of_ble_eq_true rfl) dX2_readLine_30 ⟨(Nat.le_of_ble_eq_true rfl), (Nat.le_of_ble_eq_true rfl)⟩ (fun _u H locs hq95 hP hD hS => ?_)
      have hP : va_P g.1 vwCl (List.flatten [bLT g lt ta lo, bLaw g lo lc lz ll lm lg ld fc, bTape g ta ab sz ln kd bg nx bg fb]) H := hP
      have hD : va_D A (List.flatten [bLT g lt ta lo, bLaw g lo lc lz ll lm lg ld fc, bTape g ta ab sz ln kd bg nx bg fb]) := hD
      refine W.widen (k := 0) (n := 0) (Nat.le_of_ble_eq_true rfl) (Nat.le_of_ble_eq_true rfl) ?_
      refine W.eq (g2 := F0 m 33 ls [.int 0]) rfl ?_
      have hP : va_P g.1 vwCl (List.flatten [bLT g lt ta lo, bLaw g lo lc lz ll lm lg ld fc, bTape g ta ab sz ln kd bg nx bg fb]) H := hP
      have hD : va_D A (List.flatten [bLT g lt ta lo, bLaw g lo lc lz ll lm lg ld fc, bTape g ta ab sz ln kd bg nx bg fb]) := hD
      obtain ⟨hP, hD⟩ := zord (g := g) (Bs' := [bLT g lt ta lo, bTape g ta ab sz ln kd bg nx bg fb, bLaw g lo lc lz ll lm lg ld fc]) [0, 2, 1] rfl rfl hP hD
      exact mret_z hx hb hr hlocks hS (Nat.le_of_ble_eq_true rfl) (Nat.le_of_ble_eq_true rfl) dX2_readLine_33 (kd, bg, nx, bg, lz, fc, (0 : Int32)) rfl (by decide) (show (0 ≤ lz.toInt ∧ lz.toInt ≤ 400) ∧ (-1 ≤ bg.toInt) ∧ (0 ≤ nx.toInt ∧ nx.toInt ≤ 400) ∧ (0 ≤ bg.toInt ∧ bg.toInt ≤ 400) ∧ (zKd kd.toInt bg.toInt nx.toInt) ∧ (zTk fb ln.toInt kd.toInt bg.toInt nx.toInt) ∧ (0 = 1 ∧ zLLine fb ln.toInt bg.toInt (.ok bg.toInt) ∧ (-1) = bg ∧ zLC fb ln.toInt bg.toInt bg.toInt fc fc lz.toInt lz.toInt ∨ 0 = 0 ∧ zLLine fb ln.toInt bg.toInt (.bad bg.toInt)) from ⟨(by first | assumption | omega | exact Or.inl (by decide) | exact Or.inr (by omega)), (by first | decide | omega), (by first | assumption | omega | exact Or.inl (by decide) | exact Or.inr (by omega)), (by first | assumption | omega | exact Or.inl (by decide) | exact Or.inr (by omega)), (by first | assumption | omega | exact Or.inl (by decide) | exact Or.inr (by omega)), (by assumption), (Or.inr ⟨rfl, .bad1 (zor_n hq2_k hq49_k)⟩)⟩) hP hD
set_option maxRecDepth 100000 in
set_option maxHeartbeats 4000000 in
theorem c_lt_readLinesC (l : Launch) (g : zG) (lt : Nat) (ta : Nat) (lo : Nat) (ab : Nat) (sz : Int32) (ln : Int32) (kd : Int32) (bg : Int32) (nx : Int32) (fb : Nat → Int32) (lc : Nat) (lz : Int32) (ll : Int32) (lm : Int32) (lg : Int32) (ld : Int32) (fc : Nat → Int32) (mo : Int32) (b_lz : 0 ≤ lz.toInt ∧ lz.toInt ≤ 400) (b_mo : 0 ≤ mo.toInt ∧ mo.toInt ≤ 20) (hln : 0 ≤ ln.toInt ∧ ln.toInt ≤ 400) (hnx : 0 ≤ nx.toInt ∧ nx.toInt ≤ 400) (hbg : 0 ≤ bg.toInt ∧ bg.toInt ≤ 400) (hkd : zKd kd.toInt bg.toInt nx.toInt) (hTk : zTk fb ln.toInt kd.toInt bg.toInt nx.toInt) (hlb : lz.toInt = 0) : zM' g l yX7_readLines (Cond.code yX7_readLines cX7_readLines 3 (some .int) :: zB) ({ frames := 27, cells := 0, slots := 0, locals := 600 } : Room) [.ref lt, .int mo] [bLT g lt ta lo, bTape g ta ab sz ln kd bg nx (-1) fb, bLaw g lo lc lz ll lm lg ld fc] (fun u : Int32 × Int32 × Int32 × Int32 × Int32 × (Nat → Int32) × Int32 => (fun (kd2 : Int32) (bg2 : Int32) (nx2 : Int32) (ft2 : Int32) (lz2 : Int32) (fc2 : Nat → Int32) (q : Int32) => some (.int q)) (u.1) (u.2.1) (u.2.2.1) (u.2.2.2.1) (u.2.2.2.2.1) (u.2.2.2.2.2.1) (u.2.2.2.2.2.2)) (fun u : Int32 × Int32 × Int32 × Int32 × Int32 × (Nat → Int32) × Int32 => (fun (kd2 : Int32) (bg2 : Int32) (nx2 : Int32) (ft2 : Int32) (lz2 : Int32) (fc2 : Nat → Int32) (q : Int32) => (0 ≤ lz2.toInt ∧ lz2.toInt ≤ 400) ∧ (-1 ≤ ft2.toInt) ∧ (0 ≤ nx2.toInt ∧ nx2.toInt ≤ 400) ∧ (0 ≤ bg2.toInt ∧ bg2.toInt ≤ 400) ∧ (zKd kd2.toInt bg2.toInt nx2.toInt) ∧ (zTk fb ln.toInt kd2.toInt bg2.toInt nx2.toInt) ∧ (q = 0 ∧ ln.toInt ≤ bg.toInt ∧ (-1) = ft2 ∧ lz2.toInt = 0 ∨ (1 ≤ q.toInt ∧ q.toInt ≤ mo.toInt) ∧ ¬ ln.toInt ≤ bg.toInt ∧ zLines fb ln.toInt (zLLine fb ln.toInt) mo.toInt.toNat bg.toInt (.ok (mo.toInt - q.toInt)) ∧ (-1) = ft2 ∧ zLaC fb ln.toInt mo.toInt.toNat bg.toInt fc2 lz2.toInt ∨ q = -1 ∧ ¬ ln.toInt ≤ bg.toInt ∧ zLines fb ln.toInt (zLLine fb ln.toInt) mo.toInt.toNat bg.toInt (.bad ft2.toInt))) (u.1) (u.2.1) (u.2.2.1) (u.2.2.2.1) (u.2.2.2.2.1) (u.2.2.2.2.2.1) (u.2.2.2.2.2.2)) (fun u : Int32 × Int32 × Int32 × Int32 × Int32 × (Nat → Int32) × Int32 => (fun (kd2 : Int32) (bg2 : Int32) (nx2 : Int32) (ft2 : Int32) (lz2 : Int32) (fc2 : Nat → Int32) (q : Int32) => [bLT g lt ta lo, bTape g ta ab sz ln kd2 bg2 nx2 ft2 fb, bLaw g lo lc lz2 ll lm lg ld fc2]) (u.1) (u.2.1) (u.2.2.1) (u.2.2.2.1) (u.2.2.2.2.1) (u.2.2.2.2.2.1) (u.2.2.2.2.2.2)) := by
  refine zM'.of (cc := cX7_readLines) (maxL := 3) (rt := (some .int)) (by decide) rfl (Nat.le_of_ble_eq_true rfl) ?_
  intro p e s m args below meth c A ls St hr hlocks hin hK hT hA hP hD hS hl
  obtain ⟨hx, hb, hml, hown, hts⟩ := id St
  have hl : lv_has ls 3 [(0, .ref lt), (1, .int mo)] := hl
  refine lv_aload_n hx hb dX7_readLines_0 rfl (lv_at hl 0 rfl) ?_
  refine va_get (D := g.1) (ci := 2) (v := .ref ta) (C := RX2) (T := TX2) (N := 2) hx hb hts izRX2 hown hK hP 0 rfl rfl 0 (by decide) (hts _ k206) (fun _ h9 => h9) rfl dX7_readLines_1 ?_
  refine va_get (D := g.1) (ci := 6) (v := .int kd) (C := RX6) (T := TX6) (N := 7) hx hb hts izRX6 hown hK hP 1 rfl rfl 3 (by decide) (hts _ k487) (fun _ h9 => h9) rfl dX7_readLines_4 ?_
  refine lv_if_ne (tgt := 12) hx hb dX7_readLines_7 (by decide) (fun cb9 => ?_) (fun cb9 => ?_)
  · skip
    have c1 : ¬ kd.toInt = 0 := zne cb9 rfl (by decide)
    refine lv_iconst (v := 1) hx hb dX7_readLines_12 (by decide) ?_
    refine lv_istore_n (lv' := [(2, .int 1), (0, .ref lt), (1, .int mo)]) hx hb dX7_readLines_13 rfl hl (by decide) rfl (fun ls hl => ?_)
    have hl := lv_sub (l' := [(0, .ref lt), (1, .int mo), (2, .int 1)]) hl [1, 2, 0] rfl
    have LP14_16 : ∀ (kf : Nat) (x_2 : Int32) (x_3 : Int32) (x_4 : Int32) (x_5 : Int32) (x_6 : Int32) (fc_7 : Nat → Int32), (1 ≤ x_2.toInt ∧ x_2.toInt ≤ 21) → (0 ≤ x_4.toInt ∧ x_4.toInt ≤ 400) → (0 ≤ x_5.toInt ∧ x_5.toInt ≤ 400) → (0 ≤ x_6.toInt ∧ x_6.toInt ≤ 400) → (zKd x_3.toInt x_4.toInt x_5.toInt) → (zTk fb ln.toInt x_3.toInt x_4.toInt x_5.toInt) → (∀ r9, zLines fb ln.toInt (zLLine fb ln.toInt) (mo.toInt - x_2.toInt + 1).toNat x_4.toInt r9 → zLines fb ln.toInt (zLLine fb ln.toInt) mo.toInt.toNat bg.toInt r9) → (zLJ fb ln.toInt mo.toInt.toNat (mo.toInt - x_2.toInt + 1).toNat bg.toInt x_4.toInt fc_7 x_6.toInt) → ∀ (H : Heap) (locs : List Loc) (ls : Array Slot), ((22 - x_2.toInt).toNat) < kf → va_P g.1 vwCl (List.flatten [bLT g lt ta lo, bTape g ta ab sz ln x_3 x_4 x_5 (-1) fb, bLaw g lo lc x_6 ll lm lg ld fc_7]) H → va_D A (List.flatten [bLT g lt ta lo, bTape g ta ab sz ln x_3 x_4 x_5 (-1) fb, bLaw g lo lc x_6 ll lm lg ld fc_7]) → va_S A s.heap H locs → lv_has ls 3 [(0, .ref lt), (1, .int mo), (2, .int x_2)] → W p l e ({ frames := 27, cells := 0, slots := 0, locals := 600 } : Room) s m args below meth c H locs (0) (0) (zF g (fun u : Int32 × Int32 × Int32 × Int32 × Int32 × (Nat → Int32) × Int32 => (fun (kd2 : Int32) (bg2 : Int32) (nx2 : Int32) (ft2 : Int32) (lz2 : Int32) (fc2 : Nat → Int32) (q : Int32) => some (.int q)) (u.1) (u.2.1) (u.2.2.1) (u.2.2.2.1) (u.2.2.2.2.1) (u.2.2.2.2.2.1) (u.2.2.2.2.2.2)) (fun u : Int32 × Int32 × Int32 × Int32 × Int32 × (Nat → Int32) × Int32 => (fun (kd2 : Int32) (bg2 : Int32) (nx2 : Int32) (ft2 : Int32) (lz2 : Int32) (fc2 : Nat → Int32) (q : Int32) => (0 ≤ lz2.toInt ∧ lz2.toInt ≤ 400) ∧ (-1 ≤ ft2.toInt) ∧ (0 ≤ nx2.toInt ∧ nx2.toInt ≤ 400) ∧ (0 ≤ bg2.toInt ∧ bg2.toInt ≤ 400) ∧ (zKd kd2.toInt bg2.toInt nx2.toInt) ∧ (zTk fb ln.toInt kd2.toInt bg2.toInt nx2.toInt) ∧ (q = 0 ∧ ln.toInt ≤ bg.toInt ∧ (-1) = ft2 ∧ lz2.toInt = 0 ∨ (1 ≤ q.toInt ∧ q.toInt ≤ mo.toInt) ∧ ¬ ln.toInt ≤ bg.toInt ∧ zLines fb ln.toInt (zLLine fb ln.toInt) mo.toInt.toNat bg.toInt (.ok (mo.toInt - q.toInt)) ∧ (-1) = ft2 ∧ zLaC fb ln.toInt mo.toInt.toNat bg.toInt fc2 lz2.toInt ∨ q = -1 ∧ ¬ ln.toInt ≤ bg.toInt ∧ zLines fb ln.toInt (zLLine fb ln.toInt) mo.toInt.toNat bg.toInt (.bad ft2.toInt))) (u.1) (u.2.1) (u.2.2.1) (u.2.2.2.1) (u.2.2.2.2.1) (u.2.2.2.2.2.1) (u.2.2.2.2.2.2)) (fun u : Int32 × Int32 × Int32 × Int32 × Int32 × (Nat → Int32) × Int32 => (fun (kd2 : Int32) (bg2 : Int32) (nx2 : Int32) (ft2 : Int32) (lz2 : Int32) (fc2 : Nat → Int32) (q : Int32) => [bLT g lt ta lo, bTape g ta ab sz ln kd2 bg2 nx2 ft2 fb, bLaw g lo lc lz2 ll lm lg ld fc2]) (u.1) (u.2.1) (u.2.2.1) (u.2.2.2.1) (u.2.2.2.2.1) (u.2.2.2.2.2.1) (u.2.2.2.2.2.2)) ({ frames := 27, cells := 0, slots := 0, locals := 600 } : Room) below args s A) (F0 m 14 ls []) := by
      intro kf
      induction kf with
      | zero => intro x_2 x_3 x_4 x_5 x_6 fc_7 i8 i9 i10 i11 i12 i13 i14 i15 H locs ls hk; exact absurd hk (Nat.not_lt_zero _)
      | succ kf ih14_17 =>
        intro x_2 x_3 x_4 x_5 x_6 fc_7 i8 i9 i10 i11 i12 i13 i14 i15 H locs ls hk14_17 hP hD hS hl
        refine lv_iload_n hx hb dX7_readLines_14 rfl (lv_at hl 2 rfl) ?_
        refine lv_iload_n hx hb dX7_readLines_15 rfl (lv_at hl 1 rfl) ?_
        refine lv_icmp_gt (tgt := 60) hx hb dX7_readLines_16 (by decide) (fun cb9 => ?_) (fun cb9 => ?_)
        · skip
          have c18 : mo.toInt < x_2.toInt := zlti cb9 rfl rfl
          refine lv_aload_n hx hb dX7_readLines_60 rfl (lv_at hl 0 rfl) ?_
          refine va_get (D := g.1) (ci := 2) (v := .ref ta) (C := RX2) (T := TX2) (N := 2) hx hb hts izRX2 hown hK hP 0 rfl rfl 0 (by decide) (hts _ k206) (fun _ h9 => h9) rfl dX7_readLines_61 ?_
          refine mcallV' (g := g) (q0 := 0) (ci := 6) (As := []) (rest := []) St hK hT hA hP hD hS hl.1 [1] [0, 2] rfl rfl rfl (c_t_refuseF l g ta ab sz ln x_3 x_4 x_5 fb ) (cwV 0 hts (zgL (zl4 k497 k279 k280 k277) k269) rfl rfl rfl (by decide +kernel) ⟨Nat.le_of_ble_eq_true rfl, Nat.le_of_ble_eq_true rfl⟩) rfl rfl rfl rfl (Nat.le_of_ble_eq_true rfl) dX7_readLines_64 ⟨(Nat.le_of_ble_eq_true rfl), (Nat.le_of_ble_eq_true rfl)⟩ (fun _u H locs hq19 hP hD hS => ?_)
          have hP : va_P g.1 vwCl (List.flatten [bLT g lt ta lo, bLaw g lo lc x_6 ll lm lg ld fc_7, bTape g ta ab sz ln x_3 x_4 x_5 x_4 fb]) H := hP
          have hD : va_D A (List.flatten [bLT g lt ta lo, bLaw g lo lc x_6 ll lm lg ld fc_7, bTape g ta ab sz ln x_3 x_4 x_5 x_4 fb]) := hD
          refine W.widen (k := 0) (n := 0) (Nat.le_of_ble_eq_true rfl) (Nat.le_of_ble_eq_true rfl) ?_
          refine W.eq (g2 := F0 m 67 ls [.int 0]) rfl ?_
          refine lv_pop hx hb dX7_readLines_67 rfl ?_
          refine lv_iconst (v := (-1)) hx hb dX7_readLines_68 (by decide) ?_
          have hLn1 : ((-1) : Int32).toInt = (-1) := by decide
          have hP : va_P g.1 vwCl (List.flatten [bLT g lt ta lo, bLaw g lo lc x_6 ll lm lg ld fc_7, bTape g ta ab sz ln x_3 x_4 x_5 x_4 fb]) H := hP
          have hD : va_D A (List.flatten [bLT g lt ta lo, bLaw g lo lc x_6 ll lm lg ld fc_7, bTape g ta ab sz ln x_3 x_4 x_5 x_4 fb]) := hD
          obtain ⟨hP, hD⟩ := zord (g := g) (Bs' := [bLT g lt ta lo, bTape g ta ab sz ln x_3 x_4 x_5 x_4 fb, bLaw g lo lc x_6 ll lm lg ld fc_7]) [0, 2, 1] rfl rfl hP hD
          exact mret_i hx hb hr hlocks hS (Nat.le_of_ble_eq_true rfl) (Nat.le_of_ble_eq_true rfl) dX7_readLines_69 (x_3, x_4, x_5, x_4, x_6, fc_7, -1) rfl (show (0 ≤ x_6.toInt ∧ x_6.toInt ≤ 400) ∧ (-1 ≤ x_4.toInt) ∧ (0 ≤ x_5.toInt ∧ x_5.toInt ≤ 400) ∧ (0 ≤ x_4.toInt ∧ x_4.toInt ≤ 400) ∧ (zKd x_3.toInt x_4.toInt x_5.toInt) ∧ (zTk fb ln.toInt x_3.toInt x_4.toInt x_5.toInt) ∧ ((-1) = 0 ∧ ln.toInt ≤ bg.toInt ∧ (-1) = x_4 ∧ x_6.toInt = 0 ∨ (1 ≤ ((-1) : Int32).toInt ∧ ((-1) : Int32).toInt ≤ mo.toInt) ∧ ¬ ln.toInt ≤ bg.toInt ∧ zLines fb ln.toInt (zLLine fb ln.toInt) mo.toInt.toNat bg.toInt (.ok (mo.toInt - ((-1) : Int32).toInt)) ∧ (-1) = x_4 ∧ zLaC fb ln.toInt mo.toInt.toNat bg.toInt fc_7 x_6.toInt ∨ (-1) = -1 ∧ ¬ ln.toInt ≤ bg.toInt ∧ zLines fb ln.toInt (zLLine fb ln.toInt) mo.toInt.toNat bg.toInt (.bad x_4.toInt)) from ⟨(by first | assumption | omega | exact Or.inl (by decide) | exact Or.inr (by omega)), (by first | decide | omega), (by first | assumption | omega | exact Or.inl (by decide) | exact Or.inr (by omega)), (by first | assumption | omega | exact Or.inl (by decide) | exact Or.inr (by omega)), (by first | assumption | omega | exact Or.inl (by decide) | exact Or.inr (by omega)), (by assumption), (Or.inr (Or.inr ⟨rfl, (zTk_1 hTk (by omega)), i14 _ (zLi_none (by omega))⟩))⟩) hP hD
        · skip
          have c20 : x_2.toInt ≤ mo.toInt := zle (Int32.not_lt.mp cb9) rfl rfl
          have n21 : x_2.toInt ≤ 20 := Int.le_trans c20 b_mo.2
          have n22 : 1 ≤ mo.toInt := Int.le_trans i8.1 c20
          have w23 := i15.1
          refine lv_aload_n hx hb dX7_readLines_19 rfl (lv_at hl 0 rfl) ?_
          refine mcallU' (g := g) (q0 := 0) (ci := 2) (As := []) (rest := []) St hK hT hA hP hD hS hl.1 [0, 1, 2] [] rfl rfl rfl (c_lt_readLineC l g lt ta lo ab sz ln x_3 x_4 x_5 fb lc x_6 ll lm lg ld fc_7 i11 hln i10 i9 i12 i13 (by first | assumption | omega | decide | exact Or.inl (by decide) | exact Or.inr (by decide))) (va_cwA (owner := "DryRiver$Text") (x := ⟨"DryRiver$Text", "readLine", "()Z"⟩) 0 hts (zgL (zl5 k488 k489 k490 k491 k309) k328) rfl rfl rfl hT.2.2 (by decide +kernel) ⟨Nat.le_of_ble_eq_true rfl, Nat.le_of_ble_eq_true rfl⟩) rfl rfl rfl rfl (Nat.le_of_ble_eq_true rfl) dX7_readLines_20 ⟨(Nat.le_of_ble_eq_true rfl), (Nat.le_of_ble_eq_true rfl)⟩ (fun u_ H locs hq31 hP hD hS => ?_)
          obtain ⟨kd2_24, bg2_25, nx2_26, ft2_27, lz2_28, fc2_29, q_30⟩ := u_
          replace hq31 : (0 ≤ lz2_28.toInt ∧ lz2_28.toInt ≤ 400) ∧ (-1 ≤ ft2_27.toInt) ∧ (0 ≤ nx2_26.toInt ∧ nx2_26.toInt ≤ 400) ∧ (0 ≤ bg2_25.toInt ∧ bg2_25.toInt ≤ 400) ∧ (zKd kd2_24.toInt bg2_25.toInt nx2_26.toInt) ∧ (zTk fb ln.toInt kd2_24.toInt bg2_25.toInt nx2_26.toInt) ∧ (q_30 = 1 ∧ zLLine fb ln.toInt x_4.toInt (.ok bg2_25.toInt) ∧ (-1) = ft2_27 ∧ zLC fb ln.toInt x_4.toInt bg2_25.toInt fc_7 fc2_29 x_6.toInt lz2_28.toInt ∨ q_30 = 0 ∧ zLLine fb ln.toInt x_4.toInt (.bad ft2_27.toInt)) := hq31
          have hP : va_P g.1 vwCl (List.flatten [bLT g lt ta lo, bTape g ta ab sz ln kd2_24 bg2_25 nx2_26 ft2_27 fb, bLaw g lo lc lz2_28 ll lm lg ld fc2_29]) H := hP
          have hD : va_D A (List.flatten [bLT g lt ta lo, bTape g ta ab sz ln kd2_24 bg2_25 nx2_26 ft2_27 fb, bLaw g lo lc lz2_28 ll lm lg ld fc2_29]) := hD
          refine W.widen (k := 0) (n := 0) (Nat.le_of_ble_eq_true rfl) (Nat.le_of_ble_eq_true rfl) ?_
          refine W.eq (g2 := F0 m 23 ls [.int q_30]) rfl ?_
          obtain ⟨hq31_0, hq31_1, hq31_2, hq31_3, hq31_4, hq31_5, hq31_6⟩ := hq31
          rcases hq31_6 with ⟨rfl, hq31_k, rfl, hq31_kc⟩ | ⟨rfl, hq31_k⟩
          · skip
            have w32 := hq31_kc.1
            refine lv_if_ne (tgt := 28) hx hb dX7_readLines_23 (by decide) (fun _ => ?_) (fun c33 => absurd c33 (by decide))
            refine lv_aload_n hx hb dX7_readLines_28 rfl (lv_at hl 0 rfl) ?_
            refine va_get (D := g.1) (ci := 2) (v := .ref ta) (C := RX2) (T := TX2) (N := 2) hx hb hts izRX2 hown hK hP 0 rfl rfl 0 (by decide) (hts _ k206) (fun _ h9 => h9) rfl dX7_readLines_29 ?_
            refine va_get (D := g.1) (ci := 6) (v := .int kd2_24) (C := RX6) (T := TX6) (N := 7) hx hb hts izRX6 hown hK hP 1 rfl rfl 3 (by decide) (hts _ k487) (fun _ h9 => h9) rfl dX7_readLines_32 ?_
            refine lv_if_ne (tgt := 40) hx hb dX7_readLines_35 (by decide) (fun cb9 => ?_) (fun cb9 => ?_)
            · skip
              have c34 : ¬ kd2_24.toInt = 0 := zne cb9 rfl (by decide)
              refine lv_aload_n hx hb dX7_readLines_40 rfl (lv_at hl 0 rfl) ?_
              refine va_get (D := g.1) (ci := 2) (v := .ref ta) (C := RX2) (T := TX2) (N := 2) hx hb hts izRX2 hown hK hP 0 rfl rfl 0 (by decide) (hts _ k206) (fun _ h9 => h9) rfl dX7_readLines_41 ?_
              refine lv_bipush (v := 59) hx hb dX7_readLines_44 (by decide) ?_
              have hL59 : (59 : Int32).toInt = 59 := by decide
              refine mcallV' (g := g) (q0 := 0) (ci := 6) (As := [.int 59]) (rest := []) St hK hT hA hP hD hS hl.1 [1] [0, 2] rfl rfl rfl (c_t_needSignF l g ta ab sz ln kd2_24 bg2_25 nx2_26 fb 59 hln hq31_2 hq31_3 hq31_4 hq31_5) (cwV 1 hts (zgL (zl4 k494 k495 k496 k277) k432) rfl rfl rfl (by decide +kernel) ⟨Nat.le_of_ble_eq_true rfl, Nat.le_of_ble_eq_true rfl⟩) rfl rfl rfl rfl (Nat.le_of_ble_eq_true rfl) dX7_readLines_46 ⟨(Nat.le_of_ble_eq_true rfl), (Nat.le_of_ble_eq_true rfl)⟩ (fun u_ H locs hq40 hP hD hS => ?_)
              obtain ⟨kd2_35, bg2_36, nx2_37, ft2_38, q_39⟩ := u_
              replace hq40 : (-1 ≤ ft2_38.toInt) ∧ (0 ≤ nx2_37.toInt ∧ nx2_37.toInt ≤ 400) ∧ (0 ≤ bg2_36.toInt ∧ bg2_36.toInt ≤ 400) ∧ (zKd kd2_35.toInt bg2_36.toInt nx2_37.toInt) ∧ (zTk fb ln.toInt kd2_35.toInt bg2_36.toInt nx2_37.toInt) ∧ (q_39 = 1 ∧ zisS fb ln.toInt bg2_25.toInt (59 : Int32).toInt ∧ zMv fb ln.toInt bg2_25.toInt bg2_36.toInt ∧ (-1) = ft2_38 ∨ q_39 = 0 ∧ ¬ zisS fb ln.toInt bg2_25.toInt (59 : Int32).toInt ∧ bg2_25 = ft2_38 ∧ kd2_24 = kd2_35 ∧ bg2_25 = bg2_36 ∧ nx2_26 = nx2_37) := hq40
              have hP : va_P g.1 vwCl (List.flatten [bLT g lt ta lo, bLaw g lo lc lz2_28 ll lm lg ld fc2_29, bTape g ta ab sz ln kd2_35 bg2_36 nx2_37 ft2_38 fb]) H := hP
              have hD : va_D A (List.flatten [bLT g lt ta lo, bLaw g lo lc lz2_28 ll lm lg ld fc2_29, bTape g ta ab sz ln kd2_35 bg2_36 nx2_37 ft2_38 fb]) := hD
              refine W.widen (k := 0) (n := 0) (Nat.le_of_ble_eq_true rfl) (Nat.le_of_ble_eq_true rfl) ?_
              refine W.eq (g2 := F0 m 49 ls [.int q_39]) rfl ?_
              obtain ⟨hq40_0, hq40_1, hq40_2, hq40_3, hq40_4, hq40_5⟩ := hq40
              rcases hq40_5 with ⟨rfl, hq40_k, hq40_km, rfl⟩ | ⟨rfl, hq40_k, rfl, rfl, rfl, rfl⟩
              · skip
                refine lv_if_ne (tgt := 54) hx hb dX7_readLines_49 (by decide) (fun _ => ?_) (fun c41 => absurd c41 (by decide))
                have w42 : ∀ r9, zLines fb ln.toInt (zLLine fb ln.toInt) (mo.toInt - (x_2.toInt + 1) + 1).toNat bg2_36.toInt r9 → zLines fb ln.toInt (zLLine fb ln.toInt) mo.toInt.toNat bg.toInt r9 := fun r9 h9 => i14 r9 (zLi_more (by omega) hq31_k (zTk_1 (by assumption) (by omega)) hq40_k hq40_km h9)
                have w43 := zMv_lt (f := fb) (n := ln.toInt) (by omega) (zisS_z hq40_k) hq40_km
                have w44 : zLJ fb ln.toInt mo.toInt.toNat (mo.toInt - (x_2.toInt + 1) + 1).toNat bg.toInt bg2_36.toInt fc2_29 lz2_28.toInt := zLJ_s i15 (by omega) hq31_kc (zTk_1 (by assumption) (by omega)) hq40_k (by decide) hq40_km (by omega)
                refine ziinc3 (n' := 1) (a' := 2) (b' := 21) (lv' := fun v9 => [(2, .int v9), (0, .ref lt), (1, .int mo)]) hx hb dX7_readLines_54 hl (k := 2) rfl (by decide) (fun _ => rfl) (zaddK (i := x_2.toInt) (j := 1) rfl (by decide) i8.1 n21 (Int.le_refl _) (Int.le_refl _) (by decide)) (fun x_45 ls hx_45 hl => ?_)
                refine lv_goto (tgt := 14) hx hb dX7_readLines_57 (by decide) ?_
                have hl := lv_sub (l' := [(0, .ref lt), (1, .int mo), (2, .int x_45)]) hl [1, 2, 0] rfl
                have hP : va_P g.1 vwCl (List.flatten [bLT g lt ta lo, bLaw g lo lc lz2_28 ll lm lg ld fc2_29, bTape g ta ab sz ln kd2_35 bg2_36 nx2_37 (-1) fb]) H := hP
                have hD : va_D A (List.flatten [bLT g lt ta lo, bLaw g lo lc lz2_28 ll lm lg ld fc2_29, bTape g ta ab sz ln kd2_35 bg2_36 nx2_37 (-1) fb]) := hD
                obtain ⟨hP, hD⟩ := zord (g := g) (Bs' := [bLT g lt ta lo, bTape g ta ab sz ln kd2_35 bg2_36 nx2_37 (-1) fb, bLaw g lo lc lz2_28 ll lm lg ld fc2_29]) [0, 2, 1] rfl rfl hP hD
                have hP : va_P g.1 vwCl (List.flatten [bLT g lt ta lo, bTape g ta ab sz ln kd2_35 bg2_36 nx2_37 (-1) fb, bLaw g lo lc lz2_28 ll lm lg ld fc2_29]) H := hP
                have hD : va_D A (List.flatten [bLT g lt ta lo, bTape g ta ab sz ln kd2_35 bg2_36 nx2_37 (-1) fb, bLaw g lo lc lz2_28 ll lm lg ld fc2_29]) := hD
                exact ih14_17 x_45 kd2_35 bg2_36 nx2_37 lz2_28 fc2_29 ⟨(Int.le_trans (by decide) hx_45.2.1), hx_45.2.2⟩ ⟨hq40_2.1, hq40_2.2⟩ ⟨hq40_1.1, hq40_1.2⟩ ⟨hq31_0.1, hq31_0.2⟩ hq40_3 hq40_4 (fun r9 h9 => w42 r9 (zLi_at (b0 := 0) (by omega) r9 h9)) (zLJ_e w44 (by omega)) H _ ls (zmK hx_45.1 (by decide) n21 (by decide) hk14_17)  hP hD hS (lv_sub hl [0, 1, 2] rfl)
              · skip
                refine lv_if_ne (tgt := 54) hx hb dX7_readLines_49 (by decide) (fun c46 => absurd (by decide) c46) (fun _ => ?_)
                refine lv_iconst (v := (-1)) hx hb dX7_readLines_52 (by decide) ?_
                have hLn1 : ((-1) : Int32).toInt = (-1) := by decide
                have hP : va_P g.1 vwCl (List.flatten [bLT g lt ta lo, bLaw g lo lc lz2_28 ll lm lg ld fc2_29, bTape g ta ab sz ln kd2_24 bg2_25 nx2_26 bg2_25 fb]) H := hP
                have hD : va_D A (List.flatten [bLT g lt ta lo, bLaw g lo lc lz2_28 ll lm lg ld fc2_29, bTape g ta ab sz ln kd2_24 bg2_25 nx2_26 bg2_25 fb]) := hD
                obtain ⟨hP, hD⟩ := zord (g := g) (Bs' := [bLT g lt ta lo, bTape g ta ab sz ln kd2_24 bg2_25 nx2_26 bg2_25 fb, bLaw g lo lc lz2_28 ll lm lg ld fc2_29]) [0, 2, 1] rfl rfl hP hD
                exact mret_i hx hb hr hlocks hS (Nat.le_of_ble_eq_true rfl) (Nat.le_of_ble_eq_true rfl) dX7_readLines_53 (kd2_24, bg2_25, nx2_26, bg2_25, lz2_28, fc2_29, -1) rfl (show (0 ≤ lz2_28.toInt ∧ lz2_28.toInt ≤ 400) ∧ (-1 ≤ bg2_25.toInt) ∧ (0 ≤ nx2_26.toInt ∧ nx2_26.toInt ≤ 400) ∧ (0 ≤ bg2_25.toInt ∧ bg2_25.toInt ≤ 400) ∧ (zKd kd2_24.toInt bg2_25.toInt nx2_26.toInt) ∧ (zTk fb ln.toInt kd2_24.toInt bg2_25.toInt nx2_26.toInt) ∧ ((-1) = 0 ∧ ln.toInt ≤ bg.toInt ∧ (-1) = bg2_25 ∧ lz2_28.toInt = 0 ∨ (1 ≤ ((-1) : Int32).toInt ∧ ((-1) : Int32).toInt ≤ mo.toInt) ∧ ¬ ln.toInt ≤ bg.toInt ∧ zLines fb ln.toInt (zLLine fb ln.toInt) mo.toInt.toNat bg.toInt (.ok (mo.toInt - ((-1) : Int32).toInt)) ∧ (-1) = bg2_25 ∧ zLaC fb ln.toInt mo.toInt.toNat bg.toInt fc2_29 lz2_28.toInt ∨ (-1) = -1 ∧ ¬ ln.toInt ≤ bg.toInt ∧ zLines fb ln.toInt (zLLine fb ln.toInt) mo.toInt.toNat bg.toInt (.bad bg2_25.toInt)) from ⟨(by first | assumption | omega | exact Or.inl (by decide) | exact Or.inr (by omega)), (by first | decide | omega), (by first | assumption | omega | exact Or.inl (by decide) | exact Or.inr (by omega)), (by first | assumption | omega | exact Or.inl (by decide) | exact Or.inr (by omega)), (by first | assumption | omega | exact Or.inl (by decide) | exact Or.inr (by omega)), (by assumption), (Or.inr (Or.inr ⟨rfl, (zTk_1 hTk (by omega)), i14 _ (zLi_nosep (by omega) hq31_k (zTk_1 (by assumption) (by omega)) hq40_k)⟩))⟩) hP hD
            · skip
              have c47 : kd2_24.toInt = 0 := zeq cb9 rfl (by decide)
              have n48 : 0 ≤ kd2_24.toInt := Int.le_trans (Int.le_refl _) (Int.le_of_eq c47.symm)
              have n49 : kd2_24.toInt ≤ 0 := Int.le_trans (Int.le_of_eq c47) (Int.le_refl _)
              refine lv_iload_n hx hb dX7_readLines_38 rfl (lv_at hl 2 rfl) ?_
              have hP : va_P g.1 vwCl (List.flatten [bLT g lt ta lo, bTape g ta ab sz ln kd2_24 bg2_25 nx2_26 (-1) fb, bLaw g lo lc lz2_28 ll lm lg ld fc2_29]) H := hP
              have hD : va_D A (List.flatten [bLT g lt ta lo, bTape g ta ab sz ln kd2_24 bg2_25 nx2_26 (-1) fb, bLaw g lo lc lz2_28 ll lm lg ld fc2_29]) := hD
              exact mret_i hx hb hr hlocks hS (Nat.le_of_ble_eq_true rfl) (Nat.le_of_ble_eq_true rfl) dX7_readLines_39 (kd2_24, bg2_25, nx2_26, -1, lz2_28, fc2_29, x_2) rfl (show (0 ≤ lz2_28.toInt ∧ lz2_28.toInt ≤ 400) ∧ (-1 ≤ ((-1) : Int32).toInt) ∧ (0 ≤ nx2_26.toInt ∧ nx2_26.toInt ≤ 400) ∧ (0 ≤ bg2_25.toInt ∧ bg2_25.toInt ≤ 400) ∧ (zKd kd2_24.toInt bg2_25.toInt nx2_26.toInt) ∧ (zTk fb ln.toInt kd2_24.toInt bg2_25.toInt nx2_26.toInt) ∧ (x_2 = 0 ∧ ln.toInt ≤ bg.toInt ∧ (-1) = (-1) ∧ lz2_28.toInt = 0 ∨ (1 ≤ x_2.toInt ∧ x_2.toInt ≤ mo.toInt) ∧ ¬ ln.toInt ≤ bg.toInt ∧ zLines fb ln.toInt (zLLine fb ln.toInt) mo.toInt.toNat bg.toInt (.ok (mo.toInt - x_2.toInt)) ∧ (-1) = (-1) ∧ zLaC fb ln.toInt mo.toInt.toNat bg.toInt fc2_29 lz2_28.toInt ∨ x_2 = -1 ∧ ¬ ln.toInt ≤ bg.toInt ∧ zLines fb ln.toInt (zLLine fb ln.toInt) mo.toInt.toNat bg.toInt (.bad ((-1) : Int32).toInt)) from ⟨(by first | assumption | omega | exact Or.inl (by decide) | exact Or.inr (by omega)), (by first | decide | omega), (by first | assumption | omega | exact Or.inl (by decide) | exact Or.inr (by omega)), (by first | assumption | omega | exact Or.inl (by decide) | exact Or.inr (by omega)), (by first | assumption | omega | exact Or.inl (by decide) | exact Or.inr (by omega)), (by assumption), (Or.inr (Or.inl ⟨⟨by omega, by omega⟩, (zTk_1 hTk (by omega)), i14 _ (zLi_last (by omega) hq31_k (zTk_0 (by assumption) (by omega)) (by omega)), rfl, (zLaC_e i15 (by omega) hq31_kc (zTk_0 (by assumption) (by omega)))⟩))⟩) hP hD
          · skip
            refine lv_if_ne (tgt := 28) hx hb dX7_readLines_23 (by decide) (fun c50 => absurd (by decide) c50) (fun _ => ?_)
            refine lv_iconst (v := (-1)) hx hb dX7_readLines_26 (by decide) ?_
            have hLn1 : ((-1) : Int32).toInt = (-1) := by decide
            have hP : va_P g.1 vwCl (List.flatten [bLT g lt ta lo, bTape g ta ab sz ln kd2_24 bg2_25 nx2_26 ft2_27 fb, bLaw g lo lc lz2_28 ll lm lg ld fc2_29]) H := hP
            have hD : va_D A (List.flatten [bLT g lt ta lo, bTape g ta ab sz ln kd2_24 bg2_25 nx2_26 ft2_27 fb, bLaw g lo lc lz2_28 ll lm lg ld fc2_29]) := hD
            exact mret_i hx hb hr hlocks hS (Nat.le_of_ble_eq_true rfl) (Nat.le_of_ble_eq_true rfl) dX7_readLines_27 (kd2_24, bg2_25, nx2_26, ft2_27, lz2_28, fc2_29, -1) rfl (show (0 ≤ lz2_28.toInt ∧ lz2_28.toInt ≤ 400) ∧ (-1 ≤ ft2_27.toInt) ∧ (0 ≤ nx2_26.toInt ∧ nx2_26.toInt ≤ 400) ∧ (0 ≤ bg2_25.toInt ∧ bg2_25.toInt ≤ 400) ∧ (zKd kd2_24.toInt bg2_25.toInt nx2_26.toInt) ∧ (zTk fb ln.toInt kd2_24.toInt bg2_25.toInt nx2_26.toInt) ∧ ((-1) = 0 ∧ ln.toInt ≤ bg.toInt ∧ (-1) = ft2_27 ∧ lz2_28.toInt = 0 ∨ (1 ≤ ((-1) : Int32).toInt ∧ ((-1) : Int32).toInt ≤ mo.toInt) ∧ ¬ ln.toInt ≤ bg.toInt ∧ zLines fb ln.toInt (zLLine fb ln.toInt) mo.toInt.toNat bg.toInt (.ok (mo.toInt - ((-1) : Int32).toInt)) ∧ (-1) = ft2_27 ∧ zLaC fb ln.toInt mo.toInt.toNat bg.toInt fc2_29 lz2_28.toInt ∨ (-1) = -1 ∧ ¬ ln.toInt ≤ bg.toInt ∧ zLines fb ln.toInt (zLLine fb ln.toInt) mo.toInt.toNat bg.toInt (.bad ft2_27.toInt)) from ⟨(by first | assumption | omega | exact Or.inl (by decide) | exact Or.inr (by omega)), (by first | decide | omega), (by first | assumption | omega | exact Or.inl (by decide) | exact Or.inr (by omega)), (by first | assumption | omega | exact Or.inl (by decide) | exact Or.inr (by omega)), (by first | assumption | omega | exact Or.inl (by decide) | exact Or.inr (by omega)), (by assumption), (Or.inr (Or.inr ⟨rfl, (zTk_1 hTk (by omega)), i14 _ (zLi_wrong (by omega) hq31_k)⟩))⟩) hP hD
    have hL1 : (1 : Int32).toInt = 1 := by decide
    have hP : va_P g.1 vwCl (List.flatten [bLT g lt ta lo, bTape g ta ab sz ln kd bg nx (-1) fb, bLaw g lo lc lz ll lm lg ld fc]) s.heap := hP
    have hD : va_D A (List.flatten [bLT g lt ta lo, bTape g ta ab sz ln kd bg nx (-1) fb, bLaw g lo lc lz ll lm lg ld fc]) := hD
    exact LP14_16 _ 1 kd bg nx lz fc (by decide) ⟨hbg.1, hbg.2⟩ ⟨hnx.1, hnx.2⟩ ⟨b_lz.1, b_lz.2⟩ hkd hTk (zLi_at (b0 := 0) (by omega)) (zLJ_0 (by omega) (by omega) (by omega)) s.heap _ ls (Nat.lt_succ_self _)  hP hD hS (lv_sub hl [0, 1, 2] rfl)
  · skip
    have c51 : kd.toInt = 0 := zeq cb9 rfl (by decide)
    have n52 : 0 ≤ kd.toInt := Int.le_trans (Int.le_refl _) (Int.le_of_eq c51.symm)
    have n53 : kd.toInt ≤ 0 := Int.le_trans (Int.le_of_eq c51) (Int.le_refl _)
    refine lv_iconst (v := 0) hx hb dX7_readLines_10 (by decide) ?_
    have hL0 : (0 : Int32).toInt = 0 := by decide
    have hP : va_P g.1 vwCl (List.flatten [bLT g lt ta lo, bTape g ta ab sz ln kd bg nx (-1) fb, bLaw g lo lc lz ll lm lg ld fc]) s.heap := hP
    have hD : va_D A (List.flatten [bLT g lt ta lo, bTape g ta ab sz ln kd bg nx (-1) fb, bLaw g lo lc lz ll lm lg ld fc]) := hD
    exact mret_i hx hb hr hlocks hS (Nat.le_of_ble_eq_true rfl) (Nat.le_of_ble_eq_true rfl) dX7_readLines_11 (kd, bg, nx, -1, lz, fc, (0 : Int32)) rfl (show (0 ≤ lz.toInt ∧ lz.toInt ≤ 400) ∧ (-1 ≤ ((-1) : Int32).toInt) ∧ (0 ≤ nx.toInt ∧ nx.toInt ≤ 400) ∧ (0 ≤ bg.toInt ∧ bg.toInt ≤ 400) ∧ (zKd kd.toInt bg.toInt nx.toInt) ∧ (zTk fb ln.toInt kd.toInt bg.toInt nx.toInt) ∧ (0 = 0 ∧ ln.toInt ≤ bg.toInt ∧ (-1) = (-1) ∧ lz.toInt = 0 ∨ (1 ≤ (0 : Int32).toInt ∧ (0 : Int32).toInt ≤ mo.toInt) ∧ ¬ ln.toInt ≤ bg.toInt ∧ zLines fb ln.toInt (zLLine fb ln.toInt) mo.toInt.toNat bg.toInt (.ok (mo.toInt - (0 : Int32).toInt)) ∧ (-1) = (-1) ∧ zLaC fb ln.toInt mo.toInt.toNat bg.toInt fc lz.toInt ∨ 0 = -1 ∧ ¬ ln.toInt ≤ bg.toInt ∧ zLines fb ln.toInt (zLLine fb ln.toInt) mo.toInt.toNat bg.toInt (.bad ((-1) : Int32).toInt)) from ⟨(by first | assumption | omega | exact Or.inl (by decide) | exact Or.inr (by omega)), (by first | decide | omega), (by first | assumption | omega | exact Or.inl (by decide) | exact Or.inr (by omega)), (by first | assumption | omega | exact Or.inl (by decide) | exact Or.inr (by omega)), (by first | assumption | omega | exact Or.inl (by decide) | exact Or.inr (by omega)), (by assumption), (Or.inl ⟨rfl, zTk_0 hTk (by omega), rfl, (by omega)⟩)⟩) hP hD
