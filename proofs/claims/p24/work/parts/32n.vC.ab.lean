set_option maxRecDepth 100000 in
set_option maxHeartbeats 4000000 in
theorem c_lt_readCondition6C (l : Launch) (g : zG) (lt : Nat) (ta : Nat) (lo : Nat) (ab : Nat) (sz : Int32) (ln : Int32) (kd : Int32) (bg : Int32) (nx : Int32) (fb : Nat → Int32) (lc : Nat) (lz : Int32) (ll : Int32) (lm : Int32) (lg : Int32) (ld : Int32) (fc : Nat → Int32) (b_lz : 0 ≤ lz.toInt ∧ lz.toInt ≤ 400) (hln : 0 ≤ ln.toInt ∧ ln.toInt ≤ 400) (hnx : 0 ≤ nx.toInt ∧ nx.toInt ≤ 400) (hbg : 0 ≤ bg.toInt ∧ bg.toInt ≤ 400) (hkd : zKd kd.toInt bg.toInt nx.toInt) (hTk : zTk fb ln.toInt kd.toInt bg.toInt nx.toInt) (hlb : lz.toInt + 2 ≤ bg.toInt) : zM' g l yX2_readCondition (Cond.code yX2_readCondition cX2_readCondition 5 (some .boolean) :: zB) ({ frames := 7, cells := 0, slots := 0, locals := 152 } : Room) [.ref lt, .int 6] [bLT g lt ta lo, bTape g ta ab sz ln kd bg nx (-1) fb, bLaw g lo lc lz ll lm lg ld fc] (fun u : Int32 × Int32 × Int32 × Int32 × Int32 × (Nat → Int32) × Int32 => (fun (kd2 : Int32) (bg2 : Int32) (nx2 : Int32) (ft2 : Int32) (lz2 : Int32) (fc2 : Nat → Int32) (q : Int32) => some (.int q)) (u.1) (u.2.1) (u.2.2.1) (u.2.2.2.1) (u.2.2.2.2.1) (u.2.2.2.2.2.1) (u.2.2.2.2.2.2)) (fun u : Int32 × Int32 × Int32 × Int32 × Int32 × (Nat → Int32) × Int32 => (fun (kd2 : Int32) (bg2 : Int32) (nx2 : Int32) (ft2 : Int32) (lz2 : Int32) (fc2 : Nat → Int32) (q : Int32) => (0 ≤ lz2.toInt ∧ lz2.toInt ≤ 400) ∧ (-1 ≤ ft2.toInt) ∧ (0 ≤ nx2.toInt ∧ nx2.toInt ≤ 400) ∧ (0 ≤ bg2.toInt ∧ bg2.toInt ≤ 400) ∧ (zKd kd2.toInt bg2.toInt nx2.toInt) ∧ (zTk fb ln.toInt kd2.toInt bg2.toInt nx2.toInt) ∧ (q = 1 ∧ zCond fb ln.toInt (zAtom fb ln.toInt 0) bg.toInt (.ok bg2.toInt) ∧ (-1) = ft2 ∧ zAC (fun e9 v9 => zCv fb ln.toInt (zAv fb ln.toInt e9 0) false true bg.toInt bg2.toInt v9) bg.toInt bg2.toInt fc fc2 lz.toInt lz2.toInt ∨ q = 0 ∧ zCond fb ln.toInt (zAtom fb ln.toInt 0) bg.toInt (.bad ft2.toInt))) (u.1) (u.2.1) (u.2.2.1) (u.2.2.2.1) (u.2.2.2.2.1) (u.2.2.2.2.2.1) (u.2.2.2.2.2.2)) (fun u : Int32 × Int32 × Int32 × Int32 × Int32 × (Nat → Int32) × Int32 => (fun (kd2 : Int32) (bg2 : Int32) (nx2 : Int32) (ft2 : Int32) (lz2 : Int32) (fc2 : Nat → Int32) (q : Int32) => [bLT g lt ta lo, bTape g ta ab sz ln kd2 bg2 nx2 ft2 fb, bLaw g lo lc lz2 ll lm lg ld fc2]) (u.1) (u.2.1) (u.2.2.1) (u.2.2.2.1) (u.2.2.2.2.1) (u.2.2.2.2.2.1) (u.2.2.2.2.2.2)) := by
  refine zM'.of (cc := cX2_readCondition) (maxL := 5) (rt := (some .boolean)) (by decide) rfl (Nat.le_of_ble_eq_true rfl) ?_
  intro p e s m args below meth c A ls St hr hlocks hin hK hT hA hP hD hS hl
  obtain ⟨hx, hb, hml, hown, hts⟩ := id St
  have hl : lv_has ls 5 [(0, .ref lt), (1, .int 6)] := hl
  refine lv_iconst (v := (-1)) hx hb dX2_readCondition_0 (by decide) ?_
  refine lv_istore_n (lv' := [(2, .int (-1)), (0, .ref lt), (1, .int 6)]) hx hb dX2_readCondition_1 rfl hl (by decide) rfl (fun ls hl => ?_)
  refine lv_iconst (v := (-1)) hx hb dX2_readCondition_2 (by decide) ?_
  refine lv_istore_n (lv' := [(3, .int (-1)), (2, .int (-1)), (0, .ref lt), (1, .int 6)]) hx hb dX2_readCondition_3 rfl hl (by decide) rfl (fun ls hl => ?_)
  refine lv_iconst (v := 0) hx hb dX2_readCondition_4 (by decide) ?_
  refine lv_istore (lv' := [(4, .int 0), (3, .int (-1)), (2, .int (-1)), (0, .ref lt), (1, .int 6)]) hx hb dX2_readCondition_5 hl (by decide) rfl (fun ls hl => ?_)
  have hl := lv_sub (l' := [(0, .ref lt), (1, .int 6), (2, .int (-1)), (3, .int (-1)), (4, .int 0)]) hl [3, 4, 2, 1, 0] rfl
  have LP7_20 : ∀ (kf : Nat) (x_1 : Int32) (x_2 : Int32) (x_3 : Int32) (x_4 : Int32) (x_5 : Int32) (x_6 : Int32) (x_7 : Int32) (fc_8 : Nat → Int32), ((-1) ≤ x_1.toInt ∧ x_1.toInt ≤ 400) → ((-1) ≤ x_2.toInt ∧ x_2.toInt ≤ 400) → (0 ≤ x_3.toInt ∧ x_3.toInt ≤ 400) → (0 ≤ x_5.toInt ∧ x_5.toInt ≤ 400) → (0 ≤ x_6.toInt ∧ x_6.toInt ≤ 400) → (0 ≤ x_7.toInt ∧ x_7.toInt ≤ 400) → (zKd x_4.toInt x_5.toInt x_6.toInt) → (zTk fb ln.toInt x_4.toInt x_5.toInt x_6.toInt) → (x_3.toInt ≤ x_5.toInt) → (∀ r9, zCond fb ln.toInt (zAtom fb ln.toInt 0) x_5.toInt r9 → zCond fb ln.toInt (zAtom fb ln.toInt 0) bg.toInt r9) → (zCI (fun e9 => zAv fb ln.toInt e9 0) fb ln.toInt bg.toInt x_5.toInt fc fc_8 lz.toInt x_7.toInt x_1.toInt x_2.toInt) → ∀ (H : Heap) (locs : List Loc) (ls : Array Slot), ((401 - x_3.toInt).toNat) < kf → va_P g.1 vwCl (List.flatten [bLT g lt ta lo, bTape g ta ab sz ln x_4 x_5 x_6 (-1) fb, bLaw g lo lc x_7 ll lm lg ld fc_8]) H → va_D A (List.flatten [bLT g lt ta lo, bTape g ta ab sz ln x_4 x_5 x_6 (-1) fb, bLaw g lo lc x_7 ll lm lg ld fc_8]) → va_S A s.heap H locs → lv_has ls 5 [(0, .ref lt), (1, .int 6), (2, .int x_1), (3, .int x_2), (4, .int x_3)] → W p l e ({ frames := 7, cells := 0, slots := 0, locals := 152 } : Room) s m args below meth c H locs (0) (0) (zF g (fun u : Int32 × Int32 × Int32 × Int32 × Int32 × (Nat → Int32) × Int32 => (fun (kd2 : Int32) (bg2 : Int32) (nx2 : Int32) (ft2 : Int32) (lz2 : Int32) (fc2 : Nat → Int32) (q : Int32) => some (.int q)) (u.1) (u.2.1) (u.2.2.1) (u.2.2.2.1) (u.2.2.2.2.1) (u.2.2.2.2.2.1) (u.2.2.2.2.2.2)) (fun u : Int32 × Int32 × Int32 × Int32 × Int32 × (Nat → Int32) × Int32 => (fun (kd2 : Int32) (bg2 : Int32) (nx2 : Int32) (ft2 : Int32) (lz2 : Int32) (fc2 : Nat → Int32) (q : Int32) => (0 ≤ lz2.toInt ∧ lz2.toInt ≤ 400) ∧ (-1 ≤ ft2.toInt) ∧ (0 ≤ nx2.toInt ∧ nx2.toInt ≤ 400) ∧ (0 ≤ bg2.toInt ∧ bg2.toInt ≤ 400) ∧ (zKd kd2.toInt bg2.toInt nx2.toInt) ∧ (zTk fb ln.toInt kd2.toInt bg2.toInt nx2.toInt) ∧ (q = 1 ∧ zCond fb ln.toInt (zAtom fb ln.toInt 0) bg.toInt (.ok bg2.toInt) ∧ (-1) = ft2 ∧ zAC (fun e9 v9 => zCv fb ln.toInt (zAv fb ln.toInt e9 0) false true bg.toInt bg2.toInt v9) bg.toInt bg2.toInt fc fc2 lz.toInt lz2.toInt ∨ q = 0 ∧ zCond fb ln.toInt (zAtom fb ln.toInt 0) bg.toInt (.bad ft2.toInt))) (u.1) (u.2.1) (u.2.2.1) (u.2.2.2.1) (u.2.2.2.2.1) (u.2.2.2.2.2.1) (u.2.2.2.2.2.2)) (fun u : Int32 × Int32 × Int32 × Int32 × Int32 × (Nat → Int32) × Int32 => (fun (kd2 : Int32) (bg2 : Int32) (nx2 : Int32) (ft2 : Int32) (lz2 : Int32) (fc2 : Nat → Int32) (q : Int32) => [bLT g lt ta lo, bTape g ta ab sz ln kd2 bg2 nx2 ft2 fb, bLaw g lo lc lz2 ll lm lg ld fc2]) (u.1) (u.2.1) (u.2.2.1) (u.2.2.2.1) (u.2.2.2.2.1) (u.2.2.2.2.2.1) (u.2.2.2.2.2.2)) ({ frames := 7, cells := 0, slots := 0, locals := 152 } : Room) below args s A) (F0 m 7 ls []) := by
    intro kf
    induction kf with
    | zero => intro x_1 x_2 x_3 x_4 x_5 x_6 x_7 fc_8 i9 i10 i11 i12 i13 i14 i15 i16 i17 i18 i19 H locs ls hk; exact absurd hk (Nat.not_lt_zero _)
    | succ kf ih7_21 =>
      intro x_1 x_2 x_3 x_4 x_5 x_6 x_7 fc_8 i9 i10 i11 i12 i13 i14 i15 i16 i17 i18 i19 H locs ls hk7_21 hP hD hS hl
      refine lv_iload hx hb dX2_readCondition_7 (lv_at hl 4 rfl) ?_
      refine lv_sipush (v := 400) hx hb dX2_readCondition_9 (by decide) ?_
      refine lv_icmp_ge (tgt := 100) hx hb dX2_readCondition_12 (by decide) (fun cb9 => ?_) (fun cb9 => ?_)
      · skip
        have c22 : 400 ≤ x_3.toInt := zle cb9 (by decide) rfl
        have n23 : 400 ≤ x_3.toInt := Int.le_trans (Int.le_refl _) c22
        refine lv_aload_n hx hb dX2_readCondition_100 rfl (lv_at hl 0 rfl) ?_
        refine va_get (D := g.1) (ci := 2) (v := .ref ta) (C := RX2) (T := TX2) (N := 2) hx hb hts izRX2 hown hK hP 0 rfl rfl 0 (by decide) (hts _ k290) (fun x9 h9 => u_same (hts _ k291) x9 h9) rfl dX2_readCondition_101 ?_
        refine mcallV' (g := g) (q0 := 0) (ci := 6) (As := []) (rest := []) St hK hT hA hP hD hS hl.1 [1] [0, 2] rfl rfl rfl (c_t_refuseF l g ta ab sz ln x_4 x_5 x_6 fb ) (cwV 0 hts (zgL (zl4 k303 k279 k280 k277) k269) rfl rfl rfl (by decide +kernel) ⟨Nat.le_of_ble_eq_true rfl, Nat.le_of_ble_eq_true rfl⟩) rfl rfl rfl rfl (Nat.le_of_ble_eq_true rfl) dX2_readCondition_104 ⟨(Nat.le_of_ble_eq_true rfl), (Nat.le_of_ble_eq_true rfl)⟩ (fun _u H locs hq24 hP hD hS => ?_)
        have hP : va_P g.1 vwCl (List.flatten [bLT g lt ta lo, bLaw g lo lc x_7 ll lm lg ld fc_8, bTape g ta ab sz ln x_4 x_5 x_6 x_5 fb]) H := hP
        have hD : va_D A (List.flatten [bLT g lt ta lo, bLaw g lo lc x_7 ll lm lg ld fc_8, bTape g ta ab sz ln x_4 x_5 x_6 x_5 fb]) := hD
        refine W.widen (k := 0) (n := 0) (Nat.le_of_ble_eq_true rfl) (Nat.le_of_ble_eq_true rfl) ?_
        refine W.eq (g2 := F0 m 107 ls [.int 0]) rfl ?_
        have hP : va_P g.1 vwCl (List.flatten [bLT g lt ta lo, bLaw g lo lc x_7 ll lm lg ld fc_8, bTape g ta ab sz ln x_4 x_5 x_6 x_5 fb]) H := hP
        have hD : va_D A (List.flatten [bLT g lt ta lo, bLaw g lo lc x_7 ll lm lg ld fc_8, bTape g ta ab sz ln x_4 x_5 x_6 x_5 fb]) := hD
        obtain ⟨hP, hD⟩ := zord (g := g) (Bs' := [bLT g lt ta lo, bTape g ta ab sz ln x_4 x_5 x_6 x_5 fb, bLaw g lo lc x_7 ll lm lg ld fc_8]) [0, 2, 1] rfl rfl hP hD
        exact mret_z hx hb hr hlocks hS (Nat.le_of_ble_eq_true rfl) (Nat.le_of_ble_eq_true rfl) dX2_readCondition_107 (x_4, x_5, x_6, x_5, x_7, fc_8, (0 : Int32)) rfl (by decide) (show (0 ≤ x_7.toInt ∧ x_7.toInt ≤ 400) ∧ (-1 ≤ x_5.toInt) ∧ (0 ≤ x_6.toInt ∧ x_6.toInt ≤ 400) ∧ (0 ≤ x_5.toInt ∧ x_5.toInt ≤ 400) ∧ (zKd x_4.toInt x_5.toInt x_6.toInt) ∧ (zTk fb ln.toInt x_4.toInt x_5.toInt x_6.toInt) ∧ (0 = 1 ∧ zCond fb ln.toInt (zAtom fb ln.toInt 0) bg.toInt (.ok x_5.toInt) ∧ (-1) = x_5 ∧ zAC (fun e9 v9 => zCv fb ln.toInt (zAv fb ln.toInt e9 0) false true bg.toInt x_5.toInt v9) bg.toInt x_5.toInt fc fc_8 lz.toInt x_7.toInt ∨ 0 = 0 ∧ zCond fb ln.toInt (zAtom fb ln.toInt 0) bg.toInt (.bad x_5.toInt)) from ⟨(by first | assumption | omega | exact Or.inl (by decide) | exact Or.inr (by omega)), (by first | decide | omega), (by first | assumption | omega | exact Or.inl (by decide) | exact Or.inr (by omega)), (by first | assumption | omega | exact Or.inl (by decide) | exact Or.inr (by omega)), (by first | assumption | omega | exact Or.inl (by decide) | exact Or.inr (by omega)), (by assumption), (Or.inr ⟨rfl, i18 _ (.wrong (zAt_e (by omega)))⟩)⟩) hP hD
      · skip
        have c25 : x_3.toInt < 400 := zlti (Int32.not_le.mp cb9) rfl (by decide)
        have n26 : x_3.toInt ≤ 399 := zL1 (b := 400) c25 (Int.le_refl _) (by decide)
        have w27 := i19.1
        have w28 := i19.2.1
        refine lv_aload_n hx hb dX2_readCondition_15 rfl (lv_at hl 0 rfl) ?_
        refine lv_iload_n hx hb dX2_readCondition_16 rfl (lv_at hl 1 rfl) ?_
        refine mcallV' (g := g) (q0 := 0) (ci := 2) (As := [.int 6]) (rest := []) St hK hT hA hP hD hS hl.1 [0, 1, 2] [] rfl rfl rfl (c_lt_readAtom6C l g lt ta lo ab sz ln x_4 x_5 x_6 fb lc x_7 ll lm lg ld fc_8 i14 hln i13 i12 i15 i16 (by first | assumption | omega | decide | exact Or.inl (by decide) | exact Or.inr (by decide))) (cwV 1 hts (zgL (zl4 k317 k318 k319 k309) k327) rfl rfl rfl (by decide +kernel) ⟨Nat.le_of_ble_eq_true rfl, Nat.le_of_ble_eq_true rfl⟩) rfl rfl rfl rfl (Nat.le_of_ble_eq_true rfl) dX2_readCondition_17 ⟨(Nat.le_of_ble_eq_true rfl), (Nat.le_of_ble_eq_true rfl)⟩ (fun u_ H locs hq36 hP hD hS => ?_)
        obtain ⟨kd2_29, bg2_30, nx2_31, ft2_32, lz2_33, fc2_34, q_35⟩ := u_
        replace hq36 : (0 ≤ lz2_33.toInt ∧ lz2_33.toInt ≤ 400) ∧ (-1 ≤ ft2_32.toInt) ∧ (0 ≤ nx2_31.toInt ∧ nx2_31.toInt ≤ 400) ∧ (0 ≤ bg2_30.toInt ∧ bg2_30.toInt ≤ 400) ∧ (zKd kd2_29.toInt bg2_30.toInt nx2_31.toInt) ∧ (zTk fb ln.toInt kd2_29.toInt bg2_30.toInt nx2_31.toInt) ∧ (q_35 = 1 ∧ zAtom fb ln.toInt 0 x_5.toInt (.ok bg2_30.toInt) ∧ (-1) = ft2_32 ∧ zAC (fun e9 v9 => zAv fb ln.toInt e9 0 x_5.toInt bg2_30.toInt v9) x_5.toInt bg2_30.toInt fc_8 fc2_34 x_7.toInt lz2_33.toInt ∨ q_35 = 0 ∧ zAtom fb ln.toInt 0 x_5.toInt (.bad ft2_32.toInt)) := hq36
        have hP : va_P g.1 vwCl (List.flatten [bLT g lt ta lo, bTape g ta ab sz ln kd2_29 bg2_30 nx2_31 ft2_32 fb, bLaw g lo lc lz2_33 ll lm lg ld fc2_34]) H := hP
        have hD : va_D A (List.flatten [bLT g lt ta lo, bTape g ta ab sz ln kd2_29 bg2_30 nx2_31 ft2_32 fb, bLaw g lo lc lz2_33 ll lm lg ld fc2_34]) := hD
        refine W.widen (k := 0) (n := 0) (Nat.le_of_ble_eq_true rfl) (Nat.le_of_ble_eq_true rfl) ?_
        refine W.eq (g2 := F0 m 20 ls [.int q_35]) rfl ?_
        obtain ⟨hq36_0, hq36_1, hq36_2, hq36_3, hq36_4, hq36_5, hq36_6⟩ := hq36
        rcases hq36_6 with ⟨rfl, hq36_k, rfl, hq36_kc⟩ | ⟨rfl, hq36_k⟩
        · skip
          have w37 := hq36_kc.1
          refine lv_if_ne (tgt := 25) hx hb dX2_readCondition_20 (by decide) (fun _ => ?_) (fun c38 => absurd c38 (by decide))
          refine lv_aload_n hx hb dX2_readCondition_25 rfl (lv_at hl 0 rfl) ?_
          refine va_get (D := g.1) (ci := 2) (v := .ref lo) (C := RX2) (T := TX2) (N := 2) hx hb hts izRX2 hown hK hP 0 rfl rfl 1 (by decide) (hts _ k210) (fun _ h9 => h9) rfl dX2_readCondition_26 ?_
          refine lv_iload_n hx hb dX2_readCondition_29 rfl (lv_at hl 3 rfl) ?_
          refine mcallV' (g := g) (q0 := 0) (ci := 1) (As := [.int x_2]) (rest := []) St hK hT hA hP hD hS hl.1 [2] [0, 1] rfl rfl rfl (c_l_aimC l g lo lc lz2_33 ll lm lg ld fc2_34 x_2 hq36_0 hq36_0 (by first | assumption | omega | decide | exact Or.inl (by decide) | exact Or.inr (by decide))) (cwV 1 hts (zgL (zl4 k320 k321 k322 k85) k203) rfl rfl rfl (by decide +kernel) ⟨Nat.le_of_ble_eq_true rfl, Nat.le_of_ble_eq_true rfl⟩) rfl rfl rfl rfl (Nat.le_of_ble_eq_true rfl) dX2_readCondition_30 ⟨(Nat.le_of_ble_eq_true rfl), (Nat.le_of_ble_eq_true rfl)⟩ (fun fc2_39 H locs hq40 hP hD hS => ?_)
          replace hq40 : (zAim lz2_33.toInt x_2.toInt fc2_34 fc2_39) := hq40
          have hP : va_P g.1 vwCl (List.flatten [bLT g lt ta lo, bTape g ta ab sz ln kd2_29 bg2_30 nx2_31 (-1) fb, bLaw g lo lc lz2_33 ll lm lg ld fc2_39]) H := hP
          have hD : va_D A (List.flatten [bLT g lt ta lo, bTape g ta ab sz ln kd2_29 bg2_30 nx2_31 (-1) fb, bLaw g lo lc lz2_33 ll lm lg ld fc2_39]) := hD
          refine W.widen (k := 0) (n := 0) (Nat.le_of_ble_eq_true rfl) (Nat.le_of_ble_eq_true rfl) ?_
          refine W.eq (g2 := F0 m 33 ls []) rfl ?_
          have w41 := zCM_of (by omega) i19 hq36_kc hq40 (by omega)
          have w42 := w41.1
          have w43 := w41.2.1
          refine lv_iconst (v := (-1)) hx hb dX2_readCondition_33 (by decide) ?_
          refine lv_istore_n (lv' := [(3, .int (-1)), (0, .ref lt), (1, .int 6), (2, .int x_1), (4, .int x_3)]) hx hb dX2_readCondition_34 rfl hl (by decide) rfl (fun ls hl => ?_)
          refine lv_aload_n hx hb dX2_readCondition_35 rfl (lv_at hl 1 rfl) ?_
          refine va_get (D := g.1) (ci := 2) (v := .ref ta) (C := RX2) (T := TX2) (N := 2) hx hb hts izRX2 hown hK hP 0 rfl rfl 0 (by decide) (hts _ k290) (fun x9 h9 => u_same (hts _ k291) x9 h9) rfl dX2_readCondition_36 ?_
          refine va_ldcS (q := g.2 16) hx hb hown (zra3 hT.2.1) dX2_readCondition_39 ?_
          refine mcallV' (g := g) (q0 := 0) (ci := 6) (As := [.ref (g.2 16)]) (rest := []) St hK hT hA hP hD hS hl.1 [1] [0, 2] rfl rfl rfl (c_t_takeWordF l g ta ab sz ln kd2_29 bg2_30 nx2_31 (-1) fb (g.2 16) 3 zqa3 hln hq36_2 hq36_3 hq36_4 hq36_5 rfl zla3 zna3 (zlitB zla3)) (cwV 1 hts (zgL (zl4 k310 k311 k312 k277) k284) rfl rfl rfl (by decide +kernel) ⟨Nat.le_of_ble_eq_true rfl, Nat.le_of_ble_eq_true rfl⟩) rfl rfl rfl rfl (Nat.le_of_ble_eq_true rfl) dX2_readCondition_41 ⟨(Nat.le_of_ble_eq_true rfl), (Nat.le_of_ble_eq_true rfl)⟩ (fun u_ H locs hq48 hP hD hS => ?_)
          obtain ⟨kd2_44, bg2_45, nx2_46, r_47⟩ := u_
          replace hq48 : (0 ≤ nx2_46.toInt ∧ nx2_46.toInt ≤ 400) ∧ (0 ≤ bg2_45.toInt ∧ bg2_45.toInt ≤ 400) ∧ (zKd kd2_44.toInt bg2_45.toInt nx2_46.toInt) ∧ (zTk fb ln.toInt kd2_44.toInt bg2_45.toInt nx2_46.toInt) ∧ (r_47 = 1 ∧ zisW fb ln.toInt bg2_30.toInt zqa3.2.2.2 ∧ zMv fb ln.toInt bg2_30.toInt bg2_45.toInt ∨ r_47 = 0 ∧ ¬ zisW fb ln.toInt bg2_30.toInt zqa3.2.2.2 ∧ kd2_29 = kd2_44 ∧ bg2_30 = bg2_45 ∧ nx2_31 = nx2_46) := hq48
          have hP : va_P g.1 vwCl (List.flatten [bLT g lt ta lo, bLaw g lo lc lz2_33 ll lm lg ld fc2_39, bTape g ta ab sz ln kd2_44 bg2_45 nx2_46 (-1) fb]) H := hP
          have hD : va_D A (List.flatten [bLT g lt ta lo, bLaw g lo lc lz2_33 ll lm lg ld fc2_39, bTape g ta ab sz ln kd2_44 bg2_45 nx2_46 (-1) fb]) := hD
          refine W.widen (k := 0) (n := 0) (Nat.le_of_ble_eq_true rfl) (Nat.le_of_ble_eq_true rfl) ?_
          refine W.eq (g2 := F0 m 44 ls [.int r_47]) rfl ?_
          obtain ⟨hq48_0, hq48_1, hq48_2, hq48_3, hq48_4⟩ := hq48
          rcases hq48_4 with ⟨rfl, hq48_k, hq48_km⟩ | ⟨rfl, hq48_k, rfl, rfl, rfl⟩
          · skip
            refine lv_if_eq (tgt := 61) hx hb dX2_readCondition_44 (by decide) (fun c49 => absurd c49 (by decide)) (fun _ => ?_)
            refine lv_aload_n hx hb dX2_readCondition_47 rfl (lv_at hl 1 rfl) ?_
            refine va_get (D := g.1) (ci := 2) (v := .ref lo) (C := RX2) (T := TX2) (N := 2) hx hb hts izRX2 hown hK hP 0 rfl rfl 1 (by decide) (hts _ k210) (fun _ h9 => h9) rfl dX2_readCondition_48 ?_
            refine lv_bipush (v := 13) hx hb dX2_readCondition_51 (by decide) ?_
            refine lv_iconst (v := 0) hx hb dX2_readCondition_53 (by decide) ?_
            refine mcallV' (g := g) (q0 := 0) (ci := 1) (As := [.int 13, .int 0]) (rest := []) St hK hT hA hP hD hS hl.1 [1] [0, 2] rfl rfl rfl (c_l_putC l g lo lc lz2_33 ll lm lg ld fc2_39 13 0 hq36_0 (by first | assumption | omega | decide | exact Or.inl (by decide) | exact Or.inr (by decide))) (cwV 2 hts (zgL (zl4 k297 k298 k299 k85) k202) rfl rfl rfl (by decide +kernel) ⟨Nat.le_of_ble_eq_true rfl, Nat.le_of_ble_eq_true rfl⟩) rfl rfl rfl rfl (Nat.le_of_ble_eq_true rfl) dX2_readCondition_54 ⟨(Nat.le_of_ble_eq_true rfl), (Nat.le_of_ble_eq_true rfl)⟩ (fun u_ H locs hq52 hP hD hS => ?_)
            obtain ⟨lz2_50, fc2_51⟩ := u_
            replace hq52 : (0 ≤ lz2_50.toInt ∧ lz2_50.toInt ≤ 400) ∧ (lz2_50.toInt = lz2_33.toInt + 1) ∧ (fc2_51 = upd fc2_39 lz2_33.toInt.toNat (13 + 32 * 0)) := hq52
            have hP : va_P g.1 vwCl (List.flatten [bLT g lt ta lo, bTape g ta ab sz ln kd2_44 bg2_45 nx2_46 (-1) fb, bLaw g lo lc lz2_50 ll lm lg ld fc2_51]) H := hP
            have hD : va_D A (List.flatten [bLT g lt ta lo, bTape g ta ab sz ln kd2_44 bg2_45 nx2_46 (-1) fb, bLaw g lo lc lz2_50 ll lm lg ld fc2_51]) := hD
            refine W.widen (k := 0) (n := 0) (Nat.le_of_ble_eq_true rfl) (Nat.le_of_ble_eq_true rfl) ?_
            refine W.eq (g2 := F0 m 57 ls [.int lz2_33]) rfl ?_
            obtain ⟨hq52_0, hq52_1, hq52_2⟩ := hq52
            refine lv_istore_n (lv' := [(3, .int lz2_33), (0, .ref lt), (1, .int 6), (2, .int x_1), (4, .int x_3)]) hx hb dX2_readCondition_57 rfl hl (by decide) rfl (fun ls hl => ?_)
            refine lv_goto (tgt := 94) hx hb dX2_readCondition_58 (by decide) ?_
            have w53 : x_5.toInt < bg2_30.toInt := zAtom_gt fb ln.toInt _ _ _ (by omega) hq36_k
            have w54 : bg2_30.toInt < bg2_45.toInt := zMv_lt (f := fb) (n := ln.toInt) (by omega) (zisW_z hq48_k) hq48_km
            have w55 : ∀ r9, zCond fb ln.toInt (zAtom fb ln.toInt 0) bg2_45.toInt r9 → zCond fb ln.toInt (zAtom fb ln.toInt 0) bg.toInt r9 := fun r9 h9 => i18 r9 (zCo_more hq36_k (Or.inl hq48_k) hq48_km h9)
            have w56 : zCI (fun e9 => zAv fb ln.toInt e9 0) fb ln.toInt bg.toInt bg2_45.toInt fc fc2_51 lz.toInt lz2_50.toInt x_1.toInt lz2_33.toInt := zCI_and (by omega) (by omega) w41 hq48_k hq48_km (by decide) hq52_2 hq52_1
            refine ziinc3 (n' := 1) (a' := 1) (b' := 400) (lv' := fun v9 => [(4, .int v9), (3, .int lz2_33), (0, .ref lt), (1, .int 6), (2, .int x_1)]) hx hb dX2_readCondition_94 hl (k := 4) rfl (by decide) (fun _ => rfl) (zaddK (i := x_3.toInt) (j := 1) rfl (by decide) i11.1 n26 (Int.le_refl _) (Int.le_refl _) (by decide)) (fun x_57 ls hx_57 hl => ?_)
            refine lv_goto (tgt := 7) hx hb dX2_readCondition_97 (by decide) ?_
            have hl := lv_sub (l' := [(0, .ref lt), (1, .int 6), (2, .int x_1), (3, .int lz2_33), (4, .int x_57)]) hl [2, 3, 4, 1, 0] rfl
            have hP : va_P g.1 vwCl (List.flatten [bLT g lt ta lo, bTape g ta ab sz ln kd2_44 bg2_45 nx2_46 (-1) fb, bLaw g lo lc lz2_50 ll lm lg ld fc2_51]) H := hP
            have hD : va_D A (List.flatten [bLT g lt ta lo, bTape g ta ab sz ln kd2_44 bg2_45 nx2_46 (-1) fb, bLaw g lo lc lz2_50 ll lm lg ld fc2_51]) := hD
            exact ih7_21 x_1 lz2_33 x_57 kd2_44 bg2_45 nx2_46 lz2_50 fc2_51 ⟨i9.1, i9.2⟩ ⟨(Int.le_trans (by decide) hq36_0.1), hq36_0.2⟩ ⟨(Int.le_trans (by decide) hx_57.2.1), hx_57.2.2⟩ ⟨hq48_1.1, hq48_1.2⟩ ⟨hq48_0.1, hq48_0.2⟩ ⟨hq52_0.1, hq52_0.2⟩ hq48_2 hq48_3 (by first | omega | assumption | decide) w55 w56 H _ ls (zmK hx_57.1 (by decide) n26 (by decide) hk7_21)  hP hD hS (lv_sub hl [0, 1, 2, 3, 4] rfl)
          · skip
            refine lv_if_eq (tgt := 61) hx hb dX2_readCondition_44 (by decide) (fun _ => ?_) (fun c58 => absurd (by decide) c58)
            refine lv_aload_n hx hb dX2_readCondition_61 rfl (lv_at hl 1 rfl) ?_
            refine va_get (D := g.1) (ci := 2) (v := .ref lo) (C := RX2) (T := TX2) (N := 2) hx hb hts izRX2 hown hK hP 0 rfl rfl 1 (by decide) (hts _ k210) (fun _ h9 => h9) rfl dX2_readCondition_62 ?_
            refine lv_iload_n hx hb dX2_readCondition_65 rfl (lv_at hl 3 rfl) ?_
            refine mcallV' (g := g) (q0 := 0) (ci := 1) (As := [.int x_1]) (rest := []) St hK hT hA hP hD hS hl.1 [1] [0, 2] rfl rfl rfl (c_l_aimC l g lo lc lz2_33 ll lm lg ld fc2_39 x_1 hq36_0 hq36_0 (by first | assumption | omega | decide | exact Or.inl (by decide) | exact Or.inr (by decide))) (cwV 1 hts (zgL (zl4 k320 k321 k322 k85) k203) rfl rfl rfl (by decide +kernel) ⟨Nat.le_of_ble_eq_true rfl, Nat.le_of_ble_eq_true rfl⟩) rfl rfl rfl rfl (Nat.le_of_ble_eq_true rfl) dX2_readCondition_66 ⟨(Nat.le_of_ble_eq_true rfl), (Nat.le_of_ble_eq_true rfl)⟩ (fun fc2_59 H locs hq60 hP hD hS => ?_)
            replace hq60 : (zAim lz2_33.toInt x_1.toInt fc2_39 fc2_59) := hq60
            have hP : va_P g.1 vwCl (List.flatten [bLT g lt ta lo, bTape g ta ab sz ln kd2_29 bg2_30 nx2_31 (-1) fb, bLaw g lo lc lz2_33 ll lm lg ld fc2_59]) H := hP
            have hD : va_D A (List.flatten [bLT g lt ta lo, bTape g ta ab sz ln kd2_29 bg2_30 nx2_31 (-1) fb, bLaw g lo lc lz2_33 ll lm lg ld fc2_59]) := hD
            refine W.widen (k := 0) (n := 0) (Nat.le_of_ble_eq_true rfl) (Nat.le_of_ble_eq_true rfl) ?_
            refine W.eq (g2 := F0 m 69 ls []) rfl ?_
            refine lv_aload_n hx hb dX2_readCondition_69 rfl (lv_at hl 1 rfl) ?_
            refine va_get (D := g.1) (ci := 2) (v := .ref ta) (C := RX2) (T := TX2) (N := 2) hx hb hts izRX2 hown hK hP 0 rfl rfl 0 (by decide) (hts _ k290) (fun x9 h9 => u_same (hts _ k291) x9 h9) rfl dX2_readCondition_70 ?_
            refine va_ldcS (q := g.2 18) hx hb hown (zra4 hT.2.1) dX2_readCondition_73 ?_
            refine mcallV' (g := g) (q0 := 0) (ci := 6) (As := [.ref (g.2 18)]) (rest := []) St hK hT hA hP hD hS hl.1 [1] [0, 2] rfl rfl rfl (c_t_takeWordF l g ta ab sz ln kd2_29 bg2_30 nx2_31 (-1) fb (g.2 18) 4 zqa4 hln hq36_2 hq36_3 hq36_4 hq36_5 rfl zla4 zna4 (zlitB zla4)) (cwV 1 hts (zgL (zl4 k310 k311 k312 k277) k284) rfl rfl rfl (by decide +kernel) ⟨Nat.le_of_ble_eq_true rfl, Nat.le_of_ble_eq_true rfl⟩) rfl rfl rfl rfl (Nat.le_of_ble_eq_true rfl) dX2_readCondition_75 ⟨(Nat.le_of_ble_eq_true rfl), (Nat.le_of_ble_eq_true rfl)⟩ (fun u_ H locs hq65 hP hD hS => ?_)
            obtain ⟨kd2_61, bg2_62, nx2_63, r_64⟩ := u_
            replace hq65 : (0 ≤ nx2_63.toInt ∧ nx2_63.toInt ≤ 400) ∧ (0 ≤ bg2_62.toInt ∧ bg2_62.toInt ≤ 400) ∧ (zKd kd2_61.toInt bg2_62.toInt nx2_63.toInt) ∧ (zTk fb ln.toInt kd2_61.toInt bg2_62.toInt nx2_63.toInt) ∧ (r_64 = 1 ∧ zisW fb ln.toInt bg2_30.toInt zqa4.2.2.2 ∧ zMv fb ln.toInt bg2_30.toInt bg2_62.toInt ∨ r_64 = 0 ∧ ¬ zisW fb ln.toInt bg2_30.toInt zqa4.2.2.2 ∧ kd2_29 = kd2_61 ∧ bg2_30 = bg2_62 ∧ nx2_31 = nx2_63) := hq65
            have hP : va_P g.1 vwCl (List.flatten [bLT g lt ta lo, bLaw g lo lc lz2_33 ll lm lg ld fc2_59, bTape g ta ab sz ln kd2_61 bg2_62 nx2_63 (-1) fb]) H := hP
            have hD : va_D A (List.flatten [bLT g lt ta lo, bLaw g lo lc lz2_33 ll lm lg ld fc2_59, bTape g ta ab sz ln kd2_61 bg2_62 nx2_63 (-1) fb]) := hD
            refine W.widen (k := 0) (n := 0) (Nat.le_of_ble_eq_true rfl) (Nat.le_of_ble_eq_true rfl) ?_
            refine W.eq (g2 := F0 m 78 ls [.int r_64]) rfl ?_
            obtain ⟨hq65_0, hq65_1, hq65_2, hq65_3, hq65_4⟩ := hq65
            rcases hq65_4 with ⟨rfl, hq65_k, hq65_km⟩ | ⟨rfl, hq65_k, rfl, rfl, rfl⟩
            · skip
              refine lv_if_ne (tgt := 83) hx hb dX2_readCondition_78 (by decide) (fun _ => ?_) (fun c66 => absurd c66 (by decide))
              refine lv_aload_n hx hb dX2_readCondition_83 rfl (lv_at hl 1 rfl) ?_
              refine va_get (D := g.1) (ci := 2) (v := .ref lo) (C := RX2) (T := TX2) (N := 2) hx hb hts izRX2 hown hK hP 0 rfl rfl 1 (by decide) (hts _ k210) (fun _ h9 => h9) rfl dX2_readCondition_84 ?_
              refine lv_bipush (v := 14) hx hb dX2_readCondition_87 (by decide) ?_
              refine lv_iconst (v := 0) hx hb dX2_readCondition_89 (by decide) ?_
              refine mcallV' (g := g) (q0 := 0) (ci := 1) (As := [.int 14, .int 0]) (rest := []) St hK hT hA hP hD hS hl.1 [1] [0, 2] rfl rfl rfl (c_l_putC l g lo lc lz2_33 ll lm lg ld fc2_59 14 0 hq36_0 (by first | assumption | omega | decide | exact Or.inl (by decide) | exact Or.inr (by decide))) (cwV 2 hts (zgL (zl4 k297 k298 k299 k85) k202) rfl rfl rfl (by decide +kernel) ⟨Nat.le_of_ble_eq_true rfl, Nat.le_of_ble_eq_true rfl⟩) rfl rfl rfl rfl (Nat.le_of_ble_eq_true rfl) dX2_readCondition_90 ⟨(Nat.le_of_ble_eq_true rfl), (Nat.le_of_ble_eq_true rfl)⟩ (fun u_ H locs hq69 hP hD hS => ?_)
              obtain ⟨lz2_67, fc2_68⟩ := u_
              replace hq69 : (0 ≤ lz2_67.toInt ∧ lz2_67.toInt ≤ 400) ∧ (lz2_67.toInt = lz2_33.toInt + 1) ∧ (fc2_68 = upd fc2_59 lz2_33.toInt.toNat (14 + 32 * 0)) := hq69
              have hP : va_P g.1 vwCl (List.flatten [bLT g lt ta lo, bTape g ta ab sz ln kd2_61 bg2_62 nx2_63 (-1) fb, bLaw g lo lc lz2_67 ll lm lg ld fc2_68]) H := hP
              have hD : va_D A (List.flatten [bLT g lt ta lo, bTape g ta ab sz ln kd2_61 bg2_62 nx2_63 (-1) fb, bLaw g lo lc lz2_67 ll lm lg ld fc2_68]) := hD
              refine W.widen (k := 0) (n := 0) (Nat.le_of_ble_eq_true rfl) (Nat.le_of_ble_eq_true rfl) ?_
              refine W.eq (g2 := F0 m 93 ls [.int lz2_33]) rfl ?_
              obtain ⟨hq69_0, hq69_1, hq69_2⟩ := hq69
              refine lv_istore_n (lv' := [(2, .int lz2_33), (3, .int (-1)), (0, .ref lt), (1, .int 6), (4, .int x_3)]) hx hb dX2_readCondition_93 rfl hl (by decide) rfl (fun ls hl => ?_)
              have w70 : x_5.toInt < bg2_30.toInt := zAtom_gt fb ln.toInt _ _ _ (by omega) hq36_k
              have w71 : bg2_30.toInt < bg2_62.toInt := zMv_lt (f := fb) (n := ln.toInt) (by omega) (zisW_z hq65_k) hq65_km
              have w72 : ∀ r9, zCond fb ln.toInt (zAtom fb ln.toInt 0) bg2_62.toInt r9 → zCond fb ln.toInt (zAtom fb ln.toInt 0) bg.toInt r9 := fun r9 h9 => i18 r9 (zCo_more hq36_k (Or.inr hq65_k) hq65_km h9)
              have w73 : zCI (fun e9 => zAv fb ln.toInt e9 0) fb ln.toInt bg.toInt bg2_62.toInt fc fc2_68 lz.toInt lz2_67.toInt lz2_33.toInt (-1) := zCI_or (by omega) (by omega) (by omega) w41 hq60 hq48_k hq65_k hq65_km (by decide) hq69_2 hq69_1
              refine ziinc3 (n' := 1) (a' := 1) (b' := 400) (lv' := fun v9 => [(4, .int v9), (2, .int lz2_33), (3, .int (-1)), (0, .ref lt), (1, .int 6)]) hx hb dX2_readCondition_94 hl (k := 4) rfl (by decide) (fun _ => rfl) (zaddK (i := x_3.toInt) (j := 1) rfl (by decide) i11.1 n26 (Int.le_refl _) (Int.le_refl _) (by decide)) (fun x_74 ls hx_74 hl => ?_)
              refine lv_goto (tgt := 7) hx hb dX2_readCondition_97 (by decide) ?_
              have hl := lv_sub (l' := [(0, .ref lt), (1, .int 6), (2, .int lz2_33), (3, .int (-1)), (4, .int x_74)]) hl [3, 4, 1, 2, 0] rfl
              have hLn1 : ((-1) : Int32).toInt = (-1) := by decide
              have hP : va_P g.1 vwCl (List.flatten [bLT g lt ta lo, bTape g ta ab sz ln kd2_61 bg2_62 nx2_63 (-1) fb, bLaw g lo lc lz2_67 ll lm lg ld fc2_68]) H := hP
              have hD : va_D A (List.flatten [bLT g lt ta lo, bTape g ta ab sz ln kd2_61 bg2_62 nx2_63 (-1) fb, bLaw g lo lc lz2_67 ll lm lg ld fc2_68]) := hD
              exact ih7_21 lz2_33 (-1) x_74 kd2_61 bg2_62 nx2_63 lz2_67 fc2_68 ⟨(Int.le_trans (by decide) hq36_0.1), hq36_0.2⟩ (by decide) ⟨(Int.le_trans (by decide) hx_74.2.1), hx_74.2.2⟩ ⟨hq65_1.1, hq65_1.2⟩ ⟨hq65_0.1, hq65_0.2⟩ ⟨hq69_0.1, hq69_0.2⟩ hq65_2 hq65_3 (by first | omega | assumption | decide) w72 (by first | omega | assumption | decide) H _ ls (zmK hx_74.1 (by decide) n26 (by decide) hk7_21)  hP hD hS (lv_sub hl [0, 1, 2, 3, 4] rfl)
            · skip
              refine lv_if_ne (tgt := 83) hx hb dX2_readCondition_78 (by decide) (fun c75 => absurd (by decide) c75) (fun _ => ?_)
              refine lv_iconst (v := 1) hx hb dX2_readCondition_81 (by decide) ?_
              have hP : va_P g.1 vwCl (List.flatten [bLT g lt ta lo, bLaw g lo lc lz2_33 ll lm lg ld fc2_59, bTape g ta ab sz ln kd2_29 bg2_30 nx2_31 (-1) fb]) H := hP
              have hD : va_D A (List.flatten [bLT g lt ta lo, bLaw g lo lc lz2_33 ll lm lg ld fc2_59, bTape g ta ab sz ln kd2_29 bg2_30 nx2_31 (-1) fb]) := hD
              obtain ⟨hP, hD⟩ := zord (g := g) (Bs' := [bLT g lt ta lo, bTape g ta ab sz ln kd2_29 bg2_30 nx2_31 (-1) fb, bLaw g lo lc lz2_33 ll lm lg ld fc2_59]) [0, 2, 1] rfl rfl hP hD
              exact mret_z hx hb hr hlocks hS (Nat.le_of_ble_eq_true rfl) (Nat.le_of_ble_eq_true rfl) dX2_readCondition_82 (kd2_29, bg2_30, nx2_31, -1, lz2_33, fc2_59, (1 : Int32)) rfl (by decide) (show (0 ≤ lz2_33.toInt ∧ lz2_33.toInt ≤ 400) ∧ (-1 ≤ ((-1) : Int32).toInt) ∧ (0 ≤ nx2_31.toInt ∧ nx2_31.toInt ≤ 400) ∧ (0 ≤ bg2_30.toInt ∧ bg2_30.toInt ≤ 400) ∧ (zKd kd2_29.toInt bg2_30.toInt nx2_31.toInt) ∧ (zTk fb ln.toInt kd2_29.toInt bg2_30.toInt nx2_31.toInt) ∧ (1 = 1 ∧ zCond fb ln.toInt (zAtom fb ln.toInt 0) bg.toInt (.ok bg2_30.toInt) ∧ (-1) = (-1) ∧ zAC (fun e9 v9 => zCv fb ln.toInt (zAv fb ln.toInt e9 0) false true bg.toInt bg2_30.toInt v9) bg.toInt bg2_30.toInt fc fc2_59 lz.toInt lz2_33.toInt ∨ 1 = 0 ∧ zCond fb ln.toInt (zAtom fb ln.toInt 0) bg.toInt (.bad ((-1) : Int32).toInt)) from ⟨(by first | assumption | omega | exact Or.inl (by decide) | exact Or.inr (by omega)), (by decide), (by first | assumption | omega | exact Or.inl (by decide) | exact Or.inr (by omega)), (by first | assumption | omega | exact Or.inl (by decide) | exact Or.inr (by omega)), (by first | assumption | omega | exact Or.inl (by decide) | exact Or.inr (by omega)), (by assumption), (Or.inl ⟨rfl, i18 _ (.one hq36_k (zor_n hq48_k hq65_k)), rfl, (zAC_end (by omega) w41 hq60 hq48_k hq65_k)⟩)⟩) hP hD
        · skip
          refine lv_if_ne (tgt := 25) hx hb dX2_readCondition_20 (by decide) (fun c76 => absurd (by decide) c76) (fun _ => ?_)
          refine lv_iconst (v := 0) hx hb dX2_readCondition_23 (by decide) ?_
          have hP : va_P g.1 vwCl (List.flatten [bLT g lt ta lo, bTape g ta ab sz ln kd2_29 bg2_30 nx2_31 ft2_32 fb, bLaw g lo lc lz2_33 ll lm lg ld fc2_34]) H := hP
          have hD : va_D A (List.flatten [bLT g lt ta lo, bTape g ta ab sz ln kd2_29 bg2_30 nx2_31 ft2_32 fb, bLaw g lo lc lz2_33 ll lm lg ld fc2_34]) := hD
          exact mret_z hx hb hr hlocks hS (Nat.le_of_ble_eq_true rfl) (Nat.le_of_ble_eq_true rfl) dX2_readCondition_24 (kd2_29, bg2_30, nx2_31, ft2_32, lz2_33, fc2_34, (0 : Int32)) rfl (by decide) (show (0 ≤ lz2_33.toInt ∧ lz2_33.toInt ≤ 400) ∧ (-1 ≤ ft2_32.toInt) ∧ (0 ≤ nx2_31.toInt ∧ nx2_31.toInt ≤ 400) ∧ (0 ≤ bg2_30.toInt ∧ bg2_30.toInt ≤ 400) ∧ (zKd kd2_29.toInt bg2_30.toInt nx2_31.toInt) ∧ (zTk fb ln.toInt kd2_29.toInt bg2_30.toInt nx2_31.toInt) ∧ (0 = 1 ∧ zCond fb ln.toInt (zAtom fb ln.toInt 0) bg.toInt (.ok bg2_30.toInt) ∧ (-1) = ft2_32 ∧ zAC (fun e9 v9 => zCv fb ln.toInt (zAv fb ln.toInt e9 0) false true bg.toInt bg2_30.toInt v9) bg.toInt bg2_30.toInt fc fc2_34 lz.toInt lz2_33.toInt ∨ 0 = 0 ∧ zCond fb ln.toInt (zAtom fb ln.toInt 0) bg.toInt (.bad ft2_32.toInt)) from ⟨(by first | assumption | omega | exact Or.inl (by decide) | exact Or.inr (by omega)), (by first | decide | omega), (by first | assumption | omega | exact Or.inl (by decide) | exact Or.inr (by omega)), (by first | assumption | omega | exact Or.inl (by decide) | exact Or.inr (by omega)), (by first | assumption | omega | exact Or.inl (by decide) | exact Or.inr (by omega)), (by assumption), (Or.inr ⟨rfl, i18 _ (.wrong hq36_k)⟩)⟩) hP hD
  have hLn1 : ((-1) : Int32).toInt = (-1) := by decide
  have hL0 : (0 : Int32).toInt = 0 := by decide
  have hP : va_P g.1 vwCl (List.flatten [bLT g lt ta lo, bTape g ta ab sz ln kd bg nx (-1) fb, bLaw g lo lc lz ll lm lg ld fc]) s.heap := hP
  have hD : va_D A (List.flatten [bLT g lt ta lo, bTape g ta ab sz ln kd bg nx (-1) fb, bLaw g lo lc lz ll lm lg ld fc]) := hD
  exact LP7_20 _ (-1) (-1) 0 kd bg nx lz fc (by decide) (by decide) (by decide) ⟨hbg.1, hbg.2⟩ ⟨hnx.1, hnx.2⟩ ⟨b_lz.1, b_lz.2⟩ hkd hTk (by first | omega | assumption | decide) (fun _ h9 => h9) (zCI_0 (by omega)) s.heap _ ls (Nat.lt_succ_self _)  hP hD hS (lv_sub hl [0, 1, 2, 3, 4] rfl)
set_option maxRecDepth 100000 in
set_option maxHeartbeats 4000000 in
theorem c_lt_readDeeper6C (l : Launch) (g : zG) (lt : Nat) (ta : Nat) (lo : Nat) (ab : Nat) (sz : Int32) (ln : Int32) (kd : Int32) (bg : Int32) (nx : Int32) (fb : Nat → Int32) (lc : Nat) (lz : Int32) (ll : Int32) (lm : Int32) (lg : Int32) (ld : Int32) (fc : Nat → Int32) (b_lz : 0 ≤ lz.toInt ∧ lz.toInt ≤ 400) (hln : 0 ≤ ln.toInt ∧ ln.toInt ≤ 400) (hnx : 0 ≤ nx.toInt ∧ nx.toInt ≤ 400) (hbg : 0 ≤ bg.toInt ∧ bg.toInt ≤ 400) (hkd : zKd kd.toInt bg.toInt nx.toInt) (hTk : zTk fb ln.toInt kd.toInt bg.toInt nx.toInt) (hlb : lz.toInt + 2 ≤ bg.toInt) (hdp : zDeep fb ln.toInt bg.toInt) : zM' g l yX2_readDeeper (Cond.code yX2_readDeeper cX2_readDeeper 2 (some .boolean) :: zB) ({ frames := 8, cells := 0, slots := 0, locals := 176 } : Room) [.ref lt, .int 6] [bLT g lt ta lo, bTape g ta ab sz ln kd bg nx (-1) fb, bLaw g lo lc lz ll lm lg ld fc] (fun u : Int32 × Int32 × Int32 × Int32 × Int32 × (Nat → Int32) × Int32 => (fun (kd2 : Int32) (bg2 : Int32) (nx2 : Int32) (ft2 : Int32) (lz2 : Int32) (fc2 : Nat → Int32) (q : Int32) => some (.int q)) (u.1) (u.2.1) (u.2.2.1) (u.2.2.2.1) (u.2.2.2.2.1) (u.2.2.2.2.2.1) (u.2.2.2.2.2.2)) (fun u : Int32 × Int32 × Int32 × Int32 × Int32 × (Nat → Int32) × Int32 => (fun (kd2 : Int32) (bg2 : Int32) (nx2 : Int32) (ft2 : Int32) (lz2 : Int32) (fc2 : Nat → Int32) (q : Int32) => (0 ≤ lz2.toInt ∧ lz2.toInt ≤ 400) ∧ (-1 ≤ ft2.toInt) ∧ (0 ≤ nx2.toInt ∧ nx2.toInt ≤ 400) ∧ (0 ≤ bg2.toInt ∧ bg2.toInt ≤ 400) ∧ (zKd kd2.toInt bg2.toInt nx2.toInt) ∧ (zTk fb ln.toInt kd2.toInt bg2.toInt nx2.toInt) ∧ (q = 1 ∧ zDpr fb ln.toInt 0 bg.toInt (.ok bg2.toInt) ∧ (-1) = ft2 ∧ zAC (fun e9 v9 => zDv fb ln.toInt e9 0 bg.toInt bg2.toInt v9) bg.toInt bg2.toInt fc fc2 lz.toInt lz2.toInt ∨ q = 0 ∧ zDpr fb ln.toInt 0 bg.toInt (.bad ft2.toInt))) (u.1) (u.2.1) (u.2.2.1) (u.2.2.2.1) (u.2.2.2.2.1) (u.2.2.2.2.2.1) (u.2.2.2.2.2.2)) (fun u : Int32 × Int32 × Int32 × Int32 × Int32 × (Nat → Int32) × Int32 => (fun (kd2 : Int32) (bg2 : Int32) (nx2 : Int32) (ft2 : Int32) (lz2 : Int32) (fc2 : Nat → Int32) (q : Int32) => [bLT g lt ta lo, bTape g ta ab sz ln kd2 bg2 nx2 ft2 fb, bLaw g lo lc lz2 ll lm lg ld fc2]) (u.1) (u.2.1) (u.2.2.1) (u.2.2.2.1) (u.2.2.2.2.1) (u.2.2.2.2.2.1) (u.2.2.2.2.2.2)) := by
  refine zM'.of (cc := cX2_readDeeper) (maxL := 2) (rt := (some .boolean)) (by decide) rfl (Nat.le_of_ble_eq_true rfl) ?_
  intro p e s m args below meth c A ls St hr hlocks hin hK hT hA hP hD hS hl
  obtain ⟨hx, hb, hml, hown, hts⟩ := id St
  have hl : lv_has ls 2 [(0, .ref lt), (1, .int 6)] := hl
  refine lv_aload_n hx hb dX2_readDeeper_0 rfl (lv_at hl 0 rfl) ?_
  refine va_get (D := g.1) (ci := 2) (v := .ref ta) (C := RX2) (T := TX2) (N := 2) hx hb hts izRX2 hown hK hP 0 rfl rfl 0 (by decide) (hts _ k290) (fun x9 h9 => u_same (hts _ k291) x9 h9) rfl dX2_readDeeper_1 ?_
  refine lv_bipush (v := 40) hx hb dX2_readDeeper_4 (by decide) ?_
  have hL40 : (40 : Int32).toInt = 40 := by decide
  refine mcallV' (g := g) (q0 := 0) (ci := 6) (As := [.int 40]) (rest := []) St hK hT hA hP hD hS hl.1 [1] [0, 2] rfl rfl rfl (c_t_takeSignF l g ta ab sz ln kd bg nx (-1) fb 40 hln hnx hbg hkd hTk) (cwV 1 hts (zgL (zl4 k300 k301 k302 k277) k286) rfl rfl rfl (by decide +kernel) ⟨Nat.le_of_ble_eq_true rfl, Nat.le_of_ble_eq_true rfl⟩) rfl rfl rfl rfl (Nat.le_of_ble_eq_true rfl) dX2_readDeeper_6 ⟨(Nat.le_of_ble_eq_true rfl), (Nat.le_of_ble_eq_true rfl)⟩ (fun u_ H locs hq5 hP hD hS => ?_)
  obtain ⟨kd2_1, bg2_2, nx2_3, q_4⟩ := u_
  replace hq5 : (0 ≤ nx2_3.toInt ∧ nx2_3.toInt ≤ 400) ∧ (0 ≤ bg2_2.toInt ∧ bg2_2.toInt ≤ 400) ∧ (zKd kd2_1.toInt bg2_2.toInt nx2_3.toInt) ∧ (zTk fb ln.toInt kd2_1.toInt bg2_2.toInt nx2_3.toInt) ∧ (q_4 = 1 ∧ zisS fb ln.toInt bg.toInt (40 : Int32).toInt ∧ zMv fb ln.toInt bg.toInt bg2_2.toInt ∨ q_4 = 0 ∧ ¬ zisS fb ln.toInt bg.toInt (40 : Int32).toInt ∧ kd = kd2_1 ∧ bg = bg2_2 ∧ nx = nx2_3) := hq5
  have hP : va_P g.1 vwCl (List.flatten [bLT g lt ta lo, bLaw g lo lc lz ll lm lg ld fc, bTape g ta ab sz ln kd2_1 bg2_2 nx2_3 (-1) fb]) H := hP
  have hD : va_D A (List.flatten [bLT g lt ta lo, bLaw g lo lc lz ll lm lg ld fc, bTape g ta ab sz ln kd2_1 bg2_2 nx2_3 (-1) fb]) := hD
  refine W.widen (k := 0) (n := 0) (Nat.le_of_ble_eq_true rfl) (Nat.le_of_ble_eq_true rfl) ?_
  refine W.eq (g2 := F0 m 9 ls [.int q_4]) rfl ?_
  obtain ⟨hq5_0, hq5_1, hq5_2, hq5_3, hq5_4⟩ := hq5
  rcases hq5_4 with ⟨rfl, hq5_k, hq5_km⟩ | ⟨rfl, hq5_k, rfl, rfl, rfl⟩
  · skip
    refine lv_if_eq (tgt := 48) hx hb dX2_readDeeper_9 (by decide) (fun c6 => absurd c6 (by decide)) (fun _ => ?_)
    have w7 := zMv_lt (f := fb) (n := ln.toInt) (by omega) (zisS_z hq5_k) hq5_km
    refine lv_aload_n hx hb dX2_readDeeper_12 rfl (lv_at hl 0 rfl) ?_
    refine lv_iload_n hx hb dX2_readDeeper_13 rfl (lv_at hl 1 rfl) ?_
    refine mcallV' (g := g) (q0 := 0) (ci := 2) (As := [.int 6]) (rest := []) St hK hT hA hP hD hS hl.1 [0, 2, 1] [] rfl rfl rfl (c_lt_readCondition6C l g lt ta lo ab sz ln kd2_1 bg2_2 nx2_3 fb lc lz ll lm lg ld fc b_lz hln hq5_0 hq5_1 hq5_2 hq5_3 (by first | assumption | omega | decide | exact Or.inl (by decide) | exact Or.inr (by decide))) (cwV 1 hts (zgL (zl4 k324 k325 k326 k309) k316) rfl rfl rfl (by decide +kernel) ⟨Nat.le_of_ble_eq_true rfl, Nat.le_of_ble_eq_true rfl⟩) rfl rfl rfl rfl (Nat.le_of_ble_eq_true rfl) dX2_readDeeper_14 ⟨(Nat.le_of_ble_eq_true rfl), (Nat.le_of_ble_eq_true rfl)⟩ (fun u_ H locs hq15 hP hD hS => ?_)
    obtain ⟨kd2_8, bg2_9, nx2_10, ft2_11, lz2_12, fc2_13, q_14⟩ := u_
    replace hq15 : (0 ≤ lz2_12.toInt ∧ lz2_12.toInt ≤ 400) ∧ (-1 ≤ ft2_11.toInt) ∧ (0 ≤ nx2_10.toInt ∧ nx2_10.toInt ≤ 400) ∧ (0 ≤ bg2_9.toInt ∧ bg2_9.toInt ≤ 400) ∧ (zKd kd2_8.toInt bg2_9.toInt nx2_10.toInt) ∧ (zTk fb ln.toInt kd2_8.toInt bg2_9.toInt nx2_10.toInt) ∧ (q_14 = 1 ∧ zCond fb ln.toInt (zAtom fb ln.toInt 0) bg2_2.toInt (.ok bg2_9.toInt) ∧ (-1) = ft2_11 ∧ zAC (fun e9 v9 => zCv fb ln.toInt (zAv fb ln.toInt e9 0) false true bg2_2.toInt bg2_9.toInt v9) bg2_2.toInt bg2_9.toInt fc fc2_13 lz.toInt lz2_12.toInt ∨ q_14 = 0 ∧ zCond fb ln.toInt (zAtom fb ln.toInt 0) bg2_2.toInt (.bad ft2_11.toInt)) := hq15
    have hP : va_P g.1 vwCl (List.flatten [bLT g lt ta lo, bTape g ta ab sz ln kd2_8 bg2_9 nx2_10 ft2_11 fb, bLaw g lo lc lz2_12 ll lm lg ld fc2_13]) H := hP
    have hD : va_D A (List.flatten [bLT g lt ta lo, bTape g ta ab sz ln kd2_8 bg2_9 nx2_10 ft2_11 fb, bLaw g lo lc lz2_12 ll lm lg ld fc2_13]) := hD
    refine W.widen (k := 0) (n := 0) (Nat.le_of_ble_eq_true rfl) (Nat.le_of_ble_eq_true rfl) ?_
    refine W.eq (g2 := F0 m 17 ls [.int q_14]) rfl ?_
    obtain ⟨hq15_0, hq15_1, hq15_2, hq15_3, hq15_4, hq15_5, hq15_6⟩ := hq15
    rcases hq15_6 with ⟨rfl, hq15_k, rfl, hq15_kc⟩ | ⟨rfl, hq15_k⟩
    · skip
      have w16 := hq15_kc.1
      refine lv_if_eq (tgt := 46) hx hb dX2_readDeeper_17 (by decide) (fun c17 => absurd c17 (by decide)) (fun _ => ?_)
      refine lv_aload_n hx hb dX2_readDeeper_20 rfl (lv_at hl 0 rfl) ?_
      refine va_get (D := g.1) (ci := 2) (v := .ref ta) (C := RX2) (T := TX2) (N := 2) hx hb hts izRX2 hown hK hP 0 rfl rfl 0 (by decide) (hts _ k290) (fun x9 h9 => u_same (hts _ k291) x9 h9) rfl dX2_readDeeper_21 ?_
      refine lv_bipush (v := 41) hx hb dX2_readDeeper_24 (by decide) ?_
      have hL41 : (41 : Int32).toInt = 41 := by decide
      refine mcallV' (g := g) (q0 := 0) (ci := 6) (As := [.int 41]) (rest := []) St hK hT hA hP hD hS hl.1 [1] [0, 2] rfl rfl rfl (c_t_takeSignF l g ta ab sz ln kd2_8 bg2_9 nx2_10 (-1) fb 41 hln hq15_2 hq15_3 hq15_4 hq15_5) (cwV 1 hts (zgL (zl4 k300 k301 k302 k277) k286) rfl rfl rfl (by decide +kernel) ⟨Nat.le_of_ble_eq_true rfl, Nat.le_of_ble_eq_true rfl⟩) rfl rfl rfl rfl (Nat.le_of_ble_eq_true rfl) dX2_readDeeper_26 ⟨(Nat.le_of_ble_eq_true rfl), (Nat.le_of_ble_eq_true rfl)⟩ (fun u_ H locs hq22 hP hD hS => ?_)
      obtain ⟨kd2_18, bg2_19, nx2_20, q_21⟩ := u_
      replace hq22 : (0 ≤ nx2_20.toInt ∧ nx2_20.toInt ≤ 400) ∧ (0 ≤ bg2_19.toInt ∧ bg2_19.toInt ≤ 400) ∧ (zKd kd2_18.toInt bg2_19.toInt nx2_20.toInt) ∧ (zTk fb ln.toInt kd2_18.toInt bg2_19.toInt nx2_20.toInt) ∧ (q_21 = 1 ∧ zisS fb ln.toInt bg2_9.toInt (41 : Int32).toInt ∧ zMv fb ln.toInt bg2_9.toInt bg2_19.toInt ∨ q_21 = 0 ∧ ¬ zisS fb ln.toInt bg2_9.toInt (41 : Int32).toInt ∧ kd2_8 = kd2_18 ∧ bg2_9 = bg2_19 ∧ nx2_10 = nx2_20) := hq22
      have hP : va_P g.1 vwCl (List.flatten [bLT g lt ta lo, bLaw g lo lc lz2_12 ll lm lg ld fc2_13, bTape g ta ab sz ln kd2_18 bg2_19 nx2_20 (-1) fb]) H := hP
      have hD : va_D A (List.flatten [bLT g lt ta lo, bLaw g lo lc lz2_12 ll lm lg ld fc2_13, bTape g ta ab sz ln kd2_18 bg2_19 nx2_20 (-1) fb]) := hD
      refine W.widen (k := 0) (n := 0) (Nat.le_of_ble_eq_true rfl) (Nat.le_of_ble_eq_true rfl) ?_
      refine W.eq (g2 := F0 m 29 ls [.int q_21]) rfl ?_
      obtain ⟨hq22_0, hq22_1, hq22_2, hq22_3, hq22_4⟩ := hq22
      rcases hq22_4 with ⟨rfl, hq22_k, hq22_km⟩ | ⟨rfl, hq22_k, rfl, rfl, rfl⟩
      · skip
        refine lv_if_ne (tgt := 42) hx hb dX2_readDeeper_29 (by decide) (fun _ => ?_) (fun c23 => absurd c23 (by decide))
        have w24 := zMv_lt (f := fb) (n := ln.toInt) (by omega) (zisS_z hq22_k) hq22_km
        refine lv_iconst (v := 1) hx hb dX2_readDeeper_42 (by decide) ?_
        refine lv_goto (tgt := 47) hx hb dX2_readDeeper_43 (by decide) ?_
        have hP : va_P g.1 vwCl (List.flatten [bLT g lt ta lo, bLaw g lo lc lz2_12 ll lm lg ld fc2_13, bTape g ta ab sz ln kd2_18 bg2_19 nx2_20 (-1) fb]) H := hP
        have hD : va_D A (List.flatten [bLT g lt ta lo, bLaw g lo lc lz2_12 ll lm lg ld fc2_13, bTape g ta ab sz ln kd2_18 bg2_19 nx2_20 (-1) fb]) := hD
        obtain ⟨hP, hD⟩ := zord (g := g) (Bs' := [bLT g lt ta lo, bTape g ta ab sz ln kd2_18 bg2_19 nx2_20 (-1) fb, bLaw g lo lc lz2_12 ll lm lg ld fc2_13]) [0, 2, 1] rfl rfl hP hD
        exact mret_z hx hb hr hlocks hS (Nat.le_of_ble_eq_true rfl) (Nat.le_of_ble_eq_true rfl) dX2_readDeeper_47 (kd2_18, bg2_19, nx2_20, -1, lz2_12, fc2_13, (1 : Int32)) rfl (by decide) (show (0 ≤ lz2_12.toInt ∧ lz2_12.toInt ≤ 400) ∧ (-1 ≤ ((-1) : Int32).toInt) ∧ (0 ≤ nx2_20.toInt ∧ nx2_20.toInt ≤ 400) ∧ (0 ≤ bg2_19.toInt ∧ bg2_19.toInt ≤ 400) ∧ (zKd kd2_18.toInt bg2_19.toInt nx2_20.toInt) ∧ (zTk fb ln.toInt kd2_18.toInt bg2_19.toInt nx2_20.toInt) ∧ (1 = 1 ∧ zDpr fb ln.toInt 0 bg.toInt (.ok bg2_19.toInt) ∧ (-1) = (-1) ∧ zAC (fun e9 v9 => zDv fb ln.toInt e9 0 bg.toInt bg2_19.toInt v9) bg.toInt bg2_19.toInt fc fc2_13 lz.toInt lz2_12.toInt ∨ 1 = 0 ∧ zDpr fb ln.toInt 0 bg.toInt (.bad ((-1) : Int32).toInt)) from ⟨(by first | assumption | omega | exact Or.inl (by decide) | exact Or.inr (by omega)), (by decide), (by first | assumption | omega | exact Or.inl (by decide) | exact Or.inr (by omega)), (by first | assumption | omega | exact Or.inl (by decide) | exact Or.inr (by omega)), (by first | assumption | omega | exact Or.inl (by decide) | exact Or.inr (by omega)), (by assumption), (Or.inl ⟨rfl, zDp_p hq5_k hq5_km (zPar_shut hq15_k hq22_k hq22_km), rfl, (zAC_par hq5_k (by decide) hq5_km hq15_kc hq22_k (by decide) hq22_km (by omega) (by omega))⟩)⟩) hP hD
      · skip
        refine lv_if_ne (tgt := 42) hx hb dX2_readDeeper_29 (by decide) (fun c25 => absurd (by decide) c25) (fun _ => ?_)
        refine lv_aload_n hx hb dX2_readDeeper_32 rfl (lv_at hl 0 rfl) ?_
        refine va_get (D := g.1) (ci := 2) (v := .ref ta) (C := RX2) (T := TX2) (N := 2) hx hb hts izRX2 hown hK hP 0 rfl rfl 0 (by decide) (hts _ k290) (fun x9 h9 => u_same (hts _ k291) x9 h9) rfl dX2_readDeeper_33 ?_
        refine mcallV' (g := g) (q0 := 0) (ci := 6) (As := []) (rest := []) St hK hT hA hP hD hS hl.1 [2] [0, 1] rfl rfl rfl (c_t_refuseF l g ta ab sz ln kd2_8 bg2_9 nx2_10 fb ) (cwV 0 hts (zgL (zl4 k303 k279 k280 k277) k269) rfl rfl rfl (by decide +kernel) ⟨Nat.le_of_ble_eq_true rfl, Nat.le_of_ble_eq_true rfl⟩) rfl rfl rfl rfl (Nat.le_of_ble_eq_true rfl) dX2_readDeeper_36 ⟨(Nat.le_of_ble_eq_true rfl), (Nat.le_of_ble_eq_true rfl)⟩ (fun _u H locs hq26 hP hD hS => ?_)
        have hP : va_P g.1 vwCl (List.flatten [bLT g lt ta lo, bLaw g lo lc lz2_12 ll lm lg ld fc2_13, bTape g ta ab sz ln kd2_8 bg2_9 nx2_10 bg2_9 fb]) H := hP
        have hD : va_D A (List.flatten [bLT g lt ta lo, bLaw g lo lc lz2_12 ll lm lg ld fc2_13, bTape g ta ab sz ln kd2_8 bg2_9 nx2_10 bg2_9 fb]) := hD
        refine W.widen (k := 0) (n := 0) (Nat.le_of_ble_eq_true rfl) (Nat.le_of_ble_eq_true rfl) ?_
        refine W.eq (g2 := F0 m 39 ls [.int 0]) rfl ?_
        refine lv_if_eq (tgt := 46) hx hb dX2_readDeeper_39 (by decide) (fun _ => ?_) (fun c27 => absurd (by decide) c27)
        refine lv_iconst (v := 0) hx hb dX2_readDeeper_46 (by decide) ?_
        have hP : va_P g.1 vwCl (List.flatten [bLT g lt ta lo, bLaw g lo lc lz2_12 ll lm lg ld fc2_13, bTape g ta ab sz ln kd2_8 bg2_9 nx2_10 bg2_9 fb]) H := hP
        have hD : va_D A (List.flatten [bLT g lt ta lo, bLaw g lo lc lz2_12 ll lm lg ld fc2_13, bTape g ta ab sz ln kd2_8 bg2_9 nx2_10 bg2_9 fb]) := hD
        obtain ⟨hP, hD⟩ := zord (g := g) (Bs' := [bLT g lt ta lo, bTape g ta ab sz ln kd2_8 bg2_9 nx2_10 bg2_9 fb, bLaw g lo lc lz2_12 ll lm lg ld fc2_13]) [0, 2, 1] rfl rfl hP hD
        exact mret_z hx hb hr hlocks hS (Nat.le_of_ble_eq_true rfl) (Nat.le_of_ble_eq_true rfl) dX2_readDeeper_47 (kd2_8, bg2_9, nx2_10, bg2_9, lz2_12, fc2_13, (0 : Int32)) rfl (by decide) (show (0 ≤ lz2_12.toInt ∧ lz2_12.toInt ≤ 400) ∧ (-1 ≤ bg2_9.toInt) ∧ (0 ≤ nx2_10.toInt ∧ nx2_10.toInt ≤ 400) ∧ (0 ≤ bg2_9.toInt ∧ bg2_9.toInt ≤ 400) ∧ (zKd kd2_8.toInt bg2_9.toInt nx2_10.toInt) ∧ (zTk fb ln.toInt kd2_8.toInt bg2_9.toInt nx2_10.toInt) ∧ (0 = 1 ∧ zDpr fb ln.toInt 0 bg.toInt (.ok bg2_9.toInt) ∧ (-1) = bg2_9 ∧ zAC (fun e9 v9 => zDv fb ln.toInt e9 0 bg.toInt bg2_9.toInt v9) bg.toInt bg2_9.toInt fc fc2_13 lz.toInt lz2_12.toInt ∨ 0 = 0 ∧ zDpr fb ln.toInt 0 bg.toInt (.bad bg2_9.toInt)) from ⟨(by first | assumption | omega | exact Or.inl (by decide) | exact Or.inr (by omega)), (by first | decide | omega), (by first | assumption | omega | exact Or.inl (by decide) | exact Or.inr (by omega)), (by first | assumption | omega | exact Or.inl (by decide) | exact Or.inr (by omega)), (by first | assumption | omega | exact Or.inl (by decide) | exact Or.inr (by omega)), (by assumption), (Or.inr ⟨rfl, zDp_p hq5_k hq5_km (.open_ hq15_k hq22_k)⟩)⟩) hP hD
    · skip
      refine lv_if_eq (tgt := 46) hx hb dX2_readDeeper_17 (by decide) (fun _ => ?_) (fun c28 => absurd (by decide) c28)
      refine lv_iconst (v := 0) hx hb dX2_readDeeper_46 (by decide) ?_
      have hP : va_P g.1 vwCl (List.flatten [bLT g lt ta lo, bTape g ta ab sz ln kd2_8 bg2_9 nx2_10 ft2_11 fb, bLaw g lo lc lz2_12 ll lm lg ld fc2_13]) H := hP
      have hD : va_D A (List.flatten [bLT g lt ta lo, bTape g ta ab sz ln kd2_8 bg2_9 nx2_10 ft2_11 fb, bLaw g lo lc lz2_12 ll lm lg ld fc2_13]) := hD
      exact mret_z hx hb hr hlocks hS (Nat.le_of_ble_eq_true rfl) (Nat.le_of_ble_eq_true rfl) dX2_readDeeper_47 (kd2_8, bg2_9, nx2_10, ft2_11, lz2_12, fc2_13, (0 : Int32)) rfl (by decide) (show (0 ≤ lz2_12.toInt ∧ lz2_12.toInt ≤ 400) ∧ (-1 ≤ ft2_11.toInt) ∧ (0 ≤ nx2_10.toInt ∧ nx2_10.toInt ≤ 400) ∧ (0 ≤ bg2_9.toInt ∧ bg2_9.toInt ≤ 400) ∧ (zKd kd2_8.toInt bg2_9.toInt nx2_10.toInt) ∧ (zTk fb ln.toInt kd2_8.toInt bg2_9.toInt nx2_10.toInt) ∧ (0 = 1 ∧ zDpr fb ln.toInt 0 bg.toInt (.ok bg2_9.toInt) ∧ (-1) = ft2_11 ∧ zAC (fun e9 v9 => zDv fb ln.toInt e9 0 bg.toInt bg2_9.toInt v9) bg.toInt bg2_9.toInt fc fc2_13 lz.toInt lz2_12.toInt ∨ 0 = 0 ∧ zDpr fb ln.toInt 0 bg.toInt (.bad ft2_11.toInt)) from ⟨(by first | assumption | omega | exact Or.inl (by decide) | exact Or.inr (by omega)), (by first | decide | omega), (by first | assumption | omega | exact Or.inl (by decide) | exact Or.inr (by omega)), (by first | assumption | omega | exact Or.inl (by decide) | exact Or.inr (by omega)), (by first | assumption | omega | exact Or.inl (by decide) | exact Or.inr (by omega)), (by assumption), (Or.inr ⟨rfl, zDp_p hq5_k hq5_km (.wrong hq15_k)⟩)⟩) hP hD
  · skip
    refine lv_if_eq (tgt := 48) hx hb dX2_readDeeper_9 (by decide) (fun _ => ?_) (fun c29 => absurd (by decide) c29)
    refine lv_aload_n hx hb dX2_readDeeper_48 rfl (lv_at hl 0 rfl) ?_
    refine va_get (D := g.1) (ci := 2) (v := .ref ta) (C := RX2) (T := TX2) (N := 2) hx hb hts izRX2 hown hK hP 0 rfl rfl 0 (by decide) (hts _ k290) (fun x9 h9 => u_same (hts _ k291) x9 h9) rfl dX2_readDeeper_49 ?_
    refine mcallV' (g := g) (q0 := 0) (ci := 6) (As := []) (rest := []) St hK hT hA hP hD hS hl.1 [2] [0, 1] rfl rfl rfl (c_t_stepF l g ta ab sz ln kd bg nx (-1) fb hln hnx) (cwV 0 hts (zgL (zl4 k296 k275 k276 k277) k271) rfl rfl rfl (by decide +kernel) ⟨Nat.le_of_ble_eq_true rfl, Nat.le_of_ble_eq_true rfl⟩) rfl rfl rfl rfl (Nat.le_of_ble_eq_true rfl) dX2_readDeeper_52 ⟨(Nat.le_of_ble_eq_true rfl), (Nat.le_of_ble_eq_true rfl)⟩ (fun u_ H locs hq33 hP hD hS => ?_)
    obtain ⟨kd2_30, bg2_31, nx2_32⟩ := u_
    replace hq33 : (0 ≤ nx2_32.toInt ∧ nx2_32.toInt ≤ 400) ∧ (0 ≤ bg2_31.toInt ∧ bg2_31.toInt ≤ 400) ∧ (zKd kd2_30.toInt bg2_31.toInt nx2_32.toInt) ∧ (zSk fb ln.toInt nx.toInt bg2_31.toInt) ∧ (zTk fb ln.toInt kd2_30.toInt bg2_31.toInt nx2_32.toInt) := hq33
    have hP : va_P g.1 vwCl (List.flatten [bLT g lt ta lo, bLaw g lo lc lz ll lm lg ld fc, bTape g ta ab sz ln kd2_30 bg2_31 nx2_32 (-1) fb]) H := hP
    have hD : va_D A (List.flatten [bLT g lt ta lo, bLaw g lo lc lz ll lm lg ld fc, bTape g ta ab sz ln kd2_30 bg2_31 nx2_32 (-1) fb]) := hD
    refine W.widen (k := 0) (n := 0) (Nat.le_of_ble_eq_true rfl) (Nat.le_of_ble_eq_true rfl) ?_
    refine W.eq (g2 := F0 m 55 ls []) rfl ?_
    obtain ⟨hq33_0, hq33_1, hq33_2, hq33_3, hq33_4⟩ := hq33
    have w34 := zMv_lt (f := fb) (n := ln.toInt) (by omega) (zDeep_z hdp) (zMv_mk hTk hq33_3)
    refine lv_aload_n hx hb dX2_readDeeper_55 rfl (lv_at hl 0 rfl) ?_
    refine lv_iload_n hx hb dX2_readDeeper_56 rfl (lv_at hl 1 rfl) ?_
    refine mcallV' (g := g) (q0 := 0) (ci := 2) (As := [.int 6]) (rest := []) St hK hT hA hP hD hS hl.1 [0, 2, 1] [] rfl rfl rfl (c_lt_readAtom6C l g lt ta lo ab sz ln kd2_30 bg2_31 nx2_32 fb lc lz ll lm lg ld fc b_lz hln hq33_0 hq33_1 hq33_2 hq33_4 (by first | assumption | omega | decide | exact Or.inl (by decide) | exact Or.inr (by decide))) (cwV 1 hts (zgL (zl4 k317 k318 k319 k309) k327) rfl rfl rfl (by decide +kernel) ⟨Nat.le_of_ble_eq_true rfl, Nat.le_of_ble_eq_true rfl⟩) rfl rfl rfl rfl (Nat.le_of_ble_eq_true rfl) dX2_readDeeper_57 ⟨(Nat.le_of_ble_eq_true rfl), (Nat.le_of_ble_eq_true rfl)⟩ (fun u_ H locs hq42 hP hD hS => ?_)
    obtain ⟨kd2_35, bg2_36, nx2_37, ft2_38, lz2_39, fc2_40, q_41⟩ := u_
    replace hq42 : (0 ≤ lz2_39.toInt ∧ lz2_39.toInt ≤ 400) ∧ (-1 ≤ ft2_38.toInt) ∧ (0 ≤ nx2_37.toInt ∧ nx2_37.toInt ≤ 400) ∧ (0 ≤ bg2_36.toInt ∧ bg2_36.toInt ≤ 400) ∧ (zKd kd2_35.toInt bg2_36.toInt nx2_37.toInt) ∧ (zTk fb ln.toInt kd2_35.toInt bg2_36.toInt nx2_37.toInt) ∧ (q_41 = 1 ∧ zAtom fb ln.toInt 0 bg2_31.toInt (.ok bg2_36.toInt) ∧ (-1) = ft2_38 ∧ zAC (fun e9 v9 => zAv fb ln.toInt e9 0 bg2_31.toInt bg2_36.toInt v9) bg2_31.toInt bg2_36.toInt fc fc2_40 lz.toInt lz2_39.toInt ∨ q_41 = 0 ∧ zAtom fb ln.toInt 0 bg2_31.toInt (.bad ft2_38.toInt)) := hq42
    have hP : va_P g.1 vwCl (List.flatten [bLT g lt ta lo, bTape g ta ab sz ln kd2_35 bg2_36 nx2_37 ft2_38 fb, bLaw g lo lc lz2_39 ll lm lg ld fc2_40]) H := hP
    have hD : va_D A (List.flatten [bLT g lt ta lo, bTape g ta ab sz ln kd2_35 bg2_36 nx2_37 ft2_38 fb, bLaw g lo lc lz2_39 ll lm lg ld fc2_40]) := hD
    refine W.widen (k := 0) (n := 0) (Nat.le_of_ble_eq_true rfl) (Nat.le_of_ble_eq_true rfl) ?_
    refine W.eq (g2 := F0 m 60 ls [.int q_41]) rfl ?_
    obtain ⟨hq42_0, hq42_1, hq42_2, hq42_3, hq42_4, hq42_5, hq42_6⟩ := hq42
    rcases hq42_6 with ⟨rfl, hq42_k, rfl, hq42_kc⟩ | ⟨rfl, hq42_k⟩
    · skip
      have w43 := hq42_kc.1
      refine lv_if_ne (tgt := 65) hx hb dX2_readDeeper_60 (by decide) (fun _ => ?_) (fun c44 => absurd c44 (by decide))
      refine lv_aload_n hx hb dX2_readDeeper_65 rfl (lv_at hl 0 rfl) ?_
      refine va_get (D := g.1) (ci := 2) (v := .ref lo) (C := RX2) (T := TX2) (N := 2) hx hb hts izRX2 hown hK hP 0 rfl rfl 1 (by decide) (hts _ k210) (fun _ h9 => h9) rfl dX2_readDeeper_66 ?_
      refine lv_bipush (v := 12) hx hb dX2_readDeeper_69 (by decide) ?_
      refine lv_iconst (v := 0) hx hb dX2_readDeeper_71 (by decide) ?_
      refine mcallV' (g := g) (q0 := 0) (ci := 1) (As := [.int 12, .int 0]) (rest := []) St hK hT hA hP hD hS hl.1 [2] [0, 1] rfl rfl rfl (c_l_putC l g lo lc lz2_39 ll lm lg ld fc2_40 12 0 hq42_0 (by first | assumption | omega | decide | exact Or.inl (by decide) | exact Or.inr (by decide))) (cwV 2 hts (zgL (zl4 k297 k298 k299 k85) k202) rfl rfl rfl (by decide +kernel) ⟨Nat.le_of_ble_eq_true rfl, Nat.le_of_ble_eq_true rfl⟩) rfl rfl rfl rfl (Nat.le_of_ble_eq_true rfl) dX2_readDeeper_72 ⟨(Nat.le_of_ble_eq_true rfl), (Nat.le_of_ble_eq_true rfl)⟩ (fun u_ H locs hq47 hP hD hS => ?_)
      obtain ⟨lz2_45, fc2_46⟩ := u_
      replace hq47 : (0 ≤ lz2_45.toInt ∧ lz2_45.toInt ≤ 400) ∧ (lz2_45.toInt = lz2_39.toInt + 1) ∧ (fc2_46 = upd fc2_40 lz2_39.toInt.toNat (12 + 32 * 0)) := hq47
      have hP : va_P g.1 vwCl (List.flatten [bLT g lt ta lo, bTape g ta ab sz ln kd2_35 bg2_36 nx2_37 (-1) fb, bLaw g lo lc lz2_45 ll lm lg ld fc2_46]) H := hP
      have hD : va_D A (List.flatten [bLT g lt ta lo, bTape g ta ab sz ln kd2_35 bg2_36 nx2_37 (-1) fb, bLaw g lo lc lz2_45 ll lm lg ld fc2_46]) := hD
      refine W.widen (k := 0) (n := 0) (Nat.le_of_ble_eq_true rfl) (Nat.le_of_ble_eq_true rfl) ?_
      refine W.eq (g2 := F0 m 75 ls [.int lz2_39]) rfl ?_
      obtain ⟨hq47_0, hq47_1, hq47_2⟩ := hq47
      refine lv_pop hx hb dX2_readDeeper_75 rfl ?_
      refine lv_iconst (v := 1) hx hb dX2_readDeeper_76 (by decide) ?_
      have hP : va_P g.1 vwCl (List.flatten [bLT g lt ta lo, bTape g ta ab sz ln kd2_35 bg2_36 nx2_37 (-1) fb, bLaw g lo lc lz2_45 ll lm lg ld fc2_46]) H := hP
      have hD : va_D A (List.flatten [bLT g lt ta lo, bTape g ta ab sz ln kd2_35 bg2_36 nx2_37 (-1) fb, bLaw g lo lc lz2_45 ll lm lg ld fc2_46]) := hD
      exact mret_z hx hb hr hlocks hS (Nat.le_of_ble_eq_true rfl) (Nat.le_of_ble_eq_true rfl) dX2_readDeeper_77 (kd2_35, bg2_36, nx2_37, -1, lz2_45, fc2_46, (1 : Int32)) rfl (by decide) (show (0 ≤ lz2_45.toInt ∧ lz2_45.toInt ≤ 400) ∧ (-1 ≤ ((-1) : Int32).toInt) ∧ (0 ≤ nx2_37.toInt ∧ nx2_37.toInt ≤ 400) ∧ (0 ≤ bg2_36.toInt ∧ bg2_36.toInt ≤ 400) ∧ (zKd kd2_35.toInt bg2_36.toInt nx2_37.toInt) ∧ (zTk fb ln.toInt kd2_35.toInt bg2_36.toInt nx2_37.toInt) ∧ (1 = 1 ∧ zDpr fb ln.toInt 0 bg.toInt (.ok bg2_36.toInt) ∧ (-1) = (-1) ∧ zAC (fun e9 v9 => zDv fb ln.toInt e9 0 bg.toInt bg2_36.toInt v9) bg.toInt bg2_36.toInt fc fc2_46 lz.toInt lz2_45.toInt ∨ 1 = 0 ∧ zDpr fb ln.toInt 0 bg.toInt (.bad ((-1) : Int32).toInt)) from ⟨(by first | assumption | omega | exact Or.inl (by decide) | exact Or.inr (by omega)), (by decide), (by first | assumption | omega | exact Or.inl (by decide) | exact Or.inr (by omega)), (by first | assumption | omega | exact Or.inl (by decide) | exact Or.inr (by omega)), (by first | assumption | omega | exact Or.inl (by decide) | exact Or.inr (by omega)), (by assumption), (Or.inl ⟨rfl, zDp_n hq5_k (zMv_mk hTk hq33_3) hq42_k, rfl, (zAC_not (by omega) hq5_k (by decide) (zMv_mk hTk hq33_3) hq42_kc (by decide) hq47_2 hq47_1 w34)⟩)⟩) hP hD
    · skip
      refine lv_if_ne (tgt := 65) hx hb dX2_readDeeper_60 (by decide) (fun c48 => absurd (by decide) c48) (fun _ => ?_)
      refine lv_iconst (v := 0) hx hb dX2_readDeeper_63 (by decide) ?_
      have hP : va_P g.1 vwCl (List.flatten [bLT g lt ta lo, bTape g ta ab sz ln kd2_35 bg2_36 nx2_37 ft2_38 fb, bLaw g lo lc lz2_39 ll lm lg ld fc2_40]) H := hP
      have hD : va_D A (List.flatten [bLT g lt ta lo, bTape g ta ab sz ln kd2_35 bg2_36 nx2_37 ft2_38 fb, bLaw g lo lc lz2_39 ll lm lg ld fc2_40]) := hD
      exact mret_z hx hb hr hlocks hS (Nat.le_of_ble_eq_true rfl) (Nat.le_of_ble_eq_true rfl) dX2_readDeeper_64 (kd2_35, bg2_36, nx2_37, ft2_38, lz2_39, fc2_40, (0 : Int32)) rfl (by decide) (show (0 ≤ lz2_39.toInt ∧ lz2_39.toInt ≤ 400) ∧ (-1 ≤ ft2_38.toInt) ∧ (0 ≤ nx2_37.toInt ∧ nx2_37.toInt ≤ 400) ∧ (0 ≤ bg2_36.toInt ∧ bg2_36.toInt ≤ 400) ∧ (zKd kd2_35.toInt bg2_36.toInt nx2_37.toInt) ∧ (zTk fb ln.toInt kd2_35.toInt bg2_36.toInt nx2_37.toInt) ∧ (0 = 1 ∧ zDpr fb ln.toInt 0 bg.toInt (.ok bg2_36.toInt) ∧ (-1) = ft2_38 ∧ zAC (fun e9 v9 => zDv fb ln.toInt e9 0 bg.toInt bg2_36.toInt v9) bg.toInt bg2_36.toInt fc fc2_40 lz.toInt lz2_39.toInt ∨ 0 = 0 ∧ zDpr fb ln.toInt 0 bg.toInt (.bad ft2_38.toInt)) from ⟨(by first | assumption | omega | exact Or.inl (by decide) | exact Or.inr (by omega)), (by first | decide | omega), (by first | assumption | omega | exact Or.inl (by decide) | exact Or.inr (by omega)), (by first | assumption | omega | exact Or.inl (by decide) | exact Or.inr (by omega)), (by first | assumption | omega | exact Or.inl (by decide) | exact Or.inr (by omega)), (by assumption), (Or.inr ⟨rfl, zDp_n hq5_k (zMv_mk hTk hq33_3) hq42_k⟩)⟩) hP hD
set_option maxRecDepth 100000 in
set_option maxHeartbeats 4000000 in
theorem c_lt_readAtom5C (l : Launch) (g : zG) (lt : Nat) (ta : Nat) (lo : Nat) (ab : Nat) (sz : Int32) (ln : Int32) (kd : Int32) (bg : Int32) (nx : Int32) (fb : Nat → Int32) (lc : Nat) (lz : Int32) (ll : Int32) (lm : Int32) (lg : Int32) (ld : Int32) (fc : Nat → Int32) (b_lz : 0 ≤ lz.toInt ∧ lz.toInt ≤ 400) (hln : 0 ≤ ln.toInt ∧ ln.toInt ≤ 400) (hnx : 0 ≤ nx.toInt ∧ nx.toInt ≤ 400) (hbg : 0 ≤ bg.toInt ∧ bg.toInt ≤ 400) (hkd : zKd kd.toInt bg.toInt nx.toInt) (hTk : zTk fb ln.toInt kd.toInt bg.toInt nx.toInt) (hlb : lz.toInt + 2 ≤ bg.toInt) : zM' g l yX2_readAtom (Cond.code yX2_readAtom cX2_readAtom 3 (some .boolean) :: zB) ({ frames := 9, cells := 0, slots := 0, locals := 197 } : Room) [.ref lt, .int 5] [bLT g lt ta lo, bTape g ta ab sz ln kd bg nx (-1) fb, bLaw g lo lc lz ll lm lg ld fc] (fun u : Int32 × Int32 × Int32 × Int32 × Int32 × (Nat → Int32) × Int32 => (fun (kd2 : Int32) (bg2 : Int32) (nx2 : Int32) (ft2 : Int32) (lz2 : Int32) (fc2 : Nat → Int32) (q : Int32) => some (.int q)) (u.1) (u.2.1) (u.2.2.1) (u.2.2.2.1) (u.2.2.2.2.1) (u.2.2.2.2.2.1) (u.2.2.2.2.2.2)) (fun u : Int32 × Int32 × Int32 × Int32 × Int32 × (Nat → Int32) × Int32 => (fun (kd2 : Int32) (bg2 : Int32) (nx2 : Int32) (ft2 : Int32) (lz2 : Int32) (fc2 : Nat → Int32) (q : Int32) => (0 ≤ lz2.toInt ∧ lz2.toInt ≤ 400) ∧ (-1 ≤ ft2.toInt) ∧ (0 ≤ nx2.toInt ∧ nx2.toInt ≤ 400) ∧ (0 ≤ bg2.toInt ∧ bg2.toInt ≤ 400) ∧ (zKd kd2.toInt bg2.toInt nx2.toInt) ∧ (zTk fb ln.toInt kd2.toInt bg2.toInt nx2.toInt) ∧ (q = 1 ∧ zAtom fb ln.toInt 1 bg.toInt (.ok bg2.toInt) ∧ (-1) = ft2 ∧ zAC (fun e9 v9 => zAv fb ln.toInt e9 1 bg.toInt bg2.toInt v9) bg.toInt bg2.toInt fc fc2 lz.toInt lz2.toInt ∨ q = 0 ∧ zAtom fb ln.toInt 1 bg.toInt (.bad ft2.toInt))) (u.1) (u.2.1) (u.2.2.1) (u.2.2.2.1) (u.2.2.2.2.1) (u.2.2.2.2.2.1) (u.2.2.2.2.2.2)) (fun u : Int32 × Int32 × Int32 × Int32 × Int32 × (Nat → Int32) × Int32 => (fun (kd2 : Int32) (bg2 : Int32) (nx2 : Int32) (ft2 : Int32) (lz2 : Int32) (fc2 : Nat → Int32) (q : Int32) => [bLT g lt ta lo, bTape g ta ab sz ln kd2 bg2 nx2 ft2 fb, bLaw g lo lc lz2 ll lm lg ld fc2]) (u.1) (u.2.1) (u.2.2.1) (u.2.2.2.1) (u.2.2.2.2.1) (u.2.2.2.2.2.1) (u.2.2.2.2.2.2)) := by
  refine zM'.of (cc := cX2_readAtom) (maxL := 3) (rt := (some .boolean)) (by decide) rfl (Nat.le_of_ble_eq_true rfl) ?_
  intro p e s m args below meth c A ls St hr hlocks hin hK hT hA hP hD hS hl
  obtain ⟨hx, hb, hml, hown, hts⟩ := id St
  have hl : lv_has ls 3 [(0, .ref lt), (1, .int 5)] := hl
  refine lv_aload_n hx hb dX2_readAtom_0 rfl (lv_at hl 0 rfl) ?_
  refine va_get (D := g.1) (ci := 2) (v := .ref ta) (C := RX2) (T := TX2) (N := 2) hx hb hts izRX2 hown hK hP 0 rfl rfl 0 (by decide) (hts _ k290) (fun x9 h9 => u_same (hts _ k291) x9 h9) rfl dX2_readAtom_1 ?_
  refine va_ldcS (q := g.2 20) hx hb hown (zra5 hT.2.1) dX2_readAtom_4 ?_
  refine mcallV' (g := g) (q0 := 0) (ci := 6) (As := [.ref (g.2 20)]) (rest := []) St hK hT hA hP hD hS hl.1 [1] [0, 2] rfl rfl rfl (c_t_isWordF l g ta ab sz ln kd bg nx (-1) fb (g.2 20) 5 zqa5 hln hnx hbg hkd hTk rfl zla5 zna5 (zlitB zla5)) (cwV 1 hts (zgL (zl4 k292 k282 k283 k277) k268) rfl rfl rfl (by decide +kernel) ⟨Nat.le_of_ble_eq_true rfl, Nat.le_of_ble_eq_true rfl⟩) rfl rfl rfl rfl (Nat.le_of_ble_eq_true rfl) dX2_readAtom_6 ⟨(Nat.le_of_ble_eq_true rfl), (Nat.le_of_ble_eq_true rfl)⟩ (fun r_1 H locs hq2 hP hD hS => ?_)
  replace hq2 : (r_1 = 1 ∧ zisW fb ln.toInt bg.toInt zqa5.2.2.2 ∨ r_1 = 0 ∧ ¬ zisW fb ln.toInt bg.toInt zqa5.2.2.2) := hq2
  have hP : va_P g.1 vwCl (List.flatten [bLT g lt ta lo, bLaw g lo lc lz ll lm lg ld fc, bTape g ta ab sz ln kd bg nx (-1) fb]) H := hP
  have hD : va_D A (List.flatten [bLT g lt ta lo, bLaw g lo lc lz ll lm lg ld fc, bTape g ta ab sz ln kd bg nx (-1) fb]) := hD
  refine W.widen (k := 0) (n := 0) (Nat.le_of_ble_eq_true rfl) (Nat.le_of_ble_eq_true rfl) ?_
  refine W.eq (g2 := F0 m 9 ls [.int r_1]) rfl ?_
  rcases hq2 with ⟨rfl, hq2_k⟩ | ⟨rfl, hq2_k⟩
  · skip
    refine lv_if_ne (tgt := 24) hx hb dX2_readAtom_9 (by decide) (fun _ => ?_) (fun c3 => absurd c3 (by decide))
    have w4 : zDeep fb ln.toInt bg.toInt := (Or.inl hq2_k)
    refine lv_iload_n hx hb dX2_readAtom_24 rfl (lv_at hl 1 rfl) ?_
    refine lv_bipush (v := 6) hx hb dX2_readAtom_25 (by decide) ?_
    refine lv_icmp_ge (tgt := 40) hx hb dX2_readAtom_27 (by decide) (fun c5 => absurd c5 (by decide)) (fun _ => ?_)
    refine lv_aload_n hx hb dX2_readAtom_30 rfl (lv_at hl 0 rfl) ?_
    refine lv_iload_n hx hb dX2_readAtom_31 rfl (lv_at hl 1 rfl) ?_
    refine lv_iconst (v := 1) hx hb dX2_readAtom_32 (by decide) ?_
    refine lv_iadd hx hb dX2_readAtom_33 ?_
    refine ztop (r := 6) (by decide) ?_
    refine mcallV' (g := g) (q0 := 0) (ci := 2) (As := [.int 6]) (rest := []) St hK hT hA hP hD hS hl.1 [0, 2, 1] [] rfl rfl rfl (c_lt_readDeeper6C l g lt ta lo ab sz ln kd bg nx fb lc lz ll lm lg ld fc b_lz hln hnx hbg hkd hTk hlb w4) (cwV 1 hts (zgL (zl4 k306 k307 k308 k309) k323) rfl rfl rfl (by decide +kernel) ⟨Nat.le_of_ble_eq_true rfl, Nat.le_of_ble_eq_true rfl⟩) rfl rfl rfl rfl (Nat.le_of_ble_eq_true rfl) dX2_readAtom_34 ⟨(Nat.le_of_ble_eq_true rfl), (Nat.le_of_ble_eq_true rfl)⟩ (fun u_ H locs hq13 hP hD hS => ?_)
    obtain ⟨kd2_6, bg2_7, nx2_8, ft2_9, lz2_10, fc2_11, q_12⟩ := u_
    replace hq13 : (0 ≤ lz2_10.toInt ∧ lz2_10.toInt ≤ 400) ∧ (-1 ≤ ft2_9.toInt) ∧ (0 ≤ nx2_8.toInt ∧ nx2_8.toInt ≤ 400) ∧ (0 ≤ bg2_7.toInt ∧ bg2_7.toInt ≤ 400) ∧ (zKd kd2_6.toInt bg2_7.toInt nx2_8.toInt) ∧ (zTk fb ln.toInt kd2_6.toInt bg2_7.toInt nx2_8.toInt) ∧ (q_12 = 1 ∧ zDpr fb ln.toInt 0 bg.toInt (.ok bg2_7.toInt) ∧ (-1) = ft2_9 ∧ zAC (fun e9 v9 => zDv fb ln.toInt e9 0 bg.toInt bg2_7.toInt v9) bg.toInt bg2_7.toInt fc fc2_11 lz.toInt lz2_10.toInt ∨ q_12 = 0 ∧ zDpr fb ln.toInt 0 bg.toInt (.bad ft2_9.toInt)) := hq13
    have hP : va_P g.1 vwCl (List.flatten [bLT g lt ta lo, bTape g ta ab sz ln kd2_6 bg2_7 nx2_8 ft2_9 fb, bLaw g lo lc lz2_10 ll lm lg ld fc2_11]) H := hP
    have hD : va_D A (List.flatten [bLT g lt ta lo, bTape g ta ab sz ln kd2_6 bg2_7 nx2_8 ft2_9 fb, bLaw g lo lc lz2_10 ll lm lg ld fc2_11]) := hD
    refine W.widen (k := 0) (n := 0) (Nat.le_of_ble_eq_true rfl) (Nat.le_of_ble_eq_true rfl) ?_
    refine W.eq (g2 := F0 m 37 ls [.int q_12]) rfl ?_
    obtain ⟨hq13_0, hq13_1, hq13_2, hq13_3, hq13_4, hq13_5, hq13_6⟩ := hq13
    rcases hq13_6 with ⟨rfl, hq13_k, rfl, hq13_kc⟩ | ⟨rfl, hq13_k⟩
    · skip
      have w14 := hq13_kc.1
      refine lv_goto (tgt := 47) hx hb dX2_readAtom_37 (by decide) ?_
      have hP : va_P g.1 vwCl (List.flatten [bLT g lt ta lo, bTape g ta ab sz ln kd2_6 bg2_7 nx2_8 (-1) fb, bLaw g lo lc lz2_10 ll lm lg ld fc2_11]) H := hP
      have hD : va_D A (List.flatten [bLT g lt ta lo, bTape g ta ab sz ln kd2_6 bg2_7 nx2_8 (-1) fb, bLaw g lo lc lz2_10 ll lm lg ld fc2_11]) := hD
      exact mret_z hx hb hr hlocks hS (Nat.le_of_ble_eq_true rfl) (Nat.le_of_ble_eq_true rfl) dX2_readAtom_47 (kd2_6, bg2_7, nx2_8, -1, lz2_10, fc2_11, (1 : Int32)) rfl (by decide) (show (0 ≤ lz2_10.toInt ∧ lz2_10.toInt ≤ 400) ∧ (-1 ≤ ((-1) : Int32).toInt) ∧ (0 ≤ nx2_8.toInt ∧ nx2_8.toInt ≤ 400) ∧ (0 ≤ bg2_7.toInt ∧ bg2_7.toInt ≤ 400) ∧ (zKd kd2_6.toInt bg2_7.toInt nx2_8.toInt) ∧ (zTk fb ln.toInt kd2_6.toInt bg2_7.toInt nx2_8.toInt) ∧ (1 = 1 ∧ zAtom fb ln.toInt 1 bg.toInt (.ok bg2_7.toInt) ∧ (-1) = (-1) ∧ zAC (fun e9 v9 => zAv fb ln.toInt e9 1 bg.toInt bg2_7.toInt v9) bg.toInt bg2_7.toInt fc fc2_11 lz.toInt lz2_10.toInt ∨ 1 = 0 ∧ zAtom fb ln.toInt 1 bg.toInt (.bad ((-1) : Int32).toInt)) from ⟨(by first | assumption | omega | exact Or.inl (by decide) | exact Or.inr (by omega)), (by decide), (by first | assumption | omega | exact Or.inl (by decide) | exact Or.inr (by omega)), (by first | assumption | omega | exact Or.inl (by decide) | exact Or.inr (by omega)), (by first | assumption | omega | exact Or.inl (by decide) | exact Or.inr (by omega)), (by assumption), (Or.inl ⟨rfl, zAt_s (Or.inl hq2_k) hq13_k, rfl, (zAC_deep (k := 0) rfl w4 hq13_kc)⟩)⟩) hP hD
    · skip
      refine lv_goto (tgt := 47) hx hb dX2_readAtom_37 (by decide) ?_
      have hP : va_P g.1 vwCl (List.flatten [bLT g lt ta lo, bTape g ta ab sz ln kd2_6 bg2_7 nx2_8 ft2_9 fb, bLaw g lo lc lz2_10 ll lm lg ld fc2_11]) H := hP
      have hD : va_D A (List.flatten [bLT g lt ta lo, bTape g ta ab sz ln kd2_6 bg2_7 nx2_8 ft2_9 fb, bLaw g lo lc lz2_10 ll lm lg ld fc2_11]) := hD
      exact mret_z hx hb hr hlocks hS (Nat.le_of_ble_eq_true rfl) (Nat.le_of_ble_eq_true rfl) dX2_readAtom_47 (kd2_6, bg2_7, nx2_8, ft2_9, lz2_10, fc2_11, (0 : Int32)) rfl (by decide) (show (0 ≤ lz2_10.toInt ∧ lz2_10.toInt ≤ 400) ∧ (-1 ≤ ft2_9.toInt) ∧ (0 ≤ nx2_8.toInt ∧ nx2_8.toInt ≤ 400) ∧ (0 ≤ bg2_7.toInt ∧ bg2_7.toInt ≤ 400) ∧ (zKd kd2_6.toInt bg2_7.toInt nx2_8.toInt) ∧ (zTk fb ln.toInt kd2_6.toInt bg2_7.toInt nx2_8.toInt) ∧ (0 = 1 ∧ zAtom fb ln.toInt 1 bg.toInt (.ok bg2_7.toInt) ∧ (-1) = ft2_9 ∧ zAC (fun e9 v9 => zAv fb ln.toInt e9 1 bg.toInt bg2_7.toInt v9) bg.toInt bg2_7.toInt fc fc2_11 lz.toInt lz2_10.toInt ∨ 0 = 0 ∧ zAtom fb ln.toInt 1 bg.toInt (.bad ft2_9.toInt)) from ⟨(by first | assumption | omega | exact Or.inl (by decide) | exact Or.inr (by omega)), (by first | decide | omega), (by first | assumption | omega | exact Or.inl (by decide) | exact Or.inr (by omega)), (by first | assumption | omega | exact Or.inl (by decide) | exact Or.inr (by omega)), (by first | assumption | omega | exact Or.inl (by decide) | exact Or.inr (by omega)), (by assumption), (Or.inr ⟨rfl, zAt_s (Or.inl hq2_k) hq13_k⟩)⟩) hP hD
  · skip
    refine lv_if_ne (tgt := 24) hx hb dX2_readAtom_9 (by decide) (fun c15 => absurd (by decide) c15) (fun _ => ?_)
    refine lv_aload_n hx hb dX2_readAtom_12 rfl (lv_at hl 0 rfl) ?_
    refine va_get (D := g.1) (ci := 2) (v := .ref ta) (C := RX2) (T := TX2) (N := 2) hx hb hts izRX2 hown hK hP 0 rfl rfl 0 (by decide) (hts _ k290) (fun x9 h9 => u_same (hts _ k291) x9 h9) rfl dX2_readAtom_13 ?_
    refine lv_bipush (v := 40) hx hb dX2_readAtom_16 (by decide) ?_
    have hL40 : (40 : Int32).toInt = 40 := by decide
    refine mcallV' (g := g) (q0 := 0) (ci := 6) (As := [.int 40]) (rest := []) St hK hT hA hP hD hS hl.1 [2] [0, 1] rfl rfl rfl (c_t_isSignF l g ta ab sz ln kd bg nx (-1) fb 40 hln hnx hbg hkd hTk) (cwV 1 hts (zgL (zl4 k305 k288 k289 k277) k285) rfl rfl rfl (by decide +kernel) ⟨Nat.le_of_ble_eq_true rfl, Nat.le_of_ble_eq_true rfl⟩) rfl rfl rfl rfl (Nat.le_of_ble_eq_true rfl) dX2_readAtom_18 ⟨(Nat.le_of_ble_eq_true rfl), (Nat.le_of_ble_eq_true rfl)⟩ (fun q_16 H locs hq17 hP hD hS => ?_)
    replace hq17 : (q_16 = 1 ∧ zisS fb ln.toInt bg.toInt (40 : Int32).toInt ∨ q_16 = 0 ∧ ¬ zisS fb ln.toInt bg.toInt (40 : Int32).toInt) := hq17
    have hP : va_P g.1 vwCl (List.flatten [bLT g lt ta lo, bLaw g lo lc lz ll lm lg ld fc, bTape g ta ab sz ln kd bg nx (-1) fb]) H := hP
    have hD : va_D A (List.flatten [bLT g lt ta lo, bLaw g lo lc lz ll lm lg ld fc, bTape g ta ab sz ln kd bg nx (-1) fb]) := hD
    refine W.widen (k := 0) (n := 0) (Nat.le_of_ble_eq_true rfl) (Nat.le_of_ble_eq_true rfl) ?_
    refine W.eq (g2 := F0 m 21 ls [.int q_16]) rfl ?_
    rcases hq17 with ⟨rfl, hq17_k⟩ | ⟨rfl, hq17_k⟩
    · skip
      refine lv_if_eq (tgt := 48) hx hb dX2_readAtom_21 (by decide) (fun c18 => absurd c18 (by decide)) (fun _ => ?_)
      have w19 : zDeep fb ln.toInt bg.toInt := (Or.inr hq17_k)
      refine lv_iload_n hx hb dX2_readAtom_24 rfl (lv_at hl 1 rfl) ?_
      refine lv_bipush (v := 6) hx hb dX2_readAtom_25 (by decide) ?_
      refine lv_icmp_ge (tgt := 40) hx hb dX2_readAtom_27 (by decide) (fun c20 => absurd c20 (by decide)) (fun _ => ?_)
      refine lv_aload_n hx hb dX2_readAtom_30 rfl (lv_at hl 0 rfl) ?_
      refine lv_iload_n hx hb dX2_readAtom_31 rfl (lv_at hl 1 rfl) ?_
      refine lv_iconst (v := 1) hx hb dX2_readAtom_32 (by decide) ?_
      refine lv_iadd hx hb dX2_readAtom_33 ?_
      refine ztop (r := 6) (by decide) ?_
      refine mcallV' (g := g) (q0 := 0) (ci := 2) (As := [.int 6]) (rest := []) St hK hT hA hP hD hS hl.1 [0, 2, 1] [] rfl rfl rfl (c_lt_readDeeper6C l g lt ta lo ab sz ln kd bg nx fb lc lz ll lm lg ld fc b_lz hln hnx hbg hkd hTk hlb w19) (cwV 1 hts (zgL (zl4 k306 k307 k308 k309) k323) rfl rfl rfl (by decide +kernel) ⟨Nat.le_of_ble_eq_true rfl, Nat.le_of_ble_eq_true rfl⟩) rfl rfl rfl rfl (Nat.le_of_ble_eq_true rfl) dX2_readAtom_34 ⟨(Nat.le_of_ble_eq_true rfl), (Nat.le_of_ble_eq_true rfl)⟩ (fun u_ H locs hq28 hP hD hS => ?_)
      obtain ⟨kd2_21, bg2_22, nx2_23, ft2_24, lz2_25, fc2_26, q_27⟩ := u_
      replace hq28 : (0 ≤ lz2_25.toInt ∧ lz2_25.toInt ≤ 400) ∧ (-1 ≤ ft2_24.toInt) ∧ (0 ≤ nx2_23.toInt ∧ nx2_23.toInt ≤ 400) ∧ (0 ≤ bg2_22.toInt ∧ bg2_22.toInt ≤ 400) ∧ (zKd kd2_21.toInt bg2_22.toInt nx2_23.toInt) ∧ (zTk fb ln.toInt kd2_21.toInt bg2_22.toInt nx2_23.toInt) ∧ (q_27 = 1 ∧ zDpr fb ln.toInt 0 bg.toInt (.ok bg2_22.toInt) ∧ (-1) = ft2_24 ∧ zAC (fun e9 v9 => zDv fb ln.toInt e9 0 bg.toInt bg2_22.toInt v9) bg.toInt bg2_22.toInt fc fc2_26 lz.toInt lz2_25.toInt ∨ q_27 = 0 ∧ zDpr fb ln.toInt 0 bg.toInt (.bad ft2_24.toInt)) := hq28
      have hP : va_P g.1 vwCl (List.flatten [bLT g lt ta lo, bTape g ta ab sz ln kd2_21 bg2_22 nx2_23 ft2_24 fb, bLaw g lo lc lz2_25 ll lm lg ld fc2_26]) H := hP
      have hD : va_D A (List.flatten [bLT g lt ta lo, bTape g ta ab sz ln kd2_21 bg2_22 nx2_23 ft2_24 fb, bLaw g lo lc lz2_25 ll lm lg ld fc2_26]) := hD
      refine W.widen (k := 0) (n := 0) (Nat.le_of_ble_eq_true rfl) (Nat.le_of_ble_eq_true rfl) ?_
      refine W.eq (g2 := F0 m 37 ls [.int q_27]) rfl ?_
      obtain ⟨hq28_0, hq28_1, hq28_2, hq28_3, hq28_4, hq28_5, hq28_6⟩ := hq28
      rcases hq28_6 with ⟨rfl, hq28_k, rfl, hq28_kc⟩ | ⟨rfl, hq28_k⟩
      · skip
        have w29 := hq28_kc.1
        refine lv_goto (tgt := 47) hx hb dX2_readAtom_37 (by decide) ?_
        have hP : va_P g.1 vwCl (List.flatten [bLT g lt ta lo, bTape g ta ab sz ln kd2_21 bg2_22 nx2_23 (-1) fb, bLaw g lo lc lz2_25 ll lm lg ld fc2_26]) H := hP
        have hD : va_D A (List.flatten [bLT g lt ta lo, bTape g ta ab sz ln kd2_21 bg2_22 nx2_23 (-1) fb, bLaw g lo lc lz2_25 ll lm lg ld fc2_26]) := hD
        exact mret_z hx hb hr hlocks hS (Nat.le_of_ble_eq_true rfl) (Nat.le_of_ble_eq_true rfl) dX2_readAtom_47 (kd2_21, bg2_22, nx2_23, -1, lz2_25, fc2_26, (1 : Int32)) rfl (by decide) (show (0 ≤ lz2_25.toInt ∧ lz2_25.toInt ≤ 400) ∧ (-1 ≤ ((-1) : Int32).toInt) ∧ (0 ≤ nx2_23.toInt ∧ nx2_23.toInt ≤ 400) ∧ (0 ≤ bg2_22.toInt ∧ bg2_22.toInt ≤ 400) ∧ (zKd kd2_21.toInt bg2_22.toInt nx2_23.toInt) ∧ (zTk fb ln.toInt kd2_21.toInt bg2_22.toInt nx2_23.toInt) ∧ (1 = 1 ∧ zAtom fb ln.toInt 1 bg.toInt (.ok bg2_22.toInt) ∧ (-1) = (-1) ∧ zAC (fun e9 v9 => zAv fb ln.toInt e9 1 bg.toInt bg2_22.toInt v9) bg.toInt bg2_22.toInt fc fc2_26 lz.toInt lz2_25.toInt ∨ 1 = 0 ∧ zAtom fb ln.toInt 1 bg.toInt (.bad ((-1) : Int32).toInt)) from ⟨(by first | assumption | omega | exact Or.inl (by decide) | exact Or.inr (by omega)), (by decide), (by first | assumption | omega | exact Or.inl (by decide) | exact Or.inr (by omega)), (by first | assumption | omega | exact Or.inl (by decide) | exact Or.inr (by omega)), (by first | assumption | omega | exact Or.inl (by decide) | exact Or.inr (by omega)), (by assumption), (Or.inl ⟨rfl, zAt_s (Or.inr hq17_k) hq28_k, rfl, (zAC_deep (k := 0) rfl w19 hq28_kc)⟩)⟩) hP hD
      · skip
        refine lv_goto (tgt := 47) hx hb dX2_readAtom_37 (by decide) ?_
        have hP : va_P g.1 vwCl (List.flatten [bLT g lt ta lo, bTape g ta ab sz ln kd2_21 bg2_22 nx2_23 ft2_24 fb, bLaw g lo lc lz2_25 ll lm lg ld fc2_26]) H := hP
        have hD : va_D A (List.flatten [bLT g lt ta lo, bTape g ta ab sz ln kd2_21 bg2_22 nx2_23 ft2_24 fb, bLaw g lo lc lz2_25 ll lm lg ld fc2_26]) := hD
        exact mret_z hx hb hr hlocks hS (Nat.le_of_ble_eq_true rfl) (Nat.le_of_ble_eq_true rfl) dX2_readAtom_47 (kd2_21, bg2_22, nx2_23, ft2_24, lz2_25, fc2_26, (0 : Int32)) rfl (by decide) (show (0 ≤ lz2_25.toInt ∧ lz2_25.toInt ≤ 400) ∧ (-1 ≤ ft2_24.toInt) ∧ (0 ≤ nx2_23.toInt ∧ nx2_23.toInt ≤ 400) ∧ (0 ≤ bg2_22.toInt ∧ bg2_22.toInt ≤ 400) ∧ (zKd kd2_21.toInt bg2_22.toInt nx2_23.toInt) ∧ (zTk fb ln.toInt kd2_21.toInt bg2_22.toInt nx2_23.toInt) ∧ (0 = 1 ∧ zAtom fb ln.toInt 1 bg.toInt (.ok bg2_22.toInt) ∧ (-1) = ft2_24 ∧ zAC (fun e9 v9 => zAv fb ln.toInt e9 1 bg.toInt bg2_22.toInt v9) bg.toInt bg2_22.toInt fc fc2_26 lz.toInt lz2_25.toInt ∨ 0 = 0 ∧ zAtom fb ln.toInt 1 bg.toInt (.bad ft2_24.toInt)) from ⟨(by first | assumption | omega | exact Or.inl (by decide) | exact Or.inr (by omega)), (by first | decide | omega), (by first | assumption | omega | exact Or.inl (by decide) | exact Or.inr (by omega)), (by first | assumption | omega | exact Or.inl (by decide) | exact Or.inr (by omega)), (by first | assumption | omega | exact Or.inl (by decide) | exact Or.inr (by omega)), (by assumption), (Or.inr ⟨rfl, zAt_s (Or.inr hq17_k) hq28_k⟩)⟩) hP hD
    · skip
      refine lv_if_eq (tgt := 48) hx hb dX2_readAtom_21 (by decide) (fun _ => ?_) (fun c30 => absurd (by decide) c30)
      refine lv_aload_n hx hb dX2_readAtom_48 rfl (lv_at hl 0 rfl) ?_
      refine va_get (D := g.1) (ci := 2) (v := .ref ta) (C := RX2) (T := TX2) (N := 2) hx hb hts izRX2 hown hK hP 0 rfl rfl 0 (by decide) (hts _ k290) (fun x9 h9 => u_same (hts _ k291) x9 h9) rfl dX2_readAtom_49 ?_
      refine va_ldcS (q := g.2 22) hx hb hown (zra6 hT.2.1) dX2_readAtom_52 ?_
      refine mcallV' (g := g) (q0 := 0) (ci := 6) (As := [.ref (g.2 22)]) (rest := []) St hK hT hA hP hD hS hl.1 [2] [0, 1] rfl rfl rfl (c_t_takeWordF l g ta ab sz ln kd bg nx (-1) fb (g.2 22) 6 zqa6 hln hnx hbg hkd hTk rfl zla6 zna6 (zlitB zla6)) (cwV 1 hts (zgL (zl4 k310 k311 k312 k277) k284) rfl rfl rfl (by decide +kernel) ⟨Nat.le_of_ble_eq_true rfl, Nat.le_of_ble_eq_true rfl⟩) rfl rfl rfl rfl (Nat.le_of_ble_eq_true rfl) dX2_readAtom_54 ⟨(Nat.le_of_ble_eq_true rfl), (Nat.le_of_ble_eq_true rfl)⟩ (fun u_ H locs hq35 hP hD hS => ?_)
      obtain ⟨kd2_31, bg2_32, nx2_33, r_34⟩ := u_
      replace hq35 : (0 ≤ nx2_33.toInt ∧ nx2_33.toInt ≤ 400) ∧ (0 ≤ bg2_32.toInt ∧ bg2_32.toInt ≤ 400) ∧ (zKd kd2_31.toInt bg2_32.toInt nx2_33.toInt) ∧ (zTk fb ln.toInt kd2_31.toInt bg2_32.toInt nx2_33.toInt) ∧ (r_34 = 1 ∧ zisW fb ln.toInt bg.toInt zqa6.2.2.2 ∧ zMv fb ln.toInt bg.toInt bg2_32.toInt ∨ r_34 = 0 ∧ ¬ zisW fb ln.toInt bg.toInt zqa6.2.2.2 ∧ kd = kd2_31 ∧ bg = bg2_32 ∧ nx = nx2_33) := hq35
      have hP : va_P g.1 vwCl (List.flatten [bLT g lt ta lo, bLaw g lo lc lz ll lm lg ld fc, bTape g ta ab sz ln kd2_31 bg2_32 nx2_33 (-1) fb]) H := hP
      have hD : va_D A (List.flatten [bLT g lt ta lo, bLaw g lo lc lz ll lm lg ld fc, bTape g ta ab sz ln kd2_31 bg2_32 nx2_33 (-1) fb]) := hD
      refine W.widen (k := 0) (n := 0) (Nat.le_of_ble_eq_true rfl) (Nat.le_of_ble_eq_true rfl) ?_
      refine W.eq (g2 := F0 m 57 ls [.int r_34]) rfl ?_
      obtain ⟨hq35_0, hq35_1, hq35_2, hq35_3, hq35_4⟩ := hq35
      rcases hq35_4 with ⟨rfl, hq35_k, hq35_km⟩ | ⟨rfl, hq35_k, rfl, rfl, rfl⟩
      · skip
        refine lv_if_eq (tgt := 73) hx hb dX2_readAtom_57 (by decide) (fun c36 => absurd c36 (by decide)) (fun _ => ?_)
        have w37 := zMv_lt (f := fb) (n := ln.toInt) (by omega) (zisW_z hq35_k) hq35_km
        refine lv_aload_n hx hb dX2_readAtom_60 rfl (lv_at hl 0 rfl) ?_
        refine va_get (D := g.1) (ci := 2) (v := .ref lo) (C := RX2) (T := TX2) (N := 2) hx hb hts izRX2 hown hK hP 0 rfl rfl 1 (by decide) (hts _ k210) (fun _ h9 => h9) rfl dX2_readAtom_61 ?_
        refine lv_bipush (v := 10) hx hb dX2_readAtom_64 (by decide) ?_
        refine lv_iconst (v := 0) hx hb dX2_readAtom_66 (by decide) ?_
        refine mcallV' (g := g) (q0 := 0) (ci := 1) (As := [.int 10, .int 0]) (rest := []) St hK hT hA hP hD hS hl.1 [1] [0, 2] rfl rfl rfl (c_l_putC l g lo lc lz ll lm lg ld fc 10 0 b_lz (by first | assumption | omega | decide | exact Or.inl (by decide) | exact Or.inr (by decide))) (cwV 2 hts (zgL (zl4 k297 k298 k299 k85) k202) rfl rfl rfl (by decide +kernel) ⟨Nat.le_of_ble_eq_true rfl, Nat.le_of_ble_eq_true rfl⟩) rfl rfl rfl rfl (Nat.le_of_ble_eq_true rfl) dX2_readAtom_67 ⟨(Nat.le_of_ble_eq_true rfl), (Nat.le_of_ble_eq_true rfl)⟩ (fun u_ H locs hq40 hP hD hS => ?_)
        obtain ⟨lz2_38, fc2_39⟩ := u_
        replace hq40 : (0 ≤ lz2_38.toInt ∧ lz2_38.toInt ≤ 400) ∧ (lz2_38.toInt = lz.toInt + 1) ∧ (fc2_39 = upd fc lz.toInt.toNat (10 + 32 * 0)) := hq40
        have hP : va_P g.1 vwCl (List.flatten [bLT g lt ta lo, bTape g ta ab sz ln kd2_31 bg2_32 nx2_33 (-1) fb, bLaw g lo lc lz2_38 ll lm lg ld fc2_39]) H := hP
        have hD : va_D A (List.flatten [bLT g lt ta lo, bTape g ta ab sz ln kd2_31 bg2_32 nx2_33 (-1) fb, bLaw g lo lc lz2_38 ll lm lg ld fc2_39]) := hD
        refine W.widen (k := 0) (n := 0) (Nat.le_of_ble_eq_true rfl) (Nat.le_of_ble_eq_true rfl) ?_
        refine W.eq (g2 := F0 m 70 ls [.int lz]) rfl ?_
        obtain ⟨hq40_0, hq40_1, hq40_2⟩ := hq40
        refine lv_pop hx hb dX2_readAtom_70 rfl ?_
        refine lv_iconst (v := 1) hx hb dX2_readAtom_71 (by decide) ?_
        have hP : va_P g.1 vwCl (List.flatten [bLT g lt ta lo, bTape g ta ab sz ln kd2_31 bg2_32 nx2_33 (-1) fb, bLaw g lo lc lz2_38 ll lm lg ld fc2_39]) H := hP
        have hD : va_D A (List.flatten [bLT g lt ta lo, bTape g ta ab sz ln kd2_31 bg2_32 nx2_33 (-1) fb, bLaw g lo lc lz2_38 ll lm lg ld fc2_39]) := hD
        exact mret_z hx hb hr hlocks hS (Nat.le_of_ble_eq_true rfl) (Nat.le_of_ble_eq_true rfl) dX2_readAtom_72 (kd2_31, bg2_32, nx2_33, -1, lz2_38, fc2_39, (1 : Int32)) rfl (by decide) (show (0 ≤ lz2_38.toInt ∧ lz2_38.toInt ≤ 400) ∧ (-1 ≤ ((-1) : Int32).toInt) ∧ (0 ≤ nx2_33.toInt ∧ nx2_33.toInt ≤ 400) ∧ (0 ≤ bg2_32.toInt ∧ bg2_32.toInt ≤ 400) ∧ (zKd kd2_31.toInt bg2_32.toInt nx2_33.toInt) ∧ (zTk fb ln.toInt kd2_31.toInt bg2_32.toInt nx2_33.toInt) ∧ (1 = 1 ∧ zAtom fb ln.toInt 1 bg.toInt (.ok bg2_32.toInt) ∧ (-1) = (-1) ∧ zAC (fun e9 v9 => zAv fb ln.toInt e9 1 bg.toInt bg2_32.toInt v9) bg.toInt bg2_32.toInt fc fc2_39 lz.toInt lz2_38.toInt ∨ 1 = 0 ∧ zAtom fb ln.toInt 1 bg.toInt (.bad ((-1) : Int32).toInt)) from ⟨(by first | assumption | omega | exact Or.inl (by decide) | exact Or.inr (by omega)), (by decide), (by first | assumption | omega | exact Or.inl (by decide) | exact Or.inr (by omega)), (by first | assumption | omega | exact Or.inl (by decide) | exact Or.inr (by omega)), (by first | assumption | omega | exact Or.inl (by decide) | exact Or.inr (by omega)), (by assumption), (Or.inl ⟨rfl, zAt_pl (zor_n hq2_k hq17_k) (zPl_word (Or.inl hq35_k) hq35_km), rfl, (zAC_word (k := 10) (j := 6) (by omega) (zor_n hq2_k hq17_k) (Or.inl ⟨rfl, rfl, hq35_k⟩) hq35_km (by decide) hq40_2 hq40_1 w37)⟩)⟩) hP hD
      · skip
        refine lv_if_eq (tgt := 73) hx hb dX2_readAtom_57 (by decide) (fun _ => ?_) (fun c41 => absurd (by decide) c41)
        refine lv_aload_n hx hb dX2_readAtom_73 rfl (lv_at hl 0 rfl) ?_
        refine va_get (D := g.1) (ci := 2) (v := .ref ta) (C := RX2) (T := TX2) (N := 2) hx hb hts izRX2 hown hK hP 0 rfl rfl 0 (by decide) (hts _ k290) (fun x9 h9 => u_same (hts _ k291) x9 h9) rfl dX2_readAtom_74 ?_
        refine va_ldcS (q := g.2 24) hx hb hown (zra7 hT.2.1) dX2_readAtom_77 ?_
        refine mcallV' (g := g) (q0 := 0) (ci := 6) (As := [.ref (g.2 24)]) (rest := []) St hK hT hA hP hD hS hl.1 [2] [0, 1] rfl rfl rfl (c_t_takeWordF l g ta ab sz ln kd bg nx (-1) fb (g.2 24) 7 zqa7 hln hnx hbg hkd hTk rfl zla7 zna7 (zlitB zla7)) (cwV 1 hts (zgL (zl4 k310 k311 k312 k277) k284) rfl rfl rfl (by decide +kernel) ⟨Nat.le_of_ble_eq_true rfl, Nat.le_of_ble_eq_true rfl⟩) rfl rfl rfl rfl (Nat.le_of_ble_eq_true rfl) dX2_readAtom_79 ⟨(Nat.le_of_ble_eq_true rfl), (Nat.le_of_ble_eq_true rfl)⟩ (fun u_ H locs hq46 hP hD hS => ?_)
        obtain ⟨kd2_42, bg2_43, nx2_44, r_45⟩ := u_
        replace hq46 : (0 ≤ nx2_44.toInt ∧ nx2_44.toInt ≤ 400) ∧ (0 ≤ bg2_43.toInt ∧ bg2_43.toInt ≤ 400) ∧ (zKd kd2_42.toInt bg2_43.toInt nx2_44.toInt) ∧ (zTk fb ln.toInt kd2_42.toInt bg2_43.toInt nx2_44.toInt) ∧ (r_45 = 1 ∧ zisW fb ln.toInt bg.toInt zqa7.2.2.2 ∧ zMv fb ln.toInt bg.toInt bg2_43.toInt ∨ r_45 = 0 ∧ ¬ zisW fb ln.toInt bg.toInt zqa7.2.2.2 ∧ kd = kd2_42 ∧ bg = bg2_43 ∧ nx = nx2_44) := hq46
        have hP : va_P g.1 vwCl (List.flatten [bLT g lt ta lo, bLaw g lo lc lz ll lm lg ld fc, bTape g ta ab sz ln kd2_42 bg2_43 nx2_44 (-1) fb]) H := hP
        have hD : va_D A (List.flatten [bLT g lt ta lo, bLaw g lo lc lz ll lm lg ld fc, bTape g ta ab sz ln kd2_42 bg2_43 nx2_44 (-1) fb]) := hD
        refine W.widen (k := 0) (n := 0) (Nat.le_of_ble_eq_true rfl) (Nat.le_of_ble_eq_true rfl) ?_
        refine W.eq (g2 := F0 m 82 ls [.int r_45]) rfl ?_
        obtain ⟨hq46_0, hq46_1, hq46_2, hq46_3, hq46_4⟩ := hq46
        rcases hq46_4 with ⟨rfl, hq46_k, hq46_km⟩ | ⟨rfl, hq46_k, rfl, rfl, rfl⟩
        · skip
          refine lv_if_eq (tgt := 98) hx hb dX2_readAtom_82 (by decide) (fun c47 => absurd c47 (by decide)) (fun _ => ?_)
          have w48 := zMv_lt (f := fb) (n := ln.toInt) (by omega) (zisW_z hq46_k) hq46_km
          refine lv_aload_n hx hb dX2_readAtom_85 rfl (lv_at hl 0 rfl) ?_
          refine va_get (D := g.1) (ci := 2) (v := .ref lo) (C := RX2) (T := TX2) (N := 2) hx hb hts izRX2 hown hK hP 0 rfl rfl 1 (by decide) (hts _ k210) (fun _ h9 => h9) rfl dX2_readAtom_86 ?_
          refine lv_bipush (v := 11) hx hb dX2_readAtom_89 (by decide) ?_
          refine lv_iconst (v := 0) hx hb dX2_readAtom_91 (by decide) ?_
          refine mcallV' (g := g) (q0 := 0) (ci := 1) (As := [.int 11, .int 0]) (rest := []) St hK hT hA hP hD hS hl.1 [1] [0, 2] rfl rfl rfl (c_l_putC l g lo lc lz ll lm lg ld fc 11 0 b_lz (by first | assumption | omega | decide | exact Or.inl (by decide) | exact Or.inr (by decide))) (cwV 2 hts (zgL (zl4 k297 k298 k299 k85) k202) rfl rfl rfl (by decide +kernel) ⟨Nat.le_of_ble_eq_true rfl, Nat.le_of_ble_eq_true rfl⟩) rfl rfl rfl rfl (Nat.le_of_ble_eq_true rfl) dX2_readAtom_92 ⟨(Nat.le_of_ble_eq_true rfl), (Nat.le_of_ble_eq_true rfl)⟩ (fun u_ H locs hq51 hP hD hS => ?_)
          obtain ⟨lz2_49, fc2_50⟩ := u_
          replace hq51 : (0 ≤ lz2_49.toInt ∧ lz2_49.toInt ≤ 400) ∧ (lz2_49.toInt = lz.toInt + 1) ∧ (fc2_50 = upd fc lz.toInt.toNat (11 + 32 * 0)) := hq51
          have hP : va_P g.1 vwCl (List.flatten [bLT g lt ta lo, bTape g ta ab sz ln kd2_42 bg2_43 nx2_44 (-1) fb, bLaw g lo lc lz2_49 ll lm lg ld fc2_50]) H := hP
          have hD : va_D A (List.flatten [bLT g lt ta lo, bTape g ta ab sz ln kd2_42 bg2_43 nx2_44 (-1) fb, bLaw g lo lc lz2_49 ll lm lg ld fc2_50]) := hD
          refine W.widen (k := 0) (n := 0) (Nat.le_of_ble_eq_true rfl) (Nat.le_of_ble_eq_true rfl) ?_
          refine W.eq (g2 := F0 m 95 ls [.int lz]) rfl ?_
          obtain ⟨hq51_0, hq51_1, hq51_2⟩ := hq51
          refine lv_pop hx hb dX2_readAtom_95 rfl ?_
          refine lv_iconst (v := 1) hx hb dX2_readAtom_96 (by decide) ?_
          have hP : va_P g.1 vwCl (List.flatten [bLT g lt ta lo, bTape g ta ab sz ln kd2_42 bg2_43 nx2_44 (-1) fb, bLaw g lo lc lz2_49 ll lm lg ld fc2_50]) H := hP
          have hD : va_D A (List.flatten [bLT g lt ta lo, bTape g ta ab sz ln kd2_42 bg2_43 nx2_44 (-1) fb, bLaw g lo lc lz2_49 ll lm lg ld fc2_50]) := hD
          exact mret_z hx hb hr hlocks hS (Nat.le_of_ble_eq_true rfl) (Nat.le_of_ble_eq_true rfl) dX2_readAtom_97 (kd2_42, bg2_43, nx2_44, -1, lz2_49, fc2_50, (1 : Int32)) rfl (by decide) (show (0 ≤ lz2_49.toInt ∧ lz2_49.toInt ≤ 400) ∧ (-1 ≤ ((-1) : Int32).toInt) ∧ (0 ≤ nx2_44.toInt ∧ nx2_44.toInt ≤ 400) ∧ (0 ≤ bg2_43.toInt ∧ bg2_43.toInt ≤ 400) ∧ (zKd kd2_42.toInt bg2_43.toInt nx2_44.toInt) ∧ (zTk fb ln.toInt kd2_42.toInt bg2_43.toInt nx2_44.toInt) ∧ (1 = 1 ∧ zAtom fb ln.toInt 1 bg.toInt (.ok bg2_43.toInt) ∧ (-1) = (-1) ∧ zAC (fun e9 v9 => zAv fb ln.toInt e9 1 bg.toInt bg2_43.toInt v9) bg.toInt bg2_43.toInt fc fc2_50 lz.toInt lz2_49.toInt ∨ 1 = 0 ∧ zAtom fb ln.toInt 1 bg.toInt (.bad ((-1) : Int32).toInt)) from ⟨(by first | assumption | omega | exact Or.inl (by decide) | exact Or.inr (by omega)), (by decide), (by first | assumption | omega | exact Or.inl (by decide) | exact Or.inr (by omega)), (by first | assumption | omega | exact Or.inl (by decide) | exact Or.inr (by omega)), (by first | assumption | omega | exact Or.inl (by decide) | exact Or.inr (by omega)), (by assumption), (Or.inl ⟨rfl, zAt_pl (zor_n hq2_k hq17_k) (zPl_word (Or.inr hq46_k) hq46_km), rfl, (zAC_word (k := 11) (j := 7) (by omega) (zor_n hq2_k hq17_k) (Or.inr ⟨rfl, rfl, hq46_k⟩) hq46_km (by decide) hq51_2 hq51_1 w48)⟩)⟩) hP hD
        · skip
          refine lv_if_eq (tgt := 98) hx hb dX2_readAtom_82 (by decide) (fun _ => ?_) (fun c52 => absurd (by decide) c52)
          refine lv_aload_n hx hb dX2_readAtom_98 rfl (lv_at hl 0 rfl) ?_
          refine mcallV' (g := g) (q0 := 0) (ci := 2) (As := []) (rest := []) St hK hT hA hP hD hS hl.1 [0, 2, 1] [] rfl rfl rfl (c_lt_readSumC l g lt ta lo ab sz ln kd bg nx fb lc lz ll lm lg ld fc b_lz hln hnx hbg hkd hTk hlb) (cwV 0 hts (zgL (zl4 k313 k314 k315 k309) k304) rfl rfl rfl (by decide +kernel) ⟨Nat.le_of_ble_eq_true rfl, Nat.le_of_ble_eq_true rfl⟩) rfl rfl rfl rfl (Nat.le_of_ble_eq_true rfl) dX2_readAtom_99 ⟨(Nat.le_of_ble_eq_true rfl), (Nat.le_of_ble_eq_true rfl)⟩ (fun u_ H locs hq60 hP hD hS => ?_)
          obtain ⟨kd2_53, bg2_54, nx2_55, ft2_56, lz2_57, fc2_58, q_59⟩ := u_
          replace hq60 : (0 ≤ lz2_57.toInt ∧ lz2_57.toInt ≤ 400) ∧ (-1 ≤ ft2_56.toInt) ∧ (0 ≤ nx2_55.toInt ∧ nx2_55.toInt ≤ 400) ∧ (0 ≤ bg2_54.toInt ∧ bg2_54.toInt ≤ 400) ∧ (zKd kd2_53.toInt bg2_54.toInt nx2_55.toInt) ∧ (zTk fb ln.toInt kd2_53.toInt bg2_54.toInt nx2_55.toInt) ∧ (q_59 = 1 ∧ zSum fb ln.toInt bg.toInt (.ok bg2_54.toInt) ∧ (-1) = ft2_56 ∧ zSC fb ln.toInt bg.toInt bg2_54.toInt fc fc2_58 lz.toInt lz2_57.toInt ∨ q_59 = 0 ∧ zSum fb ln.toInt bg.toInt (.bad ft2_56.toInt)) := hq60
          have hP : va_P g.1 vwCl (List.flatten [bLT g lt ta lo, bTape g ta ab sz ln kd2_53 bg2_54 nx2_55 ft2_56 fb, bLaw g lo lc lz2_57 ll lm lg ld fc2_58]) H := hP
          have hD : va_D A (List.flatten [bLT g lt ta lo, bTape g ta ab sz ln kd2_53 bg2_54 nx2_55 ft2_56 fb, bLaw g lo lc lz2_57 ll lm lg ld fc2_58]) := hD
          refine W.widen (k := 0) (n := 0) (Nat.le_of_ble_eq_true rfl) (Nat.le_of_ble_eq_true rfl) ?_
          refine W.eq (g2 := F0 m 102 ls [.int q_59]) rfl ?_
          obtain ⟨hq60_0, hq60_1, hq60_2, hq60_3, hq60_4, hq60_5, hq60_6⟩ := hq60
          rcases hq60_6 with ⟨rfl, hq60_k, rfl, hq60_kc⟩ | ⟨rfl, hq60_k⟩
          · skip
            have w61 := hq60_kc.1
            refine lv_if_ne (tgt := 107) hx hb dX2_readAtom_102 (by decide) (fun _ => ?_) (fun c62 => absurd c62 (by decide))
            refine lv_aload_n hx hb dX2_readAtom_107 rfl (lv_at hl 0 rfl) ?_
            refine va_get (D := g.1) (ci := 2) (v := .ref ta) (C := RX2) (T := TX2) (N := 2) hx hb hts izRX2 hown hK hP 0 rfl rfl 0 (by decide) (hts _ k290) (fun x9 h9 => u_same (hts _ k291) x9 h9) rfl dX2_readAtom_108 ?_
            refine lv_bipush (v := 60) hx hb dX2_readAtom_111 (by decide) ?_
            have hL60 : (60 : Int32).toInt = 60 := by decide
            refine mcallV' (g := g) (q0 := 0) (ci := 6) (As := [.int 60]) (rest := []) St hK hT hA hP hD hS hl.1 [1] [0, 2] rfl rfl rfl (c_t_isSignF l g ta ab sz ln kd2_53 bg2_54 nx2_55 (-1) fb 60 hln hq60_2 hq60_3 hq60_4 hq60_5) (cwV 1 hts (zgL (zl4 k305 k288 k289 k277) k285) rfl rfl rfl (by decide +kernel) ⟨Nat.le_of_ble_eq_true rfl, Nat.le_of_ble_eq_true rfl⟩) rfl rfl rfl rfl (Nat.le_of_ble_eq_true rfl) dX2_readAtom_113 ⟨(Nat.le_of_ble_eq_true rfl), (Nat.le_of_ble_eq_true rfl)⟩ (fun q_63 H locs hq64 hP hD hS => ?_)
            replace hq64 : (q_63 = 1 ∧ zisS fb ln.toInt bg2_54.toInt (60 : Int32).toInt ∨ q_63 = 0 ∧ ¬ zisS fb ln.toInt bg2_54.toInt (60 : Int32).toInt) := hq64
            have hP : va_P g.1 vwCl (List.flatten [bLT g lt ta lo, bLaw g lo lc lz2_57 ll lm lg ld fc2_58, bTape g ta ab sz ln kd2_53 bg2_54 nx2_55 (-1) fb]) H := hP
            have hD : va_D A (List.flatten [bLT g lt ta lo, bLaw g lo lc lz2_57 ll lm lg ld fc2_58, bTape g ta ab sz ln kd2_53 bg2_54 nx2_55 (-1) fb]) := hD
            refine W.widen (k := 0) (n := 0) (Nat.le_of_ble_eq_true rfl) (Nat.le_of_ble_eq_true rfl) ?_
            refine W.eq (g2 := F0 m 116 ls [.int q_63]) rfl ?_
            rcases hq64 with ⟨rfl, hq64_k⟩ | ⟨rfl, hq64_k⟩
            · skip
              refine lv_istore_n (lv' := [(2, .int 1), (0, .ref lt), (1, .int 5)]) hx hb dX2_readAtom_116 rfl hl (by decide) rfl (fun ls hl => ?_)
              refine lv_iload_n hx hb dX2_readAtom_117 rfl (lv_at hl 0 rfl) ?_
              refine lv_if_ne (tgt := 141) hx hb dX2_readAtom_118 (by decide) (fun _ => ?_) (fun c65 => absurd c65 (by decide))
              refine lv_aload_n hx hb dX2_readAtom_141 rfl (lv_at hl 1 rfl) ?_
              refine va_get (D := g.1) (ci := 2) (v := .ref ta) (C := RX2) (T := TX2) (N := 2) hx hb hts izRX2 hown hK hP 0 rfl rfl 0 (by decide) (hts _ k290) (fun x9 h9 => u_same (hts _ k291) x9 h9) rfl dX2_readAtom_142 ?_
              refine mcallV' (g := g) (q0 := 0) (ci := 6) (As := []) (rest := []) St hK hT hA hP hD hS hl.1 [2] [0, 1] rfl rfl rfl (c_t_stepF l g ta ab sz ln kd2_53 bg2_54 nx2_55 (-1) fb hln hq60_2) (cwV 0 hts (zgL (zl4 k296 k275 k276 k277) k271) rfl rfl rfl (by decide +kernel) ⟨Nat.le_of_ble_eq_true rfl, Nat.le_of_ble_eq_true rfl⟩) rfl rfl rfl rfl (Nat.le_of_ble_eq_true rfl) dX2_readAtom_145 ⟨(Nat.le_of_ble_eq_true rfl), (Nat.le_of_ble_eq_true rfl)⟩ (fun u_ H locs hq69 hP hD hS => ?_)
              obtain ⟨kd2_66, bg2_67, nx2_68⟩ := u_
              replace hq69 : (0 ≤ nx2_68.toInt ∧ nx2_68.toInt ≤ 400) ∧ (0 ≤ bg2_67.toInt ∧ bg2_67.toInt ≤ 400) ∧ (zKd kd2_66.toInt bg2_67.toInt nx2_68.toInt) ∧ (zSk fb ln.toInt nx2_55.toInt bg2_67.toInt) ∧ (zTk fb ln.toInt kd2_66.toInt bg2_67.toInt nx2_68.toInt) := hq69
              have hP : va_P g.1 vwCl (List.flatten [bLT g lt ta lo, bLaw g lo lc lz2_57 ll lm lg ld fc2_58, bTape g ta ab sz ln kd2_66 bg2_67 nx2_68 (-1) fb]) H := hP
              have hD : va_D A (List.flatten [bLT g lt ta lo, bLaw g lo lc lz2_57 ll lm lg ld fc2_58, bTape g ta ab sz ln kd2_66 bg2_67 nx2_68 (-1) fb]) := hD
              refine W.widen (k := 0) (n := 0) (Nat.le_of_ble_eq_true rfl) (Nat.le_of_ble_eq_true rfl) ?_
              refine W.eq (g2 := F0 m 148 ls []) rfl ?_
              obtain ⟨hq69_0, hq69_1, hq69_2, hq69_3, hq69_4⟩ := hq69
              have w70 := zMv_lt (f := fb) (n := ln.toInt) (by omega) (zisS_z hq64_k) (zMv_mk hq60_5 hq69_3)
              refine lv_aload_n hx hb dX2_readAtom_148 rfl (lv_at hl 1 rfl) ?_
              refine va_get (D := g.1) (ci := 2) (v := .ref lo) (C := RX2) (T := TX2) (N := 2) hx hb hts izRX2 hown hK hP 0 rfl rfl 1 (by decide) (hts _ k210) (fun _ h9 => h9) rfl dX2_readAtom_149 ?_
              refine lv_bipush (v := 7) hx hb dX2_readAtom_152 (by decide) ?_
              refine lv_iconst (v := 0) hx hb dX2_readAtom_154 (by decide) ?_
              refine mcallV' (g := g) (q0 := 0) (ci := 1) (As := [.int 7, .int 0]) (rest := []) St hK hT hA hP hD hS hl.1 [1] [0, 2] rfl rfl rfl (c_l_putC l g lo lc lz2_57 ll lm lg ld fc2_58 7 0 hq60_0 (by first | assumption | omega | decide | exact Or.inl (by decide) | exact Or.inr (by decide))) (cwV 2 hts (zgL (zl4 k297 k298 k299 k85) k202) rfl rfl rfl (by decide +kernel) ⟨Nat.le_of_ble_eq_true rfl, Nat.le_of_ble_eq_true rfl⟩) rfl rfl rfl rfl (Nat.le_of_ble_eq_true rfl) dX2_readAtom_155 ⟨(Nat.le_of_ble_eq_true rfl), (Nat.le_of_ble_eq_true rfl)⟩ (fun u_ H locs hq73 hP hD hS => ?_)
              obtain ⟨lz2_71, fc2_72⟩ := u_
              replace hq73 : (0 ≤ lz2_71.toInt ∧ lz2_71.toInt ≤ 400) ∧ (lz2_71.toInt = lz2_57.toInt + 1) ∧ (fc2_72 = upd fc2_58 lz2_57.toInt.toNat (7 + 32 * 0)) := hq73
              have hP : va_P g.1 vwCl (List.flatten [bLT g lt ta lo, bTape g ta ab sz ln kd2_66 bg2_67 nx2_68 (-1) fb, bLaw g lo lc lz2_71 ll lm lg ld fc2_72]) H := hP
              have hD : va_D A (List.flatten [bLT g lt ta lo, bTape g ta ab sz ln kd2_66 bg2_67 nx2_68 (-1) fb, bLaw g lo lc lz2_71 ll lm lg ld fc2_72]) := hD
              refine W.widen (k := 0) (n := 0) (Nat.le_of_ble_eq_true rfl) (Nat.le_of_ble_eq_true rfl) ?_
              refine W.eq (g2 := F0 m 158 ls [.int lz2_57]) rfl ?_
              obtain ⟨hq73_0, hq73_1, hq73_2⟩ := hq73
              refine lv_pop hx hb dX2_readAtom_158 rfl ?_
              refine lv_aload_n hx hb dX2_readAtom_159 rfl (lv_at hl 1 rfl) ?_
              refine mcallV' (g := g) (q0 := 0) (ci := 2) (As := []) (rest := []) St hK hT hA hP hD hS hl.1 [0, 1, 2] [] rfl rfl rfl (c_lt_readSumC l g lt ta lo ab sz ln kd2_66 bg2_67 nx2_68 fb lc lz2_71 ll lm lg ld fc2_72 hq73_0 hln hq69_0 hq69_1 hq69_2 hq69_4 (by first | assumption | omega | decide | exact Or.inl (by decide) | exact Or.inr (by decide))) (cwV 0 hts (zgL (zl4 k313 k314 k315 k309) k304) rfl rfl rfl (by decide +kernel) ⟨Nat.le_of_ble_eq_true rfl, Nat.le_of_ble_eq_true rfl⟩) rfl rfl rfl rfl (Nat.le_of_ble_eq_true rfl) dX2_readAtom_160 ⟨(Nat.le_of_ble_eq_true rfl), (Nat.le_of_ble_eq_true rfl)⟩ (fun u_ H locs hq81 hP hD hS => ?_)
              obtain ⟨kd2_74, bg2_75, nx2_76, ft2_77, lz2_78, fc2_79, q_80⟩ := u_
              replace hq81 : (0 ≤ lz2_78.toInt ∧ lz2_78.toInt ≤ 400) ∧ (-1 ≤ ft2_77.toInt) ∧ (0 ≤ nx2_76.toInt ∧ nx2_76.toInt ≤ 400) ∧ (0 ≤ bg2_75.toInt ∧ bg2_75.toInt ≤ 400) ∧ (zKd kd2_74.toInt bg2_75.toInt nx2_76.toInt) ∧ (zTk fb ln.toInt kd2_74.toInt bg2_75.toInt nx2_76.toInt) ∧ (q_80 = 1 ∧ zSum fb ln.toInt bg2_67.toInt (.ok bg2_75.toInt) ∧ (-1) = ft2_77 ∧ zSC fb ln.toInt bg2_67.toInt bg2_75.toInt fc2_72 fc2_79 lz2_71.toInt lz2_78.toInt ∨ q_80 = 0 ∧ zSum fb ln.toInt bg2_67.toInt (.bad ft2_77.toInt)) := hq81
              have hP : va_P g.1 vwCl (List.flatten [bLT g lt ta lo, bTape g ta ab sz ln kd2_74 bg2_75 nx2_76 ft2_77 fb, bLaw g lo lc lz2_78 ll lm lg ld fc2_79]) H := hP
              have hD : va_D A (List.flatten [bLT g lt ta lo, bTape g ta ab sz ln kd2_74 bg2_75 nx2_76 ft2_77 fb, bLaw g lo lc lz2_78 ll lm lg ld fc2_79]) := hD
              refine W.widen (k := 0) (n := 0) (Nat.le_of_ble_eq_true rfl) (Nat.le_of_ble_eq_true rfl) ?_
              refine W.eq (g2 := F0 m 163 ls [.int q_80]) rfl ?_
              obtain ⟨hq81_0, hq81_1, hq81_2, hq81_3, hq81_4, hq81_5, hq81_6⟩ := hq81
              rcases hq81_6 with ⟨rfl, hq81_k, rfl, hq81_kc⟩ | ⟨rfl, hq81_k⟩
              · skip
                have w82 := hq81_kc.1
                refine lv_if_ne (tgt := 168) hx hb dX2_readAtom_163 (by decide) (fun _ => ?_) (fun c83 => absurd c83 (by decide))
                refine lv_aload_n hx hb dX2_readAtom_168 rfl (lv_at hl 1 rfl) ?_
                refine va_get (D := g.1) (ci := 2) (v := .ref lo) (C := RX2) (T := TX2) (N := 2) hx hb hts izRX2 hown hK hP 0 rfl rfl 1 (by decide) (hts _ k210) (fun _ h9 => h9) rfl dX2_readAtom_169 ?_
                refine lv_iload_n hx hb dX2_readAtom_172 rfl (lv_at hl 0 rfl) ?_
                refine lv_if_eq (tgt := 181) hx hb dX2_readAtom_173 (by decide) (fun c84 => absurd c84 (by decide)) (fun _ => ?_)
                refine lv_bipush (v := 8) hx hb dX2_readAtom_176 (by decide) ?_
                refine lv_goto (tgt := 183) hx hb dX2_readAtom_178 (by decide) ?_
                refine lv_iconst (v := 0) hx hb dX2_readAtom_183 (by decide) ?_
                refine mcallV' (g := g) (q0 := 0) (ci := 1) (As := [.int 8, .int 0]) (rest := []) St hK hT hA hP hD hS hl.1 [2] [0, 1] rfl rfl rfl (c_l_putC l g lo lc lz2_78 ll lm lg ld fc2_79 8 0 hq81_0 (by first | assumption | omega | decide | exact Or.inl (by decide) | exact Or.inr (by decide))) (cwV 2 hts (zgL (zl4 k297 k298 k299 k85) k202) rfl rfl rfl (by decide +kernel) ⟨Nat.le_of_ble_eq_true rfl, Nat.le_of_ble_eq_true rfl⟩) rfl rfl rfl rfl (Nat.le_of_ble_eq_true rfl) dX2_readAtom_184 ⟨(Nat.le_of_ble_eq_true rfl), (Nat.le_of_ble_eq_true rfl)⟩ (fun u_ H locs hq87 hP hD hS => ?_)
                obtain ⟨lz2_85, fc2_86⟩ := u_
                replace hq87 : (0 ≤ lz2_85.toInt ∧ lz2_85.toInt ≤ 400) ∧ (lz2_85.toInt = lz2_78.toInt + 1) ∧ (fc2_86 = upd fc2_79 lz2_78.toInt.toNat (8 + 32 * 0)) := hq87
                have hP : va_P g.1 vwCl (List.flatten [bLT g lt ta lo, bTape g ta ab sz ln kd2_74 bg2_75 nx2_76 (-1) fb, bLaw g lo lc lz2_85 ll lm lg ld fc2_86]) H := hP
                have hD : va_D A (List.flatten [bLT g lt ta lo, bTape g ta ab sz ln kd2_74 bg2_75 nx2_76 (-1) fb, bLaw g lo lc lz2_85 ll lm lg ld fc2_86]) := hD
                refine W.widen (k := 0) (n := 0) (Nat.le_of_ble_eq_true rfl) (Nat.le_of_ble_eq_true rfl) ?_
                refine W.eq (g2 := F0 m 187 ls [.int lz2_78]) rfl ?_
                obtain ⟨hq87_0, hq87_1, hq87_2⟩ := hq87
                refine lv_pop hx hb dX2_readAtom_187 rfl ?_
                refine lv_iconst (v := 1) hx hb dX2_readAtom_188 (by decide) ?_
                have hP : va_P g.1 vwCl (List.flatten [bLT g lt ta lo, bTape g ta ab sz ln kd2_74 bg2_75 nx2_76 (-1) fb, bLaw g lo lc lz2_85 ll lm lg ld fc2_86]) H := hP
                have hD : va_D A (List.flatten [bLT g lt ta lo, bTape g ta ab sz ln kd2_74 bg2_75 nx2_76 (-1) fb, bLaw g lo lc lz2_85 ll lm lg ld fc2_86]) := hD
                exact mret_z hx hb hr hlocks hS (Nat.le_of_ble_eq_true rfl) (Nat.le_of_ble_eq_true rfl) dX2_readAtom_189 (kd2_74, bg2_75, nx2_76, -1, lz2_85, fc2_86, (1 : Int32)) rfl (by decide) (show (0 ≤ lz2_85.toInt ∧ lz2_85.toInt ≤ 400) ∧ (-1 ≤ ((-1) : Int32).toInt) ∧ (0 ≤ nx2_76.toInt ∧ nx2_76.toInt ≤ 400) ∧ (0 ≤ bg2_75.toInt ∧ bg2_75.toInt ≤ 400) ∧ (zKd kd2_74.toInt bg2_75.toInt nx2_76.toInt) ∧ (zTk fb ln.toInt kd2_74.toInt bg2_75.toInt nx2_76.toInt) ∧ (1 = 1 ∧ zAtom fb ln.toInt 1 bg.toInt (.ok bg2_75.toInt) ∧ (-1) = (-1) ∧ zAC (fun e9 v9 => zAv fb ln.toInt e9 1 bg.toInt bg2_75.toInt v9) bg.toInt bg2_75.toInt fc fc2_86 lz.toInt lz2_85.toInt ∨ 1 = 0 ∧ zAtom fb ln.toInt 1 bg.toInt (.bad ((-1) : Int32).toInt)) from ⟨(by first | assumption | omega | exact Or.inl (by decide) | exact Or.inr (by omega)), (by decide), (by first | assumption | omega | exact Or.inl (by decide) | exact Or.inr (by omega)), (by first | assumption | omega | exact Or.inl (by decide) | exact Or.inr (by omega)), (by first | assumption | omega | exact Or.inl (by decide) | exact Or.inr (by omega)), (by assumption), (Or.inl ⟨rfl, zAt_pl (zor_n hq2_k hq17_k) (zPl_all (zor_n hq35_k hq46_k) hq60_k (Or.inl hq64_k) (zMv_mk hq60_5 hq69_3) hq81_k), rfl, (zAC_less (k := 8) (by omega) (zor_n hq2_k hq17_k) hq35_k hq46_k hq60_kc hq64_k (Or.inl ⟨rfl, by decide⟩) (zMv_mk hq60_5 hq69_3) (by decide) hq73_2 hq73_1 hq81_kc (by decide) hq87_2 hq87_1 w70)⟩)⟩) hP hD
              · skip
                refine lv_if_ne (tgt := 168) hx hb dX2_readAtom_163 (by decide) (fun c88 => absurd (by decide) c88) (fun _ => ?_)
                refine lv_iconst (v := 0) hx hb dX2_readAtom_166 (by decide) ?_
                have hP : va_P g.1 vwCl (List.flatten [bLT g lt ta lo, bTape g ta ab sz ln kd2_74 bg2_75 nx2_76 ft2_77 fb, bLaw g lo lc lz2_78 ll lm lg ld fc2_79]) H := hP
                have hD : va_D A (List.flatten [bLT g lt ta lo, bTape g ta ab sz ln kd2_74 bg2_75 nx2_76 ft2_77 fb, bLaw g lo lc lz2_78 ll lm lg ld fc2_79]) := hD
                exact mret_z hx hb hr hlocks hS (Nat.le_of_ble_eq_true rfl) (Nat.le_of_ble_eq_true rfl) dX2_readAtom_167 (kd2_74, bg2_75, nx2_76, ft2_77, lz2_78, fc2_79, (0 : Int32)) rfl (by decide) (show (0 ≤ lz2_78.toInt ∧ lz2_78.toInt ≤ 400) ∧ (-1 ≤ ft2_77.toInt) ∧ (0 ≤ nx2_76.toInt ∧ nx2_76.toInt ≤ 400) ∧ (0 ≤ bg2_75.toInt ∧ bg2_75.toInt ≤ 400) ∧ (zKd kd2_74.toInt bg2_75.toInt nx2_76.toInt) ∧ (zTk fb ln.toInt kd2_74.toInt bg2_75.toInt nx2_76.toInt) ∧ (0 = 1 ∧ zAtom fb ln.toInt 1 bg.toInt (.ok bg2_75.toInt) ∧ (-1) = ft2_77 ∧ zAC (fun e9 v9 => zAv fb ln.toInt e9 1 bg.toInt bg2_75.toInt v9) bg.toInt bg2_75.toInt fc fc2_79 lz.toInt lz2_78.toInt ∨ 0 = 0 ∧ zAtom fb ln.toInt 1 bg.toInt (.bad ft2_77.toInt)) from ⟨(by first | assumption | omega | exact Or.inl (by decide) | exact Or.inr (by omega)), (by first | decide | omega), (by first | assumption | omega | exact Or.inl (by decide) | exact Or.inr (by omega)), (by first | assumption | omega | exact Or.inl (by decide) | exact Or.inr (by omega)), (by first | assumption | omega | exact Or.inl (by decide) | exact Or.inr (by omega)), (by assumption), (Or.inr ⟨rfl, zAt_pl (zor_n hq2_k hq17_k) (zPl_all (zor_n hq35_k hq46_k) hq60_k (Or.inl hq64_k) (zMv_mk hq60_5 hq69_3) hq81_k)⟩)⟩) hP hD
            · skip
              refine lv_istore_n (lv' := [(2, .int 0), (0, .ref lt), (1, .int 5)]) hx hb dX2_readAtom_116 rfl hl (by decide) rfl (fun ls hl => ?_)
              refine lv_iload_n hx hb dX2_readAtom_117 rfl (lv_at hl 0 rfl) ?_
              refine lv_if_ne (tgt := 141) hx hb dX2_readAtom_118 (by decide) (fun c89 => absurd (by decide) c89) (fun _ => ?_)
              refine lv_aload_n hx hb dX2_readAtom_121 rfl (lv_at hl 1 rfl) ?_
              refine va_get (D := g.1) (ci := 2) (v := .ref ta) (C := RX2) (T := TX2) (N := 2) hx hb hts izRX2 hown hK hP 0 rfl rfl 0 (by decide) (hts _ k290) (fun x9 h9 => u_same (hts _ k291) x9 h9) rfl dX2_readAtom_122 ?_
              refine lv_bipush (v := 62) hx hb dX2_readAtom_125 (by decide) ?_
              have hL62 : (62 : Int32).toInt = 62 := by decide
              refine mcallV' (g := g) (q0 := 0) (ci := 6) (As := [.int 62]) (rest := []) St hK hT hA hP hD hS hl.1 [2] [0, 1] rfl rfl rfl (c_t_isSignF l g ta ab sz ln kd2_53 bg2_54 nx2_55 (-1) fb 62 hln hq60_2 hq60_3 hq60_4 hq60_5) (cwV 1 hts (zgL (zl4 k305 k288 k289 k277) k285) rfl rfl rfl (by decide +kernel) ⟨Nat.le_of_ble_eq_true rfl, Nat.le_of_ble_eq_true rfl⟩) rfl rfl rfl rfl (Nat.le_of_ble_eq_true rfl) dX2_readAtom_127 ⟨(Nat.le_of_ble_eq_true rfl), (Nat.le_of_ble_eq_true rfl)⟩ (fun q_90 H locs hq91 hP hD hS => ?_)
              replace hq91 : (q_90 = 1 ∧ zisS fb ln.toInt bg2_54.toInt (62 : Int32).toInt ∨ q_90 = 0 ∧ ¬ zisS fb ln.toInt bg2_54.toInt (62 : Int32).toInt) := hq91
              have hP : va_P g.1 vwCl (List.flatten [bLT g lt ta lo, bLaw g lo lc lz2_57 ll lm lg ld fc2_58, bTape g ta ab sz ln kd2_53 bg2_54 nx2_55 (-1) fb]) H := hP
              have hD : va_D A (List.flatten [bLT g lt ta lo, bLaw g lo lc lz2_57 ll lm lg ld fc2_58, bTape g ta ab sz ln kd2_53 bg2_54 nx2_55 (-1) fb]) := hD
              refine W.widen (k := 0) (n := 0) (Nat.le_of_ble_eq_true rfl) (Nat.le_of_ble_eq_true rfl) ?_
              refine W.eq (g2 := F0 m 130 ls [.int q_90]) rfl ?_
              rcases hq91 with ⟨rfl, hq91_k⟩ | ⟨rfl, hq91_k⟩
              · skip
                refine lv_if_ne (tgt := 141) hx hb dX2_readAtom_130 (by decide) (fun _ => ?_) (fun c92 => absurd c92 (by decide))
                refine lv_aload_n hx hb dX2_readAtom_141 rfl (lv_at hl 1 rfl) ?_
                refine va_get (D := g.1) (ci := 2) (v := .ref ta) (C := RX2) (T := TX2) (N := 2) hx hb hts izRX2 hown hK hP 0 rfl rfl 0 (by decide) (hts _ k290) (fun x9 h9 => u_same (hts _ k291) x9 h9) rfl dX2_readAtom_142 ?_
                refine mcallV' (g := g) (q0 := 0) (ci := 6) (As := []) (rest := []) St hK hT hA hP hD hS hl.1 [2] [0, 1] rfl rfl rfl (c_t_stepF l g ta ab sz ln kd2_53 bg2_54 nx2_55 (-1) fb hln hq60_2) (cwV 0 hts (zgL (zl4 k296 k275 k276 k277) k271) rfl rfl rfl (by decide +kernel) ⟨Nat.le_of_ble_eq_true rfl, Nat.le_of_ble_eq_true rfl⟩) rfl rfl rfl rfl (Nat.le_of_ble_eq_true rfl) dX2_readAtom_145 ⟨(Nat.le_of_ble_eq_true rfl), (Nat.le_of_ble_eq_true rfl)⟩ (fun u_ H locs hq96 hP hD hS => ?_)
                obtain ⟨kd2_93, bg2_94, nx2_95⟩ := u_
                replace hq96 : (0 ≤ nx2_95.toInt ∧ nx2_95.toInt ≤ 400) ∧ (0 ≤ bg2_94.toInt ∧ bg2_94.toInt ≤ 400) ∧ (zKd kd2_93.toInt bg2_94.toInt nx2_95.toInt) ∧ (zSk fb ln.toInt nx2_55.toInt bg2_94.toInt) ∧ (zTk fb ln.toInt kd2_93.toInt bg2_94.toInt nx2_95.toInt) := hq96
                have hP : va_P g.1 vwCl (List.flatten [bLT g lt ta lo, bLaw g lo lc lz2_57 ll lm lg ld fc2_58, bTape g ta ab sz ln kd2_93 bg2_94 nx2_95 (-1) fb]) H := hP
                have hD : va_D A (List.flatten [bLT g lt ta lo, bLaw g lo lc lz2_57 ll lm lg ld fc2_58, bTape g ta ab sz ln kd2_93 bg2_94 nx2_95 (-1) fb]) := hD
                refine W.widen (k := 0) (n := 0) (Nat.le_of_ble_eq_true rfl) (Nat.le_of_ble_eq_true rfl) ?_
                refine W.eq (g2 := F0 m 148 ls []) rfl ?_
                obtain ⟨hq96_0, hq96_1, hq96_2, hq96_3, hq96_4⟩ := hq96
                have w97 := zMv_lt (f := fb) (n := ln.toInt) (by omega) (zisS_z hq91_k) (zMv_mk hq60_5 hq96_3)
                refine lv_aload_n hx hb dX2_readAtom_148 rfl (lv_at hl 1 rfl) ?_
                refine va_get (D := g.1) (ci := 2) (v := .ref lo) (C := RX2) (T := TX2) (N := 2) hx hb hts izRX2 hown hK hP 0 rfl rfl 1 (by decide) (hts _ k210) (fun _ h9 => h9) rfl dX2_readAtom_149 ?_
                refine lv_bipush (v := 7) hx hb dX2_readAtom_152 (by decide) ?_
                refine lv_iconst (v := 0) hx hb dX2_readAtom_154 (by decide) ?_
                refine mcallV' (g := g) (q0 := 0) (ci := 1) (As := [.int 7, .int 0]) (rest := []) St hK hT hA hP hD hS hl.1 [1] [0, 2] rfl rfl rfl (c_l_putC l g lo lc lz2_57 ll lm lg ld fc2_58 7 0 hq60_0 (by first | assumption | omega | decide | exact Or.inl (by decide) | exact Or.inr (by decide))) (cwV 2 hts (zgL (zl4 k297 k298 k299 k85) k202) rfl rfl rfl (by decide +kernel) ⟨Nat.le_of_ble_eq_true rfl, Nat.le_of_ble_eq_true rfl⟩) rfl rfl rfl rfl (Nat.le_of_ble_eq_true rfl) dX2_readAtom_155 ⟨(Nat.le_of_ble_eq_true rfl), (Nat.le_of_ble_eq_true rfl)⟩ (fun u_ H locs hq100 hP hD hS => ?_)
                obtain ⟨lz2_98, fc2_99⟩ := u_
                replace hq100 : (0 ≤ lz2_98.toInt ∧ lz2_98.toInt ≤ 400) ∧ (lz2_98.toInt = lz2_57.toInt + 1) ∧ (fc2_99 = upd fc2_58 lz2_57.toInt.toNat (7 + 32 * 0)) := hq100
                have hP : va_P g.1 vwCl (List.flatten [bLT g lt ta lo, bTape g ta ab sz ln kd2_93 bg2_94 nx2_95 (-1) fb, bLaw g lo lc lz2_98 ll lm lg ld fc2_99]) H := hP
                have hD : va_D A (List.flatten [bLT g lt ta lo, bTape g ta ab sz ln kd2_93 bg2_94 nx2_95 (-1) fb, bLaw g lo lc lz2_98 ll lm lg ld fc2_99]) := hD
                refine W.widen (k := 0) (n := 0) (Nat.le_of_ble_eq_true rfl) (Nat.le_of_ble_eq_true rfl) ?_
                refine W.eq (g2 := F0 m 158 ls [.int lz2_57]) rfl ?_
                obtain ⟨hq100_0, hq100_1, hq100_2⟩ := hq100
                refine lv_pop hx hb dX2_readAtom_158 rfl ?_
                refine lv_aload_n hx hb dX2_readAtom_159 rfl (lv_at hl 1 rfl) ?_
                refine mcallV' (g := g) (q0 := 0) (ci := 2) (As := []) (rest := []) St hK hT hA hP hD hS hl.1 [0, 1, 2] [] rfl rfl rfl (c_lt_readSumC l g lt ta lo ab sz ln kd2_93 bg2_94 nx2_95 fb lc lz2_98 ll lm lg ld fc2_99 hq100_0 hln hq96_0 hq96_1 hq96_2 hq96_4 (by first | assumption | omega | decide | exact Or.inl (by decide) | exact Or.inr (by decide))) (cwV 0 hts (zgL (zl4 k313 k314 k315 k309) k304) rfl rfl rfl (by decide +kernel) ⟨Nat.le_of_ble_eq_true rfl, Nat.le_of_ble_eq_true rfl⟩) rfl rfl rfl rfl (Nat.le_of_ble_eq_true rfl) dX2_readAtom_160 ⟨(Nat.le_of_ble_eq_true rfl), (Nat.le_of_ble_eq_true rfl)⟩ (fun u_ H locs hq108 hP hD hS => ?_)
                obtain ⟨kd2_101, bg2_102, nx2_103, ft2_104, lz2_105, fc2_106, q_107⟩ := u_
                replace hq108 : (0 ≤ lz2_105.toInt ∧ lz2_105.toInt ≤ 400) ∧ (-1 ≤ ft2_104.toInt) ∧ (0 ≤ nx2_103.toInt ∧ nx2_103.toInt ≤ 400) ∧ (0 ≤ bg2_102.toInt ∧ bg2_102.toInt ≤ 400) ∧ (zKd kd2_101.toInt bg2_102.toInt nx2_103.toInt) ∧ (zTk fb ln.toInt kd2_101.toInt bg2_102.toInt nx2_103.toInt) ∧ (q_107 = 1 ∧ zSum fb ln.toInt bg2_94.toInt (.ok bg2_102.toInt) ∧ (-1) = ft2_104 ∧ zSC fb ln.toInt bg2_94.toInt bg2_102.toInt fc2_99 fc2_106 lz2_98.toInt lz2_105.toInt ∨ q_107 = 0 ∧ zSum fb ln.toInt bg2_94.toInt (.bad ft2_104.toInt)) := hq108
                have hP : va_P g.1 vwCl (List.flatten [bLT g lt ta lo, bTape g ta ab sz ln kd2_101 bg2_102 nx2_103 ft2_104 fb, bLaw g lo lc lz2_105 ll lm lg ld fc2_106]) H := hP
                have hD : va_D A (List.flatten [bLT g lt ta lo, bTape g ta ab sz ln kd2_101 bg2_102 nx2_103 ft2_104 fb, bLaw g lo lc lz2_105 ll lm lg ld fc2_106]) := hD
                refine W.widen (k := 0) (n := 0) (Nat.le_of_ble_eq_true rfl) (Nat.le_of_ble_eq_true rfl) ?_
                refine W.eq (g2 := F0 m 163 ls [.int q_107]) rfl ?_
                obtain ⟨hq108_0, hq108_1, hq108_2, hq108_3, hq108_4, hq108_5, hq108_6⟩ := hq108
                rcases hq108_6 with ⟨rfl, hq108_k, rfl, hq108_kc⟩ | ⟨rfl, hq108_k⟩
                · skip
                  have w109 := hq108_kc.1
                  refine lv_if_ne (tgt := 168) hx hb dX2_readAtom_163 (by decide) (fun _ => ?_) (fun c110 => absurd c110 (by decide))
                  refine lv_aload_n hx hb dX2_readAtom_168 rfl (lv_at hl 1 rfl) ?_
                  refine va_get (D := g.1) (ci := 2) (v := .ref lo) (C := RX2) (T := TX2) (N := 2) hx hb hts izRX2 hown hK hP 0 rfl rfl 1 (by decide) (hts _ k210) (fun _ h9 => h9) rfl dX2_readAtom_169 ?_
                  refine lv_iload_n hx hb dX2_readAtom_172 rfl (lv_at hl 0 rfl) ?_
                  refine lv_if_eq (tgt := 181) hx hb dX2_readAtom_173 (by decide) (fun _ => ?_) (fun c111 => absurd (by decide) c111)
                  refine lv_bipush (v := 9) hx hb dX2_readAtom_181 (by decide) ?_
                  refine lv_iconst (v := 0) hx hb dX2_readAtom_183 (by decide) ?_
                  refine mcallV' (g := g) (q0 := 0) (ci := 1) (As := [.int 9, .int 0]) (rest := []) St hK hT hA hP hD hS hl.1 [2] [0, 1] rfl rfl rfl (c_l_putC l g lo lc lz2_105 ll lm lg ld fc2_106 9 0 hq108_0 (by first | assumption | omega | decide | exact Or.inl (by decide) | exact Or.inr (by decide))) (cwV 2 hts (zgL (zl4 k297 k298 k299 k85) k202) rfl rfl rfl (by decide +kernel) ⟨Nat.le_of_ble_eq_true rfl, Nat.le_of_ble_eq_true rfl⟩) rfl rfl rfl rfl (Nat.le_of_ble_eq_true rfl) dX2_readAtom_184 ⟨(Nat.le_of_ble_eq_true rfl), (Nat.le_of_ble_eq_true rfl)⟩ (fun u_ H locs hq114 hP hD hS => ?_)
                  obtain ⟨lz2_112, fc2_113⟩ := u_
                  replace hq114 : (0 ≤ lz2_112.toInt ∧ lz2_112.toInt ≤ 400) ∧ (lz2_112.toInt = lz2_105.toInt + 1) ∧ (fc2_113 = upd fc2_106 lz2_105.toInt.toNat (9 + 32 * 0)) := hq114
                  have hP : va_P g.1 vwCl (List.flatten [bLT g lt ta lo, bTape g ta ab sz ln kd2_101 bg2_102 nx2_103 (-1) fb, bLaw g lo lc lz2_112 ll lm lg ld fc2_113]) H := hP
                  have hD : va_D A (List.flatten [bLT g lt ta lo, bTape g ta ab sz ln kd2_101 bg2_102 nx2_103 (-1) fb, bLaw g lo lc lz2_112 ll lm lg ld fc2_113]) := hD
                  refine W.widen (k := 0) (n := 0) (Nat.le_of_ble_eq_true rfl) (Nat.le_of_ble_eq_true rfl) ?_
                  refine W.eq (g2 := F0 m 187 ls [.int lz2_105]) rfl ?_
                  obtain ⟨hq114_0, hq114_1, hq114_2⟩ := hq114
                  refine lv_pop hx hb dX2_readAtom_187 rfl ?_
                  refine lv_iconst (v := 1) hx hb dX2_readAtom_188 (by decide) ?_
                  have hP : va_P g.1 vwCl (List.flatten [bLT g lt ta lo, bTape g ta ab sz ln kd2_101 bg2_102 nx2_103 (-1) fb, bLaw g lo lc lz2_112 ll lm lg ld fc2_113]) H := hP
                  have hD : va_D A (List.flatten [bLT g lt ta lo, bTape g ta ab sz ln kd2_101 bg2_102 nx2_103 (-1) fb, bLaw g lo lc lz2_112 ll lm lg ld fc2_113]) := hD
                  exact mret_z hx hb hr hlocks hS (Nat.le_of_ble_eq_true rfl) (Nat.le_of_ble_eq_true rfl) dX2_readAtom_189 (kd2_101, bg2_102, nx2_103, -1, lz2_112, fc2_113, (1 : Int32)) rfl (by decide) (show (0 ≤ lz2_112.toInt ∧ lz2_112.toInt ≤ 400) ∧ (-1 ≤ ((-1) : Int32).toInt) ∧ (0 ≤ nx2_103.toInt ∧ nx2_103.toInt ≤ 400) ∧ (0 ≤ bg2_102.toInt ∧ bg2_102.toInt ≤ 400) ∧ (zKd kd2_101.toInt bg2_102.toInt nx2_103.toInt) ∧ (zTk fb ln.toInt kd2_101.toInt bg2_102.toInt nx2_103.toInt) ∧ (1 = 1 ∧ zAtom fb ln.toInt 1 bg.toInt (.ok bg2_102.toInt) ∧ (-1) = (-1) ∧ zAC (fun e9 v9 => zAv fb ln.toInt e9 1 bg.toInt bg2_102.toInt v9) bg.toInt bg2_102.toInt fc fc2_113 lz.toInt lz2_112.toInt ∨ 1 = 0 ∧ zAtom fb ln.toInt 1 bg.toInt (.bad ((-1) : Int32).toInt)) from ⟨(by first | assumption | omega | exact Or.inl (by decide) | exact Or.inr (by omega)), (by decide), (by first | assumption | omega | exact Or.inl (by decide) | exact Or.inr (by omega)), (by first | assumption | omega | exact Or.inl (by decide) | exact Or.inr (by omega)), (by first | assumption | omega | exact Or.inl (by decide) | exact Or.inr (by omega)), (by assumption), (Or.inl ⟨rfl, zAt_pl (zor_n hq2_k hq17_k) (zPl_all (zor_n hq35_k hq46_k) hq60_k (Or.inr hq91_k) (zMv_mk hq60_5 hq96_3) hq108_k), rfl, (zAC_less (k := 9) (by omega) (zor_n hq2_k hq17_k) hq35_k hq46_k hq60_kc hq91_k (Or.inr ⟨rfl, by decide⟩) (zMv_mk hq60_5 hq96_3) (by decide) hq100_2 hq100_1 hq108_kc (by decide) hq114_2 hq114_1 w97)⟩)⟩) hP hD
                · skip
                  refine lv_if_ne (tgt := 168) hx hb dX2_readAtom_163 (by decide) (fun c115 => absurd (by decide) c115) (fun _ => ?_)
                  refine lv_iconst (v := 0) hx hb dX2_readAtom_166 (by decide) ?_
                  have hP : va_P g.1 vwCl (List.flatten [bLT g lt ta lo, bTape g ta ab sz ln kd2_101 bg2_102 nx2_103 ft2_104 fb, bLaw g lo lc lz2_105 ll lm lg ld fc2_106]) H := hP
                  have hD : va_D A (List.flatten [bLT g lt ta lo, bTape g ta ab sz ln kd2_101 bg2_102 nx2_103 ft2_104 fb, bLaw g lo lc lz2_105 ll lm lg ld fc2_106]) := hD
                  exact mret_z hx hb hr hlocks hS (Nat.le_of_ble_eq_true rfl) (Nat.le_of_ble_eq_true rfl) dX2_readAtom_167 (kd2_101, bg2_102, nx2_103, ft2_104, lz2_105, fc2_106, (0 : Int32)) rfl (by decide) (show (0 ≤ lz2_105.toInt ∧ lz2_105.toInt ≤ 400) ∧ (-1 ≤ ft2_104.toInt) ∧ (0 ≤ nx2_103.toInt ∧ nx2_103.toInt ≤ 400) ∧ (0 ≤ bg2_102.toInt ∧ bg2_102.toInt ≤ 400) ∧ (zKd kd2_101.toInt bg2_102.toInt nx2_103.toInt) ∧ (zTk fb ln.toInt kd2_101.toInt bg2_102.toInt nx2_103.toInt) ∧ (0 = 1 ∧ zAtom fb ln.toInt 1 bg.toInt (.ok bg2_102.toInt) ∧ (-1) = ft2_104 ∧ zAC (fun e9 v9 => zAv fb ln.toInt e9 1 bg.toInt bg2_102.toInt v9) bg.toInt bg2_102.toInt fc fc2_106 lz.toInt lz2_105.toInt ∨ 0 = 0 ∧ zAtom fb ln.toInt 1 bg.toInt (.bad ft2_104.toInt)) from ⟨(by first | assumption | omega | exact Or.inl (by decide) | exact Or.inr (by omega)), (by first | decide | omega), (by first | assumption | omega | exact Or.inl (by decide) | exact Or.inr (by omega)), (by first | assumption | omega | exact Or.inl (by decide) | exact Or.inr (by omega)), (by first | assumption | omega | exact Or.inl (by decide) | exact Or.inr (by omega)), (by assumption), (Or.inr ⟨rfl, zAt_pl (zor_n hq2_k hq17_k) (zPl_all (zor_n hq35_k hq46_k) hq60_k (Or.inr hq91_k) (zMv_mk hq60_5 hq96_3) hq108_k)⟩)⟩) hP hD
              · skip
                refine lv_if_ne (tgt := 141) hx hb dX2_readAtom_130 (by decide) (fun c116 => absurd (by decide) c116) (fun _ => ?_)
                refine lv_aload_n hx hb dX2_readAtom_133 rfl (lv_at hl 1 rfl) ?_
                refine va_get (D := g.1) (ci := 2) (v := .ref ta) (C := RX2) (T := TX2) (N := 2) hx hb hts izRX2 hown hK hP 0 rfl rfl 0 (by decide) (hts _ k290) (fun x9 h9 => u_same (hts _ k291) x9 h9) rfl dX2_readAtom_134 ?_
                refine mcallV' (g := g) (q0 := 0) (ci := 6) (As := []) (rest := []) St hK hT hA hP hD hS hl.1 [2] [0, 1] rfl rfl rfl (c_t_refuseF l g ta ab sz ln kd2_53 bg2_54 nx2_55 fb ) (cwV 0 hts (zgL (zl4 k303 k279 k280 k277) k269) rfl rfl rfl (by decide +kernel) ⟨Nat.le_of_ble_eq_true rfl, Nat.le_of_ble_eq_true rfl⟩) rfl rfl rfl rfl (Nat.le_of_ble_eq_true rfl) dX2_readAtom_137 ⟨(Nat.le_of_ble_eq_true rfl), (Nat.le_of_ble_eq_true rfl)⟩ (fun _u H locs hq117 hP hD hS => ?_)
                have hP : va_P g.1 vwCl (List.flatten [bLT g lt ta lo, bLaw g lo lc lz2_57 ll lm lg ld fc2_58, bTape g ta ab sz ln kd2_53 bg2_54 nx2_55 bg2_54 fb]) H := hP
                have hD : va_D A (List.flatten [bLT g lt ta lo, bLaw g lo lc lz2_57 ll lm lg ld fc2_58, bTape g ta ab sz ln kd2_53 bg2_54 nx2_55 bg2_54 fb]) := hD
                refine W.widen (k := 0) (n := 0) (Nat.le_of_ble_eq_true rfl) (Nat.le_of_ble_eq_true rfl) ?_
                refine W.eq (g2 := F0 m 140 ls [.int 0]) rfl ?_
                have hP : va_P g.1 vwCl (List.flatten [bLT g lt ta lo, bLaw g lo lc lz2_57 ll lm lg ld fc2_58, bTape g ta ab sz ln kd2_53 bg2_54 nx2_55 bg2_54 fb]) H := hP
                have hD : va_D A (List.flatten [bLT g lt ta lo, bLaw g lo lc lz2_57 ll lm lg ld fc2_58, bTape g ta ab sz ln kd2_53 bg2_54 nx2_55 bg2_54 fb]) := hD
                obtain ⟨hP, hD⟩ := zord (g := g) (Bs' := [bLT g lt ta lo, bTape g ta ab sz ln kd2_53 bg2_54 nx2_55 bg2_54 fb, bLaw g lo lc lz2_57 ll lm lg ld fc2_58]) [0, 2, 1] rfl rfl hP hD
                exact mret_z hx hb hr hlocks hS (Nat.le_of_ble_eq_true rfl) (Nat.le_of_ble_eq_true rfl) dX2_readAtom_140 (kd2_53, bg2_54, nx2_55, bg2_54, lz2_57, fc2_58, (0 : Int32)) rfl (by decide) (show (0 ≤ lz2_57.toInt ∧ lz2_57.toInt ≤ 400) ∧ (-1 ≤ bg2_54.toInt) ∧ (0 ≤ nx2_55.toInt ∧ nx2_55.toInt ≤ 400) ∧ (0 ≤ bg2_54.toInt ∧ bg2_54.toInt ≤ 400) ∧ (zKd kd2_53.toInt bg2_54.toInt nx2_55.toInt) ∧ (zTk fb ln.toInt kd2_53.toInt bg2_54.toInt nx2_55.toInt) ∧ (0 = 1 ∧ zAtom fb ln.toInt 1 bg.toInt (.ok bg2_54.toInt) ∧ (-1) = bg2_54 ∧ zAC (fun e9 v9 => zAv fb ln.toInt e9 1 bg.toInt bg2_54.toInt v9) bg.toInt bg2_54.toInt fc fc2_58 lz.toInt lz2_57.toInt ∨ 0 = 0 ∧ zAtom fb ln.toInt 1 bg.toInt (.bad bg2_54.toInt)) from ⟨(by first | assumption | omega | exact Or.inl (by decide) | exact Or.inr (by omega)), (by first | decide | omega), (by first | assumption | omega | exact Or.inl (by decide) | exact Or.inr (by omega)), (by first | assumption | omega | exact Or.inl (by decide) | exact Or.inr (by omega)), (by first | assumption | omega | exact Or.inl (by decide) | exact Or.inr (by omega)), (by assumption), (Or.inr ⟨rfl, zAt_pl (zor_n hq2_k hq17_k) (.bad2 (zor_n hq35_k hq46_k) hq60_k (zor_n hq64_k hq91_k))⟩)⟩) hP hD
          · skip
            refine lv_if_ne (tgt := 107) hx hb dX2_readAtom_102 (by decide) (fun c118 => absurd (by decide) c118) (fun _ => ?_)
            refine lv_iconst (v := 0) hx hb dX2_readAtom_105 (by decide) ?_
            have hP : va_P g.1 vwCl (List.flatten [bLT g lt ta lo, bTape g ta ab sz ln kd2_53 bg2_54 nx2_55 ft2_56 fb, bLaw g lo lc lz2_57 ll lm lg ld fc2_58]) H := hP
            have hD : va_D A (List.flatten [bLT g lt ta lo, bTape g ta ab sz ln kd2_53 bg2_54 nx2_55 ft2_56 fb, bLaw g lo lc lz2_57 ll lm lg ld fc2_58]) := hD
            exact mret_z hx hb hr hlocks hS (Nat.le_of_ble_eq_true rfl) (Nat.le_of_ble_eq_true rfl) dX2_readAtom_106 (kd2_53, bg2_54, nx2_55, ft2_56, lz2_57, fc2_58, (0 : Int32)) rfl (by decide) (show (0 ≤ lz2_57.toInt ∧ lz2_57.toInt ≤ 400) ∧ (-1 ≤ ft2_56.toInt) ∧ (0 ≤ nx2_55.toInt ∧ nx2_55.toInt ≤ 400) ∧ (0 ≤ bg2_54.toInt ∧ bg2_54.toInt ≤ 400) ∧ (zKd kd2_53.toInt bg2_54.toInt nx2_55.toInt) ∧ (zTk fb ln.toInt kd2_53.toInt bg2_54.toInt nx2_55.toInt) ∧ (0 = 1 ∧ zAtom fb ln.toInt 1 bg.toInt (.ok bg2_54.toInt) ∧ (-1) = ft2_56 ∧ zAC (fun e9 v9 => zAv fb ln.toInt e9 1 bg.toInt bg2_54.toInt v9) bg.toInt bg2_54.toInt fc fc2_58 lz.toInt lz2_57.toInt ∨ 0 = 0 ∧ zAtom fb ln.toInt 1 bg.toInt (.bad ft2_56.toInt)) from ⟨(by first | assumption | omega | exact Or.inl (by decide) | exact Or.inr (by omega)), (by first | decide | omega), (by first | assumption | omega | exact Or.inl (by decide) | exact Or.inr (by omega)), (by first | assumption | omega | exact Or.inl (by decide) | exact Or.inr (by omega)), (by first | assumption | omega | exact Or.inl (by decide) | exact Or.inr (by omega)), (by assumption), (Or.inr ⟨rfl, zAt_pl (zor_n hq2_k hq17_k) (.bad1 (zor_n hq35_k hq46_k) hq60_k)⟩)⟩) hP hD
set_option maxRecDepth 100000 in
set_option maxHeartbeats 4000000 in
theorem c_lt_readCondition5C (l : Launch) (g : zG) (lt : Nat) (ta : Nat) (lo : Nat) (ab : Nat) (sz : Int32) (ln : Int32) (kd : Int32) (bg : Int32) (nx : Int32) (fb : Nat → Int32) (lc : Nat) (lz : Int32) (ll : Int32) (lm : Int32) (lg : Int32) (ld : Int32) (fc : Nat → Int32) (b_lz : 0 ≤ lz.toInt ∧ lz.toInt ≤ 400) (hln : 0 ≤ ln.toInt ∧ ln.toInt ≤ 400) (hnx : 0 ≤ nx.toInt ∧ nx.toInt ≤ 400) (hbg : 0 ≤ bg.toInt ∧ bg.toInt ≤ 400) (hkd : zKd kd.toInt bg.toInt nx.toInt) (hTk : zTk fb ln.toInt kd.toInt bg.toInt nx.toInt) (hlb : lz.toInt + 2 ≤ bg.toInt) : zM' g l yX2_readCondition (Cond.code yX2_readCondition cX2_readCondition 5 (some .boolean) :: zB) ({ frames := 10, cells := 0, slots := 0, locals := 219 } : Room) [.ref lt, .int 5] [bLT g lt ta lo, bTape g ta ab sz ln kd bg nx (-1) fb, bLaw g lo lc lz ll lm lg ld fc] (fun u : Int32 × Int32 × Int32 × Int32 × Int32 × (Nat → Int32) × Int32 => (fun (kd2 : Int32) (bg2 : Int32) (nx2 : Int32) (ft2 : Int32) (lz2 : Int32) (fc2 : Nat → Int32) (q : Int32) => some (.int q)) (u.1) (u.2.1) (u.2.2.1) (u.2.2.2.1) (u.2.2.2.2.1) (u.2.2.2.2.2.1) (u.2.2.2.2.2.2)) (fun u : Int32 × Int32 × Int32 × Int32 × Int32 × (Nat → Int32) × Int32 => (fun (kd2 : Int32) (bg2 : Int32) (nx2 : Int32) (ft2 : Int32) (lz2 : Int32) (fc2 : Nat → Int32) (q : Int32) => (0 ≤ lz2.toInt ∧ lz2.toInt ≤ 400) ∧ (-1 ≤ ft2.toInt) ∧ (0 ≤ nx2.toInt ∧ nx2.toInt ≤ 400) ∧ (0 ≤ bg2.toInt ∧ bg2.toInt ≤ 400) ∧ (zKd kd2.toInt bg2.toInt nx2.toInt) ∧ (zTk fb ln.toInt kd2.toInt bg2.toInt nx2.toInt) ∧ (q = 1 ∧ zCond fb ln.toInt (zAtom fb ln.toInt 1) bg.toInt (.ok bg2.toInt) ∧ (-1) = ft2 ∧ zAC (fun e9 v9 => zCv fb ln.toInt (zAv fb ln.toInt e9 1) false true bg.toInt bg2.toInt v9) bg.toInt bg2.toInt fc fc2 lz.toInt lz2.toInt ∨ q = 0 ∧ zCond fb ln.toInt (zAtom fb ln.toInt 1) bg.toInt (.bad ft2.toInt))) (u.1) (u.2.1) (u.2.2.1) (u.2.2.2.1) (u.2.2.2.2.1) (u.2.2.2.2.2.1) (u.2.2.2.2.2.2)) (fun u : Int32 × Int32 × Int32 × Int32 × Int32 × (Nat → Int32) × Int32 => (fun (kd2 : Int32) (bg2 : Int32) (nx2 : Int32) (ft2 : Int32) (lz2 : Int32) (fc2 : Nat → Int32) (q : Int32) => [bLT g lt ta lo, bTape g ta ab sz ln kd2 bg2 nx2 ft2 fb, bLaw g lo lc lz2 ll lm lg ld fc2]) (u.1) (u.2.1) (u.2.2.1) (u.2.2.2.1) (u.2.2.2.2.1) (u.2.2.2.2.2.1) (u.2.2.2.2.2.2)) := by
  refine zM'.of (cc := cX2_readCondition) (maxL := 5) (rt := (some .boolean)) (by decide) rfl (Nat.le_of_ble_eq_true rfl) ?_
  intro p e s m args below meth c A ls St hr hlocks hin hK hT hA hP hD hS hl
  obtain ⟨hx, hb, hml, hown, hts⟩ := id St
  have hl : lv_has ls 5 [(0, .ref lt), (1, .int 5)] := hl
  refine lv_iconst (v := (-1)) hx hb dX2_readCondition_0 (by decide) ?_
  refine lv_istore_n (lv' := [(2, .int (-1)), (0, .ref lt), (1, .int 5)]) hx hb dX2_readCondition_1 rfl hl (by decide) rfl (fun ls hl => ?_)
  refine lv_iconst (v := (-1)) hx hb dX2_readCondition_2 (by decide) ?_
  refine lv_istore_n (lv' := [(3, .int (-1)), (2, .int (-1)), (0, .ref lt), (1, .int 5)]) hx hb dX2_readCondition_3 rfl hl (by decide) rfl (fun ls hl => ?_)
  refine lv_iconst (v := 0) hx hb dX2_readCondition_4 (by decide) ?_
  refine lv_istore (lv' := [(4, .int 0), (3, .int (-1)), (2, .int (-1)), (0, .ref lt), (1, .int 5)]) hx hb dX2_readCondition_5 hl (by decide) rfl (fun ls hl => ?_)
  have hl := lv_sub (l' := [(0, .ref lt), (1, .int 5), (2, .int (-1)), (3, .int (-1)), (4, .int 0)]) hl [3, 4, 2, 1, 0] rfl
  have LP7_20 : ∀ (kf : Nat) (x_1 : Int32) (x_2 : Int32) (x_3 : Int32) (x_4 : Int32) (x_5 : Int32) (x_6 : Int32) (x_7 : Int32) (fc_8 : Nat → Int32), ((-1) ≤ x_1.toInt ∧ x_1.toInt ≤ 400) → ((-1) ≤ x_2.toInt ∧ x_2.toInt ≤ 400) → (0 ≤ x_3.toInt ∧ x_3.toInt ≤ 400) → (0 ≤ x_5.toInt ∧ x_5.toInt ≤ 400) → (0 ≤ x_6.toInt ∧ x_6.toInt ≤ 400) → (0 ≤ x_7.toInt ∧ x_7.toInt ≤ 400) → (zKd x_4.toInt x_5.toInt x_6.toInt) → (zTk fb ln.toInt x_4.toInt x_5.toInt x_6.toInt) → (x_3.toInt ≤ x_5.toInt) → (∀ r9, zCond fb ln.toInt (zAtom fb ln.toInt 1) x_5.toInt r9 → zCond fb ln.toInt (zAtom fb ln.toInt 1) bg.toInt r9) → (zCI (fun e9 => zAv fb ln.toInt e9 1) fb ln.toInt bg.toInt x_5.toInt fc fc_8 lz.toInt x_7.toInt x_1.toInt x_2.toInt) → ∀ (H : Heap) (locs : List Loc) (ls : Array Slot), ((401 - x_3.toInt).toNat) < kf → va_P g.1 vwCl (List.flatten [bLT g lt ta lo, bTape g ta ab sz ln x_4 x_5 x_6 (-1) fb, bLaw g lo lc x_7 ll lm lg ld fc_8]) H → va_D A (List.flatten [bLT g lt ta lo, bTape g ta ab sz ln x_4 x_5 x_6 (-1) fb, bLaw g lo lc x_7 ll lm lg ld fc_8]) → va_S A s.heap H locs → lv_has ls 5 [(0, .ref lt), (1, .int 5), (2, .int x_1), (3, .int x_2), (4, .int x_3)] → W p l e ({ frames := 10, cells := 0, slots := 0, locals := 219 } : Room) s m args below meth c H locs (0) (0) (zF g (fun u : Int32 × Int32 × Int32 × Int32 × Int32 × (Nat → Int32) × Int32 => (fun (kd2 : Int32) (bg2 : Int32) (nx2 : Int32) (ft2 : Int32) (lz2 : Int32) (fc2 : Nat → Int32) (q : Int32) => some (.int q)) (u.1) (u.2.1) (u.2.2.1) (u.2.2.2.1) (u.2.2.2.2.1) (u.2.2.2.2.2.1) (u.2.2.2.2.2.2)) (fun u : Int32 × Int32 × Int32 × Int32 × Int32 × (Nat → Int32) × Int32 => (fun (kd2 : Int32) (bg2 : Int32) (nx2 : Int32) (ft2 : Int32) (lz2 : Int32) (fc2 : Nat → Int32) (q : Int32) => (0 ≤ lz2.toInt ∧ lz2.toInt ≤ 400) ∧ (-1 ≤ ft2.toInt) ∧ (0 ≤ nx2.toInt ∧ nx2.toInt ≤ 400) ∧ (0 ≤ bg2.toInt ∧ bg2.toInt ≤ 400) ∧ (zKd kd2.toInt bg2.toInt nx2.toInt) ∧ (zTk fb ln.toInt kd2.toInt bg2.toInt nx2.toInt) ∧ (q = 1 ∧ zCond fb ln.toInt (zAtom fb ln.toInt 1) bg.toInt (.ok bg2.toInt) ∧ (-1) = ft2 ∧ zAC (fun e9 v9 => zCv fb ln.toInt (zAv fb ln.toInt e9 1) false true bg.toInt bg2.toInt v9) bg.toInt bg2.toInt fc fc2 lz.toInt lz2.toInt ∨ q = 0 ∧ zCond fb ln.toInt (zAtom fb ln.toInt 1) bg.toInt (.bad ft2.toInt))) (u.1) (u.2.1) (u.2.2.1) (u.2.2.2.1) (u.2.2.2.2.1) (u.2.2.2.2.2.1) (u.2.2.2.2.2.2)) (fun u : Int32 × Int32 × Int32 × Int32 × Int32 × (Nat → Int32) × Int32 => (fun (kd2 : Int32) (bg2 : Int32) (nx2 : Int32) (ft2 : Int32) (lz2 : Int32) (fc2 : Nat → Int32) (q : Int32) => [bLT g lt ta lo, bTape g ta ab sz ln kd2 bg2 nx2 ft2 fb, bLaw g lo lc lz2 ll lm lg ld fc2]) (u.1) (u.2.1) (u.2.2.1) (u.2.2.2.1) (u.2.2.2.2.1) (u.2.2.2.2.2.1) (u.2.2.2.2.2.2)) ({ frames := 10, cells := 0, slots := 0, locals := 219 } : Room) below args s A) (F0 m 7 ls []) := by
    intro kf
    induction kf with
    | zero => intro x_1 x_2 x_3 x_4 x_5 x_6 x_7 fc_8 i9 i10 i11 i12 i13 i14 i15 i16 i17 i18 i19 H locs ls hk; exact absurd hk (Nat.not_lt_zero _)
    | succ kf ih7_21 =>
      intro x_1 x_2 x_3 x_4 x_5 x_6 x_7 fc_8 i9 i10 i11 i12 i13 i14 i15 i16 i17 i18 i19 H locs ls hk7_21 hP hD hS hl
      refine lv_iload hx hb dX2_readCondition_7 (lv_at hl 4 rfl) ?_
      refine lv_sipush (v := 400) hx hb dX2_readCondition_9 (by decide) ?_
      refine lv_icmp_ge (tgt := 100) hx hb dX2_readCondition_12 (by decide) (fun cb9 => ?_) (fun cb9 => ?_)
      · skip
        have c22 : 400 ≤ x_3.toInt := zle cb9 (by decide) rfl
        have n23 : 400 ≤ x_3.toInt := Int.le_trans (Int.le_refl _) c22
        refine lv_aload_n hx hb dX2_readCondition_100 rfl (lv_at hl 0 rfl) ?_
        refine va_get (D := g.1) (ci := 2) (v := .ref ta) (C := RX2) (T := TX2) (N := 2) hx hb hts izRX2 hown hK hP 0 rfl rfl 0 (by decide) (hts _ k290) (fun x9 h9 => u_same (hts _ k291) x9 h9) rfl dX2_readCondition_101 ?_
        refine mcallV' (g := g) (q0 := 0) (ci := 6) (As := []) (rest := []) St hK hT hA hP hD hS hl.1 [1] [0, 2] rfl rfl rfl (c_t_refuseF l g ta ab sz ln x_4 x_5 x_6 fb ) (cwV 0 hts (zgL (zl4 k303 k279 k280 k277) k269) rfl rfl rfl (by decide +kernel) ⟨Nat.le_of_ble_eq_true rfl, Nat.le_of_ble_eq_true rfl⟩) rfl rfl rfl rfl (Nat.le_of_ble_eq_true rfl) dX2_readCondition_104 ⟨(Nat.le_of_ble_eq_true rfl), (Nat.le_of_ble_eq_true rfl)⟩ (fun _u H locs hq24 hP hD hS => ?_)
        have hP : va_P g.1 vwCl (List.flatten [bLT g lt ta lo, bLaw g lo lc x_7 ll lm lg ld fc_8, bTape g ta ab sz ln x_4 x_5 x_6 x_5 fb]) H := hP
        have hD : va_D A (List.flatten [bLT g lt ta lo, bLaw g lo lc x_7 ll lm lg ld fc_8, bTape g ta ab sz ln x_4 x_5 x_6 x_5 fb]) := hD
        refine W.widen (k := 0) (n := 0) (Nat.le_of_ble_eq_true rfl) (Nat.le_of_ble_eq_true rfl) ?_
        refine W.eq (g2 := F0 m 107 ls [.int 0]) rfl ?_
        have hP : va_P g.1 vwCl (List.flatten [bLT g lt ta lo, bLaw g lo lc x_7 ll lm lg ld fc_8, bTape g ta ab sz ln x_4 x_5 x_6 x_5 fb]) H := hP
        have hD : va_D A (List.flatten [bLT g lt ta lo, bLaw g lo lc x_7 ll lm lg ld fc_8, bTape g ta ab sz ln x_4 x_5 x_6 x_5 fb]) := hD
        obtain ⟨hP, hD⟩ := zord (g := g) (Bs' := [bLT g lt ta lo, bTape g ta ab sz ln x_4 x_5 x_6 x_5 fb, bLaw g lo lc x_7 ll lm lg ld fc_8]) [0, 2, 1] rfl rfl hP hD
        exact mret_z hx hb hr hlocks hS (Nat.le_of_ble_eq_true rfl) (Nat.le_of_ble_eq_true rfl) dX2_readCondition_107 (x_4, x_5, x_6, x_5, x_7, fc_8, (0 : Int32)) rfl (by decide) (show (0 ≤ x_7.toInt ∧ x_7.toInt ≤ 400) ∧ (-1 ≤ x_5.toInt) ∧ (0 ≤ x_6.toInt ∧ x_6.toInt ≤ 400) ∧ (0 ≤ x_5.toInt ∧ x_5.toInt ≤ 400) ∧ (zKd x_4.toInt x_5.toInt x_6.toInt) ∧ (zTk fb ln.toInt x_4.toInt x_5.toInt x_6.toInt) ∧ (0 = 1 ∧ zCond fb ln.toInt (zAtom fb ln.toInt 1) bg.toInt (.ok x_5.toInt) ∧ (-1) = x_5 ∧ zAC (fun e9 v9 => zCv fb ln.toInt (zAv fb ln.toInt e9 1) false true bg.toInt x_5.toInt v9) bg.toInt x_5.toInt fc fc_8 lz.toInt x_7.toInt ∨ 0 = 0 ∧ zCond fb ln.toInt (zAtom fb ln.toInt 1) bg.toInt (.bad x_5.toInt)) from ⟨(by first | assumption | omega | exact Or.inl (by decide) | exact Or.inr (by omega)), (by first | decide | omega), (by first | assumption | omega | exact Or.inl (by decide) | exact Or.inr (by omega)), (by first | assumption | omega | exact Or.inl (by decide) | exact Or.inr (by omega)), (by first | assumption | omega | exact Or.inl (by decide) | exact Or.inr (by omega)), (by assumption), (Or.inr ⟨rfl, i18 _ (.wrong (zAt_e (by omega)))⟩)⟩) hP hD
      · skip
        have c25 : x_3.toInt < 400 := zlti (Int32.not_le.mp cb9) rfl (by decide)
        have n26 : x_3.toInt ≤ 399 := zL1 (b := 400) c25 (Int.le_refl _) (by decide)
        have w27 := i19.1
        have w28 := i19.2.1
        refine lv_aload_n hx hb dX2_readCondition_15 rfl (lv_at hl 0 rfl) ?_
        refine lv_iload_n hx hb dX2_readCondition_16 rfl (lv_at hl 1 rfl) ?_
        refine mcallV' (g := g) (q0 := 0) (ci := 2) (As := [.int 5]) (rest := []) St hK hT hA hP hD hS hl.1 [0, 1, 2] [] rfl rfl rfl (c_lt_readAtom5C l g lt ta lo ab sz ln x_4 x_5 x_6 fb lc x_7 ll lm lg ld fc_8 i14 hln i13 i12 i15 i16 (by first | assumption | omega | decide | exact Or.inl (by decide) | exact Or.inr (by decide))) (cwV 1 hts (zgL (zl4 k317 k318 k319 k309) k327) rfl rfl rfl (by decide +kernel) ⟨Nat.le_of_ble_eq_true rfl, Nat.le_of_ble_eq_true rfl⟩) rfl rfl rfl rfl (Nat.le_of_ble_eq_true rfl) dX2_readCondition_17 ⟨(Nat.le_of_ble_eq_true rfl), (Nat.le_of_ble_eq_true rfl)⟩ (fun u_ H locs hq36 hP hD hS => ?_)
        obtain ⟨kd2_29, bg2_30, nx2_31, ft2_32, lz2_33, fc2_34, q_35⟩ := u_
        replace hq36 : (0 ≤ lz2_33.toInt ∧ lz2_33.toInt ≤ 400) ∧ (-1 ≤ ft2_32.toInt) ∧ (0 ≤ nx2_31.toInt ∧ nx2_31.toInt ≤ 400) ∧ (0 ≤ bg2_30.toInt ∧ bg2_30.toInt ≤ 400) ∧ (zKd kd2_29.toInt bg2_30.toInt nx2_31.toInt) ∧ (zTk fb ln.toInt kd2_29.toInt bg2_30.toInt nx2_31.toInt) ∧ (q_35 = 1 ∧ zAtom fb ln.toInt 1 x_5.toInt (.ok bg2_30.toInt) ∧ (-1) = ft2_32 ∧ zAC (fun e9 v9 => zAv fb ln.toInt e9 1 x_5.toInt bg2_30.toInt v9) x_5.toInt bg2_30.toInt fc_8 fc2_34 x_7.toInt lz2_33.toInt ∨ q_35 = 0 ∧ zAtom fb ln.toInt 1 x_5.toInt (.bad ft2_32.toInt)) := hq36
        have hP : va_P g.1 vwCl (List.flatten [bLT g lt ta lo, bTape g ta ab sz ln kd2_29 bg2_30 nx2_31 ft2_32 fb, bLaw g lo lc lz2_33 ll lm lg ld fc2_34]) H := hP
        have hD : va_D A (List.flatten [bLT g lt ta lo, bTape g ta ab sz ln kd2_29 bg2_30 nx2_31 ft2_32 fb, bLaw g lo lc lz2_33 ll lm lg ld fc2_34]) := hD
        refine W.widen (k := 0) (n := 0) (Nat.le_of_ble_eq_true rfl) (Nat.le_of_ble_eq_true rfl) ?_
        refine W.eq (g2 := F0 m 20 ls [.int q_35]) rfl ?_
        obtain ⟨hq36_0, hq36_1, hq36_2, hq36_3, hq36_4, hq36_5, hq36_6⟩ := hq36
        rcases hq36_6 with ⟨rfl, hq36_k, rfl, hq36_kc⟩ | ⟨rfl, hq36_k⟩
        · skip
          have w37 := hq36_kc.1
          refine lv_if_ne (tgt := 25) hx hb dX2_readCondition_20 (by decide) (fun _ => ?_) (fun c38 => absurd c38 (by decide))
          refine lv_aload_n hx hb dX2_readCondition_25 rfl (lv_at hl 0 rfl) ?_
          refine va_get (D := g.1) (ci := 2) (v := .ref lo) (C := RX2) (T := TX2) (N := 2) hx hb hts izRX2 hown hK hP 0 rfl rfl 1 (by decide) (hts _ k210) (fun _ h9 => h9) rfl dX2_readCondition_26 ?_
          refine lv_iload_n hx hb dX2_readCondition_29 rfl (lv_at hl 3 rfl) ?_
          refine mcallV' (g := g) (q0 := 0) (ci := 1) (As := [.int x_2]) (rest := []) St hK hT hA hP hD hS hl.1 [2] [0, 1] rfl rfl rfl (c_l_aimC l g lo lc lz2_33 ll lm lg ld fc2_34 x_2 hq36_0 hq36_0 (by first | assumption | omega | decide | exact Or.inl (by decide) | exact Or.inr (by decide))) (cwV 1 hts (zgL (zl4 k320 k321 k322 k85) k203) rfl rfl rfl (by decide +kernel) ⟨Nat.le_of_ble_eq_true rfl, Nat.le_of_ble_eq_true rfl⟩) rfl rfl rfl rfl (Nat.le_of_ble_eq_true rfl) dX2_readCondition_30 ⟨(Nat.le_of_ble_eq_true rfl), (Nat.le_of_ble_eq_true rfl)⟩ (fun fc2_39 H locs hq40 hP hD hS => ?_)
          replace hq40 : (zAim lz2_33.toInt x_2.toInt fc2_34 fc2_39) := hq40
          have hP : va_P g.1 vwCl (List.flatten [bLT g lt ta lo, bTape g ta ab sz ln kd2_29 bg2_30 nx2_31 (-1) fb, bLaw g lo lc lz2_33 ll lm lg ld fc2_39]) H := hP
          have hD : va_D A (List.flatten [bLT g lt ta lo, bTape g ta ab sz ln kd2_29 bg2_30 nx2_31 (-1) fb, bLaw g lo lc lz2_33 ll lm lg ld fc2_39]) := hD
          refine W.widen (k := 0) (n := 0) (Nat.le_of_ble_eq_true rfl) (Nat.le_of_ble_eq_true rfl) ?_
          refine W.eq (g2 := F0 m 33 ls []) rfl ?_
          have w41 := zCM_of (by omega) i19 hq36_kc hq40 (by omega)
          have w42 := w41.1
          have w43 := w41.2.1
          refine lv_iconst (v := (-1)) hx hb dX2_readCondition_33 (by decide) ?_
          refine lv_istore_n (lv' := [(3, .int (-1)), (0, .ref lt), (1, .int 5), (2, .int x_1), (4, .int x_3)]) hx hb dX2_readCondition_34 rfl hl (by decide) rfl (fun ls hl => ?_)
          refine lv_aload_n hx hb dX2_readCondition_35 rfl (lv_at hl 1 rfl) ?_
          refine va_get (D := g.1) (ci := 2) (v := .ref ta) (C := RX2) (T := TX2) (N := 2) hx hb hts izRX2 hown hK hP 0 rfl rfl 0 (by decide) (hts _ k290) (fun x9 h9 => u_same (hts _ k291) x9 h9) rfl dX2_readCondition_36 ?_
          refine va_ldcS (q := g.2 16) hx hb hown (zra3 hT.2.1) dX2_readCondition_39 ?_
          refine mcallV' (g := g) (q0 := 0) (ci := 6) (As := [.ref (g.2 16)]) (rest := []) St hK hT hA hP hD hS hl.1 [1] [0, 2] rfl rfl rfl (c_t_takeWordF l g ta ab sz ln kd2_29 bg2_30 nx2_31 (-1) fb (g.2 16) 3 zqa3 hln hq36_2 hq36_3 hq36_4 hq36_5 rfl zla3 zna3 (zlitB zla3)) (cwV 1 hts (zgL (zl4 k310 k311 k312 k277) k284) rfl rfl rfl (by decide +kernel) ⟨Nat.le_of_ble_eq_true rfl, Nat.le_of_ble_eq_true rfl⟩) rfl rfl rfl rfl (Nat.le_of_ble_eq_true rfl) dX2_readCondition_41 ⟨(Nat.le_of_ble_eq_true rfl), (Nat.le_of_ble_eq_true rfl)⟩ (fun u_ H locs hq48 hP hD hS => ?_)
          obtain ⟨kd2_44, bg2_45, nx2_46, r_47⟩ := u_
          replace hq48 : (0 ≤ nx2_46.toInt ∧ nx2_46.toInt ≤ 400) ∧ (0 ≤ bg2_45.toInt ∧ bg2_45.toInt ≤ 400) ∧ (zKd kd2_44.toInt bg2_45.toInt nx2_46.toInt) ∧ (zTk fb ln.toInt kd2_44.toInt bg2_45.toInt nx2_46.toInt) ∧ (r_47 = 1 ∧ zisW fb ln.toInt bg2_30.toInt zqa3.2.2.2 ∧ zMv fb ln.toInt bg2_30.toInt bg2_45.toInt ∨ r_47 = 0 ∧ ¬ zisW fb ln.toInt bg2_30.toInt zqa3.2.2.2 ∧ kd2_29 = kd2_44 ∧ bg2_30 = bg2_45 ∧ nx2_31 = nx2_46) := hq48
          have hP : va_P g.1 vwCl (List.flatten [bLT g lt ta lo, bLaw g lo lc lz2_33 ll lm lg ld fc2_39, bTape g ta ab sz ln kd2_44 bg2_45 nx2_46 (-1) fb]) H := hP
          have hD : va_D A (List.flatten [bLT g lt ta lo, bLaw g lo lc lz2_33 ll lm lg ld fc2_39, bTape g ta ab sz ln kd2_44 bg2_45 nx2_46 (-1) fb]) := hD
          refine W.widen (k := 0) (n := 0) (Nat.le_of_ble_eq_true rfl) (Nat.le_of_ble_eq_true rfl) ?_
          refine W.eq (g2 := F0 m 44 ls [.int r_47]) rfl ?_
          obtain ⟨hq48_0, hq48_1, hq48_2, hq48_3, hq48_4⟩ := hq48
          rcases hq48_4 with ⟨rfl, hq48_k, hq48_km⟩ | ⟨rfl, hq48_k, rfl, rfl, rfl⟩
          · skip
            refine lv_if_eq (tgt := 61) hx hb dX2_readCondition_44 (by decide) (fun c49 => absurd c49 (by decide)) (fun _ => ?_)
            refine lv_aload_n hx hb dX2_readCondition_47 rfl (lv_at hl 1 rfl) ?_
            refine va_get (D := g.1) (ci := 2) (v := .ref lo) (C := RX2) (T := TX2) (N := 2) hx hb hts izRX2 hown hK hP 0 rfl rfl 1 (by decide) (hts _ k210) (fun _ h9 => h9) rfl dX2_readCondition_48 ?_
            refine lv_bipush (v := 13) hx hb dX2_readCondition_51 (by decide) ?_
            refine lv_iconst (v := 0) hx hb dX2_readCondition_53 (by decide) ?_
            refine mcallV' (g := g) (q0 := 0) (ci := 1) (As := [.int 13, .int 0]) (rest := []) St hK hT hA hP hD hS hl.1 [1] [0, 2] rfl rfl rfl (c_l_putC l g lo lc lz2_33 ll lm lg ld fc2_39 13 0 hq36_0 (by first | assumption | omega | decide | exact Or.inl (by decide) | exact Or.inr (by decide))) (cwV 2 hts (zgL (zl4 k297 k298 k299 k85) k202) rfl rfl rfl (by decide +kernel) ⟨Nat.le_of_ble_eq_true rfl, Nat.le_of_ble_eq_true rfl⟩) rfl rfl rfl rfl (Nat.le_of_ble_eq_true rfl) dX2_readCondition_54 ⟨(Nat.le_of_ble_eq_true rfl), (Nat.le_of_ble_eq_true rfl)⟩ (fun u_ H locs hq52 hP hD hS => ?_)
            obtain ⟨lz2_50, fc2_51⟩ := u_
            replace hq52 : (0 ≤ lz2_50.toInt ∧ lz2_50.toInt ≤ 400) ∧ (lz2_50.toInt = lz2_33.toInt + 1) ∧ (fc2_51 = upd fc2_39 lz2_33.toInt.toNat (13 + 32 * 0)) := hq52
            have hP : va_P g.1 vwCl (List.flatten [bLT g lt ta lo, bTape g ta ab sz ln kd2_44 bg2_45 nx2_46 (-1) fb, bLaw g lo lc lz2_50 ll lm lg ld fc2_51]) H := hP
            have hD : va_D A (List.flatten [bLT g lt ta lo, bTape g ta ab sz ln kd2_44 bg2_45 nx2_46 (-1) fb, bLaw g lo lc lz2_50 ll lm lg ld fc2_51]) := hD
            refine W.widen (k := 0) (n := 0) (Nat.le_of_ble_eq_true rfl) (Nat.le_of_ble_eq_true rfl) ?_
            refine W.eq (g2 := F0 m 57 ls [.int lz2_33]) rfl ?_
            obtain ⟨hq52_0, hq52_1, hq52_2⟩ := hq52
            refine lv_istore_n (lv' := [(3, .int lz2_33), (0, .ref lt), (1, .int 5), (2, .int x_1), (4, .int x_3)]) hx hb dX2_readCondition_57 rfl hl (by decide) rfl (fun ls hl => ?_)
            refine lv_goto (tgt := 94) hx hb dX2_readCondition_58 (by decide) ?_
            have w53 : x_5.toInt < bg2_30.toInt := zAtom_gt fb ln.toInt _ _ _ (by omega) hq36_k
            have w54 : bg2_30.toInt < bg2_45.toInt := zMv_lt (f := fb) (n := ln.toInt) (by omega) (zisW_z hq48_k) hq48_km
            have w55 : ∀ r9, zCond fb ln.toInt (zAtom fb ln.toInt 1) bg2_45.toInt r9 → zCond fb ln.toInt (zAtom fb ln.toInt 1) bg.toInt r9 := fun r9 h9 => i18 r9 (zCo_more hq36_k (Or.inl hq48_k) hq48_km h9)
            have w56 : zCI (fun e9 => zAv fb ln.toInt e9 1) fb ln.toInt bg.toInt bg2_45.toInt fc fc2_51 lz.toInt lz2_50.toInt x_1.toInt lz2_33.toInt := zCI_and (by omega) (by omega) w41 hq48_k hq48_km (by decide) hq52_2 hq52_1
            refine ziinc3 (n' := 1) (a' := 1) (b' := 400) (lv' := fun v9 => [(4, .int v9), (3, .int lz2_33), (0, .ref lt), (1, .int 5), (2, .int x_1)]) hx hb dX2_readCondition_94 hl (k := 4) rfl (by decide) (fun _ => rfl) (zaddK (i := x_3.toInt) (j := 1) rfl (by decide) i11.1 n26 (Int.le_refl _) (Int.le_refl _) (by decide)) (fun x_57 ls hx_57 hl => ?_)
            refine lv_goto (tgt := 7) hx hb dX2_readCondition_97 (by decide) ?_
            have hl := lv_sub (l' := [(0, .ref lt), (1, .int 5), (2, .int x_1), (3, .int lz2_33), (4, .int x_57)]) hl [2, 3, 4, 1, 0] rfl
            have hP : va_P g.1 vwCl (List.flatten [bLT g lt ta lo, bTape g ta ab sz ln kd2_44 bg2_45 nx2_46 (-1) fb, bLaw g lo lc lz2_50 ll lm lg ld fc2_51]) H := hP
            have hD : va_D A (List.flatten [bLT g lt ta lo, bTape g ta ab sz ln kd2_44 bg2_45 nx2_46 (-1) fb, bLaw g lo lc lz2_50 ll lm lg ld fc2_51]) := hD
            exact ih7_21 x_1 lz2_33 x_57 kd2_44 bg2_45 nx2_46 lz2_50 fc2_51 ⟨i9.1, i9.2⟩ ⟨(Int.le_trans (by decide) hq36_0.1), hq36_0.2⟩ ⟨(Int.le_trans (by decide) hx_57.2.1), hx_57.2.2⟩ ⟨hq48_1.1, hq48_1.2⟩ ⟨hq48_0.1, hq48_0.2⟩ ⟨hq52_0.1, hq52_0.2⟩ hq48_2 hq48_3 (by first | omega | assumption | decide) w55 w56 H _ ls (zmK hx_57.1 (by decide) n26 (by decide) hk7_21)  hP hD hS (lv_sub hl [0, 1, 2, 3, 4] rfl)
          · skip
            refine lv_if_eq (tgt := 61) hx hb dX2_readCondition_44 (by decide) (fun _ => ?_) (fun c58 => absurd (by decide) c58)
            refine lv_aload_n hx hb dX2_readCondition_61 rfl (lv_at hl 1 rfl) ?_
            refine va_get (D := g.1) (ci := 2) (v := .ref lo) (C := RX2) (T := TX2) (N := 2) hx hb hts izRX2 hown hK hP 0 rfl rfl 1 (by decide) (hts _ k210) (fun _ h9 => h9) rfl dX2_readCondition_62 ?_
            refine lv_iload_n hx hb dX2_readCondition_65 rfl (lv_at hl 3 rfl) ?_
            refine mcallV' (g := g) (q0 := 0) (ci := 1) (As := [.int x_1]) (rest := []) St hK hT hA hP hD hS hl.1 [1] [0, 2] rfl rfl rfl (c_l_aimC l g lo lc lz2_33 ll lm lg ld fc2_39 x_1 hq36_0 hq36_0 (by first | assumption | omega | decide | exact Or.inl (by decide) | exact Or.inr (by decide))) (cwV 1 hts (zgL (zl4 k320 k321 k322 k85) k203) rfl rfl rfl (by decide +kernel) ⟨Nat.le_of_ble_eq_true rfl, Nat.le_of_ble_eq_true rfl⟩) rfl rfl rfl rfl (Nat.le_of_ble_eq_true rfl) dX2_readCondition_66 ⟨(Nat.le_of_ble_eq_true rfl), (Nat.le_of_ble_eq_true rfl)⟩ (fun fc2_59 H locs hq60 hP hD hS => ?_)
            replace hq60 : (zAim lz2_33.toInt x_1.toInt fc2_39 fc2_59) := hq60
            have hP : va_P g.1 vwCl (List.flatten [bLT g lt ta lo, bTape g ta ab sz ln kd2_29 bg2_30 nx2_31 (-1) fb, bLaw g lo lc lz2_33 ll lm lg ld fc2_59]) H := hP
            have hD : va_D A (List.flatten [bLT g lt ta lo, bTape g ta ab sz ln kd2_29 bg2_30 nx2_31 (-1) fb, bLaw g lo lc lz2_33 ll lm lg ld fc2_59]) := hD
            refine W.widen (k := 0) (n := 0) (Nat.le_of_ble_eq_true rfl) (Nat.le_of_ble_eq_true rfl) ?_
            refine W.eq (g2 := F0 m 69 ls []) rfl ?_
            refine lv_aload_n hx hb dX2_readCondition_69 rfl (lv_at hl 1 rfl) ?_
            refine va_get (D := g.1) (ci := 2) (v := .ref ta) (C := RX2) (T := TX2) (N := 2) hx hb hts izRX2 hown hK hP 0 rfl rfl 0 (by decide) (hts _ k290) (fun x9 h9 => u_same (hts _ k291) x9 h9) rfl dX2_readCondition_70 ?_
            refine va_ldcS (q := g.2 18) hx hb hown (zra4 hT.2.1) dX2_readCondition_73 ?_
            refine mcallV' (g := g) (q0 := 0) (ci := 6) (As := [.ref (g.2 18)]) (rest := []) St hK hT hA hP hD hS hl.1 [1] [0, 2] rfl rfl rfl (c_t_takeWordF l g ta ab sz ln kd2_29 bg2_30 nx2_31 (-1) fb (g.2 18) 4 zqa4 hln hq36_2 hq36_3 hq36_4 hq36_5 rfl zla4 zna4 (zlitB zla4)) (cwV 1 hts (zgL (zl4 k310 k311 k312 k277) k284) rfl rfl rfl (by decide +kernel) ⟨Nat.le_of_ble_eq_true rfl, Nat.le_of_ble_eq_true rfl⟩) rfl rfl rfl rfl (Nat.le_of_ble_eq_true rfl) dX2_readCondition_75 ⟨(Nat.le_of_ble_eq_true rfl), (Nat.le_of_ble_eq_true rfl)⟩ (fun u_ H locs hq65 hP hD hS => ?_)
            obtain ⟨kd2_61, bg2_62, nx2_63, r_64⟩ := u_
            replace hq65 : (0 ≤ nx2_63.toInt ∧ nx2_63.toInt ≤ 400) ∧ (0 ≤ bg2_62.toInt ∧ bg2_62.toInt ≤ 400) ∧ (zKd kd2_61.toInt bg2_62.toInt nx2_63.toInt) ∧ (zTk fb ln.toInt kd2_61.toInt bg2_62.toInt nx2_63.toInt) ∧ (r_64 = 1 ∧ zisW fb ln.toInt bg2_30.toInt zqa4.2.2.2 ∧ zMv fb ln.toInt bg2_30.toInt bg2_62.toInt ∨ r_64 = 0 ∧ ¬ zisW fb ln.toInt bg2_30.toInt zqa4.2.2.2 ∧ kd2_29 = kd2_61 ∧ bg2_30 = bg2_62 ∧ nx2_31 = nx2_63) := hq65
            have hP : va_P g.1 vwCl (List.flatten [bLT g lt ta lo, bLaw g lo lc lz2_33 ll lm lg ld fc2_59, bTape g ta ab sz ln kd2_61 bg2_62 nx2_63 (-1) fb]) H := hP
            have hD : va_D A (List.flatten [bLT g lt ta lo, bLaw g lo lc lz2_33 ll lm lg ld fc2_59, bTape g ta ab sz ln kd2_61 bg2_62 nx2_63 (-1) fb]) := hD
            refine W.widen (k := 0) (n := 0) (Nat.le_of_ble_eq_true rfl) (Nat.le_of_ble_eq_true rfl) ?_
            refine W.eq (g2 := F0 m 78 ls [.int r_64]) rfl ?_
            obtain ⟨hq65_0, hq65_1, hq65_2, hq65_3, hq65_4⟩ := hq65
            rcases hq65_4 with ⟨rfl, hq65_k, hq65_km⟩ | ⟨rfl, hq65_k, rfl, rfl, rfl⟩
            · skip
              refine lv_if_ne (tgt := 83) hx hb dX2_readCondition_78 (by decide) (fun _ => ?_) (fun c66 => absurd c66 (by decide))
              refine lv_aload_n hx hb dX2_readCondition_83 rfl (lv_at hl 1 rfl) ?_
              refine va_get (D := g.1) (ci := 2) (v := .ref lo) (C := RX2) (T := TX2) (N := 2) hx hb hts izRX2 hown hK hP 0 rfl rfl 1 (by decide) (hts _ k210) (fun _ h9 => h9) rfl dX2_readCondition_84 ?_
              refine lv_bipush (v := 14) hx hb dX2_readCondition_87 (by decide) ?_
              refine lv_iconst (v := 0) hx hb dX2_readCondition_89 (by decide) ?_
              refine mcallV' (g := g) (q0 := 0) (ci := 1) (As := [.int 14, .int 0]) (rest := []) St hK hT hA hP hD hS hl.1 [1] [0, 2] rfl rfl rfl (c_l_putC l g lo lc lz2_33 ll lm lg ld fc2_59 14 0 hq36_0 (by first | assumption | omega | decide | exact Or.inl (by decide) | exact Or.inr (by decide))) (cwV 2 hts (zgL (zl4 k297 k298 k299 k85) k202) rfl rfl rfl (by decide +kernel) ⟨Nat.le_of_ble_eq_true rfl, Nat.le_of_ble_eq_true rfl⟩) rfl rfl rfl rfl (Nat.le_of_ble_eq_true rfl) dX2_readCondition_90 ⟨(Nat.le_of_ble_eq_true rfl), (Nat.le_of_ble_eq_true rfl)⟩ (fun u_ H locs hq69 hP hD hS => ?_)
              obtain ⟨lz2_67, fc2_68⟩ := u_
              replace hq69 : (0 ≤ lz2_67.toInt ∧ lz2_67.toInt ≤ 400) ∧ (lz2_67.toInt = lz2_33.toInt + 1) ∧ (fc2_68 = upd fc2_59 lz2_33.toInt.toNat (14 + 32 * 0)) := hq69
              have hP : va_P g.1 vwCl (List.flatten [bLT g lt ta lo, bTape g ta ab sz ln kd2_61 bg2_62 nx2_63 (-1) fb, bLaw g lo lc lz2_67 ll lm lg ld fc2_68]) H := hP
              have hD : va_D A (List.flatten [bLT g lt ta lo, bTape g ta ab sz ln kd2_61 bg2_62 nx2_63 (-1) fb, bLaw g lo lc lz2_67 ll lm lg ld fc2_68]) := hD
              refine W.widen (k := 0) (n := 0) (Nat.le_of_ble_eq_true rfl) (Nat.le_of_ble_eq_true rfl) ?_
              refine W.eq (g2 := F0 m 93 ls [.int lz2_33]) rfl ?_
              obtain ⟨hq69_0, hq69_1, hq69_2⟩ := hq69
              refine lv_istore_n (lv' := [(2, .int lz2_33), (3, .int (-1)), (0, .ref lt), (1, .int 5), (4, .int x_3)]) hx hb dX2_readCondition_93 rfl hl (by decide) rfl (fun ls hl => ?_)
              have w70 : x_5.toInt < bg2_30.toInt := zAtom_gt fb ln.toInt _ _ _ (by omega) hq36_k
              have w71 : bg2_30.toInt < bg2_62.toInt := zMv_lt (f := fb) (n := ln.toInt) (by omega) (zisW_z hq65_k) hq65_km
              have w72 : ∀ r9, zCond fb ln.toInt (zAtom fb ln.toInt 1) bg2_62.toInt r9 → zCond fb ln.toInt (zAtom fb ln.toInt 1) bg.toInt r9 := fun r9 h9 => i18 r9 (zCo_more hq36_k (Or.inr hq65_k) hq65_km h9)
              have w73 : zCI (fun e9 => zAv fb ln.toInt e9 1) fb ln.toInt bg.toInt bg2_62.toInt fc fc2_68 lz.toInt lz2_67.toInt lz2_33.toInt (-1) := zCI_or (by omega) (by omega) (by omega) w41 hq60 hq48_k hq65_k hq65_km (by decide) hq69_2 hq69_1
              refine ziinc3 (n' := 1) (a' := 1) (b' := 400) (lv' := fun v9 => [(4, .int v9), (2, .int lz2_33), (3, .int (-1)), (0, .ref lt), (1, .int 5)]) hx hb dX2_readCondition_94 hl (k := 4) rfl (by decide) (fun _ => rfl) (zaddK (i := x_3.toInt) (j := 1) rfl (by decide) i11.1 n26 (Int.le_refl _) (Int.le_refl _) (by decide)) (fun x_74 ls hx_74 hl => ?_)
              refine lv_goto (tgt := 7) hx hb dX2_readCondition_97 (by decide) ?_
              have hl := lv_sub (l' := [(0, .ref lt), (1, .int 5), (2, .int lz2_33), (3, .int (-1)), (4, .int x_74)]) hl [3, 4, 1, 2, 0] rfl
              have hLn1 : ((-1) : Int32).toInt = (-1) := by decide
              have hP : va_P g.1 vwCl (List.flatten [bLT g lt ta lo, bTape g ta ab sz ln kd2_61 bg2_62 nx2_63 (-1) fb, bLaw g lo lc lz2_67 ll lm lg ld fc2_68]) H := hP
              have hD : va_D A (List.flatten [bLT g lt ta lo, bTape g ta ab sz ln kd2_61 bg2_62 nx2_63 (-1) fb, bLaw g lo lc lz2_67 ll lm lg ld fc2_68]) := hD
              exact ih7_21 lz2_33 (-1) x_74 kd2_61 bg2_62 nx2_63 lz2_67 fc2_68 ⟨(Int.le_trans (by decide) hq36_0.1), hq36_0.2⟩ (by decide) ⟨(Int.le_trans (by decide) hx_74.2.1), hx_74.2.2⟩ ⟨hq65_1.1, hq65_1.2⟩ ⟨hq65_0.1, hq65_0.2⟩ ⟨hq69_0.1, hq69_0.2⟩ hq65_2 hq65_3 (by first | omega | assumption | decide) w72 (by first | omega | assumption | decide) H _ ls (zmK hx_74.1 (by decide) n26 (by decide) hk7_21)  hP hD hS (lv_sub hl [0, 1, 2, 3, 4] rfl)
            · skip
              refine lv_if_ne (tgt := 83) hx hb dX2_readCondition_78 (by decide) (fun c75 => absurd (by decide) c75) (fun _ => ?_)
              refine lv_iconst (v := 1) hx hb dX2_readCondition_81 (by decide) ?_
              have hP : va_P g.1 vwCl (List.flatten [bLT g lt ta lo, bLaw g lo lc lz2_33 ll lm lg ld fc2_59, bTape g ta ab sz ln kd2_29 bg2_30 nx2_31 (-1) fb]) H := hP
              have hD : va_D A (List.flatten [bLT g lt ta lo, bLaw g lo lc lz2_33 ll lm lg ld fc2_59, bTape g ta ab sz ln kd2_29 bg2_30 nx2_31 (-1) fb]) := hD
              obtain ⟨hP, hD⟩ := zord (g := g) (Bs' := [bLT g lt ta lo, bTape g ta ab sz ln kd2_29 bg2_30 nx2_31 (-1) fb, bLaw g lo lc lz2_33 ll lm lg ld fc2_59]) [0, 2, 1] rfl rfl hP hD
              exact mret_z hx hb hr hlocks hS (Nat.le_of_ble_eq_true rfl) (Nat.le_of_ble_eq_true rfl) dX2_readCondition_82 (kd2_29, bg2_30, nx2_31, -1, lz2_33, fc2_59, (1 : Int32)) rfl (by decide) (show (0 ≤ lz2_33.toInt ∧ lz2_33.toInt ≤ 400) ∧ (-1 ≤ ((-1) : Int32).toInt) ∧ (0 ≤ nx2_31.toInt ∧ nx2_31.toInt ≤ 400) ∧ (0 ≤ bg2_30.toInt ∧ bg2_30.toInt ≤ 400) ∧ (zKd kd2_29.toInt bg2_30.toInt nx2_31.toInt) ∧ (zTk fb ln.toInt kd2_29.toInt bg2_30.toInt nx2_31.toInt) ∧ (1 = 1 ∧ zCond fb ln.toInt (zAtom fb ln.toInt 1) bg.toInt (.ok bg2_30.toInt) ∧ (-1) = (-1) ∧ zAC (fun e9 v9 => zCv fb ln.toInt (zAv fb ln.toInt e9 1) false true bg.toInt bg2_30.toInt v9) bg.toInt bg2_30.toInt fc fc2_59 lz.toInt lz2_33.toInt ∨ 1 = 0 ∧ zCond fb ln.toInt (zAtom fb ln.toInt 1) bg.toInt (.bad ((-1) : Int32).toInt)) from ⟨(by first | assumption | omega | exact Or.inl (by decide) | exact Or.inr (by omega)), (by decide), (by first | assumption | omega | exact Or.inl (by decide) | exact Or.inr (by omega)), (by first | assumption | omega | exact Or.inl (by decide) | exact Or.inr (by omega)), (by first | assumption | omega | exact Or.inl (by decide) | exact Or.inr (by omega)), (by assumption), (Or.inl ⟨rfl, i18 _ (.one hq36_k (zor_n hq48_k hq65_k)), rfl, (zAC_end (by omega) w41 hq60 hq48_k hq65_k)⟩)⟩) hP hD
        · skip
          refine lv_if_ne (tgt := 25) hx hb dX2_readCondition_20 (by decide) (fun c76 => absurd (by decide) c76) (fun _ => ?_)
          refine lv_iconst (v := 0) hx hb dX2_readCondition_23 (by decide) ?_
          have hP : va_P g.1 vwCl (List.flatten [bLT g lt ta lo, bTape g ta ab sz ln kd2_29 bg2_30 nx2_31 ft2_32 fb, bLaw g lo lc lz2_33 ll lm lg ld fc2_34]) H := hP
          have hD : va_D A (List.flatten [bLT g lt ta lo, bTape g ta ab sz ln kd2_29 bg2_30 nx2_31 ft2_32 fb, bLaw g lo lc lz2_33 ll lm lg ld fc2_34]) := hD
          exact mret_z hx hb hr hlocks hS (Nat.le_of_ble_eq_true rfl) (Nat.le_of_ble_eq_true rfl) dX2_readCondition_24 (kd2_29, bg2_30, nx2_31, ft2_32, lz2_33, fc2_34, (0 : Int32)) rfl (by decide) (show (0 ≤ lz2_33.toInt ∧ lz2_33.toInt ≤ 400) ∧ (-1 ≤ ft2_32.toInt) ∧ (0 ≤ nx2_31.toInt ∧ nx2_31.toInt ≤ 400) ∧ (0 ≤ bg2_30.toInt ∧ bg2_30.toInt ≤ 400) ∧ (zKd kd2_29.toInt bg2_30.toInt nx2_31.toInt) ∧ (zTk fb ln.toInt kd2_29.toInt bg2_30.toInt nx2_31.toInt) ∧ (0 = 1 ∧ zCond fb ln.toInt (zAtom fb ln.toInt 1) bg.toInt (.ok bg2_30.toInt) ∧ (-1) = ft2_32 ∧ zAC (fun e9 v9 => zCv fb ln.toInt (zAv fb ln.toInt e9 1) false true bg.toInt bg2_30.toInt v9) bg.toInt bg2_30.toInt fc fc2_34 lz.toInt lz2_33.toInt ∨ 0 = 0 ∧ zCond fb ln.toInt (zAtom fb ln.toInt 1) bg.toInt (.bad ft2_32.toInt)) from ⟨(by first | assumption | omega | exact Or.inl (by decide) | exact Or.inr (by omega)), (by first | decide | omega), (by first | assumption | omega | exact Or.inl (by decide) | exact Or.inr (by omega)), (by first | assumption | omega | exact Or.inl (by decide) | exact Or.inr (by omega)), (by first | assumption | omega | exact Or.inl (by decide) | exact Or.inr (by omega)), (by assumption), (Or.inr ⟨rfl, i18 _ (.wrong hq36_k)⟩)⟩) hP hD
  have hLn1 : ((-1) : Int32).toInt = (-1) := by decide
  have hL0 : (0 : Int32).toInt = 0 := by decide
  have hP : va_P g.1 vwCl (List.flatten [bLT g lt ta lo, bTape g ta ab sz ln kd bg nx (-1) fb, bLaw g lo lc lz ll lm lg ld fc]) s.heap := hP
  have hD : va_D A (List.flatten [bLT g lt ta lo, bTape g ta ab sz ln kd bg nx (-1) fb, bLaw g lo lc lz ll lm lg ld fc]) := hD
  exact LP7_20 _ (-1) (-1) 0 kd bg nx lz fc (by decide) (by decide) (by decide) ⟨hbg.1, hbg.2⟩ ⟨hnx.1, hnx.2⟩ ⟨b_lz.1, b_lz.2⟩ hkd hTk (by first | omega | assumption | decide) (fun _ h9 => h9) (zCI_0 (by omega)) s.heap _ ls (Nat.lt_succ_self _)  hP hD hS (lv_sub hl [0, 1, 2, 3, 4] rfl)
set_option maxRecDepth 100000 in
set_option maxHeartbeats 4000000 in
theorem c_lt_readDeeper5C (l : Launch) (g : zG) (lt : Nat) (ta : Nat) (lo : Nat) (ab : Nat) (sz : Int32) (ln : Int32) (kd : Int32) (bg : Int32) (nx : Int32) (fb : Nat → Int32) (lc : Nat) (lz : Int32) (ll : Int32) (lm : Int32) (lg : Int32) (ld : Int32) (fc : Nat → Int32) (b_lz : 0 ≤ lz.toInt ∧ lz.toInt ≤ 400) (hln : 0 ≤ ln.toInt ∧ ln.toInt ≤ 400) (hnx : 0 ≤ nx.toInt ∧ nx.toInt ≤ 400) (hbg : 0 ≤ bg.toInt ∧ bg.toInt ≤ 400) (hkd : zKd kd.toInt bg.toInt nx.toInt) (hTk : zTk fb ln.toInt kd.toInt bg.toInt nx.toInt) (hlb : lz.toInt + 2 ≤ bg.toInt) (hdp : zDeep fb ln.toInt bg.toInt) : zM' g l yX2_readDeeper (Cond.code yX2_readDeeper cX2_readDeeper 2 (some .boolean) :: zB) ({ frames := 11, cells := 0, slots := 0, locals := 243 } : Room) [.ref lt, .int 5] [bLT g lt ta lo, bTape g ta ab sz ln kd bg nx (-1) fb, bLaw g lo lc lz ll lm lg ld fc] (fun u : Int32 × Int32 × Int32 × Int32 × Int32 × (Nat → Int32) × Int32 => (fun (kd2 : Int32) (bg2 : Int32) (nx2 : Int32) (ft2 : Int32) (lz2 : Int32) (fc2 : Nat → Int32) (q : Int32) => some (.int q)) (u.1) (u.2.1) (u.2.2.1) (u.2.2.2.1) (u.2.2.2.2.1) (u.2.2.2.2.2.1) (u.2.2.2.2.2.2)) (fun u : Int32 × Int32 × Int32 × Int32 × Int32 × (Nat → Int32) × Int32 => (fun (kd2 : Int32) (bg2 : Int32) (nx2 : Int32) (ft2 : Int32) (lz2 : Int32) (fc2 : Nat → Int32) (q : Int32) => (0 ≤ lz2.toInt ∧ lz2.toInt ≤ 400) ∧ (-1 ≤ ft2.toInt) ∧ (0 ≤ nx2.toInt ∧ nx2.toInt ≤ 400) ∧ (0 ≤ bg2.toInt ∧ bg2.toInt ≤ 400) ∧ (zKd kd2.toInt bg2.toInt nx2.toInt) ∧ (zTk fb ln.toInt kd2.toInt bg2.toInt nx2.toInt) ∧ (q = 1 ∧ zDpr fb ln.toInt 1 bg.toInt (.ok bg2.toInt) ∧ (-1) = ft2 ∧ zAC (fun e9 v9 => zDv fb ln.toInt e9 1 bg.toInt bg2.toInt v9) bg.toInt bg2.toInt fc fc2 lz.toInt lz2.toInt ∨ q = 0 ∧ zDpr fb ln.toInt 1 bg.toInt (.bad ft2.toInt))) (u.1) (u.2.1) (u.2.2.1) (u.2.2.2.1) (u.2.2.2.2.1) (u.2.2.2.2.2.1) (u.2.2.2.2.2.2)) (fun u : Int32 × Int32 × Int32 × Int32 × Int32 × (Nat → Int32) × Int32 => (fun (kd2 : Int32) (bg2 : Int32) (nx2 : Int32) (ft2 : Int32) (lz2 : Int32) (fc2 : Nat → Int32) (q : Int32) => [bLT g lt ta lo, bTape g ta ab sz ln kd2 bg2 nx2 ft2 fb, bLaw g lo lc lz2 ll lm lg ld fc2]) (u.1) (u.2.1) (u.2.2.1) (u.2.2.2.1) (u.2.2.2.2.1) (u.2.2.2.2.2.1) (u.2.2.2.2.2.2)) := by
  refine zM'.of (cc := cX2_readDeeper) (maxL := 2) (rt := (some .boolean)) (by decide) rfl (Nat.le_of_ble_eq_true rfl) ?_
  intro p e s m args below meth c A ls St hr hlocks hin hK hT hA hP hD hS hl
  obtain ⟨hx, hb, hml, hown, hts⟩ := id St
  have hl : lv_has ls 2 [(0, .ref lt), (1, .int 5)] := hl
  refine lv_aload_n hx hb dX2_readDeeper_0 rfl (lv_at hl 0 rfl) ?_
  refine va_get (D := g.1) (ci := 2) (v := .ref ta) (C := RX2) (T := TX2) (N := 2) hx hb hts izRX2 hown hK hP 0 rfl rfl 0 (by decide) (hts _ k290) (fun x9 h9 => u_same (hts _ k291) x9 h9) rfl dX2_readDeeper_1 ?_
  refine lv_bipush (v := 40) hx hb dX2_readDeeper_4 (by decide) ?_
  have hL40 : (40 : Int32).toInt = 40 := by decide
  refine mcallV' (g := g) (q0 := 0) (ci := 6) (As := [.int 40]) (rest := []) St hK hT hA hP hD hS hl.1 [1] [0, 2] rfl rfl rfl (c_t_takeSignF l g ta ab sz ln kd bg nx (-1) fb 40 hln hnx hbg hkd hTk) (cwV 1 hts (zgL (zl4 k300 k301 k302 k277) k286) rfl rfl rfl (by decide +kernel) ⟨Nat.le_of_ble_eq_true rfl, Nat.le_of_ble_eq_true rfl⟩) rfl rfl rfl rfl (Nat.le_of_ble_eq_true rfl) dX2_readDeeper_6 ⟨(Nat.le_of_ble_eq_true rfl), (Nat.le_of_ble_eq_true rfl)⟩ (fun u_ H locs hq5 hP hD hS => ?_)
  obtain ⟨kd2_1, bg2_2, nx2_3, q_4⟩ := u_
  replace hq5 : (0 ≤ nx2_3.toInt ∧ nx2_3.toInt ≤ 400) ∧ (0 ≤ bg2_2.toInt ∧ bg2_2.toInt ≤ 400) ∧ (zKd kd2_1.toInt bg2_2.toInt nx2_3.toInt) ∧ (zTk fb ln.toInt kd2_1.toInt bg2_2.toInt nx2_3.toInt) ∧ (q_4 = 1 ∧ zisS fb ln.toInt bg.toInt (40 : Int32).toInt ∧ zMv fb ln.toInt bg.toInt bg2_2.toInt ∨ q_4 = 0 ∧ ¬ zisS fb ln.toInt bg.toInt (40 : Int32).toInt ∧ kd = kd2_1 ∧ bg = bg2_2 ∧ nx = nx2_3) := hq5
  have hP : va_P g.1 vwCl (List.flatten [bLT g lt ta lo, bLaw g lo lc lz ll lm lg ld fc, bTape g ta ab sz ln kd2_1 bg2_2 nx2_3 (-1) fb]) H := hP
  have hD : va_D A (List.flatten [bLT g lt ta lo, bLaw g lo lc lz ll lm lg ld fc, bTape g ta ab sz ln kd2_1 bg2_2 nx2_3 (-1) fb]) := hD
  refine W.widen (k := 0) (n := 0) (Nat.le_of_ble_eq_true rfl) (Nat.le_of_ble_eq_true rfl) ?_
  refine W.eq (g2 := F0 m 9 ls [.int q_4]) rfl ?_
  obtain ⟨hq5_0, hq5_1, hq5_2, hq5_3, hq5_4⟩ := hq5
  rcases hq5_4 with ⟨rfl, hq5_k, hq5_km⟩ | ⟨rfl, hq5_k, rfl, rfl, rfl⟩
  · skip
    refine lv_if_eq (tgt := 48) hx hb dX2_readDeeper_9 (by decide) (fun c6 => absurd c6 (by decide)) (fun _ => ?_)
    have w7 := zMv_lt (f := fb) (n := ln.toInt) (by omega) (zisS_z hq5_k) hq5_km
    refine lv_aload_n hx hb dX2_readDeeper_12 rfl (lv_at hl 0 rfl) ?_
    refine lv_iload_n hx hb dX2_readDeeper_13 rfl (lv_at hl 1 rfl) ?_
    refine mcallV' (g := g) (q0 := 0) (ci := 2) (As := [.int 5]) (rest := []) St hK hT hA hP hD hS hl.1 [0, 2, 1] [] rfl rfl rfl (c_lt_readCondition5C l g lt ta lo ab sz ln kd2_1 bg2_2 nx2_3 fb lc lz ll lm lg ld fc b_lz hln hq5_0 hq5_1 hq5_2 hq5_3 (by first | assumption | omega | decide | exact Or.inl (by decide) | exact Or.inr (by decide))) (cwV 1 hts (zgL (zl4 k324 k325 k326 k309) k316) rfl rfl rfl (by decide +kernel) ⟨Nat.le_of_ble_eq_true rfl, Nat.le_of_ble_eq_true rfl⟩) rfl rfl rfl rfl (Nat.le_of_ble_eq_true rfl) dX2_readDeeper_14 ⟨(Nat.le_of_ble_eq_true rfl), (Nat.le_of_ble_eq_true rfl)⟩ (fun u_ H locs hq15 hP hD hS => ?_)
    obtain ⟨kd2_8, bg2_9, nx2_10, ft2_11, lz2_12, fc2_13, q_14⟩ := u_
    replace hq15 : (0 ≤ lz2_12.toInt ∧ lz2_12.toInt ≤ 400) ∧ (-1 ≤ ft2_11.toInt) ∧ (0 ≤ nx2_10.toInt ∧ nx2_10.toInt ≤ 400) ∧ (0 ≤ bg2_9.toInt ∧ bg2_9.toInt ≤ 400) ∧ (zKd kd2_8.toInt bg2_9.toInt nx2_10.toInt) ∧ (zTk fb ln.toInt kd2_8.toInt bg2_9.toInt nx2_10.toInt) ∧ (q_14 = 1 ∧ zCond fb ln.toInt (zAtom fb ln.toInt 1) bg2_2.toInt (.ok bg2_9.toInt) ∧ (-1) = ft2_11 ∧ zAC (fun e9 v9 => zCv fb ln.toInt (zAv fb ln.toInt e9 1) false true bg2_2.toInt bg2_9.toInt v9) bg2_2.toInt bg2_9.toInt fc fc2_13 lz.toInt lz2_12.toInt ∨ q_14 = 0 ∧ zCond fb ln.toInt (zAtom fb ln.toInt 1) bg2_2.toInt (.bad ft2_11.toInt)) := hq15
    have hP : va_P g.1 vwCl (List.flatten [bLT g lt ta lo, bTape g ta ab sz ln kd2_8 bg2_9 nx2_10 ft2_11 fb, bLaw g lo lc lz2_12 ll lm lg ld fc2_13]) H := hP
    have hD : va_D A (List.flatten [bLT g lt ta lo, bTape g ta ab sz ln kd2_8 bg2_9 nx2_10 ft2_11 fb, bLaw g lo lc lz2_12 ll lm lg ld fc2_13]) := hD
    refine W.widen (k := 0) (n := 0) (Nat.le_of_ble_eq_true rfl) (Nat.le_of_ble_eq_true rfl) ?_
    refine W.eq (g2 := F0 m 17 ls [.int q_14]) rfl ?_
    obtain ⟨hq15_0, hq15_1, hq15_2, hq15_3, hq15_4, hq15_5, hq15_6⟩ := hq15
    rcases hq15_6 with ⟨rfl, hq15_k, rfl, hq15_kc⟩ | ⟨rfl, hq15_k⟩
    · skip
      have w16 := hq15_kc.1
      refine lv_if_eq (tgt := 46) hx hb dX2_readDeeper_17 (by decide) (fun c17 => absurd c17 (by decide)) (fun _ => ?_)
      refine lv_aload_n hx hb dX2_readDeeper_20 rfl (lv_at hl 0 rfl) ?_
      refine va_get (D := g.1) (ci := 2) (v := .ref ta) (C := RX2) (T := TX2) (N := 2) hx hb hts izRX2 hown hK hP 0 rfl rfl 0 (by decide) (hts _ k290) (fun x9 h9 => u_same (hts _ k291) x9 h9) rfl dX2_readDeeper_21 ?_
      refine lv_bipush (v := 41) hx hb dX2_readDeeper_24 (by decide) ?_
      have hL41 : (41 : Int32).toInt = 41 := by decide
      refine mcallV' (g := g) (q0 := 0) (ci := 6) (As := [.int 41]) (rest := []) St hK hT hA hP hD hS hl.1 [1] [0, 2] rfl rfl rfl (c_t_takeSignF l g ta ab sz ln kd2_8 bg2_9 nx2_10 (-1) fb 41 hln hq15_2 hq15_3 hq15_4 hq15_5) (cwV 1 hts (zgL (zl4 k300 k301 k302 k277) k286) rfl rfl rfl (by decide +kernel) ⟨Nat.le_of_ble_eq_true rfl, Nat.le_of_ble_eq_true rfl⟩) rfl rfl rfl rfl (Nat.le_of_ble_eq_true rfl) dX2_readDeeper_26 ⟨(Nat.le_of_ble_eq_true rfl), (Nat.le_of_ble_eq_true rfl)⟩ (fun u_ H locs hq22 hP hD hS => ?_)
      obtain ⟨kd2_18, bg2_19, nx2_20, q_21⟩ := u_
      replace hq22 : (0 ≤ nx2_20.toInt ∧ nx2_20.toInt ≤ 400) ∧ (0 ≤ bg2_19.toInt ∧ bg2_19.toInt ≤ 400) ∧ (zKd kd2_18.toInt bg2_19.toInt nx2_20.toInt) ∧ (zTk fb ln.toInt kd2_18.toInt bg2_19.toInt nx2_20.toInt) ∧ (q_21 = 1 ∧ zisS fb ln.toInt bg2_9.toInt (41 : Int32).toInt ∧ zMv fb ln.toInt bg2_9.toInt bg2_19.toInt ∨ q_21 = 0 ∧ ¬ zisS fb ln.toInt bg2_9.toInt (41 : Int32).toInt ∧ kd2_8 = kd2_18 ∧ bg2_9 = bg2_19 ∧ nx2_10 = nx2_20) := hq22
      have hP : va_P g.1 vwCl (List.flatten [bLT g lt ta lo, bLaw g lo lc lz2_12 ll lm lg ld fc2_13, bTape g ta ab sz ln kd2_18 bg2_19 nx2_20 (-1) fb]) H := hP
      have hD : va_D A (List.flatten [bLT g lt ta lo, bLaw g lo lc lz2_12 ll lm lg ld fc2_13, bTape g ta ab sz ln kd2_18 bg2_19 nx2_20 (-1) fb]) := hD
      refine W.widen (k := 0) (n := 0) (Nat.le_of_ble_eq_true rfl) (Nat.le_of_ble_eq_true rfl) ?_
      refine W.eq (g2 := F0 m 29 ls [.int q_21]) rfl ?_
      obtain ⟨hq22_0, hq22_1, hq22_2, hq22_3, hq22_4⟩ := hq22
      rcases hq22_4 with ⟨rfl, hq22_k, hq22_km⟩ | ⟨rfl, hq22_k, rfl, rfl, rfl⟩
      · skip
        refine lv_if_ne (tgt := 42) hx hb dX2_readDeeper_29 (by decide) (fun _ => ?_) (fun c23 => absurd c23 (by decide))
        have w24 := zMv_lt (f := fb) (n := ln.toInt) (by omega) (zisS_z hq22_k) hq22_km
        refine lv_iconst (v := 1) hx hb dX2_readDeeper_42 (by decide) ?_
        refine lv_goto (tgt := 47) hx hb dX2_readDeeper_43 (by decide) ?_
        have hP : va_P g.1 vwCl (List.flatten [bLT g lt ta lo, bLaw g lo lc lz2_12 ll lm lg ld fc2_13, bTape g ta ab sz ln kd2_18 bg2_19 nx2_20 (-1) fb]) H := hP
        have hD : va_D A (List.flatten [bLT g lt ta lo, bLaw g lo lc lz2_12 ll lm lg ld fc2_13, bTape g ta ab sz ln kd2_18 bg2_19 nx2_20 (-1) fb]) := hD
        obtain ⟨hP, hD⟩ := zord (g := g) (Bs' := [bLT g lt ta lo, bTape g ta ab sz ln kd2_18 bg2_19 nx2_20 (-1) fb, bLaw g lo lc lz2_12 ll lm lg ld fc2_13]) [0, 2, 1] rfl rfl hP hD
        exact mret_z hx hb hr hlocks hS (Nat.le_of_ble_eq_true rfl) (Nat.le_of_ble_eq_true rfl) dX2_readDeeper_47 (kd2_18, bg2_19, nx2_20, -1, lz2_12, fc2_13, (1 : Int32)) rfl (by decide) (show (0 ≤ lz2_12.toInt ∧ lz2_12.toInt ≤ 400) ∧ (-1 ≤ ((-1) : Int32).toInt) ∧ (0 ≤ nx2_20.toInt ∧ nx2_20.toInt ≤ 400) ∧ (0 ≤ bg2_19.toInt ∧ bg2_19.toInt ≤ 400) ∧ (zKd kd2_18.toInt bg2_19.toInt nx2_20.toInt) ∧ (zTk fb ln.toInt kd2_18.toInt bg2_19.toInt nx2_20.toInt) ∧ (1 = 1 ∧ zDpr fb ln.toInt 1 bg.toInt (.ok bg2_19.toInt) ∧ (-1) = (-1) ∧ zAC (fun e9 v9 => zDv fb ln.toInt e9 1 bg.toInt bg2_19.toInt v9) bg.toInt bg2_19.toInt fc fc2_13 lz.toInt lz2_12.toInt ∨ 1 = 0 ∧ zDpr fb ln.toInt 1 bg.toInt (.bad ((-1) : Int32).toInt)) from ⟨(by first | assumption | omega | exact Or.inl (by decide) | exact Or.inr (by omega)), (by decide), (by first | assumption | omega | exact Or.inl (by decide) | exact Or.inr (by omega)), (by first | assumption | omega | exact Or.inl (by decide) | exact Or.inr (by omega)), (by first | assumption | omega | exact Or.inl (by decide) | exact Or.inr (by omega)), (by assumption), (Or.inl ⟨rfl, zDp_p hq5_k hq5_km (zPar_shut hq15_k hq22_k hq22_km), rfl, (zAC_par hq5_k (by decide) hq5_km hq15_kc hq22_k (by decide) hq22_km (by omega) (by omega))⟩)⟩) hP hD
      · skip
        refine lv_if_ne (tgt := 42) hx hb dX2_readDeeper_29 (by decide) (fun c25 => absurd (by decide) c25) (fun _ => ?_)
        refine lv_aload_n hx hb dX2_readDeeper_32 rfl (lv_at hl 0 rfl) ?_
        refine va_get (D := g.1) (ci := 2) (v := .ref ta) (C := RX2) (T := TX2) (N := 2) hx hb hts izRX2 hown hK hP 0 rfl rfl 0 (by decide) (hts _ k290) (fun x9 h9 => u_same (hts _ k291) x9 h9) rfl dX2_readDeeper_33 ?_
        refine mcallV' (g := g) (q0 := 0) (ci := 6) (As := []) (rest := []) St hK hT hA hP hD hS hl.1 [2] [0, 1] rfl rfl rfl (c_t_refuseF l g ta ab sz ln kd2_8 bg2_9 nx2_10 fb ) (cwV 0 hts (zgL (zl4 k303 k279 k280 k277) k269) rfl rfl rfl (by decide +kernel) ⟨Nat.le_of_ble_eq_true rfl, Nat.le_of_ble_eq_true rfl⟩) rfl rfl rfl rfl (Nat.le_of_ble_eq_true rfl) dX2_readDeeper_36 ⟨(Nat.le_of_ble_eq_true rfl), (Nat.le_of_ble_eq_true rfl)⟩ (fun _u H locs hq26 hP hD hS => ?_)
        have hP : va_P g.1 vwCl (List.flatten [bLT g lt ta lo, bLaw g lo lc lz2_12 ll lm lg ld fc2_13, bTape g ta ab sz ln kd2_8 bg2_9 nx2_10 bg2_9 fb]) H := hP
        have hD : va_D A (List.flatten [bLT g lt ta lo, bLaw g lo lc lz2_12 ll lm lg ld fc2_13, bTape g ta ab sz ln kd2_8 bg2_9 nx2_10 bg2_9 fb]) := hD
        refine W.widen (k := 0) (n := 0) (Nat.le_of_ble_eq_true rfl) (Nat.le_of_ble_eq_true rfl) ?_
        refine W.eq (g2 := F0 m 39 ls [.int 0]) rfl ?_
        refine lv_if_eq (tgt := 46) hx hb dX2_readDeeper_39 (by decide) (fun _ => ?_) (fun c27 => absurd (by decide) c27)
        refine lv_iconst (v := 0) hx hb dX2_readDeeper_46 (by decide) ?_
        have hP : va_P g.1 vwCl (List.flatten [bLT g lt ta lo, bLaw g lo lc lz2_12 ll lm lg ld fc2_13, bTape g ta ab sz ln kd2_8 bg2_9 nx2_10 bg2_9 fb]) H := hP
        have hD : va_D A (List.flatten [bLT g lt ta lo, bLaw g lo lc lz2_12 ll lm lg ld fc2_13, bTape g ta ab sz ln kd2_8 bg2_9 nx2_10 bg2_9 fb]) := hD
        obtain ⟨hP, hD⟩ := zord (g := g) (Bs' := [bLT g lt ta lo, bTape g ta ab sz ln kd2_8 bg2_9 nx2_10 bg2_9 fb, bLaw g lo lc lz2_12 ll lm lg ld fc2_13]) [0, 2, 1] rfl rfl hP hD
        exact mret_z hx hb hr hlocks hS (Nat.le_of_ble_eq_true rfl) (Nat.le_of_ble_eq_true rfl) dX2_readDeeper_47 (kd2_8, bg2_9, nx2_10, bg2_9, lz2_12, fc2_13, (0 : Int32)) rfl (by decide) (show (0 ≤ lz2_12.toInt ∧ lz2_12.toInt ≤ 400) ∧ (-1 ≤ bg2_9.toInt) ∧ (0 ≤ nx2_10.toInt ∧ nx2_10.toInt ≤ 400) ∧ (0 ≤ bg2_9.toInt ∧ bg2_9.toInt ≤ 400) ∧ (zKd kd2_8.toInt bg2_9.toInt nx2_10.toInt) ∧ (zTk fb ln.toInt kd2_8.toInt bg2_9.toInt nx2_10.toInt) ∧ (0 = 1 ∧ zDpr fb ln.toInt 1 bg.toInt (.ok bg2_9.toInt) ∧ (-1) = bg2_9 ∧ zAC (fun e9 v9 => zDv fb ln.toInt e9 1 bg.toInt bg2_9.toInt v9) bg.toInt bg2_9.toInt fc fc2_13 lz.toInt lz2_12.toInt ∨ 0 = 0 ∧ zDpr fb ln.toInt 1 bg.toInt (.bad bg2_9.toInt)) from ⟨(by first | assumption | omega | exact Or.inl (by decide) | exact Or.inr (by omega)), (by first | decide | omega), (by first | assumption | omega | exact Or.inl (by decide) | exact Or.inr (by omega)), (by first | assumption | omega | exact Or.inl (by decide) | exact Or.inr (by omega)), (by first | assumption | omega | exact Or.inl (by decide) | exact Or.inr (by omega)), (by assumption), (Or.inr ⟨rfl, zDp_p hq5_k hq5_km (.open_ hq15_k hq22_k)⟩)⟩) hP hD
    · skip
      refine lv_if_eq (tgt := 46) hx hb dX2_readDeeper_17 (by decide) (fun _ => ?_) (fun c28 => absurd (by decide) c28)
      refine lv_iconst (v := 0) hx hb dX2_readDeeper_46 (by decide) ?_
      have hP : va_P g.1 vwCl (List.flatten [bLT g lt ta lo, bTape g ta ab sz ln kd2_8 bg2_9 nx2_10 ft2_11 fb, bLaw g lo lc lz2_12 ll lm lg ld fc2_13]) H := hP
      have hD : va_D A (List.flatten [bLT g lt ta lo, bTape g ta ab sz ln kd2_8 bg2_9 nx2_10 ft2_11 fb, bLaw g lo lc lz2_12 ll lm lg ld fc2_13]) := hD
      exact mret_z hx hb hr hlocks hS (Nat.le_of_ble_eq_true rfl) (Nat.le_of_ble_eq_true rfl) dX2_readDeeper_47 (kd2_8, bg2_9, nx2_10, ft2_11, lz2_12, fc2_13, (0 : Int32)) rfl (by decide) (show (0 ≤ lz2_12.toInt ∧ lz2_12.toInt ≤ 400) ∧ (-1 ≤ ft2_11.toInt) ∧ (0 ≤ nx2_10.toInt ∧ nx2_10.toInt ≤ 400) ∧ (0 ≤ bg2_9.toInt ∧ bg2_9.toInt ≤ 400) ∧ (zKd kd2_8.toInt bg2_9.toInt nx2_10.toInt) ∧ (zTk fb ln.toInt kd2_8.toInt bg2_9.toInt nx2_10.toInt) ∧ (0 = 1 ∧ zDpr fb ln.toInt 1 bg.toInt (.ok bg2_9.toInt) ∧ (-1) = ft2_11 ∧ zAC (fun e9 v9 => zDv fb ln.toInt e9 1 bg.toInt bg2_9.toInt v9) bg.toInt bg2_9.toInt fc fc2_13 lz.toInt lz2_12.toInt ∨ 0 = 0 ∧ zDpr fb ln.toInt 1 bg.toInt (.bad ft2_11.toInt)) from ⟨(by first | assumption | omega | exact Or.inl (by decide) | exact Or.inr (by omega)), (by first | decide | omega), (by first | assumption | omega | exact Or.inl (by decide) | exact Or.inr (by omega)), (by first | assumption | omega | exact Or.inl (by decide) | exact Or.inr (by omega)), (by first | assumption | omega | exact Or.inl (by decide) | exact Or.inr (by omega)), (by assumption), (Or.inr ⟨rfl, zDp_p hq5_k hq5_km (.wrong hq15_k)⟩)⟩) hP hD
  · skip
    refine lv_if_eq (tgt := 48) hx hb dX2_readDeeper_9 (by decide) (fun _ => ?_) (fun c29 => absurd (by decide) c29)
    refine lv_aload_n hx hb dX2_readDeeper_48 rfl (lv_at hl 0 rfl) ?_
    refine va_get (D := g.1) (ci := 2) (v := .ref ta) (C := RX2) (T := TX2) (N := 2) hx hb hts izRX2 hown hK hP 0 rfl rfl 0 (by decide) (hts _ k290) (fun x9 h9 => u_same (hts _ k291) x9 h9) rfl dX2_readDeeper_49 ?_
    refine mcallV' (g := g) (q0 := 0) (ci := 6) (As := []) (rest := []) St hK hT hA hP hD hS hl.1 [2] [0, 1] rfl rfl rfl (c_t_stepF l g ta ab sz ln kd bg nx (-1) fb hln hnx) (cwV 0 hts (zgL (zl4 k296 k275 k276 k277) k271) rfl rfl rfl (by decide +kernel) ⟨Nat.le_of_ble_eq_true rfl, Nat.le_of_ble_eq_true rfl⟩) rfl rfl rfl rfl (Nat.le_of_ble_eq_true rfl) dX2_readDeeper_52 ⟨(Nat.le_of_ble_eq_true rfl), (Nat.le_of_ble_eq_true rfl)⟩ (fun u_ H locs hq33 hP hD hS => ?_)
    obtain ⟨kd2_30, bg2_31, nx2_32⟩ := u_
    replace hq33 : (0 ≤ nx2_32.toInt ∧ nx2_32.toInt ≤ 400) ∧ (0 ≤ bg2_31.toInt ∧ bg2_31.toInt ≤ 400) ∧ (zKd kd2_30.toInt bg2_31.toInt nx2_32.toInt) ∧ (zSk fb ln.toInt nx.toInt bg2_31.toInt) ∧ (zTk fb ln.toInt kd2_30.toInt bg2_31.toInt nx2_32.toInt) := hq33
    have hP : va_P g.1 vwCl (List.flatten [bLT g lt ta lo, bLaw g lo lc lz ll lm lg ld fc, bTape g ta ab sz ln kd2_30 bg2_31 nx2_32 (-1) fb]) H := hP
    have hD : va_D A (List.flatten [bLT g lt ta lo, bLaw g lo lc lz ll lm lg ld fc, bTape g ta ab sz ln kd2_30 bg2_31 nx2_32 (-1) fb]) := hD
    refine W.widen (k := 0) (n := 0) (Nat.le_of_ble_eq_true rfl) (Nat.le_of_ble_eq_true rfl) ?_
    refine W.eq (g2 := F0 m 55 ls []) rfl ?_
    obtain ⟨hq33_0, hq33_1, hq33_2, hq33_3, hq33_4⟩ := hq33
    have w34 := zMv_lt (f := fb) (n := ln.toInt) (by omega) (zDeep_z hdp) (zMv_mk hTk hq33_3)
    refine lv_aload_n hx hb dX2_readDeeper_55 rfl (lv_at hl 0 rfl) ?_
    refine lv_iload_n hx hb dX2_readDeeper_56 rfl (lv_at hl 1 rfl) ?_
    refine mcallV' (g := g) (q0 := 0) (ci := 2) (As := [.int 5]) (rest := []) St hK hT hA hP hD hS hl.1 [0, 2, 1] [] rfl rfl rfl (c_lt_readAtom5C l g lt ta lo ab sz ln kd2_30 bg2_31 nx2_32 fb lc lz ll lm lg ld fc b_lz hln hq33_0 hq33_1 hq33_2 hq33_4 (by first | assumption | omega | decide | exact Or.inl (by decide) | exact Or.inr (by decide))) (cwV 1 hts (zgL (zl4 k317 k318 k319 k309) k327) rfl rfl rfl (by decide +kernel) ⟨Nat.le_of_ble_eq_true rfl, Nat.le_of_ble_eq_true rfl⟩) rfl rfl rfl rfl (Nat.le_of_ble_eq_true rfl) dX2_readDeeper_57 ⟨(Nat.le_of_ble_eq_true rfl), (Nat.le_of_ble_eq_true rfl)⟩ (fun u_ H locs hq42 hP hD hS => ?_)
    obtain ⟨kd2_35, bg2_36, nx2_37, ft2_38, lz2_39, fc2_40, q_41⟩ := u_
    replace hq42 : (0 ≤ lz2_39.toInt ∧ lz2_39.toInt ≤ 400) ∧ (-1 ≤ ft2_38.toInt) ∧ (0 ≤ nx2_37.toInt ∧ nx2_37.toInt ≤ 400) ∧ (0 ≤ bg2_36.toInt ∧ bg2_36.toInt ≤ 400) ∧ (zKd kd2_35.toInt bg2_36.toInt nx2_37.toInt) ∧ (zTk fb ln.toInt kd2_35.toInt bg2_36.toInt nx2_37.toInt) ∧ (q_41 = 1 ∧ zAtom fb ln.toInt 1 bg2_31.toInt (.ok bg2_36.toInt) ∧ (-1) = ft2_38 ∧ zAC (fun e9 v9 => zAv fb ln.toInt e9 1 bg2_31.toInt bg2_36.toInt v9) bg2_31.toInt bg2_36.toInt fc fc2_40 lz.toInt lz2_39.toInt ∨ q_41 = 0 ∧ zAtom fb ln.toInt 1 bg2_31.toInt (.bad ft2_38.toInt)) := hq42
    have hP : va_P g.1 vwCl (List.flatten [bLT g lt ta lo, bTape g ta ab sz ln kd2_35 bg2_36 nx2_37 ft2_38 fb, bLaw g lo lc lz2_39 ll lm lg ld fc2_40]) H := hP
    have hD : va_D A (List.flatten [bLT g lt ta lo, bTape g ta ab sz ln kd2_35 bg2_36 nx2_37 ft2_38 fb, bLaw g lo lc lz2_39 ll lm lg ld fc2_40]) := hD
    refine W.widen (k := 0) (n := 0) (Nat.le_of_ble_eq_true rfl) (Nat.le_of_ble_eq_true rfl) ?_
    refine W.eq (g2 := F0 m 60 ls [.int q_41]) rfl ?_
    obtain ⟨hq42_0, hq42_1, hq42_2, hq42_3, hq42_4, hq42_5, hq42_6⟩ := hq42
    rcases hq42_6 with ⟨rfl, hq42_k, rfl, hq42_kc⟩ | ⟨rfl, hq42_k⟩
    · skip
      have w43 := hq42_kc.1
      refine lv_if_ne (tgt := 65) hx hb dX2_readDeeper_60 (by decide) (fun _ => ?_) (fun c44 => absurd c44 (by decide))
      refine lv_aload_n hx hb dX2_readDeeper_65 rfl (lv_at hl 0 rfl) ?_
      refine va_get (D := g.1) (ci := 2) (v := .ref lo) (C := RX2) (T := TX2) (N := 2) hx hb hts izRX2 hown hK hP 0 rfl rfl 1 (by decide) (hts _ k210) (fun _ h9 => h9) rfl dX2_readDeeper_66 ?_
      refine lv_bipush (v := 12) hx hb dX2_readDeeper_69 (by decide) ?_
      refine lv_iconst (v := 0) hx hb dX2_readDeeper_71 (by decide) ?_
      refine mcallV' (g := g) (q0 := 0) (ci := 1) (As := [.int 12, .int 0]) (rest := []) St hK hT hA hP hD hS hl.1 [2] [0, 1] rfl rfl rfl (c_l_putC l g lo lc lz2_39 ll lm lg ld fc2_40 12 0 hq42_0 (by first | assumption | omega | decide | exact Or.inl (by decide) | exact Or.inr (by decide))) (cwV 2 hts (zgL (zl4 k297 k298 k299 k85) k202) rfl rfl rfl (by decide +kernel) ⟨Nat.le_of_ble_eq_true rfl, Nat.le_of_ble_eq_true rfl⟩) rfl rfl rfl rfl (Nat.le_of_ble_eq_true rfl) dX2_readDeeper_72 ⟨(Nat.le_of_ble_eq_true rfl), (Nat.le_of_ble_eq_true rfl)⟩ (fun u_ H locs hq47 hP hD hS => ?_)
      obtain ⟨lz2_45, fc2_46⟩ := u_
      replace hq47 : (0 ≤ lz2_45.toInt ∧ lz2_45.toInt ≤ 400) ∧ (lz2_45.toInt = lz2_39.toInt + 1) ∧ (fc2_46 = upd fc2_40 lz2_39.toInt.toNat (12 + 32 * 0)) := hq47
      have hP : va_P g.1 vwCl (List.flatten [bLT g lt ta lo, bTape g ta ab sz ln kd2_35 bg2_36 nx2_37 (-1) fb, bLaw g lo lc lz2_45 ll lm lg ld fc2_46]) H := hP
      have hD : va_D A (List.flatten [bLT g lt ta lo, bTape g ta ab sz ln kd2_35 bg2_36 nx2_37 (-1) fb, bLaw g lo lc lz2_45 ll lm lg ld fc2_46]) := hD
      refine W.widen (k := 0) (n := 0) (Nat.le_of_ble_eq_true rfl) (Nat.le_of_ble_eq_true rfl) ?_
      refine W.eq (g2 := F0 m 75 ls [.int lz2_39]) rfl ?_
      obtain ⟨hq47_0, hq47_1, hq47_2⟩ := hq47
      refine lv_pop hx hb dX2_readDeeper_75 rfl ?_
      refine lv_iconst (v := 1) hx hb dX2_readDeeper_76 (by decide) ?_
      have hP : va_P g.1 vwCl (List.flatten [bLT g lt ta lo, bTape g ta ab sz ln kd2_35 bg2_36 nx2_37 (-1) fb, bLaw g lo lc lz2_45 ll lm lg ld fc2_46]) H := hP
      have hD : va_D A (List.flatten [bLT g lt ta lo, bTape g ta ab sz ln kd2_35 bg2_36 nx2_37 (-1) fb, bLaw g lo lc lz2_45 ll lm lg ld fc2_46]) := hD
      exact mret_z hx hb hr hlocks hS (Nat.le_of_ble_eq_true rfl) (Nat.le_of_ble_eq_true rfl) dX2_readDeeper_77 (kd2_35, bg2_36, nx2_37, -1, lz2_45, fc2_46, (1 : Int32)) rfl (by decide) (show (0 ≤ lz2_45.toInt ∧ lz2_45.toInt ≤ 400) ∧ (-1 ≤ ((-1) : Int32).toInt) ∧ (0 ≤ nx2_37.toInt ∧ nx2_37.toInt ≤ 400) ∧ (0 ≤ bg2_36.toInt ∧ bg2_36.toInt ≤ 400) ∧ (zKd kd2_35.toInt bg2_36.toInt nx2_37.toInt) ∧ (zTk fb ln.toInt kd2_35.toInt bg2_36.toInt nx2_37.toInt) ∧ (1 = 1 ∧ zDpr fb ln.toInt 1 bg.toInt (.ok bg2_36.toInt) ∧ (-1) = (-1) ∧ zAC (fun e9 v9 => zDv fb ln.toInt e9 1 bg.toInt bg2_36.toInt v9) bg.toInt bg2_36.toInt fc fc2_46 lz.toInt lz2_45.toInt ∨ 1 = 0 ∧ zDpr fb ln.toInt 1 bg.toInt (.bad ((-1) : Int32).toInt)) from ⟨(by first | assumption | omega | exact Or.inl (by decide) | exact Or.inr (by omega)), (by decide), (by first | assumption | omega | exact Or.inl (by decide) | exact Or.inr (by omega)), (by first | assumption | omega | exact Or.inl (by decide) | exact Or.inr (by omega)), (by first | assumption | omega | exact Or.inl (by decide) | exact Or.inr (by omega)), (by assumption), (Or.inl ⟨rfl, zDp_n hq5_k (zMv_mk hTk hq33_3) hq42_k, rfl, (zAC_not (by omega) hq5_k (by decide) (zMv_mk hTk hq33_3) hq42_kc (by decide) hq47_2 hq47_1 w34)⟩)⟩) hP hD
    · skip
      refine lv_if_ne (tgt := 65) hx hb dX2_readDeeper_60 (by decide) (fun c48 => absurd (by decide) c48) (fun _ => ?_)
      refine lv_iconst (v := 0) hx hb dX2_readDeeper_63 (by decide) ?_
      have hP : va_P g.1 vwCl (List.flatten [bLT g lt ta lo, bTape g ta ab sz ln kd2_35 bg2_36 nx2_37 ft2_38 fb, bLaw g lo lc lz2_39 ll lm lg ld fc2_40]) H := hP
      have hD : va_D A (List.flatten [bLT g lt ta lo, bTape g ta ab sz ln kd2_35 bg2_36 nx2_37 ft2_38 fb, bLaw g lo lc lz2_39 ll lm lg ld fc2_40]) := hD
      exact mret_z hx hb hr hlocks hS (Nat.le_of_ble_eq_true rfl) (Nat.le_of_ble_eq_true rfl) dX2_readDeeper_64 (kd2_35, bg2_36, nx2_37, ft2_38, lz2_39, fc2_40, (0 : Int32)) rfl (by decide) (show (0 ≤ lz2_39.toInt ∧ lz2_39.toInt ≤ 400) ∧ (-1 ≤ ft2_38.toInt) ∧ (0 ≤ nx2_37.toInt ∧ nx2_37.toInt ≤ 400) ∧ (0 ≤ bg2_36.toInt ∧ bg2_36.toInt ≤ 400) ∧ (zKd kd2_35.toInt bg2_36.toInt nx2_37.toInt) ∧ (zTk fb ln.toInt kd2_35.toInt bg2_36.toInt nx2_37.toInt) ∧ (0 = 1 ∧ zDpr fb ln.toInt 1 bg.toInt (.ok bg2_36.toInt) ∧ (-1) = ft2_38 ∧ zAC (fun e9 v9 => zDv fb ln.toInt e9 1 bg.toInt bg2_36.toInt v9) bg.toInt bg2_36.toInt fc fc2_40 lz.toInt lz2_39.toInt ∨ 0 = 0 ∧ zDpr fb ln.toInt 1 bg.toInt (.bad ft2_38.toInt)) from ⟨(by first | assumption | omega | exact Or.inl (by decide) | exact Or.inr (by omega)), (by first | decide | omega), (by first | assumption | omega | exact Or.inl (by decide) | exact Or.inr (by omega)), (by first | assumption | omega | exact Or.inl (by decide) | exact Or.inr (by omega)), (by first | assumption | omega | exact Or.inl (by decide) | exact Or.inr (by omega)), (by assumption), (Or.inr ⟨rfl, zDp_n hq5_k (zMv_mk hTk hq33_3) hq42_k⟩)⟩) hP hD
set_option maxRecDepth 100000 in
set_option maxHeartbeats 4000000 in
theorem c_lt_readAtom4C (l : Launch) (g : zG) (lt : Nat) (ta : Nat) (lo : Nat) (ab : Nat) (sz : Int32) (ln : Int32) (kd : Int32) (bg : Int32) (nx : Int32) (fb : Nat → Int32) (lc : Nat) (lz : Int32) (ll : Int32) (lm : Int32) (lg : Int32) (ld : Int32) (fc : Nat → Int32) (b_lz : 0 ≤ lz.toInt ∧ lz.toInt ≤ 400) (hln : 0 ≤ ln.toInt ∧ ln.toInt ≤ 400) (hnx : 0 ≤ nx.toInt ∧ nx.toInt ≤ 400) (hbg : 0 ≤ bg.toInt ∧ bg.toInt ≤ 400) (hkd : zKd kd.toInt bg.toInt nx.toInt) (hTk : zTk fb ln.toInt kd.toInt bg.toInt nx.toInt) (hlb : lz.toInt + 2 ≤ bg.toInt) : zM' g l yX2_readAtom (Cond.code yX2_readAtom cX2_readAtom 3 (some .boolean) :: zB) ({ frames := 12, cells := 0, slots := 0, locals := 264 } : Room) [.ref lt, .int 4] [bLT g lt ta lo, bTape g ta ab sz ln kd bg nx (-1) fb, bLaw g lo lc lz ll lm lg ld fc] (fun u : Int32 × Int32 × Int32 × Int32 × Int32 × (Nat → Int32) × Int32 => (fun (kd2 : Int32) (bg2 : Int32) (nx2 : Int32) (ft2 : Int32) (lz2 : Int32) (fc2 : Nat → Int32) (q : Int32) => some (.int q)) (u.1) (u.2.1) (u.2.2.1) (u.2.2.2.1) (u.2.2.2.2.1) (u.2.2.2.2.2.1) (u.2.2.2.2.2.2)) (fun u : Int32 × Int32 × Int32 × Int32 × Int32 × (Nat → Int32) × Int32 => (fun (kd2 : Int32) (bg2 : Int32) (nx2 : Int32) (ft2 : Int32) (lz2 : Int32) (fc2 : Nat → Int32) (q : Int32) => (0 ≤ lz2.toInt ∧ lz2.toInt ≤ 400) ∧ (-1 ≤ ft2.toInt) ∧ (0 ≤ nx2.toInt ∧ nx2.toInt ≤ 400) ∧ (0 ≤ bg2.toInt ∧ bg2.toInt ≤ 400) ∧ (zKd kd2.toInt bg2.toInt nx2.toInt) ∧ (zTk fb ln.toInt kd2.toInt bg2.toInt nx2.toInt) ∧ (q = 1 ∧ zAtom fb ln.toInt 2 bg.toInt (.ok bg2.toInt) ∧ (-1) = ft2 ∧ zAC (fun e9 v9 => zAv fb ln.toInt e9 2 bg.toInt bg2.toInt v9) bg.toInt bg2.toInt fc fc2 lz.toInt lz2.toInt ∨ q = 0 ∧ zAtom fb ln.toInt 2 bg.toInt (.bad ft2.toInt))) (u.1) (u.2.1) (u.2.2.1) (u.2.2.2.1) (u.2.2.2.2.1) (u.2.2.2.2.2.1) (u.2.2.2.2.2.2)) (fun u : Int32 × Int32 × Int32 × Int32 × Int32 × (Nat → Int32) × Int32 => (fun (kd2 : Int32) (bg2 : Int32) (nx2 : Int32) (ft2 : Int32) (lz2 : Int32) (fc2 : Nat → Int32) (q : Int32) => [bLT g lt ta lo, bTape g ta ab sz ln kd2 bg2 nx2 ft2 fb, bLaw g lo lc lz2 ll lm lg ld fc2]) (u.1) (u.2.1) (u.2.2.1) (u.2.2.2.1) (u.2.2.2.2.1) (u.2.2.2.2.2.1) (u.2.2.2.2.2.2)) := by
  refine zM'.of (cc := cX2_readAtom) (maxL := 3) (rt := (some .boolean)) (by decide) rfl (Nat.le_of_ble_eq_true rfl) ?_
  intro p e s m args below meth c A ls St hr hlocks hin hK hT hA hP hD hS hl
  obtain ⟨hx, hb, hml, hown, hts⟩ := id St
  have hl : lv_has ls 3 [(0, .ref lt), (1, .int 4)] := hl
  refine lv_aload_n hx hb dX2_readAtom_0 rfl (lv_at hl 0 rfl) ?_
  refine va_get (D := g.1) (ci := 2) (v := .ref ta) (C := RX2) (T := TX2) (N := 2) hx hb hts izRX2 hown hK hP 0 rfl rfl 0 (by decide) (hts _ k290) (fun x9 h9 => u_same (hts _ k291) x9 h9) rfl dX2_readAtom_1 ?_
  refine va_ldcS (q := g.2 20) hx hb hown (zra5 hT.2.1) dX2_readAtom_4 ?_
  refine mcallV' (g := g) (q0 := 0) (ci := 6) (As := [.ref (g.2 20)]) (rest := []) St hK hT hA hP hD hS hl.1 [1] [0, 2] rfl rfl rfl (c_t_isWordF l g ta ab sz ln kd bg nx (-1) fb (g.2 20) 5 zqa5 hln hnx hbg hkd hTk rfl zla5 zna5 (zlitB zla5)) (cwV 1 hts (zgL (zl4 k292 k282 k283 k277) k268) rfl rfl rfl (by decide +kernel) ⟨Nat.le_of_ble_eq_true rfl, Nat.le_of_ble_eq_true rfl⟩) rfl rfl rfl rfl (Nat.le_of_ble_eq_true rfl) dX2_readAtom_6 ⟨(Nat.le_of_ble_eq_true rfl), (Nat.le_of_ble_eq_true rfl)⟩ (fun r_1 H locs hq2 hP hD hS => ?_)
  replace hq2 : (r_1 = 1 ∧ zisW fb ln.toInt bg.toInt zqa5.2.2.2 ∨ r_1 = 0 ∧ ¬ zisW fb ln.toInt bg.toInt zqa5.2.2.2) := hq2
  have hP : va_P g.1 vwCl (List.flatten [bLT g lt ta lo, bLaw g lo lc lz ll lm lg ld fc, bTape g ta ab sz ln kd bg nx (-1) fb]) H := hP
  have hD : va_D A (List.flatten [bLT g lt ta lo, bLaw g lo lc lz ll lm lg ld fc, bTape g ta ab sz ln kd bg nx (-1) fb]) := hD
  refine W.widen (k := 0) (n := 0) (Nat.le_of_ble_eq_true rfl) (Nat.le_of_ble_eq_true rfl) ?_
  refine W.eq (g2 := F0 m 9 ls [.int r_1]) rfl ?_
  rcases hq2 with ⟨rfl, hq2_k⟩ | ⟨rfl, hq2_k⟩
  · skip
    refine lv_if_ne (tgt := 24) hx hb dX2_readAtom_9 (by decide) (fun _ => ?_) (fun c3 => absurd c3 (by decide))
    have w4 : zDeep fb ln.toInt bg.toInt := (Or.inl hq2_k)
    refine lv_iload_n hx hb dX2_readAtom_24 rfl (lv_at hl 1 rfl) ?_
    refine lv_bipush (v := 6) hx hb dX2_readAtom_25 (by decide) ?_
    refine lv_icmp_ge (tgt := 40) hx hb dX2_readAtom_27 (by decide) (fun c5 => absurd c5 (by decide)) (fun _ => ?_)
    refine lv_aload_n hx hb dX2_readAtom_30 rfl (lv_at hl 0 rfl) ?_
    refine lv_iload_n hx hb dX2_readAtom_31 rfl (lv_at hl 1 rfl) ?_
    refine lv_iconst (v := 1) hx hb dX2_readAtom_32 (by decide) ?_
    refine lv_iadd hx hb dX2_readAtom_33 ?_
    refine ztop (r := 5) (by decide) ?_
    refine mcallV' (g := g) (q0 := 0) (ci := 2) (As := [.int 5]) (rest := []) St hK hT hA hP hD hS hl.1 [0, 2, 1] [] rfl rfl rfl (c_lt_readDeeper5C l g lt ta lo ab sz ln kd bg nx fb lc lz ll lm lg ld fc b_lz hln hnx hbg hkd hTk hlb w4) (cwV 1 hts (zgL (zl4 k306 k307 k308 k309) k323) rfl rfl rfl (by decide +kernel) ⟨Nat.le_of_ble_eq_true rfl, Nat.le_of_ble_eq_true rfl⟩) rfl rfl rfl rfl (Nat.le_of_ble_eq_true rfl) dX2_readAtom_34 ⟨(Nat.le_of_ble_eq_true rfl), (Nat.le_of_ble_eq_true rfl)⟩ (fun u_ H locs hq13 hP hD hS => ?_)
    obtain ⟨kd2_6, bg2_7, nx2_8, ft2_9, lz2_10, fc2_11, q_12⟩ := u_
    replace hq13 : (0 ≤ lz2_10.toInt ∧ lz2_10.toInt ≤ 400) ∧ (-1 ≤ ft2_9.toInt) ∧ (0 ≤ nx2_8.toInt ∧ nx2_8.toInt ≤ 400) ∧ (0 ≤ bg2_7.toInt ∧ bg2_7.toInt ≤ 400) ∧ (zKd kd2_6.toInt bg2_7.toInt nx2_8.toInt) ∧ (zTk fb ln.toInt kd2_6.toInt bg2_7.toInt nx2_8.toInt) ∧ (q_12 = 1 ∧ zDpr fb ln.toInt 1 bg.toInt (.ok bg2_7.toInt) ∧ (-1) = ft2_9 ∧ zAC (fun e9 v9 => zDv fb ln.toInt e9 1 bg.toInt bg2_7.toInt v9) bg.toInt bg2_7.toInt fc fc2_11 lz.toInt lz2_10.toInt ∨ q_12 = 0 ∧ zDpr fb ln.toInt 1 bg.toInt (.bad ft2_9.toInt)) := hq13
    have hP : va_P g.1 vwCl (List.flatten [bLT g lt ta lo, bTape g ta ab sz ln kd2_6 bg2_7 nx2_8 ft2_9 fb, bLaw g lo lc lz2_10 ll lm lg ld fc2_11]) H := hP
    have hD : va_D A (List.flatten [bLT g lt ta lo, bTape g ta ab sz ln kd2_6 bg2_7 nx2_8 ft2_9 fb, bLaw g lo lc lz2_10 ll lm lg ld fc2_11]) := hD
    refine W.widen (k := 0) (n := 0) (Nat.le_of_ble_eq_true rfl) (Nat.le_of_ble_eq_true rfl) ?_
    refine W.eq (g2 := F0 m 37 ls [.int q_12]) rfl ?_
    obtain ⟨hq13_0, hq13_1, hq13_2, hq13_3, hq13_4, hq13_5, hq13_6⟩ := hq13
    rcases hq13_6 with ⟨rfl, hq13_k, rfl, hq13_kc⟩ | ⟨rfl, hq13_k⟩
    · skip
      have w14 := hq13_kc.1
      refine lv_goto (tgt := 47) hx hb dX2_readAtom_37 (by decide) ?_
      have hP : va_P g.1 vwCl (List.flatten [bLT g lt ta lo, bTape g ta ab sz ln kd2_6 bg2_7 nx2_8 (-1) fb, bLaw g lo lc lz2_10 ll lm lg ld fc2_11]) H := hP
      have hD : va_D A (List.flatten [bLT g lt ta lo, bTape g ta ab sz ln kd2_6 bg2_7 nx2_8 (-1) fb, bLaw g lo lc lz2_10 ll lm lg ld fc2_11]) := hD
      exact mret_z hx hb hr hlocks hS (Nat.le_of_ble_eq_true rfl) (Nat.le_of_ble_eq_true rfl) dX2_readAtom_47 (kd2_6, bg2_7, nx2_8, -1, lz2_10, fc2_11, (1 : Int32)) rfl (by decide) (show (0 ≤ lz2_10.toInt ∧ lz2_10.toInt ≤ 400) ∧ (-1 ≤ ((-1) : Int32).toInt) ∧ (0 ≤ nx2_8.toInt ∧ nx2_8.toInt ≤ 400) ∧ (0 ≤ bg2_7.toInt ∧ bg2_7.toInt ≤ 400) ∧ (zKd kd2_6.toInt bg2_7.toInt nx2_8.toInt) ∧ (zTk fb ln.toInt kd2_6.toInt bg2_7.toInt nx2_8.toInt) ∧ (1 = 1 ∧ zAtom fb ln.toInt 2 bg.toInt (.ok bg2_7.toInt) ∧ (-1) = (-1) ∧ zAC (fun e9 v9 => zAv fb ln.toInt e9 2 bg.toInt bg2_7.toInt v9) bg.toInt bg2_7.toInt fc fc2_11 lz.toInt lz2_10.toInt ∨ 1 = 0 ∧ zAtom fb ln.toInt 2 bg.toInt (.bad ((-1) : Int32).toInt)) from ⟨(by first | assumption | omega | exact Or.inl (by decide) | exact Or.inr (by omega)), (by decide), (by first | assumption | omega | exact Or.inl (by decide) | exact Or.inr (by omega)), (by first | assumption | omega | exact Or.inl (by decide) | exact Or.inr (by omega)), (by first | assumption | omega | exact Or.inl (by decide) | exact Or.inr (by omega)), (by assumption), (Or.inl ⟨rfl, zAt_s (Or.inl hq2_k) hq13_k, rfl, (zAC_deep (k := 1) rfl w4 hq13_kc)⟩)⟩) hP hD
    · skip
      refine lv_goto (tgt := 47) hx hb dX2_readAtom_37 (by decide) ?_
      have hP : va_P g.1 vwCl (List.flatten [bLT g lt ta lo, bTape g ta ab sz ln kd2_6 bg2_7 nx2_8 ft2_9 fb, bLaw g lo lc lz2_10 ll lm lg ld fc2_11]) H := hP
      have hD : va_D A (List.flatten [bLT g lt ta lo, bTape g ta ab sz ln kd2_6 bg2_7 nx2_8 ft2_9 fb, bLaw g lo lc lz2_10 ll lm lg ld fc2_11]) := hD
      exact mret_z hx hb hr hlocks hS (Nat.le_of_ble_eq_true rfl) (Nat.le_of_ble_eq_true rfl) dX2_readAtom_47 (kd2_6, bg2_7, nx2_8, ft2_9, lz2_10, fc2_11, (0 : Int32)) rfl (by decide) (show (0 ≤ lz2_10.toInt ∧ lz2_10.toInt ≤ 400) ∧ (-1 ≤ ft2_9.toInt) ∧ (0 ≤ nx2_8.toInt ∧ nx2_8.toInt ≤ 400) ∧ (0 ≤ bg2_7.toInt ∧ bg2_7.toInt ≤ 400) ∧ (zKd kd2_6.toInt bg2_7.toInt nx2_8.toInt) ∧ (zTk fb ln.toInt kd2_6.toInt bg2_7.toInt nx2_8.toInt) ∧ (0 = 1 ∧ zAtom fb ln.toInt 2 bg.toInt (.ok bg2_7.toInt) ∧ (-1) = ft2_9 ∧ zAC (fun e9 v9 => zAv fb ln.toInt e9 2 bg.toInt bg2_7.toInt v9) bg.toInt bg2_7.toInt fc fc2_11 lz.toInt lz2_10.toInt ∨ 0 = 0 ∧ zAtom fb ln.toInt 2 bg.toInt (.bad ft2_9.toInt)) from ⟨(by first | assumption | omega | exact Or.inl (by decide) | exact Or.inr (by omega)), (by first | decide | omega), (by first | assumption | omega | exact Or.inl (by decide) | exact Or.inr (by omega)), (by first | assumption | omega | exact Or.inl (by decide) | exact Or.inr (by omega)), (by first | assumption | omega | exact Or.inl (by decide) | exact Or.inr (by omega)), (by assumption), (Or.inr ⟨rfl, zAt_s (Or.inl hq2_k) hq13_k⟩)⟩) hP hD
  · skip
    refine lv_if_ne (tgt := 24) hx hb dX2_readAtom_9 (by decide) (fun c15 => absurd (by decide) c15) (fun _ => ?_)
    refine lv_aload_n hx hb dX2_readAtom_12 rfl (lv_at hl 0 rfl) ?_
    refine va_get (D := g.1) (ci := 2) (v := .ref ta) (C := RX2) (T := TX2) (N := 2) hx hb hts izRX2 hown hK hP 0 rfl rfl 0 (by decide) (hts _ k290) (fun x9 h9 => u_same (hts _ k291) x9 h9) rfl dX2_readAtom_13 ?_
    refine lv_bipush (v := 40) hx hb dX2_readAtom_16 (by decide) ?_
    have hL40 : (40 : Int32).toInt = 40 := by decide
    refine mcallV' (g := g) (q0 := 0) (ci := 6) (As := [.int 40]) (rest := []) St hK hT hA hP hD hS hl.1 [2] [0, 1] rfl rfl rfl (c_t_isSignF l g ta ab sz ln kd bg nx (-1) fb 40 hln hnx hbg hkd hTk) (cwV 1 hts (zgL (zl4 k305 k288 k289 k277) k285) rfl rfl rfl (by decide +kernel) ⟨Nat.le_of_ble_eq_true rfl, Nat.le_of_ble_eq_true rfl⟩) rfl rfl rfl rfl (Nat.le_of_ble_eq_true rfl) dX2_readAtom_18 ⟨(Nat.le_of_ble_eq_true rfl), (Nat.le_of_ble_eq_true rfl)⟩ (fun q_16 H locs hq17 hP hD hS => ?_)
    replace hq17 : (q_16 = 1 ∧ zisS fb ln.toInt bg.toInt (40 : Int32).toInt ∨ q_16 = 0 ∧ ¬ zisS fb ln.toInt bg.toInt (40 : Int32).toInt) := hq17
    have hP : va_P g.1 vwCl (List.flatten [bLT g lt ta lo, bLaw g lo lc lz ll lm lg ld fc, bTape g ta ab sz ln kd bg nx (-1) fb]) H := hP
    have hD : va_D A (List.flatten [bLT g lt ta lo, bLaw g lo lc lz ll lm lg ld fc, bTape g ta ab sz ln kd bg nx (-1) fb]) := hD
    refine W.widen (k := 0) (n := 0) (Nat.le_of_ble_eq_true rfl) (Nat.le_of_ble_eq_true rfl) ?_
    refine W.eq (g2 := F0 m 21 ls [.int q_16]) rfl ?_
    rcases hq17 with ⟨rfl, hq17_k⟩ | ⟨rfl, hq17_k⟩
    · skip
      refine lv_if_eq (tgt := 48) hx hb dX2_readAtom_21 (by decide) (fun c18 => absurd c18 (by decide)) (fun _ => ?_)
      have w19 : zDeep fb ln.toInt bg.toInt := (Or.inr hq17_k)
      refine lv_iload_n hx hb dX2_readAtom_24 rfl (lv_at hl 1 rfl) ?_
      refine lv_bipush (v := 6) hx hb dX2_readAtom_25 (by decide) ?_
      refine lv_icmp_ge (tgt := 40) hx hb dX2_readAtom_27 (by decide) (fun c20 => absurd c20 (by decide)) (fun _ => ?_)
      refine lv_aload_n hx hb dX2_readAtom_30 rfl (lv_at hl 0 rfl) ?_
      refine lv_iload_n hx hb dX2_readAtom_31 rfl (lv_at hl 1 rfl) ?_
      refine lv_iconst (v := 1) hx hb dX2_readAtom_32 (by decide) ?_
      refine lv_iadd hx hb dX2_readAtom_33 ?_
      refine ztop (r := 5) (by decide) ?_
      refine mcallV' (g := g) (q0 := 0) (ci := 2) (As := [.int 5]) (rest := []) St hK hT hA hP hD hS hl.1 [0, 2, 1] [] rfl rfl rfl (c_lt_readDeeper5C l g lt ta lo ab sz ln kd bg nx fb lc lz ll lm lg ld fc b_lz hln hnx hbg hkd hTk hlb w19) (cwV 1 hts (zgL (zl4 k306 k307 k308 k309) k323) rfl rfl rfl (by decide +kernel) ⟨Nat.le_of_ble_eq_true rfl, Nat.le_of_ble_eq_true rfl⟩) rfl rfl rfl rfl (Nat.le_of_ble_eq_true rfl) dX2_readAtom_34 ⟨(Nat.le_of_ble_eq_true rfl), (Nat.le_of_ble_eq_true rfl)⟩ (fun u_ H locs hq28 hP hD hS => ?_)
      obtain ⟨kd2_21, bg2_22, nx2_23, ft2_24, lz2_25, fc2_26, q_27⟩ := u_
      replace hq28 : (0 ≤ lz2_25.toInt ∧ lz2_25.toInt ≤ 400) ∧ (-1 ≤ ft2_24.toInt) ∧ (0 ≤ nx2_23.toInt ∧ nx2_23.toInt ≤ 400) ∧ (0 ≤ bg2_22.toInt ∧ bg2_22.toInt ≤ 400) ∧ (zKd kd2_21.toInt bg2_22.toInt nx2_23.toInt) ∧ (zTk fb ln.toInt kd2_21.toInt bg2_22.toInt nx2_23.toInt) ∧ (q_27 = 1 ∧ zDpr fb ln.toInt 1 bg.toInt (.ok bg2_22.toInt) ∧ (-1) = ft2_24 ∧ zAC (fun e9 v9 => zDv fb ln.toInt e9 1 bg.toInt bg2_22.toInt v9) bg.toInt bg2_22.toInt fc fc2_26 lz.toInt lz2_25.toInt ∨ q_27 = 0 ∧ zDpr fb ln.toInt 1 bg.toInt (.bad ft2_24.toInt)) := hq28
      have hP : va_P g.1 vwCl (List.flatten [bLT g lt ta lo, bTape g ta ab sz ln kd2_21 bg2_22 nx2_23 ft2_24 fb, bLaw g lo lc lz2_25 ll lm lg ld fc2_26]) H := hP
      have hD : va_D A (List.flatten [bLT g lt ta lo, bTape g ta ab sz ln kd2_21 bg2_22 nx2_23 ft2_24 fb, bLaw g lo lc lz2_25 ll lm lg ld fc2_26]) := hD
      refine W.widen (k := 0) (n := 0) (Nat.le_of_ble_eq_true rfl) (Nat.le_of_ble_eq_true rfl) ?_
      refine W.eq (g2 := F0 m 37 ls [.int q_27]) rfl ?_
      obtain ⟨hq28_0, hq28_1, hq28_2, hq28_3, hq28_4, hq28_5, hq28_6⟩ := hq28
      rcases hq28_6 with ⟨rfl, hq28_k, rfl, hq28_kc⟩ | ⟨rfl, hq28_k⟩
      · skip
        have w29 := hq28_kc.1
        refine lv_goto (tgt := 47) hx hb dX2_readAtom_37 (by decide) ?_
        have hP : va_P g.1 vwCl (List.flatten [bLT g lt ta lo, bTape g ta ab sz ln kd2_21 bg2_22 nx2_23 (-1) fb, bLaw g lo lc lz2_25 ll lm lg ld fc2_26]) H := hP
        have hD : va_D A (List.flatten [bLT g lt ta lo, bTape g ta ab sz ln kd2_21 bg2_22 nx2_23 (-1) fb, bLaw g lo lc lz2_25 ll lm lg ld fc2_26]) := hD
        exact mret_z hx hb hr hlocks hS (Nat.le_of_ble_eq_true rfl) (Nat.le_of_ble_eq_true rfl) dX2_readAtom_47 (kd2_21, bg2_22, nx2_23, -1, lz2_25, fc2_26, (1 : Int32)) rfl (by decide) (show (0 ≤ lz2_25.toInt ∧ lz2_25.toInt ≤ 400) ∧ (-1 ≤ ((-1) : Int32).toInt) ∧ (0 ≤ nx2_23.toInt ∧ nx2_23.toInt ≤ 400) ∧ (0 ≤ bg2_22.toInt ∧ bg2_22.toInt ≤ 400) ∧ (zKd kd2_21.toInt bg2_22.toInt nx2_23.toInt) ∧ (zTk fb ln.toInt kd2_21.toInt bg2_22.toInt nx2_23.toInt) ∧ (1 = 1 ∧ zAtom fb ln.toInt 2 bg.toInt (.ok bg2_22.toInt) ∧ (-1) = (-1) ∧ zAC (fun e9 v9 => zAv fb ln.toInt e9 2 bg.toInt bg2_22.toInt v9) bg.toInt bg2_22.toInt fc fc2_26 lz.toInt lz2_25.toInt ∨ 1 = 0 ∧ zAtom fb ln.toInt 2 bg.toInt (.bad ((-1) : Int32).toInt)) from ⟨(by first | assumption | omega | exact Or.inl (by decide) | exact Or.inr (by omega)), (by decide), (by first | assumption | omega | exact Or.inl (by decide) | exact Or.inr (by omega)), (by first | assumption | omega | exact Or.inl (by decide) | exact Or.inr (by omega)), (by first | assumption | omega | exact Or.inl (by decide) | exact Or.inr (by omega)), (by assumption), (Or.inl ⟨rfl, zAt_s (Or.inr hq17_k) hq28_k, rfl, (zAC_deep (k := 1) rfl w19 hq28_kc)⟩)⟩) hP hD
      · skip
        refine lv_goto (tgt := 47) hx hb dX2_readAtom_37 (by decide) ?_
        have hP : va_P g.1 vwCl (List.flatten [bLT g lt ta lo, bTape g ta ab sz ln kd2_21 bg2_22 nx2_23 ft2_24 fb, bLaw g lo lc lz2_25 ll lm lg ld fc2_26]) H := hP
        have hD : va_D A (List.flatten [bLT g lt ta lo, bTape g ta ab sz ln kd2_21 bg2_22 nx2_23 ft2_24 fb, bLaw g lo lc lz2_25 ll lm lg ld fc2_26]) := hD
        exact mret_z hx hb hr hlocks hS (Nat.le_of_ble_eq_true rfl) (Nat.le_of_ble_eq_true rfl) dX2_readAtom_47 (kd2_21, bg2_22, nx2_23, ft2_24, lz2_25, fc2_26, (0 : Int32)) rfl (by decide) (show (0 ≤ lz2_25.toInt ∧ lz2_25.toInt ≤ 400) ∧ (-1 ≤ ft2_24.toInt) ∧ (0 ≤ nx2_23.toInt ∧ nx2_23.toInt ≤ 400) ∧ (0 ≤ bg2_22.toInt ∧ bg2_22.toInt ≤ 400) ∧ (zKd kd2_21.toInt bg2_22.toInt nx2_23.toInt) ∧ (zTk fb ln.toInt kd2_21.toInt bg2_22.toInt nx2_23.toInt) ∧ (0 = 1 ∧ zAtom fb ln.toInt 2 bg.toInt (.ok bg2_22.toInt) ∧ (-1) = ft2_24 ∧ zAC (fun e9 v9 => zAv fb ln.toInt e9 2 bg.toInt bg2_22.toInt v9) bg.toInt bg2_22.toInt fc fc2_26 lz.toInt lz2_25.toInt ∨ 0 = 0 ∧ zAtom fb ln.toInt 2 bg.toInt (.bad ft2_24.toInt)) from ⟨(by first | assumption | omega | exact Or.inl (by decide) | exact Or.inr (by omega)), (by first | decide | omega), (by first | assumption | omega | exact Or.inl (by decide) | exact Or.inr (by omega)), (by first | assumption | omega | exact Or.inl (by decide) | exact Or.inr (by omega)), (by first | assumption | omega | exact Or.inl (by decide) | exact Or.inr (by omega)), (by assumption), (Or.inr ⟨rfl, zAt_s (Or.inr hq17_k) hq28_k⟩)⟩) hP hD
    · skip
      refine lv_if_eq (tgt := 48) hx hb dX2_readAtom_21 (by decide) (fun _ => ?_) (fun c30 => absurd (by decide) c30)
      refine lv_aload_n hx hb dX2_readAtom_48 rfl (lv_at hl 0 rfl) ?_
      refine va_get (D := g.1) (ci := 2) (v := .ref ta) (C := RX2) (T := TX2) (N := 2) hx hb hts izRX2 hown hK hP 0 rfl rfl 0 (by decide) (hts _ k290) (fun x9 h9 => u_same (hts _ k291) x9 h9) rfl dX2_readAtom_49 ?_
      refine va_ldcS (q := g.2 22) hx hb hown (zra6 hT.2.1) dX2_readAtom_52 ?_
      refine mcallV' (g := g) (q0 := 0) (ci := 6) (As := [.ref (g.2 22)]) (rest := []) St hK hT hA hP hD hS hl.1 [2] [0, 1] rfl rfl rfl (c_t_takeWordF l g ta ab sz ln kd bg nx (-1) fb (g.2 22) 6 zqa6 hln hnx hbg hkd hTk rfl zla6 zna6 (zlitB zla6)) (cwV 1 hts (zgL (zl4 k310 k311 k312 k277) k284) rfl rfl rfl (by decide +kernel) ⟨Nat.le_of_ble_eq_true rfl, Nat.le_of_ble_eq_true rfl⟩) rfl rfl rfl rfl (Nat.le_of_ble_eq_true rfl) dX2_readAtom_54 ⟨(Nat.le_of_ble_eq_true rfl), (Nat.le_of_ble_eq_true rfl)⟩ (fun u_ H locs hq35 hP hD hS => ?_)
      obtain ⟨kd2_31, bg2_32, nx2_33, r_34⟩ := u_
      replace hq35 : (0 ≤ nx2_33.toInt ∧ nx2_33.toInt ≤ 400) ∧ (0 ≤ bg2_32.toInt ∧ bg2_32.toInt ≤ 400) ∧ (zKd kd2_31.toInt bg2_32.toInt nx2_33.toInt) ∧ (zTk fb ln.toInt kd2_31.toInt bg2_32.toInt nx2_33.toInt) ∧ (r_34 = 1 ∧ zisW fb ln.toInt bg.toInt zqa6.2.2.2 ∧ zMv fb ln.toInt bg.toInt bg2_32.toInt ∨ r_34 = 0 ∧ ¬ zisW fb ln.toInt bg.toInt zqa6.2.2.2 ∧ kd = kd2_31 ∧ bg = bg2_32 ∧ nx = nx2_33) := hq35
      have hP : va_P g.1 vwCl (List.flatten [bLT g lt ta lo, bLaw g lo lc lz ll lm lg ld fc, bTape g ta ab sz ln kd2_31 bg2_32 nx2_33 (-1) fb]) H := hP
      have hD : va_D A (List.flatten [bLT g lt ta lo, bLaw g lo lc lz ll lm lg ld fc, bTape g ta ab sz ln kd2_31 bg2_32 nx2_33 (-1) fb]) := hD
      refine W.widen (k := 0) (n := 0) (Nat.le_of_ble_eq_true rfl) (Nat.le_of_ble_eq_true rfl) ?_
      refine W.eq (g2 := F0 m 57 ls [.int r_34]) rfl ?_
      obtain ⟨hq35_0, hq35_1, hq35_2, hq35_3, hq35_4⟩ := hq35
      rcases hq35_4 with ⟨rfl, hq35_k, hq35_km⟩ | ⟨rfl, hq35_k, rfl, rfl, rfl⟩
      · skip
        refine lv_if_eq (tgt := 73) hx hb dX2_readAtom_57 (by decide) (fun c36 => absurd c36 (by decide)) (fun _ => ?_)
        have w37 := zMv_lt (f := fb) (n := ln.toInt) (by omega) (zisW_z hq35_k) hq35_km
        refine lv_aload_n hx hb dX2_readAtom_60 rfl (lv_at hl 0 rfl) ?_
        refine va_get (D := g.1) (ci := 2) (v := .ref lo) (C := RX2) (T := TX2) (N := 2) hx hb hts izRX2 hown hK hP 0 rfl rfl 1 (by decide) (hts _ k210) (fun _ h9 => h9) rfl dX2_readAtom_61 ?_
        refine lv_bipush (v := 10) hx hb dX2_readAtom_64 (by decide) ?_
        refine lv_iconst (v := 0) hx hb dX2_readAtom_66 (by decide) ?_
        refine mcallV' (g := g) (q0 := 0) (ci := 1) (As := [.int 10, .int 0]) (rest := []) St hK hT hA hP hD hS hl.1 [1] [0, 2] rfl rfl rfl (c_l_putC l g lo lc lz ll lm lg ld fc 10 0 b_lz (by first | assumption | omega | decide | exact Or.inl (by decide) | exact Or.inr (by decide))) (cwV 2 hts (zgL (zl4 k297 k298 k299 k85) k202) rfl rfl rfl (by decide +kernel) ⟨Nat.le_of_ble_eq_true rfl, Nat.le_of_ble_eq_true rfl⟩) rfl rfl rfl rfl (Nat.le_of_ble_eq_true rfl) dX2_readAtom_67 ⟨(Nat.le_of_ble_eq_true rfl), (Nat.le_of_ble_eq_true rfl)⟩ (fun u_ H locs hq40 hP hD hS => ?_)
        obtain ⟨lz2_38, fc2_39⟩ := u_
        replace hq40 : (0 ≤ lz2_38.toInt ∧ lz2_38.toInt ≤ 400) ∧ (lz2_38.toInt = lz.toInt + 1) ∧ (fc2_39 = upd fc lz.toInt.toNat (10 + 32 * 0)) := hq40
        have hP : va_P g.1 vwCl (List.flatten [bLT g lt ta lo, bTape g ta ab sz ln kd2_31 bg2_32 nx2_33 (-1) fb, bLaw g lo lc lz2_38 ll lm lg ld fc2_39]) H := hP
        have hD : va_D A (List.flatten [bLT g lt ta lo, bTape g ta ab sz ln kd2_31 bg2_32 nx2_33 (-1) fb, bLaw g lo lc lz2_38 ll lm lg ld fc2_39]) := hD
        refine W.widen (k := 0) (n := 0) (Nat.le_of_ble_eq_true rfl) (Nat.le_of_ble_eq_true rfl) ?_
        refine W.eq (g2 := F0 m 70 ls [.int lz]) rfl ?_
        obtain ⟨hq40_0, hq40_1, hq40_2⟩ := hq40
        refine lv_pop hx hb dX2_readAtom_70 rfl ?_
        refine lv_iconst (v := 1) hx hb dX2_readAtom_71 (by decide) ?_
        have hP : va_P g.1 vwCl (List.flatten [bLT g lt ta lo, bTape g ta ab sz ln kd2_31 bg2_32 nx2_33 (-1) fb, bLaw g lo lc lz2_38 ll lm lg ld fc2_39]) H := hP
        have hD : va_D A (List.flatten [bLT g lt ta lo, bTape g ta ab sz ln kd2_31 bg2_32 nx2_33 (-1) fb, bLaw g lo lc lz2_38 ll lm lg ld fc2_39]) := hD
        exact mret_z hx hb hr hlocks hS (Nat.le_of_ble_eq_true rfl) (Nat.le_of_ble_eq_true rfl) dX2_readAtom_72 (kd2_31, bg2_32, nx2_33, -1, lz2_38, fc2_39, (1 : Int32)) rfl (by decide) (show (0 ≤ lz2_38.toInt ∧ lz2_38.toInt ≤ 400) ∧ (-1 ≤ ((-1) : Int32).toInt) ∧ (0 ≤ nx2_33.toInt ∧ nx2_33.toInt ≤ 400) ∧ (0 ≤ bg2_32.toInt ∧ bg2_32.toInt ≤ 400) ∧ (zKd kd2_31.toInt bg2_32.toInt nx2_33.toInt) ∧ (zTk fb ln.toInt kd2_31.toInt bg2_32.toInt nx2_33.toInt) ∧ (1 = 1 ∧ zAtom fb ln.toInt 2 bg.toInt (.ok bg2_32.toInt) ∧ (-1) = (-1) ∧ zAC (fun e9 v9 => zAv fb ln.toInt e9 2 bg.toInt bg2_32.toInt v9) bg.toInt bg2_32.toInt fc fc2_39 lz.toInt lz2_38.toInt ∨ 1 = 0 ∧ zAtom fb ln.toInt 2 bg.toInt (.bad ((-1) : Int32).toInt)) from ⟨(by first | assumption | omega | exact Or.inl (by decide) | exact Or.inr (by omega)), (by decide), (by first | assumption | omega | exact Or.inl (by decide) | exact Or.inr (by omega)), (by first | assumption | omega | exact Or.inl (by decide) | exact Or.inr (by omega)), (by first | assumption | omega | exact Or.inl (by decide) | exact Or.inr (by omega)), (by assumption), (Or.inl ⟨rfl, zAt_pl (zor_n hq2_k hq17_k) (zPl_word (Or.inl hq35_k) hq35_km), rfl, (zAC_word (k := 10) (j := 6) (by omega) (zor_n hq2_k hq17_k) (Or.inl ⟨rfl, rfl, hq35_k⟩) hq35_km (by decide) hq40_2 hq40_1 w37)⟩)⟩) hP hD
      · skip
        refine lv_if_eq (tgt := 73) hx hb dX2_readAtom_57 (by decide) (fun _ => ?_) (fun c41 => absurd (by decide) c41)
        refine lv_aload_n hx hb dX2_readAtom_73 rfl (lv_at hl 0 rfl) ?_
        refine va_get (D := g.1) (ci := 2) (v := .ref ta) (C := RX2) (T := TX2) (N := 2) hx hb hts izRX2 hown hK hP 0 rfl rfl 0 (by decide) (hts _ k290) (fun x9 h9 => u_same (hts _ k291) x9 h9) rfl dX2_readAtom_74 ?_
        refine va_ldcS (q := g.2 24) hx hb hown (zra7 hT.2.1) dX2_readAtom_77 ?_
        refine mcallV' (g := g) (q0 := 0) (ci := 6) (As := [.ref (g.2 24)]) (rest := []) St hK hT hA hP hD hS hl.1 [2] [0, 1] rfl rfl rfl (c_t_takeWordF l g ta ab sz ln kd bg nx (-1) fb (g.2 24) 7 zqa7 hln hnx hbg hkd hTk rfl zla7 zna7 (zlitB zla7)) (cwV 1 hts (zgL (zl4 k310 k311 k312 k277) k284) rfl rfl rfl (by decide +kernel) ⟨Nat.le_of_ble_eq_true rfl, Nat.le_of_ble_eq_true rfl⟩) rfl rfl rfl rfl (Nat.le_of_ble_eq_true rfl) dX2_readAtom_79 ⟨(Nat.le_of_ble_eq_true rfl), (Nat.le_of_ble_eq_true rfl)⟩ (fun u_ H locs hq46 hP hD hS => ?_)
        obtain ⟨kd2_42, bg2_43, nx2_44, r_45⟩ := u_
        replace hq46 : (0 ≤ nx2_44.toInt ∧ nx2_44.toInt ≤ 400) ∧ (0 ≤ bg2_43.toInt ∧ bg2_43.toInt ≤ 400) ∧ (zKd kd2_42.toInt bg2_43.toInt nx2_44.toInt) ∧ (zTk fb ln.toInt kd2_42.toInt bg2_43.toInt nx2_44.toInt) ∧ (r_45 = 1 ∧ zisW fb ln.toInt bg.toInt zqa7.2.2.2 ∧ zMv fb ln.toInt bg.toInt bg2_43.toInt ∨ r_45 = 0 ∧ ¬ zisW fb ln.toInt bg.toInt zqa7.2.2.2 ∧ kd = kd2_42 ∧ bg = bg2_43 ∧ nx = nx2_44) := hq46
        have hP : va_P g.1 vwCl (List.flatten [bLT g lt ta lo, bLaw g lo lc lz ll lm lg ld fc, bTape g ta ab sz ln kd2_42 bg2_43 nx2_44 (-1) fb]) H := hP
        have hD : va_D A (List.flatten [bLT g lt ta lo, bLaw g lo lc lz ll lm lg ld fc, bTape g ta ab sz ln kd2_42 bg2_43 nx2_44 (-1) fb]) := hD
        refine W.widen (k := 0) (n := 0) (Nat.le_of_ble_eq_true rfl) (Nat.le_of_ble_eq_true rfl) ?_
        refine W.eq (g2 := F0 m 82 ls [.int r_45]) rfl ?_
        obtain ⟨hq46_0, hq46_1, hq46_2, hq46_3, hq46_4⟩ := hq46
        rcases hq46_4 with ⟨rfl, hq46_k, hq46_km⟩ | ⟨rfl, hq46_k, rfl, rfl, rfl⟩
        · skip
          refine lv_if_eq (tgt := 98) hx hb dX2_readAtom_82 (by decide) (fun c47 => absurd c47 (by decide)) (fun _ => ?_)
          have w48 := zMv_lt (f := fb) (n := ln.toInt) (by omega) (zisW_z hq46_k) hq46_km
          refine lv_aload_n hx hb dX2_readAtom_85 rfl (lv_at hl 0 rfl) ?_
          refine va_get (D := g.1) (ci := 2) (v := .ref lo) (C := RX2) (T := TX2) (N := 2) hx hb hts izRX2 hown hK hP 0 rfl rfl 1 (by decide) (hts _ k210) (fun _ h9 => h9) rfl dX2_readAtom_86 ?_
          refine lv_bipush (v := 11) hx hb dX2_readAtom_89 (by decide) ?_
          refine lv_iconst (v := 0) hx hb dX2_readAtom_91 (by decide) ?_
          refine mcallV' (g := g) (q0 := 0) (ci := 1) (As := [.int 11, .int 0]) (rest := []) St hK hT hA hP hD hS hl.1 [1] [0, 2] rfl rfl rfl (c_l_putC l g lo lc lz ll lm lg ld fc 11 0 b_lz (by first | assumption | omega | decide | exact Or.inl (by decide) | exact Or.inr (by decide))) (cwV 2 hts (zgL (zl4 k297 k298 k299 k85) k202) rfl rfl rfl (by decide +kernel) ⟨Nat.le_of_ble_eq_true rfl, Nat.le_of_ble_eq_true rfl⟩) rfl rfl rfl rfl (Nat.le_of_ble_eq_true rfl) dX2_readAtom_92 ⟨(Nat.le_of_ble_eq_true rfl), (Nat.le_of_ble_eq_true rfl)⟩ (fun u_ H locs hq51 hP hD hS => ?_)
          obtain ⟨lz2_49, fc2_50⟩ := u_
          replace hq51 : (0 ≤ lz2_49.toInt ∧ lz2_49.toInt ≤ 400) ∧ (lz2_49.toInt = lz.toInt + 1) ∧ (fc2_50 = upd fc lz.toInt.toNat (11 + 32 * 0)) := hq51
          have hP : va_P g.1 vwCl (List.flatten [bLT g lt ta lo, bTape g ta ab sz ln kd2_42 bg2_43 nx2_44 (-1) fb, bLaw g lo lc lz2_49 ll lm lg ld fc2_50]) H := hP
          have hD : va_D A (List.flatten [bLT g lt ta lo, bTape g ta ab sz ln kd2_42 bg2_43 nx2_44 (-1) fb, bLaw g lo lc lz2_49 ll lm lg ld fc2_50]) := hD
          refine W.widen (k := 0) (n := 0) (Nat.le_of_ble_eq_true rfl) (Nat.le_of_ble_eq_true rfl) ?_
          refine W.eq (g2 := F0 m 95 ls [.int lz]) rfl ?_
          obtain ⟨hq51_0, hq51_1, hq51_2⟩ := hq51
          refine lv_pop hx hb dX2_readAtom_95 rfl ?_
          refine lv_iconst (v := 1) hx hb dX2_readAtom_96 (by decide) ?_
          have hP : va_P g.1 vwCl (List.flatten [bLT g lt ta lo, bTape g ta ab sz ln kd2_42 bg2_43 nx2_44 (-1) fb, bLaw g lo lc lz2_49 ll lm lg ld fc2_50]) H := hP
          have hD : va_D A (List.flatten [bLT g lt ta lo, bTape g ta ab sz ln kd2_42 bg2_43 nx2_44 (-1) fb, bLaw g lo lc lz2_49 ll lm lg ld fc2_50]) := hD
          exact mret_z hx hb hr hlocks hS (Nat.le_of_ble_eq_true rfl) (Nat.le_of_ble_eq_true rfl) dX2_readAtom_97 (kd2_42, bg2_43, nx2_44, -1, lz2_49, fc2_50, (1 : Int32)) rfl (by decide) (show (0 ≤ lz2_49.toInt ∧ lz2_49.toInt ≤ 400) ∧ (-1 ≤ ((-1) : Int32).toInt) ∧ (0 ≤ nx2_44.toInt ∧ nx2_44.toInt ≤ 400) ∧ (0 ≤ bg2_43.toInt ∧ bg2_43.toInt ≤ 400) ∧ (zKd kd2_42.toInt bg2_43.toInt nx2_44.toInt) ∧ (zTk fb ln.toInt kd2_42.toInt bg2_43.toInt nx2_44.toInt) ∧ (1 = 1 ∧ zAtom fb ln.toInt 2 bg.toInt (.ok bg2_43.toInt) ∧ (-1) = (-1) ∧ zAC (fun e9 v9 => zAv fb ln.toInt e9 2 bg.toInt bg2_43.toInt v9) bg.toInt bg2_43.toInt fc fc2_50 lz.toInt lz2_49.toInt ∨ 1 = 0 ∧ zAtom fb ln.toInt 2 bg.toInt (.bad ((-1) : Int32).toInt)) from ⟨(by first | assumption | omega | exact Or.inl (by decide) | exact Or.inr (by omega)), (by decide), (by first | assumption | omega | exact Or.inl (by decide) | exact Or.inr (by omega)), (by first | assumption | omega | exact Or.inl (by decide) | exact Or.inr (by omega)), (by first | assumption | omega | exact Or.inl (by decide) | exact Or.inr (by omega)), (by assumption), (Or.inl ⟨rfl, zAt_pl (zor_n hq2_k hq17_k) (zPl_word (Or.inr hq46_k) hq46_km), rfl, (zAC_word (k := 11) (j := 7) (by omega) (zor_n hq2_k hq17_k) (Or.inr ⟨rfl, rfl, hq46_k⟩) hq46_km (by decide) hq51_2 hq51_1 w48)⟩)⟩) hP hD
        · skip
          refine lv_if_eq (tgt := 98) hx hb dX2_readAtom_82 (by decide) (fun _ => ?_) (fun c52 => absurd (by decide) c52)
          refine lv_aload_n hx hb dX2_readAtom_98 rfl (lv_at hl 0 rfl) ?_
          refine mcallV' (g := g) (q0 := 0) (ci := 2) (As := []) (rest := []) St hK hT hA hP hD hS hl.1 [0, 2, 1] [] rfl rfl rfl (c_lt_readSumC l g lt ta lo ab sz ln kd bg nx fb lc lz ll lm lg ld fc b_lz hln hnx hbg hkd hTk hlb) (cwV 0 hts (zgL (zl4 k313 k314 k315 k309) k304) rfl rfl rfl (by decide +kernel) ⟨Nat.le_of_ble_eq_true rfl, Nat.le_of_ble_eq_true rfl⟩) rfl rfl rfl rfl (Nat.le_of_ble_eq_true rfl) dX2_readAtom_99 ⟨(Nat.le_of_ble_eq_true rfl), (Nat.le_of_ble_eq_true rfl)⟩ (fun u_ H locs hq60 hP hD hS => ?_)
          obtain ⟨kd2_53, bg2_54, nx2_55, ft2_56, lz2_57, fc2_58, q_59⟩ := u_
          replace hq60 : (0 ≤ lz2_57.toInt ∧ lz2_57.toInt ≤ 400) ∧ (-1 ≤ ft2_56.toInt) ∧ (0 ≤ nx2_55.toInt ∧ nx2_55.toInt ≤ 400) ∧ (0 ≤ bg2_54.toInt ∧ bg2_54.toInt ≤ 400) ∧ (zKd kd2_53.toInt bg2_54.toInt nx2_55.toInt) ∧ (zTk fb ln.toInt kd2_53.toInt bg2_54.toInt nx2_55.toInt) ∧ (q_59 = 1 ∧ zSum fb ln.toInt bg.toInt (.ok bg2_54.toInt) ∧ (-1) = ft2_56 ∧ zSC fb ln.toInt bg.toInt bg2_54.toInt fc fc2_58 lz.toInt lz2_57.toInt ∨ q_59 = 0 ∧ zSum fb ln.toInt bg.toInt (.bad ft2_56.toInt)) := hq60
          have hP : va_P g.1 vwCl (List.flatten [bLT g lt ta lo, bTape g ta ab sz ln kd2_53 bg2_54 nx2_55 ft2_56 fb, bLaw g lo lc lz2_57 ll lm lg ld fc2_58]) H := hP
          have hD : va_D A (List.flatten [bLT g lt ta lo, bTape g ta ab sz ln kd2_53 bg2_54 nx2_55 ft2_56 fb, bLaw g lo lc lz2_57 ll lm lg ld fc2_58]) := hD
          refine W.widen (k := 0) (n := 0) (Nat.le_of_ble_eq_true rfl) (Nat.le_of_ble_eq_true rfl) ?_
          refine W.eq (g2 := F0 m 102 ls [.int q_59]) rfl ?_
          obtain ⟨hq60_0, hq60_1, hq60_2, hq60_3, hq60_4, hq60_5, hq60_6⟩ := hq60
          rcases hq60_6 with ⟨rfl, hq60_k, rfl, hq60_kc⟩ | ⟨rfl, hq60_k⟩
          · skip
            have w61 := hq60_kc.1
            refine lv_if_ne (tgt := 107) hx hb dX2_readAtom_102 (by decide) (fun _ => ?_) (fun c62 => absurd c62 (by decide))
            refine lv_aload_n hx hb dX2_readAtom_107 rfl (lv_at hl 0 rfl) ?_
            refine va_get (D := g.1) (ci := 2) (v := .ref ta) (C := RX2) (T := TX2) (N := 2) hx hb hts izRX2 hown hK hP 0 rfl rfl 0 (by decide) (hts _ k290) (fun x9 h9 => u_same (hts _ k291) x9 h9) rfl dX2_readAtom_108 ?_
            refine lv_bipush (v := 60) hx hb dX2_readAtom_111 (by decide) ?_
            have hL60 : (60 : Int32).toInt = 60 := by decide
            refine mcallV' (g := g) (q0 := 0) (ci := 6) (As := [.int 60]) (rest := []) St hK hT hA hP hD hS hl.1 [1] [0, 2] rfl rfl rfl (c_t_isSignF l g ta ab sz ln kd2_53 bg2_54 nx2_55 (-1) fb 60 hln hq60_2 hq60_3 hq60_4 hq60_5) (cwV 1 hts (zgL (zl4 k305 k288 k289 k277) k285) rfl rfl rfl (by decide +kernel) ⟨Nat.le_of_ble_eq_true rfl, Nat.le_of_ble_eq_true rfl⟩) rfl rfl rfl rfl (Nat.le_of_ble_eq_true rfl) dX2_readAtom_113 ⟨(Nat.le_of_ble_eq_true rfl), (Nat.le_of_ble_eq_true rfl)⟩ (fun q_63 H locs hq64 hP hD hS => ?_)
            replace hq64 : (q_63 = 1 ∧ zisS fb ln.toInt bg2_54.toInt (60 : Int32).toInt ∨ q_63 = 0 ∧ ¬ zisS fb ln.toInt bg2_54.toInt (60 : Int32).toInt) := hq64
            have hP : va_P g.1 vwCl (List.flatten [bLT g lt ta lo, bLaw g lo lc lz2_57 ll lm lg ld fc2_58, bTape g ta ab sz ln kd2_53 bg2_54 nx2_55 (-1) fb]) H := hP
            have hD : va_D A (List.flatten [bLT g lt ta lo, bLaw g lo lc lz2_57 ll lm lg ld fc2_58, bTape g ta ab sz ln kd2_53 bg2_54 nx2_55 (-1) fb]) := hD
            refine W.widen (k := 0) (n := 0) (Nat.le_of_ble_eq_true rfl) (Nat.le_of_ble_eq_true rfl) ?_
            refine W.eq (g2 := F0 m 116 ls [.int q_63]) rfl ?_
            rcases hq64 with ⟨rfl, hq64_k⟩ | ⟨rfl, hq64_k⟩
            · skip
              refine lv_istore_n (lv' := [(2, .int 1), (0, .ref lt), (1, .int 4)]) hx hb dX2_readAtom_116 rfl hl (by decide) rfl (fun ls hl => ?_)
              refine lv_iload_n hx hb dX2_readAtom_117 rfl (lv_at hl 0 rfl) ?_
              refine lv_if_ne (tgt := 141) hx hb dX2_readAtom_118 (by decide) (fun _ => ?_) (fun c65 => absurd c65 (by decide))
              refine lv_aload_n hx hb dX2_readAtom_141 rfl (lv_at hl 1 rfl) ?_
              refine va_get (D := g.1) (ci := 2) (v := .ref ta) (C := RX2) (T := TX2) (N := 2) hx hb hts izRX2 hown hK hP 0 rfl rfl 0 (by decide) (hts _ k290) (fun x9 h9 => u_same (hts _ k291) x9 h9) rfl dX2_readAtom_142 ?_
              refine mcallV' (g := g) (q0 := 0) (ci := 6) (As := []) (rest := []) St hK hT hA hP hD hS hl.1 [2] [0, 1] rfl rfl rfl (c_t_stepF l g ta ab sz ln kd2_53 bg2_54 nx2_55 (-1) fb hln hq60_2) (cwV 0 hts (zgL (zl4 k296 k275 k276 k277) k271) rfl rfl rfl (by decide +kernel) ⟨Nat.le_of_ble_eq_true rfl, Nat.le_of_ble_eq_true rfl⟩) rfl rfl rfl rfl (Nat.le_of_ble_eq_true rfl) dX2_readAtom_145 ⟨(Nat.le_of_ble_eq_true rfl), (Nat.le_of_ble_eq_true rfl)⟩ (fun u_ H locs hq69 hP hD hS => ?_)
              obtain ⟨kd2_66, bg2_67, nx2_68⟩ := u_
              replace hq69 : (0 ≤ nx2_68.toInt ∧ nx2_68.toInt ≤ 400) ∧ (0 ≤ bg2_67.toInt ∧ bg2_67.toInt ≤ 400) ∧ (zKd kd2_66.toInt bg2_67.toInt nx2_68.toInt) ∧ (zSk fb ln.toInt nx2_55.toInt bg2_67.toInt) ∧ (zTk fb ln.toInt kd2_66.toInt bg2_67.toInt nx2_68.toInt) := hq69
              have hP : va_P g.1 vwCl (List.flatten [bLT g lt ta lo, bLaw g lo lc lz2_57 ll lm lg ld fc2_58, bTape g ta ab sz ln kd2_66 bg2_67 nx2_68 (-1) fb]) H := hP
              have hD : va_D A (List.flatten [bLT g lt ta lo, bLaw g lo lc lz2_57 ll lm lg ld fc2_58, bTape g ta ab sz ln kd2_66 bg2_67 nx2_68 (-1) fb]) := hD
              refine W.widen (k := 0) (n := 0) (Nat.le_of_ble_eq_true rfl) (Nat.le_of_ble_eq_true rfl) ?_
              refine W.eq (g2 := F0 m 148 ls []) rfl ?_
              obtain ⟨hq69_0, hq69_1, hq69_2, hq69_3, hq69_4⟩ := hq69
              have w70 := zMv_lt (f := fb) (n := ln.toInt) (by omega) (zisS_z hq64_k) (zMv_mk hq60_5 hq69_3)
              refine lv_aload_n hx hb dX2_readAtom_148 rfl (lv_at hl 1 rfl) ?_
              refine va_get (D := g.1) (ci := 2) (v := .ref lo) (C := RX2) (T := TX2) (N := 2) hx hb hts izRX2 hown hK hP 0 rfl rfl 1 (by decide) (hts _ k210) (fun _ h9 => h9) rfl dX2_readAtom_149 ?_
              refine lv_bipush (v := 7) hx hb dX2_readAtom_152 (by decide) ?_
              refine lv_iconst (v := 0) hx hb dX2_readAtom_154 (by decide) ?_
              refine mcallV' (g := g) (q0 := 0) (ci := 1) (As := [.int 7, .int 0]) (rest := []) St hK hT hA hP hD hS hl.1 [1] [0, 2] rfl rfl rfl (c_l_putC l g lo lc lz2_57 ll lm lg ld fc2_58 7 0 hq60_0 (by first | assumption | omega | decide | exact Or.inl (by decide) | exact Or.inr (by decide))) (cwV 2 hts (zgL (zl4 k297 k298 k299 k85) k202) rfl rfl rfl (by decide +kernel) ⟨Nat.le_of_ble_eq_true rfl, Nat.le_of_ble_eq_true rfl⟩) rfl rfl rfl rfl (Nat.le_of_ble_eq_true rfl) dX2_readAtom_155 ⟨(Nat.le_of_ble_eq_true rfl), (Nat.le_of_ble_eq_true rfl)⟩ (fun u_ H locs hq73 hP hD hS => ?_)
              obtain ⟨lz2_71, fc2_72⟩ := u_
              replace hq73 : (0 ≤ lz2_71.toInt ∧ lz2_71.toInt ≤ 400) ∧ (lz2_71.toInt = lz2_57.toInt + 1) ∧ (fc2_72 = upd fc2_58 lz2_57.toInt.toNat (7 + 32 * 0)) := hq73
              have hP : va_P g.1 vwCl (List.flatten [bLT g lt ta lo, bTape g ta ab sz ln kd2_66 bg2_67 nx2_68 (-1) fb, bLaw g lo lc lz2_71 ll lm lg ld fc2_72]) H := hP
              have hD : va_D A (List.flatten [bLT g lt ta lo, bTape g ta ab sz ln kd2_66 bg2_67 nx2_68 (-1) fb, bLaw g lo lc lz2_71 ll lm lg ld fc2_72]) := hD
              refine W.widen (k := 0) (n := 0) (Nat.le_of_ble_eq_true rfl) (Nat.le_of_ble_eq_true rfl) ?_
              refine W.eq (g2 := F0 m 158 ls [.int lz2_57]) rfl ?_
              obtain ⟨hq73_0, hq73_1, hq73_2⟩ := hq73
              refine lv_pop hx hb dX2_readAtom_158 rfl ?_
              refine lv_aload_n hx hb dX2_readAtom_159 rfl (lv_at hl 1 rfl) ?_
              refine mcallV' (g := g) (q0 := 0) (ci := 2) (As := []) (rest := []) St hK hT hA hP hD hS hl.1 [0, 1, 2] [] rfl rfl rfl (c_lt_readSumC l g lt ta lo ab sz ln kd2_66 bg2_67 nx2_68 fb lc lz2_71 ll lm lg ld fc2_72 hq73_0 hln hq69_0 hq69_1 hq69_2 hq69_4 (by first | assumption | omega | decide | exact Or.inl (by decide) | exact Or.inr (by decide))) (cwV 0 hts (zgL (zl4 k313 k314 k315 k309) k304) rfl rfl rfl (by decide +kernel) ⟨Nat.le_of_ble_eq_true rfl, Nat.le_of_ble_eq_true rfl⟩) rfl rfl rfl rfl (Nat.le_of_ble_eq_true rfl) dX2_readAtom_160 ⟨(Nat.le_of_ble_eq_true rfl), (Nat.le_of_ble_eq_true rfl)⟩ (fun u_ H locs hq81 hP hD hS => ?_)
              obtain ⟨kd2_74, bg2_75, nx2_76, ft2_77, lz2_78, fc2_79, q_80⟩ := u_
              replace hq81 : (0 ≤ lz2_78.toInt ∧ lz2_78.toInt ≤ 400) ∧ (-1 ≤ ft2_77.toInt) ∧ (0 ≤ nx2_76.toInt ∧ nx2_76.toInt ≤ 400) ∧ (0 ≤ bg2_75.toInt ∧ bg2_75.toInt ≤ 400) ∧ (zKd kd2_74.toInt bg2_75.toInt nx2_76.toInt) ∧ (zTk fb ln.toInt kd2_74.toInt bg2_75.toInt nx2_76.toInt) ∧ (q_80 = 1 ∧ zSum fb ln.toInt bg2_67.toInt (.ok bg2_75.toInt) ∧ (-1) = ft2_77 ∧ zSC fb ln.toInt bg2_67.toInt bg2_75.toInt fc2_72 fc2_79 lz2_71.toInt lz2_78.toInt ∨ q_80 = 0 ∧ zSum fb ln.toInt bg2_67.toInt (.bad ft2_77.toInt)) := hq81
              have hP : va_P g.1 vwCl (List.flatten [bLT g lt ta lo, bTape g ta ab sz ln kd2_74 bg2_75 nx2_76 ft2_77 fb, bLaw g lo lc lz2_78 ll lm lg ld fc2_79]) H := hP
              have hD : va_D A (List.flatten [bLT g lt ta lo, bTape g ta ab sz ln kd2_74 bg2_75 nx2_76 ft2_77 fb, bLaw g lo lc lz2_78 ll lm lg ld fc2_79]) := hD
              refine W.widen (k := 0) (n := 0) (Nat.le_of_ble_eq_true rfl) (Nat.le_of_ble_eq_true rfl) ?_
              refine W.eq (g2 := F0 m 163 ls [.int q_80]) rfl ?_
              obtain ⟨hq81_0, hq81_1, hq81_2, hq81_3, hq81_4, hq81_5, hq81_6⟩ := hq81
              rcases hq81_6 with ⟨rfl, hq81_k, rfl, hq81_kc⟩ | ⟨rfl, hq81_k⟩
              · skip
                have w82 := hq81_kc.1
                refine lv_if_ne (tgt := 168) hx hb dX2_readAtom_163 (by decide) (fun _ => ?_) (fun c83 => absurd c83 (by decide))
                refine lv_aload_n hx hb dX2_readAtom_168 rfl (lv_at hl 1 rfl) ?_
                refine va_get (D := g.1) (ci := 2) (v := .ref lo) (C := RX2) (T := TX2) (N := 2) hx hb hts izRX2 hown hK hP 0 rfl rfl 1 (by decide) (hts _ k210) (fun _ h9 => h9) rfl dX2_readAtom_169 ?_
                refine lv_iload_n hx hb dX2_readAtom_172 rfl (lv_at hl 0 rfl) ?_
                refine lv_if_eq (tgt := 181) hx hb dX2_readAtom_173 (by decide) (fun c84 => absurd c84 (by decide)) (fun _ => ?_)
                refine lv_bipush (v := 8) hx hb dX2_readAtom_176 (by decide) ?_
                refine lv_goto (tgt := 183) hx hb dX2_readAtom_178 (by decide) ?_
                refine lv_iconst (v := 0) hx hb dX2_readAtom_183 (by decide) ?_
                refine mcallV' (g := g) (q0 := 0) (ci := 1) (As := [.int 8, .int 0]) (rest := []) St hK hT hA hP hD hS hl.1 [2] [0, 1] rfl rfl rfl (c_l_putC l g lo lc lz2_78 ll lm lg ld fc2_79 8 0 hq81_0 (by first | assumption | omega | decide | exact Or.inl (by decide) | exact Or.inr (by decide))) (cwV 2 hts (zgL (zl4 k297 k298 k299 k85) k202) rfl rfl rfl (by decide +kernel) ⟨Nat.le_of_ble_eq_true rfl, Nat.le_of_ble_eq_true rfl⟩) rfl rfl rfl rfl (Nat.le_of_ble_eq_true rfl) dX2_readAtom_184 ⟨(Nat.le_of_ble_eq_true rfl), (Nat.le_of_ble_eq_true rfl)⟩ (fun u_ H locs hq87 hP hD hS => ?_)
                obtain ⟨lz2_85, fc2_86⟩ := u_
                replace hq87 : (0 ≤ lz2_85.toInt ∧ lz2_85.toInt ≤ 400) ∧ (lz2_85.toInt = lz2_78.toInt + 1) ∧ (fc2_86 = upd fc2_79 lz2_78.toInt.toNat (8 + 32 * 0)) := hq87
                have hP : va_P g.1 vwCl (List.flatten [bLT g lt ta lo, bTape g ta ab sz ln kd2_74 bg2_75 nx2_76 (-1) fb, bLaw g lo lc lz2_85 ll lm lg ld fc2_86]) H := hP
                have hD : va_D A (List.flatten [bLT g lt ta lo, bTape g ta ab sz ln kd2_74 bg2_75 nx2_76 (-1) fb, bLaw g lo lc lz2_85 ll lm lg ld fc2_86]) := hD
                refine W.widen (k := 0) (n := 0) (Nat.le_of_ble_eq_true rfl) (Nat.le_of_ble_eq_true rfl) ?_
                refine W.eq (g2 := F0 m 187 ls [.int lz2_78]) rfl ?_
                obtain ⟨hq87_0, hq87_1, hq87_2⟩ := hq87
                refine lv_pop hx hb dX2_readAtom_187 rfl ?_
                refine lv_iconst (v := 1) hx hb dX2_readAtom_188 (by decide) ?_
                have hP : va_P g.1 vwCl (List.flatten [bLT g lt ta lo, bTape g ta ab sz ln kd2_74 bg2_75 nx2_76 (-1) fb, bLaw g lo lc lz2_85 ll lm lg ld fc2_86]) H := hP
                have hD : va_D A (List.flatten [bLT g lt ta lo, bTape g ta ab sz ln kd2_74 bg2_75 nx2_76 (-1) fb, bLaw g lo lc lz2_85 ll lm lg ld fc2_86]) := hD
                exact mret_z hx hb hr hlocks hS (Nat.le_of_ble_eq_true rfl) (Nat.le_of_ble_eq_true rfl) dX2_readAtom_189 (kd2_74, bg2_75, nx2_76, -1, lz2_85, fc2_86, (1 : Int32)) rfl (by decide) (show (0 ≤ lz2_85.toInt ∧ lz2_85.toInt ≤ 400) ∧ (-1 ≤ ((-1) : Int32).toInt) ∧ (0 ≤ nx2_76.toInt ∧ nx2_76.toInt ≤ 400) ∧ (0 ≤ bg2_75.toInt ∧ bg2_75.toInt ≤ 400) ∧ (zKd kd2_74.toInt bg2_75.toInt nx2_76.toInt) ∧ (zTk fb ln.toInt kd2_74.toInt bg2_75.toInt nx2_76.toInt) ∧ (1 = 1 ∧ zAtom fb ln.toInt 2 bg.toInt (.ok bg2_75.toInt) ∧ (-1) = (-1) ∧ zAC (fun e9 v9 => zAv fb ln.toInt e9 2 bg.toInt bg2_75.toInt v9) bg.toInt bg2_75.toInt fc fc2_86 lz.toInt lz2_85.toInt ∨ 1 = 0 ∧ zAtom fb ln.toInt 2 bg.toInt (.bad ((-1) : Int32).toInt)) from ⟨(by first | assumption | omega | exact Or.inl (by decide) | exact Or.inr (by omega)), (by decide), (by first | assumption | omega | exact Or.inl (by decide) | exact Or.inr (by omega)), (by first | assumption | omega | exact Or.inl (by decide) | exact Or.inr (by omega)), (by first | assumption | omega | exact Or.inl (by decide) | exact Or.inr (by omega)), (by assumption), (Or.inl ⟨rfl, zAt_pl (zor_n hq2_k hq17_k) (zPl_all (zor_n hq35_k hq46_k) hq60_k (Or.inl hq64_k) (zMv_mk hq60_5 hq69_3) hq81_k), rfl, (zAC_less (k := 8) (by omega) (zor_n hq2_k hq17_k) hq35_k hq46_k hq60_kc hq64_k (Or.inl ⟨rfl, by decide⟩) (zMv_mk hq60_5 hq69_3) (by decide) hq73_2 hq73_1 hq81_kc (by decide) hq87_2 hq87_1 w70)⟩)⟩) hP hD
              · skip
                refine lv_if_ne (tgt := 168) hx hb dX2_readAtom_163 (by decide) (fun c88 => absurd (by decide) c88) (fun _ => ?_)
                refine lv_iconst (v := 0) hx hb dX2_readAtom_166 (by decide) ?_
                have hP : va_P g.1 vwCl (List.flatten [bLT g lt ta lo, bTape g ta ab sz ln kd2_74 bg2_75 nx2_76 ft2_77 fb, bLaw g lo lc lz2_78 ll lm lg ld fc2_79]) H := hP
                have hD : va_D A (List.flatten [bLT g lt ta lo, bTape g ta ab sz ln kd2_74 bg2_75 nx2_76 ft2_77 fb, bLaw g lo lc lz2_78 ll lm lg ld fc2_79]) := hD
                exact mret_z hx hb hr hlocks hS (Nat.le_of_ble_eq_true rfl) (Nat.le_of_ble_eq_true rfl) dX2_readAtom_167 (kd2_74, bg2_75, nx2_76, ft2_77, lz2_78, fc2_79, (0 : Int32)) rfl (by decide) (show (0 ≤ lz2_78.toInt ∧ lz2_78.toInt ≤ 400) ∧ (-1 ≤ ft2_77.toInt) ∧ (0 ≤ nx2_76.toInt ∧ nx2_76.toInt ≤ 400) ∧ (0 ≤ bg2_75.toInt ∧ bg2_75.toInt ≤ 400) ∧ (zKd kd2_74.toInt bg2_75.toInt nx2_76.toInt) ∧ (zTk fb ln.toInt kd2_74.toInt bg2_75.toInt nx2_76.toInt) ∧ (0 = 1 ∧ zAtom fb ln.toInt 2 bg.toInt (.ok bg2_75.toInt) ∧ (-1) = ft2_77 ∧ zAC (fun e9 v9 => zAv fb ln.toInt e9 2 bg.toInt bg2_75.toInt v9) bg.toInt bg2_75.toInt fc fc2_79 lz.toInt lz2_78.toInt ∨ 0 = 0 ∧ zAtom fb ln.toInt 2 bg.toInt (.bad ft2_77.toInt)) from ⟨(by first | assumption | omega | exact Or.inl (by decide) | exact Or.inr (by omega)), (by first | decide | omega), (by first | assumption | omega | exact Or.inl (by decide) | exact Or.inr (by omega)), (by first | assumption | omega | exact Or.inl (by decide) | exact Or.inr (by omega)), (by first | assumption | omega | exact Or.inl (by decide) | exact Or.inr (by omega)), (by assumption), (Or.inr ⟨rfl, zAt_pl (zor_n hq2_k hq17_k) (zPl_all (zor_n hq35_k hq46_k) hq60_k (Or.inl hq64_k) (zMv_mk hq60_5 hq69_3) hq81_k)⟩)⟩) hP hD
            · skip
              refine lv_istore_n (lv' := [(2, .int 0), (0, .ref lt), (1, .int 4)]) hx hb dX2_readAtom_116 rfl hl (by decide) rfl (fun ls hl => ?_)
              refine lv_iload_n hx hb dX2_readAtom_117 rfl (lv_at hl 0 rfl) ?_
              refine lv_if_ne (tgt := 141) hx hb dX2_readAtom_118 (by decide) (fun c89 => absurd (by decide) c89) (fun _ => ?_)
              refine lv_aload_n hx hb dX2_readAtom_121 rfl (lv_at hl 1 rfl) ?_
              refine va_get (D := g.1) (ci := 2) (v := .ref ta) (C := RX2) (T := TX2) (N := 2) hx hb hts izRX2 hown hK hP 0 rfl rfl 0 (by decide) (hts _ k290) (fun x9 h9 => u_same (hts _ k291) x9 h9) rfl dX2_readAtom_122 ?_
              refine lv_bipush (v := 62) hx hb dX2_readAtom_125 (by decide) ?_
              have hL62 : (62 : Int32).toInt = 62 := by decide
              refine mcallV' (g := g) (q0 := 0) (ci := 6) (As := [.int 62]) (rest := []) St hK hT hA hP hD hS hl.1 [2] [0, 1] rfl rfl rfl (c_t_isSignF l g ta ab sz ln kd2_53 bg2_54 nx2_55 (-1) fb 62 hln hq60_2 hq60_3 hq60_4 hq60_5) (cwV 1 hts (zgL (zl4 k305 k288 k289 k277) k285) rfl rfl rfl (by decide +kernel) ⟨Nat.le_of_ble_eq_true rfl, Nat.le_of_ble_eq_true rfl⟩) rfl rfl rfl rfl (Nat.le_of_ble_eq_true rfl) dX2_readAtom_127 ⟨(Nat.le_of_ble_eq_true rfl), (Nat.le_of_ble_eq_true rfl)⟩ (fun q_90 H locs hq91 hP hD hS => ?_)
              replace hq91 : (q_90 = 1 ∧ zisS fb ln.toInt bg2_54.toInt (62 : Int32).toInt ∨ q_90 = 0 ∧ ¬ zisS fb ln.toInt bg2_54.toInt (62 : Int32).toInt) := hq91
              have hP : va_P g.1 vwCl (List.flatten [bLT g lt ta lo, bLaw g lo lc lz2_57 ll lm lg ld fc2_58, bTape g ta ab sz ln kd2_53 bg2_54 nx2_55 (-1) fb]) H := hP
              have hD : va_D A (List.flatten [bLT g lt ta lo, bLaw g lo lc lz2_57 ll lm lg ld fc2_58, bTape g ta ab sz ln kd2_53 bg2_54 nx2_55 (-1) fb]) := hD
              refine W.widen (k := 0) (n := 0) (Nat.le_of_ble_eq_true rfl) (Nat.le_of_ble_eq_true rfl) ?_
              refine W.eq (g2 := F0 m 130 ls [.int q_90]) rfl ?_
              rcases hq91 with ⟨rfl, hq91_k⟩ | ⟨rfl, hq91_k⟩
              · skip
                refine lv_if_ne (tgt := 141) hx hb dX2_readAtom_130 (by decide) (fun _ => ?_) (fun c92 => absurd c92 (by decide))
                refine lv_aload_n hx hb dX2_readAtom_141 rfl (lv_at hl 1 rfl) ?_
                refine va_get (D := g.1) (ci := 2) (v := .ref ta) (C := RX2) (T := TX2) (N := 2) hx hb hts izRX2 hown hK hP 0 rfl rfl 0 (by decide) (hts _ k290) (fun x9 h9 => u_same (hts _ k291) x9 h9) rfl dX2_readAtom_142 ?_
                refine mcallV' (g := g) (q0 := 0) (ci := 6) (As := []) (rest := []) St hK hT hA hP hD hS hl.1 [2] [0, 1] rfl rfl rfl (c_t_stepF l g ta ab sz ln kd2_53 bg2_54 nx2_55 (-1) fb hln hq60_2) (cwV 0 hts (zgL (zl4 k296 k275 k276 k277) k271) rfl rfl rfl (by decide +kernel) ⟨Nat.le_of_ble_eq_true rfl, Nat.le_of_ble_eq_true rfl⟩) rfl rfl rfl rfl (Nat.le_of_ble_eq_true rfl) dX2_readAtom_145 ⟨(Nat.le_of_ble_eq_true rfl), (Nat.le_of_ble_eq_true rfl)⟩ (fun u_ H locs hq96 hP hD hS => ?_)
                obtain ⟨kd2_93, bg2_94, nx2_95⟩ := u_
                replace hq96 : (0 ≤ nx2_95.toInt ∧ nx2_95.toInt ≤ 400) ∧ (0 ≤ bg2_94.toInt ∧ bg2_94.toInt ≤ 400) ∧ (zKd kd2_93.toInt bg2_94.toInt nx2_95.toInt) ∧ (zSk fb ln.toInt nx2_55.toInt bg2_94.toInt) ∧ (zTk fb ln.toInt kd2_93.toInt bg2_94.toInt nx2_95.toInt) := hq96
                have hP : va_P g.1 vwCl (List.flatten [bLT g lt ta lo, bLaw g lo lc lz2_57 ll lm lg ld fc2_58, bTape g ta ab sz ln kd2_93 bg2_94 nx2_95 (-1) fb]) H := hP
                have hD : va_D A (List.flatten [bLT g lt ta lo, bLaw g lo lc lz2_57 ll lm lg ld fc2_58, bTape g ta ab sz ln kd2_93 bg2_94 nx2_95 (-1) fb]) := hD
                refine W.widen (k := 0) (n := 0) (Nat.le_of_ble_eq_true rfl) (Nat.le_of_ble_eq_true rfl) ?_
                refine W.eq (g2 := F0 m 148 ls []) rfl ?_
                obtain ⟨hq96_0, hq96_1, hq96_2, hq96_3, hq96_4⟩ := hq96
                have w97 := zMv_lt (f := fb) (n := ln.toInt) (by omega) (zisS_z hq91_k) (zMv_mk hq60_5 hq96_3)
                refine lv_aload_n hx hb dX2_readAtom_148 rfl (lv_at hl 1 rfl) ?_
                refine va_get (D := g.1) (ci := 2) (v := .ref lo) (C := RX2) (T := TX2) (N := 2) hx hb hts izRX2 hown hK hP 0 rfl rfl 1 (by decide) (hts _ k210) (fun _ h9 => h9) rfl dX2_readAtom_149 ?_
                refine lv_bipush (v := 7) hx hb dX2_readAtom_152 (by decide) ?_
                refine lv_iconst (v := 0) hx hb dX2_readAtom_154 (by decide) ?_
                refine mcallV' (g := g) (q0 := 0) (ci := 1) (As := [.int 7, .int 0]) (rest := []) St hK hT hA hP hD hS hl.1 [1] [0, 2] rfl rfl rfl (c_l_putC l g lo lc lz2_57 ll lm lg ld fc2_58 7 0 hq60_0 (by first | assumption | omega | decide | exact Or.inl (by decide) | exact Or.inr (by decide))) (cwV 2 hts (zgL (zl4 k297 k298 k299 k85) k202) rfl rfl rfl (by decide +kernel) ⟨Nat.le_of_ble_eq_true rfl, Nat.le_of_ble_eq_true rfl⟩) rfl rfl rfl rfl (Nat.le_of_ble_eq_true rfl) dX2_readAtom_155 ⟨(Nat.le_of_ble_eq_true rfl), (Nat.le_of_ble_eq_true rfl)⟩ (fun u_ H locs hq100 hP hD hS => ?_)
                obtain ⟨lz2_98, fc2_99⟩ := u_
                replace hq100 : (0 ≤ lz2_98.toInt ∧ lz2_98.toInt ≤ 400) ∧ (lz2_98.toInt = lz2_57.toInt + 1) ∧ (fc2_99 = upd fc2_58 lz2_57.toInt.toNat (7 + 32 * 0)) := hq100
                have hP : va_P g.1 vwCl (List.flatten [bLT g lt ta lo, bTape g ta ab sz ln kd2_93 bg2_94 nx2_95 (-1) fb, bLaw g lo lc lz2_98 ll lm lg ld fc2_99]) H := hP
                have hD : va_D A (List.flatten [bLT g lt ta lo, bTape g ta ab sz ln kd2_93 bg2_94 nx2_95 (-1) fb, bLaw g lo lc lz2_98 ll lm lg ld fc2_99]) := hD
                refine W.widen (k := 0) (n := 0) (Nat.le_of_ble_eq_true rfl) (Nat.le_of_ble_eq_true rfl) ?_
                refine W.eq (g2 := F0 m 158 ls [.int lz2_57]) rfl ?_
                obtain ⟨hq100_0, hq100_1, hq100_2⟩ := hq100
                refine lv_pop hx hb dX2_readAtom_158 rfl ?_
                refine lv_aload_n hx hb dX2_readAtom_159 rfl (lv_at hl 1 rfl) ?_
                refine mcallV' (g := g) (q0 := 0) (ci := 2) (As := []) (rest := []) St hK hT hA hP hD hS hl.1 [0, 1, 2] [] rfl rfl rfl (c_lt_readSumC l g lt ta lo ab sz ln kd2_93 bg2_94 nx2_95 fb lc lz2_98 ll lm lg ld fc2_99 hq100_0 hln hq96_0 hq96_1 hq96_2 hq96_4 (by first | assumption | omega | decide | exact Or.inl (by decide) | exact Or.inr (by decide))) (cwV 0 hts (zgL (zl4 k313 k314 k315 k309) k304) rfl rfl rfl (by decide +kernel) ⟨Nat.le_of_ble_eq_true rfl, Nat.le_of_ble_eq_true rfl⟩) rfl rfl rfl rfl (Nat.le_of_ble_eq_true rfl) dX2_readAtom_160 ⟨(Nat.le_of_ble_eq_true rfl), (Nat.le_of_ble_eq_true rfl)⟩ (fun u_ H locs hq108 hP hD hS => ?_)
                obtain ⟨kd2_101, bg2_102, nx2_103, ft2_104, lz2_105, fc2_106, q_107⟩ := u_
                replace hq108 : (0 ≤ lz2_105.toInt ∧ lz2_105.toInt ≤ 400) ∧ (-1 ≤ ft2_104.toInt) ∧ (0 ≤ nx2_103.toInt ∧ nx2_103.toInt ≤ 400) ∧ (0 ≤ bg2_102.toInt ∧ bg2_102.toInt ≤ 400) ∧ (zKd kd2_101.toInt bg2_102.toInt nx2_103.toInt) ∧ (zTk fb ln.toInt kd2_101.toInt bg2_102.toInt nx2_103.toInt) ∧ (q_107 = 1 ∧ zSum fb ln.toInt bg2_94.toInt (.ok bg2_102.toInt) ∧ (-1) = ft2_104 ∧ zSC fb ln.toInt bg2_94.toInt bg2_102.toInt fc2_99 fc2_106 lz2_98.toInt lz2_105.toInt ∨ q_107 = 0 ∧ zSum fb ln.toInt bg2_94.toInt (.bad ft2_104.toInt)) := hq108
                have hP : va_P g.1 vwCl (List.flatten [bLT g lt ta lo, bTape g ta ab sz ln kd2_101 bg2_102 nx2_103 ft2_104 fb, bLaw g lo lc lz2_105 ll lm lg ld fc2_106]) H := hP
                have hD : va_D A (List.flatten [bLT g lt ta lo, bTape g ta ab sz ln kd2_101 bg2_102 nx2_103 ft2_104 fb, bLaw g lo lc lz2_105 ll lm lg ld fc2_106]) := hD
                refine W.widen (k := 0) (n := 0) (Nat.le_of_ble_eq_true rfl) (Nat.le_of_ble_eq_true rfl) ?_
                refine W.eq (g2 := F0 m 163 ls [.int q_107]) rfl ?_
                obtain ⟨hq108_0, hq108_1, hq108_2, hq108_3, hq108_4, hq108_5, hq108_6⟩ := hq108
                rcases hq108_6 with ⟨rfl, hq108_k, rfl, hq108_kc⟩ | ⟨rfl, hq108_k⟩
                · skip
                  have w109 := hq108_kc.1
                  refine lv_if_ne (tgt := 168) hx hb dX2_readAtom_163 (by decide) (fun _ => ?_) (fun c110 => absurd c110 (by decide))
                  refine lv_aload_n hx hb dX2_readAtom_168 rfl (lv_at hl 1 rfl) ?_
                  refine va_get (D := g.1) (ci := 2) (v := .ref lo) (C := RX2) (T := TX2) (N := 2) hx hb hts izRX2 hown hK hP 0 rfl rfl 1 (by decide) (hts _ k210) (fun _ h9 => h9) rfl dX2_readAtom_169 ?_
                  refine lv_iload_n hx hb dX2_readAtom_172 rfl (lv_at hl 0 rfl) ?_
                  refine lv_if_eq (tgt := 181) hx hb dX2_readAtom_173 (by decide) (fun _ => ?_) (fun c111 => absurd (by decide) c111)
                  refine lv_bipush (v := 9) hx hb dX2_readAtom_181 (by decide) ?_
                  refine lv_iconst (v := 0) hx hb dX2_readAtom_183 (by decide) ?_
                  refine mcallV' (g := g) (q0 := 0) (ci := 1) (As := [.int 9, .int 0]) (rest := []) St hK hT hA hP hD hS hl.1 [2] [0, 1] rfl rfl rfl (c_l_putC l g lo lc lz2_105 ll lm lg ld fc2_106 9 0 hq108_0 (by first | assumption | omega | decide | exact Or.inl (by decide) | exact Or.inr (by decide))) (cwV 2 hts (zgL (zl4 k297 k298 k299 k85) k202) rfl rfl rfl (by decide +kernel) ⟨Nat.le_of_ble_eq_true rfl, Nat.le_of_ble_eq_true rfl⟩) rfl rfl rfl rfl (Nat.le_of_ble_eq_true rfl) dX2_readAtom_184 ⟨(Nat.le_of_ble_eq_true rfl), (Nat.le_of_ble_eq_true rfl)⟩ (fun u_ H locs hq114 hP hD hS => ?_)
                  obtain ⟨lz2_112, fc2_113⟩ := u_
                  replace hq114 : (0 ≤ lz2_112.toInt ∧ lz2_112.toInt ≤ 400) ∧ (lz2_112.toInt = lz2_105.toInt + 1) ∧ (fc2_113 = upd fc2_106 lz2_105.toInt.toNat (9 + 32 * 0)) := hq114
                  have hP : va_P g.1 vwCl (List.flatten [bLT g lt ta lo, bTape g ta ab sz ln kd2_101 bg2_102 nx2_103 (-1) fb, bLaw g lo lc lz2_112 ll lm lg ld fc2_113]) H := hP
                  have hD : va_D A (List.flatten [bLT g lt ta lo, bTape g ta ab sz ln kd2_101 bg2_102 nx2_103 (-1) fb, bLaw g lo lc lz2_112 ll lm lg ld fc2_113]) := hD
                  refine W.widen (k := 0) (n := 0) (Nat.le_of_ble_eq_true rfl) (Nat.le_of_ble_eq_true rfl) ?_
                  refine W.eq (g2 := F0 m 187 ls [.int lz2_105]) rfl ?_
                  obtain ⟨hq114_0, hq114_1, hq114_2⟩ := hq114
                  refine lv_pop hx hb dX2_readAtom_187 rfl ?_
                  refine lv_iconst (v := 1) hx hb dX2_readAtom_188 (by decide) ?_
                  have hP : va_P g.1 vwCl (List.flatten [bLT g lt ta lo, bTape g ta ab sz ln kd2_101 bg2_102 nx2_103 (-1) fb, bLaw g lo lc lz2_112 ll lm lg ld fc2_113]) H := hP
                  have hD : va_D A (List.flatten [bLT g lt ta lo, bTape g ta ab sz ln kd2_101 bg2_102 nx2_103 (-1) fb, bLaw g lo lc lz2_112 ll lm lg ld fc2_113]) := hD
                  exact mret_z hx hb hr hlocks hS (Nat.le_of_ble_eq_true rfl) (Nat.le_of_ble_eq_true rfl) dX2_readAtom_189 (kd2_101, bg2_102, nx2_103, -1, lz2_112, fc2_113, (1 : Int32)) rfl (by decide) (show (0 ≤ lz2_112.toInt ∧ lz2_112.toInt ≤ 400) ∧ (-1 ≤ ((-1) : Int32).toInt) ∧ (0 ≤ nx2_103.toInt ∧ nx2_103.toInt ≤ 400) ∧ (0 ≤ bg2_102.toInt ∧ bg2_102.toInt ≤ 400) ∧ (zKd kd2_101.toInt bg2_102.toInt nx2_103.toInt) ∧ (zTk fb ln.toInt kd2_101.toInt bg2_102.toInt nx2_103.toInt) ∧ (1 = 1 ∧ zAtom fb ln.toInt 2 bg.toInt (.ok bg2_102.toInt) ∧ (-1) = (-1) ∧ zAC (fun e9 v9 => zAv fb ln.toInt e9 2 bg.toInt bg2_102.toInt v9) bg.toInt bg2_102.toInt fc fc2_113 lz.toInt lz2_112.toInt ∨ 1 = 0 ∧ zAtom fb ln.toInt 2 bg.toInt (.bad ((-1) : Int32).toInt)) from ⟨(by first | assumption | omega | exact Or.inl (by decide) | exact Or.inr (by omega)), (by decide), (by first | assumption | omega | exact Or.inl (by decide) | exact Or.inr (by omega)), (by first | assumption | omega | exact Or.inl (by decide) | exact Or.inr (by omega)), (by first | assumption | omega | exact Or.inl (by decide) | exact Or.inr (by omega)), (by assumption), (Or.inl ⟨rfl, zAt_pl (zor_n hq2_k hq17_k) (zPl_all (zor_n hq35_k hq46_k) hq60_k (Or.inr hq91_k) (zMv_mk hq60_5 hq96_3) hq108_k), rfl, (zAC_less (k := 9) (by omega) (zor_n hq2_k hq17_k) hq35_k hq46_k hq60_kc hq91_k (Or.inr ⟨rfl, by decide⟩) (zMv_mk hq60_5 hq96_3) (by decide) hq100_2 hq100_1 hq108_kc (by decide) hq114_2 hq114_1 w97)⟩)⟩) hP hD
                · skip
                  refine lv_if_ne (tgt := 168) hx hb dX2_readAtom_163 (by decide) (fun c115 => absurd (by decide) c115) (fun _ => ?_)
                  refine lv_iconst (v := 0) hx hb dX2_readAtom_166 (by decide) ?_
                  have hP : va_P g.1 vwCl (List.flatten [bLT g lt ta lo, bTape g ta ab sz ln kd2_101 bg2_102 nx2_103 ft2_104 fb, bLaw g lo lc lz2_105 ll lm lg ld fc2_106]) H := hP
                  have hD : va_D A (List.flatten [bLT g lt ta lo, bTape g ta ab sz ln kd2_101 bg2_102 nx2_103 ft2_104 fb, bLaw g lo lc lz2_105 ll lm lg ld fc2_106]) := hD
                  exact mret_z hx hb hr hlocks hS (Nat.le_of_ble_eq_true rfl) (Nat.le_of_ble_eq_true rfl) dX2_readAtom_167 (kd2_101, bg2_102, nx2_103, ft2_104, lz2_105, fc2_106, (0 : Int32)) rfl (by decide) (show (0 ≤ lz2_105.toInt ∧ lz2_105.toInt ≤ 400) ∧ (-1 ≤ ft2_104.toInt) ∧ (0 ≤ nx2_103.toInt ∧ nx2_103.toInt ≤ 400) ∧ (0 ≤ bg2_102.toInt ∧ bg2_102.toInt ≤ 400) ∧ (zKd kd2_101.toInt bg2_102.toInt nx2_103.toInt) ∧ (zTk fb ln.toInt kd2_101.toInt bg2_102.toInt nx2_103.toInt) ∧ (0 = 1 ∧ zAtom fb ln.toInt 2 bg.toInt (.ok bg2_102.toInt) ∧ (-1) = ft2_104 ∧ zAC (fun e9 v9 => zAv fb ln.toInt e9 2 bg.toInt bg2_102.toInt v9) bg.toInt bg2_102.toInt fc fc2_106 lz.toInt lz2_105.toInt ∨ 0 = 0 ∧ zAtom fb ln.toInt 2 bg.toInt (.bad ft2_104.toInt)) from ⟨(by first | assumption | omega | exact Or.inl (by decide) | exact Or.inr (by omega)), (by first | decide | omega), (by first | assumption | omega | exact Or.inl (by decide) | exact Or.inr (by omega)), (by first | assumption | omega | exact Or.inl (by decide) | exact Or.inr (by omega)), (by first | assumption | omega | exact Or.inl (by decide) | exact Or.inr (by omega)), (by assumption), (Or.inr ⟨rfl, zAt_pl (zor_n hq2_k hq17_k) (zPl_all (zor_n hq35_k hq46_k) hq60_k (Or.inr hq91_k) (zMv_mk hq60_5 hq96_3) hq108_k)⟩)⟩) hP hD
              · skip
                refine lv_if_ne (tgt := 141) hx hb dX2_readAtom_130 (by decide) (fun c116 => absurd (by decide) c116) (fun _ => ?_)
                refine lv_aload_n hx hb dX2_readAtom_133 rfl (lv_at hl 1 rfl) ?_
                refine va_get (D := g.1) (ci := 2) (v := .ref ta) (C := RX2) (T := TX2) (N := 2) hx hb hts izRX2 hown hK hP 0 rfl rfl 0 (by decide) (hts _ k290) (fun x9 h9 => u_same (hts _ k291) x9 h9) rfl dX2_readAtom_134 ?_
                refine mcallV' (g := g) (q0 := 0) (ci := 6) (As := []) (rest := []) St hK hT hA hP hD hS hl.1 [2] [0, 1] rfl rfl rfl (c_t_refuseF l g ta ab sz ln kd2_53 bg2_54 nx2_55 fb ) (cwV 0 hts (zgL (zl4 k303 k279 k280 k277) k269) rfl rfl rfl (by decide +kernel) ⟨Nat.le_of_ble_eq_true rfl, Nat.le_of_ble_eq_true rfl⟩) rfl rfl rfl rfl (Nat.le_of_ble_eq_true rfl) dX2_readAtom_137 ⟨(Nat.le_of_ble_eq_true rfl), (Nat.le_of_ble_eq_true rfl)⟩ (fun _u H locs hq117 hP hD hS => ?_)
                have hP : va_P g.1 vwCl (List.flatten [bLT g lt ta lo, bLaw g lo lc lz2_57 ll lm lg ld fc2_58, bTape g ta ab sz ln kd2_53 bg2_54 nx2_55 bg2_54 fb]) H := hP
                have hD : va_D A (List.flatten [bLT g lt ta lo, bLaw g lo lc lz2_57 ll lm lg ld fc2_58, bTape g ta ab sz ln kd2_53 bg2_54 nx2_55 bg2_54 fb]) := hD
                refine W.widen (k := 0) (n := 0) (Nat.le_of_ble_eq_true rfl) (Nat.le_of_ble_eq_true rfl) ?_
                refine W.eq (g2 := F0 m 140 ls [.int 0]) rfl ?_
                have hP : va_P g.1 vwCl (List.flatten [bLT g lt ta lo, bLaw g lo lc lz2_57 ll lm lg ld fc2_58, bTape g ta ab sz ln kd2_53 bg2_54 nx2_55 bg2_54 fb]) H := hP
                have hD : va_D A (List.flatten [bLT g lt ta lo, bLaw g lo lc lz2_57 ll lm lg ld fc2_58, bTape g ta ab sz ln kd2_53 bg2_54 nx2_55 bg2_54 fb]) := hD
                obtain ⟨hP, hD⟩ := zord (g := g) (Bs' := [bLT g lt ta lo, bTape g ta ab sz ln kd2_53 bg2_54 nx2_55 bg2_54 fb, bLaw g lo lc lz2_57 ll lm lg ld fc2_58]) [0, 2, 1] rfl rfl hP hD
                exact mret_z hx hb hr hlocks hS (Nat.le_of_ble_eq_true rfl) (Nat.le_of_ble_eq_true rfl) dX2_readAtom_140 (kd2_53, bg2_54, nx2_55, bg2_54, lz2_57, fc2_58, (0 : Int32)) rfl (by decide) (show (0 ≤ lz2_57.toInt ∧ lz2_57.toInt ≤ 400) ∧ (-1 ≤ bg2_54.toInt) ∧ (0 ≤ nx2_55.toInt ∧ nx2_55.toInt ≤ 400) ∧ (0 ≤ bg2_54.toInt ∧ bg2_54.toInt ≤ 400) ∧ (zKd kd2_53.toInt bg2_54.toInt nx2_55.toInt) ∧ (zTk fb ln.toInt kd2_53.toInt bg2_54.toInt nx2_55.toInt) ∧ (0 = 1 ∧ zAtom fb ln.toInt 2 bg.toInt (.ok bg2_54.toInt) ∧ (-1) = bg2_54 ∧ zAC (fun e9 v9 => zAv fb ln.toInt e9 2 bg.toInt bg2_54.toInt v9) bg.toInt bg2_54.toInt fc fc2_58 lz.toInt lz2_57.toInt ∨ 0 = 0 ∧ zAtom fb ln.toInt 2 bg.toInt (.bad bg2_54.toInt)) from ⟨(by first | assumption | omega | exact Or.inl (by decide) | exact Or.inr (by omega)), (by first | decide | omega), (by first | assumption | omega | exact Or.inl (by decide) | exact Or.inr (by omega)), (by first | assumption | omega | exact Or.inl (by decide) | exact Or.inr (by omega)), (by first | assumption | omega | exact Or.inl (by decide) | exact Or.inr (by omega)), (by assumption), (Or.inr ⟨rfl, zAt_pl (zor_n hq2_k hq17_k) (.bad2 (zor_n hq35_k hq46_k) hq60_k (zor_n hq64_k hq91_k))⟩)⟩) hP hD
          · skip
            refine lv_if_ne (tgt := 107) hx hb dX2_readAtom_102 (by decide) (fun c118 => absurd (by decide) c118) (fun _ => ?_)
            refine lv_iconst (v := 0) hx hb dX2_readAtom_105 (by decide) ?_
            have hP : va_P g.1 vwCl (List.flatten [bLT g lt ta lo, bTape g ta ab sz ln kd2_53 bg2_54 nx2_55 ft2_56 fb, bLaw g lo lc lz2_57 ll lm lg ld fc2_58]) H := hP
            have hD : va_D A (List.flatten [bLT g lt ta lo, bTape g ta ab sz ln kd2_53 bg2_54 nx2_55 ft2_56 fb, bLaw g lo lc lz2_57 ll lm lg ld fc2_58]) := hD
            exact mret_z hx hb hr hlocks hS (Nat.le_of_ble_eq_true rfl) (Nat.le_of_ble_eq_true rfl) dX2_readAtom_106 (kd2_53, bg2_54, nx2_55, ft2_56, lz2_57, fc2_58, (0 : Int32)) rfl (by decide) (show (0 ≤ lz2_57.toInt ∧ lz2_57.toInt ≤ 400) ∧ (-1 ≤ ft2_56.toInt) ∧ (0 ≤ nx2_55.toInt ∧ nx2_55.toInt ≤ 400) ∧ (0 ≤ bg2_54.toInt ∧ bg2_54.toInt ≤ 400) ∧ (zKd kd2_53.toInt bg2_54.toInt nx2_55.toInt) ∧ (zTk fb ln.toInt kd2_53.toInt bg2_54.toInt nx2_55.toInt) ∧ (0 = 1 ∧ zAtom fb ln.toInt 2 bg.toInt (.ok bg2_54.toInt) ∧ (-1) = ft2_56 ∧ zAC (fun e9 v9 => zAv fb ln.toInt e9 2 bg.toInt bg2_54.toInt v9) bg.toInt bg2_54.toInt fc fc2_58 lz.toInt lz2_57.toInt ∨ 0 = 0 ∧ zAtom fb ln.toInt 2 bg.toInt (.bad ft2_56.toInt)) from ⟨(by first | assumption | omega | exact Or.inl (by decide) | exact Or.inr (by omega)), (by first | decide | omega), (by first | assumption | omega | exact Or.inl (by decide) | exact Or.inr (by omega)), (by first | assumption | omega | exact Or.inl (by decide) | exact Or.inr (by omega)), (by first | assumption | omega | exact Or.inl (by decide) | exact Or.inr (by omega)), (by assumption), (Or.inr ⟨rfl, zAt_pl (zor_n hq2_k hq17_k) (.bad1 (zor_n hq35_k hq46_k) hq60_k)⟩)⟩) hP hD
