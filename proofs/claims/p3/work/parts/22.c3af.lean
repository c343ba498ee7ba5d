set_option maxRecDepth 100000 in
set_option maxHeartbeats 4000000 in
theorem c_turnsOf (l : Launch) (g : zG) (o : Nat) (a : Nat → Nat) (pe : Int32) (wo : Int32) (tx : Int32) (ch : Int32) (jo : Int32) (tr : Int32) (dy : Int32) (sd : Int32) (f : Nat → Nat → Int32) (lo : Nat) (lc : Nat) (lz : Int32) (ll : Int32) (lm : Int32) (lg : Int32) (ld : Int32) (fc : Nat → Int32) (x1 : Int32) (b_pe : 0 ≤ pe.toInt ∧ pe.toInt ≤ 8) (b_wo : 0 ≤ wo.toInt ∧ wo.toInt ≤ 6) (rf : zZ4 f) (b_lz : 0 ≤ lz.toInt ∧ lz.toInt ≤ 400) (b_x1 : 0 ≤ x1.toInt ∧ x1.toInt ≤ 7) : zM' g l yX9_turnsOf (Cond.code yX9_turnsOf cX9_turnsOf 3 (some .int) :: zB) ({ frames := 4, cells := 0, slots := 0, locals := 85 } : Room) [.ref o, .int x1, .ref lo] [bTown g o a pe wo tx ch jo tr dy sd f, bLaw g lo lc lz ll lm lg ld fc] (fun u : Int32 × Int32 × Int32 × Int32 => (fun (lm2 : Int32) (lg2 : Int32) (ld2 : Int32) (q : Int32) => some (.int q)) (u.1) (u.2.1) (u.2.2.1) (u.2.2.2)) (fun u : Int32 × Int32 × Int32 × Int32 => (fun (lm2 : Int32) (lg2 : Int32) (ld2 : Int32) (q : Int32) => True) (u.1) (u.2.1) (u.2.2.1) (u.2.2.2)) (fun u : Int32 × Int32 × Int32 × Int32 => (fun (lm2 : Int32) (lg2 : Int32) (ld2 : Int32) (q : Int32) => [bTown g o a pe wo tx ch jo tr dy sd f, bLaw g lo lc lz ll lm2 lg2 ld2 fc]) (u.1) (u.2.1) (u.2.2.1) (u.2.2.2)) := by
  refine zM'.of (cc := cX9_turnsOf) (maxL := 3) (rt := (some .int)) (by decide) rfl (Nat.le_of_ble_eq_true rfl) ?_
  intro p e s m args below meth c A ls St hr hlocks hin hK hT hA hP hD hS hl
  obtain ⟨hx, hb, hml, hown, hts⟩ := id St
  have hl : lv_has ls 3 [(0, .ref o), (1, .int x1), (2, .ref lo)] := hl
  refine lv_aload_n hx hb dX9_turnsOf_0 rfl (lv_at hl 0 rfl) ?_
  refine lv_aload_n hx hb dX9_turnsOf_1 rfl (lv_at hl 2 rfl) ?_
  refine mcallV' (g := g) (q0 := 0) (ci := 7) (As := [.ref lo]) (rest := []) St hK hT hA hP hD hS hl.1 [0, 1] [] rfl rfl rfl (c_showTo l g o a pe wo tx ch jo tr dy sd f lo lc lz ll lm lg ld fc b_pe b_wo rf) (cwV 1 hts (zgL (zl4 k142 k143 k144 k24) k86) rfl rfl rfl (by decide +kernel) ⟨Nat.le_of_ble_eq_true rfl, Nat.le_of_ble_eq_true rfl⟩) rfl rfl rfl rfl (Nat.le_of_ble_eq_true rfl) dX9_turnsOf_2 ⟨(Nat.le_of_ble_eq_true rfl), (Nat.le_of_ble_eq_true rfl)⟩ (fun u_ H locs hq4 hP hD hS => ?_)
  obtain ⟨lm2_1, lg2_2, ld2_3⟩ := u_
  have hP : va_P g.1 vwCl (List.flatten [bTown g o a pe wo tx ch jo tr dy sd f, bLaw g lo lc lz ll lm2_1 lg2_2 ld2_3 fc]) H := hP
  have hD : va_D A (List.flatten [bTown g o a pe wo tx ch jo tr dy sd f, bLaw g lo lc lz ll lm2_1 lg2_2 ld2_3 fc]) := hD
  refine W.widen (k := 0) (n := 0) (Nat.le_of_ble_eq_true rfl) (Nat.le_of_ble_eq_true rfl) ?_
  refine W.eq (g2 := F0 m 5 ls []) rfl ?_
  refine lv_aload_n hx hb dX9_turnsOf_5 rfl (lv_at hl 2 rfl) ?_
  refine lv_aload_n hx hb dX9_turnsOf_6 rfl (lv_at hl 0 rfl) ?_
  refine lv_iload_n hx hb dX9_turnsOf_7 rfl (lv_at hl 1 rfl) ?_
  refine mcallV' (g := g) (q0 := 0) (ci := 1) (As := [.ref o, .int x1]) (rest := []) St hK hT hA hP hD hS hl.1 [1, 0] [] rfl rfl rfl (c_l_turnsOf l g lo lc lz ll lm2_1 lg2_2 ld2_3 fc o a pe wo tx ch jo tr dy sd f x1 b_lz b_pe b_wo rf b_x1) (cwV 2 hts (zgL (zl4 k111 k112 k113 k85) k107) rfl rfl rfl (by decide +kernel) ⟨Nat.le_of_ble_eq_true rfl, Nat.le_of_ble_eq_true rfl⟩) rfl rfl rfl rfl (Nat.le_of_ble_eq_true rfl) dX9_turnsOf_8 ⟨(Nat.le_of_ble_eq_true rfl), (Nat.le_of_ble_eq_true rfl)⟩ (fun q_5 H locs hq6 hP hD hS => ?_)
  have hP : va_P g.1 vwCl (List.flatten [bLaw g lo lc lz ll lm2_1 lg2_2 ld2_3 fc, bTown g o a pe wo tx ch jo tr dy sd f]) H := hP
  have hD : va_D A (List.flatten [bLaw g lo lc lz ll lm2_1 lg2_2 ld2_3 fc, bTown g o a pe wo tx ch jo tr dy sd f]) := hD
  refine W.widen (k := 0) (n := 0) (Nat.le_of_ble_eq_true rfl) (Nat.le_of_ble_eq_true rfl) ?_
  refine W.eq (g2 := F0 m 11 ls [.int q_5]) rfl ?_
  have hP : va_P g.1 vwCl (List.flatten [bLaw g lo lc lz ll lm2_1 lg2_2 ld2_3 fc, bTown g o a pe wo tx ch jo tr dy sd f]) H := hP
  have hD : va_D A (List.flatten [bLaw g lo lc lz ll lm2_1 lg2_2 ld2_3 fc, bTown g o a pe wo tx ch jo tr dy sd f]) := hD
  obtain ⟨hP, hD⟩ := zord (g := g) (Bs' := [bTown g o a pe wo tx ch jo tr dy sd f, bLaw g lo lc lz ll lm2_1 lg2_2 ld2_3 fc]) [1, 0] rfl rfl hP hD
  exact mret_i hx hb hr hlocks hS (Nat.le_of_ble_eq_true rfl) (Nat.le_of_ble_eq_true rfl) dX9_turnsOf_11 (lm2_1, lg2_2, ld2_3, q_5) rfl trivial hP hD
set_option maxRecDepth 100000 in
set_option maxHeartbeats 4000000 in
theorem c_turnBeliefs (l : Launch) (g : zG) (o : Nat) (a : Nat → Nat) (pe : Int32) (wo : Int32) (tx : Int32) (ch : Int32) (jo : Int32) (tr : Int32) (dy : Int32) (sd : Int32) (f : Nat → Nat → Int32) (lo : Nat) (lc : Nat) (lz : Int32) (ll : Int32) (lm : Int32) (lg : Int32) (ld : Int32) (fc : Nat → Int32) (b_pe : 0 ≤ pe.toInt ∧ pe.toInt ≤ 8) (b_wo : 0 ≤ wo.toInt ∧ wo.toInt ≤ 6) (rf : zZ4 f) (b_lz : 0 ≤ lz.toInt ∧ lz.toInt ≤ 400) : zM' g l yX9_turnBeliefs (Cond.code yX9_turnBeliefs cX9_turnBeliefs 3 none :: zB) ({ frames := 3, cells := 0, slots := 0, locals := 75 } : Room) [.ref o, .ref lo] [bTown g o a pe wo tx ch jo tr dy sd f, bLaw g lo lc lz ll lm lg ld fc] (fun (f2 : Nat → Nat → Int32) => none) (fun (f2 : Nat → Nat → Int32) => (zZ4 f2)) (fun (f2 : Nat → Nat → Int32) => [bTown g o a pe wo tx ch jo tr dy sd f2, bLaw g lo lc lz ll lm lg ld fc]) := by
  refine zM'.of (cc := cX9_turnBeliefs) (maxL := 3) (rt := none) (by decide) rfl (Nat.le_of_ble_eq_true rfl) ?_
  intro p e s m args below meth c A ls St hr hlocks hin hK hT hA hP hD hS hl
  obtain ⟨hx, hb, hml, hown, hts⟩ := id St
  have hl : lv_has ls 3 [(0, .ref o), (1, .ref lo)] := hl
  refine lv_iconst (v := 0) hx hb dX9_turnBeliefs_0 (by decide) ?_
  refine lv_istore_n (lv' := [(2, .int 0), (0, .ref o), (1, .ref lo)]) hx hb dX9_turnBeliefs_1 rfl hl (by decide) rfl (fun ls hl => ?_)
  have hl := lv_sub (l' := [(0, .ref o), (1, .ref lo), (2, .int 0)]) hl [1, 2, 0] rfl
  have LP2_4 : ∀ (kf : Nat) (x_1 : Int32) (f_2 : Nat → Nat → Int32), (0 ≤ x_1.toInt ∧ x_1.toInt ≤ 8) → (zZ4 f_2) → ∀ (H : Heap) (locs : List Loc) (ls : Array Slot), ((9 - x_1.toInt).toNat) < kf → va_P g.1 vwCl (List.flatten [bTown g o a pe wo tx ch jo tr dy sd f_2, bLaw g lo lc lz ll lm lg ld fc]) H → va_D A (List.flatten [bTown g o a pe wo tx ch jo tr dy sd f_2, bLaw g lo lc lz ll lm lg ld fc]) → va_S A s.heap H locs → lv_has ls 3 [(0, .ref o), (1, .ref lo), (2, .int x_1)] → W p l e ({ frames := 3, cells := 0, slots := 0, locals := 75 } : Room) s m args below meth c H locs (0) (0) (zF g (fun (f2 : Nat → Nat → Int32) => none) (fun (f2 : Nat → Nat → Int32) => (zZ4 f2)) (fun (f2 : Nat → Nat → Int32) => [bTown g o a pe wo tx ch jo tr dy sd f2, bLaw g lo lc lz ll lm lg ld fc]) ({ frames := 3, cells := 0, slots := 0, locals := 75 } : Room) below args s A) (F0 m 2 ls []) := by
    intro kf
    induction kf with
    | zero => intro x_1 f_2 i3 rf_2 H locs ls hk; exact absurd hk (Nat.not_lt_zero _)
    | succ kf ih2_5 =>
      intro x_1 f_2 i3 rf_2 H locs ls hk2_5 hP hD hS hl
      refine lv_iload_n hx hb dX9_turnBeliefs_2 rfl (lv_at hl 2 rfl) ?_
      refine lv_aload_n hx hb dX9_turnBeliefs_3 rfl (lv_at hl 0 rfl) ?_
      refine va_get (D := g.1) (ci := 7) (v := .int pe) (C := RX9) (T := TX9) (N := 19) hx hb hts izRX9 hown hK hP 0 rfl rfl 0 (by decide) (hts _ k31) (fun _ h9 => h9) rfl dX9_turnBeliefs_4 ?_
      refine lv_icmp_ge (tgt := 68) hx hb dX9_turnBeliefs_7 (by decide) (fun cb9 => ?_) (fun cb9 => ?_)
      · skip
        have c6 : pe.toInt ≤ x_1.toInt := zle cb9 rfl rfl
        refine lv_aload_n hx hb dX9_turnBeliefs_68 rfl (lv_at hl 0 rfl) ?_
        refine va_get (D := g.1) (ci := 7) (v := .ref (a 10)) (C := RX9) (T := TX9) (N := 19) hx hb hts izRX9 hown hK hP 0 rfl rfl 18 (by decide) (hts _ k20) (fun _ h9 => h9) rfl dX9_turnBeliefs_69 ?_
        refine lv_iconst (v := 0) hx hb dX9_turnBeliefs_72 (by decide) ?_
        refine lv_aload_n hx hb dX9_turnBeliefs_73 rfl (lv_at hl 0 rfl) ?_
        refine va_get (D := g.1) (ci := 7) (v := .ref (a 0)) (C := RX9) (T := TX9) (N := 19) hx hb hts izRX9 hown hK hP 0 rfl rfl 8 (by decide) (hts _ k9) (fun _ h9 => h9) rfl dX9_turnBeliefs_74 ?_
        refine lv_iconst (v := 0) hx hb dX9_turnBeliefs_77 (by decide) ?_
        refine lv_aload_n hx hb dX9_turnBeliefs_78 rfl (lv_at hl 0 rfl) ?_
        refine va_get (D := g.1) (ci := 7) (v := .int pe) (C := RX9) (T := TX9) (N := 19) hx hb hts izRX9 hown hK hP 0 rfl rfl 0 (by decide) (hts _ k31) (fun _ h9 => h9) rfl dX9_turnBeliefs_79 ?_
        refine va_copyi (D := g.1) (ty := .int) hx hb (by rw [hml]; exact hl.1.symm) hown (hts _ k35) (hts _ k36) (hts _ k37) (hts _ k38) hK hP hD hS 11 1 0 0 rfl rfl rfl rfl rfl (by decide) (by decide) (znn (by omega)) (by show 0 + pe.toNatClampNeg ≤ 8; rw [zcl]; omega) (by show 0 + pe.toNatClampNeg ≤ 8; rw [zcl]; omega) (fun _ _ => rfl) (Nat.le_of_ble_eq_true rfl) (by decide) dX9_turnBeliefs_82 (fun H locs hP hD hS => ?_)
        obtain ⟨f7, rf7, hP, hD⟩ : ∃ f7 : Nat → Nat → Int32, zZ4 f7 ∧ va_P g.1 vwCl (List.flatten [bTown g o a pe wo tx ch jo tr dy sd f7, bLaw g lo lc lz ll lm lg ld fc]) H ∧ va_D A (List.flatten [bTown g o a pe wo tx ch jo tr dy sd f7, bLaw g lo lc lz ll lm lg ld fc]) := ⟨zu f_2 0 (va_cpy (f_2 10) (f_2 0) 0 0 pe.toNatClampNeg), (zZ4_u rf_2 (by decide)), hP, hD⟩
        have hP : va_P g.1 vwCl (List.flatten [bTown g o a pe wo tx ch jo tr dy sd f7, bLaw g lo lc lz ll lm lg ld fc]) H := hP
        have hD : va_D A (List.flatten [bTown g o a pe wo tx ch jo tr dy sd f7, bLaw g lo lc lz ll lm lg ld fc]) := hD
        exact mret_v hx hb hr hlocks hS (Nat.le_of_ble_eq_true rfl) (Nat.le_of_ble_eq_true rfl) dX9_turnBeliefs_85 (f7) rfl (show (zZ4 f7) from rf7) hP hD
      · skip
        have c8 : x_1.toInt < pe.toInt := zlti (Int32.not_le.mp cb9) rfl rfl
        have n9 : x_1.toInt ≤ 7 := zL1 (b := 8) c8 b_pe.2 (by decide)
        have n10 : 1 ≤ pe.toInt := zL2 (a := 0) c8 i3.1 (by decide)
        refine lv_aload_n hx hb dX9_turnBeliefs_10 rfl (lv_at hl 0 rfl) ?_
        refine lv_iload_n hx hb dX9_turnBeliefs_11 rfl (lv_at hl 2 rfl) ?_
        refine mcallV' (g := g) (q0 := 0) (ci := 7) (As := [.int x_1]) (rest := []) St hK hT hA hP hD hS hl.1 [0] [1] rfl rfl rfl (c_isHere l g o a pe wo tx ch jo tr dy sd f_2 x_1 (⟨i3.1, n9⟩)) (cwV 1 hts (zgL (zl4 k53 k54 k55 k24) k51) rfl rfl rfl (by decide +kernel) ⟨Nat.le_of_ble_eq_true rfl, Nat.le_of_ble_eq_true rfl⟩) rfl rfl rfl rfl (Nat.le_of_ble_eq_true rfl) dX9_turnBeliefs_12 ⟨(Nat.le_of_ble_eq_true rfl), (Nat.le_of_ble_eq_true rfl)⟩ (fun q_11 H locs hq12 hP hD hS => ?_)
        replace hq12 : (q_11 = 0 ∨ q_11 = 1) := hq12
        have hP : va_P g.1 vwCl (List.flatten [bLaw g lo lc lz ll lm lg ld fc, bTown g o a pe wo tx ch jo tr dy sd f_2]) H := hP
        have hD : va_D A (List.flatten [bLaw g lo lc lz ll lm lg ld fc, bTown g o a pe wo tx ch jo tr dy sd f_2]) := hD
        refine W.widen (k := 0) (n := 0) (Nat.le_of_ble_eq_true rfl) (Nat.le_of_ble_eq_true rfl) ?_
        refine W.eq (g2 := F0 m 15 ls [.int q_11]) rfl ?_
        rcases hq12 with rfl | rfl
        · skip
          refine lv_if_eq (tgt := 50) hx hb dX9_turnBeliefs_15 (by decide) (fun _ => ?_) (fun c13 => absurd (by decide) c13)
          refine lv_aload_n hx hb dX9_turnBeliefs_50 rfl (lv_at hl 0 rfl) ?_
          refine va_get (D := g.1) (ci := 7) (v := .ref (a 10)) (C := RX9) (T := TX9) (N := 19) hx hb hts izRX9 hown hK hP 2 rfl rfl 18 (by decide) (hts _ k20) (fun _ h9 => h9) rfl dX9_turnBeliefs_51 ?_
          refine lv_iload_n hx hb dX9_turnBeliefs_54 rfl (lv_at hl 2 rfl) ?_
          refine lv_aload_n hx hb dX9_turnBeliefs_55 rfl (lv_at hl 0 rfl) ?_
          refine va_get (D := g.1) (ci := 7) (v := .ref (a 0)) (C := RX9) (T := TX9) (N := 19) hx hb hts izRX9 hown hK hP 2 rfl rfl 8 (by decide) (hts _ k9) (fun _ h9 => h9) rfl dX9_turnBeliefs_56 ?_
          refine lv_iload_n hx hb dX9_turnBeliefs_59 rfl (lv_at hl 2 rfl) ?_
          refine va_iald hx hb hK hP 3 0 rfl rfl (zinK (a := 0) (b := 7) i3.1 n9 (by decide)) dX9_turnBeliefs_60 ?_
          refine zg (fun x_14 => ?_)
          refine va_iast hx hb hK hP hD hS 13 0 rfl rfl (zinK (a := 0) (b := 7) i3.1 n9 (by decide)) dX9_turnBeliefs_61 (fun H locs hP hD hS => ?_)
          obtain ⟨f15, rf15, hP, hD⟩ : ∃ f15 : Nat → Nat → Int32, zZ4 f15 ∧ va_P g.1 vwCl (List.flatten [bLaw g lo lc lz ll lm lg ld fc, bTown g o a pe wo tx ch jo tr dy sd f15]) H ∧ va_D A (List.flatten [bLaw g lo lc lz ll lm lg ld fc, bTown g o a pe wo tx ch jo tr dy sd f15]) := ⟨zu f_2 10 (upd (f_2 10) x_1.toNatClampNeg x_14), (zZ4_u rf_2 (by decide)), hP, hD⟩
          refine ziinc3 (n' := 1) (a' := 1) (b' := 8) (lv' := fun v9 => [(2, .int v9), (0, .ref o), (1, .ref lo)]) hx hb dX9_turnBeliefs_62 hl (k := 2) rfl (by decide) (fun _ => rfl) (zaddK (i := x_1.toInt) (j := 1) rfl (by decide) i3.1 n9 (Int.le_refl _) (Int.le_refl _) (by decide)) (fun x_16 ls hx_16 hl => ?_)
          refine lv_goto (tgt := 2) hx hb dX9_turnBeliefs_65 (by decide) ?_
          have hl := lv_sub (l' := [(0, .ref o), (1, .ref lo), (2, .int x_16)]) hl [1, 2, 0] rfl
          have hP : va_P g.1 vwCl (List.flatten [bLaw g lo lc lz ll lm lg ld fc, bTown g o a pe wo tx ch jo tr dy sd f15]) H := hP
          have hD : va_D A (List.flatten [bLaw g lo lc lz ll lm lg ld fc, bTown g o a pe wo tx ch jo tr dy sd f15]) := hD
          obtain ⟨hP, hD⟩ := zord (g := g) (Bs' := [bTown g o a pe wo tx ch jo tr dy sd f15, bLaw g lo lc lz ll lm lg ld fc]) [1, 0] rfl rfl hP hD
          have hP : va_P g.1 vwCl (List.flatten [bTown g o a pe wo tx ch jo tr dy sd f15, bLaw g lo lc lz ll lm lg ld fc]) H := hP
          have hD : va_D A (List.flatten [bTown g o a pe wo tx ch jo tr dy sd f15, bLaw g lo lc lz ll lm lg ld fc]) := hD
          exact ih2_5 x_16 f15 ⟨(Int.le_trans (by decide) hx_16.2.1), hx_16.2.2⟩ rf15 H _ ls (zmK hx_16.1 (by decide) n9 (by decide) hk2_5)  hP hD hS (lv_sub hl [0, 1, 2] rfl)
        · skip
          refine lv_if_eq (tgt := 50) hx hb dX9_turnBeliefs_15 (by decide) (fun c17 => absurd c17 (by decide)) (fun _ => ?_)
          refine lv_aload_n hx hb dX9_turnBeliefs_18 rfl (lv_at hl 0 rfl) ?_
          refine va_get (D := g.1) (ci := 7) (v := .ref (a 10)) (C := RX9) (T := TX9) (N := 19) hx hb hts izRX9 hown hK hP 2 rfl rfl 18 (by decide) (hts _ k20) (fun _ h9 => h9) rfl dX9_turnBeliefs_19 ?_
          refine lv_iload_n hx hb dX9_turnBeliefs_22 rfl (lv_at hl 2 rfl) ?_
          refine lv_aload_n hx hb dX9_turnBeliefs_23 rfl (lv_at hl 0 rfl) ?_
          refine lv_aload_n hx hb dX9_turnBeliefs_24 rfl (lv_at hl 0 rfl) ?_
          refine va_get (D := g.1) (ci := 7) (v := .ref (a 0)) (C := RX9) (T := TX9) (N := 19) hx hb hts izRX9 hown hK hP 2 rfl rfl 8 (by decide) (hts _ k9) (fun _ h9 => h9) rfl dX9_turnBeliefs_25 ?_
          refine lv_iload_n hx hb dX9_turnBeliefs_28 rfl (lv_at hl 2 rfl) ?_
          refine va_iald hx hb hK hP 3 0 rfl rfl (zinK (a := 0) (b := 7) i3.1 n9 (by decide)) dX9_turnBeliefs_29 ?_
          refine zg (fun x_18 => ?_)
          refine lv_aload_n hx hb dX9_turnBeliefs_30 rfl (lv_at hl 0 rfl) ?_
          refine lv_iload_n hx hb dX9_turnBeliefs_31 rfl (lv_at hl 2 rfl) ?_
          refine mcallV' (g := g) (q0 := 0) (ci := 7) (As := [.int x_1]) (rest := [.int x_18, .ref o, .int x_1, .ref (a 10)]) St hK hT hA hP hD hS hl.1 [1] [0] rfl rfl rfl (c_pullOf l g o a pe wo tx ch jo tr dy sd f_2 x_1 b_pe b_wo rf_2 (⟨i3.1, n9⟩)) (cwV 1 hts (zgL (zl4 k108 k109 k110 k24) k88) rfl rfl rfl (by decide +kernel) ⟨Nat.le_of_ble_eq_true rfl, Nat.le_of_ble_eq_true rfl⟩) rfl rfl rfl rfl (Nat.le_of_ble_eq_true rfl) dX9_turnBeliefs_32 ⟨(Nat.le_of_ble_eq_true rfl), (Nat.le_of_ble_eq_true rfl)⟩ (fun q_19 H locs hq20 hP hD hS => ?_)
          have hP : va_P g.1 vwCl (List.flatten [bLaw g lo lc lz ll lm lg ld fc, bTown g o a pe wo tx ch jo tr dy sd f_2]) H := hP
          have hD : va_D A (List.flatten [bLaw g lo lc lz ll lm lg ld fc, bTown g o a pe wo tx ch jo tr dy sd f_2]) := hD
          refine W.widen (k := 0) (n := 0) (Nat.le_of_ble_eq_true rfl) (Nat.le_of_ble_eq_true rfl) ?_
          refine W.eq (g2 := F0 m 35 ls [.int q_19, .int x_18, .ref o, .int x_1, .ref (a 10)]) rfl ?_
          refine lv_iadd hx hb dX9_turnBeliefs_35 ?_
          refine zg (fun x_21 => ?_)
          refine lv_aload_n hx hb dX9_turnBeliefs_36 rfl (lv_at hl 1 rfl) ?_
          refine lv_aload_n hx hb dX9_turnBeliefs_37 rfl (lv_at hl 0 rfl) ?_
          refine lv_iload_n hx hb dX9_turnBeliefs_38 rfl (lv_at hl 2 rfl) ?_
          refine mcallV' (g := g) (q0 := 0) (ci := 1) (As := [.ref o, .int x_1]) (rest := [.int x_21, .ref o, .int x_1, .ref (a 10)]) St hK hT hA hP hD hS hl.1 [0, 1] [] rfl rfl rfl (c_l_turnsOf l g lo lc lz ll lm lg ld fc o a pe wo tx ch jo tr dy sd f_2 x_1 b_lz b_pe b_wo rf_2 (⟨i3.1, n9⟩)) (cwV 2 hts (zgL (zl4 k111 k112 k113 k85) k107) rfl rfl rfl (by decide +kernel) ⟨Nat.le_of_ble_eq_true rfl, Nat.le_of_ble_eq_true rfl⟩) rfl rfl rfl rfl (Nat.le_of_ble_eq_true rfl) dX9_turnBeliefs_39 ⟨(Nat.le_of_ble_eq_true rfl), (Nat.le_of_ble_eq_true rfl)⟩ (fun q_22 H locs hq23 hP hD hS => ?_)
          have hP : va_P g.1 vwCl (List.flatten [bLaw g lo lc lz ll lm lg ld fc, bTown g o a pe wo tx ch jo tr dy sd f_2]) H := hP
          have hD : va_D A (List.flatten [bLaw g lo lc lz ll lm lg ld fc, bTown g o a pe wo tx ch jo tr dy sd f_2]) := hD
          refine W.widen (k := 0) (n := 0) (Nat.le_of_ble_eq_true rfl) (Nat.le_of_ble_eq_true rfl) ?_
          refine W.eq (g2 := F0 m 42 ls [.int q_22, .int x_21, .ref o, .int x_1, .ref (a 10)]) rfl ?_
          refine lv_iadd hx hb dX9_turnBeliefs_42 ?_
          refine zg (fun x_24 => ?_)
          refine mcallV' (g := g) (q0 := 0) (ci := 7) (As := [.int x_24]) (rest := [.int x_1, .ref (a 10)]) St hK hT hA hP hD hS hl.1 [1] [0] rfl rfl rfl (c_within l g o a pe wo tx ch jo tr dy sd f_2 x_24 ) (cwV 1 hts (zgL (zl4 k48 k49 k50 k24) k39) rfl rfl rfl (by decide +kernel) ⟨Nat.le_of_ble_eq_true rfl, Nat.le_of_ble_eq_true rfl⟩) rfl rfl rfl rfl (Nat.le_of_ble_eq_true rfl) dX9_turnBeliefs_43 ⟨(Nat.le_of_ble_eq_true rfl), (Nat.le_of_ble_eq_true rfl)⟩ (fun q_25 H locs hq26 hP hD hS => ?_)
          have hP : va_P g.1 vwCl (List.flatten [bLaw g lo lc lz ll lm lg ld fc, bTown g o a pe wo tx ch jo tr dy sd f_2]) H := hP
          have hD : va_D A (List.flatten [bLaw g lo lc lz ll lm lg ld fc, bTown g o a pe wo tx ch jo tr dy sd f_2]) := hD
          refine W.widen (k := 0) (n := 0) (Nat.le_of_ble_eq_true rfl) (Nat.le_of_ble_eq_true rfl) ?_
          refine W.eq (g2 := F0 m 46 ls [.int q_25, .int x_1, .ref (a 10)]) rfl ?_
          refine va_iast hx hb hK hP hD hS 13 0 rfl rfl (zinK (a := 0) (b := 7) i3.1 n9 (by decide)) dX9_turnBeliefs_46 (fun H locs hP hD hS => ?_)
          obtain ⟨f27, rf27, hP, hD⟩ : ∃ f27 : Nat → Nat → Int32, zZ4 f27 ∧ va_P g.1 vwCl (List.flatten [bLaw g lo lc lz ll lm lg ld fc, bTown g o a pe wo tx ch jo tr dy sd f27]) H ∧ va_D A (List.flatten [bLaw g lo lc lz ll lm lg ld fc, bTown g o a pe wo tx ch jo tr dy sd f27]) := ⟨zu f_2 10 (upd (f_2 10) x_1.toNatClampNeg q_25), (zZ4_u rf_2 (by decide)), hP, hD⟩
          refine lv_goto (tgt := 62) hx hb dX9_turnBeliefs_47 (by decide) ?_
          refine ziinc3 (n' := 1) (a' := 1) (b' := 8) (lv' := fun v9 => [(2, .int v9), (0, .ref o), (1, .ref lo)]) hx hb dX9_turnBeliefs_62 hl (k := 2) rfl (by decide) (fun _ => rfl) (zaddK (i := x_1.toInt) (j := 1) rfl (by decide) i3.1 n9 (Int.le_refl _) (Int.le_refl _) (by decide)) (fun x_28 ls hx_28 hl => ?_)
          refine lv_goto (tgt := 2) hx hb dX9_turnBeliefs_65 (by decide) ?_
          have hl := lv_sub (l' := [(0, .ref o), (1, .ref lo), (2, .int x_28)]) hl [1, 2, 0] rfl
          have hP : va_P g.1 vwCl (List.flatten [bLaw g lo lc lz ll lm lg ld fc, bTown g o a pe wo tx ch jo tr dy sd f27]) H := hP
          have hD : va_D A (List.flatten [bLaw g lo lc lz ll lm lg ld fc, bTown g o a pe wo tx ch jo tr dy sd f27]) := hD
          obtain ⟨hP, hD⟩ := zord (g := g) (Bs' := [bTown g o a pe wo tx ch jo tr dy sd f27, bLaw g lo lc lz ll lm lg ld fc]) [1, 0] rfl rfl hP hD
          have hP : va_P g.1 vwCl (List.flatten [bTown g o a pe wo tx ch jo tr dy sd f27, bLaw g lo lc lz ll lm lg ld fc]) H := hP
          have hD : va_D A (List.flatten [bTown g o a pe wo tx ch jo tr dy sd f27, bLaw g lo lc lz ll lm lg ld fc]) := hD
          exact ih2_5 x_28 f27 ⟨(Int.le_trans (by decide) hx_28.2.1), hx_28.2.2⟩ rf27 H _ ls (zmK hx_28.1 (by decide) n9 (by decide) hk2_5)  hP hD hS (lv_sub hl [0, 1, 2] rfl)
  have hP : va_P g.1 vwCl (List.flatten [bTown g o a pe wo tx ch jo tr dy sd f, bLaw g lo lc lz ll lm lg ld fc]) s.heap := hP
  have hD : va_D A (List.flatten [bTown g o a pe wo tx ch jo tr dy sd f, bLaw g lo lc lz ll lm lg ld fc]) := hD
  exact LP2_4 _ 0 f (by decide) rf s.heap _ ls (Nat.lt_succ_self _)  hP hD hS (lv_sub hl [0, 1, 2] rfl)
