set_option maxRecDepth 100000 in
set_option maxHeartbeats 4000000 in
theorem c_firstComing (l : Launch) (g : zG) (o : Nat) (a : Nat → Nat) (pe : Int32) (wo : Int32) (tx : Int32) (ch : Int32) (jo : Int32) (tr : Int32) (dy : Int32) (sd : Int32) (f : Nat → Nat → Int32) (b_pe : 0 ≤ pe.toInt ∧ pe.toInt ≤ 8) (b_wo : 0 ≤ wo.toInt ∧ wo.toInt ≤ 6) (rf : zZ4 f) : zM' g l yX9_firstComing (Cond.code yX9_firstComing cX9_firstComing 3 (some .int) :: zB) ({ frames := 1, cells := 0, slots := 0, locals := 21 } : Room) [.ref o] [bTown g o a pe wo tx ch jo tr dy sd f] (fun (q : Int32) => some (.int q)) (fun (q : Int32) => True) (fun (q : Int32) => [bTown g o a pe wo tx ch jo tr dy sd f]) := by
  refine zM'.of (cc := cX9_firstComing) (maxL := 3) (rt := (some .int)) (by decide) rfl (Nat.le_of_ble_eq_true rfl) ?_
  intro p e s m args below meth c A ls St hr hlocks hin hK hT hA hP hD hS hl
  obtain ⟨hx, hb, hml, hown, hts⟩ := id St
  have hl : lv_has ls 3 [(0, .ref o)] := hl
  refine lv_iconst (v := (-1)) hx hb dX9_firstComing_0 (by decide) ?_
  refine lv_istore_n (lv' := [(1, .int (-1)), (0, .ref o)]) hx hb dX9_firstComing_1 rfl hl (by decide) rfl (fun ls hl => ?_)
  refine lv_iconst (v := 0) hx hb dX9_firstComing_2 (by decide) ?_
  refine lv_istore_n (lv' := [(2, .int 0), (1, .int (-1)), (0, .ref o)]) hx hb dX9_firstComing_3 rfl hl (by decide) rfl (fun ls hl => ?_)
  have hl := lv_sub (l' := [(0, .ref o), (1, .int (-1)), (2, .int 0)]) hl [2, 1, 0] rfl
  have LP4_4 : ∀ (kf : Nat) (x_1 : Int32) (x_2 : Int32), (0 ≤ x_2.toInt ∧ x_2.toInt ≤ 8) → ∀ (H : Heap) (locs : List Loc) (ls : Array Slot), ((9 - x_2.toInt).toNat) < kf → va_P g.1 vwCl (List.flatten [bTown g o a pe wo tx ch jo tr dy sd f]) H → va_D A (List.flatten [bTown g o a pe wo tx ch jo tr dy sd f]) → va_S A s.heap H locs → lv_has ls 3 [(0, .ref o), (1, .int x_1), (2, .int x_2)] → W p l e ({ frames := 1, cells := 0, slots := 0, locals := 21 } : Room) s m args below meth c H locs (0) (0) (zF g (fun (q : Int32) => some (.int q)) (fun (q : Int32) => True) (fun (q : Int32) => [bTown g o a pe wo tx ch jo tr dy sd f]) ({ frames := 1, cells := 0, slots := 0, locals := 21 } : Room) below args s A) (F0 m 4 ls []) := by
    intro kf
    induction kf with
    | zero => intro x_1 x_2 i3 H locs ls hk; exact absurd hk (Nat.not_lt_zero _)
    | succ kf ih4_5 =>
      intro x_1 x_2 i3 H locs ls hk4_5 hP hD hS hl
      refine lv_iload_n hx hb dX9_firstComing_4 rfl (lv_at hl 2 rfl) ?_
      refine lv_aload_n hx hb dX9_firstComing_5 rfl (lv_at hl 0 rfl) ?_
      refine va_get (D := g.1) (ci := 7) (v := .int pe) (C := RX9) (T := TX9) (N := 19) hx hb hts izRX9 hown hK hP 0 rfl rfl 0 (by decide) (hts _ k31) (fun _ h9 => h9) rfl dX9_firstComing_6 ?_
      refine lv_icmp_ge (tgt := 48) hx hb dX9_firstComing_9 (by decide) (fun cb9 => ?_) (fun cb9 => ?_)
      · skip
        have c6 : pe.toInt ≤ x_2.toInt := zle cb9 rfl rfl
        refine lv_iload_n hx hb dX9_firstComing_48 rfl (lv_at hl 1 rfl) ?_
        refine lv_iconst (v := (-1)) hx hb dX9_firstComing_49 (by decide) ?_
        refine lv_icmp_eq (tgt := 60) hx hb dX9_firstComing_50 (by decide) (fun cb9 => ?_) (fun cb9 => ?_)
        · skip
          have c7 : x_1.toInt = (-1) := zeq cb9 rfl (by decide)
          have n8 : (-1) ≤ x_1.toInt := Int.le_trans (Int.le_refl _) (Int.le_of_eq c7.symm)
          have n9 : x_1.toInt ≤ (-1) := Int.le_trans (Int.le_of_eq c7) (Int.le_refl _)
          refine lv_iconst (v := (-1)) hx hb dX9_firstComing_60 (by decide) ?_
          refine lv_goto (tgt := 72) hx hb dX9_firstComing_61 (by decide) ?_
          have hP : va_P g.1 vwCl (List.flatten [bTown g o a pe wo tx ch jo tr dy sd f]) H := hP
          have hD : va_D A (List.flatten [bTown g o a pe wo tx ch jo tr dy sd f]) := hD
          exact mret_i hx hb hr hlocks hS (Nat.le_of_ble_eq_true rfl) (Nat.le_of_ble_eq_true rfl) dX9_firstComing_72 (-1) rfl trivial hP hD
        · skip
          have c10 : ¬ x_1.toInt = (-1) := zne cb9 rfl (by decide)
          refine lv_iload_n hx hb dX9_firstComing_53 rfl (lv_at hl 1 rfl) ?_
          refine lv_sipush (v := 9999) hx hb dX9_firstComing_54 (by decide) ?_
          refine lv_icmp_le (tgt := 64) hx hb dX9_firstComing_57 (by decide) (fun cb9 => ?_) (fun cb9 => ?_)
          · skip
            have c11 : x_1.toInt ≤ 9999 := zle cb9 rfl (by decide)
            have n12 : x_1.toInt ≤ 9999 := Int.le_trans c11 (Int.le_refl _)
            refine lv_iload_n hx hb dX9_firstComing_64 rfl (lv_at hl 1 rfl) ?_
            refine lv_aload_n hx hb dX9_firstComing_65 rfl (lv_at hl 0 rfl) ?_
            refine va_get (D := g.1) (ci := 7) (v := .int dy) (C := RX9) (T := TX9) (N := 19) hx hb hts izRX9 hown hK hP 0 rfl rfl 6 (by decide) (hts _ k34) (fun _ h9 => h9) rfl dX9_firstComing_66 ?_
            refine va_mmax hx hb (by rw [hml]; exact hl.1.symm) hown (hts _ k44) (hts _ k45) (hts _ k42) (hts _ k46) (Nat.le_of_ble_eq_true rfl) (Nat.le_of_ble_eq_true rfl) (Nat.le_of_ble_eq_true rfl) (Nat.le_of_ble_eq_true rfl) dX9_firstComing_69 ?_
            refine zgmx (i := x_1.toInt) (j := dy.toInt) rfl rfl (fun x_13 hx_13 => ?_)
            have hP : va_P g.1 vwCl (List.flatten [bTown g o a pe wo tx ch jo tr dy sd f]) H := hP
            have hD : va_D A (List.flatten [bTown g o a pe wo tx ch jo tr dy sd f]) := hD
            exact mret_i hx hb hr hlocks hS (Nat.le_of_ble_eq_true rfl) (Nat.le_of_ble_eq_true rfl) dX9_firstComing_72 (x_13) rfl trivial hP hD
          · skip
            have c14 : 9999 < x_1.toInt := zlti (Int32.not_le.mp cb9) (by decide) rfl
            have n15 : 10000 ≤ x_1.toInt := zL2 (a := 9999) c14 (Int.le_refl _) (by decide)
            refine lv_iconst (v := (-1)) hx hb dX9_firstComing_60 (by decide) ?_
            refine lv_goto (tgt := 72) hx hb dX9_firstComing_61 (by decide) ?_
            have hP : va_P g.1 vwCl (List.flatten [bTown g o a pe wo tx ch jo tr dy sd f]) H := hP
            have hD : va_D A (List.flatten [bTown g o a pe wo tx ch jo tr dy sd f]) := hD
            exact mret_i hx hb hr hlocks hS (Nat.le_of_ble_eq_true rfl) (Nat.le_of_ble_eq_true rfl) dX9_firstComing_72 (-1) rfl trivial hP hD
      · skip
        have c16 : x_2.toInt < pe.toInt := zlti (Int32.not_le.mp cb9) rfl rfl
        have n17 : x_2.toInt ≤ 7 := zL1 (b := 8) c16 b_pe.2 (by decide)
        have n18 : 1 ≤ pe.toInt := zL2 (a := 0) c16 i3.1 (by decide)
        refine lv_aload_n hx hb dX9_firstComing_12 rfl (lv_at hl 0 rfl) ?_
        refine lv_iload_n hx hb dX9_firstComing_13 rfl (lv_at hl 2 rfl) ?_
        refine mcallV' (g := g) (q0 := 0) (ci := 7) (As := [.int x_2]) (rest := []) St hK hT hA hP hD hS hl.1 [0] [] rfl rfl rfl (c_isHere l g o a pe wo tx ch jo tr dy sd f x_2 (⟨i3.1, n17⟩)) (cwV 1 hts (zgL (zl4 k53 k54 k55 k24) k51) rfl rfl rfl (by decide +kernel) ⟨Nat.le_of_ble_eq_true rfl, Nat.le_of_ble_eq_true rfl⟩) rfl rfl rfl rfl (Nat.le_of_ble_eq_true rfl) dX9_firstComing_14 ⟨(Nat.le_of_ble_eq_true rfl), (Nat.le_of_ble_eq_true rfl)⟩ (fun q_19 H locs hq20 hP hD hS => ?_)
        replace hq20 : (q_19 = 0 ∨ q_19 = 1) := hq20
        have hP : va_P g.1 vwCl (List.flatten [bTown g o a pe wo tx ch jo tr dy sd f]) H := hP
        have hD : va_D A (List.flatten [bTown g o a pe wo tx ch jo tr dy sd f]) := hD
        refine W.widen (k := 0) (n := 0) (Nat.le_of_ble_eq_true rfl) (Nat.le_of_ble_eq_true rfl) ?_
        refine W.eq (g2 := F0 m 17 ls [.int q_19]) rfl ?_
        rcases hq20 with rfl | rfl
        · skip
          refine lv_if_ne (tgt := 42) hx hb dX9_firstComing_17 (by decide) (fun c21 => absurd (by decide) c21) (fun _ => ?_)
          refine lv_iload_n hx hb dX9_firstComing_20 rfl (lv_at hl 1 rfl) ?_
          refine lv_iconst (v := (-1)) hx hb dX9_firstComing_21 (by decide) ?_
          refine lv_icmp_eq (tgt := 35) hx hb dX9_firstComing_22 (by decide) (fun cb9 => ?_) (fun cb9 => ?_)
          · skip
            have c22 : x_1.toInt = (-1) := zeq cb9 rfl (by decide)
            have n23 : (-1) ≤ x_1.toInt := Int.le_trans (Int.le_refl _) (Int.le_of_eq c22.symm)
            have n24 : x_1.toInt ≤ (-1) := Int.le_trans (Int.le_of_eq c22) (Int.le_refl _)
            refine lv_aload_n hx hb dX9_firstComing_35 rfl (lv_at hl 0 rfl) ?_
            refine va_get (D := g.1) (ci := 7) (v := .ref (a 3)) (C := RX9) (T := TX9) (N := 19) hx hb hts izRX9 hown hK hP 0 rfl rfl 11 (by decide) (hts _ k12) (fun _ h9 => h9) rfl dX9_firstComing_36 ?_
            refine lv_iload_n hx hb dX9_firstComing_39 rfl (lv_at hl 2 rfl) ?_
            refine va_iald hx hb hK hP 4 0 rfl rfl (zinK (a := 0) (b := 7) i3.1 n17 (by decide)) dX9_firstComing_40 ?_
            refine zg (fun x_25 => ?_)
            refine lv_istore_n (lv' := [(1, .int x_25), (0, .ref o), (2, .int x_2)]) hx hb dX9_firstComing_41 rfl hl (by decide) rfl (fun ls hl => ?_)
            refine ziinc3 (n' := 1) (a' := 1) (b' := 8) (lv' := fun v9 => [(2, .int v9), (1, .int x_25), (0, .ref o)]) hx hb dX9_firstComing_42 hl (k := 2) rfl (by decide) (fun _ => rfl) (zaddK (i := x_2.toInt) (j := 1) rfl (by decide) i3.1 n17 (Int.le_refl _) (Int.le_refl _) (by decide)) (fun x_26 ls hx_26 hl => ?_)
            refine lv_goto (tgt := 4) hx hb dX9_firstComing_45 (by decide) ?_
            have hl := lv_sub (l' := [(0, .ref o), (1, .int x_25), (2, .int x_26)]) hl [2, 1, 0] rfl
            have hP : va_P g.1 vwCl (List.flatten [bTown g o a pe wo tx ch jo tr dy sd f]) H := hP
            have hD : va_D A (List.flatten [bTown g o a pe wo tx ch jo tr dy sd f]) := hD
            exact ih4_5 x_25 x_26 ⟨(Int.le_trans (by decide) hx_26.2.1), hx_26.2.2⟩ H _ ls (zmK hx_26.1 (by decide) n17 (by decide) hk4_5)  hP hD hS (lv_sub hl [0, 1, 2] rfl)
          · skip
            have c27 : ¬ x_1.toInt = (-1) := zne cb9 rfl (by decide)
            refine lv_aload_n hx hb dX9_firstComing_25 rfl (lv_at hl 0 rfl) ?_
            refine va_get (D := g.1) (ci := 7) (v := .ref (a 3)) (C := RX9) (T := TX9) (N := 19) hx hb hts izRX9 hown hK hP 0 rfl rfl 11 (by decide) (hts _ k12) (fun _ h9 => h9) rfl dX9_firstComing_26 ?_
            refine lv_iload_n hx hb dX9_firstComing_29 rfl (lv_at hl 2 rfl) ?_
            refine va_iald hx hb hK hP 4 0 rfl rfl (zinK (a := 0) (b := 7) i3.1 n17 (by decide)) dX9_firstComing_30 ?_
            refine zg (fun x_28 => ?_)
            refine lv_iload_n hx hb dX9_firstComing_31 rfl (lv_at hl 1 rfl) ?_
            refine lv_icmp_ge (tgt := 42) hx hb dX9_firstComing_32 (by decide) (fun cb9 => ?_) (fun cb9 => ?_)
            · skip
              have c29 : x_1.toInt ≤ x_28.toInt := zle cb9 rfl rfl
              refine ziinc3 (n' := 1) (a' := 1) (b' := 8) (lv' := fun v9 => [(2, .int v9), (0, .ref o), (1, .int x_1)]) hx hb dX9_firstComing_42 hl (k := 2) rfl (by decide) (fun _ => rfl) (zaddK (i := x_2.toInt) (j := 1) rfl (by decide) i3.1 n17 (Int.le_refl _) (Int.le_refl _) (by decide)) (fun x_30 ls hx_30 hl => ?_)
              refine lv_goto (tgt := 4) hx hb dX9_firstComing_45 (by decide) ?_
              have hl := lv_sub (l' := [(0, .ref o), (1, .int x_1), (2, .int x_30)]) hl [1, 2, 0] rfl
              have hP : va_P g.1 vwCl (List.flatten [bTown g o a pe wo tx ch jo tr dy sd f]) H := hP
              have hD : va_D A (List.flatten [bTown g o a pe wo tx ch jo tr dy sd f]) := hD
              exact ih4_5 x_1 x_30 ⟨(Int.le_trans (by decide) hx_30.2.1), hx_30.2.2⟩ H _ ls (zmK hx_30.1 (by decide) n17 (by decide) hk4_5)  hP hD hS (lv_sub hl [0, 1, 2] rfl)
            · skip
              have c31 : x_28.toInt < x_1.toInt := zlti (Int32.not_le.mp cb9) rfl rfl
              refine lv_aload_n hx hb dX9_firstComing_35 rfl (lv_at hl 0 rfl) ?_
              refine va_get (D := g.1) (ci := 7) (v := .ref (a 3)) (C := RX9) (T := TX9) (N := 19) hx hb hts izRX9 hown hK hP 0 rfl rfl 11 (by decide) (hts _ k12) (fun _ h9 => h9) rfl dX9_firstComing_36 ?_
              refine lv_iload_n hx hb dX9_firstComing_39 rfl (lv_at hl 2 rfl) ?_
              refine va_iald hx hb hK hP 4 0 rfl rfl (zinK (a := 0) (b := 7) i3.1 n17 (by decide)) dX9_firstComing_40 ?_
              refine zg (fun x_32 => ?_)
              refine lv_istore_n (lv' := [(1, .int x_32), (0, .ref o), (2, .int x_2)]) hx hb dX9_firstComing_41 rfl hl (by decide) rfl (fun ls hl => ?_)
              refine ziinc3 (n' := 1) (a' := 1) (b' := 8) (lv' := fun v9 => [(2, .int v9), (1, .int x_32), (0, .ref o)]) hx hb dX9_firstComing_42 hl (k := 2) rfl (by decide) (fun _ => rfl) (zaddK (i := x_2.toInt) (j := 1) rfl (by decide) i3.1 n17 (Int.le_refl _) (Int.le_refl _) (by decide)) (fun x_33 ls hx_33 hl => ?_)
              refine lv_goto (tgt := 4) hx hb dX9_firstComing_45 (by decide) ?_
              have hl := lv_sub (l' := [(0, .ref o), (1, .int x_32), (2, .int x_33)]) hl [2, 1, 0] rfl
              have hP : va_P g.1 vwCl (List.flatten [bTown g o a pe wo tx ch jo tr dy sd f]) H := hP
              have hD : va_D A (List.flatten [bTown g o a pe wo tx ch jo tr dy sd f]) := hD
              exact ih4_5 x_32 x_33 ⟨(Int.le_trans (by decide) hx_33.2.1), hx_33.2.2⟩ H _ ls (zmK hx_33.1 (by decide) n17 (by decide) hk4_5)  hP hD hS (lv_sub hl [0, 1, 2] rfl)
        · skip
          refine lv_if_ne (tgt := 42) hx hb dX9_firstComing_17 (by decide) (fun _ => ?_) (fun c34 => absurd c34 (by decide))
          refine ziinc3 (n' := 1) (a' := 1) (b' := 8) (lv' := fun v9 => [(2, .int v9), (0, .ref o), (1, .int x_1)]) hx hb dX9_firstComing_42 hl (k := 2) rfl (by decide) (fun _ => rfl) (zaddK (i := x_2.toInt) (j := 1) rfl (by decide) i3.1 n17 (Int.le_refl _) (Int.le_refl _) (by decide)) (fun x_35 ls hx_35 hl => ?_)
          refine lv_goto (tgt := 4) hx hb dX9_firstComing_45 (by decide) ?_
          have hl := lv_sub (l' := [(0, .ref o), (1, .int x_1), (2, .int x_35)]) hl [1, 2, 0] rfl
          have hP : va_P g.1 vwCl (List.flatten [bTown g o a pe wo tx ch jo tr dy sd f]) H := hP
          have hD : va_D A (List.flatten [bTown g o a pe wo tx ch jo tr dy sd f]) := hD
          exact ih4_5 x_1 x_35 ⟨(Int.le_trans (by decide) hx_35.2.1), hx_35.2.2⟩ H _ ls (zmK hx_35.1 (by decide) n17 (by decide) hk4_5)  hP hD hS (lv_sub hl [0, 1, 2] rfl)
  have hP : va_P g.1 vwCl (List.flatten [bTown g o a pe wo tx ch jo tr dy sd f]) s.heap := hP
  have hD : va_D A (List.flatten [bTown g o a pe wo tx ch jo tr dy sd f]) := hD
  exact LP4_4 _ (-1) 0 (by decide) s.heap _ ls (Nat.lt_succ_self _)  hP hD hS (lv_sub hl [0, 1, 2] rfl)
