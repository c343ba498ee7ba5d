set_option maxRecDepth 100000 in
set_option maxHeartbeats 4000000 in
theorem c_canBuild (l : Launch) (g : zG) (o : Nat) (a : Nat → Nat) (pe : Int32) (wo : Int32) (tx : Int32) (ch : Int32) (jo : Int32) (tr : Int32) (dy : Int32) (sd : Int32) (f : Nat → Nat → Int32) (st0 : Int32) (b_pe : 0 ≤ pe.toInt ∧ pe.toInt ≤ 8) (b_wo : 0 ≤ wo.toInt ∧ wo.toInt ≤ 6) (rf : zZ4 f) : zM' g l yX9_canBuild (Cond.code yX9_canBuild cX9_canBuild 5 (some .boolean) :: zB) ({ frames := 2, cells := 0, slots := 0, locals := 43 } : Room) [.ref o, .int st0] [bTown g o a pe wo tx ch jo tr dy sd f] (fun (q : Int32) => some (.int q)) (fun (q : Int32) => (q = 0 ∨ q = 1)) (fun (q : Int32) => [bTown g o a pe wo tx ch jo tr dy sd f]) := by
  refine zM'.of (cc := cX9_canBuild) (maxL := 5) (rt := (some .boolean)) (by decide) rfl (Nat.le_of_ble_eq_true rfl) ?_
  intro p e s m args below meth c A ls St hr hlocks hin hK hT hA hP hD hS hl
  obtain ⟨hx, hb, hml, hown, hts⟩ := id St
  have hl : lv_has ls 5 [(0, .ref o), (1, .int st0)] := hl
  refine lv_aload_n hx hb dX9_canBuild_0 rfl (lv_at hl 0 rfl) ?_
  refine mcallV' (g := g) (q0 := 0) (ci := 7) (As := []) (rest := []) St hK hT hA hP hD hS hl.1 [0] [] rfl rfl rfl (c_believed l g o a pe wo tx ch jo tr dy sd f b_pe b_wo rf) (cwV 0 hts (zgL (zl4 k68 k69 k70 k24) k60) rfl rfl rfl (by decide +kernel) ⟨Nat.le_of_ble_eq_true rfl, Nat.le_of_ble_eq_true rfl⟩) rfl rfl rfl rfl (Nat.le_of_ble_eq_true rfl) dX9_canBuild_1 ⟨(Nat.le_of_ble_eq_true rfl), (Nat.le_of_ble_eq_true rfl)⟩ (fun q_1 H locs hq2 hP hD hS => ?_)
  have hP : va_P g.1 vwCl (List.flatten [bTown g o a pe wo tx ch jo tr dy sd f]) H := hP
  have hD : va_D A (List.flatten [bTown g o a pe wo tx ch jo tr dy sd f]) := hD
  refine W.widen (k := 0) (n := 0) (Nat.le_of_ble_eq_true rfl) (Nat.le_of_ble_eq_true rfl) ?_
  refine W.eq (g2 := F0 m 4 ls [.int q_1]) rfl ?_
  refine lv_istore_n (lv' := [(2, .int q_1), (0, .ref o), (1, .int st0)]) hx hb dX9_canBuild_4 rfl hl (by decide) rfl (fun ls hl => ?_)
  refine lv_iconst (v := 0) hx hb dX9_canBuild_5 (by decide) ?_
  refine lv_istore_n (lv' := [(3, .int 0), (2, .int q_1), (0, .ref o), (1, .int st0)]) hx hb dX9_canBuild_6 rfl hl (by decide) rfl (fun ls hl => ?_)
  refine lv_iconst (v := 0) hx hb dX9_canBuild_7 (by decide) ?_
  refine lv_istore (lv' := [(4, .int 0), (3, .int 0), (2, .int q_1), (0, .ref o), (1, .int st0)]) hx hb dX9_canBuild_8 hl (by decide) rfl (fun ls hl => ?_)
  have hl := lv_sub (l' := [(0, .ref o), (1, .int st0), (2, .int q_1), (3, .int 0), (4, .int 0)]) hl [3, 4, 2, 1, 0] rfl
  have LP10_6 : ∀ (kf : Nat) (x_3 : Int32) (x_4 : Int32), (0 ≤ x_4.toInt ∧ x_4.toInt ≤ 6) → ∀ (H : Heap) (locs : List Loc) (ls : Array Slot), ((7 - x_4.toInt).toNat) < kf → va_P g.1 vwCl (List.flatten [bTown g o a pe wo tx ch jo tr dy sd f]) H → va_D A (List.flatten [bTown g o a pe wo tx ch jo tr dy sd f]) → va_S A s.heap H locs → lv_has ls 5 [(0, .ref o), (1, .int st0), (2, .int q_1), (3, .int x_3), (4, .int x_4)] → W p l e ({ frames := 2, cells := 0, slots := 0, locals := 43 } : Room) s m args below meth c H locs (0) (0) (zF g (fun (q : Int32) => some (.int q)) (fun (q : Int32) => (q = 0 ∨ q = 1)) (fun (q : Int32) => [bTown g o a pe wo tx ch jo tr dy sd f]) ({ frames := 2, cells := 0, slots := 0, locals := 43 } : Room) below args s A) (F0 m 10 ls []) := by
    intro kf
    induction kf with
    | zero => intro x_3 x_4 i5 H locs ls hk; exact absurd hk (Nat.not_lt_zero _)
    | succ kf ih10_7 =>
      intro x_3 x_4 i5 H locs ls hk10_7 hP hD hS hl
      refine lv_iload hx hb dX9_canBuild_10 (lv_at hl 4 rfl) ?_
      refine lv_aload_n hx hb dX9_canBuild_12 rfl (lv_at hl 0 rfl) ?_
      refine va_get (D := g.1) (ci := 7) (v := .int wo) (C := RX9) (T := TX9) (N := 19) hx hb hts izRX9 hown hK hP 0 rfl rfl 1 (by decide) (hts _ k32) (fun _ h9 => h9) rfl dX9_canBuild_13 ?_
      refine lv_icmp_ge (tgt := 67) hx hb dX9_canBuild_16 (by decide) (fun cb9 => ?_) (fun cb9 => ?_)
      · skip
        have c8 : wo.toInt ≤ x_4.toInt := zle cb9 rfl rfl
        refine lv_iload_n hx hb dX9_canBuild_67 rfl (lv_at hl 3 rfl) ?_
        refine lv_aload_n hx hb dX9_canBuild_68 rfl (lv_at hl 0 rfl) ?_
        refine va_get (D := g.1) (ci := 7) (v := .int ch) (C := RX9) (T := TX9) (N := 19) hx hb hts izRX9 hown hK hP 0 rfl rfl 3 (by decide) (hts _ k4) (fun _ h9 => h9) rfl dX9_canBuild_69 ?_
        refine lv_icmp_gt (tgt := 79) hx hb dX9_canBuild_72 (by decide) (fun cb9 => ?_) (fun cb9 => ?_)
        · skip
          have c9 : ch.toInt < x_3.toInt := zlti cb9 rfl rfl
          refine lv_iconst (v := 0) hx hb dX9_canBuild_79 (by decide) ?_
          have hP : va_P g.1 vwCl (List.flatten [bTown g o a pe wo tx ch jo tr dy sd f]) H := hP
          have hD : va_D A (List.flatten [bTown g o a pe wo tx ch jo tr dy sd f]) := hD
          exact mret_z hx hb hr hlocks hS (Nat.le_of_ble_eq_true rfl) (Nat.le_of_ble_eq_true rfl) dX9_canBuild_80 ((0 : Int32)) rfl (by decide) (show (0 = 0 ∨ 0 = 1) from (by decide)) hP hD
        · skip
          have c10 : x_3.toInt ≤ ch.toInt := zle (Int32.not_lt.mp cb9) rfl rfl
          refine lv_iconst (v := 1) hx hb dX9_canBuild_75 (by decide) ?_
          refine lv_goto (tgt := 80) hx hb dX9_canBuild_76 (by decide) ?_
          have hP : va_P g.1 vwCl (List.flatten [bTown g o a pe wo tx ch jo tr dy sd f]) H := hP
          have hD : va_D A (List.flatten [bTown g o a pe wo tx ch jo tr dy sd f]) := hD
          exact mret_z hx hb hr hlocks hS (Nat.le_of_ble_eq_true rfl) (Nat.le_of_ble_eq_true rfl) dX9_canBuild_80 ((1 : Int32)) rfl (by decide) (show (1 = 0 ∨ 1 = 1) from (by decide)) hP hD
      · skip
        have c11 : x_4.toInt < wo.toInt := zlti (Int32.not_le.mp cb9) rfl rfl
        have n12 : x_4.toInt ≤ 5 := zL1 (b := 6) c11 b_wo.2 (by decide)
        have n13 : 1 ≤ wo.toInt := zL2 (a := 0) c11 i5.1 (by decide)
        refine lv_iload_n hx hb dX9_canBuild_19 rfl (lv_at hl 1 rfl) ?_
        refine lv_iload hx hb dX9_canBuild_20 (lv_at hl 4 rfl) ?_
        refine lv_ishr hx hb dX9_canBuild_22 ?_
        refine zg (fun x_14 => ?_)
        refine lv_iconst (v := 1) hx hb dX9_canBuild_23 (by decide) ?_
        refine lv_iand hx hb dX9_canBuild_24 ?_
        refine zgb (zand1 _) (fun x_15 hx_15 => ?_)
        refine lv_if_eq (tgt := 61) hx hb dX9_canBuild_25 (by decide) (fun cb9 => ?_) (fun cb9 => ?_)
        · skip
          have c16 : x_15.toInt = 0 := zeq cb9 rfl (by decide)
          have n17 : x_15.toInt ≤ 0 := Int.le_trans (Int.le_of_eq c16) (Int.le_refl _)
          refine ziinc3 (n' := 1) (a' := 1) (b' := 6) (lv' := fun v9 => [(4, .int v9), (0, .ref o), (1, .int st0), (2, .int q_1), (3, .int x_3)]) hx hb dX9_canBuild_61 hl (k := 4) rfl (by decide) (fun _ => rfl) (zaddK (i := x_4.toInt) (j := 1) rfl (by decide) i5.1 n12 (Int.le_refl _) (Int.le_refl _) (by decide)) (fun x_18 ls hx_18 hl => ?_)
          refine lv_goto (tgt := 10) hx hb dX9_canBuild_64 (by decide) ?_
          have hl := lv_sub (l' := [(0, .ref o), (1, .int st0), (2, .int q_1), (3, .int x_3), (4, .int x_18)]) hl [1, 2, 3, 4, 0] rfl
          have hP : va_P g.1 vwCl (List.flatten [bTown g o a pe wo tx ch jo tr dy sd f]) H := hP
          have hD : va_D A (List.flatten [bTown g o a pe wo tx ch jo tr dy sd f]) := hD
          exact ih10_7 x_3 x_18 ⟨(Int.le_trans (by decide) hx_18.2.1), hx_18.2.2⟩ H _ ls (zmK hx_18.1 (by decide) n12 (by decide) hk10_7)  hP hD hS (lv_sub hl [0, 1, 2, 3, 4] rfl)
        · skip
          have c19 : ¬ x_15.toInt = 0 := zne cb9 rfl (by decide)
          have n20 : 1 ≤ x_15.toInt := zN1 c19 hx_15.1 (by decide)
          refine lv_aload_n hx hb dX9_canBuild_28 rfl (lv_at hl 0 rfl) ?_
          refine va_get (D := g.1) (ci := 7) (v := .ref (a 9)) (C := RX9) (T := TX9) (N := 19) hx hb hts izRX9 hown hK hP 0 rfl rfl 17 (by decide) (hts _ k19) (fun _ h9 => h9) rfl dX9_canBuild_29 ?_
          refine lv_iload hx hb dX9_canBuild_32 (lv_at hl 4 rfl) ?_
          refine va_iald hx hb hK hP 10 0 rfl rfl (zinK (a := 0) (b := 5) i5.1 n12 (by decide)) dX9_canBuild_34 ?_
          refine zg (fun x_21 => ?_)
          refine lv_if_ne (tgt := 49) hx hb dX9_canBuild_35 (by decide) (fun cb9 => ?_) (fun cb9 => ?_)
          · skip
            have c22 : ¬ x_21.toInt = 0 := zne cb9 rfl (by decide)
            refine lv_iconst (v := 0) hx hb dX9_canBuild_49 (by decide) ?_
            have hP : va_P g.1 vwCl (List.flatten [bTown g o a pe wo tx ch jo tr dy sd f]) H := hP
            have hD : va_D A (List.flatten [bTown g o a pe wo tx ch jo tr dy sd f]) := hD
            exact mret_z hx hb hr hlocks hS (Nat.le_of_ble_eq_true rfl) (Nat.le_of_ble_eq_true rfl) dX9_canBuild_50 ((0 : Int32)) rfl (by decide) (show (0 = 0 ∨ 0 = 1) from (by decide)) hP hD
          · skip
            have c23 : x_21.toInt = 0 := zeq cb9 rfl (by decide)
            have n24 : 0 ≤ x_21.toInt := Int.le_trans (Int.le_refl _) (Int.le_of_eq c23.symm)
            have n25 : x_21.toInt ≤ 0 := Int.le_trans (Int.le_of_eq c23) (Int.le_refl _)
            refine lv_aload_n hx hb dX9_canBuild_38 rfl (lv_at hl 0 rfl) ?_
            refine va_get (D := g.1) (ci := 7) (v := .ref (a 7)) (C := RX9) (T := TX9) (N := 19) hx hb hts izRX9 hown hK hP 0 rfl rfl 15 (by decide) (hts _ k17) (fun _ h9 => h9) rfl dX9_canBuild_39 ?_
            refine lv_iload hx hb dX9_canBuild_42 (lv_at hl 4 rfl) ?_
            refine va_iald hx hb hK hP 8 0 rfl rfl (zinK (a := 0) (b := 5) i5.1 n12 (by decide)) dX9_canBuild_44 ?_
            refine zg (fun x_26 => ?_)
            refine lv_iload_n hx hb dX9_canBuild_45 rfl (lv_at hl 2 rfl) ?_
            refine lv_icmp_le (tgt := 51) hx hb dX9_canBuild_46 (by decide) (fun cb9 => ?_) (fun cb9 => ?_)
            · skip
              have c27 : x_26.toInt ≤ q_1.toInt := zle cb9 rfl rfl
              refine lv_iload_n hx hb dX9_canBuild_51 rfl (lv_at hl 3 rfl) ?_
              refine lv_aload_n hx hb dX9_canBuild_52 rfl (lv_at hl 0 rfl) ?_
              refine va_get (D := g.1) (ci := 7) (v := .ref (a 6)) (C := RX9) (T := TX9) (N := 19) hx hb hts izRX9 hown hK hP 0 rfl rfl 14 (by decide) (hts _ k16) (fun _ h9 => h9) rfl dX9_canBuild_53 ?_
              refine lv_iload hx hb dX9_canBuild_56 (lv_at hl 4 rfl) ?_
              refine va_iald hx hb hK hP 7 0 rfl rfl (zinK (a := 0) (b := 5) i5.1 n12 (by decide)) dX9_canBuild_58 ?_
              refine zg (fun x_28 => ?_)
              refine lv_iadd hx hb dX9_canBuild_59 ?_
              refine zg (fun x_29 => ?_)
              refine lv_istore_n (lv' := [(3, .int x_29), (0, .ref o), (1, .int st0), (2, .int q_1), (4, .int x_4)]) hx hb dX9_canBuild_60 rfl hl (by decide) rfl (fun ls hl => ?_)
              refine ziinc3 (n' := 1) (a' := 1) (b' := 6) (lv' := fun v9 => [(4, .int v9), (3, .int x_29), (0, .ref o), (1, .int st0), (2, .int q_1)]) hx hb dX9_canBuild_61 hl (k := 4) rfl (by decide) (fun _ => rfl) (zaddK (i := x_4.toInt) (j := 1) rfl (by decide) i5.1 n12 (Int.le_refl _) (Int.le_refl _) (by decide)) (fun x_30 ls hx_30 hl => ?_)
              refine lv_goto (tgt := 10) hx hb dX9_canBuild_64 (by decide) ?_
              have hl := lv_sub (l' := [(0, .ref o), (1, .int st0), (2, .int q_1), (3, .int x_29), (4, .int x_30)]) hl [2, 3, 4, 1, 0] rfl
              have hP : va_P g.1 vwCl (List.flatten [bTown g o a pe wo tx ch jo tr dy sd f]) H := hP
              have hD : va_D A (List.flatten [bTown g o a pe wo tx ch jo tr dy sd f]) := hD
              exact ih10_7 x_29 x_30 ⟨(Int.le_trans (by decide) hx_30.2.1), hx_30.2.2⟩ H _ ls (zmK hx_30.1 (by decide) n12 (by decide) hk10_7)  hP hD hS (lv_sub hl [0, 1, 2, 3, 4] rfl)
            · skip
              have c31 : q_1.toInt < x_26.toInt := zlti (Int32.not_le.mp cb9) rfl rfl
              refine lv_iconst (v := 0) hx hb dX9_canBuild_49 (by decide) ?_
              have hP : va_P g.1 vwCl (List.flatten [bTown g o a pe wo tx ch jo tr dy sd f]) H := hP
              have hD : va_D A (List.flatten [bTown g o a pe wo tx ch jo tr dy sd f]) := hD
              exact mret_z hx hb hr hlocks hS (Nat.le_of_ble_eq_true rfl) (Nat.le_of_ble_eq_true rfl) dX9_canBuild_50 ((0 : Int32)) rfl (by decide) (show (0 = 0 ∨ 0 = 1) from (by decide)) hP hD
  have hP : va_P g.1 vwCl (List.flatten [bTown g o a pe wo tx ch jo tr dy sd f]) H := hP
  have hD : va_D A (List.flatten [bTown g o a pe wo tx ch jo tr dy sd f]) := hD
  exact LP10_6 _ 0 0 (by decide) H _ ls (Nat.lt_succ_self _)  hP hD hS (lv_sub hl [0, 1, 2, 3, 4] rfl)
