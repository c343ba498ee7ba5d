set_option maxRecDepth 100000 in
set_option maxHeartbeats 4000000 in
theorem c_i_untied (l : Launch) (g : zG) (o : Nat) (a : Nat → Nat) (pe : Int32) (wo : Int32) (tx : Int32) (ch : Int32) (jo : Int32) (tr : Int32) (dy : Int32) (sd : Int32) (f : Nat → Nat → Int32) (b_pe : 0 ≤ pe.toInt ∧ pe.toInt ≤ 8) (b_wo : 0 ≤ wo.toInt ∧ wo.toInt ≤ 6) (rf : zZ4 f) : zM' g l yX8_untied (Cond.code yX8_untied cX8_untied 3 (some .int) :: zB) ({ frames := 2, cells := 0, slots := 0, locals := 46 } : Room) [.ref o] [bTown g o a pe wo tx ch jo tr dy sd f] (fun (q : Int32) => some (.int q)) (fun (q : Int32) => True) (fun (q : Int32) => [bTown g o a pe wo tx ch jo tr dy sd f]) := by
  refine zM'.of (cc := cX8_untied) (maxL := 3) (rt := (some .int)) (by decide) rfl (Nat.le_of_ble_eq_true rfl) ?_
  intro p e s m args below meth c A ls St hr hlocks hin hK hT hA hP hD hS hl
  obtain ⟨hx, hb, hml, hown, hts⟩ := id St
  have hl : lv_has ls 3 [(0, .ref o)] := hl
  refine lv_iconst (v := 0) hx hb dX8_untied_0 (by decide) ?_
  refine lv_istore_n (lv' := [(1, .int 0), (0, .ref o)]) hx hb dX8_untied_1 rfl hl (by decide) rfl (fun ls hl => ?_)
  refine lv_iconst (v := 0) hx hb dX8_untied_2 (by decide) ?_
  refine lv_istore_n (lv' := [(2, .int 0), (1, .int 0), (0, .ref o)]) hx hb dX8_untied_3 rfl hl (by decide) rfl (fun ls hl => ?_)
  have hl := lv_sub (l' := [(0, .ref o), (1, .int 0), (2, .int 0)]) hl [2, 1, 0] rfl
  have LP4_4 : ∀ (kf : Nat) (x_1 : Int32) (x_2 : Int32), (0 ≤ x_2.toInt ∧ x_2.toInt ≤ 8) → ∀ (H : Heap) (locs : List Loc) (ls : Array Slot), ((9 - x_2.toInt).toNat) < kf → va_P g.1 vwCl (List.flatten [bTown g o a pe wo tx ch jo tr dy sd f]) H → va_D A (List.flatten [bTown g o a pe wo tx ch jo tr dy sd f]) → va_S A s.heap H locs → lv_has ls 3 [(0, .ref o), (1, .int x_1), (2, .int x_2)] → W p l e ({ frames := 2, cells := 0, slots := 0, locals := 46 } : Room) s m args below meth c H locs (0) (0) (zF g (fun (q : Int32) => some (.int q)) (fun (q : Int32) => True) (fun (q : Int32) => [bTown g o a pe wo tx ch jo tr dy sd f]) ({ frames := 2, cells := 0, slots := 0, locals := 46 } : Room) below args s A) (F0 m 4 ls []) := by
    intro kf
    induction kf with
    | zero => intro x_1 x_2 i3 H locs ls hk; exact absurd hk (Nat.not_lt_zero _)
    | succ kf ih4_5 =>
      intro x_1 x_2 i3 H locs ls hk4_5 hP hD hS hl
      refine lv_iload_n hx hb dX8_untied_4 rfl (lv_at hl 2 rfl) ?_
      refine lv_aload_n hx hb dX8_untied_5 rfl (lv_at hl 0 rfl) ?_
      refine va_get (D := g.1) (ci := 7) (v := .int pe) (C := RX9) (T := TX9) (N := 19) hx hb hts izRX9 hown hK hP 0 rfl rfl 0 (by decide) (hts _ k500) (fun _ h9 => h9) rfl dX8_untied_6 ?_
      refine lv_icmp_ge (tgt := 42) hx hb dX8_untied_9 (by decide) (fun cb9 => ?_) (fun cb9 => ?_)
      · skip
        have c6 : pe.toInt ≤ x_2.toInt := zle cb9 rfl rfl
        refine lv_iload_n hx hb dX8_untied_42 rfl (lv_at hl 1 rfl) ?_
        have hP : va_P g.1 vwCl (List.flatten [bTown g o a pe wo tx ch jo tr dy sd f]) H := hP
        have hD : va_D A (List.flatten [bTown g o a pe wo tx ch jo tr dy sd f]) := hD
        exact mret_i hx hb hr hlocks hS (Nat.le_of_ble_eq_true rfl) (Nat.le_of_ble_eq_true rfl) dX8_untied_43 (x_1) rfl trivial hP hD
      · skip
        have c7 : x_2.toInt < pe.toInt := zlti (Int32.not_le.mp cb9) rfl rfl
        have n8 : x_2.toInt ≤ 7 := zL1 (b := 8) c7 b_pe.2 (by decide)
        have n9 : 1 ≤ pe.toInt := zL2 (a := 0) c7 i3.1 (by decide)
        refine lv_aload_n hx hb dX8_untied_12 rfl (lv_at hl 0 rfl) ?_
        refine lv_iload_n hx hb dX8_untied_13 rfl (lv_at hl 2 rfl) ?_
        refine mcallV' (g := g) (q0 := 0) (ci := 7) (As := [.int x_2]) (rest := []) St hK hT hA hP hD hS hl.1 [0] [] rfl rfl rfl (c_tiesOf l g o a pe wo tx ch jo tr dy sd f x_2 b_pe b_wo rf (⟨i3.1, n8⟩)) (cwV 1 hts (zgL (zl4 k514 k96 k97 k24) k92) rfl rfl rfl (by decide +kernel) ⟨Nat.le_of_ble_eq_true rfl, Nat.le_of_ble_eq_true rfl⟩) rfl rfl rfl rfl (Nat.le_of_ble_eq_true rfl) dX8_untied_14 ⟨(Nat.le_of_ble_eq_true rfl), (Nat.le_of_ble_eq_true rfl)⟩ (fun q_10 H locs hq11 hP hD hS => ?_)
        have hP : va_P g.1 vwCl (List.flatten [bTown g o a pe wo tx ch jo tr dy sd f]) H := hP
        have hD : va_D A (List.flatten [bTown g o a pe wo tx ch jo tr dy sd f]) := hD
        refine W.widen (k := 0) (n := 0) (Nat.le_of_ble_eq_true rfl) (Nat.le_of_ble_eq_true rfl) ?_
        refine W.eq (g2 := F0 m 17 ls [.int q_10]) rfl ?_
        refine lv_if_ne (tgt := 36) hx hb dX8_untied_17 (by decide) (fun cb9 => ?_) (fun cb9 => ?_)
        · skip
          have c12 : ¬ q_10.toInt = 0 := zne cb9 rfl (by decide)
          refine ziinc3 (n' := 1) (a' := 1) (b' := 8) (lv' := fun v9 => [(2, .int v9), (0, .ref o), (1, .int x_1)]) hx hb dX8_untied_36 hl (k := 2) rfl (by decide) (fun _ => rfl) (zaddK (i := x_2.toInt) (j := 1) rfl (by decide) i3.1 n8 (Int.le_refl _) (Int.le_refl _) (by decide)) (fun x_13 ls hx_13 hl => ?_)
          refine lv_goto (tgt := 4) hx hb dX8_untied_39 (by decide) ?_
          have hl := lv_sub (l' := [(0, .ref o), (1, .int x_1), (2, .int x_13)]) hl [1, 2, 0] rfl
          have hP : va_P g.1 vwCl (List.flatten [bTown g o a pe wo tx ch jo tr dy sd f]) H := hP
          have hD : va_D A (List.flatten [bTown g o a pe wo tx ch jo tr dy sd f]) := hD
          exact ih4_5 x_1 x_13 ⟨(Int.le_trans (by decide) hx_13.2.1), hx_13.2.2⟩ H _ ls (zmK hx_13.1 (by decide) n8 (by decide) hk4_5)  hP hD hS (lv_sub hl [0, 1, 2] rfl)
        · skip
          have c14 : q_10.toInt = 0 := zeq cb9 rfl (by decide)
          have n15 : 0 ≤ q_10.toInt := Int.le_trans (Int.le_refl _) (Int.le_of_eq c14.symm)
          have n16 : q_10.toInt ≤ 0 := Int.le_trans (Int.le_of_eq c14) (Int.le_refl _)
          refine lv_aload_n hx hb dX8_untied_20 rfl (lv_at hl 0 rfl) ?_
          refine lv_iconst (v := 1) hx hb dX8_untied_21 (by decide) ?_
          refine lv_iload_n hx hb dX8_untied_22 rfl (lv_at hl 2 rfl) ?_
          refine lv_ishl hx hb dX8_untied_23 ?_
          refine zgb (zshl1 (j := x_2.toInt) rfl 7 128 (by decide) (by decide) ⟨i3.1, n8⟩) (fun x_17 hx_17 => ?_)
          refine mcallS' (g := g) (As := [.ref o, .int x_17]) (rest := []) St hK hT hA hP hD hS hl.1 [0] [] rfl rfl rfl (c_i_trusting l g o a pe wo tx ch jo tr dy sd f x_17 b_pe b_wo rf) (va_cwS 2 hts (zgL (zl3 k503 k504 k505) k499) rfl rfl rfl (by decide +kernel) ⟨Nat.le_of_ble_eq_true rfl, Nat.le_of_ble_eq_true rfl⟩) rfl rfl (Nat.le_of_ble_eq_true rfl) dX8_untied_24 ⟨(Nat.le_of_ble_eq_true rfl), (Nat.le_of_ble_eq_true rfl)⟩ (fun q_18 H locs hq19 hP hD hS => ?_)
          have hP : va_P g.1 vwCl (List.flatten [bTown g o a pe wo tx ch jo tr dy sd f]) H := hP
          have hD : va_D A (List.flatten [bTown g o a pe wo tx ch jo tr dy sd f]) := hD
          refine W.widen (k := 0) (n := 0) (Nat.le_of_ble_eq_true rfl) (Nat.le_of_ble_eq_true rfl) ?_
          refine W.eq (g2 := F0 m 27 ls [.int q_18]) rfl ?_
          refine lv_if_ne (tgt := 36) hx hb dX8_untied_27 (by decide) (fun cb9 => ?_) (fun cb9 => ?_)
          · skip
            have c20 : ¬ q_18.toInt = 0 := zne cb9 rfl (by decide)
            refine ziinc3 (n' := 1) (a' := 1) (b' := 8) (lv' := fun v9 => [(2, .int v9), (0, .ref o), (1, .int x_1)]) hx hb dX8_untied_36 hl (k := 2) rfl (by decide) (fun _ => rfl) (zaddK (i := x_2.toInt) (j := 1) rfl (by decide) i3.1 n8 (Int.le_refl _) (Int.le_refl _) (by decide)) (fun x_21 ls hx_21 hl => ?_)
            refine lv_goto (tgt := 4) hx hb dX8_untied_39 (by decide) ?_
            have hl := lv_sub (l' := [(0, .ref o), (1, .int x_1), (2, .int x_21)]) hl [1, 2, 0] rfl
            have hP : va_P g.1 vwCl (List.flatten [bTown g o a pe wo tx ch jo tr dy sd f]) H := hP
            have hD : va_D A (List.flatten [bTown g o a pe wo tx ch jo tr dy sd f]) := hD
            exact ih4_5 x_1 x_21 ⟨(Int.le_trans (by decide) hx_21.2.1), hx_21.2.2⟩ H _ ls (zmK hx_21.1 (by decide) n8 (by decide) hk4_5)  hP hD hS (lv_sub hl [0, 1, 2] rfl)
          · skip
            have c22 : q_18.toInt = 0 := zeq cb9 rfl (by decide)
            have n23 : 0 ≤ q_18.toInt := Int.le_trans (Int.le_refl _) (Int.le_of_eq c22.symm)
            have n24 : q_18.toInt ≤ 0 := Int.le_trans (Int.le_of_eq c22) (Int.le_refl _)
            refine lv_iload_n hx hb dX8_untied_30 rfl (lv_at hl 1 rfl) ?_
            refine lv_iconst (v := 1) hx hb dX8_untied_31 (by decide) ?_
            refine lv_iload_n hx hb dX8_untied_32 rfl (lv_at hl 2 rfl) ?_
            refine lv_ishl hx hb dX8_untied_33 ?_
            refine zgb (zshl1 (j := x_2.toInt) rfl 7 128 (by decide) (by decide) ⟨i3.1, n8⟩) (fun x_25 hx_25 => ?_)
            refine lv_ior hx hb dX8_untied_34 ?_
            refine zg (fun x_26 => ?_)
            refine lv_istore_n (lv' := [(1, .int x_26), (0, .ref o), (2, .int x_2)]) hx hb dX8_untied_35 rfl hl (by decide) rfl (fun ls hl => ?_)
            refine ziinc3 (n' := 1) (a' := 1) (b' := 8) (lv' := fun v9 => [(2, .int v9), (1, .int x_26), (0, .ref o)]) hx hb dX8_untied_36 hl (k := 2) rfl (by decide) (fun _ => rfl) (zaddK (i := x_2.toInt) (j := 1) rfl (by decide) i3.1 n8 (Int.le_refl _) (Int.le_refl _) (by decide)) (fun x_27 ls hx_27 hl => ?_)
            refine lv_goto (tgt := 4) hx hb dX8_untied_39 (by decide) ?_
            have hl := lv_sub (l' := [(0, .ref o), (1, .int x_26), (2, .int x_27)]) hl [2, 1, 0] rfl
            have hP : va_P g.1 vwCl (List.flatten [bTown g o a pe wo tx ch jo tr dy sd f]) H := hP
            have hD : va_D A (List.flatten [bTown g o a pe wo tx ch jo tr dy sd f]) := hD
            exact ih4_5 x_26 x_27 ⟨(Int.le_trans (by decide) hx_27.2.1), hx_27.2.2⟩ H _ ls (zmK hx_27.1 (by decide) n8 (by decide) hk4_5)  hP hD hS (lv_sub hl [0, 1, 2] rfl)
  have hP : va_P g.1 vwCl (List.flatten [bTown g o a pe wo tx ch jo tr dy sd f]) s.heap := hP
  have hD : va_D A (List.flatten [bTown g o a pe wo tx ch jo tr dy sd f]) := hD
  exact LP4_4 _ 0 0 (by decide) s.heap _ ls (Nat.lt_succ_self _)  hP hD hS (lv_sub hl [0, 1, 2] rfl)
