set_option maxRecDepth 100000 in
set_option maxHeartbeats 4000000 in
theorem c_i_circleOf (l : Launch) (g : zG) (o : Nat) (a : Nat → Nat) (pe : Int32) (wo : Int32) (tx : Int32) (ch : Int32) (jo : Int32) (tr : Int32) (dy : Int32) (sd : Int32) (f : Nat → Nat → Int32) (x1 : Int32) (b_pe : 0 ≤ pe.toInt ∧ pe.toInt ≤ 8) (b_wo : 0 ≤ wo.toInt ∧ wo.toInt ≤ 6) (rf : zZ4 f) (b_x1 : 0 ≤ x1.toInt ∧ x1.toInt ≤ 7) : zM' g l yX8_circleOf (Cond.code yX8_circleOf cX8_circleOf 5 (some .int) :: zB) ({ frames := 3, cells := 0, slots := 0, locals := 69 } : Room) [.ref o, .int x1] [bTown g o a pe wo tx ch jo tr dy sd f] (fun (q : Int32) => some (.int q)) (fun (q : Int32) => True) (fun (q : Int32) => [bTown g o a pe wo tx ch jo tr dy sd f]) := by
  refine zM'.of (cc := cX8_circleOf) (maxL := 5) (rt := (some .int)) (by decide) rfl (Nat.le_of_ble_eq_true rfl) ?_
  intro p e s m args below meth c A ls St hr hlocks hin hK hT hA hP hD hS hl
  obtain ⟨hx, hb, hml, hown, hts⟩ := id St
  have hl : lv_has ls 5 [(0, .ref o), (1, .int x1)] := hl
  refine lv_aload_n hx hb dX8_circleOf_0 rfl (lv_at hl 0 rfl) ?_
  refine lv_iload_n hx hb dX8_circleOf_1 rfl (lv_at hl 1 rfl) ?_
  refine mcallS' (g := g) (As := [.ref o, .int x1]) (rest := []) St hK hT hA hP hD hS hl.1 [0] [] rfl rfl rfl (c_i_wordOf l g o a pe wo tx ch jo tr dy sd f x1 b_pe b_wo rf b_x1) (va_cwS 2 hts (zgL (zl3 k508 k509 k505) k502) rfl rfl rfl (by decide +kernel) ⟨Nat.le_of_ble_eq_true rfl, Nat.le_of_ble_eq_true rfl⟩) rfl rfl (Nat.le_of_ble_eq_true rfl) dX8_circleOf_2 ⟨(Nat.le_of_ble_eq_true rfl), (Nat.le_of_ble_eq_true rfl)⟩ (fun q_1 H locs hq2 hP hD hS => ?_)
  have hP : va_P g.1 vwCl (List.flatten [bTown g o a pe wo tx ch jo tr dy sd f]) H := hP
  have hD : va_D A (List.flatten [bTown g o a pe wo tx ch jo tr dy sd f]) := hD
  refine W.widen (k := 0) (n := 0) (Nat.le_of_ble_eq_true rfl) (Nat.le_of_ble_eq_true rfl) ?_
  refine W.eq (g2 := F0 m 5 ls [.int q_1]) rfl ?_
  refine lv_istore_n (lv' := [(2, .int q_1), (0, .ref o), (1, .int x1)]) hx hb dX8_circleOf_5 rfl hl (by decide) rfl (fun ls hl => ?_)
  refine lv_iconst (v := 0) hx hb dX8_circleOf_6 (by decide) ?_
  refine lv_istore_n (lv' := [(3, .int 0), (2, .int q_1), (0, .ref o), (1, .int x1)]) hx hb dX8_circleOf_7 rfl hl (by decide) rfl (fun ls hl => ?_)
  refine lv_iconst (v := 0) hx hb dX8_circleOf_8 (by decide) ?_
  refine lv_istore (lv' := [(4, .int 0), (3, .int 0), (2, .int q_1), (0, .ref o), (1, .int x1)]) hx hb dX8_circleOf_9 hl (by decide) rfl (fun ls hl => ?_)
  have hl := lv_sub (l' := [(0, .ref o), (1, .int x1), (2, .int q_1), (3, .int 0), (4, .int 0)]) hl [3, 4, 2, 1, 0] rfl
  have LP11_6 : ∀ (kf : Nat) (x_3 : Int32) (x_4 : Int32), (0 ≤ x_4.toInt ∧ x_4.toInt ≤ 8) → ∀ (H : Heap) (locs : List Loc) (ls : Array Slot), ((9 - x_4.toInt).toNat) < kf → va_P g.1 vwCl (List.flatten [bTown g o a pe wo tx ch jo tr dy sd f]) H → va_D A (List.flatten [bTown g o a pe wo tx ch jo tr dy sd f]) → va_S A s.heap H locs → lv_has ls 5 [(0, .ref o), (1, .int x1), (2, .int q_1), (3, .int x_3), (4, .int x_4)] → W p l e ({ frames := 3, cells := 0, slots := 0, locals := 69 } : Room) s m args below meth c H locs (0) (0) (zF g (fun (q : Int32) => some (.int q)) (fun (q : Int32) => True) (fun (q : Int32) => [bTown g o a pe wo tx ch jo tr dy sd f]) ({ frames := 3, cells := 0, slots := 0, locals := 69 } : Room) below args s A) (F0 m 11 ls []) := by
    intro kf
    induction kf with
    | zero => intro x_3 x_4 i5 H locs ls hk; exact absurd hk (Nat.not_lt_zero _)
    | succ kf ih11_7 =>
      intro x_3 x_4 i5 H locs ls hk11_7 hP hD hS hl
      refine lv_iload hx hb dX8_circleOf_11 (lv_at hl 4 rfl) ?_
      refine lv_aload_n hx hb dX8_circleOf_13 rfl (lv_at hl 0 rfl) ?_
      refine va_get (D := g.1) (ci := 7) (v := .int pe) (C := RX9) (T := TX9) (N := 19) hx hb hts izRX9 hown hK hP 0 rfl rfl 0 (by decide) (hts _ k500) (fun _ h9 => h9) rfl dX8_circleOf_14 ?_
      refine lv_icmp_ge (tgt := 55) hx hb dX8_circleOf_17 (by decide) (fun cb9 => ?_) (fun cb9 => ?_)
      · skip
        have c8 : pe.toInt ≤ x_4.toInt := zle cb9 rfl rfl
        refine lv_iload_n hx hb dX8_circleOf_55 rfl (lv_at hl 3 rfl) ?_
        have hP : va_P g.1 vwCl (List.flatten [bTown g o a pe wo tx ch jo tr dy sd f]) H := hP
        have hD : va_D A (List.flatten [bTown g o a pe wo tx ch jo tr dy sd f]) := hD
        exact mret_i hx hb hr hlocks hS (Nat.le_of_ble_eq_true rfl) (Nat.le_of_ble_eq_true rfl) dX8_circleOf_56 (x_3) rfl trivial hP hD
      · skip
        have c9 : x_4.toInt < pe.toInt := zlti (Int32.not_le.mp cb9) rfl rfl
        have n10 : x_4.toInt ≤ 7 := zL1 (b := 8) c9 b_pe.2 (by decide)
        have n11 : 1 ≤ pe.toInt := zL2 (a := 0) c9 i5.1 (by decide)
        refine lv_iload_n hx hb dX8_circleOf_20 rfl (lv_at hl 2 rfl) ?_
        refine lv_iload hx hb dX8_circleOf_21 (lv_at hl 4 rfl) ?_
        refine lv_ishr hx hb dX8_circleOf_23 ?_
        refine zg (fun x_12 => ?_)
        refine lv_iconst (v := 1) hx hb dX8_circleOf_24 (by decide) ?_
        refine lv_iand hx hb dX8_circleOf_25 ?_
        refine zgb (zand1 _) (fun x_13 hx_13 => ?_)
        refine lv_if_eq (tgt := 49) hx hb dX8_circleOf_26 (by decide) (fun cb9 => ?_) (fun cb9 => ?_)
        · skip
          have c14 : x_13.toInt = 0 := zeq cb9 rfl (by decide)
          have n15 : x_13.toInt ≤ 0 := Int.le_trans (Int.le_of_eq c14) (Int.le_refl _)
          refine ziinc3 (n' := 1) (a' := 1) (b' := 8) (lv' := fun v9 => [(4, .int v9), (0, .ref o), (1, .int x1), (2, .int q_1), (3, .int x_3)]) hx hb dX8_circleOf_49 hl (k := 4) rfl (by decide) (fun _ => rfl) (zaddK (i := x_4.toInt) (j := 1) rfl (by decide) i5.1 n10 (Int.le_refl _) (Int.le_refl _) (by decide)) (fun x_16 ls hx_16 hl => ?_)
          refine lv_goto (tgt := 11) hx hb dX8_circleOf_52 (by decide) ?_
          have hl := lv_sub (l' := [(0, .ref o), (1, .int x1), (2, .int q_1), (3, .int x_3), (4, .int x_16)]) hl [1, 2, 3, 4, 0] rfl
          have hP : va_P g.1 vwCl (List.flatten [bTown g o a pe wo tx ch jo tr dy sd f]) H := hP
          have hD : va_D A (List.flatten [bTown g o a pe wo tx ch jo tr dy sd f]) := hD
          exact ih11_7 x_3 x_16 ⟨(Int.le_trans (by decide) hx_16.2.1), hx_16.2.2⟩ H _ ls (zmK hx_16.1 (by decide) n10 (by decide) hk11_7)  hP hD hS (lv_sub hl [0, 1, 2, 3, 4] rfl)
        · skip
          have c17 : ¬ x_13.toInt = 0 := zne cb9 rfl (by decide)
          have n18 : 1 ≤ x_13.toInt := zN1 c17 hx_13.1 (by decide)
          refine lv_aload_n hx hb dX8_circleOf_29 rfl (lv_at hl 0 rfl) ?_
          refine lv_iload hx hb dX8_circleOf_30 (lv_at hl 4 rfl) ?_
          refine mcallS' (g := g) (As := [.ref o, .int x_4]) (rest := []) St hK hT hA hP hD hS hl.1 [0] [] rfl rfl rfl (c_i_wordOf l g o a pe wo tx ch jo tr dy sd f x_4 b_pe b_wo rf (⟨i5.1, n10⟩)) (va_cwS 2 hts (zgL (zl3 k508 k509 k505) k502) rfl rfl rfl (by decide +kernel) ⟨Nat.le_of_ble_eq_true rfl, Nat.le_of_ble_eq_true rfl⟩) rfl rfl (Nat.le_of_ble_eq_true rfl) dX8_circleOf_32 ⟨(Nat.le_of_ble_eq_true rfl), (Nat.le_of_ble_eq_true rfl)⟩ (fun q_19 H locs hq20 hP hD hS => ?_)
          have hP : va_P g.1 vwCl (List.flatten [bTown g o a pe wo tx ch jo tr dy sd f]) H := hP
          have hD : va_D A (List.flatten [bTown g o a pe wo tx ch jo tr dy sd f]) := hD
          refine W.widen (k := 0) (n := 0) (Nat.le_of_ble_eq_true rfl) (Nat.le_of_ble_eq_true rfl) ?_
          refine W.eq (g2 := F0 m 35 ls [.int q_19]) rfl ?_
          refine lv_iload_n hx hb dX8_circleOf_35 rfl (lv_at hl 1 rfl) ?_
          refine lv_ishr hx hb dX8_circleOf_36 ?_
          refine zg (fun x_21 => ?_)
          refine lv_iconst (v := 1) hx hb dX8_circleOf_37 (by decide) ?_
          refine lv_iand hx hb dX8_circleOf_38 ?_
          refine zgb (zand1 _) (fun x_22 hx_22 => ?_)
          refine lv_if_eq (tgt := 49) hx hb dX8_circleOf_39 (by decide) (fun cb9 => ?_) (fun cb9 => ?_)
          · skip
            have c23 : x_22.toInt = 0 := zeq cb9 rfl (by decide)
            have n24 : x_22.toInt ≤ 0 := Int.le_trans (Int.le_of_eq c23) (Int.le_refl _)
            refine ziinc3 (n' := 1) (a' := 1) (b' := 8) (lv' := fun v9 => [(4, .int v9), (0, .ref o), (1, .int x1), (2, .int q_1), (3, .int x_3)]) hx hb dX8_circleOf_49 hl (k := 4) rfl (by decide) (fun _ => rfl) (zaddK (i := x_4.toInt) (j := 1) rfl (by decide) i5.1 n10 (Int.le_refl _) (Int.le_refl _) (by decide)) (fun x_25 ls hx_25 hl => ?_)
            refine lv_goto (tgt := 11) hx hb dX8_circleOf_52 (by decide) ?_
            have hl := lv_sub (l' := [(0, .ref o), (1, .int x1), (2, .int q_1), (3, .int x_3), (4, .int x_25)]) hl [1, 2, 3, 4, 0] rfl
            have hP : va_P g.1 vwCl (List.flatten [bTown g o a pe wo tx ch jo tr dy sd f]) H := hP
            have hD : va_D A (List.flatten [bTown g o a pe wo tx ch jo tr dy sd f]) := hD
            exact ih11_7 x_3 x_25 ⟨(Int.le_trans (by decide) hx_25.2.1), hx_25.2.2⟩ H _ ls (zmK hx_25.1 (by decide) n10 (by decide) hk11_7)  hP hD hS (lv_sub hl [0, 1, 2, 3, 4] rfl)
          · skip
            have c26 : ¬ x_22.toInt = 0 := zne cb9 rfl (by decide)
            have n27 : 1 ≤ x_22.toInt := zN1 c26 hx_22.1 (by decide)
            refine lv_iload_n hx hb dX8_circleOf_42 rfl (lv_at hl 3 rfl) ?_
            refine lv_iconst (v := 1) hx hb dX8_circleOf_43 (by decide) ?_
            refine lv_iload hx hb dX8_circleOf_44 (lv_at hl 4 rfl) ?_
            refine lv_ishl hx hb dX8_circleOf_46 ?_
            refine zgb (zshl1 (j := x_4.toInt) rfl 7 128 (by decide) (by decide) ⟨i5.1, n10⟩) (fun x_28 hx_28 => ?_)
            refine lv_ior hx hb dX8_circleOf_47 ?_
            refine zg (fun x_29 => ?_)
            refine lv_istore_n (lv' := [(3, .int x_29), (0, .ref o), (1, .int x1), (2, .int q_1), (4, .int x_4)]) hx hb dX8_circleOf_48 rfl hl (by decide) rfl (fun ls hl => ?_)
            refine ziinc3 (n' := 1) (a' := 1) (b' := 8) (lv' := fun v9 => [(4, .int v9), (3, .int x_29), (0, .ref o), (1, .int x1), (2, .int q_1)]) hx hb dX8_circleOf_49 hl (k := 4) rfl (by decide) (fun _ => rfl) (zaddK (i := x_4.toInt) (j := 1) rfl (by decide) i5.1 n10 (Int.le_refl _) (Int.le_refl _) (by decide)) (fun x_30 ls hx_30 hl => ?_)
            refine lv_goto (tgt := 11) hx hb dX8_circleOf_52 (by decide) ?_
            have hl := lv_sub (l' := [(0, .ref o), (1, .int x1), (2, .int q_1), (3, .int x_29), (4, .int x_30)]) hl [2, 3, 4, 1, 0] rfl
            have hP : va_P g.1 vwCl (List.flatten [bTown g o a pe wo tx ch jo tr dy sd f]) H := hP
            have hD : va_D A (List.flatten [bTown g o a pe wo tx ch jo tr dy sd f]) := hD
            exact ih11_7 x_29 x_30 ⟨(Int.le_trans (by decide) hx_30.2.1), hx_30.2.2⟩ H _ ls (zmK hx_30.1 (by decide) n10 (by decide) hk11_7)  hP hD hS (lv_sub hl [0, 1, 2, 3, 4] rfl)
  have hP : va_P g.1 vwCl (List.flatten [bTown g o a pe wo tx ch jo tr dy sd f]) H := hP
  have hD : va_D A (List.flatten [bTown g o a pe wo tx ch jo tr dy sd f]) := hD
  exact LP11_6 _ 0 0 (by decide) H _ ls (Nat.lt_succ_self _)  hP hD hS (lv_sub hl [0, 1, 2, 3, 4] rfl)
