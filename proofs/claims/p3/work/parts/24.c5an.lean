set_option maxRecDepth 100000 in
set_option maxHeartbeats 4000000 in
theorem c_i_countCircles (l : Launch) (g : zG) (o : Nat) (a : Nat → Nat) (pe : Int32) (wo : Int32) (tx : Int32) (ch : Int32) (jo : Int32) (tr : Int32) (dy : Int32) (sd : Int32) (f : Nat → Nat → Int32) (b_pe : 0 ≤ pe.toInt ∧ pe.toInt ≤ 8) (b_wo : 0 ≤ wo.toInt ∧ wo.toInt ≤ 6) (rf : zZ4 f) : zM' g l yX8_countCircles (Cond.code yX8_countCircles cX8_countCircles 5 (some .int) :: zB) ({ frames := 4, cells := 0, slots := 0, locals := 93 } : Room) [.ref o] [bTown g o a pe wo tx ch jo tr dy sd f] (fun (q : Int32) => some (.int q)) (fun (q : Int32) => True) (fun (q : Int32) => [bTown g o a pe wo tx ch jo tr dy sd f]) := by
  refine zM'.of (cc := cX8_countCircles) (maxL := 5) (rt := (some .int)) (by decide) rfl (Nat.le_of_ble_eq_true rfl) ?_
  intro p e s m args below meth c A ls St hr hlocks hin hK hT hA hP hD hS hl
  obtain ⟨hx, hb, hml, hown, hts⟩ := id St
  have hl : lv_has ls 5 [(0, .ref o)] := hl
  refine lv_iconst (v := 0) hx hb dX8_countCircles_0 (by decide) ?_
  refine lv_istore_n (lv' := [(1, .int 0), (0, .ref o)]) hx hb dX8_countCircles_1 rfl hl (by decide) rfl (fun ls hl => ?_)
  refine lv_iconst (v := 0) hx hb dX8_countCircles_2 (by decide) ?_
  refine lv_istore_n (lv' := [(2, .int 0), (1, .int 0), (0, .ref o)]) hx hb dX8_countCircles_3 rfl hl (by decide) rfl (fun ls hl => ?_)
  refine lv_iconst (v := 0) hx hb dX8_countCircles_4 (by decide) ?_
  refine lv_istore_n (lv' := [(3, .int 0), (2, .int 0), (1, .int 0), (0, .ref o)]) hx hb dX8_countCircles_5 rfl hl (by decide) rfl (fun ls hl => ?_)
  have hl := lv_sub (l' := [(0, .ref o), (1, .int 0), (2, .int 0), (3, .int 0)]) hl [3, 2, 1, 0] rfl
  have LP6_5 : ∀ (kf : Nat) (x_1 : Int32) (x_2 : Int32) (x_3 : Int32), (0 ≤ x_3.toInt ∧ x_3.toInt ≤ 8) → ∀ (H : Heap) (locs : List Loc) (ls : Array Slot), ((9 - x_3.toInt).toNat) < kf → va_P g.1 vwCl (List.flatten [bTown g o a pe wo tx ch jo tr dy sd f]) H → va_D A (List.flatten [bTown g o a pe wo tx ch jo tr dy sd f]) → va_S A s.heap H locs → lv_has ls 5 [(0, .ref o), (1, .int x_1), (2, .int x_2), (3, .int x_3)] → W p l e ({ frames := 4, cells := 0, slots := 0, locals := 93 } : Room) s m args below meth c H locs (0) (0) (zF g (fun (q : Int32) => some (.int q)) (fun (q : Int32) => True) (fun (q : Int32) => [bTown g o a pe wo tx ch jo tr dy sd f]) ({ frames := 4, cells := 0, slots := 0, locals := 93 } : Room) below args s A) (F0 m 6 ls []) := by
    intro kf
    induction kf with
    | zero => intro x_1 x_2 x_3 i4 H locs ls hk; exact absurd hk (Nat.not_lt_zero _)
    | succ kf ih6_6 =>
      intro x_1 x_2 x_3 i4 H locs ls hk6_6 hP hD hS hl
      refine lv_iload_n hx hb dX8_countCircles_6 rfl (lv_at hl 3 rfl) ?_
      refine lv_aload_n hx hb dX8_countCircles_7 rfl (lv_at hl 0 rfl) ?_
      refine va_get (D := g.1) (ci := 7) (v := .int pe) (C := RX9) (T := TX9) (N := 19) hx hb hts izRX9 hown hK hP 0 rfl rfl 0 (by decide) (hts _ k500) (fun _ h9 => h9) rfl dX8_countCircles_8 ?_
      refine lv_icmp_ge (tgt := 48) hx hb dX8_countCircles_11 (by decide) (fun cb9 => ?_) (fun cb9 => ?_)
      · skip
        have c7 : pe.toInt ≤ x_3.toInt := zle cb9 rfl rfl
        refine lv_iload_n hx hb dX8_countCircles_48 rfl (lv_at hl 1 rfl) ?_
        have hP : va_P g.1 vwCl (List.flatten [bTown g o a pe wo tx ch jo tr dy sd f]) H := hP
        have hD : va_D A (List.flatten [bTown g o a pe wo tx ch jo tr dy sd f]) := hD
        exact mret_i hx hb hr hlocks hS (Nat.le_of_ble_eq_true rfl) (Nat.le_of_ble_eq_true rfl) dX8_countCircles_49 (x_1) rfl trivial hP hD
      · skip
        have c8 : x_3.toInt < pe.toInt := zlti (Int32.not_le.mp cb9) rfl rfl
        have n9 : x_3.toInt ≤ 7 := zL1 (b := 8) c8 b_pe.2 (by decide)
        have n10 : 1 ≤ pe.toInt := zL2 (a := 0) c8 i4.1 (by decide)
        refine lv_aload_n hx hb dX8_countCircles_14 rfl (lv_at hl 0 rfl) ?_
        refine lv_iload_n hx hb dX8_countCircles_15 rfl (lv_at hl 3 rfl) ?_
        refine mcallS' (g := g) (As := [.ref o, .int x_3]) (rest := []) St hK hT hA hP hD hS hl.1 [0] [] rfl rfl rfl (c_i_circleOf l g o a pe wo tx ch jo tr dy sd f x_3 b_pe b_wo rf (⟨i4.1, n9⟩)) (va_cwS 2 hts (zgL (zl3 k511 k512 k505) k507) rfl rfl rfl (by decide +kernel) ⟨Nat.le_of_ble_eq_true rfl, Nat.le_of_ble_eq_true rfl⟩) rfl rfl (Nat.le_of_ble_eq_true rfl) dX8_countCircles_16 ⟨(Nat.le_of_ble_eq_true rfl), (Nat.le_of_ble_eq_true rfl)⟩ (fun q_11 H locs hq12 hP hD hS => ?_)
        have hP : va_P g.1 vwCl (List.flatten [bTown g o a pe wo tx ch jo tr dy sd f]) H := hP
        have hD : va_D A (List.flatten [bTown g o a pe wo tx ch jo tr dy sd f]) := hD
        refine W.widen (k := 0) (n := 0) (Nat.le_of_ble_eq_true rfl) (Nat.le_of_ble_eq_true rfl) ?_
        refine W.eq (g2 := F0 m 19 ls [.int q_11]) rfl ?_
        refine lv_istore (lv' := [(4, .int q_11), (0, .ref o), (1, .int x_1), (2, .int x_2), (3, .int x_3)]) hx hb dX8_countCircles_19 hl (by decide) rfl (fun ls hl => ?_)
        refine lv_iload hx hb dX8_countCircles_21 (lv_at hl 0 rfl) ?_
        refine lv_if_eq (tgt := 37) hx hb dX8_countCircles_23 (by decide) (fun cb9 => ?_) (fun cb9 => ?_)
        · skip
          have c13 : q_11.toInt = 0 := zeq cb9 rfl (by decide)
          have n14 : 0 ≤ q_11.toInt := Int.le_trans (Int.le_refl _) (Int.le_of_eq c13.symm)
          have n15 : q_11.toInt ≤ 0 := Int.le_trans (Int.le_of_eq c13) (Int.le_refl _)
          refine lv_iload_n hx hb dX8_countCircles_37 rfl (lv_at hl 3 rfl) ?_
          refine lv_iload hx hb dX8_countCircles_38 (lv_at hl 0 rfl) ?_
          refine lv_ior hx hb dX8_countCircles_40 ?_
          refine zg (fun x_16 => ?_)
          refine lv_istore_n (lv' := [(2, .int x_16), (4, .int q_11), (0, .ref o), (1, .int x_1), (3, .int x_3)]) hx hb dX8_countCircles_41 rfl hl (by decide) rfl (fun ls hl => ?_)
          refine ziinc3 (n' := 1) (a' := 1) (b' := 8) (lv' := fun v9 => [(3, .int v9), (2, .int x_16), (4, .int q_11), (0, .ref o), (1, .int x_1)]) hx hb dX8_countCircles_42 hl (k := 4) rfl (by decide) (fun _ => rfl) (zaddK (i := x_3.toInt) (j := 1) rfl (by decide) i4.1 n9 (Int.le_refl _) (Int.le_refl _) (by decide)) (fun x_17 ls hx_17 hl => ?_)
          refine lv_goto (tgt := 6) hx hb dX8_countCircles_45 (by decide) ?_
          have hl := lv_sub (l' := [(0, .ref o), (1, .int x_1), (2, .int x_16), (3, .int x_17), (4, .int q_11)]) hl [3, 4, 1, 0, 2] rfl
          have hP : va_P g.1 vwCl (List.flatten [bTown g o a pe wo tx ch jo tr dy sd f]) H := hP
          have hD : va_D A (List.flatten [bTown g o a pe wo tx ch jo tr dy sd f]) := hD
          exact ih6_6 x_1 x_16 x_17 ⟨(Int.le_trans (by decide) hx_17.2.1), hx_17.2.2⟩ H _ ls (zmK hx_17.1 (by decide) n9 (by decide) hk6_6)  hP hD hS (lv_sub hl [0, 1, 2, 3] rfl)
        · skip
          have c18 : ¬ q_11.toInt = 0 := zne cb9 rfl (by decide)
          refine lv_iload_n hx hb dX8_countCircles_26 rfl (lv_at hl 3 rfl) ?_
          refine lv_iload_n hx hb dX8_countCircles_27 rfl (lv_at hl 4 rfl) ?_
          refine lv_ishr hx hb dX8_countCircles_28 ?_
          refine zg (fun x_19 => ?_)
          refine lv_iconst (v := 1) hx hb dX8_countCircles_29 (by decide) ?_
          refine lv_iand hx hb dX8_countCircles_30 ?_
          refine zgb (zand1 _) (fun x_20 hx_20 => ?_)
          refine lv_if_ne (tgt := 37) hx hb dX8_countCircles_31 (by decide) (fun cb9 => ?_) (fun cb9 => ?_)
          · skip
            have c21 : ¬ x_20.toInt = 0 := zne cb9 rfl (by decide)
            have n22 : 1 ≤ x_20.toInt := zN1 c21 hx_20.1 (by decide)
            refine lv_iload_n hx hb dX8_countCircles_37 rfl (lv_at hl 3 rfl) ?_
            refine lv_iload hx hb dX8_countCircles_38 (lv_at hl 0 rfl) ?_
            refine lv_ior hx hb dX8_countCircles_40 ?_
            refine zg (fun x_23 => ?_)
            refine lv_istore_n (lv' := [(2, .int x_23), (4, .int q_11), (0, .ref o), (1, .int x_1), (3, .int x_3)]) hx hb dX8_countCircles_41 rfl hl (by decide) rfl (fun ls hl => ?_)
            refine ziinc3 (n' := 1) (a' := 1) (b' := 8) (lv' := fun v9 => [(3, .int v9), (2, .int x_23), (4, .int q_11), (0, .ref o), (1, .int x_1)]) hx hb dX8_countCircles_42 hl (k := 4) rfl (by decide) (fun _ => rfl) (zaddK (i := x_3.toInt) (j := 1) rfl (by decide) i4.1 n9 (Int.le_refl _) (Int.le_refl _) (by decide)) (fun x_24 ls hx_24 hl => ?_)
            refine lv_goto (tgt := 6) hx hb dX8_countCircles_45 (by decide) ?_
            have hl := lv_sub (l' := [(0, .ref o), (1, .int x_1), (2, .int x_23), (3, .int x_24), (4, .int q_11)]) hl [3, 4, 1, 0, 2] rfl
            have hP : va_P g.1 vwCl (List.flatten [bTown g o a pe wo tx ch jo tr dy sd f]) H := hP
            have hD : va_D A (List.flatten [bTown g o a pe wo tx ch jo tr dy sd f]) := hD
            exact ih6_6 x_1 x_23 x_24 ⟨(Int.le_trans (by decide) hx_24.2.1), hx_24.2.2⟩ H _ ls (zmK hx_24.1 (by decide) n9 (by decide) hk6_6)  hP hD hS (lv_sub hl [0, 1, 2, 3] rfl)
          · skip
            have c25 : x_20.toInt = 0 := zeq cb9 rfl (by decide)
            have n26 : x_20.toInt ≤ 0 := Int.le_trans (Int.le_of_eq c25) (Int.le_refl _)
            refine ziincG (lv' := fun v9 => [(1, .int v9), (4, .int q_11), (0, .ref o), (2, .int x_2), (3, .int x_3)]) hx hb dX8_countCircles_34 hl (k := 2) rfl (by decide) (fun _ => rfl) (fun x_27 ls hl => ?_)
            refine lv_iload_n hx hb dX8_countCircles_37 rfl (lv_at hl 3 rfl) ?_
            refine lv_iload hx hb dX8_countCircles_38 (lv_at hl 1 rfl) ?_
            refine lv_ior hx hb dX8_countCircles_40 ?_
            refine zg (fun x_28 => ?_)
            refine lv_istore_n (lv' := [(2, .int x_28), (1, .int x_27), (4, .int q_11), (0, .ref o), (3, .int x_3)]) hx hb dX8_countCircles_41 rfl hl (by decide) rfl (fun ls hl => ?_)
            refine ziinc3 (n' := 1) (a' := 1) (b' := 8) (lv' := fun v9 => [(3, .int v9), (2, .int x_28), (1, .int x_27), (4, .int q_11), (0, .ref o)]) hx hb dX8_countCircles_42 hl (k := 4) rfl (by decide) (fun _ => rfl) (zaddK (i := x_3.toInt) (j := 1) rfl (by decide) i4.1 n9 (Int.le_refl _) (Int.le_refl _) (by decide)) (fun x_29 ls hx_29 hl => ?_)
            refine lv_goto (tgt := 6) hx hb dX8_countCircles_45 (by decide) ?_
            have hl := lv_sub (l' := [(0, .ref o), (1, .int x_27), (2, .int x_28), (3, .int x_29), (4, .int q_11)]) hl [4, 2, 1, 0, 3] rfl
            have hP : va_P g.1 vwCl (List.flatten [bTown g o a pe wo tx ch jo tr dy sd f]) H := hP
            have hD : va_D A (List.flatten [bTown g o a pe wo tx ch jo tr dy sd f]) := hD
            exact ih6_6 x_27 x_28 x_29 ⟨(Int.le_trans (by decide) hx_29.2.1), hx_29.2.2⟩ H _ ls (zmK hx_29.1 (by decide) n9 (by decide) hk6_6)  hP hD hS (lv_sub hl [0, 1, 2, 3] rfl)
  have hP : va_P g.1 vwCl (List.flatten [bTown g o a pe wo tx ch jo tr dy sd f]) s.heap := hP
  have hD : va_D A (List.flatten [bTown g o a pe wo tx ch jo tr dy sd f]) := hD
  exact LP6_5 _ 0 0 0 (by decide) s.heap _ ls (Nat.lt_succ_self _)  hP hD hS (lv_sub hl [0, 1, 2, 3] rfl)
