set_option maxRecDepth 100000 in
set_option maxHeartbeats 4000000 in
theorem c_tiesOf (l : Launch) (g : zG) (o : Nat) (a : Nat → Nat) (pe : Int32) (wo : Int32) (tx : Int32) (ch : Int32) (jo : Int32) (tr : Int32) (dy : Int32) (sd : Int32) (f : Nat → Nat → Int32) (x1 : Int32) (b_pe : 0 ≤ pe.toInt ∧ pe.toInt ≤ 8) (b_wo : 0 ≤ wo.toInt ∧ wo.toInt ≤ 6) (rf : zZ4 f) (b_x1 : 0 ≤ x1.toInt ∧ x1.toInt ≤ 7) : zM' g l yX9_tiesOf (Cond.code yX9_tiesOf cX9_tiesOf 4 (some .int) :: zB) ({ frames := 0, cells := 0, slots := 0, locals := 0 } : Room) [.ref o, .int x1] [bTown g o a pe wo tx ch jo tr dy sd f] (fun (q : Int32) => some (.int q)) (fun (q : Int32) => True) (fun (q : Int32) => [bTown g o a pe wo tx ch jo tr dy sd f]) := by
  refine zM'.of (cc := cX9_tiesOf) (maxL := 4) (rt := (some .int)) (by decide) rfl (Nat.le_of_ble_eq_true rfl) ?_
  intro p e s m args below meth c A ls St hr hlocks hin hK hT hA hP hD hS hl
  obtain ⟨hx, hb, hml, hown, hts⟩ := id St
  have hl : lv_has ls 4 [(0, .ref o), (1, .int x1)] := hl
  refine lv_iconst (v := 0) hx hb dX9_tiesOf_0 (by decide) ?_
  refine lv_istore_n (lv' := [(2, .int 0), (0, .ref o), (1, .int x1)]) hx hb dX9_tiesOf_1 rfl hl (by decide) rfl (fun ls hl => ?_)
  refine lv_iconst (v := 0) hx hb dX9_tiesOf_2 (by decide) ?_
  refine lv_istore_n (lv' := [(3, .int 0), (2, .int 0), (0, .ref o), (1, .int x1)]) hx hb dX9_tiesOf_3 rfl hl (by decide) rfl (fun ls hl => ?_)
  have hl := lv_sub (l' := [(0, .ref o), (1, .int x1), (2, .int 0), (3, .int 0)]) hl [2, 3, 1, 0] rfl
  have LP4_4 : ∀ (kf : Nat) (x_1 : Int32) (x_2 : Int32), (0 ≤ x_2.toInt ∧ x_2.toInt ≤ 8) → ∀ (H : Heap) (locs : List Loc) (ls : Array Slot), ((9 - x_2.toInt).toNat) < kf → va_P g.1 vwCl (List.flatten [bTown g o a pe wo tx ch jo tr dy sd f]) H → va_D A (List.flatten [bTown g o a pe wo tx ch jo tr dy sd f]) → va_S A s.heap H locs → lv_has ls 4 [(0, .ref o), (1, .int x1), (2, .int x_1), (3, .int x_2)] → W p l e ({ frames := 0, cells := 0, slots := 0, locals := 0 } : Room) s m args below meth c H locs (0) (0) (zF g (fun (q : Int32) => some (.int q)) (fun (q : Int32) => True) (fun (q : Int32) => [bTown g o a pe wo tx ch jo tr dy sd f]) ({ frames := 0, cells := 0, slots := 0, locals := 0 } : Room) below args s A) (F0 m 4 ls []) := by
    intro kf
    induction kf with
    | zero => intro x_1 x_2 i3 H locs ls hk; exact absurd hk (Nat.not_lt_zero _)
    | succ kf ih4_5 =>
      intro x_1 x_2 i3 H locs ls hk4_5 hP hD hS hl
      refine lv_iload_n hx hb dX9_tiesOf_4 rfl (lv_at hl 3 rfl) ?_
      refine lv_aload_n hx hb dX9_tiesOf_5 rfl (lv_at hl 0 rfl) ?_
      refine va_get (D := g.1) (ci := 7) (v := .int pe) (C := RX9) (T := TX9) (N := 19) hx hb hts izRX9 hown hK hP 0 rfl rfl 0 (by decide) (hts _ k31) (fun _ h9 => h9) rfl dX9_tiesOf_6 ?_
      refine lv_icmp_ge (tgt := 40) hx hb dX9_tiesOf_9 (by decide) (fun cb9 => ?_) (fun cb9 => ?_)
      · skip
        have c6 : pe.toInt ≤ x_2.toInt := zle cb9 rfl rfl
        refine lv_iload_n hx hb dX9_tiesOf_40 rfl (lv_at hl 2 rfl) ?_
        have hP : va_P g.1 vwCl (List.flatten [bTown g o a pe wo tx ch jo tr dy sd f]) H := hP
        have hD : va_D A (List.flatten [bTown g o a pe wo tx ch jo tr dy sd f]) := hD
        exact mret_i hx hb hr hlocks hS (Nat.le_of_ble_eq_true rfl) (Nat.le_of_ble_eq_true rfl) dX9_tiesOf_41 (x_1) rfl trivial hP hD
      · skip
        have c7 : x_2.toInt < pe.toInt := zlti (Int32.not_le.mp cb9) rfl rfl
        have n8 : x_2.toInt ≤ 7 := zL1 (b := 8) c7 b_pe.2 (by decide)
        have n9 : 1 ≤ pe.toInt := zL2 (a := 0) c7 i3.1 (by decide)
        refine lv_iload_n hx hb dX9_tiesOf_12 rfl (lv_at hl 3 rfl) ?_
        refine lv_iload_n hx hb dX9_tiesOf_13 rfl (lv_at hl 1 rfl) ?_
        refine lv_icmp_eq (tgt := 34) hx hb dX9_tiesOf_14 (by decide) (fun cb9 => ?_) (fun cb9 => ?_)
        · skip
          have c10 : x_2.toInt = x1.toInt := zeq cb9 rfl rfl
          refine ziinc3 (n' := 1) (a' := 1) (b' := 8) (lv' := fun v9 => [(3, .int v9), (0, .ref o), (1, .int x1), (2, .int x_1)]) hx hb dX9_tiesOf_34 hl (k := 3) rfl (by decide) (fun _ => rfl) (zaddK (i := x_2.toInt) (j := 1) rfl (by decide) i3.1 n8 (Int.le_refl _) (Int.le_refl _) (by decide)) (fun x_11 ls hx_11 hl => ?_)
          refine lv_goto (tgt := 4) hx hb dX9_tiesOf_37 (by decide) ?_
          have hl := lv_sub (l' := [(0, .ref o), (1, .int x1), (2, .int x_1), (3, .int x_11)]) hl [1, 2, 3, 0] rfl
          have hP : va_P g.1 vwCl (List.flatten [bTown g o a pe wo tx ch jo tr dy sd f]) H := hP
          have hD : va_D A (List.flatten [bTown g o a pe wo tx ch jo tr dy sd f]) := hD
          exact ih4_5 x_1 x_11 ⟨(Int.le_trans (by decide) hx_11.2.1), hx_11.2.2⟩ H _ ls (zmK hx_11.1 (by decide) n8 (by decide) hk4_5)  hP hD hS (lv_sub hl [0, 1, 2, 3] rfl)
        · skip
          have c12 : ¬ x_2.toInt = x1.toInt := zne cb9 rfl rfl
          refine lv_aload_n hx hb dX9_tiesOf_17 rfl (lv_at hl 0 rfl) ?_
          refine va_get (D := g.1) (ci := 7) (v := .ref (a 5)) (C := RX9) (T := TX9) (N := 19) hx hb hts izRX9 hown hK hP 0 rfl rfl 13 (by decide) (hts _ k15) (fun _ h9 => h9) rfl dX9_tiesOf_18 ?_
          refine lv_iload_n hx hb dX9_tiesOf_21 rfl (lv_at hl 1 rfl) ?_
          refine lv_bipush (v := 8) hx hb dX9_tiesOf_22 (by decide) ?_
          refine lv_imul hx hb dX9_tiesOf_24 ?_
          refine zg3 (zmulKR (i := x1.toInt) (n := 8) (a' := 0) (b' := 56) rfl (by decide) b_x1.1 b_x1.2 (by decide) (by decide)) (fun x_13 hx_13 => ?_)
          refine lv_iload_n hx hb dX9_tiesOf_25 rfl (lv_at hl 3 rfl) ?_
          refine lv_iadd hx hb dX9_tiesOf_26 ?_
          refine zg3 (zaddK (i := x_13.toInt) (j := x_2.toInt) (a' := 0) (b' := 63) rfl rfl hx_13.2.1 hx_13.2.2 i3.1 n8 (by decide)) (fun x_14 hx_14 => ?_)
          refine va_iald hx hb hK hP 6 0 rfl rfl (zinK (a := 0) (b := 63) hx_14.2.1 hx_14.2.2 (by decide)) dX9_tiesOf_27 ?_
          refine zg (fun x_15 => ?_)
          refine lv_if_le (tgt := 34) hx hb dX9_tiesOf_28 (by decide) (fun cb9 => ?_) (fun cb9 => ?_)
          · skip
            have c16 : x_15.toInt ≤ 0 := zle cb9 rfl (by decide)
            have n17 : x_15.toInt ≤ 0 := Int.le_trans c16 (Int.le_refl _)
            refine ziinc3 (n' := 1) (a' := 1) (b' := 8) (lv' := fun v9 => [(3, .int v9), (0, .ref o), (1, .int x1), (2, .int x_1)]) hx hb dX9_tiesOf_34 hl (k := 3) rfl (by decide) (fun _ => rfl) (zaddK (i := x_2.toInt) (j := 1) rfl (by decide) i3.1 n8 (Int.le_refl _) (Int.le_refl _) (by decide)) (fun x_18 ls hx_18 hl => ?_)
            refine lv_goto (tgt := 4) hx hb dX9_tiesOf_37 (by decide) ?_
            have hl := lv_sub (l' := [(0, .ref o), (1, .int x1), (2, .int x_1), (3, .int x_18)]) hl [1, 2, 3, 0] rfl
            have hP : va_P g.1 vwCl (List.flatten [bTown g o a pe wo tx ch jo tr dy sd f]) H := hP
            have hD : va_D A (List.flatten [bTown g o a pe wo tx ch jo tr dy sd f]) := hD
            exact ih4_5 x_1 x_18 ⟨(Int.le_trans (by decide) hx_18.2.1), hx_18.2.2⟩ H _ ls (zmK hx_18.1 (by decide) n8 (by decide) hk4_5)  hP hD hS (lv_sub hl [0, 1, 2, 3] rfl)
          · skip
            have c19 : 0 < x_15.toInt := zlti (Int32.not_le.mp cb9) (by decide) rfl
            have n20 : 1 ≤ x_15.toInt := zL2 (a := 0) c19 (Int.le_refl _) (by decide)
            refine ziincG (lv' := fun v9 => [(2, .int v9), (0, .ref o), (1, .int x1), (3, .int x_2)]) hx hb dX9_tiesOf_31 hl (k := 2) rfl (by decide) (fun _ => rfl) (fun x_21 ls hl => ?_)
            refine ziinc3 (n' := 1) (a' := 1) (b' := 8) (lv' := fun v9 => [(3, .int v9), (2, .int x_21), (0, .ref o), (1, .int x1)]) hx hb dX9_tiesOf_34 hl (k := 3) rfl (by decide) (fun _ => rfl) (zaddK (i := x_2.toInt) (j := 1) rfl (by decide) i3.1 n8 (Int.le_refl _) (Int.le_refl _) (by decide)) (fun x_22 ls hx_22 hl => ?_)
            refine lv_goto (tgt := 4) hx hb dX9_tiesOf_37 (by decide) ?_
            have hl := lv_sub (l' := [(0, .ref o), (1, .int x1), (2, .int x_21), (3, .int x_22)]) hl [2, 3, 1, 0] rfl
            have hP : va_P g.1 vwCl (List.flatten [bTown g o a pe wo tx ch jo tr dy sd f]) H := hP
            have hD : va_D A (List.flatten [bTown g o a pe wo tx ch jo tr dy sd f]) := hD
            exact ih4_5 x_21 x_22 ⟨(Int.le_trans (by decide) hx_22.2.1), hx_22.2.2⟩ H _ ls (zmK hx_22.1 (by decide) n8 (by decide) hk4_5)  hP hD hS (lv_sub hl [0, 1, 2, 3] rfl)
  have hP : va_P g.1 vwCl (List.flatten [bTown g o a pe wo tx ch jo tr dy sd f]) s.heap := hP
  have hD : va_D A (List.flatten [bTown g o a pe wo tx ch jo tr dy sd f]) := hD
  exact LP4_4 _ 0 0 (by decide) s.heap _ ls (Nat.lt_succ_self _)  hP hD hS (lv_sub hl [0, 1, 2, 3] rfl)
