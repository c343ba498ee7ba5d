set_option maxRecDepth 100000 in
set_option maxHeartbeats 4000000 in
theorem c_tiesOfF (l : Launch) (g : zG) (o : Nat) (a : Nat → Nat) (pe : Int32) (wo : Int32) (tx : Int32) (ch : Int32) (jo : Int32) (tr : Int32) (dy : Int32) (sd : Int32) (f : Nat → Nat → Int32) (x1 : Int32) (b_pe : 0 ≤ pe.toInt ∧ pe.toInt ≤ 8) (b_wo : 0 ≤ wo.toInt ∧ wo.toInt ≤ 6) (rf : zZ4 f) (b_x1 : 0 ≤ x1.toInt ∧ x1.toInt ≤ 7) : zM' g l yX9_tiesOf (Cond.code yX9_tiesOf cX9_tiesOf 4 (some .int) :: zB) ({ frames := 0, cells := 0, slots := 0, locals := 0 } : Room) [.ref o, .int x1] [bTown g o a pe wo tx ch jo tr dy sd f] (fun _ : Unit => some (.int (zTie f pe.toInt.toNat x1.toInt.toNat))) (fun _ : Unit => True) (fun _ : Unit => [bTown g o a pe wo tx ch jo tr dy sd f]) := by
  refine zM'.of (cc := cX9_tiesOf) (maxL := 4) (rt := (some .int)) (by decide) rfl (Nat.le_of_ble_eq_true rfl) ?_
  intro p e s m args below meth c A ls St hr hlocks hin hK hT hA hP hD hS hl
  obtain ⟨hx, hb, hml, hown, hts⟩ := id St
  have hl : lv_has ls 4 [(0, .ref o), (1, .int x1)] := hl
  refine lv_iconst (v := 0) hx hb dX9_tiesOf_0 (by decide) ?_
  refine lv_istore_n (lv' := [(2, .int 0), (0, .ref o), (1, .int x1)]) hx hb dX9_tiesOf_1 rfl hl (by decide) rfl (fun ls hl => ?_)
  refine lv_iconst (v := 0) hx hb dX9_tiesOf_2 (by decide) ?_
  refine lv_istore_n (lv' := [(3, .int 0), (2, .int 0), (0, .ref o), (1, .int x1)]) hx hb dX9_tiesOf_3 rfl hl (by decide) rfl (fun ls hl => ?_)
  have hl := lv_sub (l' := [(0, .ref o), (1, .int x1), (2, .int 0), (3, .int 0)]) hl [2, 3, 1, 0] rfl
  have LP4_6 : ∀ (kf : Nat) (x_1 : Int32) (x_2 : Int32), (0 ≤ x_2.toInt ∧ x_2.toInt ≤ 8) → (x_1 = zSu (fun o => if o = x1.toInt.toNat then 0 else if 0 < (f 5 (8 * x1.toInt.toNat + o)).toInt then 1 else 0) x_2.toInt.toNat) → (x_2.toInt ≤ pe.toInt) → ∀ (H : Heap) (locs : List Loc) (ls : Array Slot), ((9 - x_2.toInt).toNat) < kf → va_P g.1 vwCl (List.flatten [bTown g o a pe wo tx ch jo tr dy sd f]) H → va_D A (List.flatten [bTown g o a pe wo tx ch jo tr dy sd f]) → va_S A s.heap H locs → lv_has ls 4 [(0, .ref o), (1, .int x1), (2, .int x_1), (3, .int x_2)] → W p l e ({ frames := 0, cells := 0, slots := 0, locals := 0 } : Room) s m args below meth c H locs (0) (0) (zF g (fun _ : Unit => some (.int (zTie f pe.toInt.toNat x1.toInt.toNat))) (fun _ : Unit => True) (fun _ : Unit => [bTown g o a pe wo tx ch jo tr dy sd f]) ({ frames := 0, cells := 0, slots := 0, locals := 0 } : Room) below args s A) (F0 m 4 ls []) := by
    intro kf
    induction kf with
    | zero => intro x_1 x_2 i3 i4 i5 H locs ls hk; exact absurd hk (Nat.not_lt_zero _)
    | succ kf ih4_7 =>
      intro x_1 x_2 i3 i4 i5 H locs ls hk4_7 hP hD hS hl
      refine lv_iload_n hx hb dX9_tiesOf_4 rfl (lv_at hl 3 rfl) ?_
      refine lv_aload_n hx hb dX9_tiesOf_5 rfl (lv_at hl 0 rfl) ?_
      refine va_get (D := g.1) (ci := 7) (v := .int pe) (C := RX9) (T := TX9) (N := 19) hx hb hts izRX9 hown hK hP 0 rfl rfl 0 (by decide) (hts _ k31) (fun _ h9 => h9) rfl dX9_tiesOf_6 ?_
      refine lv_icmp_ge (tgt := 40) hx hb dX9_tiesOf_9 (by decide) (fun cb9 => ?_) (fun cb9 => ?_)
      · skip
        have c8 : pe.toInt ≤ x_2.toInt := zle cb9 rfl rfl
        refine lv_iload_n hx hb dX9_tiesOf_40 rfl (lv_at hl 2 rfl) ?_
        refine ztop (r := (zTie f pe.toInt.toNat x1.toInt.toNat)) (zFo_x i4 (by omega)) ?_
        have hP : va_P g.1 vwCl (List.flatten [bTown g o a pe wo tx ch jo tr dy sd f]) H := hP
        have hD : va_D A (List.flatten [bTown g o a pe wo tx ch jo tr dy sd f]) := hD
        exact mret_i hx hb hr hlocks hS (Nat.le_of_ble_eq_true rfl) (Nat.le_of_ble_eq_true rfl) dX9_tiesOf_41 () rfl trivial hP hD
      · skip
        have c9 : x_2.toInt < pe.toInt := zlti (Int32.not_le.mp cb9) rfl rfl
        have n10 : x_2.toInt ≤ 7 := zL1 (b := 8) c9 b_pe.2 (by decide)
        have n11 : 1 ≤ pe.toInt := zL2 (a := 0) c9 i3.1 (by decide)
        refine lv_iload_n hx hb dX9_tiesOf_12 rfl (lv_at hl 3 rfl) ?_
        refine lv_iload_n hx hb dX9_tiesOf_13 rfl (lv_at hl 1 rfl) ?_
        refine lv_icmp_eq (tgt := 34) hx hb dX9_tiesOf_14 (by decide) (fun cb9 => ?_) (fun cb9 => ?_)
        · skip
          have c12 : x_2.toInt = x1.toInt := zeq cb9 rfl rfl
          refine ziinc3 (n' := 1) (a' := 1) (b' := 8) (lv' := fun v9 => [(3, .int v9), (0, .ref o), (1, .int x1), (2, .int x_1)]) hx hb dX9_tiesOf_34 hl (k := 3) rfl (by decide) (fun _ => rfl) (zaddK (i := x_2.toInt) (j := 1) rfl (by decide) i3.1 n10 (Int.le_refl _) (Int.le_refl _) (by decide)) (fun x_13 ls hx_13 hl => ?_)
          refine lv_goto (tgt := 4) hx hb dX9_tiesOf_37 (by decide) ?_
          have hl := lv_sub (l' := [(0, .ref o), (1, .int x1), (2, .int x_1), (3, .int x_13)]) hl [1, 2, 3, 0] rfl
          have hP : va_P g.1 vwCl (List.flatten [bTown g o a pe wo tx ch jo tr dy sd f]) H := hP
          have hD : va_D A (List.flatten [bTown g o a pe wo tx ch jo tr dy sd f]) := hD
          exact ih4_7 x_1 x_13 ⟨(Int.le_trans (by decide) hx_13.2.1), hx_13.2.2⟩ (zFo_s i4 hx_13.1 (by omega) (by (try dsimp only); (repeat' split) <;> first | rfl | exact (Int32.add_zero _).symm | exact Int32.or_zero.symm | (exfalso; omega))) (by first | omega | assumption | decide) H _ ls (zmK hx_13.1 (by decide) n10 (by decide) hk4_7)  hP hD hS (lv_sub hl [0, 1, 2, 3] rfl)
        · skip
          have c14 : ¬ x_2.toInt = x1.toInt := zne cb9 rfl rfl
          refine lv_aload_n hx hb dX9_tiesOf_17 rfl (lv_at hl 0 rfl) ?_
          refine va_get (D := g.1) (ci := 7) (v := .ref (a 5)) (C := RX9) (T := TX9) (N := 19) hx hb hts izRX9 hown hK hP 0 rfl rfl 13 (by decide) (hts _ k15) (fun _ h9 => h9) rfl dX9_tiesOf_18 ?_
          refine lv_iload_n hx hb dX9_tiesOf_21 rfl (lv_at hl 1 rfl) ?_
          refine lv_bipush (v := 8) hx hb dX9_tiesOf_22 (by decide) ?_
          refine lv_imul hx hb dX9_tiesOf_24 ?_
          refine zg3 (zmulKR (i := x1.toInt) (n := 8) (a' := 0) (b' := 56) rfl (by decide) b_x1.1 b_x1.2 (by decide) (by decide)) (fun x_15 hx_15 => ?_)
          refine lv_iload_n hx hb dX9_tiesOf_25 rfl (lv_at hl 3 rfl) ?_
          refine lv_iadd hx hb dX9_tiesOf_26 ?_
          refine zg3 (zaddK (i := x_15.toInt) (j := x_2.toInt) (a' := 0) (b' := 63) rfl rfl hx_15.2.1 hx_15.2.2 i3.1 n10 (by decide)) (fun x_16 hx_16 => ?_)
          refine va_iald hx hb hK hP 6 0 rfl rfl (zinK (a := 0) (b := 63) hx_16.2.1 hx_16.2.2 (by decide)) dX9_tiesOf_27 ?_
          refine ztop (r := (f 5 (8 * x1.toInt.toNat + x_2.toInt.toNat))) (zixF (by omega)) ?_
          refine lv_if_le (tgt := 34) hx hb dX9_tiesOf_28 (by decide) (fun cb9 => ?_) (fun cb9 => ?_)
          · skip
            have c17 : (f 5 (8 * x1.toInt.toNat + x_2.toInt.toNat)).toInt ≤ 0 := zle cb9 rfl (by decide)
            have n18 : (f 5 (8 * x1.toInt.toNat + x_2.toInt.toNat)).toInt ≤ 0 := Int.le_trans c17 (Int.le_refl _)
            refine ziinc3 (n' := 1) (a' := 1) (b' := 8) (lv' := fun v9 => [(3, .int v9), (0, .ref o), (1, .int x1), (2, .int x_1)]) hx hb dX9_tiesOf_34 hl (k := 3) rfl (by decide) (fun _ => rfl) (zaddK (i := x_2.toInt) (j := 1) rfl (by decide) i3.1 n10 (Int.le_refl _) (Int.le_refl _) (by decide)) (fun x_19 ls hx_19 hl => ?_)
            refine lv_goto (tgt := 4) hx hb dX9_tiesOf_37 (by decide) ?_
            have hl := lv_sub (l' := [(0, .ref o), (1, .int x1), (2, .int x_1), (3, .int x_19)]) hl [1, 2, 3, 0] rfl
            have hP : va_P g.1 vwCl (List.flatten [bTown g o a pe wo tx ch jo tr dy sd f]) H := hP
            have hD : va_D A (List.flatten [bTown g o a pe wo tx ch jo tr dy sd f]) := hD
            exact ih4_7 x_1 x_19 ⟨(Int.le_trans (by decide) hx_19.2.1), hx_19.2.2⟩ (zFo_s i4 hx_19.1 (by omega) (by (try dsimp only); (repeat' split) <;> first | rfl | exact (Int32.add_zero _).symm | exact Int32.or_zero.symm | (exfalso; omega))) (by first | omega | assumption | decide) H _ ls (zmK hx_19.1 (by decide) n10 (by decide) hk4_7)  hP hD hS (lv_sub hl [0, 1, 2, 3] rfl)
          · skip
            have c20 : 0 < (f 5 (8 * x1.toInt.toNat + x_2.toInt.toNat)).toInt := zlti (Int32.not_le.mp cb9) (by decide) rfl
            have n21 : 1 ≤ (f 5 (8 * x1.toInt.toNat + x_2.toInt.toNat)).toInt := zL2 (a := 0) c20 (Int.le_refl _) (by decide)
            refine lv_iinc (v := x_1 + 1) (lv' := [(2, .int (x_1 + 1)), (0, .ref o), (1, .int x1), (3, .int x_2)]) hx hb dX9_tiesOf_31 hl (k := 2) rfl rfl (by decide) rfl (fun ls hl => ?_)
            refine ziinc3 (n' := 1) (a' := 1) (b' := 8) (lv' := fun v9 => [(3, .int v9), (2, .int (x_1 + 1)), (0, .ref o), (1, .int x1)]) hx hb dX9_tiesOf_34 hl (k := 3) rfl (by decide) (fun _ => rfl) (zaddK (i := x_2.toInt) (j := 1) rfl (by decide) i3.1 n10 (Int.le_refl _) (Int.le_refl _) (by decide)) (fun x_22 ls hx_22 hl => ?_)
            refine lv_goto (tgt := 4) hx hb dX9_tiesOf_37 (by decide) ?_
            have hl := lv_sub (l' := [(0, .ref o), (1, .int x1), (2, .int (x_1 + 1)), (3, .int x_22)]) hl [2, 3, 1, 0] rfl
            have hP : va_P g.1 vwCl (List.flatten [bTown g o a pe wo tx ch jo tr dy sd f]) H := hP
            have hD : va_D A (List.flatten [bTown g o a pe wo tx ch jo tr dy sd f]) := hD
            exact ih4_7 (x_1 + 1) x_22 ⟨(Int.le_trans (by decide) hx_22.2.1), hx_22.2.2⟩ (zFo_s i4 hx_22.1 (by omega) (by (try dsimp only); (repeat' split) <;> first | rfl | exact (Int32.add_zero _).symm | exact Int32.or_zero.symm | (exfalso; omega))) (by first | omega | assumption | decide) H _ ls (zmK hx_22.1 (by decide) n10 (by decide) hk4_7)  hP hD hS (lv_sub hl [0, 1, 2, 3] rfl)
  have hL0 : (0 : Int32).toInt = 0 := by decide
  have hP : va_P g.1 vwCl (List.flatten [bTown g o a pe wo tx ch jo tr dy sd f]) s.heap := hP
  have hD : va_D A (List.flatten [bTown g o a pe wo tx ch jo tr dy sd f]) := hD
  exact LP4_6 _ 0 0 (by decide) (zFo_0 (by decide) (by decide)) (by first | omega | assumption | decide) s.heap _ ls (Nat.lt_succ_self _)  hP hD hS (lv_sub hl [0, 1, 2, 3] rfl)
set_option maxRecDepth 100000 in
set_option maxHeartbeats 4000000 in
theorem c_worksInF (l : Launch) (g : zG) (o : Nat) (a : Nat → Nat) (pe : Int32) (wo : Int32) (tx : Int32) (ch : Int32) (jo : Int32) (tr : Int32) (dy : Int32) (sd : Int32) (f : Nat → Nat → Int32) (wh : Int32) (b_pe : 0 ≤ pe.toInt ∧ pe.toInt ≤ 8) (b_wo : 0 ≤ wo.toInt ∧ wo.toInt ≤ 6) (rf : zZ4 f) : zM' g l yX9_worksIn (Cond.code yX9_worksIn cX9_worksIn 4 (some .int) :: zB) ({ frames := 0, cells := 0, slots := 0, locals := 0 } : Room) [.ref o, .int wh] [bTown g o a pe wo tx ch jo tr dy sd f] (fun _ : Unit => some (.int (zWks f wo.toInt.toNat wh))) (fun _ : Unit => True) (fun _ : Unit => [bTown g o a pe wo tx ch jo tr dy sd f]) := by
  refine zM'.of (cc := cX9_worksIn) (maxL := 4) (rt := (some .int)) (by decide) rfl (Nat.le_of_ble_eq_true rfl) ?_
  intro p e s m args below meth c A ls St hr hlocks hin hK hT hA hP hD hS hl
  obtain ⟨hx, hb, hml, hown, hts⟩ := id St
  have hl : lv_has ls 4 [(0, .ref o), (1, .int wh)] := hl
  refine lv_iconst (v := 0) hx hb dX9_worksIn_0 (by decide) ?_
  refine lv_istore_n (lv' := [(2, .int 0), (0, .ref o), (1, .int wh)]) hx hb dX9_worksIn_1 rfl hl (by decide) rfl (fun ls hl => ?_)
  refine lv_iconst (v := 0) hx hb dX9_worksIn_2 (by decide) ?_
  refine lv_istore_n (lv' := [(3, .int 0), (2, .int 0), (0, .ref o), (1, .int wh)]) hx hb dX9_worksIn_3 rfl hl (by decide) rfl (fun ls hl => ?_)
  have hl := lv_sub (l' := [(0, .ref o), (1, .int wh), (2, .int 0), (3, .int 0)]) hl [2, 3, 1, 0] rfl
  have LP4_6 : ∀ (kf : Nat) (x_1 : Int32) (x_2 : Int32), (0 ≤ x_2.toInt ∧ x_2.toInt ≤ 6) → (x_1 = zOf (fun w => if (f 9 w).toInt = wh.toInt then zBit w else 0) x_2.toInt.toNat) → (x_2.toInt ≤ wo.toInt) → ∀ (H : Heap) (locs : List Loc) (ls : Array Slot), ((7 - x_2.toInt).toNat) < kf → va_P g.1 vwCl (List.flatten [bTown g o a pe wo tx ch jo tr dy sd f]) H → va_D A (List.flatten [bTown g o a pe wo tx ch jo tr dy sd f]) → va_S A s.heap H locs → lv_has ls 4 [(0, .ref o), (1, .int wh), (2, .int x_1), (3, .int x_2)] → W p l e ({ frames := 0, cells := 0, slots := 0, locals := 0 } : Room) s m args below meth c H locs (0) (0) (zF g (fun _ : Unit => some (.int (zWks f wo.toInt.toNat wh))) (fun _ : Unit => True) (fun _ : Unit => [bTown g o a pe wo tx ch jo tr dy sd f]) ({ frames := 0, cells := 0, slots := 0, locals := 0 } : Room) below args s A) (F0 m 4 ls []) := by
    intro kf
    induction kf with
    | zero => intro x_1 x_2 i3 i4 i5 H locs ls hk; exact absurd hk (Nat.not_lt_zero _)
    | succ kf ih4_7 =>
      intro x_1 x_2 i3 i4 i5 H locs ls hk4_7 hP hD hS hl
      refine lv_iload_n hx hb dX9_worksIn_4 rfl (lv_at hl 3 rfl) ?_
      refine lv_aload_n hx hb dX9_worksIn_5 rfl (lv_at hl 0 rfl) ?_
      refine va_get (D := g.1) (ci := 7) (v := .int wo) (C := RX9) (T := TX9) (N := 19) hx hb hts izRX9 hown hK hP 0 rfl rfl 1 (by decide) (hts _ k32) (fun _ h9 => h9) rfl dX9_worksIn_6 ?_
      refine lv_icmp_ge (tgt := 34) hx hb dX9_worksIn_9 (by decide) (fun cb9 => ?_) (fun cb9 => ?_)
      · skip
        have c8 : wo.toInt ≤ x_2.toInt := zle cb9 rfl rfl
        refine lv_iload_n hx hb dX9_worksIn_34 rfl (lv_at hl 2 rfl) ?_
        refine ztop (r := (zWks f wo.toInt.toNat wh)) (zFo_x i4 (by omega)) ?_
        have hP : va_P g.1 vwCl (List.flatten [bTown g o a pe wo tx ch jo tr dy sd f]) H := hP
        have hD : va_D A (List.flatten [bTown g o a pe wo tx ch jo tr dy sd f]) := hD
        exact mret_i hx hb hr hlocks hS (Nat.le_of_ble_eq_true rfl) (Nat.le_of_ble_eq_true rfl) dX9_worksIn_35 () rfl trivial hP hD
      · skip
        have c9 : x_2.toInt < wo.toInt := zlti (Int32.not_le.mp cb9) rfl rfl
        have n10 : x_2.toInt ≤ 5 := zL1 (b := 6) c9 b_wo.2 (by decide)
        have n11 : 1 ≤ wo.toInt := zL2 (a := 0) c9 i3.1 (by decide)
        refine lv_aload_n hx hb dX9_worksIn_12 rfl (lv_at hl 0 rfl) ?_
        refine va_get (D := g.1) (ci := 7) (v := .ref (a 9)) (C := RX9) (T := TX9) (N := 19) hx hb hts izRX9 hown hK hP 0 rfl rfl 17 (by decide) (hts _ k19) (fun _ h9 => h9) rfl dX9_worksIn_13 ?_
        refine lv_iload_n hx hb dX9_worksIn_16 rfl (lv_at hl 3 rfl) ?_
        refine va_iald hx hb hK hP 10 0 rfl rfl (zinK (a := 0) (b := 5) i3.1 n10 (by decide)) dX9_worksIn_17 ?_
        refine ztop (r := (f 9 x_2.toInt.toNat)) rfl ?_
        refine lv_iload_n hx hb dX9_worksIn_18 rfl (lv_at hl 1 rfl) ?_
        refine lv_icmp_ne (tgt := 28) hx hb dX9_worksIn_19 (by decide) (fun cb9 => ?_) (fun cb9 => ?_)
        · skip
          have c12 : ¬ (f 9 x_2.toInt.toNat).toInt = wh.toInt := zne cb9 rfl rfl
          refine ziinc3 (n' := 1) (a' := 1) (b' := 6) (lv' := fun v9 => [(3, .int v9), (0, .ref o), (1, .int wh), (2, .int x_1)]) hx hb dX9_worksIn_28 hl (k := 3) rfl (by decide) (fun _ => rfl) (zaddK (i := x_2.toInt) (j := 1) rfl (by decide) i3.1 n10 (Int.le_refl _) (Int.le_refl _) (by decide)) (fun x_13 ls hx_13 hl => ?_)
          refine lv_goto (tgt := 4) hx hb dX9_worksIn_31 (by decide) ?_
          have hl := lv_sub (l' := [(0, .ref o), (1, .int wh), (2, .int x_1), (3, .int x_13)]) hl [1, 2, 3, 0] rfl
          have hP : va_P g.1 vwCl (List.flatten [bTown g o a pe wo tx ch jo tr dy sd f]) H := hP
          have hD : va_D A (List.flatten [bTown g o a pe wo tx ch jo tr dy sd f]) := hD
          exact ih4_7 x_1 x_13 ⟨(Int.le_trans (by decide) hx_13.2.1), hx_13.2.2⟩ (zFo_s i4 hx_13.1 (by omega) (by (try dsimp only); (repeat' split) <;> first | rfl | exact (Int32.add_zero _).symm | exact Int32.or_zero.symm | (exfalso; omega))) (by first | omega | assumption | decide) H _ ls (zmK hx_13.1 (by decide) n10 (by decide) hk4_7)  hP hD hS (lv_sub hl [0, 1, 2, 3] rfl)
        · skip
          have c14 : (f 9 x_2.toInt.toNat).toInt = wh.toInt := zeq cb9 rfl rfl
          refine lv_iload_n hx hb dX9_worksIn_22 rfl (lv_at hl 2 rfl) ?_
          refine lv_iconst (v := 1) hx hb dX9_worksIn_23 (by decide) ?_
          refine lv_iload_n hx hb dX9_worksIn_24 rfl (lv_at hl 3 rfl) ?_
          refine lv_ishl hx hb dX9_worksIn_25 ?_
          refine ztop (r := (zBit x_2.toInt.toNat)) (zBit_k i3.1) ?_
          refine lv_ior hx hb dX9_worksIn_26 ?_
          refine lv_istore_n (lv' := [(2, .int (x_1 ||| (zBit x_2.toInt.toNat))), (0, .ref o), (1, .int wh), (3, .int x_2)]) hx hb dX9_worksIn_27 rfl hl (by decide) rfl (fun ls hl => ?_)
          refine ziinc3 (n' := 1) (a' := 1) (b' := 6) (lv' := fun v9 => [(3, .int v9), (2, .int (x_1 ||| (zBit x_2.toInt.toNat))), (0, .ref o), (1, .int wh)]) hx hb dX9_worksIn_28 hl (k := 3) rfl (by decide) (fun _ => rfl) (zaddK (i := x_2.toInt) (j := 1) rfl (by decide) i3.1 n10 (Int.le_refl _) (Int.le_refl _) (by decide)) (fun x_15 ls hx_15 hl => ?_)
          refine lv_goto (tgt := 4) hx hb dX9_worksIn_31 (by decide) ?_
          have hl := lv_sub (l' := [(0, .ref o), (1, .int wh), (2, .int (x_1 ||| (zBit x_2.toInt.toNat))), (3, .int x_15)]) hl [2, 3, 1, 0] rfl
          have hP : va_P g.1 vwCl (List.flatten [bTown g o a pe wo tx ch jo tr dy sd f]) H := hP
          have hD : va_D A (List.flatten [bTown g o a pe wo tx ch jo tr dy sd f]) := hD
          exact ih4_7 (x_1 ||| (zBit x_2.toInt.toNat)) x_15 ⟨(Int.le_trans (by decide) hx_15.2.1), hx_15.2.2⟩ (zFo_s i4 hx_15.1 (by omega) (by (try dsimp only); (repeat' split) <;> first | rfl | exact (Int32.add_zero _).symm | exact Int32.or_zero.symm | (exfalso; omega))) (by first | omega | assumption | decide) H _ ls (zmK hx_15.1 (by decide) n10 (by decide) hk4_7)  hP hD hS (lv_sub hl [0, 1, 2, 3] rfl)
  have hL0 : (0 : Int32).toInt = 0 := by decide
  have hP : va_P g.1 vwCl (List.flatten [bTown g o a pe wo tx ch jo tr dy sd f]) s.heap := hP
  have hD : va_D A (List.flatten [bTown g o a pe wo tx ch jo tr dy sd f]) := hD
  exact LP4_6 _ 0 0 (by decide) (zFo_0 (by decide) (by decide)) (by first | omega | assumption | decide) s.heap _ ls (Nat.lt_succ_self _)  hP hD hS (lv_sub hl [0, 1, 2, 3] rfl)
set_option maxRecDepth 100000 in
set_option maxHeartbeats 4000000 in
theorem c_meanBeliefF (l : Launch) (g : zG) (o : Nat) (a : Nat → Nat) (pe : Int32) (wo : Int32) (tx : Int32) (ch : Int32) (jo : Int32) (tr : Int32) (dy : Int32) (sd : Int32) (f : Nat → Nat → Int32) (b_pe : 0 ≤ pe.toInt ∧ pe.toInt ≤ 8) (b_wo : 0 ≤ wo.toInt ∧ wo.toInt ≤ 6) (rf : zZ4 f) : zM' g l yX9_meanBelief (Cond.code yX9_meanBelief cX9_meanBelief 2 (some .int) :: zB) ({ frames := 2, cells := 0, slots := 0, locals := 43 } : Room) [.ref o] [bTown g o a pe wo tx ch jo tr dy sd f] (fun _ : Unit => some (.int (zMean f pe.toInt.toNat))) (fun _ : Unit => True) (fun _ : Unit => [bTown g o a pe wo tx ch jo tr dy sd f]) := by
  refine zM'.of (cc := cX9_meanBelief) (maxL := 2) (rt := (some .int)) (by decide) rfl (Nat.le_of_ble_eq_true rfl) ?_
  intro p e s m args below meth c A ls St hr hlocks hin hK hT hA hP hD hS hl
  obtain ⟨hx, hb, hml, hown, hts⟩ := id St
  have hl : lv_has ls 2 [(0, .ref o)] := hl
  refine lv_aload_n hx hb dX9_meanBelief_0 rfl (lv_at hl 0 rfl) ?_
  refine mcallV' (g := g) (q0 := 0) (ci := 7) (As := []) (rest := []) St hK hT hA hP hD hS hl.1 [0] [] rfl rfl rfl (c_peopleHereF l g o a pe wo tx ch jo tr dy sd f b_pe b_wo rf) (cwV 0 hts (zgL (zl4 k62 k63 k64 k24) k52) rfl rfl rfl (by decide +kernel) ⟨Nat.le_of_ble_eq_true rfl, Nat.le_of_ble_eq_true rfl⟩) rfl rfl rfl rfl (Nat.le_of_ble_eq_true rfl) dX9_meanBelief_1 ⟨(Nat.le_of_ble_eq_true rfl), (Nat.le_of_ble_eq_true rfl)⟩ (fun _u H locs hq1 hP hD hS => ?_)
  have hP : va_P g.1 vwCl (List.flatten [bTown g o a pe wo tx ch jo tr dy sd f]) H := hP
  have hD : va_D A (List.flatten [bTown g o a pe wo tx ch jo tr dy sd f]) := hD
  refine W.widen (k := 0) (n := 0) (Nat.le_of_ble_eq_true rfl) (Nat.le_of_ble_eq_true rfl) ?_
  refine W.eq (g2 := F0 m 4 ls [.int (zHs f pe.toInt.toNat)]) rfl ?_
  refine mcallS' (g := g) (As := [.int (zHs f pe.toInt.toNat)]) (rest := []) St hK hT hA hP hD hS hl.1 [] [0] rfl rfl rfl (j_bitCountF l g (zHs f pe.toInt.toNat) (⟨(zHs_i f (n := pe.toInt.toNat) (by omega)).1, (zHs_i f (n := pe.toInt.toNat) (by omega)).2⟩)) (va_cwS 1 hts (zgL (zl3 k65 k66 k67) k56) rfl rfl rfl (by decide +kernel) ⟨Nat.le_of_ble_eq_true rfl, Nat.le_of_ble_eq_true rfl⟩) rfl rfl (Nat.le_of_ble_eq_true rfl) dX9_meanBelief_4 ⟨(Nat.le_of_ble_eq_true rfl), (Nat.le_of_ble_eq_true rfl)⟩ (fun _u H locs hq2 hP hD hS => ?_)
  have hP : va_P g.1 vwCl (List.flatten [bTown g o a pe wo tx ch jo tr dy sd f]) H := hP
  have hD : va_D A (List.flatten [bTown g o a pe wo tx ch jo tr dy sd f]) := hD
  refine W.widen (k := 0) (n := 0) (Nat.le_of_ble_eq_true rfl) (Nat.le_of_ble_eq_true rfl) ?_
  refine W.eq (g2 := F0 m 7 ls [.int (zPop (zHs f pe.toInt.toNat))]) rfl ?_
  refine lv_istore_n (lv' := [(1, .int (zPop (zHs f pe.toInt.toNat))), (0, .ref o)]) hx hb dX9_meanBelief_7 rfl hl (by decide) rfl (fun ls hl => ?_)
  refine lv_iload_n hx hb dX9_meanBelief_8 rfl (lv_at hl 0 rfl) ?_
  refine lv_if_ne (tgt := 16) hx hb dX9_meanBelief_9 (by decide) (fun cb9 => ?_) (fun cb9 => ?_)
  · skip
    have c3 : ¬ (zPop (zHs f pe.toInt.toNat)).toInt = 0 := zne cb9 rfl (by decide)
    refine lv_aload_n hx hb dX9_meanBelief_16 rfl (lv_at hl 1 rfl) ?_
    refine mcallV' (g := g) (q0 := 0) (ci := 7) (As := []) (rest := []) St hK hT hA hP hD hS hl.1 [0] [] rfl rfl rfl (c_believedF l g o a pe wo tx ch jo tr dy sd f b_pe b_wo rf) (cwV 0 hts (zgL (zl4 k68 k69 k70 k24) k60) rfl rfl rfl (by decide +kernel) ⟨Nat.le_of_ble_eq_true rfl, Nat.le_of_ble_eq_true rfl⟩) rfl rfl rfl rfl (Nat.le_of_ble_eq_true rfl) dX9_meanBelief_17 ⟨(Nat.le_of_ble_eq_true rfl), (Nat.le_of_ble_eq_true rfl)⟩ (fun _u H locs hq4 hP hD hS => ?_)
    have hP : va_P g.1 vwCl (List.flatten [bTown g o a pe wo tx ch jo tr dy sd f]) H := hP
    have hD : va_D A (List.flatten [bTown g o a pe wo tx ch jo tr dy sd f]) := hD
    refine W.widen (k := 0) (n := 0) (Nat.le_of_ble_eq_true rfl) (Nat.le_of_ble_eq_true rfl) ?_
    refine W.eq (g2 := F0 m 20 ls [.int (zBel f pe.toInt.toNat)]) rfl ?_
    refine lv_iload_n hx hb dX9_meanBelief_20 rfl (lv_at hl 0 rfl) ?_
    refine lv_idiv hx hb dX9_meanBelief_21 (zne0 (by omega)) ?_
    refine ztop (r := (zMean f pe.toInt.toNat)) (by unfold zMean; rw [if_neg (by omega)]) ?_
    have hP : va_P g.1 vwCl (List.flatten [bTown g o a pe wo tx ch jo tr dy sd f]) H := hP
    have hD : va_D A (List.flatten [bTown g o a pe wo tx ch jo tr dy sd f]) := hD
    exact mret_i hx hb hr hlocks hS (Nat.le_of_ble_eq_true rfl) (Nat.le_of_ble_eq_true rfl) dX9_meanBelief_22 () rfl trivial hP hD
  · skip
    have c5 : (zPop (zHs f pe.toInt.toNat)).toInt = 0 := zeq cb9 rfl (by decide)
    have n6 : 0 ≤ (zPop (zHs f pe.toInt.toNat)).toInt := Int.le_trans (Int.le_refl _) (Int.le_of_eq c5.symm)
    have n7 : (zPop (zHs f pe.toInt.toNat)).toInt ≤ 0 := Int.le_trans (Int.le_of_eq c5) (Int.le_refl _)
    refine lv_iconst (v := 0) hx hb dX9_meanBelief_12 (by decide) ?_
    refine lv_goto (tgt := 22) hx hb dX9_meanBelief_13 (by decide) ?_
    refine ztop (r := (zMean f pe.toInt.toNat)) (by unfold zMean; rw [if_pos (by omega)]) ?_
    have hP : va_P g.1 vwCl (List.flatten [bTown g o a pe wo tx ch jo tr dy sd f]) H := hP
    have hD : va_D A (List.flatten [bTown g o a pe wo tx ch jo tr dy sd f]) := hD
    exact mret_i hx hb hr hlocks hS (Nat.le_of_ble_eq_true rfl) (Nat.le_of_ble_eq_true rfl) dX9_meanBelief_22 () rfl trivial hP hD
set_option maxRecDepth 100000 in
set_option maxHeartbeats 4000000 in
theorem c_sharePriceF (l : Launch) (g : zG) (o : Nat) (a : Nat → Nat) (pe : Int32) (wo : Int32) (tx : Int32) (ch : Int32) (jo : Int32) (tr : Int32) (dy : Int32) (sd : Int32) (f : Nat → Nat → Int32) (b_pe : 0 ≤ pe.toInt ∧ pe.toInt ≤ 8) (b_wo : 0 ≤ wo.toInt ∧ wo.toInt ≤ 6) (rf : zZ4 f) : zM' g l yX9_sharePrice (Cond.code yX9_sharePrice cX9_sharePrice 2 (some .int) :: zB) ({ frames := 3, cells := 0, slots := 0, locals := 64 } : Room) [.ref o] [bTown g o a pe wo tx ch jo tr dy sd f] (fun _ : Unit => some (.int (zPrice f pe.toInt.toNat))) (fun _ : Unit => True) (fun _ : Unit => [bTown g o a pe wo tx ch jo tr dy sd f]) := by
  refine zM'.of (cc := cX9_sharePrice) (maxL := 2) (rt := (some .int)) (by decide) rfl (Nat.le_of_ble_eq_true rfl) ?_
  intro p e s m args below meth c A ls St hr hlocks hin hK hT hA hP hD hS hl
  obtain ⟨hx, hb, hml, hown, hts⟩ := id St
  have hl : lv_has ls 2 [(0, .ref o)] := hl
  refine lv_aload_n hx hb dX9_sharePrice_0 rfl (lv_at hl 0 rfl) ?_
  refine mcallV' (g := g) (q0 := 0) (ci := 7) (As := []) (rest := []) St hK hT hA hP hD hS hl.1 [0] [] rfl rfl rfl (c_meanBeliefF l g o a pe wo tx ch jo tr dy sd f b_pe b_wo rf) (cwV 0 hts (zgL (zl4 k76 k77 k78 k24) k61) rfl rfl rfl (by decide +kernel) ⟨Nat.le_of_ble_eq_true rfl, Nat.le_of_ble_eq_true rfl⟩) rfl rfl rfl rfl (Nat.le_of_ble_eq_true rfl) dX9_sharePrice_1 ⟨(Nat.le_of_ble_eq_true rfl), (Nat.le_of_ble_eq_true rfl)⟩ (fun _u H locs hq1 hP hD hS => ?_)
  have hP : va_P g.1 vwCl (List.flatten [bTown g o a pe wo tx ch jo tr dy sd f]) H := hP
  have hD : va_D A (List.flatten [bTown g o a pe wo tx ch jo tr dy sd f]) := hD
  refine W.widen (k := 0) (n := 0) (Nat.le_of_ble_eq_true rfl) (Nat.le_of_ble_eq_true rfl) ?_
  refine W.eq (g2 := F0 m 4 ls [.int (zMean f pe.toInt.toNat)]) rfl ?_
  refine lv_istore_n (lv' := [(1, .int (zMean f pe.toInt.toNat)), (0, .ref o)]) hx hb dX9_sharePrice_4 rfl hl (by decide) rfl (fun ls hl => ?_)
  refine lv_iload_n hx hb dX9_sharePrice_5 rfl (lv_at hl 0 rfl) ?_
  refine lv_iload_n hx hb dX9_sharePrice_6 rfl (lv_at hl 0 rfl) ?_
  refine lv_imul hx hb dX9_sharePrice_7 ?_
  refine lv_bipush (v := 50) hx hb dX9_sharePrice_8 (by decide) ?_
  refine lv_idiv hx hb dX9_sharePrice_10 (by decide) ?_
  refine lv_iconst (v := 1) hx hb dX9_sharePrice_11 (by decide) ?_
  refine lv_iadd hx hb dX9_sharePrice_12 ?_
  refine ztop (r := (zPrice f pe.toInt.toNat)) rfl ?_
  have hP : va_P g.1 vwCl (List.flatten [bTown g o a pe wo tx ch jo tr dy sd f]) H := hP
  have hD : va_D A (List.flatten [bTown g o a pe wo tx ch jo tr dy sd f]) := hD
  exact mret_i hx hb hr hlocks hS (Nat.le_of_ble_eq_true rfl) (Nat.le_of_ble_eq_true rfl) dX9_sharePrice_13 () rfl trivial hP hD
set_option maxRecDepth 100000 in
set_option maxHeartbeats 4000000 in
theorem c_withinF (l : Launch) (g : zG) (o : Nat) (a : Nat → Nat) (pe : Int32) (wo : Int32) (tx : Int32) (ch : Int32) (jo : Int32) (tr : Int32) (dy : Int32) (sd : Int32) (f : Nat → Nat → Int32) (v : Int32)  : zM' g l yX9_within (Cond.code yX9_within cX9_within 2 (some .int) :: zB) ({ frames := 1, cells := 0, slots := 0, locals := 14 } : Room) [.ref o, .int v] [bTown g o a pe wo tx ch jo tr dy sd f] (fun _ : Unit => some (.int (zCl v))) (fun _ : Unit => True) (fun _ : Unit => [bTown g o a pe wo tx ch jo tr dy sd f]) := by
  refine zM'.of (cc := cX9_within) (maxL := 2) (rt := (some .int)) (by decide) rfl (Nat.le_of_ble_eq_true rfl) ?_
  intro p e s m args below meth c A ls St hr hlocks hin hK hT hA hP hD hS hl
  obtain ⟨hx, hb, hml, hown, hts⟩ := id St
  have hl : lv_has ls 2 [(0, .ref o), (1, .int v)] := hl
  refine lv_iconst (v := 0) hx hb dX9_within_0 (by decide) ?_
  refine lv_bipush (v := 99) hx hb dX9_within_1 (by decide) ?_
  refine lv_iload_n hx hb dX9_within_3 rfl (lv_at hl 1 rfl) ?_
  refine va_mmin hx hb (by rw [hml]; exact hl.1.symm) hown (hts _ k40) (hts _ k41) (hts _ k42) (hts _ k43) (Nat.le_of_ble_eq_true rfl) (Nat.le_of_ble_eq_true rfl) (Nat.le_of_ble_eq_true rfl) (Nat.le_of_ble_eq_true rfl) dX9_within_4 ?_
  refine va_mmax hx hb (by rw [hml]; exact hl.1.symm) hown (hts _ k44) (hts _ k45) (hts _ k42) (hts _ k46) (Nat.le_of_ble_eq_true rfl) (Nat.le_of_ble_eq_true rfl) (Nat.le_of_ble_eq_true rfl) (Nat.le_of_ble_eq_true rfl) dX9_within_7 ?_
  refine ztop (r := (zCl v)) (zCl_m v) ?_
  have hP : va_P g.1 vwCl (List.flatten [bTown g o a pe wo tx ch jo tr dy sd f]) s.heap := hP
  have hD : va_D A (List.flatten [bTown g o a pe wo tx ch jo tr dy sd f]) := hD
  exact mret_i hx hb hr hlocks hS (Nat.le_of_ble_eq_true rfl) (Nat.le_of_ble_eq_true rfl) dX9_within_10 () rfl trivial hP hD
set_option maxRecDepth 100000 in
set_option maxHeartbeats 4000000 in
theorem c_raiseF (l : Launch) (g : zG) (o : Nat) (a : Nat → Nat) (pe : Int32) (wo : Int32) (tx : Int32) (ch : Int32) (jo : Int32) (tr : Int32) (dy : Int32) (sd : Int32) (f : Nat → Nat → Int32) (x1 : Int32) (by9 : Int32) (rf : zZ4 f) (b_x1 : 0 ≤ x1.toInt ∧ x1.toInt ≤ 7) : zM' g l yX9_raise (Cond.code yX9_raise cX9_raise 3 none :: zB) ({ frames := 2, cells := 0, slots := 0, locals := 35 } : Room) [.ref o, .int x1, .int by9] [bTown g o a pe wo tx ch jo tr dy sd f] (fun (f2 : Nat → Nat → Int32) => none) (fun (f2 : Nat → Nat → Int32) => (zZ4 f2) ∧ (f2 = zSet f 0 (x1.toInt.toNat) (zCl (f 0 x1.toInt.toNat + by9)))) (fun (f2 : Nat → Nat → Int32) => [bTown g o a pe wo tx ch jo tr dy sd f2]) := by
  refine zM'.of (cc := cX9_raise) (maxL := 3) (rt := none) (by decide) rfl (Nat.le_of_ble_eq_true rfl) ?_
  intro p e s m args below meth c A ls St hr hlocks hin hK hT hA hP hD hS hl
  obtain ⟨hx, hb, hml, hown, hts⟩ := id St
  have hl : lv_has ls 3 [(0, .ref o), (1, .int x1), (2, .int by9)] := hl
  refine lv_aload_n hx hb dX9_raise_0 rfl (lv_at hl 0 rfl) ?_
  refine va_get (D := g.1) (ci := 7) (v := .ref (a 0)) (C := RX9) (T := TX9) (N := 19) hx hb hts izRX9 hown hK hP 0 rfl rfl 8 (by decide) (hts _ k9) (fun _ h9 => h9) rfl dX9_raise_1 ?_
  refine lv_iload_n hx hb dX9_raise_4 rfl (lv_at hl 1 rfl) ?_
  refine lv_aload_n hx hb dX9_raise_5 rfl (lv_at hl 0 rfl) ?_
  refine lv_aload_n hx hb dX9_raise_6 rfl (lv_at hl 0 rfl) ?_
  refine va_get (D := g.1) (ci := 7) (v := .ref (a 0)) (C := RX9) (T := TX9) (N := 19) hx hb hts izRX9 hown hK hP 0 rfl rfl 8 (by decide) (hts _ k9) (fun _ h9 => h9) rfl dX9_raise_7 ?_
  refine lv_iload_n hx hb dX9_raise_10 rfl (lv_at hl 1 rfl) ?_
  refine va_iald hx hb hK hP 1 0 rfl rfl (zinK (a := 0) (b := 7) b_x1.1 b_x1.2 (by decide)) dX9_raise_11 ?_
  refine ztop (r := (f 0 x1.toInt.toNat)) rfl ?_
  refine lv_iload_n hx hb dX9_raise_12 rfl (lv_at hl 2 rfl) ?_
  refine lv_iadd hx hb dX9_raise_13 ?_
  refine mcallV' (g := g) (q0 := 0) (ci := 7) (As := [.int ((f 0 x1.toInt.toNat) + by9)]) (rest := [.int x1, .ref (a 0)]) St hK hT hA hP hD hS hl.1 [0] [] rfl rfl rfl (c_withinF l g o a pe wo tx ch jo tr dy sd f ((f 0 x1.toInt.toNat) + by9) ) (cwV 1 hts (zgL (zl4 k48 k49 k50 k24) k39) rfl rfl rfl (by decide +kernel) ⟨Nat.le_of_ble_eq_true rfl, Nat.le_of_ble_eq_true rfl⟩) rfl rfl rfl rfl (Nat.le_of_ble_eq_true rfl) dX9_raise_14 ⟨(Nat.le_of_ble_eq_true rfl), (Nat.le_of_ble_eq_true rfl)⟩ (fun _u H locs hq1 hP hD hS => ?_)
  have hP : va_P g.1 vwCl (List.flatten [bTown g o a pe wo tx ch jo tr dy sd f]) H := hP
  have hD : va_D A (List.flatten [bTown g o a pe wo tx ch jo tr dy sd f]) := hD
  refine W.widen (k := 0) (n := 0) (Nat.le_of_ble_eq_true rfl) (Nat.le_of_ble_eq_true rfl) ?_
  refine W.eq (g2 := F0 m 17 ls [.int (zCl ((f 0 x1.toInt.toNat) + by9)), .int x1, .ref (a 0)]) rfl ?_
  refine va_iast hx hb hK hP hD hS 1 0 rfl rfl (zinK (a := 0) (b := 7) b_x1.1 b_x1.2 (by decide)) dX9_raise_17 (fun H locs hP hD hS => ?_)
  obtain ⟨f2, rf2, ef2, hP, hD⟩ : ∃ f2 : Nat → Nat → Int32, zZ4 f2 ∧ f2 = zSet f 0 x1.toInt.toNat (zCl ((f 0 x1.toInt.toNat) + by9)) ∧ va_P g.1 vwCl (List.flatten [bTown g o a pe wo tx ch jo tr dy sd f2]) H ∧ va_D A (List.flatten [bTown g o a pe wo tx ch jo tr dy sd f2]) := ⟨zu f 0 (upd (f 0) x1.toNatClampNeg (zCl ((f 0 x1.toInt.toNat) + by9))), (zZ4_u rf (by decide)), rfl, hP, hD⟩
  have hP : va_P g.1 vwCl (List.flatten [bTown g o a pe wo tx ch jo tr dy sd f2]) H := hP
  have hD : va_D A (List.flatten [bTown g o a pe wo tx ch jo tr dy sd f2]) := hD
  exact mret_v hx hb hr hlocks hS (Nat.le_of_ble_eq_true rfl) (Nat.le_of_ble_eq_true rfl) dX9_raise_18 (f2) rfl (show (zZ4 f2) ∧ (f2 = zSet f 0 (x1.toInt.toNat) (zCl (f 0 x1.toInt.toNat + by9))) from ⟨(by assumption), ef2⟩) hP hD
set_option maxRecDepth 100000 in
set_option maxHeartbeats 4000000 in
theorem c_l_partOfF (l : Launch) (g : zG) (lo : Nat) (lc : Nat) (lz : Int32) (ll : Int32) (lm : Int32) (lg : Int32) (ld : Int32) (fc : Nat → Int32) (o : Nat) (a : Nat → Nat) (pe : Int32) (wo : Int32) (tx : Int32) (ch : Int32) (jo : Int32) (tr : Int32) (dy : Int32) (sd : Int32) (f : Nat → Nat → Int32) (x1 : Int32) (kn : Int32) (b_pe : 0 ≤ pe.toInt ∧ pe.toInt ≤ 8) (b_wo : 0 ≤ wo.toInt ∧ wo.toInt ≤ 6) (rf : zZ4 f) (b_x1 : 0 ≤ x1.toInt ∧ x1.toInt ≤ 7) : zM' g l yX1_partOf (Cond.code yX1_partOf cX1_partOf 4 (some .int) :: zB) ({ frames := 1, cells := 0, slots := 0, locals := 23 } : Room) [.ref lo, .ref o, .int x1, .int kn] [bLaw g lo lc lz ll lm lg ld fc, bTown g o a pe wo tx ch jo tr dy sd f] (fun _ : Unit => some (.int (zPv (zEnvC f pe.toInt.toNat x1.toInt.toNat lm lg ld) kn))) (fun _ : Unit => True) (fun _ : Unit => [bLaw g lo lc lz ll lm lg ld fc, bTown g o a pe wo tx ch jo tr dy sd f]) := by
  refine zM'.of (cc := cX1_partOf) (maxL := 4) (rt := (some .int)) (by decide) rfl (Nat.le_of_ble_eq_true rfl) ?_
  intro p e s m args below meth c A ls St hr hlocks hin hK hT hA hP hD hS hl
  obtain ⟨hx, hb, hml, hown, hts⟩ := id St
  have hl : lv_has ls 4 [(0, .ref lo), (1, .ref o), (2, .int x1), (3, .int kn)] := hl
  refine lv_iload_n hx hb dX1_partOf_0 rfl (lv_at hl 3 rfl) ?_
  by_cases hsw1 : kn = 1
  · subst hsw1
    refine lv_tableIn (x := 1) (off := 35) (tgt := 36) hx hb dX1_partOf_1 (by decide) (by decide) rfl (by decide) ?_
    refine lv_iload_n hx hb dX1_partOf_36 rfl (lv_at hl 2 rfl) ?_
    refine ztop (r := (zPv (zEnvC f pe.toInt.toNat x1.toInt.toNat lm lg ld) 1)) ((znat b_x1.1).trans (zPv_1 (zEnvC f pe.toInt.toNat x1.toInt.toNat lm lg ld)).symm) ?_
    have hP : va_P g.1 vwCl (List.flatten [bLaw g lo lc lz ll lm lg ld fc, bTown g o a pe wo tx ch jo tr dy sd f]) s.heap := hP
    have hD : va_D A (List.flatten [bLaw g lo lc lz ll lm lg ld fc, bTown g o a pe wo tx ch jo tr dy sd f]) := hD
    exact mret_i hx hb hr hlocks hS (Nat.le_of_ble_eq_true rfl) (Nat.le_of_ble_eq_true rfl) dX1_partOf_37 () rfl trivial hP hD
  by_cases hsw2 : kn = 2
  · subst hsw2
    refine lv_tableIn (x := 2) (off := 37) (tgt := 38) hx hb dX1_partOf_1 (by decide) (by decide) rfl (by decide) ?_
    refine lv_aload_n hx hb dX1_partOf_38 rfl (lv_at hl 1 rfl) ?_
    refine va_get (D := g.1) (ci := 7) (v := .ref (a 0)) (C := RX9) (T := TX9) (N := 19) hx hb hts izRX9 hown hK hP 2 rfl rfl 8 (by decide) (hts _ k94) (fun _ h9 => h9) rfl dX1_partOf_39 ?_
    refine lv_iload_n hx hb dX1_partOf_42 rfl (lv_at hl 2 rfl) ?_
    refine va_iald hx hb hK hP 3 0 rfl rfl (zinK (a := 0) (b := 7) b_x1.1 b_x1.2 (by decide)) dX1_partOf_43 ?_
    refine ztop (r := (f 0 x1.toInt.toNat)) rfl ?_
    refine ztop (r := (zPv (zEnvC f pe.toInt.toNat x1.toInt.toNat lm lg ld) 2)) ((zPv_2 (zEnvC f pe.toInt.toNat x1.toInt.toNat lm lg ld)).symm) ?_
    have hP : va_P g.1 vwCl (List.flatten [bLaw g lo lc lz ll lm lg ld fc, bTown g o a pe wo tx ch jo tr dy sd f]) s.heap := hP
    have hD : va_D A (List.flatten [bLaw g lo lc lz ll lm lg ld fc, bTown g o a pe wo tx ch jo tr dy sd f]) := hD
    exact mret_i hx hb hr hlocks hS (Nat.le_of_ble_eq_true rfl) (Nat.le_of_ble_eq_true rfl) dX1_partOf_44 () rfl trivial hP hD
  by_cases hsw3 : kn = 3
  · subst hsw3
    refine lv_tableIn (x := 3) (off := 44) (tgt := 45) hx hb dX1_partOf_1 (by decide) (by decide) rfl (by decide) ?_
    refine lv_aload_n hx hb dX1_partOf_45 rfl (lv_at hl 0 rfl) ?_
    refine va_get (D := g.1) (ci := 1) (v := .int lm) (C := RX1) (T := TX1) (N := 6) hx hb hts izRX1 hown hK hP 0 rfl rfl 3 (by decide) (hts _ k73) (fun _ h9 => h9) rfl dX1_partOf_46 ?_
    refine ztop (r := (zPv (zEnvC f pe.toInt.toNat x1.toInt.toNat lm lg ld) 3)) ((zPv_3 (zEnvC f pe.toInt.toNat x1.toInt.toNat lm lg ld)).symm) ?_
    have hP : va_P g.1 vwCl (List.flatten [bLaw g lo lc lz ll lm lg ld fc, bTown g o a pe wo tx ch jo tr dy sd f]) s.heap := hP
    have hD : va_D A (List.flatten [bLaw g lo lc lz ll lm lg ld fc, bTown g o a pe wo tx ch jo tr dy sd f]) := hD
    exact mret_i hx hb hr hlocks hS (Nat.le_of_ble_eq_true rfl) (Nat.le_of_ble_eq_true rfl) dX1_partOf_49 () rfl trivial hP hD
  by_cases hsw4 : kn = 4
  · subst hsw4
    refine lv_tableIn (x := 4) (off := 49) (tgt := 50) hx hb dX1_partOf_1 (by decide) (by decide) rfl (by decide) ?_
    refine lv_aload_n hx hb dX1_partOf_50 rfl (lv_at hl 0 rfl) ?_
    refine va_get (D := g.1) (ci := 1) (v := .int lg) (C := RX1) (T := TX1) (N := 6) hx hb hts izRX1 hown hK hP 0 rfl rfl 4 (by decide) (hts _ k74) (fun _ h9 => h9) rfl dX1_partOf_51 ?_
    refine ztop (r := (zPv (zEnvC f pe.toInt.toNat x1.toInt.toNat lm lg ld) 4)) ((zPv_4 (zEnvC f pe.toInt.toNat x1.toInt.toNat lm lg ld)).symm) ?_
    have hP : va_P g.1 vwCl (List.flatten [bLaw g lo lc lz ll lm lg ld fc, bTown g o a pe wo tx ch jo tr dy sd f]) s.heap := hP
    have hD : va_D A (List.flatten [bLaw g lo lc lz ll lm lg ld fc, bTown g o a pe wo tx ch jo tr dy sd f]) := hD
    exact mret_i hx hb hr hlocks hS (Nat.le_of_ble_eq_true rfl) (Nat.le_of_ble_eq_true rfl) dX1_partOf_54 () rfl trivial hP hD
  by_cases hsw5 : kn = 5
  · subst hsw5
    refine lv_tableIn (x := 5) (off := 54) (tgt := 55) hx hb dX1_partOf_1 (by decide) (by decide) rfl (by decide) ?_
    refine lv_aload_n hx hb dX1_partOf_55 rfl (lv_at hl 1 rfl) ?_
    refine lv_iload_n hx hb dX1_partOf_56 rfl (lv_at hl 2 rfl) ?_
    refine mcallV' (g := g) (q0 := 0) (ci := 7) (As := [.int x1]) (rest := []) St hK hT hA hP hD hS hl.1 [1] [0] rfl rfl rfl (c_tiesOfF l g o a pe wo tx ch jo tr dy sd f x1 b_pe b_wo rf b_x1) (cwV 1 hts (zgL (zl4 k95 k96 k97 k24) k92) rfl rfl rfl (by decide +kernel) ⟨Nat.le_of_ble_eq_true rfl, Nat.le_of_ble_eq_true rfl⟩) rfl rfl rfl rfl (Nat.le_of_ble_eq_true rfl) dX1_partOf_57 ⟨(Nat.le_of_ble_eq_true rfl), (Nat.le_of_ble_eq_true rfl)⟩ (fun _u H locs hq1 hP hD hS => ?_)
    have hP : va_P g.1 vwCl (List.flatten [bLaw g lo lc lz ll lm lg ld fc, bTown g o a pe wo tx ch jo tr dy sd f]) H := hP
    have hD : va_D A (List.flatten [bLaw g lo lc lz ll lm lg ld fc, bTown g o a pe wo tx ch jo tr dy sd f]) := hD
    refine W.widen (k := 0) (n := 0) (Nat.le_of_ble_eq_true rfl) (Nat.le_of_ble_eq_true rfl) ?_
    refine W.eq (g2 := F0 m 60 ls [.int (zTie f pe.toInt.toNat x1.toInt.toNat)]) rfl ?_
    refine ztop (r := (zPv (zEnvC f pe.toInt.toNat x1.toInt.toNat lm lg ld) 5)) ((zPv_5 (zEnvC f pe.toInt.toNat x1.toInt.toNat lm lg ld)).symm) ?_
    have hP : va_P g.1 vwCl (List.flatten [bLaw g lo lc lz ll lm lg ld fc, bTown g o a pe wo tx ch jo tr dy sd f]) H := hP
    have hD : va_D A (List.flatten [bLaw g lo lc lz ll lm lg ld fc, bTown g o a pe wo tx ch jo tr dy sd f]) := hD
    exact mret_i hx hb hr hlocks hS (Nat.le_of_ble_eq_true rfl) (Nat.le_of_ble_eq_true rfl) dX1_partOf_60 () rfl trivial hP hD
  refine lv_tableOut (tgt := 61) hx hb dX1_partOf_1 (by have := lv_neT hsw1 (show Int32.toInt 1 = 1 from by decide); have := lv_neT hsw2 (show Int32.toInt 2 = 2 from by decide); have := lv_neT hsw3 (show Int32.toInt 3 = 3 from by decide); have := lv_neT hsw4 (show Int32.toInt 4 = 4 from by decide); have := lv_neT hsw5 (show Int32.toInt 5 = 5 from by decide); omega) (by decide) ?_
  refine lv_aload_n hx hb dX1_partOf_61 rfl (lv_at hl 0 rfl) ?_
  refine va_get (D := g.1) (ci := 1) (v := .int ld) (C := RX1) (T := TX1) (N := 6) hx hb hts izRX1 hown hK hP 0 rfl rfl 5 (by decide) (hts _ k75) (fun _ h9 => h9) rfl dX1_partOf_62 ?_
  refine ztop (r := (zPv (zEnvC f pe.toInt.toNat x1.toInt.toNat lm lg ld) kn)) ((zPv_d (e := (zEnvC f pe.toInt.toNat x1.toInt.toNat lm lg ld)) hsw1 hsw2 hsw3 hsw4 hsw5).symm) ?_
  have hP : va_P g.1 vwCl (List.flatten [bLaw g lo lc lz ll lm lg ld fc, bTown g o a pe wo tx ch jo tr dy sd f]) s.heap := hP
  have hD : va_D A (List.flatten [bLaw g lo lc lz ll lm lg ld fc, bTown g o a pe wo tx ch jo tr dy sd f]) := hD
  exact mret_i hx hb hr hlocks hS (Nat.le_of_ble_eq_true rfl) (Nat.le_of_ble_eq_true rfl) dX1_partOf_65 () rfl trivial hP hD
set_option maxRecDepth 100000 in
set_option maxHeartbeats 4000000 in
theorem c_l_turnsOfF (l : Launch) (g : zG) (lo : Nat) (lc : Nat) (lz : Int32) (ll : Int32) (lm : Int32) (lg : Int32) (ld : Int32) (fc : Nat → Int32) (o : Nat) (a : Nat → Nat) (pe : Int32) (wo : Int32) (tx : Int32) (ch : Int32) (jo : Int32) (tr : Int32) (dy : Int32) (sd : Int32) (f : Nat → Nat → Int32) (x1 : Int32) (b_lz : 0 ≤ lz.toInt ∧ lz.toInt ≤ 400) (b_pe : 0 ≤ pe.toInt ∧ pe.toInt ≤ 8) (b_wo : 0 ≤ wo.toInt ∧ wo.toInt ≤ 6) (rf : zZ4 f) (b_x1 : 0 ≤ x1.toInt ∧ x1.toInt ≤ 7) : zM' g l yX1_turnsOf (Cond.code yX1_turnsOf cX1_turnsOf 10 (some .int) :: zB) ({ frames := 2, cells := 0, slots := 0, locals := 46 } : Room) [.ref lo, .ref o, .int x1] [bLaw g lo lc lz ll lm lg ld fc, bTown g o a pe wo tx ch jo tr dy sd f] (fun _ : Unit => some (.int (zLwR fc lz ll (zEnvC f pe.toInt.toNat x1.toInt.toNat lm lg ld)))) (fun _ : Unit => True) (fun _ : Unit => [bLaw g lo lc lz ll lm lg ld fc, bTown g o a pe wo tx ch jo tr dy sd f]) := by
  refine zM'.of (cc := cX1_turnsOf) (maxL := 10) (rt := (some .int)) (by decide) rfl (Nat.le_of_ble_eq_true rfl) ?_
  intro p e s m args below meth c A ls St hr hlocks hin hK hT hA hP hD hS hl
  obtain ⟨hx, hb, hml, hown, hts⟩ := id St
  have hl : lv_has ls 10 [(0, .ref lo), (1, .ref o), (2, .int x1)] := hl
  refine lv_aload_n hx hb dX1_turnsOf_0 rfl (lv_at hl 0 rfl) ?_
  refine va_get (D := g.1) (ci := 1) (v := .int ll) (C := RX1) (T := TX1) (N := 6) hx hb hts izRX1 hown hK hP 0 rfl rfl 2 (by decide) (hts _ k98) (fun _ h9 => h9) rfl dX1_turnsOf_1 ?_
  refine lv_iconst (v := (-1)) hx hb dX1_turnsOf_4 (by decide) ?_
  refine lv_icmp_ne (tgt := 23) hx hb dX1_turnsOf_5 (by decide) (fun cb9 => ?_) (fun cb9 => ?_)
  · skip
    have c1 : ¬ ll.toInt = (-1) := zne cb9 rfl (by decide)
    refine lv_iconst (v := 0) hx hb dX1_turnsOf_23 (by decide) ?_
    refine lv_istore_n (lv' := [(3, .int 0), (0, .ref lo), (1, .ref o), (2, .int x1)]) hx hb dX1_turnsOf_24 rfl hl (by decide) rfl (fun ls hl => ?_)
    refine lv_iconst (v := 0) hx hb dX1_turnsOf_25 (by decide) ?_
    refine lv_istore (lv' := [(4, .int 0), (3, .int 0), (0, .ref lo), (1, .ref o), (2, .int x1)]) hx hb dX1_turnsOf_26 hl (by decide) rfl (fun ls hl => ?_)
    refine lv_iconst (v := 0) hx hb dX1_turnsOf_28 (by decide) ?_
    refine lv_istore (lv' := [(5, .int 0), (4, .int 0), (3, .int 0), (0, .ref lo), (1, .ref o), (2, .int x1)]) hx hb dX1_turnsOf_29 hl (by decide) rfl (fun ls hl => ?_)
    refine lv_iconst (v := 1) hx hb dX1_turnsOf_31 (by decide) ?_
    refine lv_istore (lv' := [(6, .int 1), (5, .int 0), (4, .int 0), (3, .int 0), (0, .ref lo), (1, .ref o), (2, .int x1)]) hx hb dX1_turnsOf_32 hl (by decide) rfl (fun ls hl => ?_)
    refine lv_iconst (v := 0) hx hb dX1_turnsOf_34 (by decide) ?_
    refine lv_istore (lv' := [(7, .int 0), (6, .int 1), (5, .int 0), (4, .int 0), (3, .int 0), (0, .ref lo), (1, .ref o), (2, .int x1)]) hx hb dX1_turnsOf_35 hl (by decide) rfl (fun ls hl => ?_)
    have hl := lv_sub (l' := [(0, .ref lo), (1, .ref o), (2, .int x1), (3, .int 0), (4, .int 0), (5, .int 0), (6, .int 1), (7, .int 0)]) hl [5, 6, 7, 4, 3, 2, 1, 0] rfl
    have LP37_9 : ∀ (kf : Nat) (x_2 : Int32) (x_3 : Int32) (x_4 : Int32) (x_5 : Int32) (x_6 : Int32), (0 ≤ x_6.toInt ∧ x_6.toInt ≤ 67108864) → (zRu fc lz.toInt (zEnvC f pe.toInt.toNat x1.toInt.toNat lm lg ld) 0 (0, 0, 0, 1) = zRu fc lz.toInt (zEnvC f pe.toInt.toNat x1.toInt.toNat lm lg ld) x_6.toInt (x_2, x_3, x_4, x_5)) → ∀ (H : Heap) (locs : List Loc) (ls : Array Slot), ((67108865 - x_6.toInt).toNat) < kf → va_P g.1 vwCl (List.flatten [bLaw g lo lc lz ll lm lg ld fc, bTown g o a pe wo tx ch jo tr dy sd f]) H → va_D A (List.flatten [bLaw g lo lc lz ll lm lg ld fc, bTown g o a pe wo tx ch jo tr dy sd f]) → va_S A s.heap H locs → lv_has ls 10 [(0, .ref lo), (1, .ref o), (2, .int x1), (3, .int x_2), (4, .int x_3), (5, .int x_4), (6, .int x_5), (7, .int x_6)] → W p l e ({ frames := 2, cells := 0, slots := 0, locals := 46 } : Room) s m args below meth c H locs (0) (0) (zF g (fun _ : Unit => some (.int (zLwR fc lz ll (zEnvC f pe.toInt.toNat x1.toInt.toNat lm lg ld)))) (fun _ : Unit => True) (fun _ : Unit => [bLaw g lo lc lz ll lm lg ld fc, bTown g o a pe wo tx ch jo tr dy sd f]) ({ frames := 2, cells := 0, slots := 0, locals := 46 } : Room) below args s A) (F0 m 37 ls []) := by
      intro kf
      induction kf with
      | zero => intro x_2 x_3 x_4 x_5 x_6 i7 i8 H locs ls hk; exact absurd hk (Nat.not_lt_zero _)
      | succ kf ih37_10 =>
        intro x_2 x_3 x_4 x_5 x_6 i7 i8 H locs ls hk37_10 hP hD hS hl
        refine lv_iload hx hb dX1_turnsOf_37 (lv_at hl 7 rfl) ?_
        refine lv_aload_n hx hb dX1_turnsOf_39 rfl (lv_at hl 0 rfl) ?_
        refine va_get (D := g.1) (ci := 1) (v := .int lz) (C := RX1) (T := TX1) (N := 6) hx hb hts izRX1 hown hK hP 0 rfl rfl 1 (by decide) (hts _ k100) (fun _ h9 => h9) rfl dX1_turnsOf_40 ?_
        refine lv_icmp_ge (tgt := 368) hx hb dX1_turnsOf_43 (by decide) (fun cb9 => ?_) (fun cb9 => ?_)
        · skip
          have c11 : lz.toInt ≤ x_6.toInt := zle cb9 rfl rfl
          refine lv_iload_n hx hb dX1_turnsOf_368 rfl (lv_at hl 3 rfl) ?_
          refine ztop (r := (zLwR fc lz ll (zEnvC f pe.toInt.toNat x1.toInt.toNat lm lg ld))) (zLwR_x (by omega) i8 (by omega)) ?_
          have hP : va_P g.1 vwCl (List.flatten [bLaw g lo lc lz ll lm lg ld fc, bTown g o a pe wo tx ch jo tr dy sd f]) H := hP
          have hD : va_D A (List.flatten [bLaw g lo lc lz ll lm lg ld fc, bTown g o a pe wo tx ch jo tr dy sd f]) := hD
          exact mret_i hx hb hr hlocks hS (Nat.le_of_ble_eq_true rfl) (Nat.le_of_ble_eq_true rfl) dX1_turnsOf_369 () rfl trivial hP hD
        · skip
          have c12 : x_6.toInt < lz.toInt := zlti (Int32.not_le.mp cb9) rfl rfl
          have n13 : x_6.toInt ≤ 399 := zL1 (b := 400) c12 b_lz.2 (by decide)
          have n14 : 1 ≤ lz.toInt := zL2 (a := 0) c12 i7.1 (by decide)
          refine lv_aload_n hx hb dX1_turnsOf_46 rfl (lv_at hl 0 rfl) ?_
          refine va_get (D := g.1) (ci := 1) (v := .ref lc) (C := RX1) (T := TX1) (N := 6) hx hb hts izRX1 hown hK hP 0 rfl rfl 0 (by decide) (hts _ k101) (fun _ h9 => h9) rfl dX1_turnsOf_47 ?_
          refine lv_iload hx hb dX1_turnsOf_50 (lv_at hl 7 rfl) ?_
          refine va_iald hx hb hK hP 1 0 rfl rfl (zinK (a := 0) (b := 399) i7.1 n13 (by decide)) dX1_turnsOf_52 ?_
          refine ztop (r := (fc x_6.toInt.toNat)) rfl ?_
          refine lv_bipush (v := 32) hx hb dX1_turnsOf_53 (by decide) ?_
          refine lv_idiv hx hb dX1_turnsOf_55 (by decide) ?_
          refine zgp (P := fun y9 => (-67108864 ≤ y9.toInt ∧ y9.toInt ≤ 67108863) ∧ y9 = (fc x_6.toInt.toNat) / 32) ⟨zdiv32 _, rfl⟩ (fun x_15 hx_15 => ?_)
          refine lv_istore (lv' := [(8, .int x_15), (0, .ref lo), (1, .ref o), (2, .int x1), (3, .int x_2), (4, .int x_3), (5, .int x_4), (6, .int x_5), (7, .int x_6)]) hx hb dX1_turnsOf_56 hl (by decide) rfl (fun ls hl => ?_)
          refine lv_aload_n hx hb dX1_turnsOf_58 rfl (lv_at hl 1 rfl) ?_
          refine va_get (D := g.1) (ci := 1) (v := .ref lc) (C := RX1) (T := TX1) (N := 6) hx hb hts izRX1 hown hK hP 0 rfl rfl 0 (by decide) (hts _ k101) (fun _ h9 => h9) rfl dX1_turnsOf_59 ?_
          refine lv_iload hx hb dX1_turnsOf_62 (lv_at hl 8 rfl) ?_
          refine va_iald hx hb hK hP 1 0 rfl rfl (zinK (a := 0) (b := 399) i7.1 n13 (by decide)) dX1_turnsOf_64 ?_
          refine ztop (r := (fc x_6.toInt.toNat)) rfl ?_
          refine lv_bipush (v := 32) hx hb dX1_turnsOf_65 (by decide) ?_
          refine lv_irem hx hb dX1_turnsOf_67 (by decide) ?_
          refine zgp (P := fun y9 => y9 = (fc x_6.toInt.toNat) - (fc x_6.toInt.toNat) / 32 * 32) rfl (fun x_16 hx_16 => ?_)
          refine lv_istore (lv' := [(9, .int x_16), (8, .int x_15), (0, .ref lo), (1, .ref o), (2, .int x1), (3, .int x_2), (4, .int x_3), (5, .int x_4), (6, .int x_5), (7, .int x_6)]) hx hb dX1_turnsOf_68 hl (by decide) rfl (fun ls hl => ?_)
          refine lv_iload hx hb dX1_turnsOf_70 (lv_at hl 0 rfl) ?_
          by_cases hsw0 : x_16 = 0
          · subst hsw0
            refine lv_tableIn (x := 0) (off := 84) (tgt := 156) hx hb dX1_turnsOf_72 (by decide) (by decide) rfl (by decide) ?_
            refine lv_iload hx hb dX1_turnsOf_156 (lv_at hl 7 rfl) ?_
            refine lv_iload hx hb dX1_turnsOf_158 (lv_at hl 1 rfl) ?_
            refine lv_iadd hx hb dX1_turnsOf_160 ?_
            refine lv_istore (lv' := [(5, .int (x_4 + x_15)), (9, .int 0), (8, .int x_15), (0, .ref lo), (1, .ref o), (2, .int x1), (3, .int x_2), (4, .int x_3), (6, .int x_5), (7, .int x_6)]) hx hb dX1_turnsOf_161 hl (by decide) rfl (fun ls hl => ?_)
            refine lv_goto (tgt := 362) hx hb dX1_turnsOf_163 (by decide) ?_
            refine ziinc3 (n' := 1) (a' := 1) (b' := 400) (lv' := fun v9 => [(7, .int v9), (5, .int (x_4 + x_15)), (9, .int 0), (8, .int x_15), (0, .ref lo), (1, .ref o), (2, .int x1), (3, .int x_2), (4, .int x_3), (6, .int x_5)]) hx hb dX1_turnsOf_362 hl (k := 9) rfl (by decide) (fun _ => rfl) (zaddK (i := x_6.toInt) (j := 1) rfl (by decide) i7.1 n13 (Int.le_refl _) (Int.le_refl _) (by decide)) (fun x_17 ls hx_17 hl => ?_)
            refine lv_goto (tgt := 37) hx hb dX1_turnsOf_365 (by decide) ?_
            have hl := lv_sub (l' := [(0, .ref lo), (1, .ref o), (2, .int x1), (3, .int x_2), (4, .int x_3), (5, .int (x_4 + x_15)), (6, .int x_5), (7, .int x_17), (8, .int x_15), (9, .int 0)]) hl [4, 5, 6, 7, 8, 1, 9, 0, 3, 2] rfl
            have hP : va_P g.1 vwCl (List.flatten [bLaw g lo lc lz ll lm lg ld fc, bTown g o a pe wo tx ch jo tr dy sd f]) H := hP
            have hD : va_D A (List.flatten [bLaw g lo lc lz ll lm lg ld fc, bTown g o a pe wo tx ch jo tr dy sd f]) := hD
            exact ih37_10 x_2 x_3 (x_4 + x_15) x_5 x_17 ⟨(Int.le_trans (by decide) hx_17.2.1), (Int.le_trans hx_17.2.2 (by decide))⟩ (zRuk_0 i8 (by omega) hx_15.2 (zi_of hx_16 (by decide)) hx_17.1) H _ ls (by omega)  hP hD hS (lv_sub hl [0, 1, 2, 3, 4, 5, 6, 7] rfl)
          by_cases hsw1 : x_16 = 1
          · subst hsw1
            refine lv_tableIn (x := 1) (off := 277) (tgt := 349) hx hb dX1_turnsOf_72 (by decide) (by decide) rfl (by decide) ?_
            refine lv_iload hx hb dX1_turnsOf_349 (lv_at hl 7 rfl) ?_
            refine lv_aload_n hx hb dX1_turnsOf_351 rfl (lv_at hl 2 rfl) ?_
            refine lv_aload_n hx hb dX1_turnsOf_352 rfl (lv_at hl 3 rfl) ?_
            refine lv_iload_n hx hb dX1_turnsOf_353 rfl (lv_at hl 4 rfl) ?_
            refine lv_iload hx hb dX1_turnsOf_354 (lv_at hl 0 rfl) ?_
            refine mcallV' (g := g) (q0 := 0) (ci := 1) (As := [.ref o, .int x1, .int 1]) (rest := [.int x_4]) St hK hT hA hP hD hS hl.1 [0, 1] [] rfl rfl rfl (c_l_partOfF l g lo lc lz ll lm lg ld fc o a pe wo tx ch jo tr dy sd f x1 1 b_pe b_wo rf b_x1) (cwV 3 hts (zgL (zl4 k104 k105 k106 k85) k93) rfl rfl rfl (by decide +kernel) ⟨Nat.le_of_ble_eq_true rfl, Nat.le_of_ble_eq_true rfl⟩) rfl rfl rfl rfl (Nat.le_of_ble_eq_true rfl) dX1_turnsOf_356 ⟨(Nat.le_of_ble_eq_true rfl), (Nat.le_of_ble_eq_true rfl)⟩ (fun _u H locs hq18 hP hD hS => ?_)
            have hP : va_P g.1 vwCl (List.flatten [bLaw g lo lc lz ll lm lg ld fc, bTown g o a pe wo tx ch jo tr dy sd f]) H := hP
            have hD : va_D A (List.flatten [bLaw g lo lc lz ll lm lg ld fc, bTown g o a pe wo tx ch jo tr dy sd f]) := hD
            refine W.widen (k := 0) (n := 0) (Nat.le_of_ble_eq_true rfl) (Nat.le_of_ble_eq_true rfl) ?_
            refine W.eq (g2 := F0 m 359 ls [.int (zPv (zEnvC f pe.toInt.toNat x1.toInt.toNat lm lg ld) 1), .int x_4]) rfl ?_
            refine lv_iadd hx hb dX1_turnsOf_359 ?_
            refine lv_istore (lv' := [(5, .int (x_4 + (zPv (zEnvC f pe.toInt.toNat x1.toInt.toNat lm lg ld) 1))), (9, .int 1), (8, .int x_15), (0, .ref lo), (1, .ref o), (2, .int x1), (3, .int x_2), (4, .int x_3), (6, .int x_5), (7, .int x_6)]) hx hb dX1_turnsOf_360 hl (by decide) rfl (fun ls hl => ?_)
            refine ziinc3 (n' := 1) (a' := 1) (b' := 400) (lv' := fun v9 => [(7, .int v9), (5, .int (x_4 + (zPv (zEnvC f pe.toInt.toNat x1.toInt.toNat lm lg ld) 1))), (9, .int 1), (8, .int x_15), (0, .ref lo), (1, .ref o), (2, .int x1), (3, .int x_2), (4, .int x_3), (6, .int x_5)]) hx hb dX1_turnsOf_362 hl (k := 9) rfl (by decide) (fun _ => rfl) (zaddK (i := x_6.toInt) (j := 1) rfl (by decide) i7.1 n13 (Int.le_refl _) (Int.le_refl _) (by decide)) (fun x_19 ls hx_19 hl => ?_)
            refine lv_goto (tgt := 37) hx hb dX1_turnsOf_365 (by decide) ?_
            have hl := lv_sub (l' := [(0, .ref lo), (1, .ref o), (2, .int x1), (3, .int x_2), (4, .int x_3), (5, .int (x_4 + (zPv (zEnvC f pe.toInt.toNat x1.toInt.toNat lm lg ld) 1))), (6, .int x_5), (7, .int x_19), (8, .int x_15), (9, .int 1)]) hl [4, 5, 6, 7, 8, 1, 9, 0, 3, 2] rfl
            have hP : va_P g.1 vwCl (List.flatten [bLaw g lo lc lz ll lm lg ld fc, bTown g o a pe wo tx ch jo tr dy sd f]) H := hP
            have hD : va_D A (List.flatten [bLaw g lo lc lz ll lm lg ld fc, bTown g o a pe wo tx ch jo tr dy sd f]) := hD
            exact ih37_10 x_2 x_3 (x_4 + (zPv (zEnvC f pe.toInt.toNat x1.toInt.toNat lm lg ld) 1)) x_5 x_19 ⟨(Int.le_trans (by decide) hx_19.2.1), (Int.le_trans hx_19.2.2 (by decide))⟩ (zRuk_d i8 (by omega) hx_15.2 (zh0k (k := 1) (zi_of (n := 1) hx_16 (by decide)) (by decide)) hx_19.1 (congrArg (zPv _) hx_16)) H _ ls (by omega)  hP hD hS (lv_sub hl [0, 1, 2, 3, 4, 5, 6, 7] rfl)
          by_cases hsw2 : x_16 = 2
          · subst hsw2
            refine lv_tableIn (x := 2) (off := 277) (tgt := 349) hx hb dX1_turnsOf_72 (by decide) (by decide) rfl (by decide) ?_
            refine lv_iload hx hb dX1_turnsOf_349 (lv_at hl 7 rfl) ?_
            refine lv_aload_n hx hb dX1_turnsOf_351 rfl (lv_at hl 2 rfl) ?_
            refine lv_aload_n hx hb dX1_turnsOf_352 rfl (lv_at hl 3 rfl) ?_
            refine lv_iload_n hx hb dX1_turnsOf_353 rfl (lv_at hl 4 rfl) ?_
            refine lv_iload hx hb dX1_turnsOf_354 (lv_at hl 0 rfl) ?_
            refine mcallV' (g := g) (q0 := 0) (ci := 1) (As := [.ref o, .int x1, .int 2]) (rest := [.int x_4]) St hK hT hA hP hD hS hl.1 [0, 1] [] rfl rfl rfl (c_l_partOfF l g lo lc lz ll lm lg ld fc o a pe wo tx ch jo tr dy sd f x1 2 b_pe b_wo rf b_x1) (cwV 3 hts (zgL (zl4 k104 k105 k106 k85) k93) rfl rfl rfl (by decide +kernel) ⟨Nat.le_of_ble_eq_true rfl, Nat.le_of_ble_eq_true rfl⟩) rfl rfl rfl rfl (Nat.le_of_ble_eq_true rfl) dX1_turnsOf_356 ⟨(Nat.le_of_ble_eq_true rfl), (Nat.le_of_ble_eq_true rfl)⟩ (fun _u H locs hq20 hP hD hS => ?_)
            have hP : va_P g.1 vwCl (List.flatten [bLaw g lo lc lz ll lm lg ld fc, bTown g o a pe wo tx ch jo tr dy sd f]) H := hP
            have hD : va_D A (List.flatten [bLaw g lo lc lz ll lm lg ld fc, bTown g o a pe wo tx ch jo tr dy sd f]) := hD
            refine W.widen (k := 0) (n := 0) (Nat.le_of_ble_eq_true rfl) (Nat.le_of_ble_eq_true rfl) ?_
            refine W.eq (g2 := F0 m 359 ls [.int (zPv (zEnvC f pe.toInt.toNat x1.toInt.toNat lm lg ld) 2), .int x_4]) rfl ?_
            refine lv_iadd hx hb dX1_turnsOf_359 ?_
            refine lv_istore (lv' := [(5, .int (x_4 + (zPv (zEnvC f pe.toInt.toNat x1.toInt.toNat lm lg ld) 2))), (9, .int 2), (8, .int x_15), (0, .ref lo), (1, .ref o), (2, .int x1), (3, .int x_2), (4, .int x_3), (6, .int x_5), (7, .int x_6)]) hx hb dX1_turnsOf_360 hl (by decide) rfl (fun ls hl => ?_)
            refine ziinc3 (n' := 1) (a' := 1) (b' := 400) (lv' := fun v9 => [(7, .int v9), (5, .int (x_4 + (zPv (zEnvC f pe.toInt.toNat x1.toInt.toNat lm lg ld) 2))), (9, .int 2), (8, .int x_15), (0, .ref lo), (1, .ref o), (2, .int x1), (3, .int x_2), (4, .int x_3), (6, .int x_5)]) hx hb dX1_turnsOf_362 hl (k := 9) rfl (by decide) (fun _ => rfl) (zaddK (i := x_6.toInt) (j := 1) rfl (by decide) i7.1 n13 (Int.le_refl _) (Int.le_refl _) (by decide)) (fun x_21 ls hx_21 hl => ?_)
            refine lv_goto (tgt := 37) hx hb dX1_turnsOf_365 (by decide) ?_
            have hl := lv_sub (l' := [(0, .ref lo), (1, .ref o), (2, .int x1), (3, .int x_2), (4, .int x_3), (5, .int (x_4 + (zPv (zEnvC f pe.toInt.toNat x1.toInt.toNat lm lg ld) 2))), (6, .int x_5), (7, .int x_21), (8, .int x_15), (9, .int 2)]) hl [4, 5, 6, 7, 8, 1, 9, 0, 3, 2] rfl
            have hP : va_P g.1 vwCl (List.flatten [bLaw g lo lc lz ll lm lg ld fc, bTown g o a pe wo tx ch jo tr dy sd f]) H := hP
            have hD : va_D A (List.flatten [bLaw g lo lc lz ll lm lg ld fc, bTown g o a pe wo tx ch jo tr dy sd f]) := hD
            exact ih37_10 x_2 x_3 (x_4 + (zPv (zEnvC f pe.toInt.toNat x1.toInt.toNat lm lg ld) 2)) x_5 x_21 ⟨(Int.le_trans (by decide) hx_21.2.1), (Int.le_trans hx_21.2.2 (by decide))⟩ (zRuk_d i8 (by omega) hx_15.2 (zh0k (k := 2) (zi_of (n := 2) hx_16 (by decide)) (by decide)) hx_21.1 (congrArg (zPv _) hx_16)) H _ ls (by omega)  hP hD hS (lv_sub hl [0, 1, 2, 3, 4, 5, 6, 7] rfl)
          by_cases hsw3 : x_16 = 3
          · subst hsw3
            refine lv_tableIn (x := 3) (off := 277) (tgt := 349) hx hb dX1_turnsOf_72 (by decide) (by decide) rfl (by decide) ?_
            refine lv_iload hx hb dX1_turnsOf_349 (lv_at hl 7 rfl) ?_
            refine lv_aload_n hx hb dX1_turnsOf_351 rfl (lv_at hl 2 rfl) ?_
            refine lv_aload_n hx hb dX1_turnsOf_352 rfl (lv_at hl 3 rfl) ?_
            refine lv_iload_n hx hb dX1_turnsOf_353 rfl (lv_at hl 4 rfl) ?_
            refine lv_iload hx hb dX1_turnsOf_354 (lv_at hl 0 rfl) ?_
            refine mcallV' (g := g) (q0 := 0) (ci := 1) (As := [.ref o, .int x1, .int 3]) (rest := [.int x_4]) St hK hT hA hP hD hS hl.1 [0, 1] [] rfl rfl rfl (c_l_partOfF l g lo lc lz ll lm lg ld fc o a pe wo tx ch jo tr dy sd f x1 3 b_pe b_wo rf b_x1) (cwV 3 hts (zgL (zl4 k104 k105 k106 k85) k93) rfl rfl rfl (by decide +kernel) ⟨Nat.le_of_ble_eq_true rfl, Nat.le_of_ble_eq_true rfl⟩) rfl rfl rfl rfl (Nat.le_of_ble_eq_true rfl) dX1_turnsOf_356 ⟨(Nat.le_of_ble_eq_true rfl), (Nat.le_of_ble_eq_true rfl)⟩ (fun _u H locs hq22 hP hD hS => ?_)
            have hP : va_P g.1 vwCl (List.flatten [bLaw g lo lc lz ll lm lg ld fc, bTown g o a pe wo tx ch jo tr dy sd f]) H := hP
            have hD : va_D A (List.flatten [bLaw g lo lc lz ll lm lg ld fc, bTown g o a pe wo tx ch jo tr dy sd f]) := hD
            refine W.widen (k := 0) (n := 0) (Nat.le_of_ble_eq_true rfl) (Nat.le_of_ble_eq_true rfl) ?_
            refine W.eq (g2 := F0 m 359 ls [.int (zPv (zEnvC f pe.toInt.toNat x1.toInt.toNat lm lg ld) 3), .int x_4]) rfl ?_
            refine lv_iadd hx hb dX1_turnsOf_359 ?_
            refine lv_istore (lv' := [(5, .int (x_4 + (zPv (zEnvC f pe.toInt.toNat x1.toInt.toNat lm lg ld) 3))), (9, .int 3), (8, .int x_15), (0, .ref lo), (1, .ref o), (2, .int x1), (3, .int x_2), (4, .int x_3), (6, .int x_5), (7, .int x_6)]) hx hb dX1_turnsOf_360 hl (by decide) rfl (fun ls hl => ?_)
            refine ziinc3 (n' := 1) (a' := 1) (b' := 400) (lv' := fun v9 => [(7, .int v9), (5, .int (x_4 + (zPv (zEnvC f pe.toInt.toNat x1.toInt.toNat lm lg ld) 3))), (9, .int 3), (8, .int x_15), (0, .ref lo), (1, .ref o), (2, .int x1), (3, .int x_2), (4, .int x_3), (6, .int x_5)]) hx hb dX1_turnsOf_362 hl (k := 9) rfl (by decide) (fun _ => rfl) (zaddK (i := x_6.toInt) (j := 1) rfl (by decide) i7.1 n13 (Int.le_refl _) (Int.le_refl _) (by decide)) (fun x_23 ls hx_23 hl => ?_)
            refine lv_goto (tgt := 37) hx hb dX1_turnsOf_365 (by decide) ?_
            have hl := lv_sub (l' := [(0, .ref lo), (1, .ref o), (2, .int x1), (3, .int x_2), (4, .int x_3), (5, .int (x_4 + (zPv (zEnvC f pe.toInt.toNat x1.toInt.toNat lm lg ld) 3))), (6, .int x_5), (7, .int x_23), (8, .int x_15), (9, .int 3)]) hl [4, 5, 6, 7, 8, 1, 9, 0, 3, 2] rfl
            have hP : va_P g.1 vwCl (List.flatten [bLaw g lo lc lz ll lm lg ld fc, bTown g o a pe wo tx ch jo tr dy sd f]) H := hP
            have hD : va_D A (List.flatten [bLaw g lo lc lz ll lm lg ld fc, bTown g o a pe wo tx ch jo tr dy sd f]) := hD
            exact ih37_10 x_2 x_3 (x_4 + (zPv (zEnvC f pe.toInt.toNat x1.toInt.toNat lm lg ld) 3)) x_5 x_23 ⟨(Int.le_trans (by decide) hx_23.2.1), (Int.le_trans hx_23.2.2 (by decide))⟩ (zRuk_d i8 (by omega) hx_15.2 (zh0k (k := 3) (zi_of (n := 3) hx_16 (by decide)) (by decide)) hx_23.1 (congrArg (zPv _) hx_16)) H _ ls (by omega)  hP hD hS (lv_sub hl [0, 1, 2, 3, 4, 5, 6, 7] rfl)
          by_cases hsw4 : x_16 = 4
          · subst hsw4
            refine lv_tableIn (x := 4) (off := 277) (tgt := 349) hx hb dX1_turnsOf_72 (by decide) (by decide) rfl (by decide) ?_
            refine lv_iload hx hb dX1_turnsOf_349 (lv_at hl 7 rfl) ?_
            refine lv_aload_n hx hb dX1_turnsOf_351 rfl (lv_at hl 2 rfl) ?_
            refine lv_aload_n hx hb dX1_turnsOf_352 rfl (lv_at hl 3 rfl) ?_
            refine lv_iload_n hx hb dX1_turnsOf_353 rfl (lv_at hl 4 rfl) ?_
            refine lv_iload hx hb dX1_turnsOf_354 (lv_at hl 0 rfl) ?_
            refine mcallV' (g := g) (q0 := 0) (ci := 1) (As := [.ref o, .int x1, .int 4]) (rest := [.int x_4]) St hK hT hA hP hD hS hl.1 [0, 1] [] rfl rfl rfl (c_l_partOfF l g lo lc lz ll lm lg ld fc o a pe wo tx ch jo tr dy sd f x1 4 b_pe b_wo rf b_x1) (cwV 3 hts (zgL (zl4 k104 k105 k106 k85) k93) rfl rfl rfl (by decide +kernel) ⟨Nat.le_of_ble_eq_true rfl, Nat.le_of_ble_eq_true rfl⟩) rfl rfl rfl rfl (Nat.le_of_ble_eq_true rfl) dX1_turnsOf_356 ⟨(Nat.le_of_ble_eq_true rfl), (Nat.le_of_ble_eq_true rfl)⟩ (fun _u H locs hq24 hP hD hS => ?_)
            have hP : va_P g.1 vwCl (List.flatten [bLaw g lo lc lz ll lm lg ld fc, bTown g o a pe wo tx ch jo tr dy sd f]) H := hP
            have hD : va_D A (List.flatten [bLaw g lo lc lz ll lm lg ld fc, bTown g o a pe wo tx ch jo tr dy sd f]) := hD
            refine W.widen (k := 0) (n := 0) (Nat.le_of_ble_eq_true rfl) (Nat.le_of_ble_eq_true rfl) ?_
            refine W.eq (g2 := F0 m 359 ls [.int (zPv (zEnvC f pe.toInt.toNat x1.toInt.toNat lm lg ld) 4), .int x_4]) rfl ?_
            refine lv_iadd hx hb dX1_turnsOf_359 ?_
            refine lv_istore (lv' := [(5, .int (x_4 + (zPv (zEnvC f pe.toInt.toNat x1.toInt.toNat lm lg ld) 4))), (9, .int 4), (8, .int x_15), (0, .ref lo), (1, .ref o), (2, .int x1), (3, .int x_2), (4, .int x_3), (6, .int x_5), (7, .int x_6)]) hx hb dX1_turnsOf_360 hl (by decide) rfl (fun ls hl => ?_)
            refine ziinc3 (n' := 1) (a' := 1) (b' := 400) (lv' := fun v9 => [(7, .int v9), (5, .int (x_4 + (zPv (zEnvC f pe.toInt.toNat x1.toInt.toNat lm lg ld) 4))), (9, .int 4), (8, .int x_15), (0, .ref lo), (1, .ref o), (2, .int x1), (3, .int x_2), (4, .int x_3), (6, .int x_5)]) hx hb dX1_turnsOf_362 hl (k := 9) rfl (by decide) (fun _ => rfl) (zaddK (i := x_6.toInt) (j := 1) rfl (by decide) i7.1 n13 (Int.le_refl _) (Int.le_refl _) (by decide)) (fun x_25 ls hx_25 hl => ?_)
            refine lv_goto (tgt := 37) hx hb dX1_turnsOf_365 (by decide) ?_
            have hl := lv_sub (l' := [(0, .ref lo), (1, .ref o), (2, .int x1), (3, .int x_2), (4, .int x_3), (5, .int (x_4 + (zPv (zEnvC f pe.toInt.toNat x1.toInt.toNat lm lg ld) 4))), (6, .int x_5), (7, .int x_25), (8, .int x_15), (9, .int 4)]) hl [4, 5, 6, 7, 8, 1, 9, 0, 3, 2] rfl
            have hP : va_P g.1 vwCl (List.flatten [bLaw g lo lc lz ll lm lg ld fc, bTown g o a pe wo tx ch jo tr dy sd f]) H := hP
            have hD : va_D A (List.flatten [bLaw g lo lc lz ll lm lg ld fc, bTown g o a pe wo tx ch jo tr dy sd f]) := hD
            exact ih37_10 x_2 x_3 (x_4 + (zPv (zEnvC f pe.toInt.toNat x1.toInt.toNat lm lg ld) 4)) x_5 x_25 ⟨(Int.le_trans (by decide) hx_25.2.1), (Int.le_trans hx_25.2.2 (by decide))⟩ (zRuk_d i8 (by omega) hx_15.2 (zh0k (k := 4) (zi_of (n := 4) hx_16 (by decide)) (by decide)) hx_25.1 (congrArg (zPv _) hx_16)) H _ ls (by omega)  hP hD hS (lv_sub hl [0, 1, 2, 3, 4, 5, 6, 7] rfl)
          by_cases hsw5 : x_16 = 5
          · subst hsw5
            refine lv_tableIn (x := 5) (off := 277) (tgt := 349) hx hb dX1_turnsOf_72 (by decide) (by decide) rfl (by decide) ?_
            refine lv_iload hx hb dX1_turnsOf_349 (lv_at hl 7 rfl) ?_
            refine lv_aload_n hx hb dX1_turnsOf_351 rfl (lv_at hl 2 rfl) ?_
            refine lv_aload_n hx hb dX1_turnsOf_352 rfl (lv_at hl 3 rfl) ?_
            refine lv_iload_n hx hb dX1_turnsOf_353 rfl (lv_at hl 4 rfl) ?_
            refine lv_iload hx hb dX1_turnsOf_354 (lv_at hl 0 rfl) ?_
            refine mcallV' (g := g) (q0 := 0) (ci := 1) (As := [.ref o, .int x1, .int 5]) (rest := [.int x_4]) St hK hT hA hP hD hS hl.1 [0, 1] [] rfl rfl rfl (c_l_partOfF l g lo lc lz ll lm lg ld fc o a pe wo tx ch jo tr dy sd f x1 5 b_pe b_wo rf b_x1) (cwV 3 hts (zgL (zl4 k104 k105 k106 k85) k93) rfl rfl rfl (by decide +kernel) ⟨Nat.le_of_ble_eq_true rfl, Nat.le_of_ble_eq_true rfl⟩) rfl rfl rfl rfl (Nat.le_of_ble_eq_true rfl) dX1_turnsOf_356 ⟨(Nat.le_of_ble_eq_true rfl), (Nat.le_of_ble_eq_true rfl)⟩ (fun _u H locs hq26 hP hD hS => ?_)
            have hP : va_P g.1 vwCl (List.flatten [bLaw g lo lc lz ll lm lg ld fc, bTown g o a pe wo tx ch jo tr dy sd f]) H := hP
            have hD : va_D A (List.flatten [bLaw g lo lc lz ll lm lg ld fc, bTown g o a pe wo tx ch jo tr dy sd f]) := hD
            refine W.widen (k := 0) (n := 0) (Nat.le_of_ble_eq_true rfl) (Nat.le_of_ble_eq_true rfl) ?_
            refine W.eq (g2 := F0 m 359 ls [.int (zPv (zEnvC f pe.toInt.toNat x1.toInt.toNat lm lg ld) 5), .int x_4]) rfl ?_
            refine lv_iadd hx hb dX1_turnsOf_359 ?_
            refine lv_istore (lv' := [(5, .int (x_4 + (zPv (zEnvC f pe.toInt.toNat x1.toInt.toNat lm lg ld) 5))), (9, .int 5), (8, .int x_15), (0, .ref lo), (1, .ref o), (2, .int x1), (3, .int x_2), (4, .int x_3), (6, .int x_5), (7, .int x_6)]) hx hb dX1_turnsOf_360 hl (by decide) rfl (fun ls hl => ?_)
            refine ziinc3 (n' := 1) (a' := 1) (b' := 400) (lv' := fun v9 => [(7, .int v9), (5, .int (x_4 + (zPv (zEnvC f pe.toInt.toNat x1.toInt.toNat lm lg ld) 5))), (9, .int 5), (8, .int x_15), (0, .ref lo), (1, .ref o), (2, .int x1), (3, .int x_2), (4, .int x_3), (6, .int x_5)]) hx hb dX1_turnsOf_362 hl (k := 9) rfl (by decide) (fun _ => rfl) (zaddK (i := x_6.toInt) (j := 1) rfl (by decide) i7.1 n13 (Int.le_refl _) (Int.le_refl _) (by decide)) (fun x_27 ls hx_27 hl => ?_)
            refine lv_goto (tgt := 37) hx hb dX1_turnsOf_365 (by decide) ?_
            have hl := lv_sub (l' := [(0, .ref lo), (1, .ref o), (2, .int x1), (3, .int x_2), (4, .int x_3), (5, .int (x_4 + (zPv (zEnvC f pe.toInt.toNat x1.toInt.toNat lm lg ld) 5))), (6, .int x_5), (7, .int x_27), (8, .int x_15), (9, .int 5)]) hl [4, 5, 6, 7, 8, 1, 9, 0, 3, 2] rfl
            have hP : va_P g.1 vwCl (List.flatten [bLaw g lo lc lz ll lm lg ld fc, bTown g o a pe wo tx ch jo tr dy sd f]) H := hP
            have hD : va_D A (List.flatten [bLaw g lo lc lz ll lm lg ld fc, bTown g o a pe wo tx ch jo tr dy sd f]) := hD
            exact ih37_10 x_2 x_3 (x_4 + (zPv (zEnvC f pe.toInt.toNat x1.toInt.toNat lm lg ld) 5)) x_5 x_27 ⟨(Int.le_trans (by decide) hx_27.2.1), (Int.le_trans hx_27.2.2 (by decide))⟩ (zRuk_d i8 (by omega) hx_15.2 (zh0k (k := 5) (zi_of (n := 5) hx_16 (by decide)) (by decide)) hx_27.1 (congrArg (zPv _) hx_16)) H _ ls (by omega)  hP hD hS (lv_sub hl [0, 1, 2, 3, 4, 5, 6, 7] rfl)
          by_cases hsw6 : x_16 = 6
          · subst hsw6
            refine lv_tableIn (x := 6) (off := 277) (tgt := 349) hx hb dX1_turnsOf_72 (by decide) (by decide) rfl (by decide) ?_
            refine lv_iload hx hb dX1_turnsOf_349 (lv_at hl 7 rfl) ?_
            refine lv_aload_n hx hb dX1_turnsOf_351 rfl (lv_at hl 2 rfl) ?_
            refine lv_aload_n hx hb dX1_turnsOf_352 rfl (lv_at hl 3 rfl) ?_
            refine lv_iload_n hx hb dX1_turnsOf_353 rfl (lv_at hl 4 rfl) ?_
            refine lv_iload hx hb dX1_turnsOf_354 (lv_at hl 0 rfl) ?_
            refine mcallV' (g := g) (q0 := 0) (ci := 1) (As := [.ref o, .int x1, .int 6]) (rest := [.int x_4]) St hK hT hA hP hD hS hl.1 [0, 1] [] rfl rfl rfl (c_l_partOfF l g lo lc lz ll lm lg ld fc o a pe wo tx ch jo tr dy sd f x1 6 b_pe b_wo rf b_x1) (cwV 3 hts (zgL (zl4 k104 k105 k106 k85) k93) rfl rfl rfl (by decide +kernel) ⟨Nat.le_of_ble_eq_true rfl, Nat.le_of_ble_eq_true rfl⟩) rfl rfl rfl rfl (Nat.le_of_ble_eq_true rfl) dX1_turnsOf_356 ⟨(Nat.le_of_ble_eq_true rfl), (Nat.le_of_ble_eq_true rfl)⟩ (fun _u H locs hq28 hP hD hS => ?_)
            have hP : va_P g.1 vwCl (List.flatten [bLaw g lo lc lz ll lm lg ld fc, bTown g o a pe wo tx ch jo tr dy sd f]) H := hP
            have hD : va_D A (List.flatten [bLaw g lo lc lz ll lm lg ld fc, bTown g o a pe wo tx ch jo tr dy sd f]) := hD
            refine W.widen (k := 0) (n := 0) (Nat.le_of_ble_eq_true rfl) (Nat.le_of_ble_eq_true rfl) ?_
            refine W.eq (g2 := F0 m 359 ls [.int (zPv (zEnvC f pe.toInt.toNat x1.toInt.toNat lm lg ld) 6), .int x_4]) rfl ?_
            refine lv_iadd hx hb dX1_turnsOf_359 ?_
            refine lv_istore (lv' := [(5, .int (x_4 + (zPv (zEnvC f pe.toInt.toNat x1.toInt.toNat lm lg ld) 6))), (9, .int 6), (8, .int x_15), (0, .ref lo), (1, .ref o), (2, .int x1), (3, .int x_2), (4, .int x_3), (6, .int x_5), (7, .int x_6)]) hx hb dX1_turnsOf_360 hl (by decide) rfl (fun ls hl => ?_)
            refine ziinc3 (n' := 1) (a' := 1) (b' := 400) (lv' := fun v9 => [(7, .int v9), (5, .int (x_4 + (zPv (zEnvC f pe.toInt.toNat x1.toInt.toNat lm lg ld) 6))), (9, .int 6), (8, .int x_15), (0, .ref lo), (1, .ref o), (2, .int x1), (3, .int x_2), (4, .int x_3), (6, .int x_5)]) hx hb dX1_turnsOf_362 hl (k := 9) rfl (by decide) (fun _ => rfl) (zaddK (i := x_6.toInt) (j := 1) rfl (by decide) i7.1 n13 (Int.le_refl _) (Int.le_refl _) (by decide)) (fun x_29 ls hx_29 hl => ?_)
            refine lv_goto (tgt := 37) hx hb dX1_turnsOf_365 (by decide) ?_
            have hl := lv_sub (l' := [(0, .ref lo), (1, .ref o), (2, .int x1), (3, .int x_2), (4, .int x_3), (5, .int (x_4 + (zPv (zEnvC f pe.toInt.toNat x1.toInt.toNat lm lg ld) 6))), (6, .int x_5), (7, .int x_29), (8, .int x_15), (9, .int 6)]) hl [4, 5, 6, 7, 8, 1, 9, 0, 3, 2] rfl
            have hP : va_P g.1 vwCl (List.flatten [bLaw g lo lc lz ll lm lg ld fc, bTown g o a pe wo tx ch jo tr dy sd f]) H := hP
            have hD : va_D A (List.flatten [bLaw g lo lc lz ll lm lg ld fc, bTown g o a pe wo tx ch jo tr dy sd f]) := hD
            exact ih37_10 x_2 x_3 (x_4 + (zPv (zEnvC f pe.toInt.toNat x1.toInt.toNat lm lg ld) 6)) x_5 x_29 ⟨(Int.le_trans (by decide) hx_29.2.1), (Int.le_trans hx_29.2.2 (by decide))⟩ (zRuk_d i8 (by omega) hx_15.2 (zh0k (k := 6) (zi_of (n := 6) hx_16 (by decide)) (by decide)) hx_29.1 (congrArg (zPv _) hx_16)) H _ ls (by omega)  hP hD hS (lv_sub hl [0, 1, 2, 3, 4, 5, 6, 7] rfl)
          by_cases hsw7 : x_16 = 7
          · subst hsw7
            refine lv_tableIn (x := 7) (off := 94) (tgt := 166) hx hb dX1_turnsOf_72 (by decide) (by decide) rfl (by decide) ?_
            refine lv_iload hx hb dX1_turnsOf_166 (lv_at hl 7 rfl) ?_
            refine lv_istore (lv' := [(4, .int x_4), (9, .int 7), (8, .int x_15), (0, .ref lo), (1, .ref o), (2, .int x1), (3, .int x_2), (5, .int x_4), (6, .int x_5), (7, .int x_6)]) hx hb dX1_turnsOf_168 hl (by decide) rfl (fun ls hl => ?_)
            refine lv_iconst (v := 0) hx hb dX1_turnsOf_170 (by decide) ?_
            refine lv_istore (lv' := [(5, .int 0), (4, .int x_4), (9, .int 7), (8, .int x_15), (0, .ref lo), (1, .ref o), (2, .int x1), (3, .int x_2), (6, .int x_5), (7, .int x_6)]) hx hb dX1_turnsOf_171 hl (by decide) rfl (fun ls hl => ?_)
            refine lv_goto (tgt := 362) hx hb dX1_turnsOf_173 (by decide) ?_
            refine ziinc3 (n' := 1) (a' := 1) (b' := 400) (lv' := fun v9 => [(7, .int v9), (5, .int 0), (4, .int x_4), (9, .int 7), (8, .int x_15), (0, .ref lo), (1, .ref o), (2, .int x1), (3, .int x_2), (6, .int x_5)]) hx hb dX1_turnsOf_362 hl (k := 9) rfl (by decide) (fun _ => rfl) (zaddK (i := x_6.toInt) (j := 1) rfl (by decide) i7.1 n13 (Int.le_refl _) (Int.le_refl _) (by decide)) (fun x_30 ls hx_30 hl => ?_)
            refine lv_goto (tgt := 37) hx hb dX1_turnsOf_365 (by decide) ?_
            have hl := lv_sub (l' := [(0, .ref lo), (1, .ref o), (2, .int x1), (3, .int x_2), (4, .int x_4), (5, .int 0), (6, .int x_5), (7, .int x_30), (8, .int x_15), (9, .int 7)]) hl [5, 6, 7, 8, 2, 1, 9, 0, 4, 3] rfl
            have hL0 : (0 : Int32).toInt = 0 := by decide
            have hP : va_P g.1 vwCl (List.flatten [bLaw g lo lc lz ll lm lg ld fc, bTown g o a pe wo tx ch jo tr dy sd f]) H := hP
            have hD : va_D A (List.flatten [bLaw g lo lc lz ll lm lg ld fc, bTown g o a pe wo tx ch jo tr dy sd f]) := hD
            exact ih37_10 x_2 x_4 0 x_5 x_30 ⟨(Int.le_trans (by decide) hx_30.2.1), (Int.le_trans hx_30.2.2 (by decide))⟩ (zRuk_7 i8 (by omega) hx_15.2 (zi_of hx_16 (by decide)) hx_30.1) H _ ls (by omega)  hP hD hS (lv_sub hl [0, 1, 2, 3, 4, 5, 6, 7] rfl)
          by_cases hsw8 : x_16 = 8
          · subst hsw8
            refine lv_tableIn (x := 8) (off := 104) (tgt := 176) hx hb dX1_turnsOf_72 (by decide) (by decide) rfl (by decide) ?_
            refine lv_iload hx hb dX1_turnsOf_176 (lv_at hl 6 rfl) ?_
            refine lv_iload hx hb dX1_turnsOf_178 (lv_at hl 7 rfl) ?_
            refine lv_icmp_ge (tgt := 187) hx hb dX1_turnsOf_180 (by decide) (fun cb9 => ?_) (fun cb9 => ?_)
            · skip
              have c31 : x_4.toInt ≤ x_3.toInt := zle cb9 rfl rfl
              refine lv_iconst (v := 0) hx hb dX1_turnsOf_187 (by decide) ?_
              refine lv_istore (lv' := [(6, .int 0), (9, .int 8), (8, .int x_15), (0, .ref lo), (1, .ref o), (2, .int x1), (3, .int x_2), (4, .int x_3), (5, .int x_4), (7, .int x_6)]) hx hb dX1_turnsOf_188 hl (by decide) rfl (fun ls hl => ?_)
              refine lv_iconst (v := 0) hx hb dX1_turnsOf_190 (by decide) ?_
              refine lv_istore (lv' := [(5, .int 0), (6, .int 0), (9, .int 8), (8, .int x_15), (0, .ref lo), (1, .ref o), (2, .int x1), (3, .int x_2), (4, .int x_3), (7, .int x_6)]) hx hb dX1_turnsOf_191 hl (by decide) rfl (fun ls hl => ?_)
              refine lv_goto (tgt := 362) hx hb dX1_turnsOf_193 (by decide) ?_
              refine ziinc3 (n' := 1) (a' := 1) (b' := 400) (lv' := fun v9 => [(7, .int v9), (5, .int 0), (6, .int 0), (9, .int 8), (8, .int x_15), (0, .ref lo), (1, .ref o), (2, .int x1), (3, .int x_2), (4, .int x_3)]) hx hb dX1_turnsOf_362 hl (k := 9) rfl (by decide) (fun _ => rfl) (zaddK (i := x_6.toInt) (j := 1) rfl (by decide) i7.1 n13 (Int.le_refl _) (Int.le_refl _) (by decide)) (fun x_32 ls hx_32 hl => ?_)
              refine lv_goto (tgt := 37) hx hb dX1_turnsOf_365 (by decide) ?_
              have hl := lv_sub (l' := [(0, .ref lo), (1, .ref o), (2, .int x1), (3, .int x_2), (4, .int x_3), (5, .int 0), (6, .int 0), (7, .int x_32), (8, .int x_15), (9, .int 8)]) hl [5, 6, 7, 8, 9, 1, 2, 0, 4, 3] rfl
              have hL0 : (0 : Int32).toInt = 0 := by decide
              have hP : va_P g.1 vwCl (List.flatten [bLaw g lo lc lz ll lm lg ld fc, bTown g o a pe wo tx ch jo tr dy sd f]) H := hP
              have hD : va_D A (List.flatten [bLaw g lo lc lz ll lm lg ld fc, bTown g o a pe wo tx ch jo tr dy sd f]) := hD
              exact ih37_10 x_2 x_3 0 0 x_32 ⟨(Int.le_trans (by decide) hx_32.2.1), (Int.le_trans hx_32.2.2 (by decide))⟩ (zRuk_8f i8 (by omega) hx_15.2 (zi_of hx_16 (by decide)) hx_32.1 (by omega)) H _ ls (by omega)  hP hD hS (lv_sub hl [0, 1, 2, 3, 4, 5, 6, 7] rfl)
            · skip
              have c33 : x_3.toInt < x_4.toInt := zlti (Int32.not_le.mp cb9) rfl rfl
              refine lv_iconst (v := 1) hx hb dX1_turnsOf_183 (by decide) ?_
              refine lv_goto (tgt := 188) hx hb dX1_turnsOf_184 (by decide) ?_
              refine lv_istore (lv' := [(6, .int 1), (9, .int 8), (8, .int x_15), (0, .ref lo), (1, .ref o), (2, .int x1), (3, .int x_2), (4, .int x_3), (5, .int x_4), (7, .int x_6)]) hx hb dX1_turnsOf_188 hl (by decide) rfl (fun ls hl => ?_)
              refine lv_iconst (v := 0) hx hb dX1_turnsOf_190 (by decide) ?_
              refine lv_istore (lv' := [(5, .int 0), (6, .int 1), (9, .int 8), (8, .int x_15), (0, .ref lo), (1, .ref o), (2, .int x1), (3, .int x_2), (4, .int x_3), (7, .int x_6)]) hx hb dX1_turnsOf_191 hl (by decide) rfl (fun ls hl => ?_)
              refine lv_goto (tgt := 362) hx hb dX1_turnsOf_193 (by decide) ?_
              refine ziinc3 (n' := 1) (a' := 1) (b' := 400) (lv' := fun v9 => [(7, .int v9), (5, .int 0), (6, .int 1), (9, .int 8), (8, .int x_15), (0, .ref lo), (1, .ref o), (2, .int x1), (3, .int x_2), (4, .int x_3)]) hx hb dX1_turnsOf_362 hl (k := 9) rfl (by decide) (fun _ => rfl) (zaddK (i := x_6.toInt) (j := 1) rfl (by decide) i7.1 n13 (Int.le_refl _) (Int.le_refl _) (by decide)) (fun x_34 ls hx_34 hl => ?_)
              refine lv_goto (tgt := 37) hx hb dX1_turnsOf_365 (by decide) ?_
              have hl := lv_sub (l' := [(0, .ref lo), (1, .ref o), (2, .int x1), (3, .int x_2), (4, .int x_3), (5, .int 0), (6, .int 1), (7, .int x_34), (8, .int x_15), (9, .int 8)]) hl [5, 6, 7, 8, 9, 1, 2, 0, 4, 3] rfl
              have hL0 : (0 : Int32).toInt = 0 := by decide
              have hL1 : (1 : Int32).toInt = 1 := by decide
              have hP : va_P g.1 vwCl (List.flatten [bLaw g lo lc lz ll lm lg ld fc, bTown g o a pe wo tx ch jo tr dy sd f]) H := hP
              have hD : va_D A (List.flatten [bLaw g lo lc lz ll lm lg ld fc, bTown g o a pe wo tx ch jo tr dy sd f]) := hD
              exact ih37_10 x_2 x_3 0 1 x_34 ⟨(Int.le_trans (by decide) hx_34.2.1), (Int.le_trans hx_34.2.2 (by decide))⟩ (zRuk_8t i8 (by omega) hx_15.2 (zi_of hx_16 (by decide)) hx_34.1 (by omega)) H _ ls (by omega)  hP hD hS (lv_sub hl [0, 1, 2, 3, 4, 5, 6, 7] rfl)
          by_cases hsw9 : x_16 = 9
          · subst hsw9
            refine lv_tableIn (x := 9) (off := 124) (tgt := 196) hx hb dX1_turnsOf_72 (by decide) (by decide) rfl (by decide) ?_
            refine lv_iload hx hb dX1_turnsOf_196 (lv_at hl 6 rfl) ?_
            refine lv_iload hx hb dX1_turnsOf_198 (lv_at hl 7 rfl) ?_
            refine lv_icmp_le (tgt := 207) hx hb dX1_turnsOf_200 (by decide) (fun cb9 => ?_) (fun cb9 => ?_)
            · skip
              have c35 : x_3.toInt ≤ x_4.toInt := zle cb9 rfl rfl
              refine lv_iconst (v := 0) hx hb dX1_turnsOf_207 (by decide) ?_
              refine lv_istore (lv' := [(6, .int 0), (9, .int 9), (8, .int x_15), (0, .ref lo), (1, .ref o), (2, .int x1), (3, .int x_2), (4, .int x_3), (5, .int x_4), (7, .int x_6)]) hx hb dX1_turnsOf_208 hl (by decide) rfl (fun ls hl => ?_)
              refine lv_iconst (v := 0) hx hb dX1_turnsOf_210 (by decide) ?_
              refine lv_istore (lv' := [(5, .int 0), (6, .int 0), (9, .int 9), (8, .int x_15), (0, .ref lo), (1, .ref o), (2, .int x1), (3, .int x_2), (4, .int x_3), (7, .int x_6)]) hx hb dX1_turnsOf_211 hl (by decide) rfl (fun ls hl => ?_)
              refine lv_goto (tgt := 362) hx hb dX1_turnsOf_213 (by decide) ?_
              refine ziinc3 (n' := 1) (a' := 1) (b' := 400) (lv' := fun v9 => [(7, .int v9), (5, .int 0), (6, .int 0), (9, .int 9), (8, .int x_15), (0, .ref lo), (1, .ref o), (2, .int x1), (3, .int x_2), (4, .int x_3)]) hx hb dX1_turnsOf_362 hl (k := 9) rfl (by decide) (fun _ => rfl) (zaddK (i := x_6.toInt) (j := 1) rfl (by decide) i7.1 n13 (Int.le_refl _) (Int.le_refl _) (by decide)) (fun x_36 ls hx_36 hl => ?_)
              refine lv_goto (tgt := 37) hx hb dX1_turnsOf_365 (by decide) ?_
              have hl := lv_sub (l' := [(0, .ref lo), (1, .ref o), (2, .int x1), (3, .int x_2), (4, .int x_3), (5, .int 0), (6, .int 0), (7, .int x_36), (8, .int x_15), (9, .int 9)]) hl [5, 6, 7, 8, 9, 1, 2, 0, 4, 3] rfl
              have hL0 : (0 : Int32).toInt = 0 := by decide
              have hP : va_P g.1 vwCl (List.flatten [bLaw g lo lc lz ll lm lg ld fc, bTown g o a pe wo tx ch jo tr dy sd f]) H := hP
              have hD : va_D A (List.flatten [bLaw g lo lc lz ll lm lg ld fc, bTown g o a pe wo tx ch jo tr dy sd f]) := hD
              exact ih37_10 x_2 x_3 0 0 x_36 ⟨(Int.le_trans (by decide) hx_36.2.1), (Int.le_trans hx_36.2.2 (by decide))⟩ (zRuk_9f i8 (by omega) hx_15.2 (zi_of hx_16 (by decide)) hx_36.1 (by omega)) H _ ls (by omega)  hP hD hS (lv_sub hl [0, 1, 2, 3, 4, 5, 6, 7] rfl)
            · skip
              have c37 : x_4.toInt < x_3.toInt := zlti (Int32.not_le.mp cb9) rfl rfl
              refine lv_iconst (v := 1) hx hb dX1_turnsOf_203 (by decide) ?_
              refine lv_goto (tgt := 208) hx hb dX1_turnsOf_204 (by decide) ?_
              refine lv_istore (lv' := [(6, .int 1), (9, .int 9), (8, .int x_15), (0, .ref lo), (1, .ref o), (2, .int x1), (3, .int x_2), (4, .int x_3), (5, .int x_4), (7, .int x_6)]) hx hb dX1_turnsOf_208 hl (by decide) rfl (fun ls hl => ?_)
              refine lv_iconst (v := 0) hx hb dX1_turnsOf_210 (by decide) ?_
              refine lv_istore (lv' := [(5, .int 0), (6, .int 1), (9, .int 9), (8, .int x_15), (0, .ref lo), (1, .ref o), (2, .int x1), (3, .int x_2), (4, .int x_3), (7, .int x_6)]) hx hb dX1_turnsOf_211 hl (by decide) rfl (fun ls hl => ?_)
              refine lv_goto (tgt := 362) hx hb dX1_turnsOf_213 (by decide) ?_
              refine ziinc3 (n' := 1) (a' := 1) (b' := 400) (lv' := fun v9 => [(7, .int v9), (5, .int 0), (6, .int 1), (9, .int 9), (8, .int x_15), (0, .ref lo), (1, .ref o), (2, .int x1), (3, .int x_2), (4, .int x_3)]) hx hb dX1_turnsOf_362 hl (k := 9) rfl (by decide) (fun _ => rfl) (zaddK (i := x_6.toInt) (j := 1) rfl (by decide) i7.1 n13 (Int.le_refl _) (Int.le_refl _) (by decide)) (fun x_38 ls hx_38 hl => ?_)
              refine lv_goto (tgt := 37) hx hb dX1_turnsOf_365 (by decide) ?_
              have hl := lv_sub (l' := [(0, .ref lo), (1, .ref o), (2, .int x1), (3, .int x_2), (4, .int x_3), (5, .int 0), (6, .int 1), (7, .int x_38), (8, .int x_15), (9, .int 9)]) hl [5, 6, 7, 8, 9, 1, 2, 0, 4, 3] rfl
              have hL0 : (0 : Int32).toInt = 0 := by decide
              have hL1 : (1 : Int32).toInt = 1 := by decide
              have hP : va_P g.1 vwCl (List.flatten [bLaw g lo lc lz ll lm lg ld fc, bTown g o a pe wo tx ch jo tr dy sd f]) H := hP
              have hD : va_D A (List.flatten [bLaw g lo lc lz ll lm lg ld fc, bTown g o a pe wo tx ch jo tr dy sd f]) := hD
              exact ih37_10 x_2 x_3 0 1 x_38 ⟨(Int.le_trans (by decide) hx_38.2.1), (Int.le_trans hx_38.2.2 (by decide))⟩ (zRuk_9t i8 (by omega) hx_15.2 (zi_of hx_16 (by decide)) hx_38.1 (by omega)) H _ ls (by omega)  hP hD hS (lv_sub hl [0, 1, 2, 3, 4, 5, 6, 7] rfl)
          by_cases hsw10 : x_16 = 10
          · subst hsw10
            refine lv_tableIn (x := 10) (off := 144) (tgt := 216) hx hb dX1_turnsOf_72 (by decide) (by decide) rfl (by decide) ?_
            refine lv_aload_n hx hb dX1_turnsOf_216 rfl (lv_at hl 3 rfl) ?_
            refine va_get (D := g.1) (ci := 7) (v := .ref (a 4)) (C := RX9) (T := TX9) (N := 19) hx hb hts izRX9 hown hK hP 2 rfl rfl 12 (by decide) (hts _ k99) (fun _ h9 => h9) rfl dX1_turnsOf_217 ?_
            refine lv_iload_n hx hb dX1_turnsOf_220 rfl (lv_at hl 4 rfl) ?_
            refine va_zald hx hb hK hP 7 1 rfl rfl (zinK (a := 0) (b := 7) b_x1.1 b_x1.2 (by decide)) dX1_turnsOf_221 ?_
            refine ztop (r := (f 4 x1.toInt.toNat)) rfl ?_
            refine lv_istore (lv' := [(6, .int (f 4 x1.toInt.toNat)), (9, .int 10), (8, .int x_15), (0, .ref lo), (1, .ref o), (2, .int x1), (3, .int x_2), (4, .int x_3), (5, .int x_4), (7, .int x_6)]) hx hb dX1_turnsOf_222 hl (by decide) rfl (fun ls hl => ?_)
            refine lv_goto (tgt := 362) hx hb dX1_turnsOf_224 (by decide) ?_
            refine ziinc3 (n' := 1) (a' := 1) (b' := 400) (lv' := fun v9 => [(7, .int v9), (6, .int (f 4 x1.toInt.toNat)), (9, .int 10), (8, .int x_15), (0, .ref lo), (1, .ref o), (2, .int x1), (3, .int x_2), (4, .int x_3), (5, .int x_4)]) hx hb dX1_turnsOf_362 hl (k := 9) rfl (by decide) (fun _ => rfl) (zaddK (i := x_6.toInt) (j := 1) rfl (by decide) i7.1 n13 (Int.le_refl _) (Int.le_refl _) (by decide)) (fun x_39 ls hx_39 hl => ?_)
            refine lv_goto (tgt := 37) hx hb dX1_turnsOf_365 (by decide) ?_
            have hl := lv_sub (l' := [(0, .ref lo), (1, .ref o), (2, .int x1), (3, .int x_2), (4, .int x_3), (5, .int x_4), (6, .int (f 4 x1.toInt.toNat)), (7, .int x_39), (8, .int x_15), (9, .int 10)]) hl [4, 5, 6, 7, 8, 9, 1, 0, 3, 2] rfl
            have hP : va_P g.1 vwCl (List.flatten [bLaw g lo lc lz ll lm lg ld fc, bTown g o a pe wo tx ch jo tr dy sd f]) H := hP
            have hD : va_D A (List.flatten [bLaw g lo lc lz ll lm lg ld fc, bTown g o a pe wo tx ch jo tr dy sd f]) := hD
            exact ih37_10 x_2 x_3 x_4 (f 4 x1.toInt.toNat) x_39 ⟨(Int.le_trans (by decide) hx_39.2.1), (Int.le_trans hx_39.2.2 (by decide))⟩ (zRuk_10 i8 (by omega) hx_15.2 (zi_of hx_16 (by decide)) hx_39.1 (zE6 rf (by omega))) H _ ls (by omega)  hP hD hS (lv_sub hl [0, 1, 2, 3, 4, 5, 6, 7] rfl)
          by_cases hsw11 : x_16 = 11
          · subst hsw11
            refine lv_tableIn (x := 11) (off := 155) (tgt := 227) hx hb dX1_turnsOf_72 (by decide) (by decide) rfl (by decide) ?_
            refine lv_aload_n hx hb dX1_turnsOf_227 rfl (lv_at hl 3 rfl) ?_
            refine va_get (D := g.1) (ci := 7) (v := .ref (a 2)) (C := RX9) (T := TX9) (N := 19) hx hb hts izRX9 hown hK hP 2 rfl rfl 10 (by decide) (hts _ k102) (fun _ h9 => h9) rfl dX1_turnsOf_228 ?_
            refine lv_iload_n hx hb dX1_turnsOf_231 rfl (lv_at hl 4 rfl) ?_
            refine va_iald hx hb hK hP 5 0 rfl rfl (zinK (a := 0) (b := 7) b_x1.1 b_x1.2 (by decide)) dX1_turnsOf_232 ?_
            refine ztop (r := (f 2 x1.toInt.toNat)) rfl ?_
            refine lv_if_le (tgt := 240) hx hb dX1_turnsOf_233 (by decide) (fun cb9 => ?_) (fun cb9 => ?_)
            · skip
              have c40 : (f 2 x1.toInt.toNat).toInt ≤ 0 := zle cb9 rfl (by decide)
              have n41 : (f 2 x1.toInt.toNat).toInt ≤ 0 := Int.le_trans c40 (Int.le_refl _)
              refine lv_iconst (v := 0) hx hb dX1_turnsOf_240 (by decide) ?_
              refine lv_istore (lv' := [(6, .int 0), (9, .int 11), (8, .int x_15), (0, .ref lo), (1, .ref o), (2, .int x1), (3, .int x_2), (4, .int x_3), (5, .int x_4), (7, .int x_6)]) hx hb dX1_turnsOf_241 hl (by decide) rfl (fun ls hl => ?_)
              refine lv_goto (tgt := 362) hx hb dX1_turnsOf_243 (by decide) ?_
              refine ziinc3 (n' := 1) (a' := 1) (b' := 400) (lv' := fun v9 => [(7, .int v9), (6, .int 0), (9, .int 11), (8, .int x_15), (0, .ref lo), (1, .ref o), (2, .int x1), (3, .int x_2), (4, .int x_3), (5, .int x_4)]) hx hb dX1_turnsOf_362 hl (k := 9) rfl (by decide) (fun _ => rfl) (zaddK (i := x_6.toInt) (j := 1) rfl (by decide) i7.1 n13 (Int.le_refl _) (Int.le_refl _) (by decide)) (fun x_42 ls hx_42 hl => ?_)
              refine lv_goto (tgt := 37) hx hb dX1_turnsOf_365 (by decide) ?_
              have hl := lv_sub (l' := [(0, .ref lo), (1, .ref o), (2, .int x1), (3, .int x_2), (4, .int x_3), (5, .int x_4), (6, .int 0), (7, .int x_42), (8, .int x_15), (9, .int 11)]) hl [4, 5, 6, 7, 8, 9, 1, 0, 3, 2] rfl
              have hL0 : (0 : Int32).toInt = 0 := by decide
              have hP : va_P g.1 vwCl (List.flatten [bLaw g lo lc lz ll lm lg ld fc, bTown g o a pe wo tx ch jo tr dy sd f]) H := hP
              have hD : va_D A (List.flatten [bLaw g lo lc lz ll lm lg ld fc, bTown g o a pe wo tx ch jo tr dy sd f]) := hD
              exact ih37_10 x_2 x_3 x_4 0 x_42 ⟨(Int.le_trans (by decide) hx_42.2.1), (Int.le_trans hx_42.2.2 (by decide))⟩ (zRuk_11 i8 (by omega) hx_15.2 (zi_of hx_16 (by decide)) hx_42.1 (zE7f (by omega))) H _ ls (by omega)  hP hD hS (lv_sub hl [0, 1, 2, 3, 4, 5, 6, 7] rfl)
            · skip
              have c43 : 0 < (f 2 x1.toInt.toNat).toInt := zlti (Int32.not_le.mp cb9) (by decide) rfl
              have n44 : 1 ≤ (f 2 x1.toInt.toNat).toInt := zL2 (a := 0) c43 (Int.le_refl _) (by decide)
              refine lv_iconst (v := 1) hx hb dX1_turnsOf_236 (by decide) ?_
              refine lv_goto (tgt := 241) hx hb dX1_turnsOf_237 (by decide) ?_
              refine lv_istore (lv' := [(6, .int 1), (9, .int 11), (8, .int x_15), (0, .ref lo), (1, .ref o), (2, .int x1), (3, .int x_2), (4, .int x_3), (5, .int x_4), (7, .int x_6)]) hx hb dX1_turnsOf_241 hl (by decide) rfl (fun ls hl => ?_)
              refine lv_goto (tgt := 362) hx hb dX1_turnsOf_243 (by decide) ?_
              refine ziinc3 (n' := 1) (a' := 1) (b' := 400) (lv' := fun v9 => [(7, .int v9), (6, .int 1), (9, .int 11), (8, .int x_15), (0, .ref lo), (1, .ref o), (2, .int x1), (3, .int x_2), (4, .int x_3), (5, .int x_4)]) hx hb dX1_turnsOf_362 hl (k := 9) rfl (by decide) (fun _ => rfl) (zaddK (i := x_6.toInt) (j := 1) rfl (by decide) i7.1 n13 (Int.le_refl _) (Int.le_refl _) (by decide)) (fun x_45 ls hx_45 hl => ?_)
              refine lv_goto (tgt := 37) hx hb dX1_turnsOf_365 (by decide) ?_
              have hl := lv_sub (l' := [(0, .ref lo), (1, .ref o), (2, .int x1), (3, .int x_2), (4, .int x_3), (5, .int x_4), (6, .int 1), (7, .int x_45), (8, .int x_15), (9, .int 11)]) hl [4, 5, 6, 7, 8, 9, 1, 0, 3, 2] rfl
              have hL1 : (1 : Int32).toInt = 1 := by decide
              have hP : va_P g.1 vwCl (List.flatten [bLaw g lo lc lz ll lm lg ld fc, bTown g o a pe wo tx ch jo tr dy sd f]) H := hP
              have hD : va_D A (List.flatten [bLaw g lo lc lz ll lm lg ld fc, bTown g o a pe wo tx ch jo tr dy sd f]) := hD
              exact ih37_10 x_2 x_3 x_4 1 x_45 ⟨(Int.le_trans (by decide) hx_45.2.1), (Int.le_trans hx_45.2.2 (by decide))⟩ (zRuk_11 i8 (by omega) hx_15.2 (zi_of hx_16 (by decide)) hx_45.1 (zE7t (by omega))) H _ ls (by omega)  hP hD hS (lv_sub hl [0, 1, 2, 3, 4, 5, 6, 7] rfl)
          by_cases hsw12 : x_16 = 12
          · subst hsw12
            refine lv_tableIn (x := 12) (off := 174) (tgt := 246) hx hb dX1_turnsOf_72 (by decide) (by decide) rfl (by decide) ?_
            refine lv_iload hx hb dX1_turnsOf_246 (lv_at hl 8 rfl) ?_
            refine lv_if_ne (tgt := 255) hx hb dX1_turnsOf_248 (by decide) (fun cb9 => ?_) (fun cb9 => ?_)
            · skip
              have c46 : ¬ x_5.toInt = 0 := zne cb9 rfl (by decide)
              refine lv_iconst (v := 0) hx hb dX1_turnsOf_255 (by decide) ?_
              refine lv_istore (lv' := [(6, .int 0), (9, .int 12), (8, .int x_15), (0, .ref lo), (1, .ref o), (2, .int x1), (3, .int x_2), (4, .int x_3), (5, .int x_4), (7, .int x_6)]) hx hb dX1_turnsOf_256 hl (by decide) rfl (fun ls hl => ?_)
              refine lv_goto (tgt := 362) hx hb dX1_turnsOf_258 (by decide) ?_
              refine ziinc3 (n' := 1) (a' := 1) (b' := 400) (lv' := fun v9 => [(7, .int v9), (6, .int 0), (9, .int 12), (8, .int x_15), (0, .ref lo), (1, .ref o), (2, .int x1), (3, .int x_2), (4, .int x_3), (5, .int x_4)]) hx hb dX1_turnsOf_362 hl (k := 9) rfl (by decide) (fun _ => rfl) (zaddK (i := x_6.toInt) (j := 1) rfl (by decide) i7.1 n13 (Int.le_refl _) (Int.le_refl _) (by decide)) (fun x_47 ls hx_47 hl => ?_)
              refine lv_goto (tgt := 37) hx hb dX1_turnsOf_365 (by decide) ?_
              have hl := lv_sub (l' := [(0, .ref lo), (1, .ref o), (2, .int x1), (3, .int x_2), (4, .int x_3), (5, .int x_4), (6, .int 0), (7, .int x_47), (8, .int x_15), (9, .int 12)]) hl [4, 5, 6, 7, 8, 9, 1, 0, 3, 2] rfl
              have hL0 : (0 : Int32).toInt = 0 := by decide
              have hP : va_P g.1 vwCl (List.flatten [bLaw g lo lc lz ll lm lg ld fc, bTown g o a pe wo tx ch jo tr dy sd f]) H := hP
              have hD : va_D A (List.flatten [bLaw g lo lc lz ll lm lg ld fc, bTown g o a pe wo tx ch jo tr dy sd f]) := hD
              exact ih37_10 x_2 x_3 x_4 0 x_47 ⟨(Int.le_trans (by decide) hx_47.2.1), (Int.le_trans hx_47.2.2 (by decide))⟩ (zRuk_12f i8 (by omega) hx_15.2 (zi_of hx_16 (by decide)) hx_47.1 (by omega)) H _ ls (by omega)  hP hD hS (lv_sub hl [0, 1, 2, 3, 4, 5, 6, 7] rfl)
            · skip
              have c48 : x_5.toInt = 0 := zeq cb9 rfl (by decide)
              have n49 : 0 ≤ x_5.toInt := Int.le_trans (Int.le_refl _) (Int.le_of_eq c48.symm)
              have n50 : x_5.toInt ≤ 0 := Int.le_trans (Int.le_of_eq c48) (Int.le_refl _)
              refine lv_iconst (v := 1) hx hb dX1_turnsOf_251 (by decide) ?_
              refine lv_goto (tgt := 256) hx hb dX1_turnsOf_252 (by decide) ?_
              refine lv_istore (lv' := [(6, .int 1), (9, .int 12), (8, .int x_15), (0, .ref lo), (1, .ref o), (2, .int x1), (3, .int x_2), (4, .int x_3), (5, .int x_4), (7, .int x_6)]) hx hb dX1_turnsOf_256 hl (by decide) rfl (fun ls hl => ?_)
              refine lv_goto (tgt := 362) hx hb dX1_turnsOf_258 (by decide) ?_
              refine ziinc3 (n' := 1) (a' := 1) (b' := 400) (lv' := fun v9 => [(7, .int v9), (6, .int 1), (9, .int 12), (8, .int x_15), (0, .ref lo), (1, .ref o), (2, .int x1), (3, .int x_2), (4, .int x_3), (5, .int x_4)]) hx hb dX1_turnsOf_362 hl (k := 9) rfl (by decide) (fun _ => rfl) (zaddK (i := x_6.toInt) (j := 1) rfl (by decide) i7.1 n13 (Int.le_refl _) (Int.le_refl _) (by decide)) (fun x_51 ls hx_51 hl => ?_)
              refine lv_goto (tgt := 37) hx hb dX1_turnsOf_365 (by decide) ?_
              have hl := lv_sub (l' := [(0, .ref lo), (1, .ref o), (2, .int x1), (3, .int x_2), (4, .int x_3), (5, .int x_4), (6, .int 1), (7, .int x_51), (8, .int x_15), (9, .int 12)]) hl [4, 5, 6, 7, 8, 9, 1, 0, 3, 2] rfl
              have hL1 : (1 : Int32).toInt = 1 := by decide
              have hP : va_P g.1 vwCl (List.flatten [bLaw g lo lc lz ll lm lg ld fc, bTown g o a pe wo tx ch jo tr dy sd f]) H := hP
              have hD : va_D A (List.flatten [bLaw g lo lc lz ll lm lg ld fc, bTown g o a pe wo tx ch jo tr dy sd f]) := hD
              exact ih37_10 x_2 x_3 x_4 1 x_51 ⟨(Int.le_trans (by decide) hx_51.2.1), (Int.le_trans hx_51.2.2 (by decide))⟩ (zRuk_12t i8 (by omega) hx_15.2 (zi_of hx_16 (by decide)) hx_51.1 (by omega)) H _ ls (by omega)  hP hD hS (lv_sub hl [0, 1, 2, 3, 4, 5, 6, 7] rfl)
          by_cases hsw13 : x_16 = 13
          · subst hsw13
            refine lv_tableIn (x := 13) (off := 189) (tgt := 261) hx hb dX1_turnsOf_72 (by decide) (by decide) rfl (by decide) ?_
            refine lv_iload hx hb dX1_turnsOf_261 (lv_at hl 8 rfl) ?_
            refine lv_if_eq (tgt := 271) hx hb dX1_turnsOf_263 (by decide) (fun cb9 => ?_) (fun cb9 => ?_)
            · skip
              have c52 : x_5.toInt = 0 := zeq cb9 rfl (by decide)
              have n53 : 0 ≤ x_5.toInt := Int.le_trans (Int.le_refl _) (Int.le_of_eq c52.symm)
              have n54 : x_5.toInt ≤ 0 := Int.le_trans (Int.le_of_eq c52) (Int.le_refl _)
              refine lv_iload hx hb dX1_turnsOf_271 (lv_at hl 9 rfl) ?_
              refine lv_iload hx hb dX1_turnsOf_273 (lv_at hl 1 rfl) ?_
              refine lv_iconst (v := 1) hx hb dX1_turnsOf_275 (by decide) ?_
              refine lv_isub hx hb dX1_turnsOf_276 ?_
              refine zg3 (zsubK (i := x_15.toInt) (j := 1) (a' := (-67108865)) (b' := 67108862) rfl (by decide) hx_15.1.1 hx_15.1.2 (Int.le_refl _) (Int.le_refl _) (by decide)) (fun x_55 hx_55 => ?_)
              refine va_mmax hx hb (by rw [hml]; exact hl.1.symm) hown (hts _ k103) (hts _ k45) (hts _ k42) (hts _ k46) (Nat.le_of_ble_eq_true rfl) (Nat.le_of_ble_eq_true rfl) (Nat.le_of_ble_eq_true rfl) (Nat.le_of_ble_eq_true rfl) dX1_turnsOf_277 ?_
              refine zgmx (i := x_6.toInt) (j := x_55.toInt) rfl rfl (fun x_56 hx_56 => ?_)
              refine lv_istore (lv' := [(7, .int x_56), (9, .int 13), (8, .int x_15), (0, .ref lo), (1, .ref o), (2, .int x1), (3, .int x_2), (4, .int x_3), (5, .int x_4), (6, .int x_5)]) hx hb dX1_turnsOf_280 hl (by decide) rfl (fun ls hl => ?_)
              refine lv_goto (tgt := 362) hx hb dX1_turnsOf_282 (by decide) ?_
              refine ziinc (j := x_56.toInt + 1) (lv' := fun v9 => [(7, .int v9), (9, .int 13), (8, .int x_15), (0, .ref lo), (1, .ref o), (2, .int x1), (3, .int x_2), (4, .int x_3), (5, .int x_4), (6, .int x_5)]) hx hb dX1_turnsOf_362 hl (k := 0) rfl (by decide) (fun _ => rfl) (zadd (i := x_56.toInt) (j := 1) rfl (by decide) (by omega)) (fun x_57 ls hx_57 hl => ?_)
              refine lv_goto (tgt := 37) hx hb dX1_turnsOf_365 (by decide) ?_
              have hl := lv_sub (l' := [(0, .ref lo), (1, .ref o), (2, .int x1), (3, .int x_2), (4, .int x_3), (5, .int x_4), (6, .int x_5), (7, .int x_57), (8, .int x_15), (9, .int 13)]) hl [3, 4, 5, 6, 7, 8, 9, 0, 2, 1] rfl
              have hP : va_P g.1 vwCl (List.flatten [bLaw g lo lc lz ll lm lg ld fc, bTown g o a pe wo tx ch jo tr dy sd f]) H := hP
              have hD : va_D A (List.flatten [bLaw g lo lc lz ll lm lg ld fc, bTown g o a pe wo tx ch jo tr dy sd f]) := hD
              exact ih37_10 x_2 x_3 x_4 x_5 x_57 (by first | omega | assumption | decide) (zRuk_13f i8 (by omega) hx_15.2 (zi_of hx_16 (by decide)) (by omega) (by omega)) H _ ls (by omega)  hP hD hS (lv_sub hl [0, 1, 2, 3, 4, 5, 6, 7] rfl)
            · skip
              have c58 : ¬ x_5.toInt = 0 := zne cb9 rfl (by decide)
              refine lv_iload hx hb dX1_turnsOf_266 (lv_at hl 9 rfl) ?_
              refine lv_goto (tgt := 280) hx hb dX1_turnsOf_268 (by decide) ?_
              refine lv_istore (lv' := [(7, .int x_6), (9, .int 13), (8, .int x_15), (0, .ref lo), (1, .ref o), (2, .int x1), (3, .int x_2), (4, .int x_3), (5, .int x_4), (6, .int x_5)]) hx hb dX1_turnsOf_280 hl (by decide) rfl (fun ls hl => ?_)
              refine lv_goto (tgt := 362) hx hb dX1_turnsOf_282 (by decide) ?_
              refine ziinc3 (n' := 1) (a' := 1) (b' := 400) (lv' := fun v9 => [(7, .int v9), (9, .int 13), (8, .int x_15), (0, .ref lo), (1, .ref o), (2, .int x1), (3, .int x_2), (4, .int x_3), (5, .int x_4), (6, .int x_5)]) hx hb dX1_turnsOf_362 hl (k := 0) rfl (by decide) (fun _ => rfl) (zaddK (i := x_6.toInt) (j := 1) rfl (by decide) i7.1 n13 (Int.le_refl _) (Int.le_refl _) (by decide)) (fun x_59 ls hx_59 hl => ?_)
              refine lv_goto (tgt := 37) hx hb dX1_turnsOf_365 (by decide) ?_
              have hl := lv_sub (l' := [(0, .ref lo), (1, .ref o), (2, .int x1), (3, .int x_2), (4, .int x_3), (5, .int x_4), (6, .int x_5), (7, .int x_59), (8, .int x_15), (9, .int 13)]) hl [3, 4, 5, 6, 7, 8, 9, 0, 2, 1] rfl
              have hP : va_P g.1 vwCl (List.flatten [bLaw g lo lc lz ll lm lg ld fc, bTown g o a pe wo tx ch jo tr dy sd f]) H := hP
              have hD : va_D A (List.flatten [bLaw g lo lc lz ll lm lg ld fc, bTown g o a pe wo tx ch jo tr dy sd f]) := hD
              exact ih37_10 x_2 x_3 x_4 x_5 x_59 ⟨(Int.le_trans (by decide) hx_59.2.1), (Int.le_trans hx_59.2.2 (by decide))⟩ (zRuk_13t i8 (by omega) hx_15.2 (zi_of hx_16 (by decide)) (by omega) hx_59.1) H _ ls (by omega)  hP hD hS (lv_sub hl [0, 1, 2, 3, 4, 5, 6, 7] rfl)
          by_cases hsw14 : x_16 = 14
          · subst hsw14
            refine lv_tableIn (x := 14) (off := 213) (tgt := 285) hx hb dX1_turnsOf_72 (by decide) (by decide) rfl (by decide) ?_
            refine lv_iload hx hb dX1_turnsOf_285 (lv_at hl 8 rfl) ?_
            refine lv_if_eq (tgt := 302) hx hb dX1_turnsOf_287 (by decide) (fun cb9 => ?_) (fun cb9 => ?_)
            · skip
              have c60 : x_5.toInt = 0 := zeq cb9 rfl (by decide)
              have n61 : 0 ≤ x_5.toInt := Int.le_trans (Int.le_refl _) (Int.le_of_eq c60.symm)
              have n62 : x_5.toInt ≤ 0 := Int.le_trans (Int.le_of_eq c60) (Int.le_refl _)
              refine lv_iload hx hb dX1_turnsOf_302 (lv_at hl 9 rfl) ?_
              refine lv_istore (lv' := [(7, .int x_6), (9, .int 14), (8, .int x_15), (0, .ref lo), (1, .ref o), (2, .int x1), (3, .int x_2), (4, .int x_3), (5, .int x_4), (6, .int x_5)]) hx hb dX1_turnsOf_304 hl (by decide) rfl (fun ls hl => ?_)
              refine lv_goto (tgt := 362) hx hb dX1_turnsOf_306 (by decide) ?_
              refine ziinc3 (n' := 1) (a' := 1) (b' := 400) (lv' := fun v9 => [(7, .int v9), (9, .int 14), (8, .int x_15), (0, .ref lo), (1, .ref o), (2, .int x1), (3, .int x_2), (4, .int x_3), (5, .int x_4), (6, .int x_5)]) hx hb dX1_turnsOf_362 hl (k := 0) rfl (by decide) (fun _ => rfl) (zaddK (i := x_6.toInt) (j := 1) rfl (by decide) i7.1 n13 (Int.le_refl _) (Int.le_refl _) (by decide)) (fun x_63 ls hx_63 hl => ?_)
              refine lv_goto (tgt := 37) hx hb dX1_turnsOf_365 (by decide) ?_
              have hl := lv_sub (l' := [(0, .ref lo), (1, .ref o), (2, .int x1), (3, .int x_2), (4, .int x_3), (5, .int x_4), (6, .int x_5), (7, .int x_63), (8, .int x_15), (9, .int 14)]) hl [3, 4, 5, 6, 7, 8, 9, 0, 2, 1] rfl
              have hP : va_P g.1 vwCl (List.flatten [bLaw g lo lc lz ll lm lg ld fc, bTown g o a pe wo tx ch jo tr dy sd f]) H := hP
              have hD : va_D A (List.flatten [bLaw g lo lc lz ll lm lg ld fc, bTown g o a pe wo tx ch jo tr dy sd f]) := hD
              exact ih37_10 x_2 x_3 x_4 x_5 x_63 ⟨(Int.le_trans (by decide) hx_63.2.1), (Int.le_trans hx_63.2.2 (by decide))⟩ (zRuk_14f i8 (by omega) hx_15.2 (zi_of hx_16 (by decide)) (by omega) hx_63.1) H _ ls (by omega)  hP hD hS (lv_sub hl [0, 1, 2, 3, 4, 5, 6, 7] rfl)
            · skip
              have c64 : ¬ x_5.toInt = 0 := zne cb9 rfl (by decide)
              refine lv_iload hx hb dX1_turnsOf_290 (lv_at hl 9 rfl) ?_
              refine lv_iload hx hb dX1_turnsOf_292 (lv_at hl 1 rfl) ?_
              refine lv_iconst (v := 1) hx hb dX1_turnsOf_294 (by decide) ?_
              refine lv_isub hx hb dX1_turnsOf_295 ?_
              refine zg3 (zsubK (i := x_15.toInt) (j := 1) (a' := (-67108865)) (b' := 67108862) rfl (by decide) hx_15.1.1 hx_15.1.2 (Int.le_refl _) (Int.le_refl _) (by decide)) (fun x_65 hx_65 => ?_)
              refine va_mmax hx hb (by rw [hml]; exact hl.1.symm) hown (hts _ k103) (hts _ k45) (hts _ k42) (hts _ k46) (Nat.le_of_ble_eq_true rfl) (Nat.le_of_ble_eq_true rfl) (Nat.le_of_ble_eq_true rfl) (Nat.le_of_ble_eq_true rfl) dX1_turnsOf_296 ?_
              refine zgmx (i := x_6.toInt) (j := x_65.toInt) rfl rfl (fun x_66 hx_66 => ?_)
              refine lv_goto (tgt := 304) hx hb dX1_turnsOf_299 (by decide) ?_
              refine lv_istore (lv' := [(7, .int x_66), (9, .int 14), (8, .int x_15), (0, .ref lo), (1, .ref o), (2, .int x1), (3, .int x_2), (4, .int x_3), (5, .int x_4), (6, .int x_5)]) hx hb dX1_turnsOf_304 hl (by decide) rfl (fun ls hl => ?_)
              refine lv_goto (tgt := 362) hx hb dX1_turnsOf_306 (by decide) ?_
              refine ziinc (j := x_66.toInt + 1) (lv' := fun v9 => [(7, .int v9), (9, .int 14), (8, .int x_15), (0, .ref lo), (1, .ref o), (2, .int x1), (3, .int x_2), (4, .int x_3), (5, .int x_4), (6, .int x_5)]) hx hb dX1_turnsOf_362 hl (k := 0) rfl (by decide) (fun _ => rfl) (zadd (i := x_66.toInt) (j := 1) rfl (by decide) (by omega)) (fun x_67 ls hx_67 hl => ?_)
              refine lv_goto (tgt := 37) hx hb dX1_turnsOf_365 (by decide) ?_
              have hl := lv_sub (l' := [(0, .ref lo), (1, .ref o), (2, .int x1), (3, .int x_2), (4, .int x_3), (5, .int x_4), (6, .int x_5), (7, .int x_67), (8, .int x_15), (9, .int 14)]) hl [3, 4, 5, 6, 7, 8, 9, 0, 2, 1] rfl
              have hP : va_P g.1 vwCl (List.flatten [bLaw g lo lc lz ll lm lg ld fc, bTown g o a pe wo tx ch jo tr dy sd f]) H := hP
              have hD : va_D A (List.flatten [bLaw g lo lc lz ll lm lg ld fc, bTown g o a pe wo tx ch jo tr dy sd f]) := hD
              exact ih37_10 x_2 x_3 x_4 x_5 x_67 (by first | omega | assumption | decide) (zRuk_14t i8 (by omega) hx_15.2 (zi_of hx_16 (by decide)) (by omega) (by omega)) H _ ls (by omega)  hP hD hS (lv_sub hl [0, 1, 2, 3, 4, 5, 6, 7] rfl)
          by_cases hsw15 : x_16 = 15
          · subst hsw15
            refine lv_tableIn (x := 15) (off := 237) (tgt := 309) hx hb dX1_turnsOf_72 (by decide) (by decide) rfl (by decide) ?_
            refine lv_iload_n hx hb dX1_turnsOf_309 rfl (lv_at hl 5 rfl) ?_
            refine lv_iload hx hb dX1_turnsOf_310 (lv_at hl 8 rfl) ?_
            refine lv_if_eq (tgt := 320) hx hb dX1_turnsOf_312 (by decide) (fun cb9 => ?_) (fun cb9 => ?_)
            · skip
              have c68 : x_5.toInt = 0 := zeq cb9 rfl (by decide)
              have n69 : 0 ≤ x_5.toInt := Int.le_trans (Int.le_refl _) (Int.le_of_eq c68.symm)
              have n70 : x_5.toInt ≤ 0 := Int.le_trans (Int.le_of_eq c68) (Int.le_refl _)
              refine lv_iconst (v := 0) hx hb dX1_turnsOf_320 (by decide) ?_
              refine lv_iadd hx hb dX1_turnsOf_321 ?_
              refine lv_istore_n (lv' := [(3, .int (x_2 + 0)), (9, .int 15), (8, .int x_15), (0, .ref lo), (1, .ref o), (2, .int x1), (4, .int x_3), (5, .int x_4), (6, .int x_5), (7, .int x_6)]) hx hb dX1_turnsOf_322 rfl hl (by decide) rfl (fun ls hl => ?_)
              refine lv_iconst (v := 1) hx hb dX1_turnsOf_323 (by decide) ?_
              refine lv_istore (lv' := [(6, .int 1), (3, .int (x_2 + 0)), (9, .int 15), (8, .int x_15), (0, .ref lo), (1, .ref o), (2, .int x1), (4, .int x_3), (5, .int x_4), (7, .int x_6)]) hx hb dX1_turnsOf_324 hl (by decide) rfl (fun ls hl => ?_)
              refine lv_goto (tgt := 362) hx hb dX1_turnsOf_326 (by decide) ?_
              refine ziinc3 (n' := 1) (a' := 1) (b' := 400) (lv' := fun v9 => [(7, .int v9), (6, .int 1), (3, .int (x_2 + 0)), (9, .int 15), (8, .int x_15), (0, .ref lo), (1, .ref o), (2, .int x1), (4, .int x_3), (5, .int x_4)]) hx hb dX1_turnsOf_362 hl (k := 9) rfl (by decide) (fun _ => rfl) (zaddK (i := x_6.toInt) (j := 1) rfl (by decide) i7.1 n13 (Int.le_refl _) (Int.le_refl _) (by decide)) (fun x_71 ls hx_71 hl => ?_)
              refine lv_goto (tgt := 37) hx hb dX1_turnsOf_365 (by decide) ?_
              have hl := lv_sub (l' := [(0, .ref lo), (1, .ref o), (2, .int x1), (3, .int (x_2 + 0)), (4, .int x_3), (5, .int x_4), (6, .int 1), (7, .int x_71), (8, .int x_15), (9, .int 15)]) hl [5, 6, 7, 2, 8, 9, 1, 0, 4, 3] rfl
              have hL1 : (1 : Int32).toInt = 1 := by decide
              have hP : va_P g.1 vwCl (List.flatten [bLaw g lo lc lz ll lm lg ld fc, bTown g o a pe wo tx ch jo tr dy sd f]) H := hP
              have hD : va_D A (List.flatten [bLaw g lo lc lz ll lm lg ld fc, bTown g o a pe wo tx ch jo tr dy sd f]) := hD
              exact ih37_10 (x_2 + 0) x_3 x_4 1 x_71 ⟨(Int.le_trans (by decide) hx_71.2.1), (Int.le_trans hx_71.2.2 (by decide))⟩ (zRuk_15f i8 (by omega) hx_15.2 (zi_of hx_16 (by decide)) hx_71.1 (by omega)) H _ ls (by omega)  hP hD hS (lv_sub hl [0, 1, 2, 3, 4, 5, 6, 7] rfl)
            · skip
              have c72 : ¬ x_5.toInt = 0 := zne cb9 rfl (by decide)
              refine lv_iload hx hb dX1_turnsOf_315 (lv_at hl 1 rfl) ?_
              refine lv_goto (tgt := 321) hx hb dX1_turnsOf_317 (by decide) ?_
              refine lv_iadd hx hb dX1_turnsOf_321 ?_
              refine lv_istore_n (lv' := [(3, .int (x_2 + x_15)), (9, .int 15), (8, .int x_15), (0, .ref lo), (1, .ref o), (2, .int x1), (4, .int x_3), (5, .int x_4), (6, .int x_5), (7, .int x_6)]) hx hb dX1_turnsOf_322 rfl hl (by decide) rfl (fun ls hl => ?_)
              refine lv_iconst (v := 1) hx hb dX1_turnsOf_323 (by decide) ?_
              refine lv_istore (lv' := [(6, .int 1), (3, .int (x_2 + x_15)), (9, .int 15), (8, .int x_15), (0, .ref lo), (1, .ref o), (2, .int x1), (4, .int x_3), (5, .int x_4), (7, .int x_6)]) hx hb dX1_turnsOf_324 hl (by decide) rfl (fun ls hl => ?_)
              refine lv_goto (tgt := 362) hx hb dX1_turnsOf_326 (by decide) ?_
              refine ziinc3 (n' := 1) (a' := 1) (b' := 400) (lv' := fun v9 => [(7, .int v9), (6, .int 1), (3, .int (x_2 + x_15)), (9, .int 15), (8, .int x_15), (0, .ref lo), (1, .ref o), (2, .int x1), (4, .int x_3), (5, .int x_4)]) hx hb dX1_turnsOf_362 hl (k := 9) rfl (by decide) (fun _ => rfl) (zaddK (i := x_6.toInt) (j := 1) rfl (by decide) i7.1 n13 (Int.le_refl _) (Int.le_refl _) (by decide)) (fun x_73 ls hx_73 hl => ?_)
              refine lv_goto (tgt := 37) hx hb dX1_turnsOf_365 (by decide) ?_
              have hl := lv_sub (l' := [(0, .ref lo), (1, .ref o), (2, .int x1), (3, .int (x_2 + x_15)), (4, .int x_3), (5, .int x_4), (6, .int 1), (7, .int x_73), (8, .int x_15), (9, .int 15)]) hl [5, 6, 7, 2, 8, 9, 1, 0, 4, 3] rfl
              have hL1 : (1 : Int32).toInt = 1 := by decide
              have hP : va_P g.1 vwCl (List.flatten [bLaw g lo lc lz ll lm lg ld fc, bTown g o a pe wo tx ch jo tr dy sd f]) H := hP
              have hD : va_D A (List.flatten [bLaw g lo lc lz ll lm lg ld fc, bTown g o a pe wo tx ch jo tr dy sd f]) := hD
              exact ih37_10 (x_2 + x_15) x_3 x_4 1 x_73 ⟨(Int.le_trans (by decide) hx_73.2.1), (Int.le_trans hx_73.2.2 (by decide))⟩ (zRuk_15t i8 (by omega) hx_15.2 (zi_of hx_16 (by decide)) hx_73.1 (by omega)) H _ ls (by omega)  hP hD hS (lv_sub hl [0, 1, 2, 3, 4, 5, 6, 7] rfl)
          by_cases hsw16 : x_16 = 16
          · subst hsw16
            refine lv_tableIn (x := 16) (off := 257) (tgt := 329) hx hb dX1_turnsOf_72 (by decide) (by decide) rfl (by decide) ?_
            refine lv_iload_n hx hb dX1_turnsOf_329 rfl (lv_at hl 5 rfl) ?_
            refine lv_iload hx hb dX1_turnsOf_330 (lv_at hl 8 rfl) ?_
            refine lv_if_eq (tgt := 340) hx hb dX1_turnsOf_332 (by decide) (fun cb9 => ?_) (fun cb9 => ?_)
            · skip
              have c74 : x_5.toInt = 0 := zeq cb9 rfl (by decide)
              have n75 : 0 ≤ x_5.toInt := Int.le_trans (Int.le_refl _) (Int.le_of_eq c74.symm)
              have n76 : x_5.toInt ≤ 0 := Int.le_trans (Int.le_of_eq c74) (Int.le_refl _)
              refine lv_iconst (v := 0) hx hb dX1_turnsOf_340 (by decide) ?_
              refine lv_isub hx hb dX1_turnsOf_341 ?_
              refine lv_istore_n (lv' := [(3, .int (x_2 - 0)), (9, .int 16), (8, .int x_15), (0, .ref lo), (1, .ref o), (2, .int x1), (4, .int x_3), (5, .int x_4), (6, .int x_5), (7, .int x_6)]) hx hb dX1_turnsOf_342 rfl hl (by decide) rfl (fun ls hl => ?_)
              refine lv_iconst (v := 1) hx hb dX1_turnsOf_343 (by decide) ?_
              refine lv_istore (lv' := [(6, .int 1), (3, .int (x_2 - 0)), (9, .int 16), (8, .int x_15), (0, .ref lo), (1, .ref o), (2, .int x1), (4, .int x_3), (5, .int x_4), (7, .int x_6)]) hx hb dX1_turnsOf_344 hl (by decide) rfl (fun ls hl => ?_)
              refine lv_goto (tgt := 362) hx hb dX1_turnsOf_346 (by decide) ?_
              refine ziinc3 (n' := 1) (a' := 1) (b' := 400) (lv' := fun v9 => [(7, .int v9), (6, .int 1), (3, .int (x_2 - 0)), (9, .int 16), (8, .int x_15), (0, .ref lo), (1, .ref o), (2, .int x1), (4, .int x_3), (5, .int x_4)]) hx hb dX1_turnsOf_362 hl (k := 9) rfl (by decide) (fun _ => rfl) (zaddK (i := x_6.toInt) (j := 1) rfl (by decide) i7.1 n13 (Int.le_refl _) (Int.le_refl _) (by decide)) (fun x_77 ls hx_77 hl => ?_)
              refine lv_goto (tgt := 37) hx hb dX1_turnsOf_365 (by decide) ?_
              have hl := lv_sub (l' := [(0, .ref lo), (1, .ref o), (2, .int x1), (3, .int (x_2 - 0)), (4, .int x_3), (5, .int x_4), (6, .int 1), (7, .int x_77), (8, .int x_15), (9, .int 16)]) hl [5, 6, 7, 2, 8, 9, 1, 0, 4, 3] rfl
              have hL1 : (1 : Int32).toInt = 1 := by decide
              have hP : va_P g.1 vwCl (List.flatten [bLaw g lo lc lz ll lm lg ld fc, bTown g o a pe wo tx ch jo tr dy sd f]) H := hP
              have hD : va_D A (List.flatten [bLaw g lo lc lz ll lm lg ld fc, bTown g o a pe wo tx ch jo tr dy sd f]) := hD
              exact ih37_10 (x_2 - 0) x_3 x_4 1 x_77 ⟨(Int.le_trans (by decide) hx_77.2.1), (Int.le_trans hx_77.2.2 (by decide))⟩ (zRuk_16f i8 (by omega) hx_15.2 (zi_of hx_16 (by decide)) hx_77.1 (by omega)) H _ ls (by omega)  hP hD hS (lv_sub hl [0, 1, 2, 3, 4, 5, 6, 7] rfl)
            · skip
              have c78 : ¬ x_5.toInt = 0 := zne cb9 rfl (by decide)
              refine lv_iload hx hb dX1_turnsOf_335 (lv_at hl 1 rfl) ?_
              refine lv_goto (tgt := 341) hx hb dX1_turnsOf_337 (by decide) ?_
              refine lv_isub hx hb dX1_turnsOf_341 ?_
              refine lv_istore_n (lv' := [(3, .int (x_2 - x_15)), (9, .int 16), (8, .int x_15), (0, .ref lo), (1, .ref o), (2, .int x1), (4, .int x_3), (5, .int x_4), (6, .int x_5), (7, .int x_6)]) hx hb dX1_turnsOf_342 rfl hl (by decide) rfl (fun ls hl => ?_)
              refine lv_iconst (v := 1) hx hb dX1_turnsOf_343 (by decide) ?_
              refine lv_istore (lv' := [(6, .int 1), (3, .int (x_2 - x_15)), (9, .int 16), (8, .int x_15), (0, .ref lo), (1, .ref o), (2, .int x1), (4, .int x_3), (5, .int x_4), (7, .int x_6)]) hx hb dX1_turnsOf_344 hl (by decide) rfl (fun ls hl => ?_)
              refine lv_goto (tgt := 362) hx hb dX1_turnsOf_346 (by decide) ?_
              refine ziinc3 (n' := 1) (a' := 1) (b' := 400) (lv' := fun v9 => [(7, .int v9), (6, .int 1), (3, .int (x_2 - x_15)), (9, .int 16), (8, .int x_15), (0, .ref lo), (1, .ref o), (2, .int x1), (4, .int x_3), (5, .int x_4)]) hx hb dX1_turnsOf_362 hl (k := 9) rfl (by decide) (fun _ => rfl) (zaddK (i := x_6.toInt) (j := 1) rfl (by decide) i7.1 n13 (Int.le_refl _) (Int.le_refl _) (by decide)) (fun x_79 ls hx_79 hl => ?_)
              refine lv_goto (tgt := 37) hx hb dX1_turnsOf_365 (by decide) ?_
              have hl := lv_sub (l' := [(0, .ref lo), (1, .ref o), (2, .int x1), (3, .int (x_2 - x_15)), (4, .int x_3), (5, .int x_4), (6, .int 1), (7, .int x_79), (8, .int x_15), (9, .int 16)]) hl [5, 6, 7, 2, 8, 9, 1, 0, 4, 3] rfl
              have hL1 : (1 : Int32).toInt = 1 := by decide
              have hP : va_P g.1 vwCl (List.flatten [bLaw g lo lc lz ll lm lg ld fc, bTown g o a pe wo tx ch jo tr dy sd f]) H := hP
              have hD : va_D A (List.flatten [bLaw g lo lc lz ll lm lg ld fc, bTown g o a pe wo tx ch jo tr dy sd f]) := hD
              exact ih37_10 (x_2 - x_15) x_3 x_4 1 x_79 ⟨(Int.le_trans (by decide) hx_79.2.1), (Int.le_trans hx_79.2.2 (by decide))⟩ (zRuk_16t i8 (by omega) hx_15.2 (zi_of hx_16 (by decide)) hx_79.1 (by omega)) H _ ls (by omega)  hP hD hS (lv_sub hl [0, 1, 2, 3, 4, 5, 6, 7] rfl)
          refine lv_tableOut (tgt := 349) hx hb dX1_turnsOf_72 (by have := lv_neT hsw0 (show Int32.toInt 0 = 0 from by decide); have := lv_neT hsw1 (show Int32.toInt 1 = 1 from by decide); have := lv_neT hsw2 (show Int32.toInt 2 = 2 from by decide); have := lv_neT hsw3 (show Int32.toInt 3 = 3 from by decide); have := lv_neT hsw4 (show Int32.toInt 4 = 4 from by decide); have := lv_neT hsw5 (show Int32.toInt 5 = 5 from by decide); have := lv_neT hsw6 (show Int32.toInt 6 = 6 from by decide); have := lv_neT hsw7 (show Int32.toInt 7 = 7 from by decide); have := lv_neT hsw8 (show Int32.toInt 8 = 8 from by decide); have := lv_neT hsw9 (show Int32.toInt 9 = 9 from by decide); have := lv_neT hsw10 (show Int32.toInt 10 = 10 from by decide); have := lv_neT hsw11 (show Int32.toInt 11 = 11 from by decide); have := lv_neT hsw12 (show Int32.toInt 12 = 12 from by decide); have := lv_neT hsw13 (show Int32.toInt 13 = 13 from by decide); have := lv_neT hsw14 (show Int32.toInt 14 = 14 from by decide); have := lv_neT hsw15 (show Int32.toInt 15 = 15 from by decide); have := lv_neT hsw16 (show Int32.toInt 16 = 16 from by decide); omega) (by decide) ?_
          refine lv_iload hx hb dX1_turnsOf_349 (lv_at hl 7 rfl) ?_
          refine lv_aload_n hx hb dX1_turnsOf_351 rfl (lv_at hl 2 rfl) ?_
          refine lv_aload_n hx hb dX1_turnsOf_352 rfl (lv_at hl 3 rfl) ?_
          refine lv_iload_n hx hb dX1_turnsOf_353 rfl (lv_at hl 4 rfl) ?_
          refine lv_iload hx hb dX1_turnsOf_354 (lv_at hl 0 rfl) ?_
          refine mcallV' (g := g) (q0 := 0) (ci := 1) (As := [.ref o, .int x1, .int x_16]) (rest := [.int x_4]) St hK hT hA hP hD hS hl.1 [0, 1] [] rfl rfl rfl (c_l_partOfF l g lo lc lz ll lm lg ld fc o a pe wo tx ch jo tr dy sd f x1 x_16 b_pe b_wo rf b_x1) (cwV 3 hts (zgL (zl4 k104 k105 k106 k85) k93) rfl rfl rfl (by decide +kernel) ⟨Nat.le_of_ble_eq_true rfl, Nat.le_of_ble_eq_true rfl⟩) rfl rfl rfl rfl (Nat.le_of_ble_eq_true rfl) dX1_turnsOf_356 ⟨(Nat.le_of_ble_eq_true rfl), (Nat.le_of_ble_eq_true rfl)⟩ (fun _u H locs hq80 hP hD hS => ?_)
          have hP : va_P g.1 vwCl (List.flatten [bLaw g lo lc lz ll lm lg ld fc, bTown g o a pe wo tx ch jo tr dy sd f]) H := hP
          have hD : va_D A (List.flatten [bLaw g lo lc lz ll lm lg ld fc, bTown g o a pe wo tx ch jo tr dy sd f]) := hD
          refine W.widen (k := 0) (n := 0) (Nat.le_of_ble_eq_true rfl) (Nat.le_of_ble_eq_true rfl) ?_
          refine W.eq (g2 := F0 m 359 ls [.int (zPv (zEnvC f pe.toInt.toNat x1.toInt.toNat lm lg ld) x_16), .int x_4]) rfl ?_
          refine lv_iadd hx hb dX1_turnsOf_359 ?_
          refine lv_istore (lv' := [(5, .int (x_4 + (zPv (zEnvC f pe.toInt.toNat x1.toInt.toNat lm lg ld) x_16))), (9, .int x_16), (8, .int x_15), (0, .ref lo), (1, .ref o), (2, .int x1), (3, .int x_2), (4, .int x_3), (6, .int x_5), (7, .int x_6)]) hx hb dX1_turnsOf_360 hl (by decide) rfl (fun ls hl => ?_)
          refine ziinc3 (n' := 1) (a' := 1) (b' := 400) (lv' := fun v9 => [(7, .int v9), (5, .int (x_4 + (zPv (zEnvC f pe.toInt.toNat x1.toInt.toNat lm lg ld) x_16))), (9, .int x_16), (8, .int x_15), (0, .ref lo), (1, .ref o), (2, .int x1), (3, .int x_2), (4, .int x_3), (6, .int x_5)]) hx hb dX1_turnsOf_362 hl (k := 9) rfl (by decide) (fun _ => rfl) (zaddK (i := x_6.toInt) (j := 1) rfl (by decide) i7.1 n13 (Int.le_refl _) (Int.le_refl _) (by decide)) (fun x_81 ls hx_81 hl => ?_)
          refine lv_goto (tgt := 37) hx hb dX1_turnsOf_365 (by decide) ?_
          have hl := lv_sub (l' := [(0, .ref lo), (1, .ref o), (2, .int x1), (3, .int x_2), (4, .int x_3), (5, .int (x_4 + (zPv (zEnvC f pe.toInt.toNat x1.toInt.toNat lm lg ld) x_16))), (6, .int x_5), (7, .int x_81), (8, .int x_15), (9, .int x_16)]) hl [4, 5, 6, 7, 8, 1, 9, 0, 3, 2] rfl
          have hP : va_P g.1 vwCl (List.flatten [bLaw g lo lc lz ll lm lg ld fc, bTown g o a pe wo tx ch jo tr dy sd f]) H := hP
          have hD : va_D A (List.flatten [bLaw g lo lc lz ll lm lg ld fc, bTown g o a pe wo tx ch jo tr dy sd f]) := hD
          exact ih37_10 x_2 x_3 (x_4 + (zPv (zEnvC f pe.toInt.toNat x1.toInt.toNat lm lg ld) x_16)) x_5 x_81 ⟨(Int.le_trans (by decide) hx_81.2.1), (Int.le_trans hx_81.2.2 (by decide))⟩ (zRuk_d i8 (by omega) hx_15.2 (zh0 hx_16 hsw0 hsw7 hsw8 hsw9 hsw10 hsw11 hsw12 hsw13 hsw14 hsw15 hsw16) hx_81.1 (congrArg (zPv _) hx_16)) H _ ls (by omega)  hP hD hS (lv_sub hl [0, 1, 2, 3, 4, 5, 6, 7] rfl)
    have hL0 : (0 : Int32).toInt = 0 := by decide
    have hL1 : (1 : Int32).toInt = 1 := by decide
    have hP : va_P g.1 vwCl (List.flatten [bLaw g lo lc lz ll lm lg ld fc, bTown g o a pe wo tx ch jo tr dy sd f]) s.heap := hP
    have hD : va_D A (List.flatten [bLaw g lo lc lz ll lm lg ld fc, bTown g o a pe wo tx ch jo tr dy sd f]) := hD
    exact LP37_9 _ 0 0 0 1 0 (by decide) (by rw [zi0]) s.heap _ ls (Nat.lt_succ_self _)  hP hD hS (lv_sub hl [0, 1, 2, 3, 4, 5, 6, 7] rfl)
  · skip
    have c82 : ll.toInt = (-1) := zeq cb9 rfl (by decide)
    have n83 : (-1) ≤ ll.toInt := Int.le_trans (Int.le_refl _) (Int.le_of_eq c82.symm)
    have n84 : ll.toInt ≤ (-1) := Int.le_trans (Int.le_of_eq c82) (Int.le_refl _)
    refine lv_aload_n hx hb dX1_turnsOf_8 rfl (lv_at hl 1 rfl) ?_
    refine va_get (D := g.1) (ci := 7) (v := .ref (a 4)) (C := RX9) (T := TX9) (N := 19) hx hb hts izRX9 hown hK hP 2 rfl rfl 12 (by decide) (hts _ k99) (fun _ h9 => h9) rfl dX1_turnsOf_9 ?_
    refine lv_iload_n hx hb dX1_turnsOf_12 rfl (lv_at hl 2 rfl) ?_
    refine va_zald hx hb hK hP 7 1 rfl rfl (zinK (a := 0) (b := 7) b_x1.1 b_x1.2 (by decide)) dX1_turnsOf_13 ?_
    refine ztop (r := (f 4 x1.toInt.toNat)) rfl ?_
    refine lv_if_eq (tgt := 21) hx hb dX1_turnsOf_14 (by decide) (fun cb9 => ?_) (fun cb9 => ?_)
    · skip
      have c85 : (f 4 x1.toInt.toNat).toInt = 0 := zeq cb9 rfl (by decide)
      have n86 : 0 ≤ (f 4 x1.toInt.toNat).toInt := Int.le_trans (Int.le_refl _) (Int.le_of_eq c85.symm)
      have n87 : (f 4 x1.toInt.toNat).toInt ≤ 0 := Int.le_trans (Int.le_of_eq c85) (Int.le_refl _)
      refine lv_iconst (v := 0) hx hb dX1_turnsOf_21 (by decide) ?_
      refine ztop (r := (zLwR fc lz ll (zEnvC f pe.toInt.toNat x1.toInt.toNat lm lg ld))) (zLwR_0 (by omega) (by rw [← zE6 (pe := pe.toInt.toNat) (lm := lm) (lg := lg) (ld := ld) rf (show x1.toInt.toNat < 8 by omega)]; omega)) ?_
      have hP : va_P g.1 vwCl (List.flatten [bLaw g lo lc lz ll lm lg ld fc, bTown g o a pe wo tx ch jo tr dy sd f]) s.heap := hP
      have hD : va_D A (List.flatten [bLaw g lo lc lz ll lm lg ld fc, bTown g o a pe wo tx ch jo tr dy sd f]) := hD
      exact mret_i hx hb hr hlocks hS (Nat.le_of_ble_eq_true rfl) (Nat.le_of_ble_eq_true rfl) dX1_turnsOf_22 () rfl trivial hP hD
    · skip
      have c88 : ¬ (f 4 x1.toInt.toNat).toInt = 0 := zne cb9 rfl (by decide)
      refine lv_iconst (v := (-1)) hx hb dX1_turnsOf_17 (by decide) ?_
      refine lv_goto (tgt := 22) hx hb dX1_turnsOf_18 (by decide) ?_
      refine ztop (r := (zLwR fc lz ll (zEnvC f pe.toInt.toNat x1.toInt.toNat lm lg ld))) (zLwR_1 (by omega) (fun q => absurd (zE6 (pe := pe.toInt.toNat) (lm := lm) (lg := lg) (ld := ld) rf (show x1.toInt.toNat < 8 by omega)) (fun q9 => by rw [← q9] at q; omega))) ?_
      have hP : va_P g.1 vwCl (List.flatten [bLaw g lo lc lz ll lm lg ld fc, bTown g o a pe wo tx ch jo tr dy sd f]) s.heap := hP
      have hD : va_D A (List.flatten [bLaw g lo lc lz ll lm lg ld fc, bTown g o a pe wo tx ch jo tr dy sd f]) := hD
      exact mret_i hx hb hr hlocks hS (Nat.le_of_ble_eq_true rfl) (Nat.le_of_ble_eq_true rfl) dX1_turnsOf_22 () rfl trivial hP hD
set_option maxRecDepth 100000 in
set_option maxHeartbeats 4000000 in
theorem c_showToF (l : Launch) (g : zG) (o : Nat) (a : Nat → Nat) (pe : Int32) (wo : Int32) (tx : Int32) (ch : Int32) (jo : Int32) (tr : Int32) (dy : Int32) (sd : Int32) (f : Nat → Nat → Int32) (lo : Nat) (lc : Nat) (lz : Int32) (ll : Int32) (lm : Int32) (lg : Int32) (ld : Int32) (fc : Nat → Int32) (b_pe : 0 ≤ pe.toInt ∧ pe.toInt ≤ 8) (b_wo : 0 ≤ wo.toInt ∧ wo.toInt ≤ 6) (rf : zZ4 f) : zM' g l yX9_showTo (Cond.code yX9_showTo cX9_showTo 2 none :: zB) ({ frames := 3, cells := 0, slots := 0, locals := 64 } : Room) [.ref o, .ref lo] [bTown g o a pe wo tx ch jo tr dy sd f, bLaw g lo lc lz ll lm lg ld fc] (fun _ : Unit => none) (fun _ : Unit => True) (fun _ : Unit => [bTown g o a pe wo tx ch jo tr dy sd f, bLaw g lo lc lz ll (zMean f pe.toInt.toNat) (zPop (zWks f wo.toInt.toNat 1)) dy fc]) := by
  refine zM'.of (cc := cX9_showTo) (maxL := 2) (rt := none) (by decide) rfl (Nat.le_of_ble_eq_true rfl) ?_
  intro p e s m args below meth c A ls St hr hlocks hin hK hT hA hP hD hS hl
  obtain ⟨hx, hb, hml, hown, hts⟩ := id St
  have hl : lv_has ls 2 [(0, .ref o), (1, .ref lo)] := hl
  refine lv_aload_n hx hb dX9_showTo_0 rfl (lv_at hl 1 rfl) ?_
  refine lv_aload_n hx hb dX9_showTo_1 rfl (lv_at hl 0 rfl) ?_
  refine mcallV' (g := g) (q0 := 0) (ci := 7) (As := []) (rest := [.ref lo]) St hK hT hA hP hD hS hl.1 [0] [1] rfl rfl rfl (c_meanBeliefF l g o a pe wo tx ch jo tr dy sd f b_pe b_wo rf) (cwV 0 hts (zgL (zl4 k76 k77 k78 k24) k61) rfl rfl rfl (by decide +kernel) ⟨Nat.le_of_ble_eq_true rfl, Nat.le_of_ble_eq_true rfl⟩) rfl rfl rfl rfl (Nat.le_of_ble_eq_true rfl) dX9_showTo_2 ⟨(Nat.le_of_ble_eq_true rfl), (Nat.le_of_ble_eq_true rfl)⟩ (fun _u H locs hq1 hP hD hS => ?_)
  have hP : va_P g.1 vwCl (List.flatten [bLaw g lo lc lz ll lm lg ld fc, bTown g o a pe wo tx ch jo tr dy sd f]) H := hP
  have hD : va_D A (List.flatten [bLaw g lo lc lz ll lm lg ld fc, bTown g o a pe wo tx ch jo tr dy sd f]) := hD
  refine W.widen (k := 0) (n := 0) (Nat.le_of_ble_eq_true rfl) (Nat.le_of_ble_eq_true rfl) ?_
  refine W.eq (g2 := F0 m 5 ls [.int (zMean f pe.toInt.toNat), .ref lo]) rfl ?_
  refine lv_aload_n hx hb dX9_showTo_5 rfl (lv_at hl 0 rfl) ?_
  refine lv_iconst (v := 1) hx hb dX9_showTo_6 (by decide) ?_
  refine mcallV' (g := g) (q0 := 0) (ci := 7) (As := [.int 1]) (rest := [.int (zMean f pe.toInt.toNat), .ref lo]) St hK hT hA hP hD hS hl.1 [1] [0] rfl rfl rfl (c_worksInF l g o a pe wo tx ch jo tr dy sd f 1 b_pe b_wo rf) (cwV 1 hts (zgL (zl4 k79 k80 k81 k24) k71) rfl rfl rfl (by decide +kernel) ⟨Nat.le_of_ble_eq_true rfl, Nat.le_of_ble_eq_true rfl⟩) rfl rfl rfl rfl (Nat.le_of_ble_eq_true rfl) dX9_showTo_7 ⟨(Nat.le_of_ble_eq_true rfl), (Nat.le_of_ble_eq_true rfl)⟩ (fun _u H locs hq2 hP hD hS => ?_)
  have hP : va_P g.1 vwCl (List.flatten [bLaw g lo lc lz ll lm lg ld fc, bTown g o a pe wo tx ch jo tr dy sd f]) H := hP
  have hD : va_D A (List.flatten [bLaw g lo lc lz ll lm lg ld fc, bTown g o a pe wo tx ch jo tr dy sd f]) := hD
  refine W.widen (k := 0) (n := 0) (Nat.le_of_ble_eq_true rfl) (Nat.le_of_ble_eq_true rfl) ?_
  refine W.eq (g2 := F0 m 10 ls [.int (zWks f wo.toInt.toNat 1), .int (zMean f pe.toInt.toNat), .ref lo]) rfl ?_
  refine mcallS' (g := g) (As := [.int (zWks f wo.toInt.toNat 1)]) (rest := [.int (zMean f pe.toInt.toNat), .ref lo]) St hK hT hA hP hD hS hl.1 [] [0, 1] rfl rfl rfl (j_bitCountF l g (zWks f wo.toInt.toNat 1) (⟨(zWks_i f 1 (n := wo.toInt.toNat) (by omega)).1, (zWks_i f 1 (n := wo.toInt.toNat) (by omega)).2⟩)) (va_cwS 1 hts (zgL (zl3 k65 k66 k67) k56) rfl rfl rfl (by decide +kernel) ⟨Nat.le_of_ble_eq_true rfl, Nat.le_of_ble_eq_true rfl⟩) rfl rfl (Nat.le_of_ble_eq_true rfl) dX9_showTo_10 ⟨(Nat.le_of_ble_eq_true rfl), (Nat.le_of_ble_eq_true rfl)⟩ (fun _u H locs hq3 hP hD hS => ?_)
  have hP : va_P g.1 vwCl (List.flatten [bLaw g lo lc lz ll lm lg ld fc, bTown g o a pe wo tx ch jo tr dy sd f]) H := hP
  have hD : va_D A (List.flatten [bLaw g lo lc lz ll lm lg ld fc, bTown g o a pe wo tx ch jo tr dy sd f]) := hD
  refine W.widen (k := 0) (n := 0) (Nat.le_of_ble_eq_true rfl) (Nat.le_of_ble_eq_true rfl) ?_
  refine W.eq (g2 := F0 m 13 ls [.int (zPop (zWks f wo.toInt.toNat 1)), .int (zMean f pe.toInt.toNat), .ref lo]) rfl ?_
  refine lv_aload_n hx hb dX9_showTo_13 rfl (lv_at hl 0 rfl) ?_
  refine va_get (D := g.1) (ci := 7) (v := .int dy) (C := RX9) (T := TX9) (N := 19) hx hb hts izRX9 hown hK hP 2 rfl rfl 6 (by decide) (hts _ k34) (fun _ h9 => h9) rfl dX9_showTo_14 ?_
  refine mcallV' (g := g) (q0 := 0) (ci := 1) (As := [.int (zMean f pe.toInt.toNat), .int (zPop (zWks f wo.toInt.toNat 1)), .int dy]) (rest := []) St hK hT hA hP hD hS hl.1 [0] [1] rfl rfl rfl (c_l_look l g lo lc lz ll lm lg ld fc (zMean f pe.toInt.toNat) (zPop (zWks f wo.toInt.toNat 1)) dy ) (cwV 3 hts (zgL (zl4 k82 k83 k84 k85) k72) rfl rfl rfl (by decide +kernel) ⟨Nat.le_of_ble_eq_true rfl, Nat.le_of_ble_eq_true rfl⟩) rfl rfl rfl rfl (Nat.le_of_ble_eq_true rfl) dX9_showTo_17 ⟨(Nat.le_of_ble_eq_true rfl), (Nat.le_of_ble_eq_true rfl)⟩ (fun _u H locs hq4 hP hD hS => ?_)
  have hP : va_P g.1 vwCl (List.flatten [bTown g o a pe wo tx ch jo tr dy sd f, bLaw g lo lc lz ll (zMean f pe.toInt.toNat) (zPop (zWks f wo.toInt.toNat 1)) dy fc]) H := hP
  have hD : va_D A (List.flatten [bTown g o a pe wo tx ch jo tr dy sd f, bLaw g lo lc lz ll (zMean f pe.toInt.toNat) (zPop (zWks f wo.toInt.toNat 1)) dy fc]) := hD
  refine W.widen (k := 0) (n := 0) (Nat.le_of_ble_eq_true rfl) (Nat.le_of_ble_eq_true rfl) ?_
  refine W.eq (g2 := F0 m 20 ls []) rfl ?_
  have hP : va_P g.1 vwCl (List.flatten [bTown g o a pe wo tx ch jo tr dy sd f, bLaw g lo lc lz ll (zMean f pe.toInt.toNat) (zPop (zWks f wo.toInt.toNat 1)) dy fc]) H := hP
  have hD : va_D A (List.flatten [bTown g o a pe wo tx ch jo tr dy sd f, bLaw g lo lc lz ll (zMean f pe.toInt.toNat) (zPop (zWks f wo.toInt.toNat 1)) dy fc]) := hD
  exact mret_v hx hb hr hlocks hS (Nat.le_of_ble_eq_true rfl) (Nat.le_of_ble_eq_true rfl) dX9_showTo_20 () rfl trivial hP hD
set_option maxRecDepth 100000 in
set_option maxHeartbeats 4000000 in
theorem c_turnBeliefsF (l : Launch) (g : zG) (o : Nat) (a : Nat → Nat) (pe : Int32) (wo : Int32) (tx : Int32) (ch : Int32) (jo : Int32) (tr : Int32) (dy : Int32) (sd : Int32) (f : Nat → Nat → Int32) (lo : Nat) (lc : Nat) (lz : Int32) (ll : Int32) (fc : Nat → Int32) (b_pe : 0 ≤ pe.toInt ∧ pe.toInt ≤ 8) (b_wo : 0 ≤ wo.toInt ∧ wo.toInt ≤ 6) (rf : zZ4 f) (b_lz : 0 ≤ lz.toInt ∧ lz.toInt ≤ 400) : zM' g l yX9_turnBeliefs (Cond.code yX9_turnBeliefs cX9_turnBeliefs 3 none :: zB) ({ frames := 3, cells := 0, slots := 0, locals := 75 } : Room) [.ref o, .ref lo] [bTown g o a pe wo tx ch jo tr dy sd f, bLaw g lo lc lz ll (zMean f pe.toInt.toNat) (zPop (zWks f wo.toInt.toNat 1)) dy fc] (fun (f2 : Nat → Nat → Int32) => none) (fun (f2 : Nat → Nat → Int32) => (zZ4 f2) ∧ (zEq f2 (zTB (zLwR fc lz ll) f pe.toInt.toNat wo.toInt.toNat dy))) (fun (f2 : Nat → Nat → Int32) => [bTown g o a pe wo tx ch jo tr dy sd f2, bLaw g lo lc lz ll (zMean f pe.toInt.toNat) (zPop (zWks f wo.toInt.toNat 1)) dy fc]) := by
  refine zM'.of (cc := cX9_turnBeliefs) (maxL := 3) (rt := none) (by decide) rfl (Nat.le_of_ble_eq_true rfl) ?_
  intro p e s m args below meth c A ls St hr hlocks hin hK hT hA hP hD hS hl
  obtain ⟨hx, hb, hml, hown, hts⟩ := id St
  have hl : lv_has ls 3 [(0, .ref o), (1, .ref lo)] := hl
  refine lv_iconst (v := 0) hx hb dX9_turnBeliefs_0 (by decide) ?_
  refine lv_istore_n (lv' := [(2, .int 0), (0, .ref o), (1, .ref lo)]) hx hb dX9_turnBeliefs_1 rfl hl (by decide) rfl (fun ls hl => ?_)
  have hl := lv_sub (l' := [(0, .ref o), (1, .ref lo), (2, .int 0)]) hl [1, 2, 0] rfl
  have LP2_7 : ∀ (kf : Nat) (x_1 : Int32) (f_2 : Nat → Nat → Int32), (0 ≤ x_1.toInt ∧ x_1.toInt ≤ 8) → (zZ4 f_2) → (∀ r, ¬ r = 10 → f_2 r = f r) → (∀ j, j < x_1.toInt.toNat → f_2 10 j = zTbR (zLwR fc lz ll) f pe.toInt.toNat wo.toInt.toNat dy j) → (x_1.toInt ≤ pe.toInt) → ∀ (H : Heap) (locs : List Loc) (ls : Array Slot), ((9 - x_1.toInt).toNat) < kf → va_P g.1 vwCl (List.flatten [bTown g o a pe wo tx ch jo tr dy sd f_2, bLaw g lo lc lz ll (zMean f pe.toInt.toNat) (zPop (zWks f wo.toInt.toNat 1)) dy fc]) H → va_D A (List.flatten [bTown g o a pe wo tx ch jo tr dy sd f_2, bLaw g lo lc lz ll (zMean f pe.toInt.toNat) (zPop (zWks f wo.toInt.toNat 1)) dy fc]) → va_S A s.heap H locs → lv_has ls 3 [(0, .ref o), (1, .ref lo), (2, .int x_1)] → W p l e ({ frames := 3, cells := 0, slots := 0, locals := 75 } : Room) s m args below meth c H locs (0) (0) (zF g (fun (f2 : Nat → Nat → Int32) => none) (fun (f2 : Nat → Nat → Int32) => (zZ4 f2) ∧ (zEq f2 (zTB (zLwR fc lz ll) f pe.toInt.toNat wo.toInt.toNat dy))) (fun (f2 : Nat → Nat → Int32) => [bTown g o a pe wo tx ch jo tr dy sd f2, bLaw g lo lc lz ll (zMean f pe.toInt.toNat) (zPop (zWks f wo.toInt.toNat 1)) dy fc]) ({ frames := 3, cells := 0, slots := 0, locals := 75 } : Room) below args s A) (F0 m 2 ls []) := by
    intro kf
    induction kf with
    | zero => intro x_1 f_2 i3 rf_2 i4 i5 i6 H locs ls hk; exact absurd hk (Nat.not_lt_zero _)
    | succ kf ih2_8 =>
      intro x_1 f_2 i3 rf_2 i4 i5 i6 H locs ls hk2_8 hP hD hS hl
      refine lv_iload_n hx hb dX9_turnBeliefs_2 rfl (lv_at hl 2 rfl) ?_
      refine lv_aload_n hx hb dX9_turnBeliefs_3 rfl (lv_at hl 0 rfl) ?_
      refine va_get (D := g.1) (ci := 7) (v := .int pe) (C := RX9) (T := TX9) (N := 19) hx hb hts izRX9 hown hK hP 0 rfl rfl 0 (by decide) (hts _ k31) (fun _ h9 => h9) rfl dX9_turnBeliefs_4 ?_
      refine lv_icmp_ge (tgt := 68) hx hb dX9_turnBeliefs_7 (by decide) (fun cb9 => ?_) (fun cb9 => ?_)
      · skip
        have c9 : pe.toInt ≤ x_1.toInt := zle cb9 rfl rfl
        refine lv_aload_n hx hb dX9_turnBeliefs_68 rfl (lv_at hl 0 rfl) ?_
        refine va_get (D := g.1) (ci := 7) (v := .ref (a 10)) (C := RX9) (T := TX9) (N := 19) hx hb hts izRX9 hown hK hP 0 rfl rfl 18 (by decide) (hts _ k20) (fun _ h9 => h9) rfl dX9_turnBeliefs_69 ?_
        refine lv_iconst (v := 0) hx hb dX9_turnBeliefs_72 (by decide) ?_
        refine lv_aload_n hx hb dX9_turnBeliefs_73 rfl (lv_at hl 0 rfl) ?_
        refine va_get (D := g.1) (ci := 7) (v := .ref (a 0)) (C := RX9) (T := TX9) (N := 19) hx hb hts izRX9 hown hK hP 0 rfl rfl 8 (by decide) (hts _ k9) (fun _ h9 => h9) rfl dX9_turnBeliefs_74 ?_
        refine lv_iconst (v := 0) hx hb dX9_turnBeliefs_77 (by decide) ?_
        refine lv_aload_n hx hb dX9_turnBeliefs_78 rfl (lv_at hl 0 rfl) ?_
        refine va_get (D := g.1) (ci := 7) (v := .int pe) (C := RX9) (T := TX9) (N := 19) hx hb hts izRX9 hown hK hP 0 rfl rfl 0 (by decide) (hts _ k31) (fun _ h9 => h9) rfl dX9_turnBeliefs_79 ?_
        refine va_copyi (D := g.1) (ty := .int) hx hb (by rw [hml]; exact hl.1.symm) hown (hts _ k35) (hts _ k36) (hts _ k37) (hts _ k38) hK hP hD hS 11 1 0 0 rfl rfl rfl rfl rfl (by decide) (by decide) (znn (by omega)) (by show 0 + pe.toNatClampNeg ≤ 8; rw [zcl]; omega) (by show 0 + pe.toNatClampNeg ≤ 8; rw [zcl]; omega) (fun _ _ => rfl) (Nat.le_of_ble_eq_true rfl) (by decide) dX9_turnBeliefs_82 (fun H locs hP hD hS => ?_)
        obtain ⟨f10, rf10, ef10, hP, hD⟩ : ∃ f10 : Nat → Nat → Int32, zZ4 f10 ∧ f10 = zu f_2 0 (va_cpy (f_2 10) (f_2 0) 0 0 pe.toNatClampNeg) ∧ va_P g.1 vwCl (List.flatten [bTown g o a pe wo tx ch jo tr dy sd f10, bLaw g lo lc lz ll (zMean f pe.toInt.toNat) (zPop (zWks f wo.toInt.toNat 1)) dy fc]) H ∧ va_D A (List.flatten [bTown g o a pe wo tx ch jo tr dy sd f10, bLaw g lo lc lz ll (zMean f pe.toInt.toNat) (zPop (zWks f wo.toInt.toNat 1)) dy fc]) := ⟨zu f_2 0 (va_cpy (f_2 10) (f_2 0) 0 0 pe.toNatClampNeg), (zZ4_u rf_2 (by decide)), rfl, hP, hD⟩
        have hP : va_P g.1 vwCl (List.flatten [bTown g o a pe wo tx ch jo tr dy sd f10, bLaw g lo lc lz ll (zMean f pe.toInt.toNat) (zPop (zWks f wo.toInt.toNat 1)) dy fc]) H := hP
        have hD : va_D A (List.flatten [bTown g o a pe wo tx ch jo tr dy sd f10, bLaw g lo lc lz ll (zMean f pe.toInt.toNat) (zPop (zWks f wo.toInt.toNat 1)) dy fc]) := hD
        exact mret_v hx hb hr hlocks hS (Nat.le_of_ble_eq_true rfl) (Nat.le_of_ble_eq_true rfl) dX9_turnBeliefs_85 (f10) rfl (show (zZ4 f10) ∧ (zEq f10 (zTB (zLwR fc lz ll) f pe.toInt.toNat wo.toInt.toNat dy)) from ⟨(by assumption), zTB_fin i4 i5 ef10 (by omega)⟩) hP hD
      · skip
        have c11 : x_1.toInt < pe.toInt := zlti (Int32.not_le.mp cb9) rfl rfl
        have n12 : x_1.toInt ≤ 7 := zL1 (b := 8) c11 b_pe.2 (by decide)
        have n13 : 1 ≤ pe.toInt := zL2 (a := 0) c11 i3.1 (by decide)
        refine lv_aload_n hx hb dX9_turnBeliefs_10 rfl (lv_at hl 0 rfl) ?_
        refine lv_iload_n hx hb dX9_turnBeliefs_11 rfl (lv_at hl 2 rfl) ?_
        refine mcallV' (g := g) (q0 := 0) (ci := 7) (As := [.int x_1]) (rest := []) St hK hT hA hP hD hS hl.1 [0] [1] rfl rfl rfl (c_isHereF l g o a pe wo tx ch jo tr dy sd f_2 x_1 (⟨i3.1, n12⟩)) (cwV 1 hts (zgL (zl4 k53 k54 k55 k24) k51) rfl rfl rfl (by decide +kernel) ⟨Nat.le_of_ble_eq_true rfl, Nat.le_of_ble_eq_true rfl⟩) rfl rfl rfl rfl (Nat.le_of_ble_eq_true rfl) dX9_turnBeliefs_12 ⟨(Nat.le_of_ble_eq_true rfl), (Nat.le_of_ble_eq_true rfl)⟩ (fun q_14 H locs hq15 hP hD hS => ?_)
        replace hq15 : (q_14 = 1 ∧ (f_2 3 x_1.toInt.toNat).toInt = -1 ∨ q_14 = 0 ∧ ¬ (f_2 3 x_1.toInt.toNat).toInt = -1) := hq15
        have hP : va_P g.1 vwCl (List.flatten [bLaw g lo lc lz ll (zMean f pe.toInt.toNat) (zPop (zWks f wo.toInt.toNat 1)) dy fc, bTown g o a pe wo tx ch jo tr dy sd f_2]) H := hP
        have hD : va_D A (List.flatten [bLaw g lo lc lz ll (zMean f pe.toInt.toNat) (zPop (zWks f wo.toInt.toNat 1)) dy fc, bTown g o a pe wo tx ch jo tr dy sd f_2]) := hD
        refine W.widen (k := 0) (n := 0) (Nat.le_of_ble_eq_true rfl) (Nat.le_of_ble_eq_true rfl) ?_
        refine W.eq (g2 := F0 m 15 ls [.int q_14]) rfl ?_
        rcases hq15 with ⟨rfl, hq15_k⟩ | ⟨rfl, hq15_k⟩
        · skip
          refine lv_if_eq (tgt := 50) hx hb dX9_turnBeliefs_15 (by decide) (fun c16 => absurd c16 (by decide)) (fun _ => ?_)
          refine lv_aload_n hx hb dX9_turnBeliefs_18 rfl (lv_at hl 0 rfl) ?_
          refine va_get (D := g.1) (ci := 7) (v := .ref (a 10)) (C := RX9) (T := TX9) (N := 19) hx hb hts izRX9 hown hK hP 2 rfl rfl 18 (by decide) (hts _ k20) (fun _ h9 => h9) rfl dX9_turnBeliefs_19 ?_
          refine lv_iload_n hx hb dX9_turnBeliefs_22 rfl (lv_at hl 2 rfl) ?_
          refine lv_aload_n hx hb dX9_turnBeliefs_23 rfl (lv_at hl 0 rfl) ?_
          refine lv_aload_n hx hb dX9_turnBeliefs_24 rfl (lv_at hl 0 rfl) ?_
          refine va_get (D := g.1) (ci := 7) (v := .ref (a 0)) (C := RX9) (T := TX9) (N := 19) hx hb hts izRX9 hown hK hP 2 rfl rfl 8 (by decide) (hts _ k9) (fun _ h9 => h9) rfl dX9_turnBeliefs_25 ?_
          refine lv_iload_n hx hb dX9_turnBeliefs_28 rfl (lv_at hl 2 rfl) ?_
          refine va_iald hx hb hK hP 3 0 rfl rfl (zinK (a := 0) (b := 7) i3.1 n12 (by decide)) dX9_turnBeliefs_29 ?_
          refine ztop (r := (f_2 0 x_1.toInt.toNat)) rfl ?_
          refine lv_aload_n hx hb dX9_turnBeliefs_30 rfl (lv_at hl 0 rfl) ?_
          refine lv_iload_n hx hb dX9_turnBeliefs_31 rfl (lv_at hl 2 rfl) ?_
          refine mcallV' (g := g) (q0 := 0) (ci := 7) (As := [.int x_1]) (rest := [.int (f_2 0 x_1.toInt.toNat), .ref o, .int x_1, .ref (a 10)]) St hK hT hA hP hD hS hl.1 [1] [0] rfl rfl rfl (c_pullOfF l g o a pe wo tx ch jo tr dy sd f_2 x_1 b_pe b_wo rf_2 (⟨i3.1, n12⟩)) (cwV 1 hts (zgL (zl4 k108 k109 k110 k24) k88) rfl rfl rfl (by decide +kernel) ⟨Nat.le_of_ble_eq_true rfl, Nat.le_of_ble_eq_true rfl⟩) rfl rfl rfl rfl (Nat.le_of_ble_eq_true rfl) dX9_turnBeliefs_32 ⟨(Nat.le_of_ble_eq_true rfl), (Nat.le_of_ble_eq_true rfl)⟩ (fun _u H locs hq17 hP hD hS => ?_)
          have hP : va_P g.1 vwCl (List.flatten [bLaw g lo lc lz ll (zMean f pe.toInt.toNat) (zPop (zWks f wo.toInt.toNat 1)) dy fc, bTown g o a pe wo tx ch jo tr dy sd f_2]) H := hP
          have hD : va_D A (List.flatten [bLaw g lo lc lz ll (zMean f pe.toInt.toNat) (zPop (zWks f wo.toInt.toNat 1)) dy fc, bTown g o a pe wo tx ch jo tr dy sd f_2]) := hD
          refine W.widen (k := 0) (n := 0) (Nat.le_of_ble_eq_true rfl) (Nat.le_of_ble_eq_true rfl) ?_
          refine W.eq (g2 := F0 m 35 ls [.int (zPull f_2 pe.toInt.toNat x_1.toInt.toNat), .int (f_2 0 x_1.toInt.toNat), .ref o, .int x_1, .ref (a 10)]) rfl ?_
          refine lv_iadd hx hb dX9_turnBeliefs_35 ?_
          refine lv_aload_n hx hb dX9_turnBeliefs_36 rfl (lv_at hl 1 rfl) ?_
          refine lv_aload_n hx hb dX9_turnBeliefs_37 rfl (lv_at hl 0 rfl) ?_
          refine lv_iload_n hx hb dX9_turnBeliefs_38 rfl (lv_at hl 2 rfl) ?_
          refine mcallV' (g := g) (q0 := 0) (ci := 1) (As := [.ref o, .int x_1]) (rest := [.int ((f_2 0 x_1.toInt.toNat) + (zPull f_2 pe.toInt.toNat x_1.toInt.toNat)), .ref o, .int x_1, .ref (a 10)]) St hK hT hA hP hD hS hl.1 [0, 1] [] rfl rfl rfl (c_l_turnsOfF l g lo lc lz ll (zMean f pe.toInt.toNat) (zPop (zWks f wo.toInt.toNat 1)) dy fc o a pe wo tx ch jo tr dy sd f_2 x_1 b_lz b_pe b_wo rf_2 (⟨i3.1, n12⟩)) (cwV 2 hts (zgL (zl4 k111 k112 k113 k85) k107) rfl rfl rfl (by decide +kernel) ⟨Nat.le_of_ble_eq_true rfl, Nat.le_of_ble_eq_true rfl⟩) rfl rfl rfl rfl (Nat.le_of_ble_eq_true rfl) dX9_turnBeliefs_39 ⟨(Nat.le_of_ble_eq_true rfl), (Nat.le_of_ble_eq_true rfl)⟩ (fun _u H locs hq18 hP hD hS => ?_)
          have hP : va_P g.1 vwCl (List.flatten [bLaw g lo lc lz ll (zMean f pe.toInt.toNat) (zPop (zWks f wo.toInt.toNat 1)) dy fc, bTown g o a pe wo tx ch jo tr dy sd f_2]) H := hP
          have hD : va_D A (List.flatten [bLaw g lo lc lz ll (zMean f pe.toInt.toNat) (zPop (zWks f wo.toInt.toNat 1)) dy fc, bTown g o a pe wo tx ch jo tr dy sd f_2]) := hD
          refine W.widen (k := 0) (n := 0) (Nat.le_of_ble_eq_true rfl) (Nat.le_of_ble_eq_true rfl) ?_
          refine W.eq (g2 := F0 m 42 ls [.int (zLwR fc lz ll (zEnvC f_2 pe.toInt.toNat x_1.toInt.toNat (zMean f pe.toInt.toNat) (zPop (zWks f wo.toInt.toNat 1)) dy)), .int ((f_2 0 x_1.toInt.toNat) + (zPull f_2 pe.toInt.toNat x_1.toInt.toNat)), .ref o, .int x_1, .ref (a 10)]) rfl ?_
          refine lv_iadd hx hb dX9_turnBeliefs_42 ?_
          refine mcallV' (g := g) (q0 := 0) (ci := 7) (As := [.int (((f_2 0 x_1.toInt.toNat) + (zPull f_2 pe.toInt.toNat x_1.toInt.toNat)) + (zLwR fc lz ll (zEnvC f_2 pe.toInt.toNat x_1.toInt.toNat (zMean f pe.toInt.toNat) (zPop (zWks f wo.toInt.toNat 1)) dy)))]) (rest := [.int x_1, .ref (a 10)]) St hK hT hA hP hD hS hl.1 [1] [0] rfl rfl rfl (c_withinF l g o a pe wo tx ch jo tr dy sd f_2 (((f_2 0 x_1.toInt.toNat) + (zPull f_2 pe.toInt.toNat x_1.toInt.toNat)) + (zLwR fc lz ll (zEnvC f_2 pe.toInt.toNat x_1.toInt.toNat (zMean f pe.toInt.toNat) (zPop (zWks f wo.toInt.toNat 1)) dy))) ) (cwV 1 hts (zgL (zl4 k48 k49 k50 k24) k39) rfl rfl rfl (by decide +kernel) ⟨Nat.le_of_ble_eq_true rfl, Nat.le_of_ble_eq_true rfl⟩) rfl rfl rfl rfl (Nat.le_of_ble_eq_true rfl) dX9_turnBeliefs_43 ⟨(Nat.le_of_ble_eq_true rfl), (Nat.le_of_ble_eq_true rfl)⟩ (fun _u H locs hq19 hP hD hS => ?_)
          have hP : va_P g.1 vwCl (List.flatten [bLaw g lo lc lz ll (zMean f pe.toInt.toNat) (zPop (zWks f wo.toInt.toNat 1)) dy fc, bTown g o a pe wo tx ch jo tr dy sd f_2]) H := hP
          have hD : va_D A (List.flatten [bLaw g lo lc lz ll (zMean f pe.toInt.toNat) (zPop (zWks f wo.toInt.toNat 1)) dy fc, bTown g o a pe wo tx ch jo tr dy sd f_2]) := hD
          refine W.widen (k := 0) (n := 0) (Nat.le_of_ble_eq_true rfl) (Nat.le_of_ble_eq_true rfl) ?_
          refine W.eq (g2 := F0 m 46 ls [.int (zCl (((f_2 0 x_1.toInt.toNat) + (zPull f_2 pe.toInt.toNat x_1.toInt.toNat)) + (zLwR fc lz ll (zEnvC f_2 pe.toInt.toNat x_1.toInt.toNat (zMean f pe.toInt.toNat) (zPop (zWks f wo.toInt.toNat 1)) dy)))), .int x_1, .ref (a 10)]) rfl ?_
          refine va_iast hx hb hK hP hD hS 13 0 rfl rfl (zinK (a := 0) (b := 7) i3.1 n12 (by decide)) dX9_turnBeliefs_46 (fun H locs hP hD hS => ?_)
          obtain ⟨f20, rf20, ef20, hP, hD⟩ : ∃ f20 : Nat → Nat → Int32, zZ4 f20 ∧ f20 = zSet f_2 10 x_1.toInt.toNat (zCl (((f_2 0 x_1.toInt.toNat) + (zPull f_2 pe.toInt.toNat x_1.toInt.toNat)) + (zLwR fc lz ll (zEnvC f_2 pe.toInt.toNat x_1.toInt.toNat (zMean f pe.toInt.toNat) (zPop (zWks f wo.toInt.toNat 1)) dy)))) ∧ va_P g.1 vwCl (List.flatten [bLaw g lo lc lz ll (zMean f pe.toInt.toNat) (zPop (zWks f wo.toInt.toNat 1)) dy fc, bTown g o a pe wo tx ch jo tr dy sd f20]) H ∧ va_D A (List.flatten [bLaw g lo lc lz ll (zMean f pe.toInt.toNat) (zPop (zWks f wo.toInt.toNat 1)) dy fc, bTown g o a pe wo tx ch jo tr dy sd f20]) := ⟨zu f_2 10 (upd (f_2 10) x_1.toNatClampNeg (zCl (((f_2 0 x_1.toInt.toNat) + (zPull f_2 pe.toInt.toNat x_1.toInt.toNat)) + (zLwR fc lz ll (zEnvC f_2 pe.toInt.toNat x_1.toInt.toNat (zMean f pe.toInt.toNat) (zPop (zWks f wo.toInt.toNat 1)) dy))))), (zZ4_u rf_2 (by decide)), rfl, hP, hD⟩
          refine lv_goto (tgt := 62) hx hb dX9_turnBeliefs_47 (by decide) ?_
          refine ziinc3 (n' := 1) (a' := 1) (b' := 8) (lv' := fun v9 => [(2, .int v9), (0, .ref o), (1, .ref lo)]) hx hb dX9_turnBeliefs_62 hl (k := 2) rfl (by decide) (fun _ => rfl) (zaddK (i := x_1.toInt) (j := 1) rfl (by decide) i3.1 n12 (Int.le_refl _) (Int.le_refl _) (by decide)) (fun x_21 ls hx_21 hl => ?_)
          refine lv_goto (tgt := 2) hx hb dX9_turnBeliefs_65 (by decide) ?_
          have hl := lv_sub (l' := [(0, .ref o), (1, .ref lo), (2, .int x_21)]) hl [1, 2, 0] rfl
          have hP : va_P g.1 vwCl (List.flatten [bLaw g lo lc lz ll (zMean f pe.toInt.toNat) (zPop (zWks f wo.toInt.toNat 1)) dy fc, bTown g o a pe wo tx ch jo tr dy sd f20]) H := hP
          have hD : va_D A (List.flatten [bLaw g lo lc lz ll (zMean f pe.toInt.toNat) (zPop (zWks f wo.toInt.toNat 1)) dy fc, bTown g o a pe wo tx ch jo tr dy sd f20]) := hD
          obtain ⟨hP, hD⟩ := zord (g := g) (Bs' := [bTown g o a pe wo tx ch jo tr dy sd f20, bLaw g lo lc lz ll (zMean f pe.toInt.toNat) (zPop (zWks f wo.toInt.toNat 1)) dy fc]) [1, 0] rfl rfl hP hD
          have hP : va_P g.1 vwCl (List.flatten [bTown g o a pe wo tx ch jo tr dy sd f20, bLaw g lo lc lz ll (zMean f pe.toInt.toNat) (zPop (zWks f wo.toInt.toNat 1)) dy fc]) H := hP
          have hD : va_D A (List.flatten [bTown g o a pe wo tx ch jo tr dy sd f20, bLaw g lo lc lz ll (zMean f pe.toInt.toNat) (zPop (zWks f wo.toInt.toNat 1)) dy fc]) := hD
          exact ih2_8 x_21 f20 ⟨(Int.le_trans (by decide) hx_21.2.1), hx_21.2.2⟩ rf20 (zTI1 i4 ef20) (zTI2 i5 ef20 hx_21.1 (by omega) (zTbR_h i4 (by omega) (by omega) hq15_k)) (by first | omega | assumption | decide) H _ ls (zmK hx_21.1 (by decide) n12 (by decide) hk2_8)  hP hD hS (lv_sub hl [0, 1, 2] rfl)
        · skip
          refine lv_if_eq (tgt := 50) hx hb dX9_turnBeliefs_15 (by decide) (fun _ => ?_) (fun c22 => absurd (by decide) c22)
          refine lv_aload_n hx hb dX9_turnBeliefs_50 rfl (lv_at hl 0 rfl) ?_
          refine va_get (D := g.1) (ci := 7) (v := .ref (a 10)) (C := RX9) (T := TX9) (N := 19) hx hb hts izRX9 hown hK hP 2 rfl rfl 18 (by decide) (hts _ k20) (fun _ h9 => h9) rfl dX9_turnBeliefs_51 ?_
          refine lv_iload_n hx hb dX9_turnBeliefs_54 rfl (lv_at hl 2 rfl) ?_
          refine lv_aload_n hx hb dX9_turnBeliefs_55 rfl (lv_at hl 0 rfl) ?_
          refine va_get (D := g.1) (ci := 7) (v := .ref (a 0)) (C := RX9) (T := TX9) (N := 19) hx hb hts izRX9 hown hK hP 2 rfl rfl 8 (by decide) (hts _ k9) (fun _ h9 => h9) rfl dX9_turnBeliefs_56 ?_
          refine lv_iload_n hx hb dX9_turnBeliefs_59 rfl (lv_at hl 2 rfl) ?_
          refine va_iald hx hb hK hP 3 0 rfl rfl (zinK (a := 0) (b := 7) i3.1 n12 (by decide)) dX9_turnBeliefs_60 ?_
          refine ztop (r := (f_2 0 x_1.toInt.toNat)) rfl ?_
          refine va_iast hx hb hK hP hD hS 13 0 rfl rfl (zinK (a := 0) (b := 7) i3.1 n12 (by decide)) dX9_turnBeliefs_61 (fun H locs hP hD hS => ?_)
          obtain ⟨f23, rf23, ef23, hP, hD⟩ : ∃ f23 : Nat → Nat → Int32, zZ4 f23 ∧ f23 = zSet f_2 10 x_1.toInt.toNat (f_2 0 x_1.toInt.toNat) ∧ va_P g.1 vwCl (List.flatten [bLaw g lo lc lz ll (zMean f pe.toInt.toNat) (zPop (zWks f wo.toInt.toNat 1)) dy fc, bTown g o a pe wo tx ch jo tr dy sd f23]) H ∧ va_D A (List.flatten [bLaw g lo lc lz ll (zMean f pe.toInt.toNat) (zPop (zWks f wo.toInt.toNat 1)) dy fc, bTown g o a pe wo tx ch jo tr dy sd f23]) := ⟨zu f_2 10 (upd (f_2 10) x_1.toNatClampNeg (f_2 0 x_1.toInt.toNat)), (zZ4_u rf_2 (by decide)), rfl, hP, hD⟩
          refine ziinc3 (n' := 1) (a' := 1) (b' := 8) (lv' := fun v9 => [(2, .int v9), (0, .ref o), (1, .ref lo)]) hx hb dX9_turnBeliefs_62 hl (k := 2) rfl (by decide) (fun _ => rfl) (zaddK (i := x_1.toInt) (j := 1) rfl (by decide) i3.1 n12 (Int.le_refl _) (Int.le_refl _) (by decide)) (fun x_24 ls hx_24 hl => ?_)
          refine lv_goto (tgt := 2) hx hb dX9_turnBeliefs_65 (by decide) ?_
          have hl := lv_sub (l' := [(0, .ref o), (1, .ref lo), (2, .int x_24)]) hl [1, 2, 0] rfl
          have hP : va_P g.1 vwCl (List.flatten [bLaw g lo lc lz ll (zMean f pe.toInt.toNat) (zPop (zWks f wo.toInt.toNat 1)) dy fc, bTown g o a pe wo tx ch jo tr dy sd f23]) H := hP
          have hD : va_D A (List.flatten [bLaw g lo lc lz ll (zMean f pe.toInt.toNat) (zPop (zWks f wo.toInt.toNat 1)) dy fc, bTown g o a pe wo tx ch jo tr dy sd f23]) := hD
          obtain ⟨hP, hD⟩ := zord (g := g) (Bs' := [bTown g o a pe wo tx ch jo tr dy sd f23, bLaw g lo lc lz ll (zMean f pe.toInt.toNat) (zPop (zWks f wo.toInt.toNat 1)) dy fc]) [1, 0] rfl rfl hP hD
          have hP : va_P g.1 vwCl (List.flatten [bTown g o a pe wo tx ch jo tr dy sd f23, bLaw g lo lc lz ll (zMean f pe.toInt.toNat) (zPop (zWks f wo.toInt.toNat 1)) dy fc]) H := hP
          have hD : va_D A (List.flatten [bTown g o a pe wo tx ch jo tr dy sd f23, bLaw g lo lc lz ll (zMean f pe.toInt.toNat) (zPop (zWks f wo.toInt.toNat 1)) dy fc]) := hD
          exact ih2_8 x_24 f23 ⟨(Int.le_trans (by decide) hx_24.2.1), hx_24.2.2⟩ rf23 (zTI1 i4 ef23) (zTI2 i5 ef23 hx_24.1 (by omega) (zTbR_a i4 hq15_k)) (by first | omega | assumption | decide) H _ ls (zmK hx_24.1 (by decide) n12 (by decide) hk2_8)  hP hD hS (lv_sub hl [0, 1, 2] rfl)
  have hL0 : (0 : Int32).toInt = 0 := by decide
  have hP : va_P g.1 vwCl (List.flatten [bTown g o a pe wo tx ch jo tr dy sd f, bLaw g lo lc lz ll (zMean f pe.toInt.toNat) (zPop (zWks f wo.toInt.toNat 1)) dy fc]) s.heap := hP
  have hD : va_D A (List.flatten [bTown g o a pe wo tx ch jo tr dy sd f, bLaw g lo lc lz ll (zMean f pe.toInt.toNat) (zPop (zWks f wo.toInt.toNat 1)) dy fc]) := hD
  exact LP2_7 _ 0 f (by decide) rf (fun _ _ => rfl) (fun j h9 => absurd h9 (by omega)) (by first | omega | assumption | decide) s.heap _ ls (Nat.lt_succ_self _)  hP hD hS (lv_sub hl [0, 1, 2] rfl)
set_option maxRecDepth 100000 in
set_option maxHeartbeats 4000000 in
theorem c_keepWorksF (l : Launch) (g : zG) (o : Nat) (a : Nat → Nat) (pe : Int32) (wo : Int32) (tx : Int32) (ch : Int32) (jo : Int32) (tr : Int32) (dy : Int32) (sd : Int32) (f : Nat → Nat → Int32) (go : Nat) (gr : Nat) (gz : Int32) (gn : Int32) (fr : Nat → Int32) (b_pe : 0 ≤ pe.toInt ∧ pe.toInt ≤ 8) (b_wo : 0 ≤ wo.toInt ∧ wo.toInt ≤ 6) (rf : zZ4 f) (b_gz : 0 ≤ gz.toInt ∧ gz.toInt ≤ 60) (b_gn : 0 ≤ gn.toInt ∧ gn.toInt ≤ 59) : zM' g l yX9_keepWorks (Cond.code yX9_keepWorks cX9_keepWorks 5 (some .int) :: zB) ({ frames := 3, cells := 0, slots := 0, locals := 66 } : Room) [.ref o, .ref go] [bTown g o a pe wo tx ch jo tr dy sd f, bLog g go gr gz gn fr] (fun u : Int32 × (Nat → Nat → Int32) × Int32 × Int32 × (Nat → Int32) × Int32 => (fun (ch2 : Int32) (f2 : Nat → Nat → Int32) (gz2 : Int32) (gn2 : Int32) (fr2 : Nat → Int32) (q : Int32) => some (.int q)) (u.1) (u.2.1) (u.2.2.1) (u.2.2.2.1) (u.2.2.2.2.1) (u.2.2.2.2.2)) (fun u : Int32 × (Nat → Nat → Int32) × Int32 × Int32 × (Nat → Int32) × Int32 => (fun (ch2 : Int32) (f2 : Nat → Nat → Int32) (gz2 : Int32) (gn2 : Int32) (fr2 : Nat → Int32) (q : Int32) => (zZ4 f2) ∧ (0 ≤ gz2.toInt ∧ gz2.toInt ≤ 60) ∧ (0 ≤ gn2.toInt ∧ gn2.toInt ≤ 59) ∧ ((ch2, f2, q) = zIt (zKW1 (zBel f pe.toInt.toNat)) (ch, f, 0) wo.toInt.toNat)) (u.1) (u.2.1) (u.2.2.1) (u.2.2.2.1) (u.2.2.2.2.1) (u.2.2.2.2.2)) (fun u : Int32 × (Nat → Nat → Int32) × Int32 × Int32 × (Nat → Int32) × Int32 => (fun (ch2 : Int32) (f2 : Nat → Nat → Int32) (gz2 : Int32) (gn2 : Int32) (fr2 : Nat → Int32) (q : Int32) => [bTown g o a pe wo tx ch2 jo tr dy sd f2, bLog g go gr gz2 gn2 fr2]) (u.1) (u.2.1) (u.2.2.1) (u.2.2.2.1) (u.2.2.2.2.1) (u.2.2.2.2.2)) := by
  refine zM'.of (cc := cX9_keepWorks) (maxL := 5) (rt := (some .int)) (by decide) rfl (Nat.le_of_ble_eq_true rfl) ?_
  intro p e s m args below meth c A ls St hr hlocks hin hK hT hA hP hD hS hl
  obtain ⟨hx, hb, hml, hown, hts⟩ := id St
  have hl : lv_has ls 5 [(0, .ref o), (1, .ref go)] := hl
  refine lv_aload_n hx hb dX9_keepWorks_0 rfl (lv_at hl 0 rfl) ?_
  refine mcallV' (g := g) (q0 := 0) (ci := 7) (As := []) (rest := []) St hK hT hA hP hD hS hl.1 [0] [1] rfl rfl rfl (c_believedF l g o a pe wo tx ch jo tr dy sd f b_pe b_wo rf) (cwV 0 hts (zgL (zl4 k68 k69 k70 k24) k60) rfl rfl rfl (by decide +kernel) ⟨Nat.le_of_ble_eq_true rfl, Nat.le_of_ble_eq_true rfl⟩) rfl rfl rfl rfl (Nat.le_of_ble_eq_true rfl) dX9_keepWorks_1 ⟨(Nat.le_of_ble_eq_true rfl), (Nat.le_of_ble_eq_true rfl)⟩ (fun _u H locs hq1 hP hD hS => ?_)
  have hP : va_P g.1 vwCl (List.flatten [bLog g go gr gz gn fr, bTown g o a pe wo tx ch jo tr dy sd f]) H := hP
  have hD : va_D A (List.flatten [bLog g go gr gz gn fr, bTown g o a pe wo tx ch jo tr dy sd f]) := hD
  refine W.widen (k := 0) (n := 0) (Nat.le_of_ble_eq_true rfl) (Nat.le_of_ble_eq_true rfl) ?_
  refine W.eq (g2 := F0 m 4 ls [.int (zBel f pe.toInt.toNat)]) rfl ?_
  refine lv_istore_n (lv' := [(2, .int (zBel f pe.toInt.toNat)), (0, .ref o), (1, .ref go)]) hx hb dX9_keepWorks_4 rfl hl (by decide) rfl (fun ls hl => ?_)
  refine lv_iconst (v := 0) hx hb dX9_keepWorks_5 (by decide) ?_
  refine lv_istore_n (lv' := [(3, .int 0), (2, .int (zBel f pe.toInt.toNat)), (0, .ref o), (1, .ref go)]) hx hb dX9_keepWorks_6 rfl hl (by decide) rfl (fun ls hl => ?_)
  refine lv_iconst (v := 0) hx hb dX9_keepWorks_7 (by decide) ?_
  refine lv_istore (lv' := [(4, .int 0), (3, .int 0), (2, .int (zBel f pe.toInt.toNat)), (0, .ref o), (1, .ref go)]) hx hb dX9_keepWorks_8 hl (by decide) rfl (fun ls hl => ?_)
  have hl := lv_sub (l' := [(0, .ref o), (1, .ref go), (2, .int (zBel f pe.toInt.toNat)), (3, .int 0), (4, .int 0)]) hl [3, 4, 2, 1, 0] rfl
  have LP10_14 : ∀ (kf : Nat) (x_2 : Int32) (x_3 : Int32) (x_4 : Int32) (x_5 : Int32) (fr_6 : Nat → Int32) (x_7 : Int32) (f_8 : Nat → Nat → Int32), (0 ≤ x_3.toInt ∧ x_3.toInt ≤ 6) → (0 ≤ x_4.toInt ∧ x_4.toInt ≤ 60) → (0 ≤ x_5.toInt ∧ x_5.toInt ≤ 59) → (zZ4 f_8) → ((x_7, f_8, x_2) = zIt (zKW1 (zBel f pe.toInt.toNat)) (ch, f, 0) x_3.toInt.toNat) → (x_3.toInt ≤ wo.toInt) → ∀ (H : Heap) (locs : List Loc) (ls : Array Slot), ((7 - x_3.toInt).toNat) < kf → va_P g.1 vwCl (List.flatten [bLog g go gr x_4 x_5 fr_6, bTown g o a pe wo tx x_7 jo tr dy sd f_8]) H → va_D A (List.flatten [bLog g go gr x_4 x_5 fr_6, bTown g o a pe wo tx x_7 jo tr dy sd f_8]) → va_S A s.heap H locs → lv_has ls 5 [(0, .ref o), (1, .ref go), (2, .int (zBel f pe.toInt.toNat)), (3, .int x_2), (4, .int x_3)] → W p l e ({ frames := 3, cells := 0, slots := 0, locals := 66 } : Room) s m args below meth c H locs (0) (0) (zF g (fun u : Int32 × (Nat → Nat → Int32) × Int32 × Int32 × (Nat → Int32) × Int32 => (fun (ch2 : Int32) (f2 : Nat → Nat → Int32) (gz2 : Int32) (gn2 : Int32) (fr2 : Nat → Int32) (q : Int32) => some (.int q)) (u.1) (u.2.1) (u.2.2.1) (u.2.2.2.1) (u.2.2.2.2.1) (u.2.2.2.2.2)) (fun u : Int32 × (Nat → Nat → Int32) × Int32 × Int32 × (Nat → Int32) × Int32 => (fun (ch2 : Int32) (f2 : Nat → Nat → Int32) (gz2 : Int32) (gn2 : Int32) (fr2 : Nat → Int32) (q : Int32) => (zZ4 f2) ∧ (0 ≤ gz2.toInt ∧ gz2.toInt ≤ 60) ∧ (0 ≤ gn2.toInt ∧ gn2.toInt ≤ 59) ∧ ((ch2, f2, q) = zIt (zKW1 (zBel f pe.toInt.toNat)) (ch, f, 0) wo.toInt.toNat)) (u.1) (u.2.1) (u.2.2.1) (u.2.2.2.1) (u.2.2.2.2.1) (u.2.2.2.2.2)) (fun u : Int32 × (Nat → Nat → Int32) × Int32 × Int32 × (Nat → Int32) × Int32 => (fun (ch2 : Int32) (f2 : Nat → Nat → Int32) (gz2 : Int32) (gn2 : Int32) (fr2 : Nat → Int32) (q : Int32) => [bTown g o a pe wo tx ch2 jo tr dy sd f2, bLog g go gr gz2 gn2 fr2]) (u.1) (u.2.1) (u.2.2.1) (u.2.2.2.1) (u.2.2.2.2.1) (u.2.2.2.2.2)) ({ frames := 3, cells := 0, slots := 0, locals := 66 } : Room) below args s A) (F0 m 10 ls []) := by
    intro kf
    induction kf with
    | zero => intro x_2 x_3 x_4 x_5 fr_6 x_7 f_8 i9 i10 i11 rf_8 i12 i13 H locs ls hk; exact absurd hk (Nat.not_lt_zero _)
    | succ kf ih10_15 =>
      intro x_2 x_3 x_4 x_5 fr_6 x_7 f_8 i9 i10 i11 rf_8 i12 i13 H locs ls hk10_15 hP hD hS hl
      refine lv_iload hx hb dX9_keepWorks_10 (lv_at hl 4 rfl) ?_
      refine lv_aload_n hx hb dX9_keepWorks_12 rfl (lv_at hl 0 rfl) ?_
      refine va_get (D := g.1) (ci := 7) (v := .int wo) (C := RX9) (T := TX9) (N := 19) hx hb hts izRX9 hown hK hP 2 rfl rfl 1 (by decide) (hts _ k32) (fun _ h9 => h9) rfl dX9_keepWorks_13 ?_
      refine lv_icmp_ge (tgt := 172) hx hb dX9_keepWorks_16 (by decide) (fun cb9 => ?_) (fun cb9 => ?_)
      · skip
        have c16 : wo.toInt ≤ x_3.toInt := zle cb9 rfl rfl
        refine lv_iload_n hx hb dX9_keepWorks_172 rfl (lv_at hl 3 rfl) ?_
        have hP : va_P g.1 vwCl (List.flatten [bLog g go gr x_4 x_5 fr_6, bTown g o a pe wo tx x_7 jo tr dy sd f_8]) H := hP
        have hD : va_D A (List.flatten [bLog g go gr x_4 x_5 fr_6, bTown g o a pe wo tx x_7 jo tr dy sd f_8]) := hD
        obtain ⟨hP, hD⟩ := zord (g := g) (Bs' := [bTown g o a pe wo tx x_7 jo tr dy sd f_8, bLog g go gr x_4 x_5 fr_6]) [1, 0] rfl rfl hP hD
        exact mret_i hx hb hr hlocks hS (Nat.le_of_ble_eq_true rfl) (Nat.le_of_ble_eq_true rfl) dX9_keepWorks_173 (x_7, f_8, x_4, x_5, fr_6, x_2) rfl (show (zZ4 f_8) ∧ (0 ≤ x_4.toInt ∧ x_4.toInt ≤ 60) ∧ (0 ≤ x_5.toInt ∧ x_5.toInt ≤ 59) ∧ ((x_7, f_8, x_2) = zIt (zKW1 (zBel f pe.toInt.toNat)) (ch, f, 0) wo.toInt.toNat) from ⟨(by first | assumption | omega), (by first | assumption | omega), (by first | assumption | omega), (zIt_x i12 (by omega))⟩) hP hD
      · skip
        have c17 : x_3.toInt < wo.toInt := zlti (Int32.not_le.mp cb9) rfl rfl
        have n18 : x_3.toInt ≤ 5 := zL1 (b := 6) c17 b_wo.2 (by decide)
        have n19 : 1 ≤ wo.toInt := zL2 (a := 0) c17 i9.1 (by decide)
        refine lv_aload_n hx hb dX9_keepWorks_19 rfl (lv_at hl 0 rfl) ?_
        refine va_get (D := g.1) (ci := 7) (v := .ref (a 9)) (C := RX9) (T := TX9) (N := 19) hx hb hts izRX9 hown hK hP 2 rfl rfl 17 (by decide) (hts _ k19) (fun _ h9 => h9) rfl dX9_keepWorks_20 ?_
        refine lv_iload hx hb dX9_keepWorks_23 (lv_at hl 4 rfl) ?_
        refine va_iald hx hb hK hP 12 0 rfl rfl (zinK (a := 0) (b := 5) i9.1 n18 (by decide)) dX9_keepWorks_25 ?_
        refine ztop (r := (f_8 9 x_3.toInt.toNat)) rfl ?_
        refine lv_if_ne (tgt := 89) hx hb dX9_keepWorks_26 (by decide) (fun cb9 => ?_) (fun cb9 => ?_)
        · skip
          have c20 : ¬ (f_8 9 x_3.toInt.toNat).toInt = 0 := zne cb9 rfl (by decide)
          refine lv_aload_n hx hb dX9_keepWorks_89 rfl (lv_at hl 0 rfl) ?_
          refine va_get (D := g.1) (ci := 7) (v := .ref (a 9)) (C := RX9) (T := TX9) (N := 19) hx hb hts izRX9 hown hK hP 2 rfl rfl 17 (by decide) (hts _ k19) (fun _ h9 => h9) rfl dX9_keepWorks_90 ?_
          refine lv_iload hx hb dX9_keepWorks_93 (lv_at hl 4 rfl) ?_
          refine va_iald hx hb hK hP 12 0 rfl rfl (zinK (a := 0) (b := 5) i9.1 n18 (by decide)) dX9_keepWorks_95 ?_
          refine ztop (r := (f_8 9 x_3.toInt.toNat)) rfl ?_
          refine lv_iconst (v := 1) hx hb dX9_keepWorks_96 (by decide) ?_
          refine lv_icmp_ne (tgt := 133) hx hb dX9_keepWorks_97 (by decide) (fun cb9 => ?_) (fun cb9 => ?_)
          · skip
            have c21 : ¬ (f_8 9 x_3.toInt.toNat).toInt = 1 := zne cb9 rfl (by decide)
            refine lv_aload_n hx hb dX9_keepWorks_133 rfl (lv_at hl 0 rfl) ?_
            refine va_get (D := g.1) (ci := 7) (v := .ref (a 9)) (C := RX9) (T := TX9) (N := 19) hx hb hts izRX9 hown hK hP 2 rfl rfl 17 (by decide) (hts _ k19) (fun _ h9 => h9) rfl dX9_keepWorks_134 ?_
            refine lv_iload hx hb dX9_keepWorks_137 (lv_at hl 4 rfl) ?_
            refine va_iald hx hb hK hP 12 0 rfl rfl (zinK (a := 0) (b := 5) i9.1 n18 (by decide)) dX9_keepWorks_139 ?_
            refine ztop (r := (f_8 9 x_3.toInt.toNat)) rfl ?_
            refine lv_iconst (v := 1) hx hb dX9_keepWorks_140 (by decide) ?_
            refine lv_icmp_ne (tgt := 166) hx hb dX9_keepWorks_141 (by decide) (fun cb9 => ?_) (fun cb9 => ?_)
            · skip
              have c22 : ¬ (f_8 9 x_3.toInt.toNat).toInt = 1 := zne cb9 rfl (by decide)
              refine ziinc3 (n' := 1) (a' := 1) (b' := 6) (lv' := fun v9 => [(4, .int v9), (0, .ref o), (1, .ref go), (2, .int (zBel f pe.toInt.toNat)), (3, .int x_2)]) hx hb dX9_keepWorks_166 hl (k := 4) rfl (by decide) (fun _ => rfl) (zaddK (i := x_3.toInt) (j := 1) rfl (by decide) i9.1 n18 (Int.le_refl _) (Int.le_refl _) (by decide)) (fun x_23 ls hx_23 hl => ?_)
              refine lv_goto (tgt := 10) hx hb dX9_keepWorks_169 (by decide) ?_
              have hl := lv_sub (l' := [(0, .ref o), (1, .ref go), (2, .int (zBel f pe.toInt.toNat)), (3, .int x_2), (4, .int x_23)]) hl [1, 2, 3, 4, 0] rfl
              have hP : va_P g.1 vwCl (List.flatten [bLog g go gr x_4 x_5 fr_6, bTown g o a pe wo tx x_7 jo tr dy sd f_8]) H := hP
              have hD : va_D A (List.flatten [bLog g go gr x_4 x_5 fr_6, bTown g o a pe wo tx x_7 jo tr dy sd f_8]) := hD
              exact ih10_15 x_2 x_23 x_4 x_5 fr_6 x_7 f_8 ⟨(Int.le_trans (by decide) hx_23.2.1), hx_23.2.2⟩ ⟨i10.1, i10.2⟩ ⟨i11.1, i11.2⟩ rf_8 (zIt_s i12 hx_23.1 (by omega) (zKn (by omega) (by omega))) (by first | omega | assumption | decide) H _ ls (zmK hx_23.1 (by decide) n18 (by decide) hk10_15)  hP hD hS (lv_sub hl [0, 1, 2, 3, 4] rfl)
            · skip
              have c24 : (f_8 9 x_3.toInt.toNat).toInt = 1 := zeq cb9 rfl (by decide)
              have n25 : 1 ≤ (f_8 9 x_3.toInt.toNat).toInt := Int.le_trans (Int.le_refl _) (Int.le_of_eq c24.symm)
              have n26 : (f_8 9 x_3.toInt.toNat).toInt ≤ 1 := Int.le_trans (Int.le_of_eq c24) (Int.le_refl _)
              refine lv_aload_n hx hb dX9_keepWorks_144 rfl (lv_at hl 0 rfl) ?_
              refine lv_sipush (v := 9999) hx hb dX9_keepWorks_145 (by decide) ?_
              refine lv_aload_n hx hb dX9_keepWorks_148 rfl (lv_at hl 0 rfl) ?_
              refine va_get (D := g.1) (ci := 7) (v := .int x_7) (C := RX9) (T := TX9) (N := 19) hx hb hts izRX9 hown hK hP 2 rfl rfl 3 (by decide) (hts _ k4) (fun _ h9 => h9) rfl dX9_keepWorks_149 ?_
              refine lv_aload_n hx hb dX9_keepWorks_152 rfl (lv_at hl 0 rfl) ?_
              refine va_get (D := g.1) (ci := 7) (v := .ref (a 8)) (C := RX9) (T := TX9) (N := 19) hx hb hts izRX9 hown hK hP 2 rfl rfl 16 (by decide) (hts _ k18) (fun _ h9 => h9) rfl dX9_keepWorks_153 ?_
              refine lv_iload hx hb dX9_keepWorks_156 (lv_at hl 4 rfl) ?_
              refine va_iald hx hb hK hP 11 0 rfl rfl (zinK (a := 0) (b := 5) i9.1 n18 (by decide)) dX9_keepWorks_158 ?_
              refine ztop (r := (f_8 8 x_3.toInt.toNat)) rfl ?_
              refine lv_iadd hx hb dX9_keepWorks_159 ?_
              refine va_mmin hx hb (by rw [hml]; exact hl.1.symm) hown (hts _ k40) (hts _ k41) (hts _ k42) (hts _ k43) (Nat.le_of_ble_eq_true rfl) (Nat.le_of_ble_eq_true rfl) (Nat.le_of_ble_eq_true rfl) (Nat.le_of_ble_eq_true rfl) dX9_keepWorks_160 ?_
              refine ztop (r := (zCap (x_7 + (f_8 8 x_3.toInt.toNat)))) (zCap_m _) ?_
              refine va_put (D := g.1) (ci := 7) (v := .int (zCap (x_7 + (f_8 8 x_3.toInt.toNat)))) (ty := .int) (C := RX9) (T := TX9) (N := 19) hx hb hts izRX9 tyX9 tyX9_ok nmX9 hown hK hP hD hS 2 rfl rfl 3 (by decide) (hts _ k4) (fun _ h9 => h9) rfl (by decide +kernel) rfl rfl (Nat.le_of_ble_eq_true rfl) dX9_keepWorks_163 (fun H locs hP hD hS => ?_)
              have hP : va_P g.1 vwCl (List.flatten [bLog g go gr x_4 x_5 fr_6, bTown g o a pe wo tx (zCap (x_7 + (f_8 8 x_3.toInt.toNat))) jo tr dy sd f_8]) H := hP
              have hD : va_D A (List.flatten [bLog g go gr x_4 x_5 fr_6, bTown g o a pe wo tx (zCap (x_7 + (f_8 8 x_3.toInt.toNat))) jo tr dy sd f_8]) := hD
              refine ziinc3 (n' := 1) (a' := 1) (b' := 6) (lv' := fun v9 => [(4, .int v9), (0, .ref o), (1, .ref go), (2, .int (zBel f pe.toInt.toNat)), (3, .int x_2)]) hx hb dX9_keepWorks_166 hl (k := 4) rfl (by decide) (fun _ => rfl) (zaddK (i := x_3.toInt) (j := 1) rfl (by decide) i9.1 n18 (Int.le_refl _) (Int.le_refl _) (by decide)) (fun x_27 ls hx_27 hl => ?_)
              refine lv_goto (tgt := 10) hx hb dX9_keepWorks_169 (by decide) ?_
              have hl := lv_sub (l' := [(0, .ref o), (1, .ref go), (2, .int (zBel f pe.toInt.toNat)), (3, .int x_2), (4, .int x_27)]) hl [1, 2, 3, 4, 0] rfl
              have hP : va_P g.1 vwCl (List.flatten [bLog g go gr x_4 x_5 fr_6, bTown g o a pe wo tx (zCap (x_7 + (f_8 8 x_3.toInt.toNat))) jo tr dy sd f_8]) H := hP
              have hD : va_D A (List.flatten [bLog g go gr x_4 x_5 fr_6, bTown g o a pe wo tx (zCap (x_7 + (f_8 8 x_3.toInt.toNat))) jo tr dy sd f_8]) := hD
              exact ih10_15 x_2 x_27 x_4 x_5 fr_6 (zCap (x_7 + (f_8 8 x_3.toInt.toNat))) f_8 ⟨(Int.le_trans (by decide) hx_27.2.1), hx_27.2.2⟩ ⟨i10.1, i10.2⟩ ⟨i11.1, i11.2⟩ rf_8 (zIt_s i12 hx_27.1 (by omega) (zKc (by omega) (by omega))) (by first | omega | assumption | decide) H _ ls (zmK hx_27.1 (by decide) n18 (by decide) hk10_15)  hP hD hS (lv_sub hl [0, 1, 2, 3, 4] rfl)
          · skip
            have c28 : (f_8 9 x_3.toInt.toNat).toInt = 1 := zeq cb9 rfl (by decide)
            have n29 : 1 ≤ (f_8 9 x_3.toInt.toNat).toInt := Int.le_trans (Int.le_refl _) (Int.le_of_eq c28.symm)
            have n30 : (f_8 9 x_3.toInt.toNat).toInt ≤ 1 := Int.le_trans (Int.le_of_eq c28) (Int.le_refl _)
            refine lv_iload_n hx hb dX9_keepWorks_100 rfl (lv_at hl 2 rfl) ?_
            refine lv_aload_n hx hb dX9_keepWorks_101 rfl (lv_at hl 0 rfl) ?_
            refine va_get (D := g.1) (ci := 7) (v := .ref (a 7)) (C := RX9) (T := TX9) (N := 19) hx hb hts izRX9 hown hK hP 2 rfl rfl 15 (by decide) (hts _ k17) (fun _ h9 => h9) rfl dX9_keepWorks_102 ?_
            refine lv_iload hx hb dX9_keepWorks_105 (lv_at hl 4 rfl) ?_
            refine va_iald hx hb hK hP 10 0 rfl rfl (zinK (a := 0) (b := 5) i9.1 n18 (by decide)) dX9_keepWorks_107 ?_
            refine ztop (r := (f_8 7 x_3.toInt.toNat)) rfl ?_
            refine lv_icmp_ge (tgt := 133) hx hb dX9_keepWorks_108 (by decide) (fun cb9 => ?_) (fun cb9 => ?_)
            · skip
              have c31 : (f_8 7 x_3.toInt.toNat).toInt ≤ (zBel f pe.toInt.toNat).toInt := zle cb9 rfl rfl
              refine lv_aload_n hx hb dX9_keepWorks_133 rfl (lv_at hl 0 rfl) ?_
              refine va_get (D := g.1) (ci := 7) (v := .ref (a 9)) (C := RX9) (T := TX9) (N := 19) hx hb hts izRX9 hown hK hP 2 rfl rfl 17 (by decide) (hts _ k19) (fun _ h9 => h9) rfl dX9_keepWorks_134 ?_
              refine lv_iload hx hb dX9_keepWorks_137 (lv_at hl 4 rfl) ?_
              refine va_iald hx hb hK hP 12 0 rfl rfl (zinK (a := 0) (b := 5) i9.1 n18 (by decide)) dX9_keepWorks_139 ?_
              refine ztop (r := (f_8 9 x_3.toInt.toNat)) rfl ?_
              refine lv_iconst (v := 1) hx hb dX9_keepWorks_140 (by decide) ?_
              refine lv_icmp_ne (tgt := 166) hx hb dX9_keepWorks_141 (by decide) (fun cb9 => ?_) (fun cb9 => ?_)
              · skip
                exact absurd (show ¬ (f_8 9 x_3.toInt.toNat).toInt = 1 from zne cb9 rfl (by decide)) (by omega)
              · skip
                have c33 : (f_8 9 x_3.toInt.toNat).toInt = 1 := zeq cb9 rfl (by decide)
                refine lv_aload_n hx hb dX9_keepWorks_144 rfl (lv_at hl 0 rfl) ?_
                refine lv_sipush (v := 9999) hx hb dX9_keepWorks_145 (by decide) ?_
                refine lv_aload_n hx hb dX9_keepWorks_148 rfl (lv_at hl 0 rfl) ?_
                refine va_get (D := g.1) (ci := 7) (v := .int x_7) (C := RX9) (T := TX9) (N := 19) hx hb hts izRX9 hown hK hP 2 rfl rfl 3 (by decide) (hts _ k4) (fun _ h9 => h9) rfl dX9_keepWorks_149 ?_
                refine lv_aload_n hx hb dX9_keepWorks_152 rfl (lv_at hl 0 rfl) ?_
                refine va_get (D := g.1) (ci := 7) (v := .ref (a 8)) (C := RX9) (T := TX9) (N := 19) hx hb hts izRX9 hown hK hP 2 rfl rfl 16 (by decide) (hts _ k18) (fun _ h9 => h9) rfl dX9_keepWorks_153 ?_
                refine lv_iload hx hb dX9_keepWorks_156 (lv_at hl 4 rfl) ?_
                refine va_iald hx hb hK hP 11 0 rfl rfl (zinK (a := 0) (b := 5) i9.1 n18 (by decide)) dX9_keepWorks_158 ?_
                refine ztop (r := (f_8 8 x_3.toInt.toNat)) rfl ?_
                refine lv_iadd hx hb dX9_keepWorks_159 ?_
                refine va_mmin hx hb (by rw [hml]; exact hl.1.symm) hown (hts _ k40) (hts _ k41) (hts _ k42) (hts _ k43) (Nat.le_of_ble_eq_true rfl) (Nat.le_of_ble_eq_true rfl) (Nat.le_of_ble_eq_true rfl) (Nat.le_of_ble_eq_true rfl) dX9_keepWorks_160 ?_
                refine ztop (r := (zCap (x_7 + (f_8 8 x_3.toInt.toNat)))) (zCap_m _) ?_
                refine va_put (D := g.1) (ci := 7) (v := .int (zCap (x_7 + (f_8 8 x_3.toInt.toNat)))) (ty := .int) (C := RX9) (T := TX9) (N := 19) hx hb hts izRX9 tyX9 tyX9_ok nmX9 hown hK hP hD hS 2 rfl rfl 3 (by decide) (hts _ k4) (fun _ h9 => h9) rfl (by decide +kernel) rfl rfl (Nat.le_of_ble_eq_true rfl) dX9_keepWorks_163 (fun H locs hP hD hS => ?_)
                have hP : va_P g.1 vwCl (List.flatten [bLog g go gr x_4 x_5 fr_6, bTown g o a pe wo tx (zCap (x_7 + (f_8 8 x_3.toInt.toNat))) jo tr dy sd f_8]) H := hP
                have hD : va_D A (List.flatten [bLog g go gr x_4 x_5 fr_6, bTown g o a pe wo tx (zCap (x_7 + (f_8 8 x_3.toInt.toNat))) jo tr dy sd f_8]) := hD
                refine ziinc3 (n' := 1) (a' := 1) (b' := 6) (lv' := fun v9 => [(4, .int v9), (0, .ref o), (1, .ref go), (2, .int (zBel f pe.toInt.toNat)), (3, .int x_2)]) hx hb dX9_keepWorks_166 hl (k := 4) rfl (by decide) (fun _ => rfl) (zaddK (i := x_3.toInt) (j := 1) rfl (by decide) i9.1 n18 (Int.le_refl _) (Int.le_refl _) (by decide)) (fun x_34 ls hx_34 hl => ?_)
                refine lv_goto (tgt := 10) hx hb dX9_keepWorks_169 (by decide) ?_
                have hl := lv_sub (l' := [(0, .ref o), (1, .ref go), (2, .int (zBel f pe.toInt.toNat)), (3, .int x_2), (4, .int x_34)]) hl [1, 2, 3, 4, 0] rfl
                have hP : va_P g.1 vwCl (List.flatten [bLog g go gr x_4 x_5 fr_6, bTown g o a pe wo tx (zCap (x_7 + (f_8 8 x_3.toInt.toNat))) jo tr dy sd f_8]) H := hP
                have hD : va_D A (List.flatten [bLog g go gr x_4 x_5 fr_6, bTown g o a pe wo tx (zCap (x_7 + (f_8 8 x_3.toInt.toNat))) jo tr dy sd f_8]) := hD
                exact ih10_15 x_2 x_34 x_4 x_5 fr_6 (zCap (x_7 + (f_8 8 x_3.toInt.toNat))) f_8 ⟨(Int.le_trans (by decide) hx_34.2.1), hx_34.2.2⟩ ⟨i10.1, i10.2⟩ ⟨i11.1, i11.2⟩ rf_8 (zIt_s i12 hx_34.1 (by omega) (zKc (by omega) (by omega))) (by first | omega | assumption | decide) H _ ls (zmK hx_34.1 (by decide) n18 (by decide) hk10_15)  hP hD hS (lv_sub hl [0, 1, 2, 3, 4] rfl)
            · skip
              have c35 : (zBel f pe.toInt.toNat).toInt < (f_8 7 x_3.toInt.toNat).toInt := zlti (Int32.not_le.mp cb9) rfl rfl
              refine lv_aload_n hx hb dX9_keepWorks_111 rfl (lv_at hl 0 rfl) ?_
              refine va_get (D := g.1) (ci := 7) (v := .ref (a 9)) (C := RX9) (T := TX9) (N := 19) hx hb hts izRX9 hown hK hP 2 rfl rfl 17 (by decide) (hts _ k19) (fun _ h9 => h9) rfl dX9_keepWorks_112 ?_
              refine lv_iload hx hb dX9_keepWorks_115 (lv_at hl 4 rfl) ?_
              refine lv_iconst (v := 2) hx hb dX9_keepWorks_117 (by decide) ?_
              refine va_iast hx hb hK hP hD hS 12 0 rfl rfl (zinK (a := 0) (b := 5) i9.1 n18 (by decide)) dX9_keepWorks_118 (fun H locs hP hD hS => ?_)
              obtain ⟨f36, rf36, ef36, hP, hD⟩ : ∃ f36 : Nat → Nat → Int32, zZ4 f36 ∧ f36 = zSet f_8 9 x_3.toInt.toNat 2 ∧ va_P g.1 vwCl (List.flatten [bLog g go gr x_4 x_5 fr_6, bTown g o a pe wo tx x_7 jo tr dy sd f36]) H ∧ va_D A (List.flatten [bLog g go gr x_4 x_5 fr_6, bTown g o a pe wo tx x_7 jo tr dy sd f36]) := ⟨zu f_8 9 (upd (f_8 9) x_3.toNatClampNeg 2), (zZ4_u rf_8 (by decide)), rfl, hP, hD⟩
              refine lv_iinc (v := x_2 + 1) (lv' := [(3, .int (x_2 + 1)), (0, .ref o), (1, .ref go), (2, .int (zBel f pe.toInt.toNat)), (4, .int x_3)]) hx hb dX9_keepWorks_119 hl (k := 3) rfl rfl (by decide) rfl (fun ls hl => ?_)
              refine lv_aload_n hx hb dX9_keepWorks_122 rfl (lv_at hl 1 rfl) ?_
              refine lv_aload_n hx hb dX9_keepWorks_123 rfl (lv_at hl 2 rfl) ?_
              refine lv_iload hx hb dX9_keepWorks_124 (lv_at hl 4 rfl) ?_
              refine lv_iconst (v := 1) hx hb dX9_keepWorks_126 (by decide) ?_
              refine mcallV' (g := g) (q0 := 0) (ci := 7) (As := [.ref go, .int x_3, .int 1]) (rest := []) St hK hT hA hP hD hS hl.1 [1, 0] [] rfl rfl rfl (c_write l g o a pe wo tx x_7 jo tr dy sd f36 go gr x_4 x_5 fr_6 x_3 1 b_pe b_wo rf36 i10 i11) (cwV 3 hts (zgL (zl4 k125 k126 k127 k24) k124) rfl rfl rfl (by decide +kernel) ⟨Nat.le_of_ble_eq_true rfl, Nat.le_of_ble_eq_true rfl⟩) rfl rfl rfl rfl (Nat.le_of_ble_eq_true rfl) dX9_keepWorks_127 ⟨(Nat.le_of_ble_eq_true rfl), (Nat.le_of_ble_eq_true rfl)⟩ (fun u_ H locs hq40 hP hD hS => ?_)
              obtain ⟨gz2_37, gn2_38, fr2_39⟩ := u_
              replace hq40 : (0 ≤ gz2_37.toInt ∧ gz2_37.toInt ≤ 60) ∧ (0 ≤ gn2_38.toInt ∧ gn2_38.toInt ≤ 59) := hq40
              have hP : va_P g.1 vwCl (List.flatten [bTown g o a pe wo tx x_7 jo tr dy sd f36, bLog g go gr gz2_37 gn2_38 fr2_39]) H := hP
              have hD : va_D A (List.flatten [bTown g o a pe wo tx x_7 jo tr dy sd f36, bLog g go gr gz2_37 gn2_38 fr2_39]) := hD
              refine W.widen (k := 0) (n := 0) (Nat.le_of_ble_eq_true rfl) (Nat.le_of_ble_eq_true rfl) ?_
              refine W.eq (g2 := F0 m 130 ls []) rfl ?_
              obtain ⟨hq40_0, hq40_1⟩ := hq40
              refine lv_goto (tgt := 166) hx hb dX9_keepWorks_130 (by decide) ?_
              refine ziinc3 (n' := 1) (a' := 1) (b' := 6) (lv' := fun v9 => [(4, .int v9), (3, .int (x_2 + 1)), (0, .ref o), (1, .ref go), (2, .int (zBel f pe.toInt.toNat))]) hx hb dX9_keepWorks_166 hl (k := 4) rfl (by decide) (fun _ => rfl) (zaddK (i := x_3.toInt) (j := 1) rfl (by decide) i9.1 n18 (Int.le_refl _) (Int.le_refl _) (by decide)) (fun x_41 ls hx_41 hl => ?_)
              refine lv_goto (tgt := 10) hx hb dX9_keepWorks_169 (by decide) ?_
              have hl := lv_sub (l' := [(0, .ref o), (1, .ref go), (2, .int (zBel f pe.toInt.toNat)), (3, .int (x_2 + 1)), (4, .int x_41)]) hl [2, 3, 4, 1, 0] rfl
              have hP : va_P g.1 vwCl (List.flatten [bTown g o a pe wo tx x_7 jo tr dy sd f36, bLog g go gr gz2_37 gn2_38 fr2_39]) H := hP
              have hD : va_D A (List.flatten [bTown g o a pe wo tx x_7 jo tr dy sd f36, bLog g go gr gz2_37 gn2_38 fr2_39]) := hD
              obtain ⟨hP, hD⟩ := zord (g := g) (Bs' := [bLog g go gr gz2_37 gn2_38 fr2_39, bTown g o a pe wo tx x_7 jo tr dy sd f36]) [1, 0] rfl rfl hP hD
              have hP : va_P g.1 vwCl (List.flatten [bLog g go gr gz2_37 gn2_38 fr2_39, bTown g o a pe wo tx x_7 jo tr dy sd f36]) H := hP
              have hD : va_D A (List.flatten [bLog g go gr gz2_37 gn2_38 fr2_39, bTown g o a pe wo tx x_7 jo tr dy sd f36]) := hD
              exact ih10_15 (x_2 + 1) x_41 gz2_37 gn2_38 fr2_39 x_7 f36 ⟨(Int.le_trans (by decide) hx_41.2.1), hx_41.2.2⟩ ⟨hq40_0.1, hq40_0.2⟩ ⟨hq40_1.1, hq40_1.2⟩ rf36 (zIt_s i12 hx_41.1 (by omega) (zKb (by omega) (by omega) ef36)) (by first | omega | assumption | decide) H _ ls (zmK hx_41.1 (by decide) n18 (by decide) hk10_15)  hP hD hS (lv_sub hl [0, 1, 2, 3, 4] rfl)
        · skip
          have c42 : (f_8 9 x_3.toInt.toNat).toInt = 0 := zeq cb9 rfl (by decide)
          have n43 : 0 ≤ (f_8 9 x_3.toInt.toNat).toInt := Int.le_trans (Int.le_refl _) (Int.le_of_eq c42.symm)
          have n44 : (f_8 9 x_3.toInt.toNat).toInt ≤ 0 := Int.le_trans (Int.le_of_eq c42) (Int.le_refl _)
          refine lv_iload_n hx hb dX9_keepWorks_29 rfl (lv_at hl 2 rfl) ?_
          refine lv_aload_n hx hb dX9_keepWorks_30 rfl (lv_at hl 0 rfl) ?_
          refine va_get (D := g.1) (ci := 7) (v := .ref (a 7)) (C := RX9) (T := TX9) (N := 19) hx hb hts izRX9 hown hK hP 2 rfl rfl 15 (by decide) (hts _ k17) (fun _ h9 => h9) rfl dX9_keepWorks_31 ?_
          refine lv_iload hx hb dX9_keepWorks_34 (lv_at hl 4 rfl) ?_
          refine va_iald hx hb hK hP 10 0 rfl rfl (zinK (a := 0) (b := 5) i9.1 n18 (by decide)) dX9_keepWorks_36 ?_
          refine ztop (r := (f_8 7 x_3.toInt.toNat)) rfl ?_
          refine lv_icmp_lt (tgt := 89) hx hb dX9_keepWorks_37 (by decide) (fun cb9 => ?_) (fun cb9 => ?_)
          · skip
            have c45 : (zBel f pe.toInt.toNat).toInt < (f_8 7 x_3.toInt.toNat).toInt := zlti cb9 rfl rfl
            refine lv_aload_n hx hb dX9_keepWorks_89 rfl (lv_at hl 0 rfl) ?_
            refine va_get (D := g.1) (ci := 7) (v := .ref (a 9)) (C := RX9) (T := TX9) (N := 19) hx hb hts izRX9 hown hK hP 2 rfl rfl 17 (by decide) (hts _ k19) (fun _ h9 => h9) rfl dX9_keepWorks_90 ?_
            refine lv_iload hx hb dX9_keepWorks_93 (lv_at hl 4 rfl) ?_
            refine va_iald hx hb hK hP 12 0 rfl rfl (zinK (a := 0) (b := 5) i9.1 n18 (by decide)) dX9_keepWorks_95 ?_
            refine ztop (r := (f_8 9 x_3.toInt.toNat)) rfl ?_
            refine lv_iconst (v := 1) hx hb dX9_keepWorks_96 (by decide) ?_
            refine lv_icmp_ne (tgt := 133) hx hb dX9_keepWorks_97 (by decide) (fun cb9 => ?_) (fun cb9 => ?_)
            · skip
              have c46 : ¬ (f_8 9 x_3.toInt.toNat).toInt = 1 := zne cb9 rfl (by decide)
              refine lv_aload_n hx hb dX9_keepWorks_133 rfl (lv_at hl 0 rfl) ?_
              refine va_get (D := g.1) (ci := 7) (v := .ref (a 9)) (C := RX9) (T := TX9) (N := 19) hx hb hts izRX9 hown hK hP 2 rfl rfl 17 (by decide) (hts _ k19) (fun _ h9 => h9) rfl dX9_keepWorks_134 ?_
              refine lv_iload hx hb dX9_keepWorks_137 (lv_at hl 4 rfl) ?_
              refine va_iald hx hb hK hP 12 0 rfl rfl (zinK (a := 0) (b := 5) i9.1 n18 (by decide)) dX9_keepWorks_139 ?_
              refine ztop (r := (f_8 9 x_3.toInt.toNat)) rfl ?_
              refine lv_iconst (v := 1) hx hb dX9_keepWorks_140 (by decide) ?_
              refine lv_icmp_ne (tgt := 166) hx hb dX9_keepWorks_141 (by decide) (fun cb9 => ?_) (fun cb9 => ?_)
              · skip
                have c47 : ¬ (f_8 9 x_3.toInt.toNat).toInt = 1 := zne cb9 rfl (by decide)
                refine ziinc3 (n' := 1) (a' := 1) (b' := 6) (lv' := fun v9 => [(4, .int v9), (0, .ref o), (1, .ref go), (2, .int (zBel f pe.toInt.toNat)), (3, .int x_2)]) hx hb dX9_keepWorks_166 hl (k := 4) rfl (by decide) (fun _ => rfl) (zaddK (i := x_3.toInt) (j := 1) rfl (by decide) i9.1 n18 (Int.le_refl _) (Int.le_refl _) (by decide)) (fun x_48 ls hx_48 hl => ?_)
                refine lv_goto (tgt := 10) hx hb dX9_keepWorks_169 (by decide) ?_
                have hl := lv_sub (l' := [(0, .ref o), (1, .ref go), (2, .int (zBel f pe.toInt.toNat)), (3, .int x_2), (4, .int x_48)]) hl [1, 2, 3, 4, 0] rfl
                have hP : va_P g.1 vwCl (List.flatten [bLog g go gr x_4 x_5 fr_6, bTown g o a pe wo tx x_7 jo tr dy sd f_8]) H := hP
                have hD : va_D A (List.flatten [bLog g go gr x_4 x_5 fr_6, bTown g o a pe wo tx x_7 jo tr dy sd f_8]) := hD
                exact ih10_15 x_2 x_48 x_4 x_5 fr_6 x_7 f_8 ⟨(Int.le_trans (by decide) hx_48.2.1), hx_48.2.2⟩ ⟨i10.1, i10.2⟩ ⟨i11.1, i11.2⟩ rf_8 (zIt_s i12 hx_48.1 (by omega) (zKn (by omega) (by omega))) (by first | omega | assumption | decide) H _ ls (zmK hx_48.1 (by decide) n18 (by decide) hk10_15)  hP hD hS (lv_sub hl [0, 1, 2, 3, 4] rfl)
              · skip
                exact absurd (show (f_8 9 x_3.toInt.toNat).toInt = 1 from zeq cb9 rfl (by decide)) (zDeq1 (a := 0) (b := 1) n44 (Int.le_refl _) (by decide))
            · skip
              exact absurd (show (f_8 9 x_3.toInt.toNat).toInt = 1 from zeq cb9 rfl (by decide)) (zDeq1 (a := 0) (b := 1) n44 (Int.le_refl _) (by decide))
          · skip
            have c51 : (f_8 7 x_3.toInt.toNat).toInt ≤ (zBel f pe.toInt.toNat).toInt := zle (Int32.not_lt.mp cb9) rfl rfl
            refine lv_aload_n hx hb dX9_keepWorks_40 rfl (lv_at hl 0 rfl) ?_
            refine va_get (D := g.1) (ci := 7) (v := .int x_7) (C := RX9) (T := TX9) (N := 19) hx hb hts izRX9 hown hK hP 2 rfl rfl 3 (by decide) (hts _ k4) (fun _ h9 => h9) rfl dX9_keepWorks_41 ?_
            refine lv_aload_n hx hb dX9_keepWorks_44 rfl (lv_at hl 0 rfl) ?_
            refine va_get (D := g.1) (ci := 7) (v := .ref (a 6)) (C := RX9) (T := TX9) (N := 19) hx hb hts izRX9 hown hK hP 2 rfl rfl 14 (by decide) (hts _ k16) (fun _ h9 => h9) rfl dX9_keepWorks_45 ?_
            refine lv_iload hx hb dX9_keepWorks_48 (lv_at hl 4 rfl) ?_
            refine va_iald hx hb hK hP 9 0 rfl rfl (zinK (a := 0) (b := 5) i9.1 n18 (by decide)) dX9_keepWorks_50 ?_
            refine ztop (r := (f_8 6 x_3.toInt.toNat)) rfl ?_
            refine lv_icmp_lt (tgt := 89) hx hb dX9_keepWorks_51 (by decide) (fun cb9 => ?_) (fun cb9 => ?_)
            · skip
              have c52 : x_7.toInt < (f_8 6 x_3.toInt.toNat).toInt := zlti cb9 rfl rfl
              refine lv_aload_n hx hb dX9_keepWorks_89 rfl (lv_at hl 0 rfl) ?_
              refine va_get (D := g.1) (ci := 7) (v := .ref (a 9)) (C := RX9) (T := TX9) (N := 19) hx hb hts izRX9 hown hK hP 2 rfl rfl 17 (by decide) (hts _ k19) (fun _ h9 => h9) rfl dX9_keepWorks_90 ?_
              refine lv_iload hx hb dX9_keepWorks_93 (lv_at hl 4 rfl) ?_
              refine va_iald hx hb hK hP 12 0 rfl rfl (zinK (a := 0) (b := 5) i9.1 n18 (by decide)) dX9_keepWorks_95 ?_
              refine ztop (r := (f_8 9 x_3.toInt.toNat)) rfl ?_
              refine lv_iconst (v := 1) hx hb dX9_keepWorks_96 (by decide) ?_
              refine lv_icmp_ne (tgt := 133) hx hb dX9_keepWorks_97 (by decide) (fun cb9 => ?_) (fun cb9 => ?_)
              · skip
                have c53 : ¬ (f_8 9 x_3.toInt.toNat).toInt = 1 := zne cb9 rfl (by decide)
                refine lv_aload_n hx hb dX9_keepWorks_133 rfl (lv_at hl 0 rfl) ?_
                refine va_get (D := g.1) (ci := 7) (v := .ref (a 9)) (C := RX9) (T := TX9) (N := 19) hx hb hts izRX9 hown hK hP 2 rfl rfl 17 (by decide) (hts _ k19) (fun _ h9 => h9) rfl dX9_keepWorks_134 ?_
                refine lv_iload hx hb dX9_keepWorks_137 (lv_at hl 4 rfl) ?_
                refine va_iald hx hb hK hP 12 0 rfl rfl (zinK (a := 0) (b := 5) i9.1 n18 (by decide)) dX9_keepWorks_139 ?_
                refine ztop (r := (f_8 9 x_3.toInt.toNat)) rfl ?_
                refine lv_iconst (v := 1) hx hb dX9_keepWorks_140 (by decide) ?_
                refine lv_icmp_ne (tgt := 166) hx hb dX9_keepWorks_141 (by decide) (fun cb9 => ?_) (fun cb9 => ?_)
                · skip
                  have c54 : ¬ (f_8 9 x_3.toInt.toNat).toInt = 1 := zne cb9 rfl (by decide)
                  refine ziinc3 (n' := 1) (a' := 1) (b' := 6) (lv' := fun v9 => [(4, .int v9), (0, .ref o), (1, .ref go), (2, .int (zBel f pe.toInt.toNat)), (3, .int x_2)]) hx hb dX9_keepWorks_166 hl (k := 4) rfl (by decide) (fun _ => rfl) (zaddK (i := x_3.toInt) (j := 1) rfl (by decide) i9.1 n18 (Int.le_refl _) (Int.le_refl _) (by decide)) (fun x_55 ls hx_55 hl => ?_)
                  refine lv_goto (tgt := 10) hx hb dX9_keepWorks_169 (by decide) ?_
                  have hl := lv_sub (l' := [(0, .ref o), (1, .ref go), (2, .int (zBel f pe.toInt.toNat)), (3, .int x_2), (4, .int x_55)]) hl [1, 2, 3, 4, 0] rfl
                  have hP : va_P g.1 vwCl (List.flatten [bLog g go gr x_4 x_5 fr_6, bTown g o a pe wo tx x_7 jo tr dy sd f_8]) H := hP
                  have hD : va_D A (List.flatten [bLog g go gr x_4 x_5 fr_6, bTown g o a pe wo tx x_7 jo tr dy sd f_8]) := hD
                  exact ih10_15 x_2 x_55 x_4 x_5 fr_6 x_7 f_8 ⟨(Int.le_trans (by decide) hx_55.2.1), hx_55.2.2⟩ ⟨i10.1, i10.2⟩ ⟨i11.1, i11.2⟩ rf_8 (zIt_s i12 hx_55.1 (by omega) (zKn (by omega) (by omega))) (by first | omega | assumption | decide) H _ ls (zmK hx_55.1 (by decide) n18 (by decide) hk10_15)  hP hD hS (lv_sub hl [0, 1, 2, 3, 4] rfl)
                · skip
                  exact absurd (show (f_8 9 x_3.toInt.toNat).toInt = 1 from zeq cb9 rfl (by decide)) (zDeq1 (a := 0) (b := 1) n44 (Int.le_refl _) (by decide))
              · skip
                exact absurd (show (f_8 9 x_3.toInt.toNat).toInt = 1 from zeq cb9 rfl (by decide)) (zDeq1 (a := 0) (b := 1) n44 (Int.le_refl _) (by decide))
            · skip
              have c58 : (f_8 6 x_3.toInt.toNat).toInt ≤ x_7.toInt := zle (Int32.not_lt.mp cb9) rfl rfl
              refine lv_aload_n hx hb dX9_keepWorks_54 rfl (lv_at hl 0 rfl) ?_
              refine va_get (D := g.1) (ci := 7) (v := .ref (a 9)) (C := RX9) (T := TX9) (N := 19) hx hb hts izRX9 hown hK hP 2 rfl rfl 17 (by decide) (hts _ k19) (fun _ h9 => h9) rfl dX9_keepWorks_55 ?_
              refine lv_iload hx hb dX9_keepWorks_58 (lv_at hl 4 rfl) ?_
              refine lv_iconst (v := 1) hx hb dX9_keepWorks_60 (by decide) ?_
              refine va_iast hx hb hK hP hD hS 12 0 rfl rfl (zinK (a := 0) (b := 5) i9.1 n18 (by decide)) dX9_keepWorks_61 (fun H locs hP hD hS => ?_)
              obtain ⟨f59, rf59, ef59, hP, hD⟩ : ∃ f59 : Nat → Nat → Int32, zZ4 f59 ∧ f59 = zSet f_8 9 x_3.toInt.toNat 1 ∧ va_P g.1 vwCl (List.flatten [bLog g go gr x_4 x_5 fr_6, bTown g o a pe wo tx x_7 jo tr dy sd f59]) H ∧ va_D A (List.flatten [bLog g go gr x_4 x_5 fr_6, bTown g o a pe wo tx x_7 jo tr dy sd f59]) := ⟨zu f_8 9 (upd (f_8 9) x_3.toNatClampNeg 1), (zZ4_u rf_8 (by decide)), rfl, hP, hD⟩
              refine lv_aload_n hx hb dX9_keepWorks_62 rfl (lv_at hl 0 rfl) ?_
              refine lv_dup hx hb dX9_keepWorks_63 rfl ?_
              refine va_get (D := g.1) (ci := 7) (v := .int x_7) (C := RX9) (T := TX9) (N := 19) hx hb hts izRX9 hown hK hP 2 rfl rfl 3 (by decide) (hts _ k4) (fun _ h9 => h9) rfl dX9_keepWorks_64 ?_
              refine lv_aload_n hx hb dX9_keepWorks_67 rfl (lv_at hl 0 rfl) ?_
              refine va_get (D := g.1) (ci := 7) (v := .ref (a 6)) (C := RX9) (T := TX9) (N := 19) hx hb hts izRX9 hown hK hP 2 rfl rfl 14 (by decide) (hts _ k16) (fun _ h9 => h9) rfl dX9_keepWorks_68 ?_
              refine lv_iload hx hb dX9_keepWorks_71 (lv_at hl 4 rfl) ?_
              refine va_iald hx hb hK hP 9 0 rfl rfl (zinK (a := 0) (b := 5) i9.1 n18 (by decide)) dX9_keepWorks_73 ?_
              refine ztop (r := (f_8 6 x_3.toInt.toNat)) (by rw [ef59, zSet_r _ _ _ _ (by decide)]; exact rfl) ?_
              refine lv_isub hx hb dX9_keepWorks_74 ?_
              refine va_put (D := g.1) (ci := 7) (v := .int (x_7 - (f_8 6 x_3.toInt.toNat))) (ty := .int) (C := RX9) (T := TX9) (N := 19) hx hb hts izRX9 tyX9 tyX9_ok nmX9 hown hK hP hD hS 2 rfl rfl 3 (by decide) (hts _ k4) (fun _ h9 => h9) rfl (by decide +kernel) rfl rfl (Nat.le_of_ble_eq_true rfl) dX9_keepWorks_75 (fun H locs hP hD hS => ?_)
              have hP : va_P g.1 vwCl (List.flatten [bLog g go gr x_4 x_5 fr_6, bTown g o a pe wo tx (x_7 - (f_8 6 x_3.toInt.toNat)) jo tr dy sd f59]) H := hP
              have hD : va_D A (List.flatten [bLog g go gr x_4 x_5 fr_6, bTown g o a pe wo tx (x_7 - (f_8 6 x_3.toInt.toNat)) jo tr dy sd f59]) := hD
              refine lv_aload_n hx hb dX9_keepWorks_78 rfl (lv_at hl 0 rfl) ?_
              refine lv_aload_n hx hb dX9_keepWorks_79 rfl (lv_at hl 1 rfl) ?_
              refine lv_iload hx hb dX9_keepWorks_80 (lv_at hl 4 rfl) ?_
              refine lv_iconst (v := 0) hx hb dX9_keepWorks_82 (by decide) ?_
              refine mcallV' (g := g) (q0 := 0) (ci := 7) (As := [.ref go, .int x_3, .int 0]) (rest := []) St hK hT hA hP hD hS hl.1 [1, 0] [] rfl rfl rfl (c_write l g o a pe wo tx (x_7 - (f_8 6 x_3.toInt.toNat)) jo tr dy sd f59 go gr x_4 x_5 fr_6 x_3 0 b_pe b_wo rf59 i10 i11) (cwV 3 hts (zgL (zl4 k125 k126 k127 k24) k124) rfl rfl rfl (by decide +kernel) ⟨Nat.le_of_ble_eq_true rfl, Nat.le_of_ble_eq_true rfl⟩) rfl rfl rfl rfl (Nat.le_of_ble_eq_true rfl) dX9_keepWorks_83 ⟨(Nat.le_of_ble_eq_true rfl), (Nat.le_of_ble_eq_true rfl)⟩ (fun u_ H locs hq63 hP hD hS => ?_)
              obtain ⟨gz2_60, gn2_61, fr2_62⟩ := u_
              replace hq63 : (0 ≤ gz2_60.toInt ∧ gz2_60.toInt ≤ 60) ∧ (0 ≤ gn2_61.toInt ∧ gn2_61.toInt ≤ 59) := hq63
              have hP : va_P g.1 vwCl (List.flatten [bTown g o a pe wo tx (x_7 - (f_8 6 x_3.toInt.toNat)) jo tr dy sd f59, bLog g go gr gz2_60 gn2_61 fr2_62]) H := hP
              have hD : va_D A (List.flatten [bTown g o a pe wo tx (x_7 - (f_8 6 x_3.toInt.toNat)) jo tr dy sd f59, bLog g go gr gz2_60 gn2_61 fr2_62]) := hD
              refine W.widen (k := 0) (n := 0) (Nat.le_of_ble_eq_true rfl) (Nat.le_of_ble_eq_true rfl) ?_
              refine W.eq (g2 := F0 m 86 ls []) rfl ?_
              obtain ⟨hq63_0, hq63_1⟩ := hq63
              refine lv_goto (tgt := 166) hx hb dX9_keepWorks_86 (by decide) ?_
              refine ziinc3 (n' := 1) (a' := 1) (b' := 6) (lv' := fun v9 => [(4, .int v9), (0, .ref o), (1, .ref go), (2, .int (zBel f pe.toInt.toNat)), (3, .int x_2)]) hx hb dX9_keepWorks_166 hl (k := 4) rfl (by decide) (fun _ => rfl) (zaddK (i := x_3.toInt) (j := 1) rfl (by decide) i9.1 n18 (Int.le_refl _) (Int.le_refl _) (by decide)) (fun x_64 ls hx_64 hl => ?_)
              refine lv_goto (tgt := 10) hx hb dX9_keepWorks_169 (by decide) ?_
              have hl := lv_sub (l' := [(0, .ref o), (1, .ref go), (2, .int (zBel f pe.toInt.toNat)), (3, .int x_2), (4, .int x_64)]) hl [1, 2, 3, 4, 0] rfl
              have hP : va_P g.1 vwCl (List.flatten [bTown g o a pe wo tx (x_7 - (f_8 6 x_3.toInt.toNat)) jo tr dy sd f59, bLog g go gr gz2_60 gn2_61 fr2_62]) H := hP
              have hD : va_D A (List.flatten [bTown g o a pe wo tx (x_7 - (f_8 6 x_3.toInt.toNat)) jo tr dy sd f59, bLog g go gr gz2_60 gn2_61 fr2_62]) := hD
              obtain ⟨hP, hD⟩ := zord (g := g) (Bs' := [bLog g go gr gz2_60 gn2_61 fr2_62, bTown g o a pe wo tx (x_7 - (f_8 6 x_3.toInt.toNat)) jo tr dy sd f59]) [1, 0] rfl rfl hP hD
              have hP : va_P g.1 vwCl (List.flatten [bLog g go gr gz2_60 gn2_61 fr2_62, bTown g o a pe wo tx (x_7 - (f_8 6 x_3.toInt.toNat)) jo tr dy sd f59]) H := hP
              have hD : va_D A (List.flatten [bLog g go gr gz2_60 gn2_61 fr2_62, bTown g o a pe wo tx (x_7 - (f_8 6 x_3.toInt.toNat)) jo tr dy sd f59]) := hD
              exact ih10_15 x_2 x_64 gz2_60 gn2_61 fr2_62 (x_7 - (f_8 6 x_3.toInt.toNat)) f59 ⟨(Int.le_trans (by decide) hx_64.2.1), hx_64.2.2⟩ ⟨hq63_0.1, hq63_0.2⟩ ⟨hq63_1.1, hq63_1.2⟩ rf59 (zIt_s i12 hx_64.1 (by omega) (zKa (by omega) (by omega) (by omega) ef59)) (by first | omega | assumption | decide) H _ ls (zmK hx_64.1 (by decide) n18 (by decide) hk10_15)  hP hD hS (lv_sub hl [0, 1, 2, 3, 4] rfl)
  have hL0 : (0 : Int32).toInt = 0 := by decide
  have hP : va_P g.1 vwCl (List.flatten [bLog g go gr gz gn fr, bTown g o a pe wo tx ch jo tr dy sd f]) H := hP
  have hD : va_D A (List.flatten [bLog g go gr gz gn fr, bTown g o a pe wo tx ch jo tr dy sd f]) := hD
  exact LP10_14 _ 0 0 gz gn fr ch f (by decide) ⟨b_gz.1, b_gz.2⟩ ⟨b_gn.1, b_gn.2⟩ rf (zIt_0 (by decide) rfl) (by first | omega | assumption | decide) H _ ls (Nat.lt_succ_self _)  hP hD hS (lv_sub hl [0, 1, 2, 3, 4] rfl)
