set_option maxRecDepth 100000 in
set_option maxHeartbeats 4000000 in
theorem c_gainOf (l : Launch) (g : zG) (o : Nat) (a : Nat → Nat) (pe : Int32) (wo : Int32) (tx : Int32) (ch : Int32) (jo : Int32) (tr : Int32) (dy : Int32) (sd : Int32) (f : Nat → Nat → Int32) (st0 : Int32) (b_pe : 0 ≤ pe.toInt ∧ pe.toInt ≤ 8) (b_wo : 0 ≤ wo.toInt ∧ wo.toInt ≤ 6) (rf : zZ4 f) : zM' g l yX9_gainOf (Cond.code yX9_gainOf cX9_gainOf 4 (some .int) :: zB) ({ frames := 0, cells := 0, slots := 0, locals := 0 } : Room) [.ref o, .int st0] [bTown g o a pe wo tx ch jo tr dy sd f] (fun (q : Int32) => some (.int q)) (fun (q : Int32) => True) (fun (q : Int32) => [bTown g o a pe wo tx ch jo tr dy sd f]) := by
  refine zM'.of (cc := cX9_gainOf) (maxL := 4) (rt := (some .int)) (by decide) rfl (Nat.le_of_ble_eq_true rfl) ?_
  intro p e s m args below meth c A ls St hr hlocks hin hK hT hA hP hD hS hl
  obtain ⟨hx, hb, hml, hown, hts⟩ := id St
  have hl : lv_has ls 4 [(0, .ref o), (1, .int st0)] := hl
  refine lv_iconst (v := 0) hx hb dX9_gainOf_0 (by decide) ?_
  refine lv_istore_n (lv' := [(2, .int 0), (0, .ref o), (1, .int st0)]) hx hb dX9_gainOf_1 rfl hl (by decide) rfl (fun ls hl => ?_)
  refine lv_iconst (v := 0) hx hb dX9_gainOf_2 (by decide) ?_
  refine lv_istore_n (lv' := [(3, .int 0), (2, .int 0), (0, .ref o), (1, .int st0)]) hx hb dX9_gainOf_3 rfl hl (by decide) rfl (fun ls hl => ?_)
  have hl := lv_sub (l' := [(0, .ref o), (1, .int st0), (2, .int 0), (3, .int 0)]) hl [2, 3, 1, 0] rfl
  have LP4_4 : ∀ (kf : Nat) (x_1 : Int32) (x_2 : Int32), (0 ≤ x_2.toInt ∧ x_2.toInt ≤ 6) → ∀ (H : Heap) (locs : List Loc) (ls : Array Slot), ((7 - x_2.toInt).toNat) < kf → va_P g.1 vwCl (List.flatten [bTown g o a pe wo tx ch jo tr dy sd f]) H → va_D A (List.flatten [bTown g o a pe wo tx ch jo tr dy sd f]) → va_S A s.heap H locs → lv_has ls 4 [(0, .ref o), (1, .int st0), (2, .int x_1), (3, .int x_2)] → W p l e ({ frames := 0, cells := 0, slots := 0, locals := 0 } : Room) s m args below meth c H locs (0) (0) (zF g (fun (q : Int32) => some (.int q)) (fun (q : Int32) => True) (fun (q : Int32) => [bTown g o a pe wo tx ch jo tr dy sd f]) ({ frames := 0, cells := 0, slots := 0, locals := 0 } : Room) below args s A) (F0 m 4 ls []) := by
    intro kf
    induction kf with
    | zero => intro x_1 x_2 i3 H locs ls hk; exact absurd hk (Nat.not_lt_zero _)
    | succ kf ih4_5 =>
      intro x_1 x_2 i3 H locs ls hk4_5 hP hD hS hl
      refine lv_iload_n hx hb dX9_gainOf_4 rfl (lv_at hl 3 rfl) ?_
      refine lv_aload_n hx hb dX9_gainOf_5 rfl (lv_at hl 0 rfl) ?_
      refine va_get (D := g.1) (ci := 7) (v := .int wo) (C := RX9) (T := TX9) (N := 19) hx hb hts izRX9 hown hK hP 0 rfl rfl 1 (by decide) (hts _ k32) (fun _ h9 => h9) rfl dX9_gainOf_6 ?_
      refine lv_icmp_ge (tgt := 35) hx hb dX9_gainOf_9 (by decide) (fun cb9 => ?_) (fun cb9 => ?_)
      · skip
        have c6 : wo.toInt ≤ x_2.toInt := zle cb9 rfl rfl
        refine lv_iload_n hx hb dX9_gainOf_35 rfl (lv_at hl 2 rfl) ?_
        have hP : va_P g.1 vwCl (List.flatten [bTown g o a pe wo tx ch jo tr dy sd f]) H := hP
        have hD : va_D A (List.flatten [bTown g o a pe wo tx ch jo tr dy sd f]) := hD
        exact mret_i hx hb hr hlocks hS (Nat.le_of_ble_eq_true rfl) (Nat.le_of_ble_eq_true rfl) dX9_gainOf_36 (x_1) rfl trivial hP hD
      · skip
        have c7 : x_2.toInt < wo.toInt := zlti (Int32.not_le.mp cb9) rfl rfl
        have n8 : x_2.toInt ≤ 5 := zL1 (b := 6) c7 b_wo.2 (by decide)
        have n9 : 1 ≤ wo.toInt := zL2 (a := 0) c7 i3.1 (by decide)
        refine lv_iload_n hx hb dX9_gainOf_12 rfl (lv_at hl 1 rfl) ?_
        refine lv_iload_n hx hb dX9_gainOf_13 rfl (lv_at hl 3 rfl) ?_
        refine lv_ishr hx hb dX9_gainOf_14 ?_
        refine zg (fun x_10 => ?_)
        refine lv_iconst (v := 1) hx hb dX9_gainOf_15 (by decide) ?_
        refine lv_iand hx hb dX9_gainOf_16 ?_
        refine zgb (zand1 _) (fun x_11 hx_11 => ?_)
        refine lv_if_eq (tgt := 29) hx hb dX9_gainOf_17 (by decide) (fun cb9 => ?_) (fun cb9 => ?_)
        · skip
          have c12 : x_11.toInt = 0 := zeq cb9 rfl (by decide)
          have n13 : x_11.toInt ≤ 0 := Int.le_trans (Int.le_of_eq c12) (Int.le_refl _)
          refine ziinc3 (n' := 1) (a' := 1) (b' := 6) (lv' := fun v9 => [(3, .int v9), (0, .ref o), (1, .int st0), (2, .int x_1)]) hx hb dX9_gainOf_29 hl (k := 3) rfl (by decide) (fun _ => rfl) (zaddK (i := x_2.toInt) (j := 1) rfl (by decide) i3.1 n8 (Int.le_refl _) (Int.le_refl _) (by decide)) (fun x_14 ls hx_14 hl => ?_)
          refine lv_goto (tgt := 4) hx hb dX9_gainOf_32 (by decide) ?_
          have hl := lv_sub (l' := [(0, .ref o), (1, .int st0), (2, .int x_1), (3, .int x_14)]) hl [1, 2, 3, 0] rfl
          have hP : va_P g.1 vwCl (List.flatten [bTown g o a pe wo tx ch jo tr dy sd f]) H := hP
          have hD : va_D A (List.flatten [bTown g o a pe wo tx ch jo tr dy sd f]) := hD
          exact ih4_5 x_1 x_14 ⟨(Int.le_trans (by decide) hx_14.2.1), hx_14.2.2⟩ H _ ls (zmK hx_14.1 (by decide) n8 (by decide) hk4_5)  hP hD hS (lv_sub hl [0, 1, 2, 3] rfl)
        · skip
          have c15 : ¬ x_11.toInt = 0 := zne cb9 rfl (by decide)
          have n16 : 1 ≤ x_11.toInt := zN1 c15 hx_11.1 (by decide)
          refine lv_iload_n hx hb dX9_gainOf_20 rfl (lv_at hl 2 rfl) ?_
          refine lv_aload_n hx hb dX9_gainOf_21 rfl (lv_at hl 0 rfl) ?_
          refine va_get (D := g.1) (ci := 7) (v := .ref (a 8)) (C := RX9) (T := TX9) (N := 19) hx hb hts izRX9 hown hK hP 0 rfl rfl 16 (by decide) (hts _ k18) (fun _ h9 => h9) rfl dX9_gainOf_22 ?_
          refine lv_iload_n hx hb dX9_gainOf_25 rfl (lv_at hl 3 rfl) ?_
          refine va_iald hx hb hK hP 9 0 rfl rfl (zinK (a := 0) (b := 5) i3.1 n8 (by decide)) dX9_gainOf_26 ?_
          refine zg (fun x_17 => ?_)
          refine lv_iadd hx hb dX9_gainOf_27 ?_
          refine zg (fun x_18 => ?_)
          refine lv_istore_n (lv' := [(2, .int x_18), (0, .ref o), (1, .int st0), (3, .int x_2)]) hx hb dX9_gainOf_28 rfl hl (by decide) rfl (fun ls hl => ?_)
          refine ziinc3 (n' := 1) (a' := 1) (b' := 6) (lv' := fun v9 => [(3, .int v9), (2, .int x_18), (0, .ref o), (1, .int st0)]) hx hb dX9_gainOf_29 hl (k := 3) rfl (by decide) (fun _ => rfl) (zaddK (i := x_2.toInt) (j := 1) rfl (by decide) i3.1 n8 (Int.le_refl _) (Int.le_refl _) (by decide)) (fun x_19 ls hx_19 hl => ?_)
          refine lv_goto (tgt := 4) hx hb dX9_gainOf_32 (by decide) ?_
          have hl := lv_sub (l' := [(0, .ref o), (1, .int st0), (2, .int x_18), (3, .int x_19)]) hl [2, 3, 1, 0] rfl
          have hP : va_P g.1 vwCl (List.flatten [bTown g o a pe wo tx ch jo tr dy sd f]) H := hP
          have hD : va_D A (List.flatten [bTown g o a pe wo tx ch jo tr dy sd f]) := hD
          exact ih4_5 x_18 x_19 ⟨(Int.le_trans (by decide) hx_19.2.1), hx_19.2.2⟩ H _ ls (zmK hx_19.1 (by decide) n8 (by decide) hk4_5)  hP hD hS (lv_sub hl [0, 1, 2, 3] rfl)
  have hP : va_P g.1 vwCl (List.flatten [bTown g o a pe wo tx ch jo tr dy sd f]) s.heap := hP
  have hD : va_D A (List.flatten [bTown g o a pe wo tx ch jo tr dy sd f]) := hD
  exact LP4_4 _ 0 0 (by decide) s.heap _ ls (Nat.lt_succ_self _)  hP hD hS (lv_sub hl [0, 1, 2, 3] rfl)
