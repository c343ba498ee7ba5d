set_option maxRecDepth 100000 in
set_option maxHeartbeats 4000000 in
theorem c_t_holdsSaid (l : Launch) (g : zG) (ta : Nat) (ab : Nat) (sz : Int32) (ln : Int32) (kd : Int32) (bg : Int32) (nx : Int32) (ft : Int32) (fb : Nat → Int32) (n : Int32) (pp : Int32) (b_n : 0 ≤ n.toInt ∧ n.toInt ≤ 36) : zM' g l yX6_holdsSaid (Cond.code yX6_holdsSaid cX6_holdsSaid 6 (some .boolean) :: zB) ({ frames := 0, cells := 0, slots := 0, locals := 0 } : Room) [.ref ta, .int n, .int pp] [bTape g ta ab sz ln kd bg nx ft fb] (fun (q : Int32) => some (.int q)) (fun (q : Int32) => (q = 0 ∨ q = 1)) (fun (q : Int32) => [bTape g ta ab sz ln kd bg nx ft fb]) := by
  refine zM'.of (cc := cX6_holdsSaid) (maxL := 6) (rt := (some .boolean)) (by decide) rfl (Nat.le_of_ble_eq_true rfl) ?_
  intro p e s m args below meth c A ls St hr hlocks hin hK hT hA hP hD hS hl
  obtain ⟨hx, hb, hml, hown, hts⟩ := id St
  have hl : lv_has ls 6 [(0, .ref ta), (1, .int n), (2, .int pp)] := hl
  refine lv_iload_n hx hb dX6_holdsSaid_0 rfl (lv_at hl 1 rfl) ?_
  refine lv_iconst (v := 3) hx hb dX6_holdsSaid_1 (by decide) ?_
  refine lv_irem hx hb dX6_holdsSaid_2 (by decide) ?_
  refine zgb (zrem (j := n.toInt) (d := 3) rfl (by decide) b_n.1 (by decide)) (fun x_1 hx_1 => ?_)
  refine lv_if_eq (tgt := 8) hx hb dX6_holdsSaid_3 (by decide) (fun cb9 => ?_) (fun cb9 => ?_)
  · skip
    have c2 : x_1.toInt = 0 := zeq cb9 rfl (by decide)
    have n3 : x_1.toInt ≤ 0 := Int.le_trans (Int.le_of_eq c2) (Int.le_refl _)
    refine lv_iconst (v := 0) hx hb dX6_holdsSaid_8 (by decide) ?_
    refine lv_istore_n (lv' := [(3, .int 0), (0, .ref ta), (1, .int n), (2, .int pp)]) hx hb dX6_holdsSaid_9 rfl hl (by decide) rfl (fun ls hl => ?_)
    have hl := lv_sub (l' := [(0, .ref ta), (1, .int n), (2, .int pp), (3, .int 0)]) hl [1, 2, 3, 0] rfl
    have LP10_6 : ∀ (kf : Nat) (x_4 : Int32), (0 ≤ x_4.toInt ∧ x_4.toInt ≤ 36) → ∀ (H : Heap) (locs : List Loc) (ls : Array Slot), ((37 - x_4.toInt).toNat) < kf → va_P g.1 vwCl (List.flatten [bTape g ta ab sz ln kd bg nx ft fb]) H → va_D A (List.flatten [bTape g ta ab sz ln kd bg nx ft fb]) → va_S A s.heap H locs → lv_has ls 6 [(0, .ref ta), (1, .int n), (2, .int pp), (3, .int x_4)] → W p l e ({ frames := 0, cells := 0, slots := 0, locals := 0 } : Room) s m args below meth c H locs (0) (0) (zF g (fun (q : Int32) => some (.int q)) (fun (q : Int32) => (q = 0 ∨ q = 1)) (fun (q : Int32) => [bTape g ta ab sz ln kd bg nx ft fb]) ({ frames := 0, cells := 0, slots := 0, locals := 0 } : Room) below args s A) (F0 m 10 ls []) := by
      intro kf
      induction kf with
      | zero => intro x_4 i5 H locs ls hk; exact absurd hk (Nat.not_lt_zero _)
      | succ kf ih10_7 =>
        intro x_4 i5 H locs ls hk10_7 hP hD hS hl
        refine lv_iload_n hx hb dX6_holdsSaid_10 rfl (lv_at hl 3 rfl) ?_
        refine lv_iconst (v := 2) hx hb dX6_holdsSaid_11 (by decide) ?_
        refine lv_iadd hx hb dX6_holdsSaid_12 ?_
        refine zg3 (zaddK (i := x_4.toInt) (j := 2) (a' := 2) (b' := 38) rfl (by decide) i5.1 i5.2 (Int.le_refl _) (Int.le_refl _) (by decide)) (fun x_8 hx_8 => ?_)
        refine lv_iload_n hx hb dX6_holdsSaid_13 rfl (lv_at hl 1 rfl) ?_
        refine lv_icmp_ge (tgt := 74) hx hb dX6_holdsSaid_14 (by decide) (fun cb9 => ?_) (fun cb9 => ?_)
        · skip
          have c9 : n.toInt ≤ x_8.toInt := zle cb9 rfl rfl
          refine lv_iconst (v := 1) hx hb dX6_holdsSaid_74 (by decide) ?_
          have hP : va_P g.1 vwCl (List.flatten [bTape g ta ab sz ln kd bg nx ft fb]) H := hP
          have hD : va_D A (List.flatten [bTape g ta ab sz ln kd bg nx ft fb]) := hD
          exact mret_z hx hb hr hlocks hS (Nat.le_of_ble_eq_true rfl) (Nat.le_of_ble_eq_true rfl) dX6_holdsSaid_75 ((1 : Int32)) rfl (by decide) (show (1 = 0 ∨ 1 = 1) from (by decide)) hP hD
        · skip
          have c10 : x_8.toInt < n.toInt := zlti (Int32.not_le.mp cb9) rfl rfl
          have n11 : x_8.toInt ≤ 35 := zL1 (b := 36) c10 b_n.2 (by decide)
          have n12 : 3 ≤ n.toInt := zL2 (a := 2) c10 hx_8.2.1 (by decide)
          refine lv_aload_n hx hb dX6_holdsSaid_17 rfl (lv_at hl 0 rfl) ?_
          refine va_get (D := g.1) (ci := 6) (v := .ref ab) (C := RX6) (T := TX6) (N := 7) hx hb hts izRX6 hown hK hP 0 rfl rfl 0 (by decide) (hts _ k261) (fun _ h9 => h9) rfl dX6_holdsSaid_18 ?_
          refine lv_iload_n hx hb dX6_holdsSaid_21 rfl (lv_at hl 3 rfl) ?_
          refine va_iald hx hb hK hP 1 0 rfl rfl (zinK (a := 0) (b := 36) i5.1 i5.2 (by decide)) dX6_holdsSaid_22 ?_
          refine zg (fun x_13 => ?_)
          refine lv_istore (lv' := [(4, .int x_13), (0, .ref ta), (1, .int n), (2, .int pp), (3, .int x_4)]) hx hb dX6_holdsSaid_23 hl (by decide) rfl (fun ls hl => ?_)
          refine lv_aload_n hx hb dX6_holdsSaid_25 rfl (lv_at hl 1 rfl) ?_
          refine va_get (D := g.1) (ci := 6) (v := .ref ab) (C := RX6) (T := TX6) (N := 7) hx hb hts izRX6 hown hK hP 0 rfl rfl 0 (by decide) (hts _ k261) (fun _ h9 => h9) rfl dX6_holdsSaid_26 ?_
          refine lv_iload_n hx hb dX6_holdsSaid_29 rfl (lv_at hl 4 rfl) ?_
          refine lv_iconst (v := 1) hx hb dX6_holdsSaid_30 (by decide) ?_
          refine lv_iadd hx hb dX6_holdsSaid_31 ?_
          refine zg3 (zaddK (i := x_4.toInt) (j := 1) (a' := 1) (b' := 37) rfl (by decide) i5.1 i5.2 (Int.le_refl _) (Int.le_refl _) (by decide)) (fun x_14 hx_14 => ?_)
          refine va_iald hx hb hK hP 1 0 rfl rfl (zinK (a := 1) (b := 37) hx_14.2.1 hx_14.2.2 (by decide)) dX6_holdsSaid_32 ?_
          refine zg (fun x_15 => ?_)
          refine lv_istore (lv' := [(5, .int x_15), (4, .int x_13), (0, .ref ta), (1, .int n), (2, .int pp), (3, .int x_4)]) hx hb dX6_holdsSaid_33 hl (by decide) rfl (fun ls hl => ?_)
          refine lv_iload hx hb dX6_holdsSaid_35 (lv_at hl 1 rfl) ?_
          refine lv_iload_n hx hb dX6_holdsSaid_37 rfl (lv_at hl 4 rfl) ?_
          refine lv_icmp_ge (tgt := 66) hx hb dX6_holdsSaid_38 (by decide) (fun cb9 => ?_) (fun cb9 => ?_)
          · skip
            have c16 : pp.toInt ≤ x_13.toInt := zle cb9 rfl rfl
            refine lv_iconst (v := 0) hx hb dX6_holdsSaid_66 (by decide) ?_
            have hP : va_P g.1 vwCl (List.flatten [bTape g ta ab sz ln kd bg nx ft fb]) H := hP
            have hD : va_D A (List.flatten [bTape g ta ab sz ln kd bg nx ft fb]) := hD
            exact mret_z hx hb hr hlocks hS (Nat.le_of_ble_eq_true rfl) (Nat.le_of_ble_eq_true rfl) dX6_holdsSaid_67 ((0 : Int32)) rfl (by decide) (show (0 = 0 ∨ 0 = 1) from (by decide)) hP hD
          · skip
            have c17 : x_13.toInt < pp.toInt := zlti (Int32.not_le.mp cb9) rfl rfl
            refine lv_iload hx hb dX6_holdsSaid_41 (lv_at hl 0 rfl) ?_
            refine lv_iload_n hx hb dX6_holdsSaid_43 rfl (lv_at hl 4 rfl) ?_
            refine lv_icmp_ge (tgt := 66) hx hb dX6_holdsSaid_44 (by decide) (fun cb9 => ?_) (fun cb9 => ?_)
            · skip
              have c18 : pp.toInt ≤ x_15.toInt := zle cb9 rfl rfl
              refine lv_iconst (v := 0) hx hb dX6_holdsSaid_66 (by decide) ?_
              have hP : va_P g.1 vwCl (List.flatten [bTape g ta ab sz ln kd bg nx ft fb]) H := hP
              have hD : va_D A (List.flatten [bTape g ta ab sz ln kd bg nx ft fb]) := hD
              exact mret_z hx hb hr hlocks hS (Nat.le_of_ble_eq_true rfl) (Nat.le_of_ble_eq_true rfl) dX6_holdsSaid_67 ((0 : Int32)) rfl (by decide) (show (0 = 0 ∨ 0 = 1) from (by decide)) hP hD
            · skip
              have c19 : x_15.toInt < pp.toInt := zlti (Int32.not_le.mp cb9) rfl rfl
              refine lv_iload hx hb dX6_holdsSaid_47 (lv_at hl 1 rfl) ?_
              refine lv_iload hx hb dX6_holdsSaid_49 (lv_at hl 0 rfl) ?_
              refine lv_icmp_eq (tgt := 66) hx hb dX6_holdsSaid_51 (by decide) (fun cb9 => ?_) (fun cb9 => ?_)
              · skip
                have c20 : x_13.toInt = x_15.toInt := zeq cb9 rfl rfl
                refine lv_iconst (v := 0) hx hb dX6_holdsSaid_66 (by decide) ?_
                have hP : va_P g.1 vwCl (List.flatten [bTape g ta ab sz ln kd bg nx ft fb]) H := hP
                have hD : va_D A (List.flatten [bTape g ta ab sz ln kd bg nx ft fb]) := hD
                exact mret_z hx hb hr hlocks hS (Nat.le_of_ble_eq_true rfl) (Nat.le_of_ble_eq_true rfl) dX6_holdsSaid_67 ((0 : Int32)) rfl (by decide) (show (0 = 0 ∨ 0 = 1) from (by decide)) hP hD
              · skip
                have c21 : ¬ x_13.toInt = x_15.toInt := zne cb9 rfl rfl
                refine lv_aload_n hx hb dX6_holdsSaid_54 rfl (lv_at hl 2 rfl) ?_
                refine va_get (D := g.1) (ci := 6) (v := .ref ab) (C := RX6) (T := TX6) (N := 7) hx hb hts izRX6 hown hK hP 0 rfl rfl 0 (by decide) (hts _ k261) (fun _ h9 => h9) rfl dX6_holdsSaid_55 ?_
                refine lv_iload_n hx hb dX6_holdsSaid_58 rfl (lv_at hl 5 rfl) ?_
                refine lv_iconst (v := 2) hx hb dX6_holdsSaid_59 (by decide) ?_
                refine lv_iadd hx hb dX6_holdsSaid_60 ?_
                refine zg3 (zaddK (i := x_4.toInt) (j := 2) (a' := 2) (b' := 38) rfl (by decide) i5.1 i5.2 (Int.le_refl _) (Int.le_refl _) (by decide)) (fun x_22 hx_22 => ?_)
                refine va_iald hx hb hK hP 1 0 rfl rfl (zinK (a := 2) (b := 38) hx_22.2.1 hx_22.2.2 (by decide)) dX6_holdsSaid_61 ?_
                refine zg (fun x_23 => ?_)
                refine lv_iconst (v := 1) hx hb dX6_holdsSaid_62 (by decide) ?_
                refine lv_icmp_le (tgt := 68) hx hb dX6_holdsSaid_63 (by decide) (fun cb9 => ?_) (fun cb9 => ?_)
                · skip
                  have c24 : x_23.toInt ≤ 1 := zle cb9 rfl (by decide)
                  have n25 : x_23.toInt ≤ 1 := Int.le_trans c24 (Int.le_refl _)
                  refine ziinc3 (n' := 3) (a' := 3) (b' := 39) (lv' := fun v9 => [(3, .int v9), (5, .int x_15), (4, .int x_13), (0, .ref ta), (1, .int n), (2, .int pp)]) hx hb dX6_holdsSaid_68 hl (k := 5) rfl (by decide) (fun _ => rfl) (zaddK (i := x_4.toInt) (j := 3) rfl (by decide) i5.1 i5.2 (Int.le_refl _) (Int.le_refl _) (by decide)) (fun x_26 ls hx_26 hl => ?_)
                  refine lv_goto (tgt := 10) hx hb dX6_holdsSaid_71 (by decide) ?_
                  have hl := lv_sub (l' := [(0, .ref ta), (1, .int n), (2, .int pp), (3, .int x_26), (4, .int x_13), (5, .int x_15)]) hl [3, 4, 5, 0, 2, 1] rfl
                  have hP : va_P g.1 vwCl (List.flatten [bTape g ta ab sz ln kd bg nx ft fb]) H := hP
                  have hD : va_D A (List.flatten [bTape g ta ab sz ln kd bg nx ft fb]) := hD
                  exact ih10_7 x_26 (by first | omega | assumption | decide) H _ ls (zmK hx_26.1 (by decide) i5.2 (by decide) hk10_7)  hP hD hS (lv_sub hl [0, 1, 2, 3] rfl)
                · skip
                  have c27 : 1 < x_23.toInt := zlti (Int32.not_le.mp cb9) (by decide) rfl
                  have n28 : 2 ≤ x_23.toInt := zL2 (a := 1) c27 (Int.le_refl _) (by decide)
                  refine lv_iconst (v := 0) hx hb dX6_holdsSaid_66 (by decide) ?_
                  have hP : va_P g.1 vwCl (List.flatten [bTape g ta ab sz ln kd bg nx ft fb]) H := hP
                  have hD : va_D A (List.flatten [bTape g ta ab sz ln kd bg nx ft fb]) := hD
                  exact mret_z hx hb hr hlocks hS (Nat.le_of_ble_eq_true rfl) (Nat.le_of_ble_eq_true rfl) dX6_holdsSaid_67 ((0 : Int32)) rfl (by decide) (show (0 = 0 ∨ 0 = 1) from (by decide)) hP hD
    have hP : va_P g.1 vwCl (List.flatten [bTape g ta ab sz ln kd bg nx ft fb]) s.heap := hP
    have hD : va_D A (List.flatten [bTape g ta ab sz ln kd bg nx ft fb]) := hD
    exact LP10_6 _ 0 (by decide) s.heap _ ls (Nat.lt_succ_self _)  hP hD hS (lv_sub hl [0, 1, 2, 3] rfl)
  · skip
    have c29 : ¬ x_1.toInt = 0 := zne cb9 rfl (by decide)
    have n30 : 1 ≤ x_1.toInt := zN1 c29 hx_1.1 (by decide)
    refine lv_iconst (v := 0) hx hb dX6_holdsSaid_6 (by decide) ?_
    have hP : va_P g.1 vwCl (List.flatten [bTape g ta ab sz ln kd bg nx ft fb]) s.heap := hP
    have hD : va_D A (List.flatten [bTape g ta ab sz ln kd bg nx ft fb]) := hD
    exact mret_z hx hb hr hlocks hS (Nat.le_of_ble_eq_true rfl) (Nat.le_of_ble_eq_true rfl) dX6_holdsSaid_7 ((0 : Int32)) rfl (by decide) (show (0 = 0 ∨ 0 = 1) from (by decide)) hP hD
