set_option maxRecDepth 100000 in
set_option maxHeartbeats 4000000 in
theorem c_t_useUp (l : Launch) (g : zG) (ta : Nat) (ab : Nat) (sz : Int32) (ln : Int32) (kd : Int32) (bg : Int32) (nx : Int32) (ft : Int32) (fb : Nat → Int32)  : zM' g l yX6_useUp (Cond.code yX6_useUp cX6_useUp 2 (some .int) :: zB) ({ frames := 0, cells := 0, slots := 0, locals := 0 } : Room) [.ref ta] [bTape g ta ab sz ln kd bg nx ft fb] (fun _ : Unit => some (.int sz)) (fun _ : Unit => True) (fun _ : Unit => [bTape g ta ab 0 ln kd bg nx ft fb]) := by
  refine zM'.of (cc := cX6_useUp) (maxL := 2) (rt := (some .int)) (by decide) rfl (Nat.le_of_ble_eq_true rfl) ?_
  intro p e s m args below meth c A ls St hr hlocks hin hK hT hA hP hD hS hl
  obtain ⟨hx, hb, hml, hown, hts⟩ := id St
  have hl : lv_has ls 2 [(0, .ref ta)] := hl
  refine lv_aload_n hx hb dX6_useUp_0 rfl (lv_at hl 0 rfl) ?_
  refine va_get (D := g.1) (ci := 6) (v := .int sz) (C := RX6) (T := TX6) (N := 7) hx hb hts izRX6 hown hK hP 0 rfl rfl 1 (by decide) (hts _ k423) (fun _ h9 => h9) rfl dX6_useUp_1 ?_
  refine lv_istore_n (lv' := [(1, .int sz), (0, .ref ta)]) hx hb dX6_useUp_4 rfl hl (by decide) rfl (fun ls hl => ?_)
  refine lv_aload_n hx hb dX6_useUp_5 rfl (lv_at hl 1 rfl) ?_
  refine lv_iconst (v := 0) hx hb dX6_useUp_6 (by decide) ?_
  refine va_put (D := g.1) (ci := 6) (v := .int 0) (ty := .int) (C := RX6) (T := TX6) (N := 7) hx hb hts izRX6 tyX6 tyX6_ok nmX6 hown hK hP hD hS 0 rfl rfl 1 (by decide) (hts _ k423) (fun _ h9 => h9) rfl (by decide +kernel) rfl rfl (Nat.le_of_ble_eq_true rfl) dX6_useUp_7 (fun H locs hP hD hS => ?_)
  have hP : va_P g.1 vwCl (List.flatten [bTape g ta ab 0 ln kd bg nx ft fb]) H := hP
  have hD : va_D A (List.flatten [bTape g ta ab 0 ln kd bg nx ft fb]) := hD
  refine lv_iload_n hx hb dX6_useUp_10 rfl (lv_at hl 0 rfl) ?_
  have hP : va_P g.1 vwCl (List.flatten [bTape g ta ab 0 ln kd bg nx ft fb]) H := hP
  have hD : va_D A (List.flatten [bTape g ta ab 0 ln kd bg nx ft fb]) := hD
  exact mret_i hx hb hr hlocks hS (Nat.le_of_ble_eq_true rfl) (Nat.le_of_ble_eq_true rfl) dX6_useUp_11 () rfl trivial hP hD
set_option maxRecDepth 100000 in
set_option maxHeartbeats 4000000 in
theorem c_t_holdsSaid (l : Launch) (g : zG) (ta : Nat) (ab : Nat) (sz : Int32) (ln : Int32) (kd : Int32) (bg : Int32) (nx : Int32) (ft : Int32) (fb : Nat → Int32) (n : Int32) (pp : Int32) (b_n : 0 ≤ n.toInt ∧ n.toInt ≤ 36) : zM' g l yX6_holdsSaid (Cond.code yX6_holdsSaid cX6_holdsSaid 6 (some .boolean) :: zB) ({ frames := 0, cells := 0, slots := 0, locals := 0 } : Room) [.ref ta, .int n, .int pp] [bTape g ta ab sz ln kd bg nx ft fb] (fun (q : Int32) => some (.int q)) (fun (q : Int32) => (q = 0 ∨ q = 1)) (fun (q : Int32) => [bTape g ta ab sz ln kd bg nx ft fb]) := by
  refine zM'.of (cc := cX6_holdsSaid) (maxL := 6) (rt := (some .boolean)) (by decide) rfl (Nat.le_of_ble_eq_true rfl) ?_
  intro p e s m args below meth c A ls St hr hlocks hin hK hT hA hP hD hS hl
  obtain ⟨hx, hb, hml, hown, hts⟩ := id St
  have hl : lv_has ls 6 [(0, .ref ta), (1, .int n), (2, .int pp)] := hl
  refine lv_iload_n hx hb dX6_holdsSaid_0 rfl (lv_at hl 1 rfl) ?_
  refine lv_iconst (v := 3) hx hb dX6_holdsSaid_1 (by decide) ?_
  refine lv_irem hx hb dX6_holdsSaid_2 (by decide) ?_
  refine zgb (zrem (j := n.toInt) (d := 3) rfl (by decide) b_n.1 (by decide)) (fun x_1 hx_1 => ?_)
  refine lv_if_eq (tgt := 8) hx hb dX6_holdsSaid_3 (by decide) (fun cb9 => ?_) (fun cb9 => ?_)
  · skip
    have c2 : x_1.toInt = 0 := zeq cb9 rfl (by decide)
    have n3 : x_1.toInt ≤ 0 := Int.le_trans (Int.le_of_eq c2) (Int.le_refl _)
    refine lv_iconst (v := 0) hx hb dX6_holdsSaid_8 (by decide) ?_
    refine lv_istore_n (lv' := [(3, .int 0), (0, .ref ta), (1, .int n), (2, .int pp)]) hx hb dX6_holdsSaid_9 rfl hl (by decide) rfl (fun ls hl => ?_)
    have hl := lv_sub (l' := [(0, .ref ta), (1, .int n), (2, .int pp), (3, .int 0)]) hl [1, 2, 3, 0] rfl
    have LP10_6 : ∀ (kf : Nat) (x_4 : Int32), (0 ≤ x_4.toInt ∧ x_4.toInt ≤ 36) → ∀ (H : Heap) (locs : List Loc) (ls : Array Slot), ((37 - x_4.toInt).toNat) < kf → va_P g.1 vwCl (List.flatten [bTape g ta ab sz ln kd bg nx ft fb]) H → va_D A (List.flatten [bTape g ta ab sz ln kd bg nx ft fb]) → va_S A s.heap H locs → lv_has ls 6 [(0, .ref ta), (1, .int n), (2, .int pp), (3, .int x_4)] → W p l e ({ frames := 0, cells := 0, slots := 0, locals := 0 } : Room) s m args below meth c H locs (0) (0) (zF g (fun (q : Int32) => some (.int q)) (fun (q : Int32) => (q = 0 ∨ q = 1)) (fun (q : Int32) => [bTape g ta ab sz ln kd bg nx ft fb]) ({ frames := 0, cells := 0, slots := 0, locals := 0 } : Room) below args s A) (F0 m 10 ls []) := by
      intro kf
      induction kf with
      | zero => intro x_4 i5 H locs ls hk; exact absurd hk (Nat.not_lt_zero _)
      | succ kf ih10_7 =>
        intro x_4 i5 H locs ls hk10_7 hP hD hS hl
        refine lv_iload_n hx hb dX6_holdsSaid_10 rfl (lv_at hl 3 rfl) ?_
        refine lv_iconst (v := 2) hx hb dX6_holdsSaid_11 (by decide) ?_
        refine lv_iadd hx hb dX6_holdsSaid_12 ?_
        refine zg3 (zaddK (i := x_4.toInt) (j := 2) (a' := 2) (b' := 38) rfl (by decide) i5.1 i5.2 (Int.le_refl _) (Int.le_refl _) (by decide)) (fun x_8 hx_8 => ?_)
        refine lv_iload_n hx hb dX6_holdsSaid_13 rfl (lv_at hl 1 rfl) ?_
        refine lv_icmp_ge (tgt := 74) hx hb dX6_holdsSaid_14 (by decide) (fun cb9 => ?_) (fun cb9 => ?_)
        · skip
          have c9 : n.toInt ≤ x_8.toInt := zle cb9 rfl rfl
          refine lv_iconst (v := 1) hx hb dX6_holdsSaid_74 (by decide) ?_
          have hP : va_P g.1 vwCl (List.flatten [bTape g ta ab sz ln kd bg nx ft fb]) H := hP
          have hD : va_D A (List.flatten [bTape g ta ab sz ln kd bg nx ft fb]) := hD
          exact mret_z hx hb hr hlocks hS (Nat.le_of_ble_eq_true rfl) (Nat.le_of_ble_eq_true rfl) dX6_holdsSaid_75 ((1 : Int32)) rfl (by decide) (show (1 = 0 ∨ 1 = 1) from (by decide)) hP hD
        · skip
          have c10 : x_8.toInt < n.toInt := zlti (Int32.not_le.mp cb9) rfl rfl
          have n11 : x_8.toInt ≤ 35 := zL1 (b := 36) c10 b_n.2 (by decide)
          have n12 : 3 ≤ n.toInt := zL2 (a := 2) c10 hx_8.2.1 (by decide)
          refine lv_aload_n hx hb dX6_holdsSaid_17 rfl (lv_at hl 0 rfl) ?_
          refine va_get (D := g.1) (ci := 6) (v := .ref ab) (C := RX6) (T := TX6) (N := 7) hx hb hts izRX6 hown hK hP 0 rfl rfl 0 (by decide) (hts _ k261) (fun _ h9 => h9) rfl dX6_holdsSaid_18 ?_
          refine lv_iload_n hx hb dX6_holdsSaid_21 rfl (lv_at hl 3 rfl) ?_
          refine va_iald hx hb hK hP 1 0 rfl rfl (zinK (a := 0) (b := 36) i5.1 i5.2 (by decide)) dX6_holdsSaid_22 ?_
          refine zg (fun x_13 => ?_)
          refine lv_istore (lv' := [(4, .int x_13), (0, .ref ta), (1, .int n), (2, .int pp), (3, .int x_4)]) hx hb dX6_holdsSaid_23 hl (by decide) rfl (fun ls hl => ?_)
          refine lv_aload_n hx hb dX6_holdsSaid_25 rfl (lv_at hl 1 rfl) ?_
          refine va_get (D := g.1) (ci := 6) (v := .ref ab) (C := RX6) (T := TX6) (N := 7) hx hb hts izRX6 hown hK hP 0 rfl rfl 0 (by decide) (hts _ k261) (fun _ h9 => h9) rfl dX6_holdsSaid_26 ?_
          refine lv_iload_n hx hb dX6_holdsSaid_29 rfl (lv_at hl 4 rfl) ?_
          refine lv_iconst (v := 1) hx hb dX6_holdsSaid_30 (by decide) ?_
          refine lv_iadd hx hb dX6_holdsSaid_31 ?_
          refine zg3 (zaddK (i := x_4.toInt) (j := 1) (a' := 1) (b' := 37) rfl (by decide) i5.1 i5.2 (Int.le_refl _) (Int.le_refl _) (by decide)) (fun x_14 hx_14 => ?_)
          refine va_iald hx hb hK hP 1 0 rfl rfl (zinK (a := 1) (b := 37) hx_14.2.1 hx_14.2.2 (by decide)) dX6_holdsSaid_32 ?_
          refine zg (fun x_15 => ?_)
          refine lv_istore (lv' := [(5, .int x_15), (4, .int x_13), (0, .ref ta), (1, .int n), (2, .int pp), (3, .int x_4)]) hx hb dX6_holdsSaid_33 hl (by decide) rfl (fun ls hl => ?_)
          refine lv_iload hx hb dX6_holdsSaid_35 (lv_at hl 1 rfl) ?_
          refine lv_iload_n hx hb dX6_holdsSaid_37 rfl (lv_at hl 4 rfl) ?_
          refine lv_icmp_ge (tgt := 66) hx hb dX6_holdsSaid_38 (by decide) (fun cb9 => ?_) (fun cb9 => ?_)
          · skip
            have c16 : pp.toInt ≤ x_13.toInt := zle cb9 rfl rfl
            refine lv_iconst (v := 0) hx hb dX6_holdsSaid_66 (by decide) ?_
            have hP : va_P g.1 vwCl (List.flatten [bTape g ta ab sz ln kd bg nx ft fb]) H := hP
            have hD : va_D A (List.flatten [bTape g ta ab sz ln kd bg nx ft fb]) := hD
            exact mret_z hx hb hr hlocks hS (Nat.le_of_ble_eq_true rfl) (Nat.le_of_ble_eq_true rfl) dX6_holdsSaid_67 ((0 : Int32)) rfl (by decide) (show (0 = 0 ∨ 0 = 1) from (by decide)) hP hD
          · skip
            have c17 : x_13.toInt < pp.toInt := zlti (Int32.not_le.mp cb9) rfl rfl
            refine lv_iload hx hb dX6_holdsSaid_41 (lv_at hl 0 rfl) ?_
            refine lv_iload_n hx hb dX6_holdsSaid_43 rfl (lv_at hl 4 rfl) ?_
            refine lv_icmp_ge (tgt := 66) hx hb dX6_holdsSaid_44 (by decide) (fun cb9 => ?_) (fun cb9 => ?_)
            · skip
              have c18 : pp.toInt ≤ x_15.toInt := zle cb9 rfl rfl
              refine lv_iconst (v := 0) hx hb dX6_holdsSaid_66 (by decide) ?_
              have hP : va_P g.1 vwCl (List.flatten [bTape g ta ab sz ln kd bg nx ft fb]) H := hP
              have hD : va_D A (List.flatten [bTape g ta ab sz ln kd bg nx ft fb]) := hD
              exact mret_z hx hb hr hlocks hS (Nat.le_of_ble_eq_true rfl) (Nat.le_of_ble_eq_true rfl) dX6_holdsSaid_67 ((0 : Int32)) rfl (by decide) (show (0 = 0 ∨ 0 = 1) from (by decide)) hP hD
            · skip
              have c19 : x_15.toInt < pp.toInt := zlti (Int32.not_le.mp cb9) rfl rfl
              refine lv_iload hx hb dX6_holdsSaid_47 (lv_at hl 1 rfl) ?_
              refine lv_iload hx hb dX6_holdsSaid_49 (lv_at hl 0 rfl) ?_
              refine lv_icmp_eq (tgt := 66) hx hb dX6_holdsSaid_51 (by decide) (fun cb9 => ?_) (fun cb9 => ?_)
              · skip
                have c20 : x_13.toInt = x_15.toInt := zeq cb9 rfl rfl
                refine lv_iconst (v := 0) hx hb dX6_holdsSaid_66 (by decide) ?_
                have hP : va_P g.1 vwCl (List.flatten [bTape g ta ab sz ln kd bg nx ft fb]) H := hP
                have hD : va_D A (List.flatten [bTape g ta ab sz ln kd bg nx ft fb]) := hD
                exact mret_z hx hb hr hlocks hS (Nat.le_of_ble_eq_true rfl) (Nat.le_of_ble_eq_true rfl) dX6_holdsSaid_67 ((0 : Int32)) rfl (by decide) (show (0 = 0 ∨ 0 = 1) from (by decide)) hP hD
              · skip
                have c21 : ¬ x_13.toInt = x_15.toInt := zne cb9 rfl rfl
                refine lv_aload_n hx hb dX6_holdsSaid_54 rfl (lv_at hl 2 rfl) ?_
                refine va_get (D := g.1) (ci := 6) (v := .ref ab) (C := RX6) (T := TX6) (N := 7) hx hb hts izRX6 hown hK hP 0 rfl rfl 0 (by decide) (hts _ k261) (fun _ h9 => h9) rfl dX6_holdsSaid_55 ?_
                refine lv_iload_n hx hb dX6_holdsSaid_58 rfl (lv_at hl 5 rfl) ?_
                refine lv_iconst (v := 2) hx hb dX6_holdsSaid_59 (by decide) ?_
                refine lv_iadd hx hb dX6_holdsSaid_60 ?_
                refine zg3 (zaddK (i := x_4.toInt) (j := 2) (a' := 2) (b' := 38) rfl (by decide) i5.1 i5.2 (Int.le_refl _) (Int.le_refl _) (by decide)) (fun x_22 hx_22 => ?_)
                refine va_iald hx hb hK hP 1 0 rfl rfl (zinK (a := 2) (b := 38) hx_22.2.1 hx_22.2.2 (by decide)) dX6_holdsSaid_61 ?_
                refine zg (fun x_23 => ?_)
                refine lv_iconst (v := 1) hx hb dX6_holdsSaid_62 (by decide) ?_
                refine lv_icmp_le (tgt := 68) hx hb dX6_holdsSaid_63 (by decide) (fun cb9 => ?_) (fun cb9 => ?_)
                · skip
                  have c24 : x_23.toInt ≤ 1 := zle cb9 rfl (by decide)
                  have n25 : x_23.toInt ≤ 1 := Int.le_trans c24 (Int.le_refl _)
                  refine ziinc3 (n' := 3) (a' := 3) (b' := 39) (lv' := fun v9 => [(3, .int v9), (5, .int x_15), (4, .int x_13), (0, .ref ta), (1, .int n), (2, .int pp)]) hx hb dX6_holdsSaid_68 hl (k := 5) rfl (by decide) (fun _ => rfl) (zaddK (i := x_4.toInt) (j := 3) rfl (by decide) i5.1 i5.2 (Int.le_refl _) (Int.le_refl _) (by decide)) (fun x_26 ls hx_26 hl => ?_)
                  refine lv_goto (tgt := 10) hx hb dX6_holdsSaid_71 (by decide) ?_
                  have hl := lv_sub (l' := [(0, .ref ta), (1, .int n), (2, .int pp), (3, .int x_26), (4, .int x_13), (5, .int x_15)]) hl [3, 4, 5, 0, 2, 1] rfl
                  have hP : va_P g.1 vwCl (List.flatten [bTape g ta ab sz ln kd bg nx ft fb]) H := hP
                  have hD : va_D A (List.flatten [bTape g ta ab sz ln kd bg nx ft fb]) := hD
                  exact ih10_7 x_26 (by first | omega | assumption | decide) H _ ls (zmK hx_26.1 (by decide) i5.2 (by decide) hk10_7)  hP hD hS (lv_sub hl [0, 1, 2, 3] rfl)
                · skip
                  have c27 : 1 < x_23.toInt := zlti (Int32.not_le.mp cb9) (by decide) rfl
                  have n28 : 2 ≤ x_23.toInt := zL2 (a := 1) c27 (Int.le_refl _) (by decide)
                  refine lv_iconst (v := 0) hx hb dX6_holdsSaid_66 (by decide) ?_
                  have hP : va_P g.1 vwCl (List.flatten [bTape g ta ab sz ln kd bg nx ft fb]) H := hP
                  have hD : va_D A (List.flatten [bTape g ta ab sz ln kd bg nx ft fb]) := hD
                  exact mret_z hx hb hr hlocks hS (Nat.le_of_ble_eq_true rfl) (Nat.le_of_ble_eq_true rfl) dX6_holdsSaid_67 ((0 : Int32)) rfl (by decide) (show (0 = 0 ∨ 0 = 1) from (by decide)) hP hD
    have hP : va_P g.1 vwCl (List.flatten [bTape g ta ab sz ln kd bg nx ft fb]) s.heap := hP
    have hD : va_D A (List.flatten [bTape g ta ab sz ln kd bg nx ft fb]) := hD
    exact LP10_6 _ 0 (by decide) s.heap _ ls (Nat.lt_succ_self _)  hP hD hS (lv_sub hl [0, 1, 2, 3] rfl)
  · skip
    have c29 : ¬ x_1.toInt = 0 := zne cb9 rfl (by decide)
    have n30 : 1 ≤ x_1.toInt := zN1 c29 hx_1.1 (by decide)
    refine lv_iconst (v := 0) hx hb dX6_holdsSaid_6 (by decide) ?_
    have hP : va_P g.1 vwCl (List.flatten [bTape g ta ab sz ln kd bg nx ft fb]) s.heap := hP
    have hD : va_D A (List.flatten [bTape g ta ab sz ln kd bg nx ft fb]) := hD
    exact mret_z hx hb hr hlocks hS (Nat.le_of_ble_eq_true rfl) (Nat.le_of_ble_eq_true rfl) dX6_holdsSaid_7 ((0 : Int32)) rfl (by decide) (show (0 = 0 ∨ 0 = 1) from (by decide)) hP hD
set_option maxRecDepth 100000 in
set_option maxHeartbeats 4000000 in
theorem c_l_clear (l : Launch) (g : zG) (lo : Nat) (lc : Nat) (lz : Int32) (ll : Int32) (lm : Int32) (lg : Int32) (ld : Int32) (fc : Nat → Int32)  : zM' g l yX1_clear (Cond.code yX1_clear cX1_clear 1 none :: zB) ({ frames := 0, cells := 0, slots := 0, locals := 0 } : Room) [.ref lo] [bLaw g lo lc lz ll lm lg ld fc] (fun _ : Unit => none) (fun _ : Unit => True) (fun _ : Unit => [bLaw g lo lc 0 (-1) lm lg ld fc]) := by
  refine zM'.of (cc := cX1_clear) (maxL := 1) (rt := none) (by decide) rfl (Nat.le_of_ble_eq_true rfl) ?_
  intro p e s m args below meth c A ls St hr hlocks hin hK hT hA hP hD hS hl
  obtain ⟨hx, hb, hml, hown, hts⟩ := id St
  have hl : lv_has ls 1 [(0, .ref lo)] := hl
  refine lv_aload_n hx hb dX1_clear_0 rfl (lv_at hl 0 rfl) ?_
  refine lv_iconst (v := 0) hx hb dX1_clear_1 (by decide) ?_
  refine va_put (D := g.1) (ci := 1) (v := .int 0) (ty := .int) (C := RX1) (T := TX1) (N := 6) hx hb hts izRX1 tyX1 tyX1_ok nmX1 hown hK hP hD hS 0 rfl rfl 1 (by decide) (hts _ k100) (fun _ h9 => h9) rfl (by decide +kernel) rfl rfl (Nat.le_of_ble_eq_true rfl) dX1_clear_2 (fun H locs hP hD hS => ?_)
  have hP : va_P g.1 vwCl (List.flatten [bLaw g lo lc 0 ll lm lg ld fc]) H := hP
  have hD : va_D A (List.flatten [bLaw g lo lc 0 ll lm lg ld fc]) := hD
  refine lv_aload_n hx hb dX1_clear_5 rfl (lv_at hl 0 rfl) ?_
  refine lv_iconst (v := (-1)) hx hb dX1_clear_6 (by decide) ?_
  refine va_put (D := g.1) (ci := 1) (v := .int (-1)) (ty := .int) (C := RX1) (T := TX1) (N := 6) hx hb hts izRX1 tyX1 tyX1_ok nmX1 hown hK hP hD hS 0 rfl rfl 2 (by decide) (hts _ k98) (fun _ h9 => h9) rfl (by decide +kernel) rfl rfl (Nat.le_of_ble_eq_true rfl) dX1_clear_7 (fun H locs hP hD hS => ?_)
  have hP : va_P g.1 vwCl (List.flatten [bLaw g lo lc 0 (-1) lm lg ld fc]) H := hP
  have hD : va_D A (List.flatten [bLaw g lo lc 0 (-1) lm lg ld fc]) := hD
  have hP : va_P g.1 vwCl (List.flatten [bLaw g lo lc 0 (-1) lm lg ld fc]) H := hP
  have hD : va_D A (List.flatten [bLaw g lo lc 0 (-1) lm lg ld fc]) := hD
  exact mret_v hx hb hr hlocks hS (Nat.le_of_ble_eq_true rfl) (Nat.le_of_ble_eq_true rfl) dX1_clear_10 () rfl trivial hP hD
set_option maxRecDepth 100000 in
set_option maxHeartbeats 4000000 in
theorem c_l_look (l : Launch) (g : zG) (lo : Nat) (lc : Nat) (lz : Int32) (ll : Int32) (lm : Int32) (lg : Int32) (ld : Int32) (fc : Nat → Int32) (x1 : Int32) (y1 : Int32) (z1 : Int32)  : zM' g l yX1_look (Cond.code yX1_look cX1_look 4 none :: zB) ({ frames := 0, cells := 0, slots := 0, locals := 0 } : Room) [.ref lo, .int x1, .int y1, .int z1] [bLaw g lo lc lz ll lm lg ld fc] (fun _ : Unit => none) (fun _ : Unit => True) (fun _ : Unit => [bLaw g lo lc lz ll x1 y1 z1 fc]) := by
  refine zM'.of (cc := cX1_look) (maxL := 4) (rt := none) (by decide) rfl (Nat.le_of_ble_eq_true rfl) ?_
  intro p e s m args below meth c A ls St hr hlocks hin hK hT hA hP hD hS hl
  obtain ⟨hx, hb, hml, hown, hts⟩ := id St
  have hl : lv_has ls 4 [(0, .ref lo), (1, .int x1), (2, .int y1), (3, .int z1)] := hl
  refine lv_aload_n hx hb dX1_look_0 rfl (lv_at hl 0 rfl) ?_
  refine lv_iload_n hx hb dX1_look_1 rfl (lv_at hl 1 rfl) ?_
  refine va_put (D := g.1) (ci := 1) (v := .int x1) (ty := .int) (C := RX1) (T := TX1) (N := 6) hx hb hts izRX1 tyX1 tyX1_ok nmX1 hown hK hP hD hS 0 rfl rfl 3 (by decide) (hts _ k73) (fun _ h9 => h9) rfl (by decide +kernel) rfl rfl (Nat.le_of_ble_eq_true rfl) dX1_look_2 (fun H locs hP hD hS => ?_)
  have hP : va_P g.1 vwCl (List.flatten [bLaw g lo lc lz ll x1 lg ld fc]) H := hP
  have hD : va_D A (List.flatten [bLaw g lo lc lz ll x1 lg ld fc]) := hD
  refine lv_aload_n hx hb dX1_look_5 rfl (lv_at hl 0 rfl) ?_
  refine lv_iload_n hx hb dX1_look_6 rfl (lv_at hl 2 rfl) ?_
  refine va_put (D := g.1) (ci := 1) (v := .int y1) (ty := .int) (C := RX1) (T := TX1) (N := 6) hx hb hts izRX1 tyX1 tyX1_ok nmX1 hown hK hP hD hS 0 rfl rfl 4 (by decide) (hts _ k74) (fun _ h9 => h9) rfl (by decide +kernel) rfl rfl (Nat.le_of_ble_eq_true rfl) dX1_look_7 (fun H locs hP hD hS => ?_)
  have hP : va_P g.1 vwCl (List.flatten [bLaw g lo lc lz ll x1 y1 ld fc]) H := hP
  have hD : va_D A (List.flatten [bLaw g lo lc lz ll x1 y1 ld fc]) := hD
  refine lv_aload_n hx hb dX1_look_10 rfl (lv_at hl 0 rfl) ?_
  refine lv_iload_n hx hb dX1_look_11 rfl (lv_at hl 3 rfl) ?_
  refine va_put (D := g.1) (ci := 1) (v := .int z1) (ty := .int) (C := RX1) (T := TX1) (N := 6) hx hb hts izRX1 tyX1 tyX1_ok nmX1 hown hK hP hD hS 0 rfl rfl 5 (by decide) (hts _ k75) (fun _ h9 => h9) rfl (by decide +kernel) rfl rfl (Nat.le_of_ble_eq_true rfl) dX1_look_12 (fun H locs hP hD hS => ?_)
  have hP : va_P g.1 vwCl (List.flatten [bLaw g lo lc lz ll x1 y1 z1 fc]) H := hP
  have hD : va_D A (List.flatten [bLaw g lo lc lz ll x1 y1 z1 fc]) := hD
  have hP : va_P g.1 vwCl (List.flatten [bLaw g lo lc lz ll x1 y1 z1 fc]) H := hP
  have hD : va_D A (List.flatten [bLaw g lo lc lz ll x1 y1 z1 fc]) := hD
  exact mret_v hx hb hr hlocks hS (Nat.le_of_ble_eq_true rfl) (Nat.le_of_ble_eq_true rfl) dX1_look_15 () rfl trivial hP hD
set_option maxRecDepth 100000 in
set_option maxHeartbeats 4000000 in
theorem c_l_partOf (l : Launch) (g : zG) (lo : Nat) (lc : Nat) (lz : Int32) (ll : Int32) (lm : Int32) (lg : Int32) (ld : Int32) (fc : Nat → Int32) (o : Nat) (a : Nat → Nat) (pe : Int32) (wo : Int32) (tx : Int32) (ch : Int32) (jo : Int32) (tr : Int32) (dy : Int32) (sd : Int32) (f : Nat → Nat → Int32) (x1 : Int32) (kn : Int32) (b_pe : 0 ≤ pe.toInt ∧ pe.toInt ≤ 8) (b_wo : 0 ≤ wo.toInt ∧ wo.toInt ≤ 6) (rf : zZ4 f) (b_x1 : 0 ≤ x1.toInt ∧ x1.toInt ≤ 7) : zM' g l yX1_partOf (Cond.code yX1_partOf cX1_partOf 4 (some .int) :: zB) ({ frames := 1, cells := 0, slots := 0, locals := 23 } : Room) [.ref lo, .ref o, .int x1, .int kn] [bLaw g lo lc lz ll lm lg ld fc, bTown g o a pe wo tx ch jo tr dy sd f] (fun (q : Int32) => some (.int q)) (fun (q : Int32) => True) (fun (q : Int32) => [bLaw g lo lc lz ll lm lg ld fc, bTown g o a pe wo tx ch jo tr dy sd f]) := by
  refine zM'.of (cc := cX1_partOf) (maxL := 4) (rt := (some .int)) (by decide) rfl (Nat.le_of_ble_eq_true rfl) ?_
  intro p e s m args below meth c A ls St hr hlocks hin hK hT hA hP hD hS hl
  obtain ⟨hx, hb, hml, hown, hts⟩ := id St
  have hl : lv_has ls 4 [(0, .ref lo), (1, .ref o), (2, .int x1), (3, .int kn)] := hl
  refine lv_iload_n hx hb dX1_partOf_0 rfl (lv_at hl 3 rfl) ?_
  by_cases hsw1 : kn = 1
  · subst hsw1
    refine lv_tableIn (x := 1) (off := 35) (tgt := 36) hx hb dX1_partOf_1 (by decide) (by decide) rfl (by decide) ?_
    refine lv_iload_n hx hb dX1_partOf_36 rfl (lv_at hl 2 rfl) ?_
    have hP : va_P g.1 vwCl (List.flatten [bLaw g lo lc lz ll lm lg ld fc, bTown g o a pe wo tx ch jo tr dy sd f]) s.heap := hP
    have hD : va_D A (List.flatten [bLaw g lo lc lz ll lm lg ld fc, bTown g o a pe wo tx ch jo tr dy sd f]) := hD
    exact mret_i hx hb hr hlocks hS (Nat.le_of_ble_eq_true rfl) (Nat.le_of_ble_eq_true rfl) dX1_partOf_37 (x1) rfl trivial hP hD
  by_cases hsw2 : kn = 2
  · subst hsw2
    refine lv_tableIn (x := 2) (off := 37) (tgt := 38) hx hb dX1_partOf_1 (by decide) (by decide) rfl (by decide) ?_
    refine lv_aload_n hx hb dX1_partOf_38 rfl (lv_at hl 1 rfl) ?_
    refine va_get (D := g.1) (ci := 7) (v := .ref (a 0)) (C := RX9) (T := TX9) (N := 19) hx hb hts izRX9 hown hK hP 2 rfl rfl 8 (by decide) (hts _ k94) (fun _ h9 => h9) rfl dX1_partOf_39 ?_
    refine lv_iload_n hx hb dX1_partOf_42 rfl (lv_at hl 2 rfl) ?_
    refine va_iald hx hb hK hP 3 0 rfl rfl (zinK (a := 0) (b := 7) b_x1.1 b_x1.2 (by decide)) dX1_partOf_43 ?_
    refine zg (fun x_1 => ?_)
    have hP : va_P g.1 vwCl (List.flatten [bLaw g lo lc lz ll lm lg ld fc, bTown g o a pe wo tx ch jo tr dy sd f]) s.heap := hP
    have hD : va_D A (List.flatten [bLaw g lo lc lz ll lm lg ld fc, bTown g o a pe wo tx ch jo tr dy sd f]) := hD
    exact mret_i hx hb hr hlocks hS (Nat.le_of_ble_eq_true rfl) (Nat.le_of_ble_eq_true rfl) dX1_partOf_44 (x_1) rfl trivial hP hD
  by_cases hsw3 : kn = 3
  · subst hsw3
    refine lv_tableIn (x := 3) (off := 44) (tgt := 45) hx hb dX1_partOf_1 (by decide) (by decide) rfl (by decide) ?_
    refine lv_aload_n hx hb dX1_partOf_45 rfl (lv_at hl 0 rfl) ?_
    refine va_get (D := g.1) (ci := 1) (v := .int lm) (C := RX1) (T := TX1) (N := 6) hx hb hts izRX1 hown hK hP 0 rfl rfl 3 (by decide) (hts _ k73) (fun _ h9 => h9) rfl dX1_partOf_46 ?_
    have hP : va_P g.1 vwCl (List.flatten [bLaw g lo lc lz ll lm lg ld fc, bTown g o a pe wo tx ch jo tr dy sd f]) s.heap := hP
    have hD : va_D A (List.flatten [bLaw g lo lc lz ll lm lg ld fc, bTown g o a pe wo tx ch jo tr dy sd f]) := hD
    exact mret_i hx hb hr hlocks hS (Nat.le_of_ble_eq_true rfl) (Nat.le_of_ble_eq_true rfl) dX1_partOf_49 (lm) rfl trivial hP hD
  by_cases hsw4 : kn = 4
  · subst hsw4
    refine lv_tableIn (x := 4) (off := 49) (tgt := 50) hx hb dX1_partOf_1 (by decide) (by decide) rfl (by decide) ?_
    refine lv_aload_n hx hb dX1_partOf_50 rfl (lv_at hl 0 rfl) ?_
    refine va_get (D := g.1) (ci := 1) (v := .int lg) (C := RX1) (T := TX1) (N := 6) hx hb hts izRX1 hown hK hP 0 rfl rfl 4 (by decide) (hts _ k74) (fun _ h9 => h9) rfl dX1_partOf_51 ?_
    have hP : va_P g.1 vwCl (List.flatten [bLaw g lo lc lz ll lm lg ld fc, bTown g o a pe wo tx ch jo tr dy sd f]) s.heap := hP
    have hD : va_D A (List.flatten [bLaw g lo lc lz ll lm lg ld fc, bTown g o a pe wo tx ch jo tr dy sd f]) := hD
    exact mret_i hx hb hr hlocks hS (Nat.le_of_ble_eq_true rfl) (Nat.le_of_ble_eq_true rfl) dX1_partOf_54 (lg) rfl trivial hP hD
  by_cases hsw5 : kn = 5
  · subst hsw5
    refine lv_tableIn (x := 5) (off := 54) (tgt := 55) hx hb dX1_partOf_1 (by decide) (by decide) rfl (by decide) ?_
    refine lv_aload_n hx hb dX1_partOf_55 rfl (lv_at hl 1 rfl) ?_
    refine lv_iload_n hx hb dX1_partOf_56 rfl (lv_at hl 2 rfl) ?_
    refine mcallV' (g := g) (q0 := 0) (ci := 7) (As := [.int x1]) (rest := []) St hK hT hA hP hD hS hl.1 [1] [0] rfl rfl rfl (c_tiesOf l g o a pe wo tx ch jo tr dy sd f x1 b_pe b_wo rf b_x1) (cwV 1 hts (zgL (zl4 k95 k96 k97 k24) k92) rfl rfl rfl (by decide +kernel) ⟨Nat.le_of_ble_eq_true rfl, Nat.le_of_ble_eq_true rfl⟩) rfl rfl rfl rfl (Nat.le_of_ble_eq_true rfl) dX1_partOf_57 ⟨(Nat.le_of_ble_eq_true rfl), (Nat.le_of_ble_eq_true rfl)⟩ (fun q_2 H locs hq3 hP hD hS => ?_)
    have hP : va_P g.1 vwCl (List.flatten [bLaw g lo lc lz ll lm lg ld fc, bTown g o a pe wo tx ch jo tr dy sd f]) H := hP
    have hD : va_D A (List.flatten [bLaw g lo lc lz ll lm lg ld fc, bTown g o a pe wo tx ch jo tr dy sd f]) := hD
    refine W.widen (k := 0) (n := 0) (Nat.le_of_ble_eq_true rfl) (Nat.le_of_ble_eq_true rfl) ?_
    refine W.eq (g2 := F0 m 60 ls [.int q_2]) rfl ?_
    have hP : va_P g.1 vwCl (List.flatten [bLaw g lo lc lz ll lm lg ld fc, bTown g o a pe wo tx ch jo tr dy sd f]) H := hP
    have hD : va_D A (List.flatten [bLaw g lo lc lz ll lm lg ld fc, bTown g o a pe wo tx ch jo tr dy sd f]) := hD
    exact mret_i hx hb hr hlocks hS (Nat.le_of_ble_eq_true rfl) (Nat.le_of_ble_eq_true rfl) dX1_partOf_60 (q_2) rfl trivial hP hD
  refine lv_tableOut (tgt := 61) hx hb dX1_partOf_1 (by have := lv_neT hsw1 (show Int32.toInt 1 = 1 from by decide); have := lv_neT hsw2 (show Int32.toInt 2 = 2 from by decide); have := lv_neT hsw3 (show Int32.toInt 3 = 3 from by decide); have := lv_neT hsw4 (show Int32.toInt 4 = 4 from by decide); have := lv_neT hsw5 (show Int32.toInt 5 = 5 from by decide); omega) (by decide) ?_
  refine lv_aload_n hx hb dX1_partOf_61 rfl (lv_at hl 0 rfl) ?_
  refine va_get (D := g.1) (ci := 1) (v := .int ld) (C := RX1) (T := TX1) (N := 6) hx hb hts izRX1 hown hK hP 0 rfl rfl 5 (by decide) (hts _ k75) (fun _ h9 => h9) rfl dX1_partOf_62 ?_
  have hP : va_P g.1 vwCl (List.flatten [bLaw g lo lc lz ll lm lg ld fc, bTown g o a pe wo tx ch jo tr dy sd f]) s.heap := hP
  have hD : va_D A (List.flatten [bLaw g lo lc lz ll lm lg ld fc, bTown g o a pe wo tx ch jo tr dy sd f]) := hD
  exact mret_i hx hb hr hlocks hS (Nat.le_of_ble_eq_true rfl) (Nat.le_of_ble_eq_true rfl) dX1_partOf_65 (ld) rfl trivial hP hD
set_option maxRecDepth 100000 in
set_option maxHeartbeats 4000000 in
theorem c_l_turnsOf (l : Launch) (g : zG) (lo : Nat) (lc : Nat) (lz : Int32) (ll : Int32) (lm : Int32) (lg : Int32) (ld : Int32) (fc : Nat → Int32) (o : Nat) (a : Nat → Nat) (pe : Int32) (wo : Int32) (tx : Int32) (ch : Int32) (jo : Int32) (tr : Int32) (dy : Int32) (sd : Int32) (f : Nat → Nat → Int32) (x1 : Int32) (b_lz : 0 ≤ lz.toInt ∧ lz.toInt ≤ 400) (b_pe : 0 ≤ pe.toInt ∧ pe.toInt ≤ 8) (b_wo : 0 ≤ wo.toInt ∧ wo.toInt ≤ 6) (rf : zZ4 f) (b_x1 : 0 ≤ x1.toInt ∧ x1.toInt ≤ 7) : zM' g l yX1_turnsOf (Cond.code yX1_turnsOf cX1_turnsOf 10 (some .int) :: zB) ({ frames := 2, cells := 0, slots := 0, locals := 46 } : Room) [.ref lo, .ref o, .int x1] [bLaw g lo lc lz ll lm lg ld fc, bTown g o a pe wo tx ch jo tr dy sd f] (fun (q : Int32) => some (.int q)) (fun (q : Int32) => True) (fun (q : Int32) => [bLaw g lo lc lz ll lm lg ld fc, bTown g o a pe wo tx ch jo tr dy sd f]) := by
  refine zM'.of (cc := cX1_turnsOf) (maxL := 10) (rt := (some .int)) (by decide) rfl (Nat.le_of_ble_eq_true rfl) ?_
  intro p e s m args below meth c A ls St hr hlocks hin hK hT hA hP hD hS hl
  obtain ⟨hx, hb, hml, hown, hts⟩ := id St
  have hl : lv_has ls 10 [(0, .ref lo), (1, .ref o), (2, .int x1)] := hl
  refine lv_aload_n hx hb dX1_turnsOf_0 rfl (lv_at hl 0 rfl) ?_
  refine va_get (D := g.1) (ci := 1) (v := .int ll) (C := RX1) (T := TX1) (N := 6) hx hb hts izRX1 hown hK hP 0 rfl rfl 2 (by decide) (hts _ k98) (fun _ h9 => h9) rfl dX1_turnsOf_1 ?_
  refine lv_iconst (v := (-1)) hx hb dX1_turnsOf_4 (by decide) ?_
  refine lv_icmp_ne (tgt := 23) hx hb dX1_turnsOf_5 (by decide) (fun cb9 => ?_) (fun cb9 => ?_)
  · skip
    have c1 : ¬ ll.toInt = (-1) := zne cb9 rfl (by decide)
    refine lv_iconst (v := 0) hx hb dX1_turnsOf_23 (by decide) ?_
    refine lv_istore_n (lv' := [(3, .int 0), (0, .ref lo), (1, .ref o), (2, .int x1)]) hx hb dX1_turnsOf_24 rfl hl (by decide) rfl (fun ls hl => ?_)
    refine lv_iconst (v := 0) hx hb dX1_turnsOf_25 (by decide) ?_
    refine lv_istore (lv' := [(4, .int 0), (3, .int 0), (0, .ref lo), (1, .ref o), (2, .int x1)]) hx hb dX1_turnsOf_26 hl (by decide) rfl (fun ls hl => ?_)
    refine lv_iconst (v := 0) hx hb dX1_turnsOf_28 (by decide) ?_
    refine lv_istore (lv' := [(5, .int 0), (4, .int 0), (3, .int 0), (0, .ref lo), (1, .ref o), (2, .int x1)]) hx hb dX1_turnsOf_29 hl (by decide) rfl (fun ls hl => ?_)
    refine lv_iconst (v := 1) hx hb dX1_turnsOf_31 (by decide) ?_
    refine lv_istore (lv' := [(6, .int 1), (5, .int 0), (4, .int 0), (3, .int 0), (0, .ref lo), (1, .ref o), (2, .int x1)]) hx hb dX1_turnsOf_32 hl (by decide) rfl (fun ls hl => ?_)
    refine lv_iconst (v := 0) hx hb dX1_turnsOf_34 (by decide) ?_
    refine lv_istore (lv' := [(7, .int 0), (6, .int 1), (5, .int 0), (4, .int 0), (3, .int 0), (0, .ref lo), (1, .ref o), (2, .int x1)]) hx hb dX1_turnsOf_35 hl (by decide) rfl (fun ls hl => ?_)
    have hl := lv_sub (l' := [(0, .ref lo), (1, .ref o), (2, .int x1), (3, .int 0), (4, .int 0), (5, .int 0), (6, .int 1), (7, .int 0)]) hl [5, 6, 7, 4, 3, 2, 1, 0] rfl
    have LP37_8 : ∀ (kf : Nat) (x_2 : Int32) (x_3 : Int32) (x_4 : Int32) (x_5 : Int32) (x_6 : Int32), (0 ≤ x_6.toInt ∧ x_6.toInt ≤ 67108864) → ∀ (H : Heap) (locs : List Loc) (ls : Array Slot), ((67108865 - x_6.toInt).toNat) < kf → va_P g.1 vwCl (List.flatten [bLaw g lo lc lz ll lm lg ld fc, bTown g o a pe wo tx ch jo tr dy sd f]) H → va_D A (List.flatten [bLaw g lo lc lz ll lm lg ld fc, bTown g o a pe wo tx ch jo tr dy sd f]) → va_S A s.heap H locs → lv_has ls 10 [(0, .ref lo), (1, .ref o), (2, .int x1), (3, .int x_2), (4, .int x_3), (5, .int x_4), (6, .int x_5), (7, .int x_6)] → W p l e ({ frames := 2, cells := 0, slots := 0, locals := 46 } : Room) s m args below meth c H locs (0) (0) (zF g (fun (q : Int32) => some (.int q)) (fun (q : Int32) => True) (fun (q : Int32) => [bLaw g lo lc lz ll lm lg ld fc, bTown g o a pe wo tx ch jo tr dy sd f]) ({ frames := 2, cells := 0, slots := 0, locals := 46 } : Room) below args s A) (F0 m 37 ls []) := by
      intro kf
      induction kf with
      | zero => intro x_2 x_3 x_4 x_5 x_6 i7 H locs ls hk; exact absurd hk (Nat.not_lt_zero _)
      | succ kf ih37_9 =>
        intro x_2 x_3 x_4 x_5 x_6 i7 H locs ls hk37_9 hP hD hS hl
        refine lv_iload hx hb dX1_turnsOf_37 (lv_at hl 7 rfl) ?_
        refine lv_aload_n hx hb dX1_turnsOf_39 rfl (lv_at hl 0 rfl) ?_
        refine va_get (D := g.1) (ci := 1) (v := .int lz) (C := RX1) (T := TX1) (N := 6) hx hb hts izRX1 hown hK hP 0 rfl rfl 1 (by decide) (hts _ k100) (fun _ h9 => h9) rfl dX1_turnsOf_40 ?_
        refine lv_icmp_ge (tgt := 368) hx hb dX1_turnsOf_43 (by decide) (fun cb9 => ?_) (fun cb9 => ?_)
        · skip
          have c10 : lz.toInt ≤ x_6.toInt := zle cb9 rfl rfl
          refine lv_iload_n hx hb dX1_turnsOf_368 rfl (lv_at hl 3 rfl) ?_
          have hP : va_P g.1 vwCl (List.flatten [bLaw g lo lc lz ll lm lg ld fc, bTown g o a pe wo tx ch jo tr dy sd f]) H := hP
          have hD : va_D A (List.flatten [bLaw g lo lc lz ll lm lg ld fc, bTown g o a pe wo tx ch jo tr dy sd f]) := hD
          exact mret_i hx hb hr hlocks hS (Nat.le_of_ble_eq_true rfl) (Nat.le_of_ble_eq_true rfl) dX1_turnsOf_369 (x_2) rfl trivial hP hD
        · skip
          have c11 : x_6.toInt < lz.toInt := zlti (Int32.not_le.mp cb9) rfl rfl
          have n12 : x_6.toInt ≤ 399 := zL1 (b := 400) c11 b_lz.2 (by decide)
          have n13 : 1 ≤ lz.toInt := zL2 (a := 0) c11 i7.1 (by decide)
          refine lv_aload_n hx hb dX1_turnsOf_46 rfl (lv_at hl 0 rfl) ?_
          refine va_get (D := g.1) (ci := 1) (v := .ref lc) (C := RX1) (T := TX1) (N := 6) hx hb hts izRX1 hown hK hP 0 rfl rfl 0 (by decide) (hts _ k101) (fun _ h9 => h9) rfl dX1_turnsOf_47 ?_
          refine lv_iload hx hb dX1_turnsOf_50 (lv_at hl 7 rfl) ?_
          refine va_iald hx hb hK hP 1 0 rfl rfl (zinK (a := 0) (b := 399) i7.1 n12 (by decide)) dX1_turnsOf_52 ?_
          refine zg (fun x_14 => ?_)
          refine lv_bipush (v := 32) hx hb dX1_turnsOf_53 (by decide) ?_
          refine lv_idiv hx hb dX1_turnsOf_55 (by decide) ?_
          refine zgb (zdiv32 _) (fun x_15 hx_15 => ?_)
          refine lv_istore (lv' := [(8, .int x_15), (0, .ref lo), (1, .ref o), (2, .int x1), (3, .int x_2), (4, .int x_3), (5, .int x_4), (6, .int x_5), (7, .int x_6)]) hx hb dX1_turnsOf_56 hl (by decide) rfl (fun ls hl => ?_)
          refine lv_aload_n hx hb dX1_turnsOf_58 rfl (lv_at hl 1 rfl) ?_
          refine va_get (D := g.1) (ci := 1) (v := .ref lc) (C := RX1) (T := TX1) (N := 6) hx hb hts izRX1 hown hK hP 0 rfl rfl 0 (by decide) (hts _ k101) (fun _ h9 => h9) rfl dX1_turnsOf_59 ?_
          refine lv_iload hx hb dX1_turnsOf_62 (lv_at hl 8 rfl) ?_
          refine va_iald hx hb hK hP 1 0 rfl rfl (zinK (a := 0) (b := 399) i7.1 n12 (by decide)) dX1_turnsOf_64 ?_
          refine zg (fun x_16 => ?_)
          refine lv_bipush (v := 32) hx hb dX1_turnsOf_65 (by decide) ?_
          refine lv_irem hx hb dX1_turnsOf_67 (by decide) ?_
          refine zg (fun x_17 => ?_)
          refine lv_istore (lv' := [(9, .int x_17), (8, .int x_15), (0, .ref lo), (1, .ref o), (2, .int x1), (3, .int x_2), (4, .int x_3), (5, .int x_4), (6, .int x_5), (7, .int x_6)]) hx hb dX1_turnsOf_68 hl (by decide) rfl (fun ls hl => ?_)
          refine lv_iload hx hb dX1_turnsOf_70 (lv_at hl 0 rfl) ?_
          by_cases hsw0 : x_17 = 0
          · subst hsw0
            refine lv_tableIn (x := 0) (off := 84) (tgt := 156) hx hb dX1_turnsOf_72 (by decide) (by decide) rfl (by decide) ?_
            refine lv_iload hx hb dX1_turnsOf_156 (lv_at hl 7 rfl) ?_
            refine lv_iload hx hb dX1_turnsOf_158 (lv_at hl 1 rfl) ?_
            refine lv_iadd hx hb dX1_turnsOf_160 ?_
            refine zg (fun x_18 => ?_)
            refine lv_istore (lv' := [(5, .int x_18), (9, .int 0), (8, .int x_15), (0, .ref lo), (1, .ref o), (2, .int x1), (3, .int x_2), (4, .int x_3), (6, .int x_5), (7, .int x_6)]) hx hb dX1_turnsOf_161 hl (by decide) rfl (fun ls hl => ?_)
            refine lv_goto (tgt := 362) hx hb dX1_turnsOf_163 (by decide) ?_
            refine ziinc3 (n' := 1) (a' := 1) (b' := 400) (lv' := fun v9 => [(7, .int v9), (5, .int x_18), (9, .int 0), (8, .int x_15), (0, .ref lo), (1, .ref o), (2, .int x1), (3, .int x_2), (4, .int x_3), (6, .int x_5)]) hx hb dX1_turnsOf_362 hl (k := 9) rfl (by decide) (fun _ => rfl) (zaddK (i := x_6.toInt) (j := 1) rfl (by decide) i7.1 n12 (Int.le_refl _) (Int.le_refl _) (by decide)) (fun x_19 ls hx_19 hl => ?_)
            refine lv_goto (tgt := 37) hx hb dX1_turnsOf_365 (by decide) ?_
            have hl := lv_sub (l' := [(0, .ref lo), (1, .ref o), (2, .int x1), (3, .int x_2), (4, .int x_3), (5, .int x_18), (6, .int x_5), (7, .int x_19), (8, .int x_15), (9, .int 0)]) hl [4, 5, 6, 7, 8, 1, 9, 0, 3, 2] rfl
            have hP : va_P g.1 vwCl (List.flatten [bLaw g lo lc lz ll lm lg ld fc, bTown g o a pe wo tx ch jo tr dy sd f]) H := hP
            have hD : va_D A (List.flatten [bLaw g lo lc lz ll lm lg ld fc, bTown g o a pe wo tx ch jo tr dy sd f]) := hD
            exact ih37_9 x_2 x_3 x_18 x_5 x_19 ⟨(Int.le_trans (by decide) hx_19.2.1), (Int.le_trans hx_19.2.2 (by decide))⟩ H _ ls (by omega)  hP hD hS (lv_sub hl [0, 1, 2, 3, 4, 5, 6, 7] rfl)
          by_cases hsw1 : x_17 = 1
          · subst hsw1
            refine lv_tableIn (x := 1) (off := 277) (tgt := 349) hx hb dX1_turnsOf_72 (by decide) (by decide) rfl (by decide) ?_
            refine lv_iload hx hb dX1_turnsOf_349 (lv_at hl 7 rfl) ?_
            refine lv_aload_n hx hb dX1_turnsOf_351 rfl (lv_at hl 2 rfl) ?_
            refine lv_aload_n hx hb dX1_turnsOf_352 rfl (lv_at hl 3 rfl) ?_
            refine lv_iload_n hx hb dX1_turnsOf_353 rfl (lv_at hl 4 rfl) ?_
            refine lv_iload hx hb dX1_turnsOf_354 (lv_at hl 0 rfl) ?_
            refine mcallV' (g := g) (q0 := 0) (ci := 1) (As := [.ref o, .int x1, .int 1]) (rest := [.int x_4]) St hK hT hA hP hD hS hl.1 [0, 1] [] rfl rfl rfl (c_l_partOf l g lo lc lz ll lm lg ld fc o a pe wo tx ch jo tr dy sd f x1 1 b_pe b_wo rf b_x1) (cwV 3 hts (zgL (zl4 k104 k105 k106 k85) k93) rfl rfl rfl (by decide +kernel) ⟨Nat.le_of_ble_eq_true rfl, Nat.le_of_ble_eq_true rfl⟩) rfl rfl rfl rfl (Nat.le_of_ble_eq_true rfl) dX1_turnsOf_356 ⟨(Nat.le_of_ble_eq_true rfl), (Nat.le_of_ble_eq_true rfl)⟩ (fun q_20 H locs hq21 hP hD hS => ?_)
            have hP : va_P g.1 vwCl (List.flatten [bLaw g lo lc lz ll lm lg ld fc, bTown g o a pe wo tx ch jo tr dy sd f]) H := hP
            have hD : va_D A (List.flatten [bLaw g lo lc lz ll lm lg ld fc, bTown g o a pe wo tx ch jo tr dy sd f]) := hD
            refine W.widen (k := 0) (n := 0) (Nat.le_of_ble_eq_true rfl) (Nat.le_of_ble_eq_true rfl) ?_
            refine W.eq (g2 := F0 m 359 ls [.int q_20, .int x_4]) rfl ?_
            refine lv_iadd hx hb dX1_turnsOf_359 ?_
            refine zg (fun x_22 => ?_)
            refine lv_istore (lv' := [(5, .int x_22), (9, .int 1), (8, .int x_15), (0, .ref lo), (1, .ref o), (2, .int x1), (3, .int x_2), (4, .int x_3), (6, .int x_5), (7, .int x_6)]) hx hb dX1_turnsOf_360 hl (by decide) rfl (fun ls hl => ?_)
            refine ziinc3 (n' := 1) (a' := 1) (b' := 400) (lv' := fun v9 => [(7, .int v9), (5, .int x_22), (9, .int 1), (8, .int x_15), (0, .ref lo), (1, .ref o), (2, .int x1), (3, .int x_2), (4, .int x_3), (6, .int x_5)]) hx hb dX1_turnsOf_362 hl (k := 9) rfl (by decide) (fun _ => rfl) (zaddK (i := x_6.toInt) (j := 1) rfl (by decide) i7.1 n12 (Int.le_refl _) (Int.le_refl _) (by decide)) (fun x_23 ls hx_23 hl => ?_)
            refine lv_goto (tgt := 37) hx hb dX1_turnsOf_365 (by decide) ?_
            have hl := lv_sub (l' := [(0, .ref lo), (1, .ref o), (2, .int x1), (3, .int x_2), (4, .int x_3), (5, .int x_22), (6, .int x_5), (7, .int x_23), (8, .int x_15), (9, .int 1)]) hl [4, 5, 6, 7, 8, 1, 9, 0, 3, 2] rfl
            have hP : va_P g.1 vwCl (List.flatten [bLaw g lo lc lz ll lm lg ld fc, bTown g o a pe wo tx ch jo tr dy sd f]) H := hP
            have hD : va_D A (List.flatten [bLaw g lo lc lz ll lm lg ld fc, bTown g o a pe wo tx ch jo tr dy sd f]) := hD
            exact ih37_9 x_2 x_3 x_22 x_5 x_23 ⟨(Int.le_trans (by decide) hx_23.2.1), (Int.le_trans hx_23.2.2 (by decide))⟩ H _ ls (by omega)  hP hD hS (lv_sub hl [0, 1, 2, 3, 4, 5, 6, 7] rfl)
          by_cases hsw2 : x_17 = 2
          · subst hsw2
            refine lv_tableIn (x := 2) (off := 277) (tgt := 349) hx hb dX1_turnsOf_72 (by decide) (by decide) rfl (by decide) ?_
            refine lv_iload hx hb dX1_turnsOf_349 (lv_at hl 7 rfl) ?_
            refine lv_aload_n hx hb dX1_turnsOf_351 rfl (lv_at hl 2 rfl) ?_
            refine lv_aload_n hx hb dX1_turnsOf_352 rfl (lv_at hl 3 rfl) ?_
            refine lv_iload_n hx hb dX1_turnsOf_353 rfl (lv_at hl 4 rfl) ?_
            refine lv_iload hx hb dX1_turnsOf_354 (lv_at hl 0 rfl) ?_
            refine mcallV' (g := g) (q0 := 0) (ci := 1) (As := [.ref o, .int x1, .int 2]) (rest := [.int x_4]) St hK hT hA hP hD hS hl.1 [0, 1] [] rfl rfl rfl (c_l_partOf l g lo lc lz ll lm lg ld fc o a pe wo tx ch jo tr dy sd f x1 2 b_pe b_wo rf b_x1) (cwV 3 hts (zgL (zl4 k104 k105 k106 k85) k93) rfl rfl rfl (by decide +kernel) ⟨Nat.le_of_ble_eq_true rfl, Nat.le_of_ble_eq_true rfl⟩) rfl rfl rfl rfl (Nat.le_of_ble_eq_true rfl) dX1_turnsOf_356 ⟨(Nat.le_of_ble_eq_true rfl), (Nat.le_of_ble_eq_true rfl)⟩ (fun q_24 H locs hq25 hP hD hS => ?_)
            have hP : va_P g.1 vwCl (List.flatten [bLaw g lo lc lz ll lm lg ld fc, bTown g o a pe wo tx ch jo tr dy sd f]) H := hP
            have hD : va_D A (List.flatten [bLaw g lo lc lz ll lm lg ld fc, bTown g o a pe wo tx ch jo tr dy sd f]) := hD
            refine W.widen (k := 0) (n := 0) (Nat.le_of_ble_eq_true rfl) (Nat.le_of_ble_eq_true rfl) ?_
            refine W.eq (g2 := F0 m 359 ls [.int q_24, .int x_4]) rfl ?_
            refine lv_iadd hx hb dX1_turnsOf_359 ?_
            refine zg (fun x_26 => ?_)
            refine lv_istore (lv' := [(5, .int x_26), (9, .int 2), (8, .int x_15), (0, .ref lo), (1, .ref o), (2, .int x1), (3, .int x_2), (4, .int x_3), (6, .int x_5), (7, .int x_6)]) hx hb dX1_turnsOf_360 hl (by decide) rfl (fun ls hl => ?_)
            refine ziinc3 (n' := 1) (a' := 1) (b' := 400) (lv' := fun v9 => [(7, .int v9), (5, .int x_26), (9, .int 2), (8, .int x_15), (0, .ref lo), (1, .ref o), (2, .int x1), (3, .int x_2), (4, .int x_3), (6, .int x_5)]) hx hb dX1_turnsOf_362 hl (k := 9) rfl (by decide) (fun _ => rfl) (zaddK (i := x_6.toInt) (j := 1) rfl (by decide) i7.1 n12 (Int.le_refl _) (Int.le_refl _) (by decide)) (fun x_27 ls hx_27 hl => ?_)
            refine lv_goto (tgt := 37) hx hb dX1_turnsOf_365 (by decide) ?_
            have hl := lv_sub (l' := [(0, .ref lo), (1, .ref o), (2, .int x1), (3, .int x_2), (4, .int x_3), (5, .int x_26), (6, .int x_5), (7, .int x_27), (8, .int x_15), (9, .int 2)]) hl [4, 5, 6, 7, 8, 1, 9, 0, 3, 2] rfl
            have hP : va_P g.1 vwCl (List.flatten [bLaw g lo lc lz ll lm lg ld fc, bTown g o a pe wo tx ch jo tr dy sd f]) H := hP
            have hD : va_D A (List.flatten [bLaw g lo lc lz ll lm lg ld fc, bTown g o a pe wo tx ch jo tr dy sd f]) := hD
            exact ih37_9 x_2 x_3 x_26 x_5 x_27 ⟨(Int.le_trans (by decide) hx_27.2.1), (Int.le_trans hx_27.2.2 (by decide))⟩ H _ ls (by omega)  hP hD hS (lv_sub hl [0, 1, 2, 3, 4, 5, 6, 7] rfl)
          by_cases hsw3 : x_17 = 3
          · subst hsw3
            refine lv_tableIn (x := 3) (off := 277) (tgt := 349) hx hb dX1_turnsOf_72 (by decide) (by decide) rfl (by decide) ?_
            refine lv_iload hx hb dX1_turnsOf_349 (lv_at hl 7 rfl) ?_
            refine lv_aload_n hx hb dX1_turnsOf_351 rfl (lv_at hl 2 rfl) ?_
            refine lv_aload_n hx hb dX1_turnsOf_352 rfl (lv_at hl 3 rfl) ?_
            refine lv_iload_n hx hb dX1_turnsOf_353 rfl (lv_at hl 4 rfl) ?_
            refine lv_iload hx hb dX1_turnsOf_354 (lv_at hl 0 rfl) ?_
            refine mcallV' (g := g) (q0 := 0) (ci := 1) (As := [.ref o, .int x1, .int 3]) (rest := [.int x_4]) St hK hT hA hP hD hS hl.1 [0, 1] [] rfl rfl rfl (c_l_partOf l g lo lc lz ll lm lg ld fc o a pe wo tx ch jo tr dy sd f x1 3 b_pe b_wo rf b_x1) (cwV 3 hts (zgL (zl4 k104 k105 k106 k85) k93) rfl rfl rfl (by decide +kernel) ⟨Nat.le_of_ble_eq_true rfl, Nat.le_of_ble_eq_true rfl⟩) rfl rfl rfl rfl (Nat.le_of_ble_eq_true rfl) dX1_turnsOf_356 ⟨(Nat.le_of_ble_eq_true rfl), (Nat.le_of_ble_eq_true rfl)⟩ (fun q_28 H locs hq29 hP hD hS => ?_)
            have hP : va_P g.1 vwCl (List.flatten [bLaw g lo lc lz ll lm lg ld fc, bTown g o a pe wo tx ch jo tr dy sd f]) H := hP
            have hD : va_D A (List.flatten [bLaw g lo lc lz ll lm lg ld fc, bTown g o a pe wo tx ch jo tr dy sd f]) := hD
            refine W.widen (k := 0) (n := 0) (Nat.le_of_ble_eq_true rfl) (Nat.le_of_ble_eq_true rfl) ?_
            refine W.eq (g2 := F0 m 359 ls [.int q_28, .int x_4]) rfl ?_
            refine lv_iadd hx hb dX1_turnsOf_359 ?_
            refine zg (fun x_30 => ?_)
            refine lv_istore (lv' := [(5, .int x_30), (9, .int 3), (8, .int x_15), (0, .ref lo), (1, .ref o), (2, .int x1), (3, .int x_2), (4, .int x_3), (6, .int x_5), (7, .int x_6)]) hx hb dX1_turnsOf_360 hl (by decide) rfl (fun ls hl => ?_)
            refine ziinc3 (n' := 1) (a' := 1) (b' := 400) (lv' := fun v9 => [(7, .int v9), (5, .int x_30), (9, .int 3), (8, .int x_15), (0, .ref lo), (1, .ref o), (2, .int x1), (3, .int x_2), (4, .int x_3), (6, .int x_5)]) hx hb dX1_turnsOf_362 hl (k := 9) rfl (by decide) (fun _ => rfl) (zaddK (i := x_6.toInt) (j := 1) rfl (by decide) i7.1 n12 (Int.le_refl _) (Int.le_refl _) (by decide)) (fun x_31 ls hx_31 hl => ?_)
            refine lv_goto (tgt := 37) hx hb dX1_turnsOf_365 (by decide) ?_
            have hl := lv_sub (l' := [(0, .ref lo), (1, .ref o), (2, .int x1), (3, .int x_2), (4, .int x_3), (5, .int x_30), (6, .int x_5), (7, .int x_31), (8, .int x_15), (9, .int 3)]) hl [4, 5, 6, 7, 8, 1, 9, 0, 3, 2] rfl
            have hP : va_P g.1 vwCl (List.flatten [bLaw g lo lc lz ll lm lg ld fc, bTown g o a pe wo tx ch jo tr dy sd f]) H := hP
            have hD : va_D A (List.flatten [bLaw g lo lc lz ll lm lg ld fc, bTown g o a pe wo tx ch jo tr dy sd f]) := hD
            exact ih37_9 x_2 x_3 x_30 x_5 x_31 ⟨(Int.le_trans (by decide) hx_31.2.1), (Int.le_trans hx_31.2.2 (by decide))⟩ H _ ls (by omega)  hP hD hS (lv_sub hl [0, 1, 2, 3, 4, 5, 6, 7] rfl)
          by_cases hsw4 : x_17 = 4
          · subst hsw4
            refine lv_tableIn (x := 4) (off := 277) (tgt := 349) hx hb dX1_turnsOf_72 (by decide) (by decide) rfl (by decide) ?_
            refine lv_iload hx hb dX1_turnsOf_349 (lv_at hl 7 rfl) ?_
            refine lv_aload_n hx hb dX1_turnsOf_351 rfl (lv_at hl 2 rfl) ?_
            refine lv_aload_n hx hb dX1_turnsOf_352 rfl (lv_at hl 3 rfl) ?_
            refine lv_iload_n hx hb dX1_turnsOf_353 rfl (lv_at hl 4 rfl) ?_
            refine lv_iload hx hb dX1_turnsOf_354 (lv_at hl 0 rfl) ?_
            refine mcallV' (g := g) (q0 := 0) (ci := 1) (As := [.ref o, .int x1, .int 4]) (rest := [.int x_4]) St hK hT hA hP hD hS hl.1 [0, 1] [] rfl rfl rfl (c_l_partOf l g lo lc lz ll lm lg ld fc o a pe wo tx ch jo tr dy sd f x1 4 b_pe b_wo rf b_x1) (cwV 3 hts (zgL (zl4 k104 k105 k106 k85) k93) rfl rfl rfl (by decide +kernel) ⟨Nat.le_of_ble_eq_true rfl, Nat.le_of_ble_eq_true rfl⟩) rfl rfl rfl rfl (Nat.le_of_ble_eq_true rfl) dX1_turnsOf_356 ⟨(Nat.le_of_ble_eq_true rfl), (Nat.le_of_ble_eq_true rfl)⟩ (fun q_32 H locs hq33 hP hD hS => ?_)
            have hP : va_P g.1 vwCl (List.flatten [bLaw g lo lc lz ll lm lg ld fc, bTown g o a pe wo tx ch jo tr dy sd f]) H := hP
            have hD : va_D A (List.flatten [bLaw g lo lc lz ll lm lg ld fc, bTown g o a pe wo tx ch jo tr dy sd f]) := hD
            refine W.widen (k := 0) (n := 0) (Nat.le_of_ble_eq_true rfl) (Nat.le_of_ble_eq_true rfl) ?_
            refine W.eq (g2 := F0 m 359 ls [.int q_32, .int x_4]) rfl ?_
            refine lv_iadd hx hb dX1_turnsOf_359 ?_
            refine zg (fun x_34 => ?_)
            refine lv_istore (lv' := [(5, .int x_34), (9, .int 4), (8, .int x_15), (0, .ref lo), (1, .ref o), (2, .int x1), (3, .int x_2), (4, .int x_3), (6, .int x_5), (7, .int x_6)]) hx hb dX1_turnsOf_360 hl (by decide) rfl (fun ls hl => ?_)
            refine ziinc3 (n' := 1) (a' := 1) (b' := 400) (lv' := fun v9 => [(7, .int v9), (5, .int x_34), (9, .int 4), (8, .int x_15), (0, .ref lo), (1, .ref o), (2, .int x1), (3, .int x_2), (4, .int x_3), (6, .int x_5)]) hx hb dX1_turnsOf_362 hl (k := 9) rfl (by decide) (fun _ => rfl) (zaddK (i := x_6.toInt) (j := 1) rfl (by decide) i7.1 n12 (Int.le_refl _) (Int.le_refl _) (by decide)) (fun x_35 ls hx_35 hl => ?_)
            refine lv_goto (tgt := 37) hx hb dX1_turnsOf_365 (by decide) ?_
            have hl := lv_sub (l' := [(0, .ref lo), (1, .ref o), (2, .int x1), (3, .int x_2), (4, .int x_3), (5, .int x_34), (6, .int x_5), (7, .int x_35), (8, .int x_15), (9, .int 4)]) hl [4, 5, 6, 7, 8, 1, 9, 0, 3, 2] rfl
            have hP : va_P g.1 vwCl (List.flatten [bLaw g lo lc lz ll lm lg ld fc, bTown g o a pe wo tx ch jo tr dy sd f]) H := hP
            have hD : va_D A (List.flatten [bLaw g lo lc lz ll lm lg ld fc, bTown g o a pe wo tx ch jo tr dy sd f]) := hD
            exact ih37_9 x_2 x_3 x_34 x_5 x_35 ⟨(Int.le_trans (by decide) hx_35.2.1), (Int.le_trans hx_35.2.2 (by decide))⟩ H _ ls (by omega)  hP hD hS (lv_sub hl [0, 1, 2, 3, 4, 5, 6, 7] rfl)
          by_cases hsw5 : x_17 = 5
          · subst hsw5
            refine lv_tableIn (x := 5) (off := 277) (tgt := 349) hx hb dX1_turnsOf_72 (by decide) (by decide) rfl (by decide) ?_
            refine lv_iload hx hb dX1_turnsOf_349 (lv_at hl 7 rfl) ?_
            refine lv_aload_n hx hb dX1_turnsOf_351 rfl (lv_at hl 2 rfl) ?_
            refine lv_aload_n hx hb dX1_turnsOf_352 rfl (lv_at hl 3 rfl) ?_
            refine lv_iload_n hx hb dX1_turnsOf_353 rfl (lv_at hl 4 rfl) ?_
            refine lv_iload hx hb dX1_turnsOf_354 (lv_at hl 0 rfl) ?_
            refine mcallV' (g := g) (q0 := 0) (ci := 1) (As := [.ref o, .int x1, .int 5]) (rest := [.int x_4]) St hK hT hA hP hD hS hl.1 [0, 1] [] rfl rfl rfl (c_l_partOf l g lo lc lz ll lm lg ld fc o a pe wo tx ch jo tr dy sd f x1 5 b_pe b_wo rf b_x1) (cwV 3 hts (zgL (zl4 k104 k105 k106 k85) k93) rfl rfl rfl (by decide +kernel) ⟨Nat.le_of_ble_eq_true rfl, Nat.le_of_ble_eq_true rfl⟩) rfl rfl rfl rfl (Nat.le_of_ble_eq_true rfl) dX1_turnsOf_356 ⟨(Nat.le_of_ble_eq_true rfl), (Nat.le_of_ble_eq_true rfl)⟩ (fun q_36 H locs hq37 hP hD hS => ?_)
            have hP : va_P g.1 vwCl (List.flatten [bLaw g lo lc lz ll lm lg ld fc, bTown g o a pe wo tx ch jo tr dy sd f]) H := hP
            have hD : va_D A (List.flatten [bLaw g lo lc lz ll lm lg ld fc, bTown g o a pe wo tx ch jo tr dy sd f]) := hD
            refine W.widen (k := 0) (n := 0) (Nat.le_of_ble_eq_true rfl) (Nat.le_of_ble_eq_true rfl) ?_
            refine W.eq (g2 := F0 m 359 ls [.int q_36, .int x_4]) rfl ?_
            refine lv_iadd hx hb dX1_turnsOf_359 ?_
            refine zg (fun x_38 => ?_)
            refine lv_istore (lv' := [(5, .int x_38), (9, .int 5), (8, .int x_15), (0, .ref lo), (1, .ref o), (2, .int x1), (3, .int x_2), (4, .int x_3), (6, .int x_5), (7, .int x_6)]) hx hb dX1_turnsOf_360 hl (by decide) rfl (fun ls hl => ?_)
            refine ziinc3 (n' := 1) (a' := 1) (b' := 400) (lv' := fun v9 => [(7, .int v9), (5, .int x_38), (9, .int 5), (8, .int x_15), (0, .ref lo), (1, .ref o), (2, .int x1), (3, .int x_2), (4, .int x_3), (6, .int x_5)]) hx hb dX1_turnsOf_362 hl (k := 9) rfl (by decide) (fun _ => rfl) (zaddK (i := x_6.toInt) (j := 1) rfl (by decide) i7.1 n12 (Int.le_refl _) (Int.le_refl _) (by decide)) (fun x_39 ls hx_39 hl => ?_)
            refine lv_goto (tgt := 37) hx hb dX1_turnsOf_365 (by decide) ?_
            have hl := lv_sub (l' := [(0, .ref lo), (1, .ref o), (2, .int x1), (3, .int x_2), (4, .int x_3), (5, .int x_38), (6, .int x_5), (7, .int x_39), (8, .int x_15), (9, .int 5)]) hl [4, 5, 6, 7, 8, 1, 9, 0, 3, 2] rfl
            have hP : va_P g.1 vwCl (List.flatten [bLaw g lo lc lz ll lm lg ld fc, bTown g o a pe wo tx ch jo tr dy sd f]) H := hP
            have hD : va_D A (List.flatten [bLaw g lo lc lz ll lm lg ld fc, bTown g o a pe wo tx ch jo tr dy sd f]) := hD
            exact ih37_9 x_2 x_3 x_38 x_5 x_39 ⟨(Int.le_trans (by decide) hx_39.2.1), (Int.le_trans hx_39.2.2 (by decide))⟩ H _ ls (by omega)  hP hD hS (lv_sub hl [0, 1, 2, 3, 4, 5, 6, 7] rfl)
          by_cases hsw6 : x_17 = 6
          · subst hsw6
            refine lv_tableIn (x := 6) (off := 277) (tgt := 349) hx hb dX1_turnsOf_72 (by decide) (by decide) rfl (by decide) ?_
            refine lv_iload hx hb dX1_turnsOf_349 (lv_at hl 7 rfl) ?_
            refine lv_aload_n hx hb dX1_turnsOf_351 rfl (lv_at hl 2 rfl) ?_
            refine lv_aload_n hx hb dX1_turnsOf_352 rfl (lv_at hl 3 rfl) ?_
            refine lv_iload_n hx hb dX1_turnsOf_353 rfl (lv_at hl 4 rfl) ?_
            refine lv_iload hx hb dX1_turnsOf_354 (lv_at hl 0 rfl) ?_
            refine mcallV' (g := g) (q0 := 0) (ci := 1) (As := [.ref o, .int x1, .int 6]) (rest := [.int x_4]) St hK hT hA hP hD hS hl.1 [0, 1] [] rfl rfl rfl (c_l_partOf l g lo lc lz ll lm lg ld fc o a pe wo tx ch jo tr dy sd f x1 6 b_pe b_wo rf b_x1) (cwV 3 hts (zgL (zl4 k104 k105 k106 k85) k93) rfl rfl rfl (by decide +kernel) ⟨Nat.le_of_ble_eq_true rfl, Nat.le_of_ble_eq_true rfl⟩) rfl rfl rfl rfl (Nat.le_of_ble_eq_true rfl) dX1_turnsOf_356 ⟨(Nat.le_of_ble_eq_true rfl), (Nat.le_of_ble_eq_true rfl)⟩ (fun q_40 H locs hq41 hP hD hS => ?_)
            have hP : va_P g.1 vwCl (List.flatten [bLaw g lo lc lz ll lm lg ld fc, bTown g o a pe wo tx ch jo tr dy sd f]) H := hP
            have hD : va_D A (List.flatten [bLaw g lo lc lz ll lm lg ld fc, bTown g o a pe wo tx ch jo tr dy sd f]) := hD
            refine W.widen (k := 0) (n := 0) (Nat.le_of_ble_eq_true rfl) (Nat.le_of_ble_eq_true rfl) ?_
            refine W.eq (g2 := F0 m 359 ls [.int q_40, .int x_4]) rfl ?_
            refine lv_iadd hx hb dX1_turnsOf_359 ?_
            refine zg (fun x_42 => ?_)
            refine lv_istore (lv' := [(5, .int x_42), (9, .int 6), (8, .int x_15), (0, .ref lo), (1, .ref o), (2, .int x1), (3, .int x_2), (4, .int x_3), (6, .int x_5), (7, .int x_6)]) hx hb dX1_turnsOf_360 hl (by decide) rfl (fun ls hl => ?_)
            refine ziinc3 (n' := 1) (a' := 1) (b' := 400) (lv' := fun v9 => [(7, .int v9), (5, .int x_42), (9, .int 6), (8, .int x_15), (0, .ref lo), (1, .ref o), (2, .int x1), (3, .int x_2), (4, .int x_3), (6, .int x_5)]) hx hb dX1_turnsOf_362 hl (k := 9) rfl (by decide) (fun _ => rfl) (zaddK (i := x_6.toInt) (j := 1) rfl (by decide) i7.1 n12 (Int.le_refl _) (Int.le_refl _) (by decide)) (fun x_43 ls hx_43 hl => ?_)
            refine lv_goto (tgt := 37) hx hb dX1_turnsOf_365 (by decide) ?_
            have hl := lv_sub (l' := [(0, .ref lo), (1, .ref o), (2, .int x1), (3, .int x_2), (4, .int x_3), (5, .int x_42), (6, .int x_5), (7, .int x_43), (8, .int x_15), (9, .int 6)]) hl [4, 5, 6, 7, 8, 1, 9, 0, 3, 2] rfl
            have hP : va_P g.1 vwCl (List.flatten [bLaw g lo lc lz ll lm lg ld fc, bTown g o a pe wo tx ch jo tr dy sd f]) H := hP
            have hD : va_D A (List.flatten [bLaw g lo lc lz ll lm lg ld fc, bTown g o a pe wo tx ch jo tr dy sd f]) := hD
            exact ih37_9 x_2 x_3 x_42 x_5 x_43 ⟨(Int.le_trans (by decide) hx_43.2.1), (Int.le_trans hx_43.2.2 (by decide))⟩ H _ ls (by omega)  hP hD hS (lv_sub hl [0, 1, 2, 3, 4, 5, 6, 7] rfl)
          by_cases hsw7 : x_17 = 7
          · subst hsw7
            refine lv_tableIn (x := 7) (off := 94) (tgt := 166) hx hb dX1_turnsOf_72 (by decide) (by decide) rfl (by decide) ?_
            refine lv_iload hx hb dX1_turnsOf_166 (lv_at hl 7 rfl) ?_
            refine lv_istore (lv' := [(4, .int x_4), (9, .int 7), (8, .int x_15), (0, .ref lo), (1, .ref o), (2, .int x1), (3, .int x_2), (5, .int x_4), (6, .int x_5), (7, .int x_6)]) hx hb dX1_turnsOf_168 hl (by decide) rfl (fun ls hl => ?_)
            refine lv_iconst (v := 0) hx hb dX1_turnsOf_170 (by decide) ?_
            refine lv_istore (lv' := [(5, .int 0), (4, .int x_4), (9, .int 7), (8, .int x_15), (0, .ref lo), (1, .ref o), (2, .int x1), (3, .int x_2), (6, .int x_5), (7, .int x_6)]) hx hb dX1_turnsOf_171 hl (by decide) rfl (fun ls hl => ?_)
            refine lv_goto (tgt := 362) hx hb dX1_turnsOf_173 (by decide) ?_
            refine ziinc3 (n' := 1) (a' := 1) (b' := 400) (lv' := fun v9 => [(7, .int v9), (5, .int 0), (4, .int x_4), (9, .int 7), (8, .int x_15), (0, .ref lo), (1, .ref o), (2, .int x1), (3, .int x_2), (6, .int x_5)]) hx hb dX1_turnsOf_362 hl (k := 9) rfl (by decide) (fun _ => rfl) (zaddK (i := x_6.toInt) (j := 1) rfl (by decide) i7.1 n12 (Int.le_refl _) (Int.le_refl _) (by decide)) (fun x_44 ls hx_44 hl => ?_)
            refine lv_goto (tgt := 37) hx hb dX1_turnsOf_365 (by decide) ?_
            have hl := lv_sub (l' := [(0, .ref lo), (1, .ref o), (2, .int x1), (3, .int x_2), (4, .int x_4), (5, .int 0), (6, .int x_5), (7, .int x_44), (8, .int x_15), (9, .int 7)]) hl [5, 6, 7, 8, 2, 1, 9, 0, 4, 3] rfl
            have hP : va_P g.1 vwCl (List.flatten [bLaw g lo lc lz ll lm lg ld fc, bTown g o a pe wo tx ch jo tr dy sd f]) H := hP
            have hD : va_D A (List.flatten [bLaw g lo lc lz ll lm lg ld fc, bTown g o a pe wo tx ch jo tr dy sd f]) := hD
            exact ih37_9 x_2 x_4 0 x_5 x_44 ⟨(Int.le_trans (by decide) hx_44.2.1), (Int.le_trans hx_44.2.2 (by decide))⟩ H _ ls (by omega)  hP hD hS (lv_sub hl [0, 1, 2, 3, 4, 5, 6, 7] rfl)
          by_cases hsw8 : x_17 = 8
          · subst hsw8
            refine lv_tableIn (x := 8) (off := 104) (tgt := 176) hx hb dX1_turnsOf_72 (by decide) (by decide) rfl (by decide) ?_
            refine lv_iload hx hb dX1_turnsOf_176 (lv_at hl 6 rfl) ?_
            refine lv_iload hx hb dX1_turnsOf_178 (lv_at hl 7 rfl) ?_
            refine lv_icmp_ge (tgt := 187) hx hb dX1_turnsOf_180 (by decide) (fun cb9 => ?_) (fun cb9 => ?_)
            · skip
              have c45 : x_4.toInt ≤ x_3.toInt := zle cb9 rfl rfl
              refine lv_iconst (v := 0) hx hb dX1_turnsOf_187 (by decide) ?_
              refine lv_istore (lv' := [(6, .int 0), (9, .int 8), (8, .int x_15), (0, .ref lo), (1, .ref o), (2, .int x1), (3, .int x_2), (4, .int x_3), (5, .int x_4), (7, .int x_6)]) hx hb dX1_turnsOf_188 hl (by decide) rfl (fun ls hl => ?_)
              refine lv_iconst (v := 0) hx hb dX1_turnsOf_190 (by decide) ?_
              refine lv_istore (lv' := [(5, .int 0), (6, .int 0), (9, .int 8), (8, .int x_15), (0, .ref lo), (1, .ref o), (2, .int x1), (3, .int x_2), (4, .int x_3), (7, .int x_6)]) hx hb dX1_turnsOf_191 hl (by decide) rfl (fun ls hl => ?_)
              refine lv_goto (tgt := 362) hx hb dX1_turnsOf_193 (by decide) ?_
              refine ziinc3 (n' := 1) (a' := 1) (b' := 400) (lv' := fun v9 => [(7, .int v9), (5, .int 0), (6, .int 0), (9, .int 8), (8, .int x_15), (0, .ref lo), (1, .ref o), (2, .int x1), (3, .int x_2), (4, .int x_3)]) hx hb dX1_turnsOf_362 hl (k := 9) rfl (by decide) (fun _ => rfl) (zaddK (i := x_6.toInt) (j := 1) rfl (by decide) i7.1 n12 (Int.le_refl _) (Int.le_refl _) (by decide)) (fun x_46 ls hx_46 hl => ?_)
              refine lv_goto (tgt := 37) hx hb dX1_turnsOf_365 (by decide) ?_
              have hl := lv_sub (l' := [(0, .ref lo), (1, .ref o), (2, .int x1), (3, .int x_2), (4, .int x_3), (5, .int 0), (6, .int 0), (7, .int x_46), (8, .int x_15), (9, .int 8)]) hl [5, 6, 7, 8, 9, 1, 2, 0, 4, 3] rfl
              have hP : va_P g.1 vwCl (List.flatten [bLaw g lo lc lz ll lm lg ld fc, bTown g o a pe wo tx ch jo tr dy sd f]) H := hP
              have hD : va_D A (List.flatten [bLaw g lo lc lz ll lm lg ld fc, bTown g o a pe wo tx ch jo tr dy sd f]) := hD
              exact ih37_9 x_2 x_3 0 0 x_46 ⟨(Int.le_trans (by decide) hx_46.2.1), (Int.le_trans hx_46.2.2 (by decide))⟩ H _ ls (by omega)  hP hD hS (lv_sub hl [0, 1, 2, 3, 4, 5, 6, 7] rfl)
            · skip
              have c47 : x_3.toInt < x_4.toInt := zlti (Int32.not_le.mp cb9) rfl rfl
              refine lv_iconst (v := 1) hx hb dX1_turnsOf_183 (by decide) ?_
              refine lv_goto (tgt := 188) hx hb dX1_turnsOf_184 (by decide) ?_
              refine lv_istore (lv' := [(6, .int 1), (9, .int 8), (8, .int x_15), (0, .ref lo), (1, .ref o), (2, .int x1), (3, .int x_2), (4, .int x_3), (5, .int x_4), (7, .int x_6)]) hx hb dX1_turnsOf_188 hl (by decide) rfl (fun ls hl => ?_)
              refine lv_iconst (v := 0) hx hb dX1_turnsOf_190 (by decide) ?_
              refine lv_istore (lv' := [(5, .int 0), (6, .int 1), (9, .int 8), (8, .int x_15), (0, .ref lo), (1, .ref o), (2, .int x1), (3, .int x_2), (4, .int x_3), (7, .int x_6)]) hx hb dX1_turnsOf_191 hl (by decide) rfl (fun ls hl => ?_)
              refine lv_goto (tgt := 362) hx hb dX1_turnsOf_193 (by decide) ?_
              refine ziinc3 (n' := 1) (a' := 1) (b' := 400) (lv' := fun v9 => [(7, .int v9), (5, .int 0), (6, .int 1), (9, .int 8), (8, .int x_15), (0, .ref lo), (1, .ref o), (2, .int x1), (3, .int x_2), (4, .int x_3)]) hx hb dX1_turnsOf_362 hl (k := 9) rfl (by decide) (fun _ => rfl) (zaddK (i := x_6.toInt) (j := 1) rfl (by decide) i7.1 n12 (Int.le_refl _) (Int.le_refl _) (by decide)) (fun x_48 ls hx_48 hl => ?_)
              refine lv_goto (tgt := 37) hx hb dX1_turnsOf_365 (by decide) ?_
              have hl := lv_sub (l' := [(0, .ref lo), (1, .ref o), (2, .int x1), (3, .int x_2), (4, .int x_3), (5, .int 0), (6, .int 1), (7, .int x_48), (8, .int x_15), (9, .int 8)]) hl [5, 6, 7, 8, 9, 1, 2, 0, 4, 3] rfl
              have hP : va_P g.1 vwCl (List.flatten [bLaw g lo lc lz ll lm lg ld fc, bTown g o a pe wo tx ch jo tr dy sd f]) H := hP
              have hD : va_D A (List.flatten [bLaw g lo lc lz ll lm lg ld fc, bTown g o a pe wo tx ch jo tr dy sd f]) := hD
              exact ih37_9 x_2 x_3 0 1 x_48 ⟨(Int.le_trans (by decide) hx_48.2.1), (Int.le_trans hx_48.2.2 (by decide))⟩ H _ ls (by omega)  hP hD hS (lv_sub hl [0, 1, 2, 3, 4, 5, 6, 7] rfl)
          by_cases hsw9 : x_17 = 9
          · subst hsw9
            refine lv_tableIn (x := 9) (off := 124) (tgt := 196) hx hb dX1_turnsOf_72 (by decide) (by decide) rfl (by decide) ?_
            refine lv_iload hx hb dX1_turnsOf_196 (lv_at hl 6 rfl) ?_
            refine lv_iload hx hb dX1_turnsOf_198 (lv_at hl 7 rfl) ?_
            refine lv_icmp_le (tgt := 207) hx hb dX1_turnsOf_200 (by decide) (fun cb9 => ?_) (fun cb9 => ?_)
            · skip
              have c49 : x_3.toInt ≤ x_4.toInt := zle cb9 rfl rfl
              refine lv_iconst (v := 0) hx hb dX1_turnsOf_207 (by decide) ?_
              refine lv_istore (lv' := [(6, .int 0), (9, .int 9), (8, .int x_15), (0, .ref lo), (1, .ref o), (2, .int x1), (3, .int x_2), (4, .int x_3), (5, .int x_4), (7, .int x_6)]) hx hb dX1_turnsOf_208 hl (by decide) rfl (fun ls hl => ?_)
              refine lv_iconst (v := 0) hx hb dX1_turnsOf_210 (by decide) ?_
              refine lv_istore (lv' := [(5, .int 0), (6, .int 0), (9, .int 9), (8, .int x_15), (0, .ref lo), (1, .ref o), (2, .int x1), (3, .int x_2), (4, .int x_3), (7, .int x_6)]) hx hb dX1_turnsOf_211 hl (by decide) rfl (fun ls hl => ?_)
              refine lv_goto (tgt := 362) hx hb dX1_turnsOf_213 (by decide) ?_
              refine ziinc3 (n' := 1) (a' := 1) (b' := 400) (lv' := fun v9 => [(7, .int v9), (5, .int 0), (6, .int 0), (9, .int 9), (8, .int x_15), (0, .ref lo), (1, .ref o), (2, .int x1), (3, .int x_2), (4, .int x_3)]) hx hb dX1_turnsOf_362 hl (k := 9) rfl (by decide) (fun _ => rfl) (zaddK (i := x_6.toInt) (j := 1) rfl (by decide) i7.1 n12 (Int.le_refl _) (Int.le_refl _) (by decide)) (fun x_50 ls hx_50 hl => ?_)
              refine lv_goto (tgt := 37) hx hb dX1_turnsOf_365 (by decide) ?_
              have hl := lv_sub (l' := [(0, .ref lo), (1, .ref o), (2, .int x1), (3, .int x_2), (4, .int x_3), (5, .int 0), (6, .int 0), (7, .int x_50), (8, .int x_15), (9, .int 9)]) hl [5, 6, 7, 8, 9, 1, 2, 0, 4, 3] rfl
              have hP : va_P g.1 vwCl (List.flatten [bLaw g lo lc lz ll lm lg ld fc, bTown g o a pe wo tx ch jo tr dy sd f]) H := hP
              have hD : va_D A (List.flatten [bLaw g lo lc lz ll lm lg ld fc, bTown g o a pe wo tx ch jo tr dy sd f]) := hD
              exact ih37_9 x_2 x_3 0 0 x_50 ⟨(Int.le_trans (by decide) hx_50.2.1), (Int.le_trans hx_50.2.2 (by decide))⟩ H _ ls (by omega)  hP hD hS (lv_sub hl [0, 1, 2, 3, 4, 5, 6, 7] rfl)
            · skip
              have c51 : x_4.toInt < x_3.toInt := zlti (Int32.not_le.mp cb9) rfl rfl
              refine lv_iconst (v := 1) hx hb dX1_turnsOf_203 (by decide) ?_
              refine lv_goto (tgt := 208) hx hb dX1_turnsOf_204 (by decide) ?_
              refine lv_istore (lv' := [(6, .int 1), (9, .int 9), (8, .int x_15), (0, .ref lo), (1, .ref o), (2, .int x1), (3, .int x_2), (4, .int x_3), (5, .int x_4), (7, .int x_6)]) hx hb dX1_turnsOf_208 hl (by decide) rfl (fun ls hl => ?_)
              refine lv_iconst (v := 0) hx hb dX1_turnsOf_210 (by decide) ?_
              refine lv_istore (lv' := [(5, .int 0), (6, .int 1), (9, .int 9), (8, .int x_15), (0, .ref lo), (1, .ref o), (2, .int x1), (3, .int x_2), (4, .int x_3), (7, .int x_6)]) hx hb dX1_turnsOf_211 hl (by decide) rfl (fun ls hl => ?_)
              refine lv_goto (tgt := 362) hx hb dX1_turnsOf_213 (by decide) ?_
              refine ziinc3 (n' := 1) (a' := 1) (b' := 400) (lv' := fun v9 => [(7, .int v9), (5, .int 0), (6, .int 1), (9, .int 9), (8, .int x_15), (0, .ref lo), (1, .ref o), (2, .int x1), (3, .int x_2), (4, .int x_3)]) hx hb dX1_turnsOf_362 hl (k := 9) rfl (by decide) (fun _ => rfl) (zaddK (i := x_6.toInt) (j := 1) rfl (by decide) i7.1 n12 (Int.le_refl _) (Int.le_refl _) (by decide)) (fun x_52 ls hx_52 hl => ?_)
              refine lv_goto (tgt := 37) hx hb dX1_turnsOf_365 (by decide) ?_
              have hl := lv_sub (l' := [(0, .ref lo), (1, .ref o), (2, .int x1), (3, .int x_2), (4, .int x_3), (5, .int 0), (6, .int 1), (7, .int x_52), (8, .int x_15), (9, .int 9)]) hl [5, 6, 7, 8, 9, 1, 2, 0, 4, 3] rfl
              have hP : va_P g.1 vwCl (List.flatten [bLaw g lo lc lz ll lm lg ld fc, bTown g o a pe wo tx ch jo tr dy sd f]) H := hP
              have hD : va_D A (List.flatten [bLaw g lo lc lz ll lm lg ld fc, bTown g o a pe wo tx ch jo tr dy sd f]) := hD
              exact ih37_9 x_2 x_3 0 1 x_52 ⟨(Int.le_trans (by decide) hx_52.2.1), (Int.le_trans hx_52.2.2 (by decide))⟩ H _ ls (by omega)  hP hD hS (lv_sub hl [0, 1, 2, 3, 4, 5, 6, 7] rfl)
          by_cases hsw10 : x_17 = 10
          · subst hsw10
            refine lv_tableIn (x := 10) (off := 144) (tgt := 216) hx hb dX1_turnsOf_72 (by decide) (by decide) rfl (by decide) ?_
            refine lv_aload_n hx hb dX1_turnsOf_216 rfl (lv_at hl 3 rfl) ?_
            refine va_get (D := g.1) (ci := 7) (v := .ref (a 4)) (C := RX9) (T := TX9) (N := 19) hx hb hts izRX9 hown hK hP 2 rfl rfl 12 (by decide) (hts _ k99) (fun _ h9 => h9) rfl dX1_turnsOf_217 ?_
            refine lv_iload_n hx hb dX1_turnsOf_220 rfl (lv_at hl 4 rfl) ?_
            refine va_zald hx hb hK hP 7 1 rfl rfl (zinK (a := 0) (b := 7) b_x1.1 b_x1.2 (by decide)) dX1_turnsOf_221 ?_
            refine zg (fun x_53 => ?_)
            refine lv_istore (lv' := [(6, .int x_53), (9, .int 10), (8, .int x_15), (0, .ref lo), (1, .ref o), (2, .int x1), (3, .int x_2), (4, .int x_3), (5, .int x_4), (7, .int x_6)]) hx hb dX1_turnsOf_222 hl (by decide) rfl (fun ls hl => ?_)
            refine lv_goto (tgt := 362) hx hb dX1_turnsOf_224 (by decide) ?_
            refine ziinc3 (n' := 1) (a' := 1) (b' := 400) (lv' := fun v9 => [(7, .int v9), (6, .int x_53), (9, .int 10), (8, .int x_15), (0, .ref lo), (1, .ref o), (2, .int x1), (3, .int x_2), (4, .int x_3), (5, .int x_4)]) hx hb dX1_turnsOf_362 hl (k := 9) rfl (by decide) (fun _ => rfl) (zaddK (i := x_6.toInt) (j := 1) rfl (by decide) i7.1 n12 (Int.le_refl _) (Int.le_refl _) (by decide)) (fun x_54 ls hx_54 hl => ?_)
            refine lv_goto (tgt := 37) hx hb dX1_turnsOf_365 (by decide) ?_
            have hl := lv_sub (l' := [(0, .ref lo), (1, .ref o), (2, .int x1), (3, .int x_2), (4, .int x_3), (5, .int x_4), (6, .int x_53), (7, .int x_54), (8, .int x_15), (9, .int 10)]) hl [4, 5, 6, 7, 8, 9, 1, 0, 3, 2] rfl
            have hP : va_P g.1 vwCl (List.flatten [bLaw g lo lc lz ll lm lg ld fc, bTown g o a pe wo tx ch jo tr dy sd f]) H := hP
            have hD : va_D A (List.flatten [bLaw g lo lc lz ll lm lg ld fc, bTown g o a pe wo tx ch jo tr dy sd f]) := hD
            exact ih37_9 x_2 x_3 x_4 x_53 x_54 ⟨(Int.le_trans (by decide) hx_54.2.1), (Int.le_trans hx_54.2.2 (by decide))⟩ H _ ls (by omega)  hP hD hS (lv_sub hl [0, 1, 2, 3, 4, 5, 6, 7] rfl)
          by_cases hsw11 : x_17 = 11
          · subst hsw11
            refine lv_tableIn (x := 11) (off := 155) (tgt := 227) hx hb dX1_turnsOf_72 (by decide) (by decide) rfl (by decide) ?_
            refine lv_aload_n hx hb dX1_turnsOf_227 rfl (lv_at hl 3 rfl) ?_
            refine va_get (D := g.1) (ci := 7) (v := .ref (a 2)) (C := RX9) (T := TX9) (N := 19) hx hb hts izRX9 hown hK hP 2 rfl rfl 10 (by decide) (hts _ k102) (fun _ h9 => h9) rfl dX1_turnsOf_228 ?_
            refine lv_iload_n hx hb dX1_turnsOf_231 rfl (lv_at hl 4 rfl) ?_
            refine va_iald hx hb hK hP 5 0 rfl rfl (zinK (a := 0) (b := 7) b_x1.1 b_x1.2 (by decide)) dX1_turnsOf_232 ?_
            refine zg (fun x_55 => ?_)
            refine lv_if_le (tgt := 240) hx hb dX1_turnsOf_233 (by decide) (fun cb9 => ?_) (fun cb9 => ?_)
            · skip
              have c56 : x_55.toInt ≤ 0 := zle cb9 rfl (by decide)
              have n57 : x_55.toInt ≤ 0 := Int.le_trans c56 (Int.le_refl _)
              refine lv_iconst (v := 0) hx hb dX1_turnsOf_240 (by decide) ?_
              refine lv_istore (lv' := [(6, .int 0), (9, .int 11), (8, .int x_15), (0, .ref lo), (1, .ref o), (2, .int x1), (3, .int x_2), (4, .int x_3), (5, .int x_4), (7, .int x_6)]) hx hb dX1_turnsOf_241 hl (by decide) rfl (fun ls hl => ?_)
              refine lv_goto (tgt := 362) hx hb dX1_turnsOf_243 (by decide) ?_
              refine ziinc3 (n' := 1) (a' := 1) (b' := 400) (lv' := fun v9 => [(7, .int v9), (6, .int 0), (9, .int 11), (8, .int x_15), (0, .ref lo), (1, .ref o), (2, .int x1), (3, .int x_2), (4, .int x_3), (5, .int x_4)]) hx hb dX1_turnsOf_362 hl (k := 9) rfl (by decide) (fun _ => rfl) (zaddK (i := x_6.toInt) (j := 1) rfl (by decide) i7.1 n12 (Int.le_refl _) (Int.le_refl _) (by decide)) (fun x_58 ls hx_58 hl => ?_)
              refine lv_goto (tgt := 37) hx hb dX1_turnsOf_365 (by decide) ?_
              have hl := lv_sub (l' := [(0, .ref lo), (1, .ref o), (2, .int x1), (3, .int x_2), (4, .int x_3), (5, .int x_4), (6, .int 0), (7, .int x_58), (8, .int x_15), (9, .int 11)]) hl [4, 5, 6, 7, 8, 9, 1, 0, 3, 2] rfl
              have hP : va_P g.1 vwCl (List.flatten [bLaw g lo lc lz ll lm lg ld fc, bTown g o a pe wo tx ch jo tr dy sd f]) H := hP
              have hD : va_D A (List.flatten [bLaw g lo lc lz ll lm lg ld fc, bTown g o a pe wo tx ch jo tr dy sd f]) := hD
              exact ih37_9 x_2 x_3 x_4 0 x_58 ⟨(Int.le_trans (by decide) hx_58.2.1), (Int.le_trans hx_58.2.2 (by decide))⟩ H _ ls (by omega)  hP hD hS (lv_sub hl [0, 1, 2, 3, 4, 5, 6, 7] rfl)
            · skip
              have c59 : 0 < x_55.toInt := zlti (Int32.not_le.mp cb9) (by decide) rfl
              have n60 : 1 ≤ x_55.toInt := zL2 (a := 0) c59 (Int.le_refl _) (by decide)
              refine lv_iconst (v := 1) hx hb dX1_turnsOf_236 (by decide) ?_
              refine lv_goto (tgt := 241) hx hb dX1_turnsOf_237 (by decide) ?_
              refine lv_istore (lv' := [(6, .int 1), (9, .int 11), (8, .int x_15), (0, .ref lo), (1, .ref o), (2, .int x1), (3, .int x_2), (4, .int x_3), (5, .int x_4), (7, .int x_6)]) hx hb dX1_turnsOf_241 hl (by decide) rfl (fun ls hl => ?_)
              refine lv_goto (tgt := 362) hx hb dX1_turnsOf_243 (by decide) ?_
              refine ziinc3 (n' := 1) (a' := 1) (b' := 400) (lv' := fun v9 => [(7, .int v9), (6, .int 1), (9, .int 11), (8, .int x_15), (0, .ref lo), (1, .ref o), (2, .int x1), (3, .int x_2), (4, .int x_3), (5, .int x_4)]) hx hb dX1_turnsOf_362 hl (k := 9) rfl (by decide) (fun _ => rfl) (zaddK (i := x_6.toInt) (j := 1) rfl (by decide) i7.1 n12 (Int.le_refl _) (Int.le_refl _) (by decide)) (fun x_61 ls hx_61 hl => ?_)
              refine lv_goto (tgt := 37) hx hb dX1_turnsOf_365 (by decide) ?_
              have hl := lv_sub (l' := [(0, .ref lo), (1, .ref o), (2, .int x1), (3, .int x_2), (4, .int x_3), (5, .int x_4), (6, .int 1), (7, .int x_61), (8, .int x_15), (9, .int 11)]) hl [4, 5, 6, 7, 8, 9, 1, 0, 3, 2] rfl
              have hP : va_P g.1 vwCl (List.flatten [bLaw g lo lc lz ll lm lg ld fc, bTown g o a pe wo tx ch jo tr dy sd f]) H := hP
              have hD : va_D A (List.flatten [bLaw g lo lc lz ll lm lg ld fc, bTown g o a pe wo tx ch jo tr dy sd f]) := hD
              exact ih37_9 x_2 x_3 x_4 1 x_61 ⟨(Int.le_trans (by decide) hx_61.2.1), (Int.le_trans hx_61.2.2 (by decide))⟩ H _ ls (by omega)  hP hD hS (lv_sub hl [0, 1, 2, 3, 4, 5, 6, 7] rfl)
          by_cases hsw12 : x_17 = 12
          · subst hsw12
            refine lv_tableIn (x := 12) (off := 174) (tgt := 246) hx hb dX1_turnsOf_72 (by decide) (by decide) rfl (by decide) ?_
            refine lv_iload hx hb dX1_turnsOf_246 (lv_at hl 8 rfl) ?_
            refine lv_if_ne (tgt := 255) hx hb dX1_turnsOf_248 (by decide) (fun cb9 => ?_) (fun cb9 => ?_)
            · skip
              have c62 : ¬ x_5.toInt = 0 := zne cb9 rfl (by decide)
              refine lv_iconst (v := 0) hx hb dX1_turnsOf_255 (by decide) ?_
              refine lv_istore (lv' := [(6, .int 0), (9, .int 12), (8, .int x_15), (0, .ref lo), (1, .ref o), (2, .int x1), (3, .int x_2), (4, .int x_3), (5, .int x_4), (7, .int x_6)]) hx hb dX1_turnsOf_256 hl (by decide) rfl (fun ls hl => ?_)
              refine lv_goto (tgt := 362) hx hb dX1_turnsOf_258 (by decide) ?_
              refine ziinc3 (n' := 1) (a' := 1) (b' := 400) (lv' := fun v9 => [(7, .int v9), (6, .int 0), (9, .int 12), (8, .int x_15), (0, .ref lo), (1, .ref o), (2, .int x1), (3, .int x_2), (4, .int x_3), (5, .int x_4)]) hx hb dX1_turnsOf_362 hl (k := 9) rfl (by decide) (fun _ => rfl) (zaddK (i := x_6.toInt) (j := 1) rfl (by decide) i7.1 n12 (Int.le_refl _) (Int.le_refl _) (by decide)) (fun x_63 ls hx_63 hl => ?_)
              refine lv_goto (tgt := 37) hx hb dX1_turnsOf_365 (by decide) ?_
              have hl := lv_sub (l' := [(0, .ref lo), (1, .ref o), (2, .int x1), (3, .int x_2), (4, .int x_3), (5, .int x_4), (6, .int 0), (7, .int x_63), (8, .int x_15), (9, .int 12)]) hl [4, 5, 6, 7, 8, 9, 1, 0, 3, 2] rfl
              have hP : va_P g.1 vwCl (List.flatten [bLaw g lo lc lz ll lm lg ld fc, bTown g o a pe wo tx ch jo tr dy sd f]) H := hP
              have hD : va_D A (List.flatten [bLaw g lo lc lz ll lm lg ld fc, bTown g o a pe wo tx ch jo tr dy sd f]) := hD
              exact ih37_9 x_2 x_3 x_4 0 x_63 ⟨(Int.le_trans (by decide) hx_63.2.1), (Int.le_trans hx_63.2.2 (by decide))⟩ H _ ls (by omega)  hP hD hS (lv_sub hl [0, 1, 2, 3, 4, 5, 6, 7] rfl)
            · skip
              have c64 : x_5.toInt = 0 := zeq cb9 rfl (by decide)
              have n65 : 0 ≤ x_5.toInt := Int.le_trans (Int.le_refl _) (Int.le_of_eq c64.symm)
              have n66 : x_5.toInt ≤ 0 := Int.le_trans (Int.le_of_eq c64) (Int.le_refl _)
              refine lv_iconst (v := 1) hx hb dX1_turnsOf_251 (by decide) ?_
              refine lv_goto (tgt := 256) hx hb dX1_turnsOf_252 (by decide) ?_
              refine lv_istore (lv' := [(6, .int 1), (9, .int 12), (8, .int x_15), (0, .ref lo), (1, .ref o), (2, .int x1), (3, .int x_2), (4, .int x_3), (5, .int x_4), (7, .int x_6)]) hx hb dX1_turnsOf_256 hl (by decide) rfl (fun ls hl => ?_)
              refine lv_goto (tgt := 362) hx hb dX1_turnsOf_258 (by decide) ?_
              refine ziinc3 (n' := 1) (a' := 1) (b' := 400) (lv' := fun v9 => [(7, .int v9), (6, .int 1), (9, .int 12), (8, .int x_15), (0, .ref lo), (1, .ref o), (2, .int x1), (3, .int x_2), (4, .int x_3), (5, .int x_4)]) hx hb dX1_turnsOf_362 hl (k := 9) rfl (by decide) (fun _ => rfl) (zaddK (i := x_6.toInt) (j := 1) rfl (by decide) i7.1 n12 (Int.le_refl _) (Int.le_refl _) (by decide)) (fun x_67 ls hx_67 hl => ?_)
              refine lv_goto (tgt := 37) hx hb dX1_turnsOf_365 (by decide) ?_
              have hl := lv_sub (l' := [(0, .ref lo), (1, .ref o), (2, .int x1), (3, .int x_2), (4, .int x_3), (5, .int x_4), (6, .int 1), (7, .int x_67), (8, .int x_15), (9, .int 12)]) hl [4, 5, 6, 7, 8, 9, 1, 0, 3, 2] rfl
              have hP : va_P g.1 vwCl (List.flatten [bLaw g lo lc lz ll lm lg ld fc, bTown g o a pe wo tx ch jo tr dy sd f]) H := hP
              have hD : va_D A (List.flatten [bLaw g lo lc lz ll lm lg ld fc, bTown g o a pe wo tx ch jo tr dy sd f]) := hD
              exact ih37_9 x_2 x_3 x_4 1 x_67 ⟨(Int.le_trans (by decide) hx_67.2.1), (Int.le_trans hx_67.2.2 (by decide))⟩ H _ ls (by omega)  hP hD hS (lv_sub hl [0, 1, 2, 3, 4, 5, 6, 7] rfl)
          by_cases hsw13 : x_17 = 13
          · subst hsw13
            refine lv_tableIn (x := 13) (off := 189) (tgt := 261) hx hb dX1_turnsOf_72 (by decide) (by decide) rfl (by decide) ?_
            refine lv_iload hx hb dX1_turnsOf_261 (lv_at hl 8 rfl) ?_
            refine lv_if_eq (tgt := 271) hx hb dX1_turnsOf_263 (by decide) (fun cb9 => ?_) (fun cb9 => ?_)
            · skip
              have c68 : x_5.toInt = 0 := zeq cb9 rfl (by decide)
              have n69 : 0 ≤ x_5.toInt := Int.le_trans (Int.le_refl _) (Int.le_of_eq c68.symm)
              have n70 : x_5.toInt ≤ 0 := Int.le_trans (Int.le_of_eq c68) (Int.le_refl _)
              refine lv_iload hx hb dX1_turnsOf_271 (lv_at hl 9 rfl) ?_
              refine lv_iload hx hb dX1_turnsOf_273 (lv_at hl 1 rfl) ?_
              refine lv_iconst (v := 1) hx hb dX1_turnsOf_275 (by decide) ?_
              refine lv_isub hx hb dX1_turnsOf_276 ?_
              refine zg3 (zsubK (i := x_15.toInt) (j := 1) (a' := (-67108865)) (b' := 67108862) rfl (by decide) hx_15.1 hx_15.2 (Int.le_refl _) (Int.le_refl _) (by decide)) (fun x_71 hx_71 => ?_)
              refine va_mmax hx hb (by rw [hml]; exact hl.1.symm) hown (hts _ k103) (hts _ k45) (hts _ k42) (hts _ k46) (Nat.le_of_ble_eq_true rfl) (Nat.le_of_ble_eq_true rfl) (Nat.le_of_ble_eq_true rfl) (Nat.le_of_ble_eq_true rfl) dX1_turnsOf_277 ?_
              refine zgmx (i := x_6.toInt) (j := x_71.toInt) rfl rfl (fun x_72 hx_72 => ?_)
              refine lv_istore (lv' := [(7, .int x_72), (9, .int 13), (8, .int x_15), (0, .ref lo), (1, .ref o), (2, .int x1), (3, .int x_2), (4, .int x_3), (5, .int x_4), (6, .int x_5)]) hx hb dX1_turnsOf_280 hl (by decide) rfl (fun ls hl => ?_)
              refine lv_goto (tgt := 362) hx hb dX1_turnsOf_282 (by decide) ?_
              refine ziinc (j := x_72.toInt + 1) (lv' := fun v9 => [(7, .int v9), (9, .int 13), (8, .int x_15), (0, .ref lo), (1, .ref o), (2, .int x1), (3, .int x_2), (4, .int x_3), (5, .int x_4), (6, .int x_5)]) hx hb dX1_turnsOf_362 hl (k := 0) rfl (by decide) (fun _ => rfl) (zadd (i := x_72.toInt) (j := 1) rfl (by decide) (by omega)) (fun x_73 ls hx_73 hl => ?_)
              refine lv_goto (tgt := 37) hx hb dX1_turnsOf_365 (by decide) ?_
              have hl := lv_sub (l' := [(0, .ref lo), (1, .ref o), (2, .int x1), (3, .int x_2), (4, .int x_3), (5, .int x_4), (6, .int x_5), (7, .int x_73), (8, .int x_15), (9, .int 13)]) hl [3, 4, 5, 6, 7, 8, 9, 0, 2, 1] rfl
              have hP : va_P g.1 vwCl (List.flatten [bLaw g lo lc lz ll lm lg ld fc, bTown g o a pe wo tx ch jo tr dy sd f]) H := hP
              have hD : va_D A (List.flatten [bLaw g lo lc lz ll lm lg ld fc, bTown g o a pe wo tx ch jo tr dy sd f]) := hD
              exact ih37_9 x_2 x_3 x_4 x_5 x_73 (by first | omega | assumption | decide) H _ ls (by omega)  hP hD hS (lv_sub hl [0, 1, 2, 3, 4, 5, 6, 7] rfl)
            · skip
              have c74 : ¬ x_5.toInt = 0 := zne cb9 rfl (by decide)
              refine lv_iload hx hb dX1_turnsOf_266 (lv_at hl 9 rfl) ?_
              refine lv_goto (tgt := 280) hx hb dX1_turnsOf_268 (by decide) ?_
              refine lv_istore (lv' := [(7, .int x_6), (9, .int 13), (8, .int x_15), (0, .ref lo), (1, .ref o), (2, .int x1), (3, .int x_2), (4, .int x_3), (5, .int x_4), (6, .int x_5)]) hx hb dX1_turnsOf_280 hl (by decide) rfl (fun ls hl => ?_)
              refine lv_goto (tgt := 362) hx hb dX1_turnsOf_282 (by decide) ?_
              refine ziinc3 (n' := 1) (a' := 1) (b' := 400) (lv' := fun v9 => [(7, .int v9), (9, .int 13), (8, .int x_15), (0, .ref lo), (1, .ref o), (2, .int x1), (3, .int x_2), (4, .int x_3), (5, .int x_4), (6, .int x_5)]) hx hb dX1_turnsOf_362 hl (k := 0) rfl (by decide) (fun _ => rfl) (zaddK (i := x_6.toInt) (j := 1) rfl (by decide) i7.1 n12 (Int.le_refl _) (Int.le_refl _) (by decide)) (fun x_75 ls hx_75 hl => ?_)
              refine lv_goto (tgt := 37) hx hb dX1_turnsOf_365 (by decide) ?_
              have hl := lv_sub (l' := [(0, .ref lo), (1, .ref o), (2, .int x1), (3, .int x_2), (4, .int x_3), (5, .int x_4), (6, .int x_5), (7, .int x_75), (8, .int x_15), (9, .int 13)]) hl [3, 4, 5, 6, 7, 8, 9, 0, 2, 1] rfl
              have hP : va_P g.1 vwCl (List.flatten [bLaw g lo lc lz ll lm lg ld fc, bTown g o a pe wo tx ch jo tr dy sd f]) H := hP
              have hD : va_D A (List.flatten [bLaw g lo lc lz ll lm lg ld fc, bTown g o a pe wo tx ch jo tr dy sd f]) := hD
              exact ih37_9 x_2 x_3 x_4 x_5 x_75 ⟨(Int.le_trans (by decide) hx_75.2.1), (Int.le_trans hx_75.2.2 (by decide))⟩ H _ ls (by omega)  hP hD hS (lv_sub hl [0, 1, 2, 3, 4, 5, 6, 7] rfl)
          by_cases hsw14 : x_17 = 14
          · subst hsw14
            refine lv_tableIn (x := 14) (off := 213) (tgt := 285) hx hb dX1_turnsOf_72 (by decide) (by decide) rfl (by decide) ?_
            refine lv_iload hx hb dX1_turnsOf_285 (lv_at hl 8 rfl) ?_
            refine lv_if_eq (tgt := 302) hx hb dX1_turnsOf_287 (by decide) (fun cb9 => ?_) (fun cb9 => ?_)
            · skip
              have c76 : x_5.toInt = 0 := zeq cb9 rfl (by decide)
              have n77 : 0 ≤ x_5.toInt := Int.le_trans (Int.le_refl _) (Int.le_of_eq c76.symm)
              have n78 : x_5.toInt ≤ 0 := Int.le_trans (Int.le_of_eq c76) (Int.le_refl _)
              refine lv_iload hx hb dX1_turnsOf_302 (lv_at hl 9 rfl) ?_
              refine lv_istore (lv' := [(7, .int x_6), (9, .int 14), (8, .int x_15), (0, .ref lo), (1, .ref o), (2, .int x1), (3, .int x_2), (4, .int x_3), (5, .int x_4), (6, .int x_5)]) hx hb dX1_turnsOf_304 hl (by decide) rfl (fun ls hl => ?_)
              refine lv_goto (tgt := 362) hx hb dX1_turnsOf_306 (by decide) ?_
              refine ziinc3 (n' := 1) (a' := 1) (b' := 400) (lv' := fun v9 => [(7, .int v9), (9, .int 14), (8, .int x_15), (0, .ref lo), (1, .ref o), (2, .int x1), (3, .int x_2), (4, .int x_3), (5, .int x_4), (6, .int x_5)]) hx hb dX1_turnsOf_362 hl (k := 0) rfl (by decide) (fun _ => rfl) (zaddK (i := x_6.toInt) (j := 1) rfl (by decide) i7.1 n12 (Int.le_refl _) (Int.le_refl _) (by decide)) (fun x_79 ls hx_79 hl => ?_)
              refine lv_goto (tgt := 37) hx hb dX1_turnsOf_365 (by decide) ?_
              have hl := lv_sub (l' := [(0, .ref lo), (1, .ref o), (2, .int x1), (3, .int x_2), (4, .int x_3), (5, .int x_4), (6, .int x_5), (7, .int x_79), (8, .int x_15), (9, .int 14)]) hl [3, 4, 5, 6, 7, 8, 9, 0, 2, 1] rfl
              have hP : va_P g.1 vwCl (List.flatten [bLaw g lo lc lz ll lm lg ld fc, bTown g o a pe wo tx ch jo tr dy sd f]) H := hP
              have hD : va_D A (List.flatten [bLaw g lo lc lz ll lm lg ld fc, bTown g o a pe wo tx ch jo tr dy sd f]) := hD
              exact ih37_9 x_2 x_3 x_4 x_5 x_79 ⟨(Int.le_trans (by decide) hx_79.2.1), (Int.le_trans hx_79.2.2 (by decide))⟩ H _ ls (by omega)  hP hD hS (lv_sub hl [0, 1, 2, 3, 4, 5, 6, 7] rfl)
            · skip
              have c80 : ¬ x_5.toInt = 0 := zne cb9 rfl (by decide)
              refine lv_iload hx hb dX1_turnsOf_290 (lv_at hl 9 rfl) ?_
              refine lv_iload hx hb dX1_turnsOf_292 (lv_at hl 1 rfl) ?_
              refine lv_iconst (v := 1) hx hb dX1_turnsOf_294 (by decide) ?_
              refine lv_isub hx hb dX1_turnsOf_295 ?_
              refine zg3 (zsubK (i := x_15.toInt) (j := 1) (a' := (-67108865)) (b' := 67108862) rfl (by decide) hx_15.1 hx_15.2 (Int.le_refl _) (Int.le_refl _) (by decide)) (fun x_81 hx_81 => ?_)
              refine va_mmax hx hb (by rw [hml]; exact hl.1.symm) hown (hts _ k103) (hts _ k45) (hts _ k42) (hts _ k46) (Nat.le_of_ble_eq_true rfl) (Nat.le_of_ble_eq_true rfl) (Nat.le_of_ble_eq_true rfl) (Nat.le_of_ble_eq_true rfl) dX1_turnsOf_296 ?_
              refine zgmx (i := x_6.toInt) (j := x_81.toInt) rfl rfl (fun x_82 hx_82 => ?_)
              refine lv_goto (tgt := 304) hx hb dX1_turnsOf_299 (by decide) ?_
              refine lv_istore (lv' := [(7, .int x_82), (9, .int 14), (8, .int x_15), (0, .ref lo), (1, .ref o), (2, .int x1), (3, .int x_2), (4, .int x_3), (5, .int x_4), (6, .int x_5)]) hx hb dX1_turnsOf_304 hl (by decide) rfl (fun ls hl => ?_)
              refine lv_goto (tgt := 362) hx hb dX1_turnsOf_306 (by decide) ?_
              refine ziinc (j := x_82.toInt + 1) (lv' := fun v9 => [(7, .int v9), (9, .int 14), (8, .int x_15), (0, .ref lo), (1, .ref o), (2, .int x1), (3, .int x_2), (4, .int x_3), (5, .int x_4), (6, .int x_5)]) hx hb dX1_turnsOf_362 hl (k := 0) rfl (by decide) (fun _ => rfl) (zadd (i := x_82.toInt) (j := 1) rfl (by decide) (by omega)) (fun x_83 ls hx_83 hl => ?_)
              refine lv_goto (tgt := 37) hx hb dX1_turnsOf_365 (by decide) ?_
              have hl := lv_sub (l' := [(0, .ref lo), (1, .ref o), (2, .int x1), (3, .int x_2), (4, .int x_3), (5, .int x_4), (6, .int x_5), (7, .int x_83), (8, .int x_15), (9, .int 14)]) hl [3, 4, 5, 6, 7, 8, 9, 0, 2, 1] rfl
              have hP : va_P g.1 vwCl (List.flatten [bLaw g lo lc lz ll lm lg ld fc, bTown g o a pe wo tx ch jo tr dy sd f]) H := hP
              have hD : va_D A (List.flatten [bLaw g lo lc lz ll lm lg ld fc, bTown g o a pe wo tx ch jo tr dy sd f]) := hD
              exact ih37_9 x_2 x_3 x_4 x_5 x_83 (by first | omega | assumption | decide) H _ ls (by omega)  hP hD hS (lv_sub hl [0, 1, 2, 3, 4, 5, 6, 7] rfl)
          by_cases hsw15 : x_17 = 15
          · subst hsw15
            refine lv_tableIn (x := 15) (off := 237) (tgt := 309) hx hb dX1_turnsOf_72 (by decide) (by decide) rfl (by decide) ?_
            refine lv_iload_n hx hb dX1_turnsOf_309 rfl (lv_at hl 5 rfl) ?_
            refine lv_iload hx hb dX1_turnsOf_310 (lv_at hl 8 rfl) ?_
            refine lv_if_eq (tgt := 320) hx hb dX1_turnsOf_312 (by decide) (fun cb9 => ?_) (fun cb9 => ?_)
            · skip
              have c84 : x_5.toInt = 0 := zeq cb9 rfl (by decide)
              have n85 : 0 ≤ x_5.toInt := Int.le_trans (Int.le_refl _) (Int.le_of_eq c84.symm)
              have n86 : x_5.toInt ≤ 0 := Int.le_trans (Int.le_of_eq c84) (Int.le_refl _)
              refine lv_iconst (v := 0) hx hb dX1_turnsOf_320 (by decide) ?_
              refine lv_iadd hx hb dX1_turnsOf_321 ?_
              refine zg (fun x_87 => ?_)
              refine lv_istore_n (lv' := [(3, .int x_87), (9, .int 15), (8, .int x_15), (0, .ref lo), (1, .ref o), (2, .int x1), (4, .int x_3), (5, .int x_4), (6, .int x_5), (7, .int x_6)]) hx hb dX1_turnsOf_322 rfl hl (by decide) rfl (fun ls hl => ?_)
              refine lv_iconst (v := 1) hx hb dX1_turnsOf_323 (by decide) ?_
              refine lv_istore (lv' := [(6, .int 1), (3, .int x_87), (9, .int 15), (8, .int x_15), (0, .ref lo), (1, .ref o), (2, .int x1), (4, .int x_3), (5, .int x_4), (7, .int x_6)]) hx hb dX1_turnsOf_324 hl (by decide) rfl (fun ls hl => ?_)
              refine lv_goto (tgt := 362) hx hb dX1_turnsOf_326 (by decide) ?_
              refine ziinc3 (n' := 1) (a' := 1) (b' := 400) (lv' := fun v9 => [(7, .int v9), (6, .int 1), (3, .int x_87), (9, .int 15), (8, .int x_15), (0, .ref lo), (1, .ref o), (2, .int x1), (4, .int x_3), (5, .int x_4)]) hx hb dX1_turnsOf_362 hl (k := 9) rfl (by decide) (fun _ => rfl) (zaddK (i := x_6.toInt) (j := 1) rfl (by decide) i7.1 n12 (Int.le_refl _) (Int.le_refl _) (by decide)) (fun x_88 ls hx_88 hl => ?_)
              refine lv_goto (tgt := 37) hx hb dX1_turnsOf_365 (by decide) ?_
              have hl := lv_sub (l' := [(0, .ref lo), (1, .ref o), (2, .int x1), (3, .int x_87), (4, .int x_3), (5, .int x_4), (6, .int 1), (7, .int x_88), (8, .int x_15), (9, .int 15)]) hl [5, 6, 7, 2, 8, 9, 1, 0, 4, 3] rfl
              have hP : va_P g.1 vwCl (List.flatten [bLaw g lo lc lz ll lm lg ld fc, bTown g o a pe wo tx ch jo tr dy sd f]) H := hP
              have hD : va_D A (List.flatten [bLaw g lo lc lz ll lm lg ld fc, bTown g o a pe wo tx ch jo tr dy sd f]) := hD
              exact ih37_9 x_87 x_3 x_4 1 x_88 ⟨(Int.le_trans (by decide) hx_88.2.1), (Int.le_trans hx_88.2.2 (by decide))⟩ H _ ls (by omega)  hP hD hS (lv_sub hl [0, 1, 2, 3, 4, 5, 6, 7] rfl)
            · skip
              have c89 : ¬ x_5.toInt = 0 := zne cb9 rfl (by decide)
              refine lv_iload hx hb dX1_turnsOf_315 (lv_at hl 1 rfl) ?_
              refine lv_goto (tgt := 321) hx hb dX1_turnsOf_317 (by decide) ?_
              refine lv_iadd hx hb dX1_turnsOf_321 ?_
              refine zg (fun x_90 => ?_)
              refine lv_istore_n (lv' := [(3, .int x_90), (9, .int 15), (8, .int x_15), (0, .ref lo), (1, .ref o), (2, .int x1), (4, .int x_3), (5, .int x_4), (6, .int x_5), (7, .int x_6)]) hx hb dX1_turnsOf_322 rfl hl (by decide) rfl (fun ls hl => ?_)
              refine lv_iconst (v := 1) hx hb dX1_turnsOf_323 (by decide) ?_
              refine lv_istore (lv' := [(6, .int 1), (3, .int x_90), (9, .int 15), (8, .int x_15), (0, .ref lo), (1, .ref o), (2, .int x1), (4, .int x_3), (5, .int x_4), (7, .int x_6)]) hx hb dX1_turnsOf_324 hl (by decide) rfl (fun ls hl => ?_)
              refine lv_goto (tgt := 362) hx hb dX1_turnsOf_326 (by decide) ?_
              refine ziinc3 (n' := 1) (a' := 1) (b' := 400) (lv' := fun v9 => [(7, .int v9), (6, .int 1), (3, .int x_90), (9, .int 15), (8, .int x_15), (0, .ref lo), (1, .ref o), (2, .int x1), (4, .int x_3), (5, .int x_4)]) hx hb dX1_turnsOf_362 hl (k := 9) rfl (by decide) (fun _ => rfl) (zaddK (i := x_6.toInt) (j := 1) rfl (by decide) i7.1 n12 (Int.le_refl _) (Int.le_refl _) (by decide)) (fun x_91 ls hx_91 hl => ?_)
              refine lv_goto (tgt := 37) hx hb dX1_turnsOf_365 (by decide) ?_
              have hl := lv_sub (l' := [(0, .ref lo), (1, .ref o), (2, .int x1), (3, .int x_90), (4, .int x_3), (5, .int x_4), (6, .int 1), (7, .int x_91), (8, .int x_15), (9, .int 15)]) hl [5, 6, 7, 2, 8, 9, 1, 0, 4, 3] rfl
              have hP : va_P g.1 vwCl (List.flatten [bLaw g lo lc lz ll lm lg ld fc, bTown g o a pe wo tx ch jo tr dy sd f]) H := hP
              have hD : va_D A (List.flatten [bLaw g lo lc lz ll lm lg ld fc, bTown g o a pe wo tx ch jo tr dy sd f]) := hD
              exact ih37_9 x_90 x_3 x_4 1 x_91 ⟨(Int.le_trans (by decide) hx_91.2.1), (Int.le_trans hx_91.2.2 (by decide))⟩ H _ ls (by omega)  hP hD hS (lv_sub hl [0, 1, 2, 3, 4, 5, 6, 7] rfl)
          by_cases hsw16 : x_17 = 16
          · subst hsw16
            refine lv_tableIn (x := 16) (off := 257) (tgt := 329) hx hb dX1_turnsOf_72 (by decide) (by decide) rfl (by decide) ?_
            refine lv_iload_n hx hb dX1_turnsOf_329 rfl (lv_at hl 5 rfl) ?_
            refine lv_iload hx hb dX1_turnsOf_330 (lv_at hl 8 rfl) ?_
            refine lv_if_eq (tgt := 340) hx hb dX1_turnsOf_332 (by decide) (fun cb9 => ?_) (fun cb9 => ?_)
            · skip
              have c92 : x_5.toInt = 0 := zeq cb9 rfl (by decide)
              have n93 : 0 ≤ x_5.toInt := Int.le_trans (Int.le_refl _) (Int.le_of_eq c92.symm)
              have n94 : x_5.toInt ≤ 0 := Int.le_trans (Int.le_of_eq c92) (Int.le_refl _)
              refine lv_iconst (v := 0) hx hb dX1_turnsOf_340 (by decide) ?_
              refine lv_isub hx hb dX1_turnsOf_341 ?_
              refine zg (fun x_95 => ?_)
              refine lv_istore_n (lv' := [(3, .int x_95), (9, .int 16), (8, .int x_15), (0, .ref lo), (1, .ref o), (2, .int x1), (4, .int x_3), (5, .int x_4), (6, .int x_5), (7, .int x_6)]) hx hb dX1_turnsOf_342 rfl hl (by decide) rfl (fun ls hl => ?_)
              refine lv_iconst (v := 1) hx hb dX1_turnsOf_343 (by decide) ?_
              refine lv_istore (lv' := [(6, .int 1), (3, .int x_95), (9, .int 16), (8, .int x_15), (0, .ref lo), (1, .ref o), (2, .int x1), (4, .int x_3), (5, .int x_4), (7, .int x_6)]) hx hb dX1_turnsOf_344 hl (by decide) rfl (fun ls hl => ?_)
              refine lv_goto (tgt := 362) hx hb dX1_turnsOf_346 (by decide) ?_
              refine ziinc3 (n' := 1) (a' := 1) (b' := 400) (lv' := fun v9 => [(7, .int v9), (6, .int 1), (3, .int x_95), (9, .int 16), (8, .int x_15), (0, .ref lo), (1, .ref o), (2, .int x1), (4, .int x_3), (5, .int x_4)]) hx hb dX1_turnsOf_362 hl (k := 9) rfl (by decide) (fun _ => rfl) (zaddK (i := x_6.toInt) (j := 1) rfl (by decide) i7.1 n12 (Int.le_refl _) (Int.le_refl _) (by decide)) (fun x_96 ls hx_96 hl => ?_)
              refine lv_goto (tgt := 37) hx hb dX1_turnsOf_365 (by decide) ?_
              have hl := lv_sub (l' := [(0, .ref lo), (1, .ref o), (2, .int x1), (3, .int x_95), (4, .int x_3), (5, .int x_4), (6, .int 1), (7, .int x_96), (8, .int x_15), (9, .int 16)]) hl [5, 6, 7, 2, 8, 9, 1, 0, 4, 3] rfl
              have hP : va_P g.1 vwCl (List.flatten [bLaw g lo lc lz ll lm lg ld fc, bTown g o a pe wo tx ch jo tr dy sd f]) H := hP
              have hD : va_D A (List.flatten [bLaw g lo lc lz ll lm lg ld fc, bTown g o a pe wo tx ch jo tr dy sd f]) := hD
              exact ih37_9 x_95 x_3 x_4 1 x_96 ⟨(Int.le_trans (by decide) hx_96.2.1), (Int.le_trans hx_96.2.2 (by decide))⟩ H _ ls (by omega)  hP hD hS (lv_sub hl [0, 1, 2, 3, 4, 5, 6, 7] rfl)
            · skip
              have c97 : ¬ x_5.toInt = 0 := zne cb9 rfl (by decide)
              refine lv_iload hx hb dX1_turnsOf_335 (lv_at hl 1 rfl) ?_
              refine lv_goto (tgt := 341) hx hb dX1_turnsOf_337 (by decide) ?_
              refine lv_isub hx hb dX1_turnsOf_341 ?_
              refine zg (fun x_98 => ?_)
              refine lv_istore_n (lv' := [(3, .int x_98), (9, .int 16), (8, .int x_15), (0, .ref lo), (1, .ref o), (2, .int x1), (4, .int x_3), (5, .int x_4), (6, .int x_5), (7, .int x_6)]) hx hb dX1_turnsOf_342 rfl hl (by decide) rfl (fun ls hl => ?_)
              refine lv_iconst (v := 1) hx hb dX1_turnsOf_343 (by decide) ?_
              refine lv_istore (lv' := [(6, .int 1), (3, .int x_98), (9, .int 16), (8, .int x_15), (0, .ref lo), (1, .ref o), (2, .int x1), (4, .int x_3), (5, .int x_4), (7, .int x_6)]) hx hb dX1_turnsOf_344 hl (by decide) rfl (fun ls hl => ?_)
              refine lv_goto (tgt := 362) hx hb dX1_turnsOf_346 (by decide) ?_
              refine ziinc3 (n' := 1) (a' := 1) (b' := 400) (lv' := fun v9 => [(7, .int v9), (6, .int 1), (3, .int x_98), (9, .int 16), (8, .int x_15), (0, .ref lo), (1, .ref o), (2, .int x1), (4, .int x_3), (5, .int x_4)]) hx hb dX1_turnsOf_362 hl (k := 9) rfl (by decide) (fun _ => rfl) (zaddK (i := x_6.toInt) (j := 1) rfl (by decide) i7.1 n12 (Int.le_refl _) (Int.le_refl _) (by decide)) (fun x_99 ls hx_99 hl => ?_)
              refine lv_goto (tgt := 37) hx hb dX1_turnsOf_365 (by decide) ?_
              have hl := lv_sub (l' := [(0, .ref lo), (1, .ref o), (2, .int x1), (3, .int x_98), (4, .int x_3), (5, .int x_4), (6, .int 1), (7, .int x_99), (8, .int x_15), (9, .int 16)]) hl [5, 6, 7, 2, 8, 9, 1, 0, 4, 3] rfl
              have hP : va_P g.1 vwCl (List.flatten [bLaw g lo lc lz ll lm lg ld fc, bTown g o a pe wo tx ch jo tr dy sd f]) H := hP
              have hD : va_D A (List.flatten [bLaw g lo lc lz ll lm lg ld fc, bTown g o a pe wo tx ch jo tr dy sd f]) := hD
              exact ih37_9 x_98 x_3 x_4 1 x_99 ⟨(Int.le_trans (by decide) hx_99.2.1), (Int.le_trans hx_99.2.2 (by decide))⟩ H _ ls (by omega)  hP hD hS (lv_sub hl [0, 1, 2, 3, 4, 5, 6, 7] rfl)
          refine lv_tableOut (tgt := 349) hx hb dX1_turnsOf_72 (by have := lv_neT hsw0 (show Int32.toInt 0 = 0 from by decide); have := lv_neT hsw1 (show Int32.toInt 1 = 1 from by decide); have := lv_neT hsw2 (show Int32.toInt 2 = 2 from by decide); have := lv_neT hsw3 (show Int32.toInt 3 = 3 from by decide); have := lv_neT hsw4 (show Int32.toInt 4 = 4 from by decide); have := lv_neT hsw5 (show Int32.toInt 5 = 5 from by decide); have := lv_neT hsw6 (show Int32.toInt 6 = 6 from by decide); have := lv_neT hsw7 (show Int32.toInt 7 = 7 from by decide); have := lv_neT hsw8 (show Int32.toInt 8 = 8 from by decide); have := lv_neT hsw9 (show Int32.toInt 9 = 9 from by decide); have := lv_neT hsw10 (show Int32.toInt 10 = 10 from by decide); have := lv_neT hsw11 (show Int32.toInt 11 = 11 from by decide); have := lv_neT hsw12 (show Int32.toInt 12 = 12 from by decide); have := lv_neT hsw13 (show Int32.toInt 13 = 13 from by decide); have := lv_neT hsw14 (show Int32.toInt 14 = 14 from by decide); have := lv_neT hsw15 (show Int32.toInt 15 = 15 from by decide); have := lv_neT hsw16 (show Int32.toInt 16 = 16 from by decide); omega) (by decide) ?_
          refine lv_iload hx hb dX1_turnsOf_349 (lv_at hl 7 rfl) ?_
          refine lv_aload_n hx hb dX1_turnsOf_351 rfl (lv_at hl 2 rfl) ?_
          refine lv_aload_n hx hb dX1_turnsOf_352 rfl (lv_at hl 3 rfl) ?_
          refine lv_iload_n hx hb dX1_turnsOf_353 rfl (lv_at hl 4 rfl) ?_
          refine lv_iload hx hb dX1_turnsOf_354 (lv_at hl 0 rfl) ?_
          refine mcallV' (g := g) (q0 := 0) (ci := 1) (As := [.ref o, .int x1, .int x_17]) (rest := [.int x_4]) St hK hT hA hP hD hS hl.1 [0, 1] [] rfl rfl rfl (c_l_partOf l g lo lc lz ll lm lg ld fc o a pe wo tx ch jo tr dy sd f x1 x_17 b_pe b_wo rf b_x1) (cwV 3 hts (zgL (zl4 k104 k105 k106 k85) k93) rfl rfl rfl (by decide +kernel) ⟨Nat.le_of_ble_eq_true rfl, Nat.le_of_ble_eq_true rfl⟩) rfl rfl rfl rfl (Nat.le_of_ble_eq_true rfl) dX1_turnsOf_356 ⟨(Nat.le_of_ble_eq_true rfl), (Nat.le_of_ble_eq_true rfl)⟩ (fun q_100 H locs hq101 hP hD hS => ?_)
          have hP : va_P g.1 vwCl (List.flatten [bLaw g lo lc lz ll lm lg ld fc, bTown g o a pe wo tx ch jo tr dy sd f]) H := hP
          have hD : va_D A (List.flatten [bLaw g lo lc lz ll lm lg ld fc, bTown g o a pe wo tx ch jo tr dy sd f]) := hD
          refine W.widen (k := 0) (n := 0) (Nat.le_of_ble_eq_true rfl) (Nat.le_of_ble_eq_true rfl) ?_
          refine W.eq (g2 := F0 m 359 ls [.int q_100, .int x_4]) rfl ?_
          refine lv_iadd hx hb dX1_turnsOf_359 ?_
          refine zg (fun x_102 => ?_)
          refine lv_istore (lv' := [(5, .int x_102), (9, .int x_17), (8, .int x_15), (0, .ref lo), (1, .ref o), (2, .int x1), (3, .int x_2), (4, .int x_3), (6, .int x_5), (7, .int x_6)]) hx hb dX1_turnsOf_360 hl (by decide) rfl (fun ls hl => ?_)
          refine ziinc3 (n' := 1) (a' := 1) (b' := 400) (lv' := fun v9 => [(7, .int v9), (5, .int x_102), (9, .int x_17), (8, .int x_15), (0, .ref lo), (1, .ref o), (2, .int x1), (3, .int x_2), (4, .int x_3), (6, .int x_5)]) hx hb dX1_turnsOf_362 hl (k := 9) rfl (by decide) (fun _ => rfl) (zaddK (i := x_6.toInt) (j := 1) rfl (by decide) i7.1 n12 (Int.le_refl _) (Int.le_refl _) (by decide)) (fun x_103 ls hx_103 hl => ?_)
          refine lv_goto (tgt := 37) hx hb dX1_turnsOf_365 (by decide) ?_
          have hl := lv_sub (l' := [(0, .ref lo), (1, .ref o), (2, .int x1), (3, .int x_2), (4, .int x_3), (5, .int x_102), (6, .int x_5), (7, .int x_103), (8, .int x_15), (9, .int x_17)]) hl [4, 5, 6, 7, 8, 1, 9, 0, 3, 2] rfl
          have hP : va_P g.1 vwCl (List.flatten [bLaw g lo lc lz ll lm lg ld fc, bTown g o a pe wo tx ch jo tr dy sd f]) H := hP
          have hD : va_D A (List.flatten [bLaw g lo lc lz ll lm lg ld fc, bTown g o a pe wo tx ch jo tr dy sd f]) := hD
          exact ih37_9 x_2 x_3 x_102 x_5 x_103 ⟨(Int.le_trans (by decide) hx_103.2.1), (Int.le_trans hx_103.2.2 (by decide))⟩ H _ ls (by omega)  hP hD hS (lv_sub hl [0, 1, 2, 3, 4, 5, 6, 7] rfl)
    have hP : va_P g.1 vwCl (List.flatten [bLaw g lo lc lz ll lm lg ld fc, bTown g o a pe wo tx ch jo tr dy sd f]) s.heap := hP
    have hD : va_D A (List.flatten [bLaw g lo lc lz ll lm lg ld fc, bTown g o a pe wo tx ch jo tr dy sd f]) := hD
    exact LP37_8 _ 0 0 0 1 0 (by decide) s.heap _ ls (Nat.lt_succ_self _)  hP hD hS (lv_sub hl [0, 1, 2, 3, 4, 5, 6, 7] rfl)
  · skip
    have c104 : ll.toInt = (-1) := zeq cb9 rfl (by decide)
    have n105 : (-1) ≤ ll.toInt := Int.le_trans (Int.le_refl _) (Int.le_of_eq c104.symm)
    have n106 : ll.toInt ≤ (-1) := Int.le_trans (Int.le_of_eq c104) (Int.le_refl _)
    refine lv_aload_n hx hb dX1_turnsOf_8 rfl (lv_at hl 1 rfl) ?_
    refine va_get (D := g.1) (ci := 7) (v := .ref (a 4)) (C := RX9) (T := TX9) (N := 19) hx hb hts izRX9 hown hK hP 2 rfl rfl 12 (by decide) (hts _ k99) (fun _ h9 => h9) rfl dX1_turnsOf_9 ?_
    refine lv_iload_n hx hb dX1_turnsOf_12 rfl (lv_at hl 2 rfl) ?_
    refine va_zald hx hb hK hP 7 1 rfl rfl (zinK (a := 0) (b := 7) b_x1.1 b_x1.2 (by decide)) dX1_turnsOf_13 ?_
    refine zg (fun x_107 => ?_)
    refine lv_if_eq (tgt := 21) hx hb dX1_turnsOf_14 (by decide) (fun cb9 => ?_) (fun cb9 => ?_)
    · skip
      have c108 : x_107.toInt = 0 := zeq cb9 rfl (by decide)
      have n109 : 0 ≤ x_107.toInt := Int.le_trans (Int.le_refl _) (Int.le_of_eq c108.symm)
      have n110 : x_107.toInt ≤ 0 := Int.le_trans (Int.le_of_eq c108) (Int.le_refl _)
      refine lv_iconst (v := 0) hx hb dX1_turnsOf_21 (by decide) ?_
      have hP : va_P g.1 vwCl (List.flatten [bLaw g lo lc lz ll lm lg ld fc, bTown g o a pe wo tx ch jo tr dy sd f]) s.heap := hP
      have hD : va_D A (List.flatten [bLaw g lo lc lz ll lm lg ld fc, bTown g o a pe wo tx ch jo tr dy sd f]) := hD
      exact mret_i hx hb hr hlocks hS (Nat.le_of_ble_eq_true rfl) (Nat.le_of_ble_eq_true rfl) dX1_turnsOf_22 ((0 : Int32)) rfl trivial hP hD
    · skip
      have c111 : ¬ x_107.toInt = 0 := zne cb9 rfl (by decide)
      refine lv_iconst (v := (-1)) hx hb dX1_turnsOf_17 (by decide) ?_
      refine lv_goto (tgt := 22) hx hb dX1_turnsOf_18 (by decide) ?_
      have hP : va_P g.1 vwCl (List.flatten [bLaw g lo lc lz ll lm lg ld fc, bTown g o a pe wo tx ch jo tr dy sd f]) s.heap := hP
      have hD : va_D A (List.flatten [bLaw g lo lc lz ll lm lg ld fc, bTown g o a pe wo tx ch jo tr dy sd f]) := hD
      exact mret_i hx hb hr hlocks hS (Nat.le_of_ble_eq_true rfl) (Nat.le_of_ble_eq_true rfl) dX1_turnsOf_22 (-1) rfl trivial hP hD
set_option maxRecDepth 100000 in
set_option maxHeartbeats 4000000 in
theorem c_g_copyFrom (l : Launch) (g : zG) (go : Nat) (gr : Nat) (gz : Int32) (gn : Int32) (fr : Nat → Int32) (go2 : Nat) (gr2 : Nat) (gz2 : Int32) (gn2 : Int32) (fr2 : Nat → Int32) (b_gz2 : 0 ≤ gz2.toInt ∧ gz2.toInt ≤ 60) (b_gn2 : 0 ≤ gn2.toInt ∧ gn2.toInt ≤ 59) : zM' g l yX3_copyFrom (Cond.code yX3_copyFrom cX3_copyFrom 2 none :: zB) ({ frames := 1, cells := 0, slots := 0, locals := 40 } : Room) [.ref go, .ref go2] [bLog g go gr gz gn fr, bLog g go2 gr2 gz2 gn2 fr2] (fun (h : Nat → Int32) => none) (fun (h : Nat → Int32) => True) (fun (h : Nat → Int32) => [bLog g go gr gz2 gn2 h, bLog g go2 gr2 gz2 gn2 fr2]) := by
  refine zM'.of (cc := cX3_copyFrom) (maxL := 2) (rt := none) (by decide) rfl (Nat.le_of_ble_eq_true rfl) ?_
  intro p e s m args below meth c A ls St hr hlocks hin hK hT hA hP hD hS hl
  obtain ⟨hx, hb, hml, hown, hts⟩ := id St
  have hl : lv_has ls 2 [(0, .ref go), (1, .ref go2)] := hl
  refine lv_aload_n hx hb dX3_copyFrom_0 rfl (lv_at hl 1 rfl) ?_
  refine va_get (D := g.1) (ci := 3) (v := .ref gr2) (C := RX3) (T := TX3) (N := 3) hx hb hts izRX3 hown hK hP 2 rfl rfl 0 (by decide) (hts _ k117) (fun _ h9 => h9) rfl dX3_copyFrom_1 ?_
  refine lv_iconst (v := 0) hx hb dX3_copyFrom_4 (by decide) ?_
  refine lv_aload_n hx hb dX3_copyFrom_5 rfl (lv_at hl 0 rfl) ?_
  refine va_get (D := g.1) (ci := 3) (v := .ref gr) (C := RX3) (T := TX3) (N := 3) hx hb hts izRX3 hown hK hP 0 rfl rfl 0 (by decide) (hts _ k117) (fun _ h9 => h9) rfl dX3_copyFrom_6 ?_
  refine lv_iconst (v := 0) hx hb dX3_copyFrom_9 (by decide) ?_
  refine lv_sipush (v := 240) hx hb dX3_copyFrom_10 (by decide) ?_
  refine va_copyi (D := g.1) (ty := .int) hx hb (by rw [hml]; exact hl.1.symm) hown (hts _ k332) (hts _ k36) (hts _ k37) (hts _ k38) hK hP hD hS 3 1 0 0 rfl rfl rfl rfl rfl (by decide) (by decide) (by decide) (by decide) (by decide) (fun _ _ => rfl) (Nat.le_of_ble_eq_true rfl) (by decide) dX3_copyFrom_13 (fun H locs hP hD hS => ?_)
  have hP : va_P g.1 vwCl (List.flatten [[(go, .inr (3, [.ref gr, .int gz, .int gn])), (gr, .inl (g.2 0, 240, .inl (va_cpy fr2 fr 0 0 240)))], bLog g go2 gr2 gz2 gn2 fr2]) H := hP
  have hD : va_D A (List.flatten [[(go, .inr (3, [.ref gr, .int gz, .int gn])), (gr, .inl (g.2 0, 240, .inl (va_cpy fr2 fr 0 0 240)))], bLog g go2 gr2 gz2 gn2 fr2]) := hD
  refine lv_aload_n hx hb dX3_copyFrom_16 rfl (lv_at hl 0 rfl) ?_
  refine lv_aload_n hx hb dX3_copyFrom_17 rfl (lv_at hl 1 rfl) ?_
  refine va_get (D := g.1) (ci := 3) (v := .int gz2) (C := RX3) (T := TX3) (N := 3) hx hb hts izRX3 hown hK hP 2 rfl rfl 1 (by decide) (hts _ k118) (fun _ h9 => h9) rfl dX3_copyFrom_18 ?_
  refine va_put (D := g.1) (ci := 3) (v := .int gz2) (ty := .int) (C := RX3) (T := TX3) (N := 3) hx hb hts izRX3 tyX3 tyX3_ok nmX3 hown hK hP hD hS 0 rfl rfl 1 (by decide) (hts _ k118) (fun _ h9 => h9) rfl (by decide +kernel) rfl rfl (Nat.le_of_ble_eq_true rfl) dX3_copyFrom_21 (fun H locs hP hD hS => ?_)
  have hP : va_P g.1 vwCl (List.flatten [[(go, .inr (3, [.ref gr, .int gz2, .int gn])), (gr, .inl (g.2 0, 240, .inl (va_cpy fr2 fr 0 0 240)))], bLog g go2 gr2 gz2 gn2 fr2]) H := hP
  have hD : va_D A (List.flatten [[(go, .inr (3, [.ref gr, .int gz2, .int gn])), (gr, .inl (g.2 0, 240, .inl (va_cpy fr2 fr 0 0 240)))], bLog g go2 gr2 gz2 gn2 fr2]) := hD
  refine lv_aload_n hx hb dX3_copyFrom_24 rfl (lv_at hl 0 rfl) ?_
  refine lv_aload_n hx hb dX3_copyFrom_25 rfl (lv_at hl 1 rfl) ?_
  refine va_get (D := g.1) (ci := 3) (v := .int gn2) (C := RX3) (T := TX3) (N := 3) hx hb hts izRX3 hown hK hP 2 rfl rfl 2 (by decide) (hts _ k116) (fun _ h9 => h9) rfl dX3_copyFrom_26 ?_
  refine va_put (D := g.1) (ci := 3) (v := .int gn2) (ty := .int) (C := RX3) (T := TX3) (N := 3) hx hb hts izRX3 tyX3 tyX3_ok nmX3 hown hK hP hD hS 0 rfl rfl 2 (by decide) (hts _ k116) (fun _ h9 => h9) rfl (by decide +kernel) rfl rfl (Nat.le_of_ble_eq_true rfl) dX3_copyFrom_29 (fun H locs hP hD hS => ?_)
  have hP : va_P g.1 vwCl (List.flatten [[(go, .inr (3, [.ref gr, .int gz2, .int gn2])), (gr, .inl (g.2 0, 240, .inl (va_cpy fr2 fr 0 0 240)))], bLog g go2 gr2 gz2 gn2 fr2]) H := hP
  have hD : va_D A (List.flatten [[(go, .inr (3, [.ref gr, .int gz2, .int gn2])), (gr, .inl (g.2 0, 240, .inl (va_cpy fr2 fr 0 0 240)))], bLog g go2 gr2 gz2 gn2 fr2]) := hD
  have hP : va_P g.1 vwCl (List.flatten [bLog g go gr gz2 gn2 (va_cpy fr2 fr 0 0 240), bLog g go2 gr2 gz2 gn2 fr2]) H := hP
  have hD : va_D A (List.flatten [bLog g go gr gz2 gn2 (va_cpy fr2 fr 0 0 240), bLog g go2 gr2 gz2 gn2 fr2]) := hD
  exact mret_v hx hb hr hlocks hS (Nat.le_of_ble_eq_true rfl) (Nat.le_of_ble_eq_true rfl) dX3_copyFrom_32 (va_cpy fr2 fr 0 0 240) rfl trivial hP hD
set_option maxRecDepth 100000 in
set_option maxHeartbeats 4000000 in
theorem c_g_add (l : Launch) (g : zG) (go : Nat) (gr : Nat) (gz : Int32) (gn : Int32) (fr : Nat → Int32) (x1 : Int32) (y1 : Int32) (z1 : Int32) (w1 : Int32) (b_gz : 0 ≤ gz.toInt ∧ gz.toInt ≤ 60) (b_gn : 0 ≤ gn.toInt ∧ gn.toInt ≤ 59) : zM' g l yX3_add (Cond.code yX3_add cX3_add 6 none :: zB) ({ frames := 1, cells := 0, slots := 0, locals := 14 } : Room) [.ref go, .int x1, .int y1, .int z1, .int w1] [bLog g go gr gz gn fr] (fun u : Int32 × Int32 × (Nat → Int32) => (fun (gz3 : Int32) (gn3 : Int32) (fr3 : Nat → Int32) => none) (u.1) (u.2.1) (u.2.2)) (fun u : Int32 × Int32 × (Nat → Int32) => (fun (gz3 : Int32) (gn3 : Int32) (fr3 : Nat → Int32) => (0 ≤ gz3.toInt ∧ gz3.toInt ≤ 60) ∧ (0 ≤ gn3.toInt ∧ gn3.toInt ≤ 59)) (u.1) (u.2.1) (u.2.2)) (fun u : Int32 × Int32 × (Nat → Int32) => (fun (gz3 : Int32) (gn3 : Int32) (fr3 : Nat → Int32) => [bLog g go gr gz3 gn3 fr3]) (u.1) (u.2.1) (u.2.2)) := by
  refine zM'.of (cc := cX3_add) (maxL := 6) (rt := none) (by decide) rfl (Nat.le_of_ble_eq_true rfl) ?_
  intro p e s m args below meth c A ls St hr hlocks hin hK hT hA hP hD hS hl
  obtain ⟨hx, hb, hml, hown, hts⟩ := id St
  have hl : lv_has ls 6 [(0, .ref go), (1, .int x1), (2, .int y1), (3, .int z1), (4, .int w1)] := hl
  refine lv_aload_n hx hb dX3_add_0 rfl (lv_at hl 0 rfl) ?_
  refine va_get (D := g.1) (ci := 3) (v := .int gn) (C := RX3) (T := TX3) (N := 3) hx hb hts izRX3 hown hK hP 0 rfl rfl 2 (by decide) (hts _ k116) (fun _ h9 => h9) rfl dX3_add_1 ?_
  refine lv_iconst (v := 4) hx hb dX3_add_4 (by decide) ?_
  refine lv_imul hx hb dX3_add_5 ?_
  refine zg3 (zmulKR (i := gn.toInt) (n := 4) (a' := 0) (b' := 236) rfl (by decide) b_gn.1 b_gn.2 (by decide) (by decide)) (fun x_1 hx_1 => ?_)
  refine lv_istore (lv' := [(5, .int x_1), (0, .ref go), (1, .int x1), (2, .int y1), (3, .int z1), (4, .int w1)]) hx hb dX3_add_6 hl (by decide) rfl (fun ls hl => ?_)
  refine lv_aload_n hx hb dX3_add_8 rfl (lv_at hl 1 rfl) ?_
  refine va_get (D := g.1) (ci := 3) (v := .ref gr) (C := RX3) (T := TX3) (N := 3) hx hb hts izRX3 hown hK hP 0 rfl rfl 0 (by decide) (hts _ k117) (fun _ h9 => h9) rfl dX3_add_9 ?_
  refine lv_iload hx hb dX3_add_12 (lv_at hl 0 rfl) ?_
  refine lv_iload_n hx hb dX3_add_14 rfl (lv_at hl 2 rfl) ?_
  refine va_iast hx hb hK hP hD hS 1 0 rfl rfl (zinK (a := 0) (b := 236) hx_1.2.1 hx_1.2.2 (by decide)) dX3_add_15 (fun H locs hP hD hS => ?_)
  obtain ⟨fr_2, hP, hD⟩ : ∃ fr_2 : Nat → Int32, va_P g.1 vwCl (List.flatten [bLog g go gr gz gn fr_2]) H ∧ va_D A (List.flatten [bLog g go gr gz gn fr_2]) := ⟨upd fr x_1.toNatClampNeg x1, hP, hD⟩
  refine lv_aload_n hx hb dX3_add_16 rfl (lv_at hl 1 rfl) ?_
  refine va_get (D := g.1) (ci := 3) (v := .ref gr) (C := RX3) (T := TX3) (N := 3) hx hb hts izRX3 hown hK hP 0 rfl rfl 0 (by decide) (hts _ k117) (fun _ h9 => h9) rfl dX3_add_17 ?_
  refine lv_iload hx hb dX3_add_20 (lv_at hl 0 rfl) ?_
  refine lv_iconst (v := 1) hx hb dX3_add_22 (by decide) ?_
  refine lv_iadd hx hb dX3_add_23 ?_
  refine zg3 (zaddK (i := x_1.toInt) (j := 1) (a' := 1) (b' := 237) rfl (by decide) hx_1.2.1 hx_1.2.2 (Int.le_refl _) (Int.le_refl _) (by decide)) (fun x_3 hx_3 => ?_)
  refine lv_iload_n hx hb dX3_add_24 rfl (lv_at hl 3 rfl) ?_
  refine va_iast hx hb hK hP hD hS 1 0 rfl rfl (zinK (a := 1) (b := 237) hx_3.2.1 hx_3.2.2 (by decide)) dX3_add_25 (fun H locs hP hD hS => ?_)
  obtain ⟨fr_4, hP, hD⟩ : ∃ fr_4 : Nat → Int32, va_P g.1 vwCl (List.flatten [bLog g go gr gz gn fr_4]) H ∧ va_D A (List.flatten [bLog g go gr gz gn fr_4]) := ⟨upd fr_2 x_3.toNatClampNeg y1, hP, hD⟩
  refine lv_aload_n hx hb dX3_add_26 rfl (lv_at hl 1 rfl) ?_
  refine va_get (D := g.1) (ci := 3) (v := .ref gr) (C := RX3) (T := TX3) (N := 3) hx hb hts izRX3 hown hK hP 0 rfl rfl 0 (by decide) (hts _ k117) (fun _ h9 => h9) rfl dX3_add_27 ?_
  refine lv_iload hx hb dX3_add_30 (lv_at hl 0 rfl) ?_
  refine lv_iconst (v := 2) hx hb dX3_add_32 (by decide) ?_
  refine lv_iadd hx hb dX3_add_33 ?_
  refine zg3 (zaddK (i := x_1.toInt) (j := 2) (a' := 2) (b' := 238) rfl (by decide) hx_1.2.1 hx_1.2.2 (Int.le_refl _) (Int.le_refl _) (by decide)) (fun x_5 hx_5 => ?_)
  refine lv_iload_n hx hb dX3_add_34 rfl (lv_at hl 4 rfl) ?_
  refine va_iast hx hb hK hP hD hS 1 0 rfl rfl (zinK (a := 2) (b := 238) hx_5.2.1 hx_5.2.2 (by decide)) dX3_add_35 (fun H locs hP hD hS => ?_)
  obtain ⟨fr_6, hP, hD⟩ : ∃ fr_6 : Nat → Int32, va_P g.1 vwCl (List.flatten [bLog g go gr gz gn fr_6]) H ∧ va_D A (List.flatten [bLog g go gr gz gn fr_6]) := ⟨upd fr_4 x_5.toNatClampNeg z1, hP, hD⟩
  refine lv_aload_n hx hb dX3_add_36 rfl (lv_at hl 1 rfl) ?_
  refine va_get (D := g.1) (ci := 3) (v := .ref gr) (C := RX3) (T := TX3) (N := 3) hx hb hts izRX3 hown hK hP 0 rfl rfl 0 (by decide) (hts _ k117) (fun _ h9 => h9) rfl dX3_add_37 ?_
  refine lv_iload hx hb dX3_add_40 (lv_at hl 0 rfl) ?_
  refine lv_iconst (v := 3) hx hb dX3_add_42 (by decide) ?_
  refine lv_iadd hx hb dX3_add_43 ?_
  refine zg3 (zaddK (i := x_1.toInt) (j := 3) (a' := 3) (b' := 239) rfl (by decide) hx_1.2.1 hx_1.2.2 (Int.le_refl _) (Int.le_refl _) (by decide)) (fun x_7 hx_7 => ?_)
  refine lv_iload hx hb dX3_add_44 (lv_at hl 5 rfl) ?_
  refine va_iast hx hb hK hP hD hS 1 0 rfl rfl (zinK (a := 3) (b := 239) hx_7.2.1 hx_7.2.2 (by decide)) dX3_add_46 (fun H locs hP hD hS => ?_)
  obtain ⟨fr_8, hP, hD⟩ : ∃ fr_8 : Nat → Int32, va_P g.1 vwCl (List.flatten [bLog g go gr gz gn fr_8]) H ∧ va_D A (List.flatten [bLog g go gr gz gn fr_8]) := ⟨upd fr_6 x_7.toNatClampNeg w1, hP, hD⟩
  refine lv_aload_n hx hb dX3_add_47 rfl (lv_at hl 1 rfl) ?_
  refine lv_aload_n hx hb dX3_add_48 rfl (lv_at hl 1 rfl) ?_
  refine va_get (D := g.1) (ci := 3) (v := .int gn) (C := RX3) (T := TX3) (N := 3) hx hb hts izRX3 hown hK hP 0 rfl rfl 2 (by decide) (hts _ k116) (fun _ h9 => h9) rfl dX3_add_49 ?_
  refine lv_iconst (v := 1) hx hb dX3_add_52 (by decide) ?_
  refine lv_iadd hx hb dX3_add_53 ?_
  refine zg3 (zaddK (i := gn.toInt) (j := 1) (a' := 1) (b' := 60) rfl (by decide) b_gn.1 b_gn.2 (Int.le_refl _) (Int.le_refl _) (by decide)) (fun x_9 hx_9 => ?_)
  refine lv_bipush (v := 60) hx hb dX3_add_54 (by decide) ?_
  refine lv_irem hx hb dX3_add_56 (by decide) ?_
  refine zgb (zrem (j := x_9.toInt) (d := 60) rfl (by decide) (Int.le_trans (by decide) hx_9.2.1) (by decide)) (fun x_10 hx_10 => ?_)
  refine va_put (D := g.1) (ci := 3) (v := .int x_10) (ty := .int) (C := RX3) (T := TX3) (N := 3) hx hb hts izRX3 tyX3 tyX3_ok nmX3 hown hK hP hD hS 0 rfl rfl 2 (by decide) (hts _ k116) (fun _ h9 => h9) rfl (by decide +kernel) rfl rfl (Nat.le_of_ble_eq_true rfl) dX3_add_57 (fun H locs hP hD hS => ?_)
  have hP : va_P g.1 vwCl (List.flatten [bLog g go gr gz x_10 fr_8]) H := hP
  have hD : va_D A (List.flatten [bLog g go gr gz x_10 fr_8]) := hD
  refine lv_aload_n hx hb dX3_add_60 rfl (lv_at hl 1 rfl) ?_
  refine lv_bipush (v := 60) hx hb dX3_add_61 (by decide) ?_
  refine lv_aload_n hx hb dX3_add_63 rfl (lv_at hl 1 rfl) ?_
  refine va_get (D := g.1) (ci := 3) (v := .int gz) (C := RX3) (T := TX3) (N := 3) hx hb hts izRX3 hown hK hP 0 rfl rfl 1 (by decide) (hts _ k118) (fun _ h9 => h9) rfl dX3_add_64 ?_
  refine lv_iconst (v := 1) hx hb dX3_add_67 (by decide) ?_
  refine lv_iadd hx hb dX3_add_68 ?_
  refine zg3 (zaddK (i := gz.toInt) (j := 1) (a' := 1) (b' := 61) rfl (by decide) b_gz.1 b_gz.2 (Int.le_refl _) (Int.le_refl _) (by decide)) (fun x_11 hx_11 => ?_)
  refine va_mmin hx hb (by rw [hml]; exact hl.1.symm) hown (hts _ k119) (hts _ k41) (hts _ k42) (hts _ k43) (Nat.le_of_ble_eq_true rfl) (Nat.le_of_ble_eq_true rfl) (Nat.le_of_ble_eq_true rfl) (Nat.le_of_ble_eq_true rfl) dX3_add_69 ?_
  refine zgmn (i := 60) (j := x_11.toInt) (by decide) rfl (fun x_12 hx_12 => ?_)
  refine va_put (D := g.1) (ci := 3) (v := .int x_12) (ty := .int) (C := RX3) (T := TX3) (N := 3) hx hb hts izRX3 tyX3 tyX3_ok nmX3 hown hK hP hD hS 0 rfl rfl 1 (by decide) (hts _ k118) (fun _ h9 => h9) rfl (by decide +kernel) rfl rfl (Nat.le_of_ble_eq_true rfl) dX3_add_72 (fun H locs hP hD hS => ?_)
  have hP : va_P g.1 vwCl (List.flatten [bLog g go gr x_12 x_10 fr_8]) H := hP
  have hD : va_D A (List.flatten [bLog g go gr x_12 x_10 fr_8]) := hD
  have hP : va_P g.1 vwCl (List.flatten [bLog g go gr x_12 x_10 fr_8]) H := hP
  have hD : va_D A (List.flatten [bLog g go gr x_12 x_10 fr_8]) := hD
  exact mret_v hx hb hr hlocks hS (Nat.le_of_ble_eq_true rfl) (Nat.le_of_ble_eq_true rfl) dX3_add_75 (x_12, x_10, fr_8) rfl (show (0 ≤ x_12.toInt ∧ x_12.toInt ≤ 60) ∧ (0 ≤ x_10.toInt ∧ x_10.toInt ≤ 59) from ⟨(by first | assumption | omega | decide | exact rfl | exact zb01 (by omega) | exact Or.inl (by decide) | exact Or.inr (by first | omega | decide)), (by first | assumption | omega | decide | exact rfl | exact zb01 (by omega) | exact Or.inl (by decide) | exact Or.inr (by first | omega | decide))⟩) hP hD
