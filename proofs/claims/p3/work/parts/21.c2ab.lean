set_option maxRecDepth 100000 in
set_option maxHeartbeats 4000000 in
theorem c_t_useUp (l : Launch) (g : zG) (ta : Nat) (ab : Nat) (sz : Int32) (ln : Int32) (kd : Int32) (bg : Int32) (nx : Int32) (ft : Int32) (fb : Nat → Int32)  : zM' g l yX6_useUp (Cond.code yX6_useUp cX6_useUp 2 (some .int) :: zB) ({ frames := 0, cells := 0, slots := 0, locals := 0 } : Room) [.ref ta] [bTape g ta ab sz ln kd bg nx ft fb] (fun _ : Unit => some (.int sz)) (fun _ : Unit => True) (fun _ : Unit => [bTape g ta ab 0 ln kd bg nx ft fb]) := by
  refine zM'.of (cc := cX6_useUp) (maxL := 2) (rt := (some .int)) (by decide) rfl (Nat.le_of_ble_eq_true rfl) ?_
  intro p e s m args below meth c A ls St hr hlocks hin hK hT hA hP hD hS hl
  obtain ⟨hx, hb, hml, hown, hts⟩ := id St
  have hl : lv_has ls 2 [(0, .ref ta)] := hl
  refine lv_aload_n hx hb dX6_useUp_0 rfl (lv_at hl 0 rfl) ?_
  refine va_get (D := g.1) (ci := 6) (v := .int sz) (C := RX6) (T := TX6) (N := 7) hx hb hts izRX6 hown hK hP 0 rfl rfl 1 (by decide) (hts _ k423) (fun _ h9 => h9) rfl dX6_useUp_1 ?_
  refine lv_istore_n (lv' := [(1, .int sz), (0, .ref ta)]) hx hb dX6_useUp_4 rfl hl (by decide) rfl (fun ls hl => ?_)
  refine lv_aload_n hx hb dX6_useUp_5 rfl (lv_at hl 1 rfl) ?_
  refine lv_iconst (v := 0) hx hb dX6_useUp_6 (by decide) ?_
  refine va_put (D := g.1) (ci := 6) (v := .int 0) (ty := .int) (C := RX6) (T := TX6) (N := 7) hx hb hts izRX6 tyX6 tyX6_ok nmX6 hown hK hP hD hS 0 rfl rfl 1 (by decide) (hts _ k423) (fun _ h9 => h9) rfl (by decide +kernel) rfl rfl (Nat.le_of_ble_eq_true rfl) dX6_useUp_7 (fun H locs hP hD hS => ?_)
  have hP : va_P g.1 vwCl (List.flatten [bTape g ta ab 0 ln kd bg nx ft fb]) H := hP
  have hD : va_D A (List.flatten [bTape g ta ab 0 ln kd bg nx ft fb]) := hD
  refine lv_iload_n hx hb dX6_useUp_10 rfl (lv_at hl 0 rfl) ?_
  have hP : va_P g.1 vwCl (List.flatten [bTape g ta ab 0 ln kd bg nx ft fb]) H := hP
  have hD : va_D A (List.flatten [bTape g ta ab 0 ln kd bg nx ft fb]) := hD
  exact mret_i hx hb hr hlocks hS (Nat.le_of_ble_eq_true rfl) (Nat.le_of_ble_eq_true rfl) dX6_useUp_11 () rfl trivial hP hD
set_option maxRecDepth 100000 in
set_option maxHeartbeats 4000000 in
theorem c_t_holdsTales (l : Launch) (g : zG) (ta : Nat) (ab : Nat) (sz : Int32) (ln : Int32) (kd : Int32) (bg : Int32) (nx : Int32) (ft : Int32) (fb : Nat → Int32) (n : Int32) (b_n : 0 ≤ n.toInt ∧ n.toInt ≤ 12) : zM' g l yX6_holdsTales (Cond.code yX6_holdsTales cX6_holdsTales 3 (some .boolean) :: zB) ({ frames := 0, cells := 0, slots := 0, locals := 0 } : Room) [.ref ta, .int n] [bTape g ta ab sz ln kd bg nx ft fb] (fun (q : Int32) => some (.int q)) (fun (q : Int32) => (q = 0 ∨ q = 1)) (fun (q : Int32) => [bTape g ta ab sz ln kd bg nx ft fb]) := by
  refine zM'.of (cc := cX6_holdsTales) (maxL := 3) (rt := (some .boolean)) (by decide) rfl (Nat.le_of_ble_eq_true rfl) ?_
  intro p e s m args below meth c A ls St hr hlocks hin hK hT hA hP hD hS hl
  obtain ⟨hx, hb, hml, hown, hts⟩ := id St
  have hl : lv_has ls 3 [(0, .ref ta), (1, .int n)] := hl
  refine lv_iconst (v := 0) hx hb dX6_holdsTales_0 (by decide) ?_
  refine lv_istore_n (lv' := [(2, .int 0), (0, .ref ta), (1, .int n)]) hx hb dX6_holdsTales_1 rfl hl (by decide) rfl (fun ls hl => ?_)
  have hl := lv_sub (l' := [(0, .ref ta), (1, .int n), (2, .int 0)]) hl [1, 2, 0] rfl
  have LP2_3 : ∀ (kf : Nat) (x_1 : Int32), (0 ≤ x_1.toInt ∧ x_1.toInt ≤ 12) → ∀ (H : Heap) (locs : List Loc) (ls : Array Slot), ((13 - x_1.toInt).toNat) < kf → va_P g.1 vwCl (List.flatten [bTape g ta ab sz ln kd bg nx ft fb]) H → va_D A (List.flatten [bTape g ta ab sz ln kd bg nx ft fb]) → va_S A s.heap H locs → lv_has ls 3 [(0, .ref ta), (1, .int n), (2, .int x_1)] → W p l e ({ frames := 0, cells := 0, slots := 0, locals := 0 } : Room) s m args below meth c H locs (0) (0) (zF g (fun (q : Int32) => some (.int q)) (fun (q : Int32) => (q = 0 ∨ q = 1)) (fun (q : Int32) => [bTape g ta ab sz ln kd bg nx ft fb]) ({ frames := 0, cells := 0, slots := 0, locals := 0 } : Room) below args s A) (F0 m 2 ls []) := by
    intro kf
    induction kf with
    | zero => intro x_1 i2 H locs ls hk; exact absurd hk (Nat.not_lt_zero _)
    | succ kf ih2_4 =>
      intro x_1 i2 H locs ls hk2_4 hP hD hS hl
      refine lv_iload_n hx hb dX6_holdsTales_2 rfl (lv_at hl 2 rfl) ?_
      refine lv_iload_n hx hb dX6_holdsTales_3 rfl (lv_at hl 1 rfl) ?_
      refine lv_icmp_ge (tgt := 25) hx hb dX6_holdsTales_4 (by decide) (fun cb9 => ?_) (fun cb9 => ?_)
      · skip
        have c5 : n.toInt ≤ x_1.toInt := zle cb9 rfl rfl
        refine lv_iconst (v := 1) hx hb dX6_holdsTales_25 (by decide) ?_
        have hP : va_P g.1 vwCl (List.flatten [bTape g ta ab sz ln kd bg nx ft fb]) H := hP
        have hD : va_D A (List.flatten [bTape g ta ab sz ln kd bg nx ft fb]) := hD
        exact mret_z hx hb hr hlocks hS (Nat.le_of_ble_eq_true rfl) (Nat.le_of_ble_eq_true rfl) dX6_holdsTales_26 ((1 : Int32)) rfl (by decide) (show (1 = 0 ∨ 1 = 1) from (by decide)) hP hD
      · skip
        have c6 : x_1.toInt < n.toInt := zlti (Int32.not_le.mp cb9) rfl rfl
        have n7 : x_1.toInt ≤ 11 := zL1 (b := 12) c6 b_n.2 (by decide)
        have n8 : 1 ≤ n.toInt := zL2 (a := 0) c6 i2.1 (by decide)
        refine lv_aload_n hx hb dX6_holdsTales_7 rfl (lv_at hl 0 rfl) ?_
        refine va_get (D := g.1) (ci := 6) (v := .ref ab) (C := RX6) (T := TX6) (N := 7) hx hb hts izRX6 hown hK hP 0 rfl rfl 0 (by decide) (hts _ k261) (fun _ h9 => h9) rfl dX6_holdsTales_8 ?_
        refine lv_iload_n hx hb dX6_holdsTales_11 rfl (lv_at hl 2 rfl) ?_
        refine va_iald hx hb hK hP 1 0 rfl rfl (zinK (a := 0) (b := 11) i2.1 n7 (by decide)) dX6_holdsTales_12 ?_
        refine zg (fun x_9 => ?_)
        refine lv_iconst (v := 1) hx hb dX6_holdsTales_13 (by decide) ?_
        refine lv_icmp_le (tgt := 19) hx hb dX6_holdsTales_14 (by decide) (fun cb9 => ?_) (fun cb9 => ?_)
        · skip
          have c10 : x_9.toInt ≤ 1 := zle cb9 rfl (by decide)
          have n11 : x_9.toInt ≤ 1 := Int.le_trans c10 (Int.le_refl _)
          refine ziinc3 (n' := 1) (a' := 1) (b' := 12) (lv' := fun v9 => [(2, .int v9), (0, .ref ta), (1, .int n)]) hx hb dX6_holdsTales_19 hl (k := 2) rfl (by decide) (fun _ => rfl) (zaddK (i := x_1.toInt) (j := 1) rfl (by decide) i2.1 n7 (Int.le_refl _) (Int.le_refl _) (by decide)) (fun x_12 ls hx_12 hl => ?_)
          refine lv_goto (tgt := 2) hx hb dX6_holdsTales_22 (by decide) ?_
          have hl := lv_sub (l' := [(0, .ref ta), (1, .int n), (2, .int x_12)]) hl [1, 2, 0] rfl
          have hP : va_P g.1 vwCl (List.flatten [bTape g ta ab sz ln kd bg nx ft fb]) H := hP
          have hD : va_D A (List.flatten [bTape g ta ab sz ln kd bg nx ft fb]) := hD
          exact ih2_4 x_12 ⟨(Int.le_trans (by decide) hx_12.2.1), hx_12.2.2⟩ H _ ls (zmK hx_12.1 (by decide) n7 (by decide) hk2_4)  hP hD hS (lv_sub hl [0, 1, 2] rfl)
        · skip
          have c13 : 1 < x_9.toInt := zlti (Int32.not_le.mp cb9) (by decide) rfl
          have n14 : 2 ≤ x_9.toInt := zL2 (a := 1) c13 (Int.le_refl _) (by decide)
          refine lv_iconst (v := 0) hx hb dX6_holdsTales_17 (by decide) ?_
          have hP : va_P g.1 vwCl (List.flatten [bTape g ta ab sz ln kd bg nx ft fb]) H := hP
          have hD : va_D A (List.flatten [bTape g ta ab sz ln kd bg nx ft fb]) := hD
          exact mret_z hx hb hr hlocks hS (Nat.le_of_ble_eq_true rfl) (Nat.le_of_ble_eq_true rfl) dX6_holdsTales_18 ((0 : Int32)) rfl (by decide) (show (0 = 0 ∨ 0 = 1) from (by decide)) hP hD
  have hP : va_P g.1 vwCl (List.flatten [bTape g ta ab sz ln kd bg nx ft fb]) s.heap := hP
  have hD : va_D A (List.flatten [bTape g ta ab sz ln kd bg nx ft fb]) := hD
  exact LP2_3 _ 0 (by decide) s.heap _ ls (Nat.lt_succ_self _)  hP hD hS (lv_sub hl [0, 1, 2] rfl)
