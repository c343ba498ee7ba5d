set_option maxRecDepth 100000 in
set_option maxHeartbeats 4000000 in
theorem c_t_lead (l : Launch) (g : zG) (ta : Nat) (ab : Nat) (sz : Int32) (ln : Int32) (kd : Int32) (bg : Int32) (nx : Int32) (ft : Int32) (fb : Nat → Int32) (n : Int32) (b_n : 0 ≤ n.toInt ∧ n.toInt ≤ 12) : zM' g l yX6_lead (Cond.code yX6_lead cX6_lead 4 (some .int) :: zB) ({ frames := 0, cells := 0, slots := 0, locals := 0 } : Room) [.ref ta, .int n] [bTape g ta ab sz ln kd bg nx ft fb] (fun (q : Int32) => some (.int q)) (fun (q : Int32) => (-12 ≤ q.toInt ∧ q.toInt ≤ 12)) (fun (q : Int32) => [bTape g ta ab sz ln kd bg nx ft fb]) := by
  refine zM'.of (cc := cX6_lead) (maxL := 4) (rt := (some .int)) (by decide) rfl (Nat.le_of_ble_eq_true rfl) ?_
  intro p e s m args below meth c A ls St hr hlocks hin hK hT hA hP hD hS hl
  obtain ⟨hx, hb, hml, hown, hts⟩ := id St
  have hl : lv_has ls 4 [(0, .ref ta), (1, .int n)] := hl
  refine lv_iconst (v := 0) hx hb dX6_lead_0 (by decide) ?_
  refine lv_istore_n (lv' := [(2, .int 0), (0, .ref ta), (1, .int n)]) hx hb dX6_lead_1 rfl hl (by decide) rfl (fun ls hl => ?_)
  refine lv_iconst (v := 0) hx hb dX6_lead_2 (by decide) ?_
  refine lv_istore_n (lv' := [(3, .int 0), (2, .int 0), (0, .ref ta), (1, .int n)]) hx hb dX6_lead_3 rfl hl (by decide) rfl (fun ls hl => ?_)
  have hl := lv_sub (l' := [(0, .ref ta), (1, .int n), (2, .int 0), (3, .int 0)]) hl [2, 3, 1, 0] rfl
  have LP4_6 : ∀ (kf : Nat) (x_1 : Int32) (x_2 : Int32), ((-12) ≤ x_1.toInt ∧ x_1.toInt ≤ 12) → (0 ≤ x_2.toInt ∧ x_2.toInt ≤ 12) → ((-(x_2.toInt) ≤ x_1.toInt ∧ x_1.toInt ≤ x_2.toInt)) → ∀ (H : Heap) (locs : List Loc) (ls : Array Slot), ((13 - x_2.toInt).toNat) < kf → va_P g.1 vwCl (List.flatten [bTape g ta ab sz ln kd bg nx ft fb]) H → va_D A (List.flatten [bTape g ta ab sz ln kd bg nx ft fb]) → va_S A s.heap H locs → lv_has ls 4 [(0, .ref ta), (1, .int n), (2, .int x_1), (3, .int x_2)] → W p l e ({ frames := 0, cells := 0, slots := 0, locals := 0 } : Room) s m args below meth c H locs (0) (0) (zF g (fun (q : Int32) => some (.int q)) (fun (q : Int32) => (-12 ≤ q.toInt ∧ q.toInt ≤ 12)) (fun (q : Int32) => [bTape g ta ab sz ln kd bg nx ft fb]) ({ frames := 0, cells := 0, slots := 0, locals := 0 } : Room) below args s A) (F0 m 4 ls []) := by
    intro kf
    induction kf with
    | zero => intro x_1 x_2 i3 i4 i5 H locs ls hk; exact absurd hk (Nat.not_lt_zero _)
    | succ kf ih4_7 =>
      intro x_1 x_2 i3 i4 i5 H locs ls hk4_7 hP hD hS hl
      refine lv_iload_n hx hb dX6_lead_4 rfl (lv_at hl 3 rfl) ?_
      refine lv_iload_n hx hb dX6_lead_5 rfl (lv_at hl 1 rfl) ?_
      refine lv_icmp_ge (tgt := 33) hx hb dX6_lead_6 (by decide) (fun cb9 => ?_) (fun cb9 => ?_)
      · skip
        have c8 : n.toInt ≤ x_2.toInt := zle cb9 rfl rfl
        refine lv_iload_n hx hb dX6_lead_33 rfl (lv_at hl 2 rfl) ?_
        have hP : va_P g.1 vwCl (List.flatten [bTape g ta ab sz ln kd bg nx ft fb]) H := hP
        have hD : va_D A (List.flatten [bTape g ta ab sz ln kd bg nx ft fb]) := hD
        exact mret_i hx hb hr hlocks hS (Nat.le_of_ble_eq_true rfl) (Nat.le_of_ble_eq_true rfl) dX6_lead_34 (x_1) rfl (show (-12 ≤ x_1.toInt ∧ x_1.toInt ≤ 12) from i3) hP hD
      · skip
        have c9 : x_2.toInt < n.toInt := zlti (Int32.not_le.mp cb9) rfl rfl
        have n10 : x_2.toInt ≤ 11 := zL1 (b := 12) c9 b_n.2 (by decide)
        have n11 : 1 ≤ n.toInt := zL2 (a := 0) c9 i4.1 (by decide)
        refine lv_iload_n hx hb dX6_lead_9 rfl (lv_at hl 2 rfl) ?_
        refine lv_aload_n hx hb dX6_lead_10 rfl (lv_at hl 0 rfl) ?_
        refine va_get (D := g.1) (ci := 6) (v := .ref ab) (C := RX6) (T := TX6) (N := 7) hx hb hts izRX6 hown hK hP 0 rfl rfl 0 (by decide) (hts _ k261) (fun _ h9 => h9) rfl dX6_lead_11 ?_
        refine lv_iload_n hx hb dX6_lead_14 rfl (lv_at hl 3 rfl) ?_
        refine va_iald hx hb hK hP 1 0 rfl rfl (zinK (a := 0) (b := 11) i4.1 n10 (by decide)) dX6_lead_15 ?_
        refine zg (fun x_12 => ?_)
        refine lv_iconst (v := 1) hx hb dX6_lead_16 (by decide) ?_
        refine lv_icmp_ne (tgt := 24) hx hb dX6_lead_17 (by decide) (fun cb9 => ?_) (fun cb9 => ?_)
        · skip
          have c13 : ¬ x_12.toInt = 1 := zne cb9 rfl (by decide)
          refine lv_iconst (v := (-1)) hx hb dX6_lead_24 (by decide) ?_
          refine lv_iadd hx hb dX6_lead_25 ?_
          refine zg3 (zaddK (i := x_1.toInt) (j := (-1)) (a' := (-13)) (b' := 11) rfl (by decide) i3.1 i3.2 (Int.le_refl _) (Int.le_refl _) (by decide)) (fun x_14 hx_14 => ?_)
          refine lv_istore_n (lv' := [(2, .int x_14), (0, .ref ta), (1, .int n), (3, .int x_2)]) hx hb dX6_lead_26 rfl hl (by decide) rfl (fun ls hl => ?_)
          refine ziinc3 (n' := 1) (a' := 1) (b' := 12) (lv' := fun v9 => [(3, .int v9), (2, .int x_14), (0, .ref ta), (1, .int n)]) hx hb dX6_lead_27 hl (k := 3) rfl (by decide) (fun _ => rfl) (zaddK (i := x_2.toInt) (j := 1) rfl (by decide) i4.1 n10 (Int.le_refl _) (Int.le_refl _) (by decide)) (fun x_15 ls hx_15 hl => ?_)
          refine lv_goto (tgt := 4) hx hb dX6_lead_30 (by decide) ?_
          have hl := lv_sub (l' := [(0, .ref ta), (1, .int n), (2, .int x_14), (3, .int x_15)]) hl [2, 3, 1, 0] rfl
          have hP : va_P g.1 vwCl (List.flatten [bTape g ta ab sz ln kd bg nx ft fb]) H := hP
          have hD : va_D A (List.flatten [bTape g ta ab sz ln kd bg nx ft fb]) := hD
          exact ih4_7 x_14 x_15 (by first | omega | assumption | decide) ⟨(Int.le_trans (by decide) hx_15.2.1), hx_15.2.2⟩ (by first | omega | assumption | decide) H _ ls (zmK hx_15.1 (by decide) n10 (by decide) hk4_7)  hP hD hS (lv_sub hl [0, 1, 2, 3] rfl)
        · skip
          have c16 : x_12.toInt = 1 := zeq cb9 rfl (by decide)
          have n17 : 1 ≤ x_12.toInt := Int.le_trans (Int.le_refl _) (Int.le_of_eq c16.symm)
          have n18 : x_12.toInt ≤ 1 := Int.le_trans (Int.le_of_eq c16) (Int.le_refl _)
          refine lv_iconst (v := 1) hx hb dX6_lead_20 (by decide) ?_
          refine lv_goto (tgt := 25) hx hb dX6_lead_21 (by decide) ?_
          refine lv_iadd hx hb dX6_lead_25 ?_
          refine zg3 (zaddK (i := x_1.toInt) (j := 1) (a' := (-11)) (b' := 13) rfl (by decide) i3.1 i3.2 (Int.le_refl _) (Int.le_refl _) (by decide)) (fun x_19 hx_19 => ?_)
          refine lv_istore_n (lv' := [(2, .int x_19), (0, .ref ta), (1, .int n), (3, .int x_2)]) hx hb dX6_lead_26 rfl hl (by decide) rfl (fun ls hl => ?_)
          refine ziinc3 (n' := 1) (a' := 1) (b' := 12) (lv' := fun v9 => [(3, .int v9), (2, .int x_19), (0, .ref ta), (1, .int n)]) hx hb dX6_lead_27 hl (k := 3) rfl (by decide) (fun _ => rfl) (zaddK (i := x_2.toInt) (j := 1) rfl (by decide) i4.1 n10 (Int.le_refl _) (Int.le_refl _) (by decide)) (fun x_20 ls hx_20 hl => ?_)
          refine lv_goto (tgt := 4) hx hb dX6_lead_30 (by decide) ?_
          have hl := lv_sub (l' := [(0, .ref ta), (1, .int n), (2, .int x_19), (3, .int x_20)]) hl [2, 3, 1, 0] rfl
          have hP : va_P g.1 vwCl (List.flatten [bTape g ta ab sz ln kd bg nx ft fb]) H := hP
          have hD : va_D A (List.flatten [bTape g ta ab sz ln kd bg nx ft fb]) := hD
          exact ih4_7 x_19 x_20 (by first | omega | assumption | decide) ⟨(Int.le_trans (by decide) hx_20.2.1), hx_20.2.2⟩ (by first | omega | assumption | decide) H _ ls (zmK hx_20.1 (by decide) n10 (by decide) hk4_7)  hP hD hS (lv_sub hl [0, 1, 2, 3] rfl)
  have hL0 : (0 : Int32).toInt = 0 := by decide
  have hP : va_P g.1 vwCl (List.flatten [bTape g ta ab sz ln kd bg nx ft fb]) s.heap := hP
  have hD : va_D A (List.flatten [bTape g ta ab sz ln kd bg nx ft fb]) := hD
  exact LP4_6 _ 0 0 (by decide) (by decide) (by first | omega | assumption | decide) s.heap _ ls (Nat.lt_succ_self _)  hP hD hS (lv_sub hl [0, 1, 2, 3] rfl)
