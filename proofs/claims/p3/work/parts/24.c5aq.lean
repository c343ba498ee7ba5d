set_option maxRecDepth 100000 in
set_option maxHeartbeats 4000000 in
theorem c_r_fitsAll (l : Launch) (g : zG) (ro : Nat) (rw : Nat) (ri : Int32) (rt : Int32) (rb : Nat → Int32) (ta : Nat) (ab : Nat) (sz : Int32) (ln : Int32) (kd : Int32) (bg : Int32) (nx : Int32) (ft : Int32) (fb : Nat → Int32) (n : Int32) (st0 : Int32)  : zM' g l yX5_fitsAll (Cond.code yX5_fitsAll cX5_fitsAll 5 (some .boolean) :: zB) ({ frames := 1, cells := 0, slots := 0, locals := 23 } : Room) [.ref ro, .ref ta, .int n, .int st0] [bRi g ro rw ri rt rb, bTape g ta ab sz ln kd bg nx ft fb] (fun (q : Int32) => some (.int q)) (fun (q : Int32) => (q = 0 ∨ q = 1)) (fun (q : Int32) => [bRi g ro rw ri rt rb, bTape g ta ab sz ln kd bg nx ft fb]) := by
  refine zM'.of (cc := cX5_fitsAll) (maxL := 5) (rt := (some .boolean)) (by decide) rfl (Nat.le_of_ble_eq_true rfl) ?_
  intro p e s m args below meth c A ls St hr hlocks hin hK hT hA hP hD hS hl
  obtain ⟨hx, hb, hml, hown, hts⟩ := id St
  have hl : lv_has ls 5 [(0, .ref ro), (1, .ref ta), (2, .int n), (3, .int st0)] := hl
  refine lv_iconst (v := 0) hx hb dX5_fitsAll_0 (by decide) ?_
  refine lv_istore (lv' := [(4, .int 0), (0, .ref ro), (1, .ref ta), (2, .int n), (3, .int st0)]) hx hb dX5_fitsAll_1 hl (by decide) rfl (fun ls hl => ?_)
  have hl := lv_sub (l' := [(0, .ref ro), (1, .ref ta), (2, .int n), (3, .int st0), (4, .int 0)]) hl [1, 2, 3, 4, 0] rfl
  have LP3_3 : ∀ (kf : Nat) (x_1 : Int32), (0 ≤ x_1.toInt ∧ x_1.toInt ≤ 400) → ∀ (H : Heap) (locs : List Loc) (ls : Array Slot), ((401 - x_1.toInt).toNat) < kf → va_P g.1 vwCl (List.flatten [bRi g ro rw ri rt rb, bTape g ta ab sz ln kd bg nx ft fb]) H → va_D A (List.flatten [bRi g ro rw ri rt rb, bTape g ta ab sz ln kd bg nx ft fb]) → va_S A s.heap H locs → lv_has ls 5 [(0, .ref ro), (1, .ref ta), (2, .int n), (3, .int st0), (4, .int x_1)] → W p l e ({ frames := 1, cells := 0, slots := 0, locals := 23 } : Room) s m args below meth c H locs (0) (0) (zF g (fun (q : Int32) => some (.int q)) (fun (q : Int32) => (q = 0 ∨ q = 1)) (fun (q : Int32) => [bRi g ro rw ri rt rb, bTape g ta ab sz ln kd bg nx ft fb]) ({ frames := 1, cells := 0, slots := 0, locals := 23 } : Room) below args s A) (F0 m 3 ls []) := by
    intro kf
    induction kf with
    | zero => intro x_1 i2 H locs ls hk; exact absurd hk (Nat.not_lt_zero _)
    | succ kf ih3_4 =>
      intro x_1 i2 H locs ls hk3_4 hP hD hS hl
      refine lv_iload hx hb dX5_fitsAll_3 (lv_at hl 4 rfl) ?_
      refine lv_iconst (v := 2) hx hb dX5_fitsAll_5 (by decide) ?_
      refine lv_iadd hx hb dX5_fitsAll_6 ?_
      refine zg3 (zaddK (i := x_1.toInt) (j := 2) (a' := 2) (b' := 402) rfl (by decide) i2.1 i2.2 (Int.le_refl _) (Int.le_refl _) (by decide)) (fun x_5 hx_5 => ?_)
      refine lv_iload_n hx hb dX5_fitsAll_7 rfl (lv_at hl 2 rfl) ?_
      refine lv_icmp_ge (tgt := 71) hx hb dX5_fitsAll_8 (by decide) (fun cb9 => ?_) (fun cb9 => ?_)
      · skip
        have c6 : n.toInt ≤ x_5.toInt := zle cb9 rfl rfl
        have n7 : n.toInt ≤ 402 := Int.le_trans c6 hx_5.2.2
        refine lv_iconst (v := 1) hx hb dX5_fitsAll_71 (by decide) ?_
        have hP : va_P g.1 vwCl (List.flatten [bRi g ro rw ri rt rb, bTape g ta ab sz ln kd bg nx ft fb]) H := hP
        have hD : va_D A (List.flatten [bRi g ro rw ri rt rb, bTape g ta ab sz ln kd bg nx ft fb]) := hD
        exact mret_z hx hb hr hlocks hS (Nat.le_of_ble_eq_true rfl) (Nat.le_of_ble_eq_true rfl) dX5_fitsAll_72 ((1 : Int32)) rfl (by decide) (show (1 = 0 ∨ 1 = 1) from (by decide)) hP hD
      · skip
        have c8 : x_5.toInt < n.toInt := zlti (Int32.not_le.mp cb9) rfl rfl
        have n9 : 3 ≤ n.toInt := zL2 (a := 2) c8 hx_5.2.1 (by decide)
        refine lv_iload hx hb dX5_fitsAll_11 (lv_at hl 4 rfl) ?_
        refine lv_iconst (v := 2) hx hb dX5_fitsAll_13 (by decide) ?_
        refine lv_iadd hx hb dX5_fitsAll_14 ?_
        refine zg3 (zaddK (i := x_1.toInt) (j := 2) (a' := 2) (b' := 402) rfl (by decide) i2.1 i2.2 (Int.le_refl _) (Int.le_refl _) (by decide)) (fun x_10 hx_10 => ?_)
        refine lv_sipush (v := 400) hx hb dX5_fitsAll_15 (by decide) ?_
        refine lv_icmp_ge (tgt := 71) hx hb dX5_fitsAll_18 (by decide) (fun cb9 => ?_) (fun cb9 => ?_)
        · skip
          have c11 : 400 ≤ x_10.toInt := zle cb9 (by decide) rfl
          have n12 : 400 ≤ x_10.toInt := Int.le_trans (Int.le_refl _) c11
          refine lv_iconst (v := 1) hx hb dX5_fitsAll_71 (by decide) ?_
          have hP : va_P g.1 vwCl (List.flatten [bRi g ro rw ri rt rb, bTape g ta ab sz ln kd bg nx ft fb]) H := hP
          have hD : va_D A (List.flatten [bRi g ro rw ri rt rb, bTape g ta ab sz ln kd bg nx ft fb]) := hD
          exact mret_z hx hb hr hlocks hS (Nat.le_of_ble_eq_true rfl) (Nat.le_of_ble_eq_true rfl) dX5_fitsAll_72 ((1 : Int32)) rfl (by decide) (show (1 = 0 ∨ 1 = 1) from (by decide)) hP hD
        · skip
          have c13 : x_10.toInt < 400 := zlti (Int32.not_le.mp cb9) rfl (by decide)
          have n14 : x_10.toInt ≤ 399 := zL1 (b := 400) c13 (Int.le_refl _) (by decide)
          refine lv_aload_n hx hb dX5_fitsAll_21 rfl (lv_at hl 0 rfl) ?_
          refine lv_iload_n hx hb dX5_fitsAll_22 rfl (lv_at hl 3 rfl) ?_
          refine lv_aload_n hx hb dX5_fitsAll_23 rfl (lv_at hl 1 rfl) ?_
          refine va_get (D := g.1) (ci := 6) (v := .ref ab) (C := RX6) (T := TX6) (N := 7) hx hb hts izRX6 hown hK hP 2 rfl rfl 0 (by decide) (hts _ k385) (fun _ h9 => h9) rfl dX5_fitsAll_24 ?_
          refine lv_iload hx hb dX5_fitsAll_27 (lv_at hl 4 rfl) ?_
          refine va_iald hx hb hK hP 3 0 rfl rfl (zinI (by omega) (by omega)) dX5_fitsAll_29 ?_
          refine zg (fun x_15 => ?_)
          refine lv_aload_n hx hb dX5_fitsAll_30 rfl (lv_at hl 1 rfl) ?_
          refine va_get (D := g.1) (ci := 6) (v := .ref ab) (C := RX6) (T := TX6) (N := 7) hx hb hts izRX6 hown hK hP 2 rfl rfl 0 (by decide) (hts _ k385) (fun _ h9 => h9) rfl dX5_fitsAll_31 ?_
          refine lv_iload hx hb dX5_fitsAll_34 (lv_at hl 4 rfl) ?_
          refine lv_iconst (v := 1) hx hb dX5_fitsAll_36 (by decide) ?_
          refine lv_iadd hx hb dX5_fitsAll_37 ?_
          refine zg3 (zaddK (i := x_1.toInt) (j := 1) (a' := 1) (b' := 401) rfl (by decide) i2.1 i2.2 (Int.le_refl _) (Int.le_refl _) (by decide)) (fun x_16 hx_16 => ?_)
          refine va_iald hx hb hK hP 3 0 rfl rfl (zinI (by omega) (by omega)) dX5_fitsAll_38 ?_
          refine zg (fun x_17 => ?_)
          refine mcallV' (g := g) (q0 := 0) (ci := 5) (As := [.int st0, .int x_15, .int x_17]) (rest := []) St hK hT hA hP hD hS hl.1 [0] [1] rfl rfl rfl (c_r_answers l g ro rw ri rt rb st0 x_15 x_17 ) (cwV 3 hts (zgL (zl4 k386 k387 k388 k389) k383) rfl rfl rfl (by decide +kernel) ⟨Nat.le_of_ble_eq_true rfl, Nat.le_of_ble_eq_true rfl⟩) rfl rfl rfl rfl (Nat.le_of_ble_eq_true rfl) dX5_fitsAll_39 ⟨(Nat.le_of_ble_eq_true rfl), (Nat.le_of_ble_eq_true rfl)⟩ (fun q_18 H locs hq19 hP hD hS => ?_)
          replace hq19 : (q_18 = 0 ∨ q_18 = 1) := hq19
          have hP : va_P g.1 vwCl (List.flatten [bTape g ta ab sz ln kd bg nx ft fb, bRi g ro rw ri rt rb]) H := hP
          have hD : va_D A (List.flatten [bTape g ta ab sz ln kd bg nx ft fb, bRi g ro rw ri rt rb]) := hD
          refine W.widen (k := 0) (n := 0) (Nat.le_of_ble_eq_true rfl) (Nat.le_of_ble_eq_true rfl) ?_
          refine W.eq (g2 := F0 m 42 ls [.int q_18]) rfl ?_
          rcases hq19 with rfl | rfl
          · skip
            refine lv_aload_n hx hb dX5_fitsAll_42 rfl (lv_at hl 1 rfl) ?_
            refine va_get (D := g.1) (ci := 6) (v := .ref ab) (C := RX6) (T := TX6) (N := 7) hx hb hts izRX6 hown hK hP 0 rfl rfl 0 (by decide) (hts _ k385) (fun _ h9 => h9) rfl dX5_fitsAll_43 ?_
            refine lv_iload hx hb dX5_fitsAll_46 (lv_at hl 4 rfl) ?_
            refine lv_iconst (v := 2) hx hb dX5_fitsAll_48 (by decide) ?_
            refine lv_iadd hx hb dX5_fitsAll_49 ?_
            refine zg3 (zaddK (i := x_1.toInt) (j := 2) (a' := 2) (b' := 402) rfl (by decide) i2.1 i2.2 (Int.le_refl _) (Int.le_refl _) (by decide)) (fun x_20 hx_20 => ?_)
            refine va_iald hx hb hK hP 1 0 rfl rfl (zinI (by omega) (by omega)) dX5_fitsAll_50 ?_
            refine zg (fun x_21 => ?_)
            refine lv_iconst (v := 1) hx hb dX5_fitsAll_51 (by decide) ?_
            refine lv_icmp_ne (tgt := 59) hx hb dX5_fitsAll_52 (by decide) (fun cb9 => ?_) (fun cb9 => ?_)
            · skip
              have c22 : ¬ x_21.toInt = 1 := zne cb9 rfl (by decide)
              refine lv_iconst (v := 0) hx hb dX5_fitsAll_59 (by decide) ?_
              refine lv_icmp_eq (tgt := 65) hx hb dX5_fitsAll_60 (by decide) (fun _ => ?_) (fun c23 => absurd (by decide) c23)
              refine ziinc3 (n' := 3) (a' := 3) (b' := 403) (lv' := fun v9 => [(4, .int v9), (0, .ref ro), (1, .ref ta), (2, .int n), (3, .int st0)]) hx hb dX5_fitsAll_65 hl (k := 4) rfl (by decide) (fun _ => rfl) (zaddK (i := x_1.toInt) (j := 3) rfl (by decide) i2.1 i2.2 (Int.le_refl _) (Int.le_refl _) (by decide)) (fun x_24 ls hx_24 hl => ?_)
              refine lv_goto (tgt := 3) hx hb dX5_fitsAll_68 (by decide) ?_
              have hl := lv_sub (l' := [(0, .ref ro), (1, .ref ta), (2, .int n), (3, .int st0), (4, .int x_24)]) hl [1, 2, 3, 4, 0] rfl
              have hP : va_P g.1 vwCl (List.flatten [bTape g ta ab sz ln kd bg nx ft fb, bRi g ro rw ri rt rb]) H := hP
              have hD : va_D A (List.flatten [bTape g ta ab sz ln kd bg nx ft fb, bRi g ro rw ri rt rb]) := hD
              obtain ⟨hP, hD⟩ := zord (g := g) (Bs' := [bRi g ro rw ri rt rb, bTape g ta ab sz ln kd bg nx ft fb]) [1, 0] rfl rfl hP hD
              have hP : va_P g.1 vwCl (List.flatten [bRi g ro rw ri rt rb, bTape g ta ab sz ln kd bg nx ft fb]) H := hP
              have hD : va_D A (List.flatten [bRi g ro rw ri rt rb, bTape g ta ab sz ln kd bg nx ft fb]) := hD
              exact ih3_4 x_24 (by first | omega | assumption | decide) H _ ls (zmK hx_24.1 (by decide) i2.2 (by decide) hk3_4)  hP hD hS (lv_sub hl [0, 1, 2, 3, 4] rfl)
            · skip
              have c25 : x_21.toInt = 1 := zeq cb9 rfl (by decide)
              have n26 : 1 ≤ x_21.toInt := Int.le_trans (Int.le_refl _) (Int.le_of_eq c25.symm)
              have n27 : x_21.toInt ≤ 1 := Int.le_trans (Int.le_of_eq c25) (Int.le_refl _)
              refine lv_iconst (v := 1) hx hb dX5_fitsAll_55 (by decide) ?_
              refine lv_goto (tgt := 60) hx hb dX5_fitsAll_56 (by decide) ?_
              refine lv_icmp_eq (tgt := 65) hx hb dX5_fitsAll_60 (by decide) (fun c28 => absurd c28 (by decide)) (fun _ => ?_)
              refine lv_iconst (v := 0) hx hb dX5_fitsAll_63 (by decide) ?_
              have hP : va_P g.1 vwCl (List.flatten [bTape g ta ab sz ln kd bg nx ft fb, bRi g ro rw ri rt rb]) H := hP
              have hD : va_D A (List.flatten [bTape g ta ab sz ln kd bg nx ft fb, bRi g ro rw ri rt rb]) := hD
              obtain ⟨hP, hD⟩ := zord (g := g) (Bs' := [bRi g ro rw ri rt rb, bTape g ta ab sz ln kd bg nx ft fb]) [1, 0] rfl rfl hP hD
              exact mret_z hx hb hr hlocks hS (Nat.le_of_ble_eq_true rfl) (Nat.le_of_ble_eq_true rfl) dX5_fitsAll_64 ((0 : Int32)) rfl (by decide) (show (0 = 0 ∨ 0 = 1) from (by decide)) hP hD
          · skip
            refine lv_aload_n hx hb dX5_fitsAll_42 rfl (lv_at hl 1 rfl) ?_
            refine va_get (D := g.1) (ci := 6) (v := .ref ab) (C := RX6) (T := TX6) (N := 7) hx hb hts izRX6 hown hK hP 0 rfl rfl 0 (by decide) (hts _ k385) (fun _ h9 => h9) rfl dX5_fitsAll_43 ?_
            refine lv_iload hx hb dX5_fitsAll_46 (lv_at hl 4 rfl) ?_
            refine lv_iconst (v := 2) hx hb dX5_fitsAll_48 (by decide) ?_
            refine lv_iadd hx hb dX5_fitsAll_49 ?_
            refine zg3 (zaddK (i := x_1.toInt) (j := 2) (a' := 2) (b' := 402) rfl (by decide) i2.1 i2.2 (Int.le_refl _) (Int.le_refl _) (by decide)) (fun x_29 hx_29 => ?_)
            refine va_iald hx hb hK hP 1 0 rfl rfl (zinI (by omega) (by omega)) dX5_fitsAll_50 ?_
            refine zg (fun x_30 => ?_)
            refine lv_iconst (v := 1) hx hb dX5_fitsAll_51 (by decide) ?_
            refine lv_icmp_ne (tgt := 59) hx hb dX5_fitsAll_52 (by decide) (fun cb9 => ?_) (fun cb9 => ?_)
            · skip
              have c31 : ¬ x_30.toInt = 1 := zne cb9 rfl (by decide)
              refine lv_iconst (v := 0) hx hb dX5_fitsAll_59 (by decide) ?_
              refine lv_icmp_eq (tgt := 65) hx hb dX5_fitsAll_60 (by decide) (fun c32 => absurd c32 (by decide)) (fun _ => ?_)
              refine lv_iconst (v := 0) hx hb dX5_fitsAll_63 (by decide) ?_
              have hP : va_P g.1 vwCl (List.flatten [bTape g ta ab sz ln kd bg nx ft fb, bRi g ro rw ri rt rb]) H := hP
              have hD : va_D A (List.flatten [bTape g ta ab sz ln kd bg nx ft fb, bRi g ro rw ri rt rb]) := hD
              obtain ⟨hP, hD⟩ := zord (g := g) (Bs' := [bRi g ro rw ri rt rb, bTape g ta ab sz ln kd bg nx ft fb]) [1, 0] rfl rfl hP hD
              exact mret_z hx hb hr hlocks hS (Nat.le_of_ble_eq_true rfl) (Nat.le_of_ble_eq_true rfl) dX5_fitsAll_64 ((0 : Int32)) rfl (by decide) (show (0 = 0 ∨ 0 = 1) from (by decide)) hP hD
            · skip
              have c33 : x_30.toInt = 1 := zeq cb9 rfl (by decide)
              have n34 : 1 ≤ x_30.toInt := Int.le_trans (Int.le_refl _) (Int.le_of_eq c33.symm)
              have n35 : x_30.toInt ≤ 1 := Int.le_trans (Int.le_of_eq c33) (Int.le_refl _)
              refine lv_iconst (v := 1) hx hb dX5_fitsAll_55 (by decide) ?_
              refine lv_goto (tgt := 60) hx hb dX5_fitsAll_56 (by decide) ?_
              refine lv_icmp_eq (tgt := 65) hx hb dX5_fitsAll_60 (by decide) (fun _ => ?_) (fun c36 => absurd (by decide) c36)
              refine ziinc3 (n' := 3) (a' := 3) (b' := 403) (lv' := fun v9 => [(4, .int v9), (0, .ref ro), (1, .ref ta), (2, .int n), (3, .int st0)]) hx hb dX5_fitsAll_65 hl (k := 4) rfl (by decide) (fun _ => rfl) (zaddK (i := x_1.toInt) (j := 3) rfl (by decide) i2.1 i2.2 (Int.le_refl _) (Int.le_refl _) (by decide)) (fun x_37 ls hx_37 hl => ?_)
              refine lv_goto (tgt := 3) hx hb dX5_fitsAll_68 (by decide) ?_
              have hl := lv_sub (l' := [(0, .ref ro), (1, .ref ta), (2, .int n), (3, .int st0), (4, .int x_37)]) hl [1, 2, 3, 4, 0] rfl
              have hP : va_P g.1 vwCl (List.flatten [bTape g ta ab sz ln kd bg nx ft fb, bRi g ro rw ri rt rb]) H := hP
              have hD : va_D A (List.flatten [bTape g ta ab sz ln kd bg nx ft fb, bRi g ro rw ri rt rb]) := hD
              obtain ⟨hP, hD⟩ := zord (g := g) (Bs' := [bRi g ro rw ri rt rb, bTape g ta ab sz ln kd bg nx ft fb]) [1, 0] rfl rfl hP hD
              have hP : va_P g.1 vwCl (List.flatten [bRi g ro rw ri rt rb, bTape g ta ab sz ln kd bg nx ft fb]) H := hP
              have hD : va_D A (List.flatten [bRi g ro rw ri rt rb, bTape g ta ab sz ln kd bg nx ft fb]) := hD
              exact ih3_4 x_37 (by first | omega | assumption | decide) H _ ls (zmK hx_37.1 (by decide) i2.2 (by decide) hk3_4)  hP hD hS (lv_sub hl [0, 1, 2, 3, 4] rfl)
  have hP : va_P g.1 vwCl (List.flatten [bRi g ro rw ri rt rb, bTape g ta ab sz ln kd bg nx ft fb]) s.heap := hP
  have hD : va_D A (List.flatten [bRi g ro rw ri rt rb, bTape g ta ab sz ln kd bg nx ft fb]) := hD
  exact LP3_3 _ 0 (by decide) s.heap _ ls (Nat.lt_succ_self _)  hP hD hS (lv_sub hl [0, 1, 2, 3, 4] rfl)
