set_option maxRecDepth 100000 in
set_option maxHeartbeats 4000000 in
theorem c_t_add (l : Launch) (g : zG) (ta : Nat) (ab : Nat) (sz : Int32) (ln : Int32) (kd : Int32) (bg : Int32) (nx : Int32) (ft : Int32) (fb : Nat → Int32) (v : Int32) (b_sz : 0 ≤ sz.toInt ∧ sz.toInt ≤ 400) (hs4 : sz.toInt ≤ 396) : zM' g l yX6_add (Cond.code yX6_add cX6_add 3 none :: zB) ({ frames := 0, cells := 0, slots := 0, locals := 0 } : Room) [.ref ta, .int v] [bTape g ta ab sz ln kd bg nx ft fb] (fun u : Int32 × (Nat → Int32) => (fun (sz2 : Int32) (fb2 : Nat → Int32) => none) (u.1) (u.2)) (fun u : Int32 × (Nat → Int32) => (fun (sz2 : Int32) (fb2 : Nat → Int32) => (0 ≤ sz2.toInt ∧ sz2.toInt ≤ 400) ∧ (sz2.toInt = sz.toInt + 4)) (u.1) (u.2)) (fun u : Int32 × (Nat → Int32) => (fun (sz2 : Int32) (fb2 : Nat → Int32) => [bTape g ta ab sz2 ln kd bg nx ft fb2]) (u.1) (u.2)) := by
  refine zM'.of (cc := cX6_add) (maxL := 3) (rt := none) (by decide) rfl (Nat.le_of_ble_eq_true rfl) ?_
  intro p e s m args below meth c A ls St hr hlocks hin hK hT hA hP hD hS hl
  obtain ⟨hx, hb, hml, hown, hts⟩ := id St
  have hl : lv_has ls 3 [(0, .ref ta), (1, .int v)] := hl
  refine lv_bipush (v := 24) hx hb dX6_add_0 (by decide) ?_
  refine lv_istore_n (lv' := [(2, .int 24), (0, .ref ta), (1, .int v)]) hx hb dX6_add_2 rfl hl (by decide) rfl (fun ls hl => ?_)
  refine lv_iload_n hx hb dX6_add_3 rfl (lv_at hl 0 rfl) ?_
  refine lv_if_lt (tgt := 49) hx hb dX6_add_4 (by decide) (fun c1 => absurd c1 (by decide)) (fun _ => ?_)
  refine lv_aload_n hx hb dX6_add_7 rfl (lv_at hl 1 rfl) ?_
  refine va_get (D := g.1) (ci := 6) (v := .int sz) (C := RX6) (T := TX6) (N := 7) hx hb hts izRX6 hown hK hP 0 rfl rfl 1 (by decide) (hts _ k423) (fun _ h9 => h9) rfl dX6_add_8 ?_
  refine lv_sipush (v := 400) hx hb dX6_add_11 (by decide) ?_
  refine lv_icmp_ge (tgt := 49) hx hb dX6_add_14 (by decide) (fun cb9 => ?_) (fun cb9 => ?_)
  · skip
    exact absurd (show 400 ≤ sz.toInt from zle cb9 (by decide) rfl) (by omega)
  · skip
    have c3 : sz.toInt < 400 := zlti (Int32.not_le.mp cb9) rfl (by decide)
    refine lv_aload_n hx hb dX6_add_17 rfl (lv_at hl 1 rfl) ?_
    refine va_get (D := g.1) (ci := 6) (v := .ref ab) (C := RX6) (T := TX6) (N := 7) hx hb hts izRX6 hown hK hP 0 rfl rfl 0 (by decide) (hts _ k261) (fun _ h9 => h9) rfl dX6_add_18 ?_
    refine lv_aload_n hx hb dX6_add_21 rfl (lv_at hl 1 rfl) ?_
    refine va_get (D := g.1) (ci := 6) (v := .int sz) (C := RX6) (T := TX6) (N := 7) hx hb hts izRX6 hown hK hP 0 rfl rfl 1 (by decide) (hts _ k423) (fun _ h9 => h9) rfl dX6_add_22 ?_
    refine lv_iload_n hx hb dX6_add_25 rfl (lv_at hl 2 rfl) ?_
    refine lv_iload_n hx hb dX6_add_26 rfl (lv_at hl 0 rfl) ?_
    refine lv_iushr hx hb dX6_add_27 rfl ?_
    refine zg (fun x_4 => ?_)
    refine lv_sipush (v := 255) hx hb dX6_add_28 (by decide) ?_
    refine lv_iand hx hb dX6_add_31 ?_
    refine zgb (zand255 _) (fun x_5 hx_5 => ?_)
    refine va_iast hx hb hK hP hD hS 1 0 rfl rfl (zinI (by omega) (by omega)) dX6_add_32 (fun H locs hP hD hS => ?_)
    obtain ⟨fb_6, hP, hD⟩ : ∃ fb_6 : Nat → Int32, va_P g.1 vwCl (List.flatten [bTape g ta ab sz ln kd bg nx ft fb_6]) H ∧ va_D A (List.flatten [bTape g ta ab sz ln kd bg nx ft fb_6]) := ⟨upd fb sz.toNatClampNeg x_5, hP, hD⟩
    refine lv_aload_n hx hb dX6_add_33 rfl (lv_at hl 1 rfl) ?_
    refine lv_dup hx hb dX6_add_34 rfl ?_
    refine va_get (D := g.1) (ci := 6) (v := .int sz) (C := RX6) (T := TX6) (N := 7) hx hb hts izRX6 hown hK hP 0 rfl rfl 1 (by decide) (hts _ k423) (fun _ h9 => h9) rfl dX6_add_35 ?_
    refine lv_iconst (v := 1) hx hb dX6_add_38 (by decide) ?_
    refine lv_iadd hx hb dX6_add_39 ?_
    refine zgv (zadd (i := sz.toInt) (j := 1) rfl (by decide) (by omega)) (fun x_7 hx_7 => ?_)
    refine va_put (D := g.1) (ci := 6) (v := .int x_7) (ty := .int) (C := RX6) (T := TX6) (N := 7) hx hb hts izRX6 tyX6 tyX6_ok nmX6 hown hK hP hD hS 0 rfl rfl 1 (by decide) (hts _ k423) (fun _ h9 => h9) rfl (by decide +kernel) rfl rfl (Nat.le_of_ble_eq_true rfl) dX6_add_40 (fun H locs hP hD hS => ?_)
    have hP : va_P g.1 vwCl (List.flatten [bTape g ta ab x_7 ln kd bg nx ft fb_6]) H := hP
    have hD : va_D A (List.flatten [bTape g ta ab x_7 ln kd bg nx ft fb_6]) := hD
    refine ziinc3 (n' := (-8)) (a' := 16) (b' := 16) (lv' := fun v9 => [(2, .int v9), (0, .ref ta), (1, .int v)]) hx hb dX6_add_43 hl (k := 0) rfl (by decide) (fun _ => rfl) (zaddK (i := 24) (j := (-8)) (by decide) (by decide) (Int.le_refl _) (Int.le_refl _) (Int.le_refl _) (Int.le_refl _) (by decide)) (fun x_8 ls hx_8 hl => ?_)
    refine lv_goto (tgt := 3) hx hb dX6_add_46 (by decide) ?_
    refine lv_iload_n hx hb dX6_add_3 rfl (lv_at hl 0 rfl) ?_
    refine lv_if_lt (tgt := 49) hx hb dX6_add_4 (by decide) (fun cb9 => ?_) (fun cb9 => ?_)
    · skip
      exact absurd (show x_8.toInt < 0 from zlti cb9 rfl (by decide)) (zDlt (a := 16) (b := 0) hx_8.2.1 (Int.le_refl _) (by decide))
    · skip
      have c10 : 0 ≤ x_8.toInt := zle (Int32.not_lt.mp cb9) (by decide) rfl
      refine lv_aload_n hx hb dX6_add_7 rfl (lv_at hl 1 rfl) ?_
      refine va_get (D := g.1) (ci := 6) (v := .int x_7) (C := RX6) (T := TX6) (N := 7) hx hb hts izRX6 hown hK hP 0 rfl rfl 1 (by decide) (hts _ k423) (fun _ h9 => h9) rfl dX6_add_8 ?_
      refine lv_sipush (v := 400) hx hb dX6_add_11 (by decide) ?_
      refine lv_icmp_ge (tgt := 49) hx hb dX6_add_14 (by decide) (fun cb9 => ?_) (fun cb9 => ?_)
      · skip
        exact absurd (show 400 ≤ x_7.toInt from zle cb9 (by decide) rfl) (by omega)
      · skip
        have c12 : x_7.toInt < 400 := zlti (Int32.not_le.mp cb9) rfl (by decide)
        refine lv_aload_n hx hb dX6_add_17 rfl (lv_at hl 1 rfl) ?_
        refine va_get (D := g.1) (ci := 6) (v := .ref ab) (C := RX6) (T := TX6) (N := 7) hx hb hts izRX6 hown hK hP 0 rfl rfl 0 (by decide) (hts _ k261) (fun _ h9 => h9) rfl dX6_add_18 ?_
        refine lv_aload_n hx hb dX6_add_21 rfl (lv_at hl 1 rfl) ?_
        refine va_get (D := g.1) (ci := 6) (v := .int x_7) (C := RX6) (T := TX6) (N := 7) hx hb hts izRX6 hown hK hP 0 rfl rfl 1 (by decide) (hts _ k423) (fun _ h9 => h9) rfl dX6_add_22 ?_
        refine lv_iload_n hx hb dX6_add_25 rfl (lv_at hl 2 rfl) ?_
        refine lv_iload_n hx hb dX6_add_26 rfl (lv_at hl 0 rfl) ?_
        refine lv_iushr hx hb dX6_add_27 rfl ?_
        refine zg (fun x_13 => ?_)
        refine lv_sipush (v := 255) hx hb dX6_add_28 (by decide) ?_
        refine lv_iand hx hb dX6_add_31 ?_
        refine zgb (zand255 _) (fun x_14 hx_14 => ?_)
        refine va_iast hx hb hK hP hD hS 1 0 rfl rfl (zinI (by omega) (by omega)) dX6_add_32 (fun H locs hP hD hS => ?_)
        obtain ⟨fb_15, hP, hD⟩ : ∃ fb_15 : Nat → Int32, va_P g.1 vwCl (List.flatten [bTape g ta ab x_7 ln kd bg nx ft fb_15]) H ∧ va_D A (List.flatten [bTape g ta ab x_7 ln kd bg nx ft fb_15]) := ⟨upd fb_6 x_7.toNatClampNeg x_14, hP, hD⟩
        refine lv_aload_n hx hb dX6_add_33 rfl (lv_at hl 1 rfl) ?_
        refine lv_dup hx hb dX6_add_34 rfl ?_
        refine va_get (D := g.1) (ci := 6) (v := .int x_7) (C := RX6) (T := TX6) (N := 7) hx hb hts izRX6 hown hK hP 0 rfl rfl 1 (by decide) (hts _ k423) (fun _ h9 => h9) rfl dX6_add_35 ?_
        refine lv_iconst (v := 1) hx hb dX6_add_38 (by decide) ?_
        refine lv_iadd hx hb dX6_add_39 ?_
        refine zgv (zadd (i := x_7.toInt) (j := 1) rfl (by decide) (by omega)) (fun x_16 hx_16 => ?_)
        refine va_put (D := g.1) (ci := 6) (v := .int x_16) (ty := .int) (C := RX6) (T := TX6) (N := 7) hx hb hts izRX6 tyX6 tyX6_ok nmX6 hown hK hP hD hS 0 rfl rfl 1 (by decide) (hts _ k423) (fun _ h9 => h9) rfl (by decide +kernel) rfl rfl (Nat.le_of_ble_eq_true rfl) dX6_add_40 (fun H locs hP hD hS => ?_)
        have hP : va_P g.1 vwCl (List.flatten [bTape g ta ab x_16 ln kd bg nx ft fb_15]) H := hP
        have hD : va_D A (List.flatten [bTape g ta ab x_16 ln kd bg nx ft fb_15]) := hD
        refine ziinc3 (n' := (-8)) (a' := 8) (b' := 8) (lv' := fun v9 => [(2, .int v9), (0, .ref ta), (1, .int v)]) hx hb dX6_add_43 hl (k := 0) rfl (by decide) (fun _ => rfl) (zaddK (i := x_8.toInt) (j := (-8)) rfl (by decide) hx_8.2.1 hx_8.2.2 (Int.le_refl _) (Int.le_refl _) (by decide)) (fun x_17 ls hx_17 hl => ?_)
        refine lv_goto (tgt := 3) hx hb dX6_add_46 (by decide) ?_
        refine lv_iload_n hx hb dX6_add_3 rfl (lv_at hl 0 rfl) ?_
        refine lv_if_lt (tgt := 49) hx hb dX6_add_4 (by decide) (fun cb9 => ?_) (fun cb9 => ?_)
        · skip
          exact absurd (show x_17.toInt < 0 from zlti cb9 rfl (by decide)) (zDlt (a := 8) (b := 0) hx_17.2.1 (Int.le_refl _) (by decide))
        · skip
          have c19 : 0 ≤ x_17.toInt := zle (Int32.not_lt.mp cb9) (by decide) rfl
          refine lv_aload_n hx hb dX6_add_7 rfl (lv_at hl 1 rfl) ?_
          refine va_get (D := g.1) (ci := 6) (v := .int x_16) (C := RX6) (T := TX6) (N := 7) hx hb hts izRX6 hown hK hP 0 rfl rfl 1 (by decide) (hts _ k423) (fun _ h9 => h9) rfl dX6_add_8 ?_
          refine lv_sipush (v := 400) hx hb dX6_add_11 (by decide) ?_
          refine lv_icmp_ge (tgt := 49) hx hb dX6_add_14 (by decide) (fun cb9 => ?_) (fun cb9 => ?_)
          · skip
            exact absurd (show 400 ≤ x_16.toInt from zle cb9 (by decide) rfl) (by omega)
          · skip
            have c21 : x_16.toInt < 400 := zlti (Int32.not_le.mp cb9) rfl (by decide)
            refine lv_aload_n hx hb dX6_add_17 rfl (lv_at hl 1 rfl) ?_
            refine va_get (D := g.1) (ci := 6) (v := .ref ab) (C := RX6) (T := TX6) (N := 7) hx hb hts izRX6 hown hK hP 0 rfl rfl 0 (by decide) (hts _ k261) (fun _ h9 => h9) rfl dX6_add_18 ?_
            refine lv_aload_n hx hb dX6_add_21 rfl (lv_at hl 1 rfl) ?_
            refine va_get (D := g.1) (ci := 6) (v := .int x_16) (C := RX6) (T := TX6) (N := 7) hx hb hts izRX6 hown hK hP 0 rfl rfl 1 (by decide) (hts _ k423) (fun _ h9 => h9) rfl dX6_add_22 ?_
            refine lv_iload_n hx hb dX6_add_25 rfl (lv_at hl 2 rfl) ?_
            refine lv_iload_n hx hb dX6_add_26 rfl (lv_at hl 0 rfl) ?_
            refine lv_iushr hx hb dX6_add_27 rfl ?_
            refine zg (fun x_22 => ?_)
            refine lv_sipush (v := 255) hx hb dX6_add_28 (by decide) ?_
            refine lv_iand hx hb dX6_add_31 ?_
            refine zgb (zand255 _) (fun x_23 hx_23 => ?_)
            refine va_iast hx hb hK hP hD hS 1 0 rfl rfl (zinI (by omega) (by omega)) dX6_add_32 (fun H locs hP hD hS => ?_)
            obtain ⟨fb_24, hP, hD⟩ : ∃ fb_24 : Nat → Int32, va_P g.1 vwCl (List.flatten [bTape g ta ab x_16 ln kd bg nx ft fb_24]) H ∧ va_D A (List.flatten [bTape g ta ab x_16 ln kd bg nx ft fb_24]) := ⟨upd fb_15 x_16.toNatClampNeg x_23, hP, hD⟩
            refine lv_aload_n hx hb dX6_add_33 rfl (lv_at hl 1 rfl) ?_
            refine lv_dup hx hb dX6_add_34 rfl ?_
            refine va_get (D := g.1) (ci := 6) (v := .int x_16) (C := RX6) (T := TX6) (N := 7) hx hb hts izRX6 hown hK hP 0 rfl rfl 1 (by decide) (hts _ k423) (fun _ h9 => h9) rfl dX6_add_35 ?_
            refine lv_iconst (v := 1) hx hb dX6_add_38 (by decide) ?_
            refine lv_iadd hx hb dX6_add_39 ?_
            refine zgv (zadd (i := x_16.toInt) (j := 1) rfl (by decide) (by omega)) (fun x_25 hx_25 => ?_)
            refine va_put (D := g.1) (ci := 6) (v := .int x_25) (ty := .int) (C := RX6) (T := TX6) (N := 7) hx hb hts izRX6 tyX6 tyX6_ok nmX6 hown hK hP hD hS 0 rfl rfl 1 (by decide) (hts _ k423) (fun _ h9 => h9) rfl (by decide +kernel) rfl rfl (Nat.le_of_ble_eq_true rfl) dX6_add_40 (fun H locs hP hD hS => ?_)
            have hP : va_P g.1 vwCl (List.flatten [bTape g ta ab x_25 ln kd bg nx ft fb_24]) H := hP
            have hD : va_D A (List.flatten [bTape g ta ab x_25 ln kd bg nx ft fb_24]) := hD
            refine ziinc3 (n' := (-8)) (a' := 0) (b' := 0) (lv' := fun v9 => [(2, .int v9), (0, .ref ta), (1, .int v)]) hx hb dX6_add_43 hl (k := 0) rfl (by decide) (fun _ => rfl) (zaddK (i := x_17.toInt) (j := (-8)) rfl (by decide) hx_17.2.1 hx_17.2.2 (Int.le_refl _) (Int.le_refl _) (by decide)) (fun x_26 ls hx_26 hl => ?_)
            refine lv_goto (tgt := 3) hx hb dX6_add_46 (by decide) ?_
            refine lv_iload_n hx hb dX6_add_3 rfl (lv_at hl 0 rfl) ?_
            refine lv_if_lt (tgt := 49) hx hb dX6_add_4 (by decide) (fun cb9 => ?_) (fun cb9 => ?_)
            · skip
              exact absurd (show x_26.toInt < 0 from zlti cb9 rfl (by decide)) (zDlt (a := 0) (b := 0) hx_26.2.1 (Int.le_refl _) (by decide))
            · skip
              have c28 : 0 ≤ x_26.toInt := zle (Int32.not_lt.mp cb9) (by decide) rfl
              refine lv_aload_n hx hb dX6_add_7 rfl (lv_at hl 1 rfl) ?_
              refine va_get (D := g.1) (ci := 6) (v := .int x_25) (C := RX6) (T := TX6) (N := 7) hx hb hts izRX6 hown hK hP 0 rfl rfl 1 (by decide) (hts _ k423) (fun _ h9 => h9) rfl dX6_add_8 ?_
              refine lv_sipush (v := 400) hx hb dX6_add_11 (by decide) ?_
              refine lv_icmp_ge (tgt := 49) hx hb dX6_add_14 (by decide) (fun cb9 => ?_) (fun cb9 => ?_)
              · skip
                exact absurd (show 400 ≤ x_25.toInt from zle cb9 (by decide) rfl) (by omega)
              · skip
                have c30 : x_25.toInt < 400 := zlti (Int32.not_le.mp cb9) rfl (by decide)
                refine lv_aload_n hx hb dX6_add_17 rfl (lv_at hl 1 rfl) ?_
                refine va_get (D := g.1) (ci := 6) (v := .ref ab) (C := RX6) (T := TX6) (N := 7) hx hb hts izRX6 hown hK hP 0 rfl rfl 0 (by decide) (hts _ k261) (fun _ h9 => h9) rfl dX6_add_18 ?_
                refine lv_aload_n hx hb dX6_add_21 rfl (lv_at hl 1 rfl) ?_
                refine va_get (D := g.1) (ci := 6) (v := .int x_25) (C := RX6) (T := TX6) (N := 7) hx hb hts izRX6 hown hK hP 0 rfl rfl 1 (by decide) (hts _ k423) (fun _ h9 => h9) rfl dX6_add_22 ?_
                refine lv_iload_n hx hb dX6_add_25 rfl (lv_at hl 2 rfl) ?_
                refine lv_iload_n hx hb dX6_add_26 rfl (lv_at hl 0 rfl) ?_
                refine lv_iushr hx hb dX6_add_27 rfl ?_
                refine zg (fun x_31 => ?_)
                refine lv_sipush (v := 255) hx hb dX6_add_28 (by decide) ?_
                refine lv_iand hx hb dX6_add_31 ?_
                refine zgb (zand255 _) (fun x_32 hx_32 => ?_)
                refine va_iast hx hb hK hP hD hS 1 0 rfl rfl (zinI (by omega) (by omega)) dX6_add_32 (fun H locs hP hD hS => ?_)
                obtain ⟨fb_33, hP, hD⟩ : ∃ fb_33 : Nat → Int32, va_P g.1 vwCl (List.flatten [bTape g ta ab x_25 ln kd bg nx ft fb_33]) H ∧ va_D A (List.flatten [bTape g ta ab x_25 ln kd bg nx ft fb_33]) := ⟨upd fb_24 x_25.toNatClampNeg x_32, hP, hD⟩
                refine lv_aload_n hx hb dX6_add_33 rfl (lv_at hl 1 rfl) ?_
                refine lv_dup hx hb dX6_add_34 rfl ?_
                refine va_get (D := g.1) (ci := 6) (v := .int x_25) (C := RX6) (T := TX6) (N := 7) hx hb hts izRX6 hown hK hP 0 rfl rfl 1 (by decide) (hts _ k423) (fun _ h9 => h9) rfl dX6_add_35 ?_
                refine lv_iconst (v := 1) hx hb dX6_add_38 (by decide) ?_
                refine lv_iadd hx hb dX6_add_39 ?_
                refine zgv (zadd (i := x_25.toInt) (j := 1) rfl (by decide) (by omega)) (fun x_34 hx_34 => ?_)
                refine va_put (D := g.1) (ci := 6) (v := .int x_34) (ty := .int) (C := RX6) (T := TX6) (N := 7) hx hb hts izRX6 tyX6 tyX6_ok nmX6 hown hK hP hD hS 0 rfl rfl 1 (by decide) (hts _ k423) (fun _ h9 => h9) rfl (by decide +kernel) rfl rfl (Nat.le_of_ble_eq_true rfl) dX6_add_40 (fun H locs hP hD hS => ?_)
                have hP : va_P g.1 vwCl (List.flatten [bTape g ta ab x_34 ln kd bg nx ft fb_33]) H := hP
                have hD : va_D A (List.flatten [bTape g ta ab x_34 ln kd bg nx ft fb_33]) := hD
                refine ziinc3 (n' := (-8)) (a' := (-8)) (b' := (-8)) (lv' := fun v9 => [(2, .int v9), (0, .ref ta), (1, .int v)]) hx hb dX6_add_43 hl (k := 0) rfl (by decide) (fun _ => rfl) (zaddK (i := x_26.toInt) (j := (-8)) rfl (by decide) hx_26.2.1 hx_26.2.2 (Int.le_refl _) (Int.le_refl _) (by decide)) (fun x_35 ls hx_35 hl => ?_)
                refine lv_goto (tgt := 3) hx hb dX6_add_46 (by decide) ?_
                refine lv_iload_n hx hb dX6_add_3 rfl (lv_at hl 0 rfl) ?_
                refine lv_if_lt (tgt := 49) hx hb dX6_add_4 (by decide) (fun cb9 => ?_) (fun cb9 => ?_)
                · skip
                  have c36 : x_35.toInt < 0 := zlti cb9 rfl (by decide)
                  have hP : va_P g.1 vwCl (List.flatten [bTape g ta ab x_34 ln kd bg nx ft fb_33]) H := hP
                  have hD : va_D A (List.flatten [bTape g ta ab x_34 ln kd bg nx ft fb_33]) := hD
                  exact mret_v hx hb hr hlocks hS (Nat.le_of_ble_eq_true rfl) (Nat.le_of_ble_eq_true rfl) dX6_add_49 (x_34, fb_33) rfl (show (0 ≤ x_34.toInt ∧ x_34.toInt ≤ 400) ∧ (x_34.toInt = sz.toInt + 4) from ⟨(by first | assumption | omega | decide | exact rfl | exact zb01 (by omega) | exact Or.inl (by decide) | exact Or.inr (by first | omega | decide)), (by first | assumption | omega | decide | exact rfl | exact zb01 (by omega) | exact Or.inl (by decide) | exact Or.inr (by first | omega | decide))⟩) hP hD
                · skip
                  exact absurd (show 0 ≤ x_35.toInt from zle (Int32.not_lt.mp cb9) (by decide) rfl) (zDle (a := 0) (b := (-8)) (Int.le_refl _) hx_35.2.2 (by decide))
