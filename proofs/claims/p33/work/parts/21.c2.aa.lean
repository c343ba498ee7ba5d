set_option maxRecDepth 100000 in
set_option maxHeartbeats 4000000 in
theorem c_t_add (l : Launch) (g : zG) (ta : Nat) (ab : Nat) (sz : Int32) (ln : Int32) (kd : Int32) (bg : Int32) (nx : Int32) (ft : Int32) (fb : Nat → Int32) (v : Int32) (b_sz : 0 ≤ sz.toInt ∧ sz.toInt ≤ 400) (hs4 : sz.toInt ≤ 396) : zM' g l yX6_add (Cond.code yX6_add cX6_add 3 none :: zB) ({ frames := 0, cells := 0, slots := 0, locals := 0 } : Room) [.ref ta, .int v] [bTape g ta ab sz ln kd bg nx ft fb] (fun u : Int32 × (Nat → Int32) => (fun (sz2 : Int32) (fb2 : Nat → Int32) => none) (u.1) (u.2)) (fun u : Int32 × (Nat → Int32) => (fun (sz2 : Int32) (fb2 : Nat → Int32) => (0 ≤ sz2.toInt ∧ sz2.toInt ≤ 400) ∧ (sz2.toInt = sz.toInt + 4)) (u.1) (u.2)) (fun u : Int32 × (Nat → Int32) => (fun (sz2 : Int32) (fb2 : Nat → Int32) => [bTape g ta ab sz2 ln kd bg nx ft fb2]) (u.1) (u.2)) := by
  refine zM'.of (cc := cX6_add) (maxL := 3) (rt := none) (by decide) rfl (Nat.le_of_ble_eq_true rfl) ?_
  intro p e s m args below meth c A ls St hr hlocks hin hK hT hA hP hD hS hl
  obtain ⟨hx, hb, hml, hown, hts⟩ := id St
  have hl : lv_has ls 3 [(0, .ref ta), (1, .int v)] := hl
  refine lv_bipush (v := 24) hx hb dX6_add_0 (by decide) ?_
  refine lv_istore_n (lv' := [(2, .int 24), (0, .ref ta), (1, .int v)]) hx hb dX6_add_2 rfl hl (by decide) rfl (fun ls hl => ?_)
  refine lv_iload_n hx hb dX6_add_3 rfl (lv_at hl 0 rfl) ?_
  refine lv_if_lt (tgt := 49) hx hb dX6_add_4 (by decide) (fun c1 => absurd c1 (by decide)) (fun _ => ?_)
  refine lv_aload_n hx hb dX6_add_7 rfl (lv_at hl 1 rfl) ?_
  refine va_get (D := g.1) (ci := 6) (v := .int sz) (C := RX6) (T := TX6) (N := 7) hx hb hts izRX6 hown hK hP 0 rfl rfl 1 (by decide) (hts _ k423) (fun _ h9 => h9) rfl dX6_add_8 ?_
  refine lv_sipush (v := 400) hx hb dX6_add_11 (by decide) ?_
  refine lv_icmp_ge (tgt := 49) hx hb dX6_add_14 (by decide) (fun cb9 => ?_) (fun cb9 => ?_)
  · skip
    exact absurd (show 400 ≤ sz.toInt from zle cb9 (by decide) rfl) (by omega)
  · skip
    have c3 : sz.toInt < 400 := zlti (Int32.not_le.mp cb9) rfl (by decide)
    refine lv_aload_n hx hb dX6_add_17 rfl (lv_at hl 1 rfl) ?_
    refine va_get (D := g.1) (ci := 6) (v := .ref ab) (C := RX6) (T := TX6) (N := 7) hx hb hts izRX6 hown hK hP 0 rfl rfl 0 (by decide) (hts _ k261) (fun _ h9 => h9) rfl dX6_add_18 ?_
    refine lv_aload_n hx hb dX6_add_21 rfl (lv_at hl 1 rfl) ?_
    refine va_get (D := g.1) (ci := 6) (v := .int sz) (C := RX6) (T := TX6) (N := 7) hx hb hts izRX6 hown hK hP 0 rfl rfl 1 (by decide) (hts _ k423) (fun _ h9 => h9) rfl dX6_add_22 ?_
    refine lv_iload_n hx hb dX6_add_25 rfl (lv_at hl 2 rfl) ?_
    refine lv_iload_n hx hb dX6_add_26 rfl (lv_at hl 0 rfl) ?_
    refine lv_iushr hx hb dX6_add_27 rfl ?_
    refine zg (fun x_4 => ?_)
    refine lv_sipush (v := 255) hx hb dX6_add_28 (by decide) ?_
    refine lv_iand hx hb dX6_add_31 ?_
    refine zgb (zand255 _) (fun x_5 hx_5 => ?_)
    refine va_iast hx hb hK hP hD hS 1 0 rfl rfl (zinI (by omega) (by omega)) dX6_add_32 (fun H locs hP hD hS => ?_)
    obtain ⟨fb_6, hP, hD⟩ : ∃ fb_6 : Nat → Int32, va_P g.1 vwCl (List.flatten [bTape g ta ab sz ln kd bg nx ft fb_6]) H ∧ va_D A (List.flatten [bTape g ta ab sz ln kd bg nx ft fb_6]) := ⟨upd fb sz.toNatClampNeg x_5, hP, hD⟩
    refine lv_aload_n hx hb dX6_add_33 rfl (lv_at hl 1 rfl) ?_
    refine lv_dup hx hb dX6_add_34 rfl ?_
    refine va_get (D := g.1) (ci := 6) (v := .int sz) (C := RX6) (T := TX6) (N := 7) hx hb hts izRX6 hown hK hP 0 rfl rfl 1 (by decide) (hts _ k423) (fun _ h9 => h9) rfl dX6_add_35 ?_
    refine lv_iconst (v := 1) hx hb dX6_add_38 (by decide) ?_
    refine lv_iadd hx hb dX6_add_39 ?_
    refine zgv (zadd (i := sz.toInt) (j := 1) rfl (by decide) (by omega)) (fun x_7 hx_7 => ?_)
    refine va_put (D := g.1) (ci := 6) (v := .int x_7) (ty := .int) (C := RX6) (T := TX6) (N := 7) hx hb hts izRX6 tyX6 tyX6_ok nmX6 hown hK hP hD hS 0 rfl rfl 1 (by decide) (hts _ k423) (fun _ h9 => h9) rfl (by decide +kernel) rfl rfl (Nat.le_of_ble_eq_true rfl) dX6_add_40 (fun H locs hP hD hS => ?_)
    have hP : va_P g.1 vwCl (List.flatten [bTape g ta ab x_7 ln kd bg nx ft fb_6]) H := hP
    have hD : va_D A (List.flatten [bTape g ta ab x_7 ln kd bg nx ft fb_6]) := hD
    refine ziinc3 (n' := (-8)) (a' := 16) (b' := 16) (lv' := fun v9 => [(2, .int v9), (0, .ref ta), (1, .int v)]) hx hb dX6_add_43 hl (k := 0) rfl (by decide) (fun _ => rfl) (zaddK (i := 24) (j := (-8)) (by decide) (by decide) (Int.le_refl _) (Int.le_refl _) (Int.le_refl _) (Int.le_refl _) (by decide)) (fun x_8 ls hx_8 hl => ?_)
    refine lv_goto (tgt := 3) hx hb dX6_add_46 (by decide) ?_
    refine lv_iload_n hx hb dX6_add_3 rfl (lv_at hl 0 rfl) ?_
    refine lv_if_lt (tgt := 49) hx hb dX6_add_4 (by decide) (fun cb9 => ?_) (fun cb9 => ?_)
    · skip
      exact absurd (show x_8.toInt < 0 from zlti cb9 rfl (by decide)) (zDlt (a := 16) (b := 0) hx_8.2.1 (Int.le_refl _) (by decide))
    · skip
      have c10 : 0 ≤ x_8.toInt := zle (Int32.not_lt.mp cb9) (by decide) rfl
      refine lv_aload_n hx hb dX6_add_7 rfl (lv_at hl 1 rfl) ?_
      refine va_get (D := g.1) (ci := 6) (v := .int x_7) (C := RX6) (T := TX6) (N := 7) hx hb hts izRX6 hown hK hP 0 rfl rfl 1 (by decide) (hts _ k423) (fun _ h9 => h9) rfl dX6_add_8 ?_
      refine lv_sipush (v := 400) hx hb dX6_add_11 (by decide) ?_
      refine lv_icmp_ge (tgt := 49) hx hb dX6_add_14 (by decide) (fun cb9 => ?_) (fun cb9 => ?_)
      · skip
        exact absurd (show 400 ≤ x_7.toInt from zle cb9 (by decide) rfl) (by omega)
      · skip
        have c12 : x_7.toInt < 400 := zlti (Int32.not_le.mp cb9) rfl (by decide)
        refine lv_aload_n hx hb dX6_add_17 rfl (lv_at hl 1 rfl) ?_
        refine va_get (D := g.1) (ci := 6) (v := .ref ab) (C := RX6) (T := TX6) (N := 7) hx hb hts izRX6 hown hK hP 0 rfl rfl 0 (by decide) (hts _ k261) (fun _ h9 => h9) rfl dX6_add_18 ?_
        refine lv_aload_n hx hb dX6_add_21 rfl (lv_at hl 1 rfl) ?_
        refine va_get (D := g.1) (ci := 6) (v := .int x_7) (C := RX6) (T := TX6) (N := 7) hx hb hts izRX6 hown hK hP 0 rfl rfl 1 (by decide) (hts _ k423) (fun _ h9 => h9) rfl dX6_add_22 ?_
        refine lv_iload_n hx hb dX6_add_25 rfl (lv_at hl 2 rfl) ?_
        refine lv_iload_n hx hb dX6_add_26 rfl (lv_at hl 0 rfl) ?_
        refine lv_iushr hx hb dX6_add_27 rfl ?_
        refine zg (fun x_13 => ?_)
        refine lv_sipush (v := 255) hx hb dX6_add_28 (by decide) ?_
        refine lv_iand hx hb dX6_add_31 ?_
        refine zgb (zand255 _) (fun x_14 hx_14 => ?_)
        refine va_iast hx hb hK hP hD hS 1 0 rfl rfl (zinI (by omega) (by omega)) dX6_add_32 (fun H locs hP hD hS => ?_)
        obtain ⟨fb_15, hP, hD⟩ : ∃ fb_15 : Nat → Int32, va_P g.1 vwCl (List.flatten [bTape g ta ab x_7 ln kd bg nx ft fb_15]) H ∧ va_D A (List.flatten [bTape g ta ab x_7 ln kd bg nx ft fb_15]) := ⟨upd fb_6 x_7.toNatClampNeg x_14, hP, hD⟩
        refine lv_aload_n hx hb dX6_add_33 rfl (lv_at hl 1 rfl) ?_
        refine lv_dup hx hb dX6_add_34 rfl ?_
        refine va_get (D := g.1) (ci := 6) (v := .int x_7) (C := RX6) (T := TX6) (N := 7) hx hb hts izRX6 hown hK hP 0 rfl rfl 1 (by decide) (hts _ k423) (fun _ h9 => h9) rfl dX6_add_35 ?_
        refine lv_iconst (v := 1) hx hb dX6_add_38 (by decide) ?_
        refine lv_iadd hx hb dX6_add_39 ?_
        refine zgv (zadd (i := x_7.toInt) (j := 1) rfl (by decide) (by omega)) (fun x_16 hx_16 => ?_)
        refine va_put (D := g.1) (ci := 6) (v := .int x_16) (ty := .int) (C := RX6) (T := TX6) (N := 7) hx hb hts izRX6 tyX6 tyX6_ok nmX6 hown hK hP hD hS 0 rfl rfl 1 (by decide) (hts _ k423) (fun _ h9 => h9) rfl (by decide +kernel) rfl rfl (Nat.le_of_ble_eq_true rfl) dX6_add_40 (fun H locs hP hD hS => ?_)
        have hP : va_P g.1 vwCl (List.flatten [bTape g ta ab x_16 ln kd bg nx ft fb_15]) H := hP
        have hD : va_D A (List.flatten [bTape g ta ab x_16 ln kd bg nx ft fb_15]) := hD
        refine ziinc3 (n' := (-8)) (a' := 8) (b' := 8) (lv' := fun v9 => [(2, .int v9), (0, .ref ta), (1, .int v)]) hx hb dX6_add_43 hl (k := 0) rfl (by decide) (fun _ => rfl) (zaddK (i := x_8.toInt) (j := (-8)) rfl (by decide) hx_8.2.1 hx_8.2.2 (Int.le_refl _) (Int.le_refl _) (by decide)) (fun x_17 ls hx_17 hl => ?_)
        refine lv_goto (tgt := 3) hx hb dX6_add_46 (by decide) ?_
        refine lv_iload_n hx hb dX6_add_3 rfl (lv_at hl 0 rfl) ?_
        refine lv_if_lt (tgt := 49) hx hb dX6_add_4 (by decide) (fun cb9 => ?_) (fun cb9 => ?_)
        · skip
          exact absurd (show x_17.toInt < 0 from zlti cb9 rfl (by decide)) (zDlt (a := 8) (b := 0) hx_17.2.1 (Int.le_refl _) (by decide))
        · skip
          have c19 : 0 ≤ x_17.toInt := zle (Int32.not_lt.mp cb9) (by decide) rfl
          refine lv_aload_n hx hb dX6_add_7 rfl (lv_at hl 1 rfl) ?_
          refine va_get (D := g.1) (ci := 6) (v := .int x_16) (C := RX6) (T := TX6) (N := 7) hx hb hts izRX6 hown hK hP 0 rfl rfl 1 (by decide) (hts _ k423) (fun _ h9 => h9) rfl dX6_add_8 ?_
          refine lv_sipush (v := 400) hx hb dX6_add_11 (by decide) ?_
          refine lv_icmp_ge (tgt := 49) hx hb dX6_add_14 (by decide) (fun cb9 => ?_) (fun cb9 => ?_)
          · skip
            exact absurd (show 400 ≤ x_16.toInt from zle cb9 (by decide) rfl) (by omega)
          · skip
            have c21 : x_16.toInt < 400 := zlti (Int32.not_le.mp cb9) rfl (by decide)
            refine lv_aload_n hx hb dX6_add_17 rfl (lv_at hl 1 rfl) ?_
            refine va_get (D := g.1) (ci := 6) (v := .ref ab) (C := RX6) (T := TX6) (N := 7) hx hb hts izRX6 hown hK hP 0 rfl rfl 0 (by decide) (hts _ k261) (fun _ h9 => h9) rfl dX6_add_18 ?_
            refine lv_aload_n hx hb dX6_add_21 rfl (lv_at hl 1 rfl) ?_
            refine va_get (D := g.1) (ci := 6) (v := .int x_16) (C := RX6) (T := TX6) (N := 7) hx hb hts izRX6 hown hK hP 0 rfl rfl 1 (by decide) (hts _ k423) (fun _ h9 => h9) rfl dX6_add_22 ?_
            refine lv_iload_n hx hb dX6_add_25 rfl (lv_at hl 2 rfl) ?_
            refine lv_iload_n hx hb dX6_add_26 rfl (lv_at hl 0 rfl) ?_
            refine lv_iushr hx hb dX6_add_27 rfl ?_
            refine zg (fun x_22 => ?_)
            refine lv_sipush (v := 255) hx hb dX6_add_28 (by decide) ?_
            refine lv_iand hx hb dX6_add_31 ?_
            refine zgb (zand255 _) (fun x_23 hx_23 => ?_)
            refine va_iast hx hb hK hP hD hS 1 0 rfl rfl (zinI (by omega) (by omega)) dX6_add_32 (fun H locs hP hD hS => ?_)
            obtain ⟨fb_24, hP, hD⟩ : ∃ fb_24 : Nat → Int32, va_P g.1 vwCl (List.flatten [bTape g ta ab x_16 ln kd bg nx ft fb_24]) H ∧ va_D A (List.flatten [bTape g ta ab x_16 ln kd bg nx ft fb_24]) := ⟨upd fb_15 x_16.toNatClampNeg x_23, hP, hD⟩
            refine lv_aload_n hx hb dX6_add_33 rfl (lv_at hl 1 rfl) ?_
            refine lv_dup hx hb dX6_add_34 rfl ?_
            refine va_get (D := g.1) (ci := 6) (v := .int x_16) (C := RX6) (T := TX6) (N := 7) hx hb hts izRX6 hown hK hP 0 rfl rfl 1 (by decide) (hts _ k423) (fun _ h9 => h9) rfl dX6_add_35 ?_
            refine lv_iconst (v := 1) hx hb dX6_add_38 (by decide) ?_
            refine lv_iadd hx hb dX6_add_39 ?_
            refine zgv (zadd (i := x_16.toInt) (j := 1) rfl (by decide) (by omega)) (fun x_25 hx_25 => ?_)
            refine va_put (D := g.1) (ci := 6) (v := .int x_25) (ty := .int) (C := RX6) (T := TX6) (N := 7) hx hb hts izRX6 tyX6 tyX6_ok nmX6 hown hK hP hD hS 0 rfl rfl 1 (by decide) (hts _ k423) (fun _ h9 => h9) rfl (by decide +kernel) rfl rfl (Nat.le_of_ble_eq_true rfl) dX6_add_40 (fun H locs hP hD hS => ?_)
            have hP : va_P g.1 vwCl (List.flatten [bTape g ta ab x_25 ln kd bg nx ft fb_24]) H := hP
            have hD : va_D A (List.flatten [bTape g ta ab x_25 ln kd bg nx ft fb_24]) := hD
            refine ziinc3 (n' := (-8)) (a' := 0) (b' := 0) (lv' := fun v9 => [(2, .int v9), (0, .ref ta), (1, .int v)]) hx hb dX6_add_43 hl (k := 0) rfl (by decide) (fun _ => rfl) (zaddK (i := x_17.toInt) (j := (-8)) rfl (by decide) hx_17.2.1 hx_17.2.2 (Int.le_refl _) (Int.le_refl _) (by decide)) (fun x_26 ls hx_26 hl => ?_)
            refine lv_goto (tgt := 3) hx hb dX6_add_46 (by decide) ?_
            refine lv_iload_n hx hb dX6_add_3 rfl (lv_at hl 0 rfl) ?_
            refine lv_if_lt (tgt := 49) hx hb dX6_add_4 (by decide) (fun cb9 => ?_) (fun cb9 => ?_)
            · skip
              exact absurd (show x_26.toInt < 0 from zlti cb9 rfl (by decide)) (zDlt (a := 0) (b := 0) hx_26.2.1 (Int.le_refl _) (by decide))
            · skip
              have c28 : 0 ≤ x_26.toInt := zle (Int32.not_lt.mp cb9) (by decide) rfl
              refine lv_aload_n hx hb dX6_add_7 rfl (lv_at hl 1 rfl) ?_
              refine va_get (D := g.1) (ci := 6) (v := .int x_25) (C := RX6) (T := TX6) (N := 7) hx hb hts izRX6 hown hK hP 0 rfl rfl 1 (by decide) (hts _ k423) (fun _ h9 => h9) rfl dX6_add_8 ?_
              refine lv_sipush (v := 400) hx hb dX6_add_11 (by decide) ?_
              refine lv_icmp_ge (tgt := 49) hx hb dX6_add_14 (by decide) (fun cb9 => ?_) (fun cb9 => ?_)
              · skip
                exact absurd (show 400 ≤ x_25.toInt from zle cb9 (by decide) rfl) (by omega)
              · skip
                have c30 : x_25.toInt < 400 := zlti (Int32.not_le.mp cb9) rfl (by decide)
                refine lv_aload_n hx hb dX6_add_17 rfl (lv_at hl 1 rfl) ?_
                refine va_get (D := g.1) (ci := 6) (v := .ref ab) (C := RX6) (T := TX6) (N := 7) hx hb hts izRX6 hown hK hP 0 rfl rfl 0 (by decide) (hts _ k261) (fun _ h9 => h9) rfl dX6_add_18 ?_
                refine lv_aload_n hx hb dX6_add_21 rfl (lv_at hl 1 rfl) ?_
                refine va_get (D := g.1) (ci := 6) (v := .int x_25) (C := RX6) (T := TX6) (N := 7) hx hb hts izRX6 hown hK hP 0 rfl rfl 1 (by decide) (hts _ k423) (fun _ h9 => h9) rfl dX6_add_22 ?_
                refine lv_iload_n hx hb dX6_add_25 rfl (lv_at hl 2 rfl) ?_
                refine lv_iload_n hx hb dX6_add_26 rfl (lv_at hl 0 rfl) ?_
                refine lv_iushr hx hb dX6_add_27 rfl ?_
                refine zg (fun x_31 => ?_)
                refine lv_sipush (v := 255) hx hb dX6_add_28 (by decide) ?_
                refine lv_iand hx hb dX6_add_31 ?_
                refine zgb (zand255 _) (fun x_32 hx_32 => ?_)
                refine va_iast hx hb hK hP hD hS 1 0 rfl rfl (zinI (by omega) (by omega)) dX6_add_32 (fun H locs hP hD hS => ?_)
                obtain ⟨fb_33, hP, hD⟩ : ∃ fb_33 : Nat → Int32, va_P g.1 vwCl (List.flatten [bTape g ta ab x_25 ln kd bg nx ft fb_33]) H ∧ va_D A (List.flatten [bTape g ta ab x_25 ln kd bg nx ft fb_33]) := ⟨upd fb_24 x_25.toNatClampNeg x_32, hP, hD⟩
                refine lv_aload_n hx hb dX6_add_33 rfl (lv_at hl 1 rfl) ?_
                refine lv_dup hx hb dX6_add_34 rfl ?_
                refine va_get (D := g.1) (ci := 6) (v := .int x_25) (C := RX6) (T := TX6) (N := 7) hx hb hts izRX6 hown hK hP 0 rfl rfl 1 (by decide) (hts _ k423) (fun _ h9 => h9) rfl dX6_add_35 ?_
                refine lv_iconst (v := 1) hx hb dX6_add_38 (by decide) ?_
                refine lv_iadd hx hb dX6_add_39 ?_
                refine zgv (zadd (i := x_25.toInt) (j := 1) rfl (by decide) (by omega)) (fun x_34 hx_34 => ?_)
                refine va_put (D := g.1) (ci := 6) (v := .int x_34) (ty := .int) (C := RX6) (T := TX6) (N := 7) hx hb hts izRX6 tyX6 tyX6_ok nmX6 hown hK hP hD hS 0 rfl rfl 1 (by decide) (hts _ k423) (fun _ h9 => h9) rfl (by decide +kernel) rfl rfl (Nat.le_of_ble_eq_true rfl) dX6_add_40 (fun H locs hP hD hS => ?_)
                have hP : va_P g.1 vwCl (List.flatten [bTape g ta ab x_34 ln kd bg nx ft fb_33]) H := hP
                have hD : va_D A (List.flatten [bTape g ta ab x_34 ln kd bg nx ft fb_33]) := hD
                refine ziinc3 (n' := (-8)) (a' := (-8)) (b' := (-8)) (lv' := fun v9 => [(2, .int v9), (0, .ref ta), (1, .int v)]) hx hb dX6_add_43 hl (k := 0) rfl (by decide) (fun _ => rfl) (zaddK (i := x_26.toInt) (j := (-8)) rfl (by decide) hx_26.2.1 hx_26.2.2 (Int.le_refl _) (Int.le_refl _) (by decide)) (fun x_35 ls hx_35 hl => ?_)
                refine lv_goto (tgt := 3) hx hb dX6_add_46 (by decide) ?_
                refine lv_iload_n hx hb dX6_add_3 rfl (lv_at hl 0 rfl) ?_
                refine lv_if_lt (tgt := 49) hx hb dX6_add_4 (by decide) (fun cb9 => ?_) (fun cb9 => ?_)
                · skip
                  have c36 : x_35.toInt < 0 := zlti cb9 rfl (by decide)
                  have hP : va_P g.1 vwCl (List.flatten [bTape g ta ab x_34 ln kd bg nx ft fb_33]) H := hP
                  have hD : va_D A (List.flatten [bTape g ta ab x_34 ln kd bg nx ft fb_33]) := hD
                  exact mret_v hx hb hr hlocks hS (Nat.le_of_ble_eq_true rfl) (Nat.le_of_ble_eq_true rfl) dX6_add_49 (x_34, fb_33) rfl (show (0 ≤ x_34.toInt ∧ x_34.toInt ≤ 400) ∧ (x_34.toInt = sz.toInt + 4) from ⟨(by first | assumption | omega | decide | exact rfl | exact zb01 (by omega) | exact Or.inl (by decide) | exact Or.inr (by first | omega | decide)), (by first | assumption | omega | decide | exact rfl | exact zb01 (by omega) | exact Or.inl (by decide) | exact Or.inr (by first | omega | decide))⟩) hP hD
                · skip
                  exact absurd (show 0 ≤ x_35.toInt from zle (Int32.not_lt.mp cb9) (by decide) rfl) (zDle (a := 0) (b := (-8)) (Int.le_refl _) hx_35.2.2 (by decide))
set_option maxRecDepth 100000 in
set_option maxHeartbeats 4000000 in
theorem c_t_useUp (l : Launch) (g : zG) (ta : Nat) (ab : Nat) (sz : Int32) (ln : Int32) (kd : Int32) (bg : Int32) (nx : Int32) (ft : Int32) (fb : Nat → Int32)  : zM' g l yX6_useUp (Cond.code yX6_useUp cX6_useUp 2 (some .int) :: zB) ({ frames := 0, cells := 0, slots := 0, locals := 0 } : Room) [.ref ta] [bTape g ta ab sz ln kd bg nx ft fb] (fun _ : Unit => some (.int sz)) (fun _ : Unit => True) (fun _ : Unit => [bTape g ta ab 0 ln kd bg nx ft fb]) := by
  refine zM'.of (cc := cX6_useUp) (maxL := 2) (rt := (some .int)) (by decide) rfl (Nat.le_of_ble_eq_true rfl) ?_
  intro p e s m args below meth c A ls St hr hlocks hin hK hT hA hP hD hS hl
  obtain ⟨hx, hb, hml, hown, hts⟩ := id St
  have hl : lv_has ls 2 [(0, .ref ta)] := hl
  refine lv_aload_n hx hb dX6_useUp_0 rfl (lv_at hl 0 rfl) ?_
  refine va_get (D := g.1) (ci := 6) (v := .int sz) (C := RX6) (T := TX6) (N := 7) hx hb hts izRX6 hown hK hP 0 rfl rfl 1 (by decide) (hts _ k423) (fun _ h9 => h9) rfl dX6_useUp_1 ?_
  refine lv_istore_n (lv' := [(1, .int sz), (0, .ref ta)]) hx hb dX6_useUp_4 rfl hl (by decide) rfl (fun ls hl => ?_)
  refine lv_aload_n hx hb dX6_useUp_5 rfl (lv_at hl 1 rfl) ?_
  refine lv_iconst (v := 0) hx hb dX6_useUp_6 (by decide) ?_
  refine va_put (D := g.1) (ci := 6) (v := .int 0) (ty := .int) (C := RX6) (T := TX6) (N := 7) hx hb hts izRX6 tyX6 tyX6_ok nmX6 hown hK hP hD hS 0 rfl rfl 1 (by decide) (hts _ k423) (fun _ h9 => h9) rfl (by decide +kernel) rfl rfl (Nat.le_of_ble_eq_true rfl) dX6_useUp_7 (fun H locs hP hD hS => ?_)
  have hP : va_P g.1 vwCl (List.flatten [bTape g ta ab 0 ln kd bg nx ft fb]) H := hP
  have hD : va_D A (List.flatten [bTape g ta ab 0 ln kd bg nx ft fb]) := hD
  refine lv_iload_n hx hb dX6_useUp_10 rfl (lv_at hl 0 rfl) ?_
  have hP : va_P g.1 vwCl (List.flatten [bTape g ta ab 0 ln kd bg nx ft fb]) H := hP
  have hD : va_D A (List.flatten [bTape g ta ab 0 ln kd bg nx ft fb]) := hD
  exact mret_i hx hb hr hlocks hS (Nat.le_of_ble_eq_true rfl) (Nat.le_of_ble_eq_true rfl) dX6_useUp_11 () rfl trivial hP hD
set_option maxRecDepth 100000 in
set_option maxHeartbeats 4000000 in
theorem c_t_holdsTales (l : Launch) (g : zG) (ta : Nat) (ab : Nat) (sz : Int32) (ln : Int32) (kd : Int32) (bg : Int32) (nx : Int32) (ft : Int32) (fb : Nat → Int32) (n : Int32) (b_n : 0 ≤ n.toInt ∧ n.toInt ≤ 12) : zM' g l yX6_holdsTales (Cond.code yX6_holdsTales cX6_holdsTales 3 (some .boolean) :: zB) ({ frames := 0, cells := 0, slots := 0, locals := 0 } : Room) [.ref ta, .int n] [bTape g ta ab sz ln kd bg nx ft fb] (fun (q : Int32) => some (.int q)) (fun (q : Int32) => (q = 0 ∨ q = 1)) (fun (q : Int32) => [bTape g ta ab sz ln kd bg nx ft fb]) := by
  refine zM'.of (cc := cX6_holdsTales) (maxL := 3) (rt := (some .boolean)) (by decide) rfl (Nat.le_of_ble_eq_true rfl) ?_
  intro p e s m args below meth c A ls St hr hlocks hin hK hT hA hP hD hS hl
  obtain ⟨hx, hb, hml, hown, hts⟩ := id St
  have hl : lv_has ls 3 [(0, .ref ta), (1, .int n)] := hl
  refine lv_iconst (v := 0) hx hb dX6_holdsTales_0 (by decide) ?_
  refine lv_istore_n (lv' := [(2, .int 0), (0, .ref ta), (1, .int n)]) hx hb dX6_holdsTales_1 rfl hl (by decide) rfl (fun ls hl => ?_)
  have hl := lv_sub (l' := [(0, .ref ta), (1, .int n), (2, .int 0)]) hl [1, 2, 0] rfl
  have LP2_3 : ∀ (kf : Nat) (x_1 : Int32), (0 ≤ x_1.toInt ∧ x_1.toInt ≤ 12) → ∀ (H : Heap) (locs : List Loc) (ls : Array Slot), ((13 - x_1.toInt).toNat) < kf → va_P g.1 vwCl (List.flatten [bTape g ta ab sz ln kd bg nx ft fb]) H → va_D A (List.flatten [bTape g ta ab sz ln kd bg nx ft fb]) → va_S A s.heap H locs → lv_has ls 3 [(0, .ref ta), (1, .int n), (2, .int x_1)] → W p l e ({ frames := 0, cells := 0, slots := 0, locals := 0 } : Room) s m args below meth c H locs (0) (0) (zF g (fun (q : Int32) => some (.int q)) (fun (q : Int32) => (q = 0 ∨ q = 1)) (fun (q : Int32) => [bTape g ta ab sz ln kd bg nx ft fb]) ({ frames := 0, cells := 0, slots := 0, locals := 0 } : Room) below args s A) (F0 m 2 ls []) := by
    intro kf
    induction kf with
    | zero => intro x_1 i2 H locs ls hk; exact absurd hk (Nat.not_lt_zero _)
    | succ kf ih2_4 =>
      intro x_1 i2 H locs ls hk2_4 hP hD hS hl
      refine lv_iload_n hx hb dX6_holdsTales_2 rfl (lv_at hl 2 rfl) ?_
      refine lv_iload_n hx hb dX6_holdsTales_3 rfl (lv_at hl 1 rfl) ?_
      refine lv_icmp_ge (tgt := 25) hx hb dX6_holdsTales_4 (by decide) (fun cb9 => ?_) (fun cb9 => ?_)
      · skip
        have c5 : n.toInt ≤ x_1.toInt := zle cb9 rfl rfl
        refine lv_iconst (v := 1) hx hb dX6_holdsTales_25 (by decide) ?_
        have hP : va_P g.1 vwCl (List.flatten [bTape g ta ab sz ln kd bg nx ft fb]) H := hP
        have hD : va_D A (List.flatten [bTape g ta ab sz ln kd bg nx ft fb]) := hD
        exact mret_z hx hb hr hlocks hS (Nat.le_of_ble_eq_true rfl) (Nat.le_of_ble_eq_true rfl) dX6_holdsTales_26 ((1 : Int32)) rfl (by decide) (show (1 = 0 ∨ 1 = 1) from (by decide)) hP hD
      · skip
        have c6 : x_1.toInt < n.toInt := zlti (Int32.not_le.mp cb9) rfl rfl
        have n7 : x_1.toInt ≤ 11 := zL1 (b := 12) c6 b_n.2 (by decide)
        have n8 : 1 ≤ n.toInt := zL2 (a := 0) c6 i2.1 (by decide)
        refine lv_aload_n hx hb dX6_holdsTales_7 rfl (lv_at hl 0 rfl) ?_
        refine va_get (D := g.1) (ci := 6) (v := .ref ab) (C := RX6) (T := TX6) (N := 7) hx hb hts izRX6 hown hK hP 0 rfl rfl 0 (by decide) (hts _ k261) (fun _ h9 => h9) rfl dX6_holdsTales_8 ?_
        refine lv_iload_n hx hb dX6_holdsTales_11 rfl (lv_at hl 2 rfl) ?_
        refine va_iald hx hb hK hP 1 0 rfl rfl (zinK (a := 0) (b := 11) i2.1 n7 (by decide)) dX6_holdsTales_12 ?_
        refine zg (fun x_9 => ?_)
        refine lv_iconst (v := 1) hx hb dX6_holdsTales_13 (by decide) ?_
        refine lv_icmp_le (tgt := 19) hx hb dX6_holdsTales_14 (by decide) (fun cb9 => ?_) (fun cb9 => ?_)
        · skip
          have c10 : x_9.toInt ≤ 1 := zle cb9 rfl (by decide)
          have n11 : x_9.toInt ≤ 1 := Int.le_trans c10 (Int.le_refl _)
          refine ziinc3 (n' := 1) (a' := 1) (b' := 12) (lv' := fun v9 => [(2, .int v9), (0, .ref ta), (1, .int n)]) hx hb dX6_holdsTales_19 hl (k := 2) rfl (by decide) (fun _ => rfl) (zaddK (i := x_1.toInt) (j := 1) rfl (by decide) i2.1 n7 (Int.le_refl _) (Int.le_refl _) (by decide)) (fun x_12 ls hx_12 hl => ?_)
          refine lv_goto (tgt := 2) hx hb dX6_holdsTales_22 (by decide) ?_
          have hl := lv_sub (l' := [(0, .ref ta), (1, .int n), (2, .int x_12)]) hl [1, 2, 0] rfl
          have hP : va_P g.1 vwCl (List.flatten [bTape g ta ab sz ln kd bg nx ft fb]) H := hP
          have hD : va_D A (List.flatten [bTape g ta ab sz ln kd bg nx ft fb]) := hD
          exact ih2_4 x_12 ⟨(Int.le_trans (by decide) hx_12.2.1), hx_12.2.2⟩ H _ ls (zmK hx_12.1 (by decide) n7 (by decide) hk2_4)  hP hD hS (lv_sub hl [0, 1, 2] rfl)
        · skip
          have c13 : 1 < x_9.toInt := zlti (Int32.not_le.mp cb9) (by decide) rfl
          have n14 : 2 ≤ x_9.toInt := zL2 (a := 1) c13 (Int.le_refl _) (by decide)
          refine lv_iconst (v := 0) hx hb dX6_holdsTales_17 (by decide) ?_
          have hP : va_P g.1 vwCl (List.flatten [bTape g ta ab sz ln kd bg nx ft fb]) H := hP
          have hD : va_D A (List.flatten [bTape g ta ab sz ln kd bg nx ft fb]) := hD
          exact mret_z hx hb hr hlocks hS (Nat.le_of_ble_eq_true rfl) (Nat.le_of_ble_eq_true rfl) dX6_holdsTales_18 ((0 : Int32)) rfl (by decide) (show (0 = 0 ∨ 0 = 1) from (by decide)) hP hD
  have hP : va_P g.1 vwCl (List.flatten [bTape g ta ab sz ln kd bg nx ft fb]) s.heap := hP
  have hD : va_D A (List.flatten [bTape g ta ab sz ln kd bg nx ft fb]) := hD
  exact LP2_3 _ 0 (by decide) s.heap _ ls (Nat.lt_succ_self _)  hP hD hS (lv_sub hl [0, 1, 2] rfl)
set_option maxRecDepth 100000 in
set_option maxHeartbeats 4000000 in
theorem c_t_lead (l : Launch) (g : zG) (ta : Nat) (ab : Nat) (sz : Int32) (ln : Int32) (kd : Int32) (bg : Int32) (nx : Int32) (ft : Int32) (fb : Nat → Int32) (n : Int32) (b_n : 0 ≤ n.toInt ∧ n.toInt ≤ 12) : zM' g l yX6_lead (Cond.code yX6_lead cX6_lead 4 (some .int) :: zB) ({ frames := 0, cells := 0, slots := 0, locals := 0 } : Room) [.ref ta, .int n] [bTape g ta ab sz ln kd bg nx ft fb] (fun (q : Int32) => some (.int q)) (fun (q : Int32) => (-12 ≤ q.toInt ∧ q.toInt ≤ 12)) (fun (q : Int32) => [bTape g ta ab sz ln kd bg nx ft fb]) := by
  refine zM'.of (cc := cX6_lead) (maxL := 4) (rt := (some .int)) (by decide) rfl (Nat.le_of_ble_eq_true rfl) ?_
  intro p e s m args below meth c A ls St hr hlocks hin hK hT hA hP hD hS hl
  obtain ⟨hx, hb, hml, hown, hts⟩ := id St
  have hl : lv_has ls 4 [(0, .ref ta), (1, .int n)] := hl
  refine lv_iconst (v := 0) hx hb dX6_lead_0 (by decide) ?_
  refine lv_istore_n (lv' := [(2, .int 0), (0, .ref ta), (1, .int n)]) hx hb dX6_lead_1 rfl hl (by decide) rfl (fun ls hl => ?_)
  refine lv_iconst (v := 0) hx hb dX6_lead_2 (by decide) ?_
  refine lv_istore_n (lv' := [(3, .int 0), (2, .int 0), (0, .ref ta), (1, .int n)]) hx hb dX6_lead_3 rfl hl (by decide) rfl (fun ls hl => ?_)
  have hl := lv_sub (l' := [(0, .ref ta), (1, .int n), (2, .int 0), (3, .int 0)]) hl [2, 3, 1, 0] rfl
  have LP4_6 : ∀ (kf : Nat) (x_1 : Int32) (x_2 : Int32), ((-12) ≤ x_1.toInt ∧ x_1.toInt ≤ 12) → (0 ≤ x_2.toInt ∧ x_2.toInt ≤ 12) → ((-(x_2.toInt) ≤ x_1.toInt ∧ x_1.toInt ≤ x_2.toInt)) → ∀ (H : Heap) (locs : List Loc) (ls : Array Slot), ((13 - x_2.toInt).toNat) < kf → va_P g.1 vwCl (List.flatten [bTape g ta ab sz ln kd bg nx ft fb]) H → va_D A (List.flatten [bTape g ta ab sz ln kd bg nx ft fb]) → va_S A s.heap H locs → lv_has ls 4 [(0, .ref ta), (1, .int n), (2, .int x_1), (3, .int x_2)] → W p l e ({ frames := 0, cells := 0, slots := 0, locals := 0 } : Room) s m args below meth c H locs (0) (0) (zF g (fun (q : Int32) => some (.int q)) (fun (q : Int32) => (-12 ≤ q.toInt ∧ q.toInt ≤ 12)) (fun (q : Int32) => [bTape g ta ab sz ln kd bg nx ft fb]) ({ frames := 0, cells := 0, slots := 0, locals := 0 } : Room) below args s A) (F0 m 4 ls []) := by
    intro kf
    induction kf with
    | zero => intro x_1 x_2 i3 i4 i5 H locs ls hk; exact absurd hk (Nat.not_lt_zero _)
    | succ kf ih4_7 =>
      intro x_1 x_2 i3 i4 i5 H locs ls hk4_7 hP hD hS hl
      refine lv_iload_n hx hb dX6_lead_4 rfl (lv_at hl 3 rfl) ?_
      refine lv_iload_n hx hb dX6_lead_5 rfl (lv_at hl 1 rfl) ?_
      refine lv_icmp_ge (tgt := 33) hx hb dX6_lead_6 (by decide) (fun cb9 => ?_) (fun cb9 => ?_)
      · skip
        have c8 : n.toInt ≤ x_2.toInt := zle cb9 rfl rfl
        refine lv_iload_n hx hb dX6_lead_33 rfl (lv_at hl 2 rfl) ?_
        have hP : va_P g.1 vwCl (List.flatten [bTape g ta ab sz ln kd bg nx ft fb]) H := hP
        have hD : va_D A (List.flatten [bTape g ta ab sz ln kd bg nx ft fb]) := hD
        exact mret_i hx hb hr hlocks hS (Nat.le_of_ble_eq_true rfl) (Nat.le_of_ble_eq_true rfl) dX6_lead_34 (x_1) rfl (show (-12 ≤ x_1.toInt ∧ x_1.toInt ≤ 12) from i3) hP hD
      · skip
        have c9 : x_2.toInt < n.toInt := zlti (Int32.not_le.mp cb9) rfl rfl
        have n10 : x_2.toInt ≤ 11 := zL1 (b := 12) c9 b_n.2 (by decide)
        have n11 : 1 ≤ n.toInt := zL2 (a := 0) c9 i4.1 (by decide)
        refine lv_iload_n hx hb dX6_lead_9 rfl (lv_at hl 2 rfl) ?_
        refine lv_aload_n hx hb dX6_lead_10 rfl (lv_at hl 0 rfl) ?_
        refine va_get (D := g.1) (ci := 6) (v := .ref ab) (C := RX6) (T := TX6) (N := 7) hx hb hts izRX6 hown hK hP 0 rfl rfl 0 (by decide) (hts _ k261) (fun _ h9 => h9) rfl dX6_lead_11 ?_
        refine lv_iload_n hx hb dX6_lead_14 rfl (lv_at hl 3 rfl) ?_
        refine va_iald hx hb hK hP 1 0 rfl rfl (zinK (a := 0) (b := 11) i4.1 n10 (by decide)) dX6_lead_15 ?_
        refine zg (fun x_12 => ?_)
        refine lv_iconst (v := 1) hx hb dX6_lead_16 (by decide) ?_
        refine lv_icmp_ne (tgt := 24) hx hb dX6_lead_17 (by decide) (fun cb9 => ?_) (fun cb9 => ?_)
        · skip
          have c13 : ¬ x_12.toInt = 1 := zne cb9 rfl (by decide)
          refine lv_iconst (v := (-1)) hx hb dX6_lead_24 (by decide) ?_
          refine lv_iadd hx hb dX6_lead_25 ?_
          refine zg3 (zaddK (i := x_1.toInt) (j := (-1)) (a' := (-13)) (b' := 11) rfl (by decide) i3.1 i3.2 (Int.le_refl _) (Int.le_refl _) (by decide)) (fun x_14 hx_14 => ?_)
          refine lv_istore_n (lv' := [(2, .int x_14), (0, .ref ta), (1, .int n), (3, .int x_2)]) hx hb dX6_lead_26 rfl hl (by decide) rfl (fun ls hl => ?_)
          refine ziinc3 (n' := 1) (a' := 1) (b' := 12) (lv' := fun v9 => [(3, .int v9), (2, .int x_14), (0, .ref ta), (1, .int n)]) hx hb dX6_lead_27 hl (k := 3) rfl (by decide) (fun _ => rfl) (zaddK (i := x_2.toInt) (j := 1) rfl (by decide) i4.1 n10 (Int.le_refl _) (Int.le_refl _) (by decide)) (fun x_15 ls hx_15 hl => ?_)
          refine lv_goto (tgt := 4) hx hb dX6_lead_30 (by decide) ?_
          have hl := lv_sub (l' := [(0, .ref ta), (1, .int n), (2, .int x_14), (3, .int x_15)]) hl [2, 3, 1, 0] rfl
          have hP : va_P g.1 vwCl (List.flatten [bTape g ta ab sz ln kd bg nx ft fb]) H := hP
          have hD : va_D A (List.flatten [bTape g ta ab sz ln kd bg nx ft fb]) := hD
          exact ih4_7 x_14 x_15 (by first | omega | assumption | decide) ⟨(Int.le_trans (by decide) hx_15.2.1), hx_15.2.2⟩ (by first | omega | assumption | decide) H _ ls (zmK hx_15.1 (by decide) n10 (by decide) hk4_7)  hP hD hS (lv_sub hl [0, 1, 2, 3] rfl)
        · skip
          have c16 : x_12.toInt = 1 := zeq cb9 rfl (by decide)
          have n17 : 1 ≤ x_12.toInt := Int.le_trans (Int.le_refl _) (Int.le_of_eq c16.symm)
          have n18 : x_12.toInt ≤ 1 := Int.le_trans (Int.le_of_eq c16) (Int.le_refl _)
          refine lv_iconst (v := 1) hx hb dX6_lead_20 (by decide) ?_
          refine lv_goto (tgt := 25) hx hb dX6_lead_21 (by decide) ?_
          refine lv_iadd hx hb dX6_lead_25 ?_
          refine zg3 (zaddK (i := x_1.toInt) (j := 1) (a' := (-11)) (b' := 13) rfl (by decide) i3.1 i3.2 (Int.le_refl _) (Int.le_refl _) (by decide)) (fun x_19 hx_19 => ?_)
          refine lv_istore_n (lv' := [(2, .int x_19), (0, .ref ta), (1, .int n), (3, .int x_2)]) hx hb dX6_lead_26 rfl hl (by decide) rfl (fun ls hl => ?_)
          refine ziinc3 (n' := 1) (a' := 1) (b' := 12) (lv' := fun v9 => [(3, .int v9), (2, .int x_19), (0, .ref ta), (1, .int n)]) hx hb dX6_lead_27 hl (k := 3) rfl (by decide) (fun _ => rfl) (zaddK (i := x_2.toInt) (j := 1) rfl (by decide) i4.1 n10 (Int.le_refl _) (Int.le_refl _) (by decide)) (fun x_20 ls hx_20 hl => ?_)
          refine lv_goto (tgt := 4) hx hb dX6_lead_30 (by decide) ?_
          have hl := lv_sub (l' := [(0, .ref ta), (1, .int n), (2, .int x_19), (3, .int x_20)]) hl [2, 3, 1, 0] rfl
          have hP : va_P g.1 vwCl (List.flatten [bTape g ta ab sz ln kd bg nx ft fb]) H := hP
          have hD : va_D A (List.flatten [bTape g ta ab sz ln kd bg nx ft fb]) := hD
          exact ih4_7 x_19 x_20 (by first | omega | assumption | decide) ⟨(Int.le_trans (by decide) hx_20.2.1), hx_20.2.2⟩ (by first | omega | assumption | decide) H _ ls (zmK hx_20.1 (by decide) n10 (by decide) hk4_7)  hP hD hS (lv_sub hl [0, 1, 2, 3] rfl)
  have hL0 : (0 : Int32).toInt = 0 := by decide
  have hP : va_P g.1 vwCl (List.flatten [bTape g ta ab sz ln kd bg nx ft fb]) s.heap := hP
  have hD : va_D A (List.flatten [bTape g ta ab sz ln kd bg nx ft fb]) := hD
  exact LP4_6 _ 0 0 (by decide) (by decide) (by first | omega | assumption | decide) s.heap _ ls (Nat.lt_succ_self _)  hP hD hS (lv_sub hl [0, 1, 2, 3] rfl)
set_option maxRecDepth 100000 in
set_option maxHeartbeats 4000000 in
theorem c_t_holdsSaid (l : Launch) (g : zG) (ta : Nat) (ab : Nat) (sz : Int32) (ln : Int32) (kd : Int32) (bg : Int32) (nx : Int32) (ft : Int32) (fb : Nat → Int32) (n : Int32) (pp : Int32) (b_n : 0 ≤ n.toInt ∧ n.toInt ≤ 36) : zM' g l yX6_holdsSaid (Cond.code yX6_holdsSaid cX6_holdsSaid 6 (some .boolean) :: zB) ({ frames := 0, cells := 0, slots := 0, locals := 0 } : Room) [.ref ta, .int n, .int pp] [bTape g ta ab sz ln kd bg nx ft fb] (fun (q : Int32) => some (.int q)) (fun (q : Int32) => (q = 0 ∨ q = 1)) (fun (q : Int32) => [bTape g ta ab sz ln kd bg nx ft fb]) := by
  refine zM'.of (cc := cX6_holdsSaid) (maxL := 6) (rt := (some .boolean)) (by decide) rfl (Nat.le_of_ble_eq_true rfl) ?_
  intro p e s m args below meth c A ls St hr hlocks hin hK hT hA hP hD hS hl
  obtain ⟨hx, hb, hml, hown, hts⟩ := id St
  have hl : lv_has ls 6 [(0, .ref ta), (1, .int n), (2, .int pp)] := hl
  refine lv_iload_n hx hb dX6_holdsSaid_0 rfl (lv_at hl 1 rfl) ?_
  refine lv_iconst (v := 3) hx hb dX6_holdsSaid_1 (by decide) ?_
  refine lv_irem hx hb dX6_holdsSaid_2 (by decide) ?_
  refine zgb (zrem (j := n.toInt) (d := 3) rfl (by decide) b_n.1 (by decide)) (fun x_1 hx_1 => ?_)
  refine lv_if_eq (tgt := 8) hx hb dX6_holdsSaid_3 (by decide) (fun cb9 => ?_) (fun cb9 => ?_)
  · skip
    have c2 : x_1.toInt = 0 := zeq cb9 rfl (by decide)
    have n3 : x_1.toInt ≤ 0 := Int.le_trans (Int.le_of_eq c2) (Int.le_refl _)
    refine lv_iconst (v := 0) hx hb dX6_holdsSaid_8 (by decide) ?_
    refine lv_istore_n (lv' := [(3, .int 0), (0, .ref ta), (1, .int n), (2, .int pp)]) hx hb dX6_holdsSaid_9 rfl hl (by decide) rfl (fun ls hl => ?_)
    have hl := lv_sub (l' := [(0, .ref ta), (1, .int n), (2, .int pp), (3, .int 0)]) hl [1, 2, 3, 0] rfl
    have LP10_6 : ∀ (kf : Nat) (x_4 : Int32), (0 ≤ x_4.toInt ∧ x_4.toInt ≤ 36) → ∀ (H : Heap) (locs : List Loc) (ls : Array Slot), ((37 - x_4.toInt).toNat) < kf → va_P g.1 vwCl (List.flatten [bTape g ta ab sz ln kd bg nx ft fb]) H → va_D A (List.flatten [bTape g ta ab sz ln kd bg nx ft fb]) → va_S A s.heap H locs → lv_has ls 6 [(0, .ref ta), (1, .int n), (2, .int pp), (3, .int x_4)] → W p l e ({ frames := 0, cells := 0, slots := 0, locals := 0 } : Room) s m args below meth c H locs (0) (0) (zF g (fun (q : Int32) => some (.int q)) (fun (q : Int32) => (q = 0 ∨ q = 1)) (fun (q : Int32) => [bTape g ta ab sz ln kd bg nx ft fb]) ({ frames := 0, cells := 0, slots := 0, locals := 0 } : Room) below args s A) (F0 m 10 ls []) := by
      intro kf
      induction kf with
      | zero => intro x_4 i5 H locs ls hk; exact absurd hk (Nat.not_lt_zero _)
      | succ kf ih10_7 =>
        intro x_4 i5 H locs ls hk10_7 hP hD hS hl
        refine lv_iload_n hx hb dX6_holdsSaid_10 rfl (lv_at hl 3 rfl) ?_
        refine lv_iconst (v := 2) hx hb dX6_holdsSaid_11 (by decide) ?_
        refine lv_iadd hx hb dX6_holdsSaid_12 ?_
        refine zg3 (zaddK (i := x_4.toInt) (j := 2) (a' := 2) (b' := 38) rfl (by decide) i5.1 i5.2 (Int.le_refl _) (Int.le_refl _) (by decide)) (fun x_8 hx_8 => ?_)
        refine lv_iload_n hx hb dX6_holdsSaid_13 rfl (lv_at hl 1 rfl) ?_
        refine lv_icmp_ge (tgt := 74) hx hb dX6_holdsSaid_14 (by decide) (fun cb9 => ?_) (fun cb9 => ?_)
        · skip
          have c9 : n.toInt ≤ x_8.toInt := zle cb9 rfl rfl
          refine lv_iconst (v := 1) hx hb dX6_holdsSaid_74 (by decide) ?_
          have hP : va_P g.1 vwCl (List.flatten [bTape g ta ab sz ln kd bg nx ft fb]) H := hP
          have hD : va_D A (List.flatten [bTape g ta ab sz ln kd bg nx ft fb]) := hD
          exact mret_z hx hb hr hlocks hS (Nat.le_of_ble_eq_true rfl) (Nat.le_of_ble_eq_true rfl) dX6_holdsSaid_75 ((1 : Int32)) rfl (by decide) (show (1 = 0 ∨ 1 = 1) from (by decide)) hP hD
        · skip
          have c10 : x_8.toInt < n.toInt := zlti (Int32.not_le.mp cb9) rfl rfl
          have n11 : x_8.toInt ≤ 35 := zL1 (b := 36) c10 b_n.2 (by decide)
          have n12 : 3 ≤ n.toInt := zL2 (a := 2) c10 hx_8.2.1 (by decide)
          refine lv_aload_n hx hb dX6_holdsSaid_17 rfl (lv_at hl 0 rfl) ?_
          refine va_get (D := g.1) (ci := 6) (v := .ref ab) (C := RX6) (T := TX6) (N := 7) hx hb hts izRX6 hown hK hP 0 rfl rfl 0 (by decide) (hts _ k261) (fun _ h9 => h9) rfl dX6_holdsSaid_18 ?_
          refine lv_iload_n hx hb dX6_holdsSaid_21 rfl (lv_at hl 3 rfl) ?_
          refine va_iald hx hb hK hP 1 0 rfl rfl (zinK (a := 0) (b := 36) i5.1 i5.2 (by decide)) dX6_holdsSaid_22 ?_
          refine zg (fun x_13 => ?_)
          refine lv_istore (lv' := [(4, .int x_13), (0, .ref ta), (1, .int n), (2, .int pp), (3, .int x_4)]) hx hb dX6_holdsSaid_23 hl (by decide) rfl (fun ls hl => ?_)
          refine lv_aload_n hx hb dX6_holdsSaid_25 rfl (lv_at hl 1 rfl) ?_
          refine va_get (D := g.1) (ci := 6) (v := .ref ab) (C := RX6) (T := TX6) (N := 7) hx hb hts izRX6 hown hK hP 0 rfl rfl 0 (by decide) (hts _ k261) (fun _ h9 => h9) rfl dX6_holdsSaid_26 ?_
          refine lv_iload_n hx hb dX6_holdsSaid_29 rfl (lv_at hl 4 rfl) ?_
          refine lv_iconst (v := 1) hx hb dX6_holdsSaid_30 (by decide) ?_
          refine lv_iadd hx hb dX6_holdsSaid_31 ?_
          refine zg3 (zaddK (i := x_4.toInt) (j := 1) (a' := 1) (b' := 37) rfl (by decide) i5.1 i5.2 (Int.le_refl _) (Int.le_refl _) (by decide)) (fun x_14 hx_14 => ?_)
          refine va_iald hx hb hK hP 1 0 rfl rfl (zinK (a := 1) (b := 37) hx_14.2.1 hx_14.2.2 (by decide)) dX6_holdsSaid_32 ?_
          refine zg (fun x_15 => ?_)
          refine lv_istore (lv' := [(5, .int x_15), (4, .int x_13), (0, .ref ta), (1, .int n), (2, .int pp), (3, .int x_4)]) hx hb dX6_holdsSaid_33 hl (by decide) rfl (fun ls hl => ?_)
          refine lv_iload hx hb dX6_holdsSaid_35 (lv_at hl 1 rfl) ?_
          refine lv_iload_n hx hb dX6_holdsSaid_37 rfl (lv_at hl 4 rfl) ?_
          refine lv_icmp_ge (tgt := 66) hx hb dX6_holdsSaid_38 (by decide) (fun cb9 => ?_) (fun cb9 => ?_)
          · skip
            have c16 : pp.toInt ≤ x_13.toInt := zle cb9 rfl rfl
            refine lv_iconst (v := 0) hx hb dX6_holdsSaid_66 (by decide) ?_
            have hP : va_P g.1 vwCl (List.flatten [bTape g ta ab sz ln kd bg nx ft fb]) H := hP
            have hD : va_D A (List.flatten [bTape g ta ab sz ln kd bg nx ft fb]) := hD
            exact mret_z hx hb hr hlocks hS (Nat.le_of_ble_eq_true rfl) (Nat.le_of_ble_eq_true rfl) dX6_holdsSaid_67 ((0 : Int32)) rfl (by decide) (show (0 = 0 ∨ 0 = 1) from (by decide)) hP hD
          · skip
            have c17 : x_13.toInt < pp.toInt := zlti (Int32.not_le.mp cb9) rfl rfl
            refine lv_iload hx hb dX6_holdsSaid_41 (lv_at hl 0 rfl) ?_
            refine lv_iload_n hx hb dX6_holdsSaid_43 rfl (lv_at hl 4 rfl) ?_
            refine lv_icmp_ge (tgt := 66) hx hb dX6_holdsSaid_44 (by decide) (fun cb9 => ?_) (fun cb9 => ?_)
            · skip
              have c18 : pp.toInt ≤ x_15.toInt := zle cb9 rfl rfl
              refine lv_iconst (v := 0) hx hb dX6_holdsSaid_66 (by decide) ?_
              have hP : va_P g.1 vwCl (List.flatten [bTape g ta ab sz ln kd bg nx ft fb]) H := hP
              have hD : va_D A (List.flatten [bTape g ta ab sz ln kd bg nx ft fb]) := hD
              exact mret_z hx hb hr hlocks hS (Nat.le_of_ble_eq_true rfl) (Nat.le_of_ble_eq_true rfl) dX6_holdsSaid_67 ((0 : Int32)) rfl (by decide) (show (0 = 0 ∨ 0 = 1) from (by decide)) hP hD
            · skip
              have c19 : x_15.toInt < pp.toInt := zlti (Int32.not_le.mp cb9) rfl rfl
              refine lv_iload hx hb dX6_holdsSaid_47 (lv_at hl 1 rfl) ?_
              refine lv_iload hx hb dX6_holdsSaid_49 (lv_at hl 0 rfl) ?_
              refine lv_icmp_eq (tgt := 66) hx hb dX6_holdsSaid_51 (by decide) (fun cb9 => ?_) (fun cb9 => ?_)
              · skip
                have c20 : x_13.toInt = x_15.toInt := zeq cb9 rfl rfl
                refine lv_iconst (v := 0) hx hb dX6_holdsSaid_66 (by decide) ?_
                have hP : va_P g.1 vwCl (List.flatten [bTape g ta ab sz ln kd bg nx ft fb]) H := hP
                have hD : va_D A (List.flatten [bTape g ta ab sz ln kd bg nx ft fb]) := hD
                exact mret_z hx hb hr hlocks hS (Nat.le_of_ble_eq_true rfl) (Nat.le_of_ble_eq_true rfl) dX6_holdsSaid_67 ((0 : Int32)) rfl (by decide) (show (0 = 0 ∨ 0 = 1) from (by decide)) hP hD
              · skip
                have c21 : ¬ x_13.toInt = x_15.toInt := zne cb9 rfl rfl
                refine lv_aload_n hx hb dX6_holdsSaid_54 rfl (lv_at hl 2 rfl) ?_
                refine va_get (D := g.1) (ci := 6) (v := .ref ab) (C := RX6) (T := TX6) (N := 7) hx hb hts izRX6 hown hK hP 0 rfl rfl 0 (by decide) (hts _ k261) (fun _ h9 => h9) rfl dX6_holdsSaid_55 ?_
                refine lv_iload_n hx hb dX6_holdsSaid_58 rfl (lv_at hl 5 rfl) ?_
                refine lv_iconst (v := 2) hx hb dX6_holdsSaid_59 (by decide) ?_
                refine lv_iadd hx hb dX6_holdsSaid_60 ?_
                refine zg3 (zaddK (i := x_4.toInt) (j := 2) (a' := 2) (b' := 38) rfl (by decide) i5.1 i5.2 (Int.le_refl _) (Int.le_refl _) (by decide)) (fun x_22 hx_22 => ?_)
                refine va_iald hx hb hK hP 1 0 rfl rfl (zinK (a := 2) (b := 38) hx_22.2.1 hx_22.2.2 (by decide)) dX6_holdsSaid_61 ?_
                refine zg (fun x_23 => ?_)
                refine lv_iconst (v := 1) hx hb dX6_holdsSaid_62 (by decide) ?_
                refine lv_icmp_le (tgt := 68) hx hb dX6_holdsSaid_63 (by decide) (fun cb9 => ?_) (fun cb9 => ?_)
                · skip
                  have c24 : x_23.toInt ≤ 1 := zle cb9 rfl (by decide)
                  have n25 : x_23.toInt ≤ 1 := Int.le_trans c24 (Int.le_refl _)
                  refine ziinc3 (n' := 3) (a' := 3) (b' := 39) (lv' := fun v9 => [(3, .int v9), (5, .int x_15), (4, .int x_13), (0, .ref ta), (1, .int n), (2, .int pp)]) hx hb dX6_holdsSaid_68 hl (k := 5) rfl (by decide) (fun _ => rfl) (zaddK (i := x_4.toInt) (j := 3) rfl (by decide) i5.1 i5.2 (Int.le_refl _) (Int.le_refl _) (by decide)) (fun x_26 ls hx_26 hl => ?_)
                  refine lv_goto (tgt := 10) hx hb dX6_holdsSaid_71 (by decide) ?_
                  have hl := lv_sub (l' := [(0, .ref ta), (1, .int n), (2, .int pp), (3, .int x_26), (4, .int x_13), (5, .int x_15)]) hl [3, 4, 5, 0, 2, 1] rfl
                  have hP : va_P g.1 vwCl (List.flatten [bTape g ta ab sz ln kd bg nx ft fb]) H := hP
                  have hD : va_D A (List.flatten [bTape g ta ab sz ln kd bg nx ft fb]) := hD
                  exact ih10_7 x_26 (by first | omega | assumption | decide) H _ ls (zmK hx_26.1 (by decide) i5.2 (by decide) hk10_7)  hP hD hS (lv_sub hl [0, 1, 2, 3] rfl)
                · skip
                  have c27 : 1 < x_23.toInt := zlti (Int32.not_le.mp cb9) (by decide) rfl
                  have n28 : 2 ≤ x_23.toInt := zL2 (a := 1) c27 (Int.le_refl _) (by decide)
                  refine lv_iconst (v := 0) hx hb dX6_holdsSaid_66 (by decide) ?_
                  have hP : va_P g.1 vwCl (List.flatten [bTape g ta ab sz ln kd bg nx ft fb]) H := hP
                  have hD : va_D A (List.flatten [bTape g ta ab sz ln kd bg nx ft fb]) := hD
                  exact mret_z hx hb hr hlocks hS (Nat.le_of_ble_eq_true rfl) (Nat.le_of_ble_eq_true rfl) dX6_holdsSaid_67 ((0 : Int32)) rfl (by decide) (show (0 = 0 ∨ 0 = 1) from (by decide)) hP hD
    have hP : va_P g.1 vwCl (List.flatten [bTape g ta ab sz ln kd bg nx ft fb]) s.heap := hP
    have hD : va_D A (List.flatten [bTape g ta ab sz ln kd bg nx ft fb]) := hD
    exact LP10_6 _ 0 (by decide) s.heap _ ls (Nat.lt_succ_self _)  hP hD hS (lv_sub hl [0, 1, 2, 3] rfl)
  · skip
    have c29 : ¬ x_1.toInt = 0 := zne cb9 rfl (by decide)
    have n30 : 1 ≤ x_1.toInt := zN1 c29 hx_1.1 (by decide)
    refine lv_iconst (v := 0) hx hb dX6_holdsSaid_6 (by decide) ?_
    have hP : va_P g.1 vwCl (List.flatten [bTape g ta ab sz ln kd bg nx ft fb]) s.heap := hP
    have hD : va_D A (List.flatten [bTape g ta ab sz ln kd bg nx ft fb]) := hD
    exact mret_z hx hb hr hlocks hS (Nat.le_of_ble_eq_true rfl) (Nat.le_of_ble_eq_true rfl) dX6_holdsSaid_7 ((0 : Int32)) rfl (by decide) (show (0 = 0 ∨ 0 = 1) from (by decide)) hP hD
set_option maxRecDepth 100000 in
set_option maxHeartbeats 4000000 in
theorem c_t_step (l : Launch) (g : zG) (ta : Nat) (ab : Nat) (sz : Int32) (ln : Int32) (kd : Int32) (bg : Int32) (nx : Int32) (ft : Int32) (fb : Nat → Int32) (hln : 0 ≤ ln.toInt ∧ ln.toInt ≤ 400) (hnx : 0 ≤ nx.toInt ∧ nx.toInt ≤ 400) : zM' g l yX6_step (Cond.code yX6_step cX6_step 2 none :: zB) ({ frames := 0, cells := 0, slots := 0, locals := 0 } : Room) [.ref ta] [bTape g ta ab sz ln kd bg nx ft fb] (fun u : Int32 × Int32 × Int32 => (fun (kd2 : Int32) (bg2 : Int32) (nx2 : Int32) => none) (u.1) (u.2.1) (u.2.2)) (fun u : Int32 × Int32 × Int32 => (fun (kd2 : Int32) (bg2 : Int32) (nx2 : Int32) => (0 ≤ nx2.toInt ∧ nx2.toInt ≤ 400) ∧ (0 ≤ bg2.toInt ∧ bg2.toInt ≤ 400) ∧ (zKd kd2.toInt bg2.toInt nx2.toInt)) (u.1) (u.2.1) (u.2.2)) (fun u : Int32 × Int32 × Int32 => (fun (kd2 : Int32) (bg2 : Int32) (nx2 : Int32) => [bTape g ta ab sz ln kd2 bg2 nx2 ft fb]) (u.1) (u.2.1) (u.2.2)) := by
  refine zM'.of (cc := cX6_step) (maxL := 2) (rt := none) (by decide) rfl (Nat.le_of_ble_eq_true rfl) ?_
  intro p e s m args below meth c A ls St hr hlocks hin hK hT hA hP hD hS hl
  obtain ⟨hx, hb, hml, hown, hts⟩ := id St
  have hl : lv_has ls 2 [(0, .ref ta)] := hl
  have LP0_3 : ∀ (kf : Nat) (x_1 : Int32), (0 ≤ x_1.toInt ∧ x_1.toInt ≤ 400) → ∀ (H : Heap) (locs : List Loc) (ls : Array Slot), ((ln.toInt - x_1.toInt).toNat) < kf → va_P g.1 vwCl (List.flatten [bTape g ta ab sz ln kd bg x_1 ft fb]) H → va_D A (List.flatten [bTape g ta ab sz ln kd bg x_1 ft fb]) → va_S A s.heap H locs → lv_has ls 2 [(0, .ref ta)] → W p l e ({ frames := 0, cells := 0, slots := 0, locals := 0 } : Room) s m args below meth c H locs (0) (0) (zF g (fun u : Int32 × Int32 × Int32 => (fun (kd2 : Int32) (bg2 : Int32) (nx2 : Int32) => none) (u.1) (u.2.1) (u.2.2)) (fun u : Int32 × Int32 × Int32 => (fun (kd2 : Int32) (bg2 : Int32) (nx2 : Int32) => (0 ≤ nx2.toInt ∧ nx2.toInt ≤ 400) ∧ (0 ≤ bg2.toInt ∧ bg2.toInt ≤ 400) ∧ (zKd kd2.toInt bg2.toInt nx2.toInt)) (u.1) (u.2.1) (u.2.2)) (fun u : Int32 × Int32 × Int32 => (fun (kd2 : Int32) (bg2 : Int32) (nx2 : Int32) => [bTape g ta ab sz ln kd2 bg2 nx2 ft fb]) (u.1) (u.2.1) (u.2.2)) ({ frames := 0, cells := 0, slots := 0, locals := 0 } : Room) below args s A) (F0 m 0 ls []) := by
    intro kf
    induction kf with
    | zero => intro x_1 i2 H locs ls hk; exact absurd hk (Nat.not_lt_zero _)
    | succ kf ih0_4 =>
      intro x_1 i2 H locs ls hk0_4 hP hD hS hl
      refine lv_aload_n hx hb dX6_step_0 rfl (lv_at hl 0 rfl) ?_
      refine va_get (D := g.1) (ci := 6) (v := .int x_1) (C := RX6) (T := TX6) (N := 7) hx hb hts izRX6 hown hK hP 0 rfl rfl 5 (by decide) (hts _ k259) (fun _ h9 => h9) rfl dX6_step_1 ?_
      refine lv_aload_n hx hb dX6_step_4 rfl (lv_at hl 0 rfl) ?_
      refine va_get (D := g.1) (ci := 6) (v := .int ln) (C := RX6) (T := TX6) (N := 7) hx hb hts izRX6 hown hK hP 0 rfl rfl 2 (by decide) (hts _ k272) (fun _ h9 => h9) rfl dX6_step_5 ?_
      refine lv_icmp_ge (tgt := 38) hx hb dX6_step_8 (by decide) (fun cb9 => ?_) (fun cb9 => ?_)
      · skip
        have c5 : ln.toInt ≤ x_1.toInt := zle cb9 rfl rfl
        refine lv_aload_n hx hb dX6_step_38 rfl (lv_at hl 0 rfl) ?_
        refine lv_aload_n hx hb dX6_step_39 rfl (lv_at hl 0 rfl) ?_
        refine va_get (D := g.1) (ci := 6) (v := .int x_1) (C := RX6) (T := TX6) (N := 7) hx hb hts izRX6 hown hK hP 0 rfl rfl 5 (by decide) (hts _ k259) (fun _ h9 => h9) rfl dX6_step_40 ?_
        refine va_put (D := g.1) (ci := 6) (v := .int x_1) (ty := .int) (C := RX6) (T := TX6) (N := 7) hx hb hts izRX6 tyX6 tyX6_ok nmX6 hown hK hP hD hS 0 rfl rfl 4 (by decide) (hts _ k260) (fun _ h9 => h9) rfl (by decide +kernel) rfl rfl (Nat.le_of_ble_eq_true rfl) dX6_step_43 (fun H locs hP hD hS => ?_)
        have hP : va_P g.1 vwCl (List.flatten [bTape g ta ab sz ln kd x_1 x_1 ft fb]) H := hP
        have hD : va_D A (List.flatten [bTape g ta ab sz ln kd x_1 x_1 ft fb]) := hD
        refine lv_aload_n hx hb dX6_step_46 rfl (lv_at hl 0 rfl) ?_
        refine va_get (D := g.1) (ci := 6) (v := .int x_1) (C := RX6) (T := TX6) (N := 7) hx hb hts izRX6 hown hK hP 0 rfl rfl 5 (by decide) (hts _ k259) (fun _ h9 => h9) rfl dX6_step_47 ?_
        refine lv_aload_n hx hb dX6_step_50 rfl (lv_at hl 0 rfl) ?_
        refine va_get (D := g.1) (ci := 6) (v := .int ln) (C := RX6) (T := TX6) (N := 7) hx hb hts izRX6 hown hK hP 0 rfl rfl 2 (by decide) (hts _ k272) (fun _ h9 => h9) rfl dX6_step_51 ?_
        refine lv_icmp_lt (tgt := 63) hx hb dX6_step_54 (by decide) (fun cb9 => ?_) (fun cb9 => ?_)
        · skip
          have c6 : x_1.toInt < ln.toInt := zlti cb9 rfl rfl
          have n7 : x_1.toInt ≤ 399 := zL1 (b := 400) c6 hln.2 (by decide)
          have n8 : 1 ≤ ln.toInt := zL2 (a := 0) c6 i2.1 (by decide)
          refine lv_aload_n hx hb dX6_step_63 rfl (lv_at hl 0 rfl) ?_
          refine va_get (D := g.1) (ci := 6) (v := .ref ab) (C := RX6) (T := TX6) (N := 7) hx hb hts izRX6 hown hK hP 0 rfl rfl 0 (by decide) (hts _ k261) (fun _ h9 => h9) rfl dX6_step_64 ?_
          refine lv_aload_n hx hb dX6_step_67 rfl (lv_at hl 0 rfl) ?_
          refine va_get (D := g.1) (ci := 6) (v := .int x_1) (C := RX6) (T := TX6) (N := 7) hx hb hts izRX6 hown hK hP 0 rfl rfl 5 (by decide) (hts _ k259) (fun _ h9 => h9) rfl dX6_step_68 ?_
          refine va_iald hx hb hK hP 1 0 rfl rfl (zinK (a := 0) (b := 399) i2.1 n7 (by decide)) dX6_step_71 ?_
          refine zg (fun x_9 => ?_)
          refine lv_istore_n (lv' := [(1, .int x_9), (0, .ref ta)]) hx hb dX6_step_72 rfl hl (by decide) rfl (fun ls hl => ?_)
          refine lv_aload_n hx hb dX6_step_73 rfl (lv_at hl 1 rfl) ?_
          refine lv_dup hx hb dX6_step_74 rfl ?_
          refine va_get (D := g.1) (ci := 6) (v := .int x_1) (C := RX6) (T := TX6) (N := 7) hx hb hts izRX6 hown hK hP 0 rfl rfl 5 (by decide) (hts _ k259) (fun _ h9 => h9) rfl dX6_step_75 ?_
          refine lv_iconst (v := 1) hx hb dX6_step_78 (by decide) ?_
          refine lv_iadd hx hb dX6_step_79 ?_
          refine zg3 (zaddK (i := x_1.toInt) (j := 1) (a' := 1) (b' := 400) rfl (by decide) i2.1 n7 (Int.le_refl _) (Int.le_refl _) (by decide)) (fun x_10 hx_10 => ?_)
          refine va_put (D := g.1) (ci := 6) (v := .int x_10) (ty := .int) (C := RX6) (T := TX6) (N := 7) hx hb hts izRX6 tyX6 tyX6_ok nmX6 hown hK hP hD hS 0 rfl rfl 5 (by decide) (hts _ k259) (fun _ h9 => h9) rfl (by decide +kernel) rfl rfl (Nat.le_of_ble_eq_true rfl) dX6_step_80 (fun H locs hP hD hS => ?_)
          have hP : va_P g.1 vwCl (List.flatten [bTape g ta ab sz ln kd x_1 x_10 ft fb]) H := hP
          have hD : va_D A (List.flatten [bTape g ta ab sz ln kd x_1 x_10 ft fb]) := hD
          refine lv_iload_n hx hb dX6_step_83 rfl (lv_at hl 0 rfl) ?_
          refine lv_bipush (v := 97) hx hb dX6_step_84 (by decide) ?_
          refine lv_icmp_lt (tgt := 152) hx hb dX6_step_86 (by decide) (fun cb9 => ?_) (fun cb9 => ?_)
          · skip
            have c11 : x_9.toInt < 97 := zlti cb9 rfl (by decide)
            have n12 : x_9.toInt ≤ 96 := zL1 (b := 97) c11 (Int.le_refl _) (by decide)
            refine lv_iload_n hx hb dX6_step_152 rfl (lv_at hl 0 rfl) ?_
            refine lv_bipush (v := 48) hx hb dX6_step_153 (by decide) ?_
            refine lv_icmp_lt (tgt := 221) hx hb dX6_step_155 (by decide) (fun cb9 => ?_) (fun cb9 => ?_)
            · skip
              have c13 : x_9.toInt < 48 := zlti cb9 rfl (by decide)
              have n14 : x_9.toInt ≤ 47 := zL1 (b := 48) c13 (Int.le_refl _) (by decide)
              refine lv_aload_n hx hb dX6_step_221 rfl (lv_at hl 1 rfl) ?_
              refine lv_iconst (v := 3) hx hb dX6_step_222 (by decide) ?_
              refine va_put (D := g.1) (ci := 6) (v := .int 3) (ty := .int) (C := RX6) (T := TX6) (N := 7) hx hb hts izRX6 tyX6 tyX6_ok nmX6 hown hK hP hD hS 0 rfl rfl 3 (by decide) (hts _ k258) (fun _ h9 => h9) rfl (by decide +kernel) rfl rfl (Nat.le_of_ble_eq_true rfl) dX6_step_223 (fun H locs hP hD hS => ?_)
              have hP : va_P g.1 vwCl (List.flatten [bTape g ta ab sz ln 3 x_1 x_10 ft fb]) H := hP
              have hD : va_D A (List.flatten [bTape g ta ab sz ln 3 x_1 x_10 ft fb]) := hD
              have hP : va_P g.1 vwCl (List.flatten [bTape g ta ab sz ln 3 x_1 x_10 ft fb]) H := hP
              have hD : va_D A (List.flatten [bTape g ta ab sz ln 3 x_1 x_10 ft fb]) := hD
              exact mret_v hx hb hr hlocks hS (Nat.le_of_ble_eq_true rfl) (Nat.le_of_ble_eq_true rfl) dX6_step_226 ((3 : Int32), x_1, x_10) rfl (show (0 ≤ x_10.toInt ∧ x_10.toInt ≤ 400) ∧ (0 ≤ x_1.toInt ∧ x_1.toInt ≤ 400) ∧ (zKd (3 : Int32).toInt x_1.toInt x_10.toInt) from ⟨(by first | assumption | omega | decide | exact rfl | exact zb01 (by omega) | exact Or.inl (by decide) | exact Or.inr (by first | omega | decide)), i2, (by first | assumption | omega | decide | exact rfl | exact zb01 (by omega) | exact Or.inl (by decide) | exact Or.inr (by first | omega | decide))⟩) hP hD
            · skip
              have c15 : 48 ≤ x_9.toInt := zle (Int32.not_lt.mp cb9) (by decide) rfl
              have n16 : 48 ≤ x_9.toInt := Int.le_trans (Int.le_refl _) c15
              refine lv_iload_n hx hb dX6_step_158 rfl (lv_at hl 0 rfl) ?_
              refine lv_bipush (v := 57) hx hb dX6_step_159 (by decide) ?_
              refine lv_icmp_gt (tgt := 221) hx hb dX6_step_161 (by decide) (fun cb9 => ?_) (fun cb9 => ?_)
              · skip
                have c17 : 57 < x_9.toInt := zlti cb9 (by decide) rfl
                have n18 : 58 ≤ x_9.toInt := zL2 (a := 57) c17 (Int.le_refl _) (by decide)
                refine lv_aload_n hx hb dX6_step_221 rfl (lv_at hl 1 rfl) ?_
                refine lv_iconst (v := 3) hx hb dX6_step_222 (by decide) ?_
                refine va_put (D := g.1) (ci := 6) (v := .int 3) (ty := .int) (C := RX6) (T := TX6) (N := 7) hx hb hts izRX6 tyX6 tyX6_ok nmX6 hown hK hP hD hS 0 rfl rfl 3 (by decide) (hts _ k258) (fun _ h9 => h9) rfl (by decide +kernel) rfl rfl (Nat.le_of_ble_eq_true rfl) dX6_step_223 (fun H locs hP hD hS => ?_)
                have hP : va_P g.1 vwCl (List.flatten [bTape g ta ab sz ln 3 x_1 x_10 ft fb]) H := hP
                have hD : va_D A (List.flatten [bTape g ta ab sz ln 3 x_1 x_10 ft fb]) := hD
                have hP : va_P g.1 vwCl (List.flatten [bTape g ta ab sz ln 3 x_1 x_10 ft fb]) H := hP
                have hD : va_D A (List.flatten [bTape g ta ab sz ln 3 x_1 x_10 ft fb]) := hD
                exact mret_v hx hb hr hlocks hS (Nat.le_of_ble_eq_true rfl) (Nat.le_of_ble_eq_true rfl) dX6_step_226 ((3 : Int32), x_1, x_10) rfl (show (0 ≤ x_10.toInt ∧ x_10.toInt ≤ 400) ∧ (0 ≤ x_1.toInt ∧ x_1.toInt ≤ 400) ∧ (zKd (3 : Int32).toInt x_1.toInt x_10.toInt) from ⟨(by first | assumption | omega | decide | exact rfl | exact zb01 (by omega) | exact Or.inl (by decide) | exact Or.inr (by first | omega | decide)), i2, (by first | assumption | omega | decide | exact rfl | exact zb01 (by omega) | exact Or.inl (by decide) | exact Or.inr (by first | omega | decide))⟩) hP hD
              · skip
                have c19 : x_9.toInt ≤ 57 := zle (Int32.not_lt.mp cb9) rfl (by decide)
                have n20 : x_9.toInt ≤ 57 := Int.le_trans c19 (Int.le_refl _)
                refine lv_aload_n hx hb dX6_step_164 rfl (lv_at hl 1 rfl) ?_
                refine lv_iconst (v := 2) hx hb dX6_step_165 (by decide) ?_
                refine va_put (D := g.1) (ci := 6) (v := .int 2) (ty := .int) (C := RX6) (T := TX6) (N := 7) hx hb hts izRX6 tyX6 tyX6_ok nmX6 hown hK hP hD hS 0 rfl rfl 3 (by decide) (hts _ k258) (fun _ h9 => h9) rfl (by decide +kernel) rfl rfl (Nat.le_of_ble_eq_true rfl) dX6_step_166 (fun H locs hP hD hS => ?_)
                have hP : va_P g.1 vwCl (List.flatten [bTape g ta ab sz ln 2 x_1 x_10 ft fb]) H := hP
                have hD : va_D A (List.flatten [bTape g ta ab sz ln 2 x_1 x_10 ft fb]) := hD
                have hl := lv_sub (l' := [(0, .ref ta), (1, .int x_9)]) hl [1, 0] rfl
                have LP169_24 : ∀ (kf : Nat) (x_21 : Int32), (1 ≤ x_21.toInt ∧ x_21.toInt ≤ 400) → (x_1.toInt < x_21.toInt) → ∀ (H : Heap) (locs : List Loc) (ls : Array Slot), ((ln.toInt - x_21.toInt).toNat) < kf → va_P g.1 vwCl (List.flatten [bTape g ta ab sz ln 2 x_1 x_21 ft fb]) H → va_D A (List.flatten [bTape g ta ab sz ln 2 x_1 x_21 ft fb]) → va_S A s.heap H locs → lv_has ls 2 [(0, .ref ta), (1, .int x_9)] → W p l e ({ frames := 0, cells := 0, slots := 0, locals := 0 } : Room) s m args below meth c H locs (0) (0) (zF g (fun u : Int32 × Int32 × Int32 => (fun (kd2 : Int32) (bg2 : Int32) (nx2 : Int32) => none) (u.1) (u.2.1) (u.2.2)) (fun u : Int32 × Int32 × Int32 => (fun (kd2 : Int32) (bg2 : Int32) (nx2 : Int32) => (0 ≤ nx2.toInt ∧ nx2.toInt ≤ 400) ∧ (0 ≤ bg2.toInt ∧ bg2.toInt ≤ 400) ∧ (zKd kd2.toInt bg2.toInt nx2.toInt)) (u.1) (u.2.1) (u.2.2)) (fun u : Int32 × Int32 × Int32 => (fun (kd2 : Int32) (bg2 : Int32) (nx2 : Int32) => [bTape g ta ab sz ln kd2 bg2 nx2 ft fb]) (u.1) (u.2.1) (u.2.2)) ({ frames := 0, cells := 0, slots := 0, locals := 0 } : Room) below args s A) (F0 m 169 ls []) := by
                  intro kf
                  induction kf with
                  | zero => intro x_21 i22 i23 H locs ls hk; exact absurd hk (Nat.not_lt_zero _)
                  | succ kf ih169_25 =>
                    intro x_21 i22 i23 H locs ls hk169_25 hP hD hS hl
                    refine lv_aload_n hx hb dX6_step_169 rfl (lv_at hl 0 rfl) ?_
                    refine va_get (D := g.1) (ci := 6) (v := .int x_21) (C := RX6) (T := TX6) (N := 7) hx hb hts izRX6 hown hK hP 0 rfl rfl 5 (by decide) (hts _ k259) (fun _ h9 => h9) rfl dX6_step_170 ?_
                    refine lv_aload_n hx hb dX6_step_173 rfl (lv_at hl 0 rfl) ?_
                    refine va_get (D := g.1) (ci := 6) (v := .int ln) (C := RX6) (T := TX6) (N := 7) hx hb hts izRX6 hown hK hP 0 rfl rfl 2 (by decide) (hts _ k272) (fun _ h9 => h9) rfl dX6_step_174 ?_
                    refine lv_icmp_ge (tgt := 226) hx hb dX6_step_177 (by decide) (fun cb9 => ?_) (fun cb9 => ?_)
                    · skip
                      have c26 : ln.toInt ≤ x_21.toInt := zle cb9 rfl rfl
                      have hP : va_P g.1 vwCl (List.flatten [bTape g ta ab sz ln 2 x_1 x_21 ft fb]) H := hP
                      have hD : va_D A (List.flatten [bTape g ta ab sz ln 2 x_1 x_21 ft fb]) := hD
                      exact mret_v hx hb hr hlocks hS (Nat.le_of_ble_eq_true rfl) (Nat.le_of_ble_eq_true rfl) dX6_step_226 ((2 : Int32), x_1, x_21) rfl (show (0 ≤ x_21.toInt ∧ x_21.toInt ≤ 400) ∧ (0 ≤ x_1.toInt ∧ x_1.toInt ≤ 400) ∧ (zKd (2 : Int32).toInt x_1.toInt x_21.toInt) from ⟨(by first | assumption | omega | decide | exact rfl | exact zb01 (by omega) | exact Or.inl (by decide) | exact Or.inr (by first | omega | decide)), i2, (by first | assumption | omega | decide | exact rfl | exact zb01 (by omega) | exact Or.inl (by decide) | exact Or.inr (by first | omega | decide))⟩) hP hD
                    · skip
                      have c27 : x_21.toInt < ln.toInt := zlti (Int32.not_le.mp cb9) rfl rfl
                      have n28 : x_21.toInt ≤ 399 := zL1 (b := 400) c27 hln.2 (by decide)
                      have n29 : 2 ≤ ln.toInt := zL2 (a := 1) c27 i22.1 (by decide)
                      refine lv_aload_n hx hb dX6_step_180 rfl (lv_at hl 0 rfl) ?_
                      refine va_get (D := g.1) (ci := 6) (v := .ref ab) (C := RX6) (T := TX6) (N := 7) hx hb hts izRX6 hown hK hP 0 rfl rfl 0 (by decide) (hts _ k261) (fun _ h9 => h9) rfl dX6_step_181 ?_
                      refine lv_aload_n hx hb dX6_step_184 rfl (lv_at hl 0 rfl) ?_
                      refine va_get (D := g.1) (ci := 6) (v := .int x_21) (C := RX6) (T := TX6) (N := 7) hx hb hts izRX6 hown hK hP 0 rfl rfl 5 (by decide) (hts _ k259) (fun _ h9 => h9) rfl dX6_step_185 ?_
                      refine va_iald hx hb hK hP 1 0 rfl rfl (zinK (a := 1) (b := 399) i22.1 n28 (by decide)) dX6_step_188 ?_
                      refine zg (fun x_30 => ?_)
                      refine lv_bipush (v := 48) hx hb dX6_step_189 (by decide) ?_
                      refine lv_icmp_lt (tgt := 226) hx hb dX6_step_191 (by decide) (fun cb9 => ?_) (fun cb9 => ?_)
                      · skip
                        have c31 : x_30.toInt < 48 := zlti cb9 rfl (by decide)
                        have n32 : x_30.toInt ≤ 47 := zL1 (b := 48) c31 (Int.le_refl _) (by decide)
                        have hP : va_P g.1 vwCl (List.flatten [bTape g ta ab sz ln 2 x_1 x_21 ft fb]) H := hP
                        have hD : va_D A (List.flatten [bTape g ta ab sz ln 2 x_1 x_21 ft fb]) := hD
                        exact mret_v hx hb hr hlocks hS (Nat.le_of_ble_eq_true rfl) (Nat.le_of_ble_eq_true rfl) dX6_step_226 ((2 : Int32), x_1, x_21) rfl (show (0 ≤ x_21.toInt ∧ x_21.toInt ≤ 400) ∧ (0 ≤ x_1.toInt ∧ x_1.toInt ≤ 400) ∧ (zKd (2 : Int32).toInt x_1.toInt x_21.toInt) from ⟨(by first | assumption | omega | decide | exact rfl | exact zb01 (by omega) | exact Or.inl (by decide) | exact Or.inr (by first | omega | decide)), i2, (by first | assumption | omega | decide | exact rfl | exact zb01 (by omega) | exact Or.inl (by decide) | exact Or.inr (by first | omega | decide))⟩) hP hD
                      · skip
                        have c33 : 48 ≤ x_30.toInt := zle (Int32.not_lt.mp cb9) (by decide) rfl
                        have n34 : 48 ≤ x_30.toInt := Int.le_trans (Int.le_refl _) c33
                        refine lv_aload_n hx hb dX6_step_194 rfl (lv_at hl 0 rfl) ?_
                        refine va_get (D := g.1) (ci := 6) (v := .ref ab) (C := RX6) (T := TX6) (N := 7) hx hb hts izRX6 hown hK hP 0 rfl rfl 0 (by decide) (hts _ k261) (fun _ h9 => h9) rfl dX6_step_195 ?_
                        refine lv_aload_n hx hb dX6_step_198 rfl (lv_at hl 0 rfl) ?_
                        refine va_get (D := g.1) (ci := 6) (v := .int x_21) (C := RX6) (T := TX6) (N := 7) hx hb hts izRX6 hown hK hP 0 rfl rfl 5 (by decide) (hts _ k259) (fun _ h9 => h9) rfl dX6_step_199 ?_
                        refine va_iald hx hb hK hP 1 0 rfl rfl (zinK (a := 1) (b := 399) i22.1 n28 (by decide)) dX6_step_202 ?_
                        refine zg (fun x_35 => ?_)
                        refine lv_bipush (v := 57) hx hb dX6_step_203 (by decide) ?_
                        refine lv_icmp_gt (tgt := 226) hx hb dX6_step_205 (by decide) (fun cb9 => ?_) (fun cb9 => ?_)
                        · skip
                          have c36 : 57 < x_35.toInt := zlti cb9 (by decide) rfl
                          have n37 : 58 ≤ x_35.toInt := zL2 (a := 57) c36 (Int.le_refl _) (by decide)
                          have hP : va_P g.1 vwCl (List.flatten [bTape g ta ab sz ln 2 x_1 x_21 ft fb]) H := hP
                          have hD : va_D A (List.flatten [bTape g ta ab sz ln 2 x_1 x_21 ft fb]) := hD
                          exact mret_v hx hb hr hlocks hS (Nat.le_of_ble_eq_true rfl) (Nat.le_of_ble_eq_true rfl) dX6_step_226 ((2 : Int32), x_1, x_21) rfl (show (0 ≤ x_21.toInt ∧ x_21.toInt ≤ 400) ∧ (0 ≤ x_1.toInt ∧ x_1.toInt ≤ 400) ∧ (zKd (2 : Int32).toInt x_1.toInt x_21.toInt) from ⟨(by first | assumption | omega | decide | exact rfl | exact zb01 (by omega) | exact Or.inl (by decide) | exact Or.inr (by first | omega | decide)), i2, (by first | assumption | omega | decide | exact rfl | exact zb01 (by omega) | exact Or.inl (by decide) | exact Or.inr (by first | omega | decide))⟩) hP hD
                        · skip
                          have c38 : x_35.toInt ≤ 57 := zle (Int32.not_lt.mp cb9) rfl (by decide)
                          have n39 : x_35.toInt ≤ 57 := Int.le_trans c38 (Int.le_refl _)
                          refine lv_aload_n hx hb dX6_step_208 rfl (lv_at hl 0 rfl) ?_
                          refine lv_dup hx hb dX6_step_209 rfl ?_
                          refine va_get (D := g.1) (ci := 6) (v := .int x_21) (C := RX6) (T := TX6) (N := 7) hx hb hts izRX6 hown hK hP 0 rfl rfl 5 (by decide) (hts _ k259) (fun _ h9 => h9) rfl dX6_step_210 ?_
                          refine lv_iconst (v := 1) hx hb dX6_step_213 (by decide) ?_
                          refine lv_iadd hx hb dX6_step_214 ?_
                          refine zg3 (zaddK (i := x_21.toInt) (j := 1) (a' := 2) (b' := 400) rfl (by decide) i22.1 n28 (Int.le_refl _) (Int.le_refl _) (by decide)) (fun x_40 hx_40 => ?_)
                          refine va_put (D := g.1) (ci := 6) (v := .int x_40) (ty := .int) (C := RX6) (T := TX6) (N := 7) hx hb hts izRX6 tyX6 tyX6_ok nmX6 hown hK hP hD hS 0 rfl rfl 5 (by decide) (hts _ k259) (fun _ h9 => h9) rfl (by decide +kernel) rfl rfl (Nat.le_of_ble_eq_true rfl) dX6_step_215 (fun H locs hP hD hS => ?_)
                          have hP : va_P g.1 vwCl (List.flatten [bTape g ta ab sz ln 2 x_1 x_40 ft fb]) H := hP
                          have hD : va_D A (List.flatten [bTape g ta ab sz ln 2 x_1 x_40 ft fb]) := hD
                          refine lv_goto (tgt := 169) hx hb dX6_step_218 (by decide) ?_
                          have hP : va_P g.1 vwCl (List.flatten [bTape g ta ab sz ln 2 x_1 x_40 ft fb]) H := hP
                          have hD : va_D A (List.flatten [bTape g ta ab sz ln 2 x_1 x_40 ft fb]) := hD
                          exact ih169_25 x_40 ⟨(Int.le_trans (by decide) hx_40.2.1), hx_40.2.2⟩ (by first | omega | assumption | decide) H _ ls (by omega)  hP hD hS (lv_sub hl [0, 1] rfl)
                have hP : va_P g.1 vwCl (List.flatten [bTape g ta ab sz ln 2 x_1 x_10 ft fb]) H := hP
                have hD : va_D A (List.flatten [bTape g ta ab sz ln 2 x_1 x_10 ft fb]) := hD
                exact LP169_24 _ x_10 ⟨hx_10.2.1, hx_10.2.2⟩ (by first | omega | assumption | decide) H _ ls (Nat.lt_succ_self _)  hP hD hS (lv_sub hl [0, 1] rfl)
          · skip
            have c41 : 97 ≤ x_9.toInt := zle (Int32.not_lt.mp cb9) (by decide) rfl
            have n42 : 97 ≤ x_9.toInt := Int.le_trans (Int.le_refl _) c41
            refine lv_iload_n hx hb dX6_step_89 rfl (lv_at hl 0 rfl) ?_
            refine lv_bipush (v := 122) hx hb dX6_step_90 (by decide) ?_
            refine lv_icmp_gt (tgt := 152) hx hb dX6_step_92 (by decide) (fun cb9 => ?_) (fun cb9 => ?_)
            · skip
              have c43 : 122 < x_9.toInt := zlti cb9 (by decide) rfl
              have n44 : 123 ≤ x_9.toInt := zL2 (a := 122) c43 (Int.le_refl _) (by decide)
              refine lv_iload_n hx hb dX6_step_152 rfl (lv_at hl 0 rfl) ?_
              refine lv_bipush (v := 48) hx hb dX6_step_153 (by decide) ?_
              refine lv_icmp_lt (tgt := 221) hx hb dX6_step_155 (by decide) (fun cb9 => ?_) (fun cb9 => ?_)
              · skip
                exact absurd (show x_9.toInt < 48 from zlti cb9 rfl (by decide)) (zDlt (a := 123) (b := 48) n44 (Int.le_refl _) (by decide))
              · skip
                have c46 : 48 ≤ x_9.toInt := zle (Int32.not_lt.mp cb9) (by decide) rfl
                refine lv_iload_n hx hb dX6_step_158 rfl (lv_at hl 0 rfl) ?_
                refine lv_bipush (v := 57) hx hb dX6_step_159 (by decide) ?_
                refine lv_icmp_gt (tgt := 221) hx hb dX6_step_161 (by decide) (fun cb9 => ?_) (fun cb9 => ?_)
                · skip
                  have c47 : 57 < x_9.toInt := zlti cb9 (by decide) rfl
                  refine lv_aload_n hx hb dX6_step_221 rfl (lv_at hl 1 rfl) ?_
                  refine lv_iconst (v := 3) hx hb dX6_step_222 (by decide) ?_
                  refine va_put (D := g.1) (ci := 6) (v := .int 3) (ty := .int) (C := RX6) (T := TX6) (N := 7) hx hb hts izRX6 tyX6 tyX6_ok nmX6 hown hK hP hD hS 0 rfl rfl 3 (by decide) (hts _ k258) (fun _ h9 => h9) rfl (by decide +kernel) rfl rfl (Nat.le_of_ble_eq_true rfl) dX6_step_223 (fun H locs hP hD hS => ?_)
                  have hP : va_P g.1 vwCl (List.flatten [bTape g ta ab sz ln 3 x_1 x_10 ft fb]) H := hP
                  have hD : va_D A (List.flatten [bTape g ta ab sz ln 3 x_1 x_10 ft fb]) := hD
                  have hP : va_P g.1 vwCl (List.flatten [bTape g ta ab sz ln 3 x_1 x_10 ft fb]) H := hP
                  have hD : va_D A (List.flatten [bTape g ta ab sz ln 3 x_1 x_10 ft fb]) := hD
                  exact mret_v hx hb hr hlocks hS (Nat.le_of_ble_eq_true rfl) (Nat.le_of_ble_eq_true rfl) dX6_step_226 ((3 : Int32), x_1, x_10) rfl (show (0 ≤ x_10.toInt ∧ x_10.toInt ≤ 400) ∧ (0 ≤ x_1.toInt ∧ x_1.toInt ≤ 400) ∧ (zKd (3 : Int32).toInt x_1.toInt x_10.toInt) from ⟨(by first | assumption | omega | decide | exact rfl | exact zb01 (by omega) | exact Or.inl (by decide) | exact Or.inr (by first | omega | decide)), i2, (by first | assumption | omega | decide | exact rfl | exact zb01 (by omega) | exact Or.inl (by decide) | exact Or.inr (by first | omega | decide))⟩) hP hD
                · skip
                  exact absurd (show x_9.toInt ≤ 57 from zle (Int32.not_lt.mp cb9) rfl (by decide)) (zDle (a := 123) (b := 57) n44 (Int.le_refl _) (by decide))
            · skip
              have c49 : x_9.toInt ≤ 122 := zle (Int32.not_lt.mp cb9) rfl (by decide)
              have n50 : x_9.toInt ≤ 122 := Int.le_trans c49 (Int.le_refl _)
              refine lv_aload_n hx hb dX6_step_95 rfl (lv_at hl 1 rfl) ?_
              refine lv_iconst (v := 1) hx hb dX6_step_96 (by decide) ?_
              refine va_put (D := g.1) (ci := 6) (v := .int 1) (ty := .int) (C := RX6) (T := TX6) (N := 7) hx hb hts izRX6 tyX6 tyX6_ok nmX6 hown hK hP hD hS 0 rfl rfl 3 (by decide) (hts _ k258) (fun _ h9 => h9) rfl (by decide +kernel) rfl rfl (Nat.le_of_ble_eq_true rfl) dX6_step_97 (fun H locs hP hD hS => ?_)
              have hP : va_P g.1 vwCl (List.flatten [bTape g ta ab sz ln 1 x_1 x_10 ft fb]) H := hP
              have hD : va_D A (List.flatten [bTape g ta ab sz ln 1 x_1 x_10 ft fb]) := hD
              have hl := lv_sub (l' := [(0, .ref ta), (1, .int x_9)]) hl [1, 0] rfl
              have LP100_54 : ∀ (kf : Nat) (x_51 : Int32), (1 ≤ x_51.toInt ∧ x_51.toInt ≤ 400) → (x_1.toInt < x_51.toInt) → ∀ (H : Heap) (locs : List Loc) (ls : Array Slot), ((ln.toInt - x_51.toInt).toNat) < kf → va_P g.1 vwCl (List.flatten [bTape g ta ab sz ln 1 x_1 x_51 ft fb]) H → va_D A (List.flatten [bTape g ta ab sz ln 1 x_1 x_51 ft fb]) → va_S A s.heap H locs → lv_has ls 2 [(0, .ref ta), (1, .int x_9)] → W p l e ({ frames := 0, cells := 0, slots := 0, locals := 0 } : Room) s m args below meth c H locs (0) (0) (zF g (fun u : Int32 × Int32 × Int32 => (fun (kd2 : Int32) (bg2 : Int32) (nx2 : Int32) => none) (u.1) (u.2.1) (u.2.2)) (fun u : Int32 × Int32 × Int32 => (fun (kd2 : Int32) (bg2 : Int32) (nx2 : Int32) => (0 ≤ nx2.toInt ∧ nx2.toInt ≤ 400) ∧ (0 ≤ bg2.toInt ∧ bg2.toInt ≤ 400) ∧ (zKd kd2.toInt bg2.toInt nx2.toInt)) (u.1) (u.2.1) (u.2.2)) (fun u : Int32 × Int32 × Int32 => (fun (kd2 : Int32) (bg2 : Int32) (nx2 : Int32) => [bTape g ta ab sz ln kd2 bg2 nx2 ft fb]) (u.1) (u.2.1) (u.2.2)) ({ frames := 0, cells := 0, slots := 0, locals := 0 } : Room) below args s A) (F0 m 100 ls []) := by
                intro kf
                induction kf with
                | zero => intro x_51 i52 i53 H locs ls hk; exact absurd hk (Nat.not_lt_zero _)
                | succ kf ih100_55 =>
                  intro x_51 i52 i53 H locs ls hk100_55 hP hD hS hl
                  refine lv_aload_n hx hb dX6_step_100 rfl (lv_at hl 0 rfl) ?_
                  refine va_get (D := g.1) (ci := 6) (v := .int x_51) (C := RX6) (T := TX6) (N := 7) hx hb hts izRX6 hown hK hP 0 rfl rfl 5 (by decide) (hts _ k259) (fun _ h9 => h9) rfl dX6_step_101 ?_
                  refine lv_aload_n hx hb dX6_step_104 rfl (lv_at hl 0 rfl) ?_
                  refine va_get (D := g.1) (ci := 6) (v := .int ln) (C := RX6) (T := TX6) (N := 7) hx hb hts izRX6 hown hK hP 0 rfl rfl 2 (by decide) (hts _ k272) (fun _ h9 => h9) rfl dX6_step_105 ?_
                  refine lv_icmp_ge (tgt := 226) hx hb dX6_step_108 (by decide) (fun cb9 => ?_) (fun cb9 => ?_)
                  · skip
                    have c56 : ln.toInt ≤ x_51.toInt := zle cb9 rfl rfl
                    have hP : va_P g.1 vwCl (List.flatten [bTape g ta ab sz ln 1 x_1 x_51 ft fb]) H := hP
                    have hD : va_D A (List.flatten [bTape g ta ab sz ln 1 x_1 x_51 ft fb]) := hD
                    exact mret_v hx hb hr hlocks hS (Nat.le_of_ble_eq_true rfl) (Nat.le_of_ble_eq_true rfl) dX6_step_226 ((1 : Int32), x_1, x_51) rfl (show (0 ≤ x_51.toInt ∧ x_51.toInt ≤ 400) ∧ (0 ≤ x_1.toInt ∧ x_1.toInt ≤ 400) ∧ (zKd (1 : Int32).toInt x_1.toInt x_51.toInt) from ⟨(by first | assumption | omega | decide | exact rfl | exact zb01 (by omega) | exact Or.inl (by decide) | exact Or.inr (by first | omega | decide)), i2, (by first | assumption | omega | decide | exact rfl | exact zb01 (by omega) | exact Or.inl (by decide) | exact Or.inr (by first | omega | decide))⟩) hP hD
                  · skip
                    have c57 : x_51.toInt < ln.toInt := zlti (Int32.not_le.mp cb9) rfl rfl
                    have n58 : x_51.toInt ≤ 399 := zL1 (b := 400) c57 hln.2 (by decide)
                    have n59 : 2 ≤ ln.toInt := zL2 (a := 1) c57 i52.1 (by decide)
                    refine lv_aload_n hx hb dX6_step_111 rfl (lv_at hl 0 rfl) ?_
                    refine va_get (D := g.1) (ci := 6) (v := .ref ab) (C := RX6) (T := TX6) (N := 7) hx hb hts izRX6 hown hK hP 0 rfl rfl 0 (by decide) (hts _ k261) (fun _ h9 => h9) rfl dX6_step_112 ?_
                    refine lv_aload_n hx hb dX6_step_115 rfl (lv_at hl 0 rfl) ?_
                    refine va_get (D := g.1) (ci := 6) (v := .int x_51) (C := RX6) (T := TX6) (N := 7) hx hb hts izRX6 hown hK hP 0 rfl rfl 5 (by decide) (hts _ k259) (fun _ h9 => h9) rfl dX6_step_116 ?_
                    refine va_iald hx hb hK hP 1 0 rfl rfl (zinK (a := 1) (b := 399) i52.1 n58 (by decide)) dX6_step_119 ?_
                    refine zg (fun x_60 => ?_)
                    refine lv_bipush (v := 97) hx hb dX6_step_120 (by decide) ?_
                    refine lv_icmp_lt (tgt := 226) hx hb dX6_step_122 (by decide) (fun cb9 => ?_) (fun cb9 => ?_)
                    · skip
                      have c61 : x_60.toInt < 97 := zlti cb9 rfl (by decide)
                      have n62 : x_60.toInt ≤ 96 := zL1 (b := 97) c61 (Int.le_refl _) (by decide)
                      have hP : va_P g.1 vwCl (List.flatten [bTape g ta ab sz ln 1 x_1 x_51 ft fb]) H := hP
                      have hD : va_D A (List.flatten [bTape g ta ab sz ln 1 x_1 x_51 ft fb]) := hD
                      exact mret_v hx hb hr hlocks hS (Nat.le_of_ble_eq_true rfl) (Nat.le_of_ble_eq_true rfl) dX6_step_226 ((1 : Int32), x_1, x_51) rfl (show (0 ≤ x_51.toInt ∧ x_51.toInt ≤ 400) ∧ (0 ≤ x_1.toInt ∧ x_1.toInt ≤ 400) ∧ (zKd (1 : Int32).toInt x_1.toInt x_51.toInt) from ⟨(by first | assumption | omega | decide | exact rfl | exact zb01 (by omega) | exact Or.inl (by decide) | exact Or.inr (by first | omega | decide)), i2, (by first | assumption | omega | decide | exact rfl | exact zb01 (by omega) | exact Or.inl (by decide) | exact Or.inr (by first | omega | decide))⟩) hP hD
                    · skip
                      have c63 : 97 ≤ x_60.toInt := zle (Int32.not_lt.mp cb9) (by decide) rfl
                      have n64 : 97 ≤ x_60.toInt := Int.le_trans (Int.le_refl _) c63
                      refine lv_aload_n hx hb dX6_step_125 rfl (lv_at hl 0 rfl) ?_
                      refine va_get (D := g.1) (ci := 6) (v := .ref ab) (C := RX6) (T := TX6) (N := 7) hx hb hts izRX6 hown hK hP 0 rfl rfl 0 (by decide) (hts _ k261) (fun _ h9 => h9) rfl dX6_step_126 ?_
                      refine lv_aload_n hx hb dX6_step_129 rfl (lv_at hl 0 rfl) ?_
                      refine va_get (D := g.1) (ci := 6) (v := .int x_51) (C := RX6) (T := TX6) (N := 7) hx hb hts izRX6 hown hK hP 0 rfl rfl 5 (by decide) (hts _ k259) (fun _ h9 => h9) rfl dX6_step_130 ?_
                      refine va_iald hx hb hK hP 1 0 rfl rfl (zinK (a := 1) (b := 399) i52.1 n58 (by decide)) dX6_step_133 ?_
                      refine zg (fun x_65 => ?_)
                      refine lv_bipush (v := 122) hx hb dX6_step_134 (by decide) ?_
                      refine lv_icmp_gt (tgt := 226) hx hb dX6_step_136 (by decide) (fun cb9 => ?_) (fun cb9 => ?_)
                      · skip
                        have c66 : 122 < x_65.toInt := zlti cb9 (by decide) rfl
                        have n67 : 123 ≤ x_65.toInt := zL2 (a := 122) c66 (Int.le_refl _) (by decide)
                        have hP : va_P g.1 vwCl (List.flatten [bTape g ta ab sz ln 1 x_1 x_51 ft fb]) H := hP
                        have hD : va_D A (List.flatten [bTape g ta ab sz ln 1 x_1 x_51 ft fb]) := hD
                        exact mret_v hx hb hr hlocks hS (Nat.le_of_ble_eq_true rfl) (Nat.le_of_ble_eq_true rfl) dX6_step_226 ((1 : Int32), x_1, x_51) rfl (show (0 ≤ x_51.toInt ∧ x_51.toInt ≤ 400) ∧ (0 ≤ x_1.toInt ∧ x_1.toInt ≤ 400) ∧ (zKd (1 : Int32).toInt x_1.toInt x_51.toInt) from ⟨(by first | assumption | omega | decide | exact rfl | exact zb01 (by omega) | exact Or.inl (by decide) | exact Or.inr (by first | omega | decide)), i2, (by first | assumption | omega | decide | exact rfl | exact zb01 (by omega) | exact Or.inl (by decide) | exact Or.inr (by first | omega | decide))⟩) hP hD
                      · skip
                        have c68 : x_65.toInt ≤ 122 := zle (Int32.not_lt.mp cb9) rfl (by decide)
                        have n69 : x_65.toInt ≤ 122 := Int.le_trans c68 (Int.le_refl _)
                        refine lv_aload_n hx hb dX6_step_139 rfl (lv_at hl 0 rfl) ?_
                        refine lv_dup hx hb dX6_step_140 rfl ?_
                        refine va_get (D := g.1) (ci := 6) (v := .int x_51) (C := RX6) (T := TX6) (N := 7) hx hb hts izRX6 hown hK hP 0 rfl rfl 5 (by decide) (hts _ k259) (fun _ h9 => h9) rfl dX6_step_141 ?_
                        refine lv_iconst (v := 1) hx hb dX6_step_144 (by decide) ?_
                        refine lv_iadd hx hb dX6_step_145 ?_
                        refine zg3 (zaddK (i := x_51.toInt) (j := 1) (a' := 2) (b' := 400) rfl (by decide) i52.1 n58 (Int.le_refl _) (Int.le_refl _) (by decide)) (fun x_70 hx_70 => ?_)
                        refine va_put (D := g.1) (ci := 6) (v := .int x_70) (ty := .int) (C := RX6) (T := TX6) (N := 7) hx hb hts izRX6 tyX6 tyX6_ok nmX6 hown hK hP hD hS 0 rfl rfl 5 (by decide) (hts _ k259) (fun _ h9 => h9) rfl (by decide +kernel) rfl rfl (Nat.le_of_ble_eq_true rfl) dX6_step_146 (fun H locs hP hD hS => ?_)
                        have hP : va_P g.1 vwCl (List.flatten [bTape g ta ab sz ln 1 x_1 x_70 ft fb]) H := hP
                        have hD : va_D A (List.flatten [bTape g ta ab sz ln 1 x_1 x_70 ft fb]) := hD
                        refine lv_goto (tgt := 100) hx hb dX6_step_149 (by decide) ?_
                        have hP : va_P g.1 vwCl (List.flatten [bTape g ta ab sz ln 1 x_1 x_70 ft fb]) H := hP
                        have hD : va_D A (List.flatten [bTape g ta ab sz ln 1 x_1 x_70 ft fb]) := hD
                        exact ih100_55 x_70 ⟨(Int.le_trans (by decide) hx_70.2.1), hx_70.2.2⟩ (by first | omega | assumption | decide) H _ ls (by omega)  hP hD hS (lv_sub hl [0, 1] rfl)
              have hP : va_P g.1 vwCl (List.flatten [bTape g ta ab sz ln 1 x_1 x_10 ft fb]) H := hP
              have hD : va_D A (List.flatten [bTape g ta ab sz ln 1 x_1 x_10 ft fb]) := hD
              exact LP100_54 _ x_10 ⟨hx_10.2.1, hx_10.2.2⟩ (by first | omega | assumption | decide) H _ ls (Nat.lt_succ_self _)  hP hD hS (lv_sub hl [0, 1] rfl)
        · skip
          have c71 : ln.toInt ≤ x_1.toInt := zle (Int32.not_lt.mp cb9) rfl rfl
          refine lv_aload_n hx hb dX6_step_57 rfl (lv_at hl 0 rfl) ?_
          refine lv_iconst (v := 0) hx hb dX6_step_58 (by decide) ?_
          refine va_put (D := g.1) (ci := 6) (v := .int 0) (ty := .int) (C := RX6) (T := TX6) (N := 7) hx hb hts izRX6 tyX6 tyX6_ok nmX6 hown hK hP hD hS 0 rfl rfl 3 (by decide) (hts _ k258) (fun _ h9 => h9) rfl (by decide +kernel) rfl rfl (Nat.le_of_ble_eq_true rfl) dX6_step_59 (fun H locs hP hD hS => ?_)
          have hP : va_P g.1 vwCl (List.flatten [bTape g ta ab sz ln 0 x_1 x_1 ft fb]) H := hP
          have hD : va_D A (List.flatten [bTape g ta ab sz ln 0 x_1 x_1 ft fb]) := hD
          have hP : va_P g.1 vwCl (List.flatten [bTape g ta ab sz ln 0 x_1 x_1 ft fb]) H := hP
          have hD : va_D A (List.flatten [bTape g ta ab sz ln 0 x_1 x_1 ft fb]) := hD
          exact mret_v hx hb hr hlocks hS (Nat.le_of_ble_eq_true rfl) (Nat.le_of_ble_eq_true rfl) dX6_step_62 ((0 : Int32), x_1, x_1) rfl (show (0 ≤ x_1.toInt ∧ x_1.toInt ≤ 400) ∧ (0 ≤ x_1.toInt ∧ x_1.toInt ≤ 400) ∧ (zKd (0 : Int32).toInt x_1.toInt x_1.toInt) from ⟨i2, i2, (by first | assumption | omega | decide | exact rfl | exact zb01 (by omega) | exact Or.inl (by decide) | exact Or.inr (by first | omega | decide))⟩) hP hD
      · skip
        have c72 : x_1.toInt < ln.toInt := zlti (Int32.not_le.mp cb9) rfl rfl
        have n73 : x_1.toInt ≤ 399 := zL1 (b := 400) c72 hln.2 (by decide)
        have n74 : 1 ≤ ln.toInt := zL2 (a := 0) c72 i2.1 (by decide)
        refine lv_aload_n hx hb dX6_step_11 rfl (lv_at hl 0 rfl) ?_
        refine va_get (D := g.1) (ci := 6) (v := .ref ab) (C := RX6) (T := TX6) (N := 7) hx hb hts izRX6 hown hK hP 0 rfl rfl 0 (by decide) (hts _ k261) (fun _ h9 => h9) rfl dX6_step_12 ?_
        refine lv_aload_n hx hb dX6_step_15 rfl (lv_at hl 0 rfl) ?_
        refine va_get (D := g.1) (ci := 6) (v := .int x_1) (C := RX6) (T := TX6) (N := 7) hx hb hts izRX6 hown hK hP 0 rfl rfl 5 (by decide) (hts _ k259) (fun _ h9 => h9) rfl dX6_step_16 ?_
        refine va_iald hx hb hK hP 1 0 rfl rfl (zinK (a := 0) (b := 399) i2.1 n73 (by decide)) dX6_step_19 ?_
        refine zg (fun x_75 => ?_)
        refine lv_bipush (v := 32) hx hb dX6_step_20 (by decide) ?_
        refine lv_icmp_ne (tgt := 38) hx hb dX6_step_22 (by decide) (fun cb9 => ?_) (fun cb9 => ?_)
        · skip
          have c76 : ¬ x_75.toInt = 32 := zne cb9 rfl (by decide)
          refine lv_aload_n hx hb dX6_step_38 rfl (lv_at hl 0 rfl) ?_
          refine lv_aload_n hx hb dX6_step_39 rfl (lv_at hl 0 rfl) ?_
          refine va_get (D := g.1) (ci := 6) (v := .int x_1) (C := RX6) (T := TX6) (N := 7) hx hb hts izRX6 hown hK hP 0 rfl rfl 5 (by decide) (hts _ k259) (fun _ h9 => h9) rfl dX6_step_40 ?_
          refine va_put (D := g.1) (ci := 6) (v := .int x_1) (ty := .int) (C := RX6) (T := TX6) (N := 7) hx hb hts izRX6 tyX6 tyX6_ok nmX6 hown hK hP hD hS 0 rfl rfl 4 (by decide) (hts _ k260) (fun _ h9 => h9) rfl (by decide +kernel) rfl rfl (Nat.le_of_ble_eq_true rfl) dX6_step_43 (fun H locs hP hD hS => ?_)
          have hP : va_P g.1 vwCl (List.flatten [bTape g ta ab sz ln kd x_1 x_1 ft fb]) H := hP
          have hD : va_D A (List.flatten [bTape g ta ab sz ln kd x_1 x_1 ft fb]) := hD
          refine lv_aload_n hx hb dX6_step_46 rfl (lv_at hl 0 rfl) ?_
          refine va_get (D := g.1) (ci := 6) (v := .int x_1) (C := RX6) (T := TX6) (N := 7) hx hb hts izRX6 hown hK hP 0 rfl rfl 5 (by decide) (hts _ k259) (fun _ h9 => h9) rfl dX6_step_47 ?_
          refine lv_aload_n hx hb dX6_step_50 rfl (lv_at hl 0 rfl) ?_
          refine va_get (D := g.1) (ci := 6) (v := .int ln) (C := RX6) (T := TX6) (N := 7) hx hb hts izRX6 hown hK hP 0 rfl rfl 2 (by decide) (hts _ k272) (fun _ h9 => h9) rfl dX6_step_51 ?_
          refine lv_icmp_lt (tgt := 63) hx hb dX6_step_54 (by decide) (fun cb9 => ?_) (fun cb9 => ?_)
          · skip
            have c77 : x_1.toInt < ln.toInt := zlti cb9 rfl rfl
            refine lv_aload_n hx hb dX6_step_63 rfl (lv_at hl 0 rfl) ?_
            refine va_get (D := g.1) (ci := 6) (v := .ref ab) (C := RX6) (T := TX6) (N := 7) hx hb hts izRX6 hown hK hP 0 rfl rfl 0 (by decide) (hts _ k261) (fun _ h9 => h9) rfl dX6_step_64 ?_
            refine lv_aload_n hx hb dX6_step_67 rfl (lv_at hl 0 rfl) ?_
            refine va_get (D := g.1) (ci := 6) (v := .int x_1) (C := RX6) (T := TX6) (N := 7) hx hb hts izRX6 hown hK hP 0 rfl rfl 5 (by decide) (hts _ k259) (fun _ h9 => h9) rfl dX6_step_68 ?_
            refine va_iald hx hb hK hP 1 0 rfl rfl (zinK (a := 0) (b := 399) i2.1 n73 (by decide)) dX6_step_71 ?_
            refine zg (fun x_78 => ?_)
            refine lv_istore_n (lv' := [(1, .int x_78), (0, .ref ta)]) hx hb dX6_step_72 rfl hl (by decide) rfl (fun ls hl => ?_)
            refine lv_aload_n hx hb dX6_step_73 rfl (lv_at hl 1 rfl) ?_
            refine lv_dup hx hb dX6_step_74 rfl ?_
            refine va_get (D := g.1) (ci := 6) (v := .int x_1) (C := RX6) (T := TX6) (N := 7) hx hb hts izRX6 hown hK hP 0 rfl rfl 5 (by decide) (hts _ k259) (fun _ h9 => h9) rfl dX6_step_75 ?_
            refine lv_iconst (v := 1) hx hb dX6_step_78 (by decide) ?_
            refine lv_iadd hx hb dX6_step_79 ?_
            refine zg3 (zaddK (i := x_1.toInt) (j := 1) (a' := 1) (b' := 400) rfl (by decide) i2.1 n73 (Int.le_refl _) (Int.le_refl _) (by decide)) (fun x_79 hx_79 => ?_)
            refine va_put (D := g.1) (ci := 6) (v := .int x_79) (ty := .int) (C := RX6) (T := TX6) (N := 7) hx hb hts izRX6 tyX6 tyX6_ok nmX6 hown hK hP hD hS 0 rfl rfl 5 (by decide) (hts _ k259) (fun _ h9 => h9) rfl (by decide +kernel) rfl rfl (Nat.le_of_ble_eq_true rfl) dX6_step_80 (fun H locs hP hD hS => ?_)
            have hP : va_P g.1 vwCl (List.flatten [bTape g ta ab sz ln kd x_1 x_79 ft fb]) H := hP
            have hD : va_D A (List.flatten [bTape g ta ab sz ln kd x_1 x_79 ft fb]) := hD
            refine lv_iload_n hx hb dX6_step_83 rfl (lv_at hl 0 rfl) ?_
            refine lv_bipush (v := 97) hx hb dX6_step_84 (by decide) ?_
            refine lv_icmp_lt (tgt := 152) hx hb dX6_step_86 (by decide) (fun cb9 => ?_) (fun cb9 => ?_)
            · skip
              have c80 : x_78.toInt < 97 := zlti cb9 rfl (by decide)
              have n81 : x_78.toInt ≤ 96 := zL1 (b := 97) c80 (Int.le_refl _) (by decide)
              refine lv_iload_n hx hb dX6_step_152 rfl (lv_at hl 0 rfl) ?_
              refine lv_bipush (v := 48) hx hb dX6_step_153 (by decide) ?_
              refine lv_icmp_lt (tgt := 221) hx hb dX6_step_155 (by decide) (fun cb9 => ?_) (fun cb9 => ?_)
              · skip
                have c82 : x_78.toInt < 48 := zlti cb9 rfl (by decide)
                have n83 : x_78.toInt ≤ 47 := zL1 (b := 48) c82 (Int.le_refl _) (by decide)
                refine lv_aload_n hx hb dX6_step_221 rfl (lv_at hl 1 rfl) ?_
                refine lv_iconst (v := 3) hx hb dX6_step_222 (by decide) ?_
                refine va_put (D := g.1) (ci := 6) (v := .int 3) (ty := .int) (C := RX6) (T := TX6) (N := 7) hx hb hts izRX6 tyX6 tyX6_ok nmX6 hown hK hP hD hS 0 rfl rfl 3 (by decide) (hts _ k258) (fun _ h9 => h9) rfl (by decide +kernel) rfl rfl (Nat.le_of_ble_eq_true rfl) dX6_step_223 (fun H locs hP hD hS => ?_)
                have hP : va_P g.1 vwCl (List.flatten [bTape g ta ab sz ln 3 x_1 x_79 ft fb]) H := hP
                have hD : va_D A (List.flatten [bTape g ta ab sz ln 3 x_1 x_79 ft fb]) := hD
                have hP : va_P g.1 vwCl (List.flatten [bTape g ta ab sz ln 3 x_1 x_79 ft fb]) H := hP
                have hD : va_D A (List.flatten [bTape g ta ab sz ln 3 x_1 x_79 ft fb]) := hD
                exact mret_v hx hb hr hlocks hS (Nat.le_of_ble_eq_true rfl) (Nat.le_of_ble_eq_true rfl) dX6_step_226 ((3 : Int32), x_1, x_79) rfl (show (0 ≤ x_79.toInt ∧ x_79.toInt ≤ 400) ∧ (0 ≤ x_1.toInt ∧ x_1.toInt ≤ 400) ∧ (zKd (3 : Int32).toInt x_1.toInt x_79.toInt) from ⟨(by first | assumption | omega | decide | exact rfl | exact zb01 (by omega) | exact Or.inl (by decide) | exact Or.inr (by first | omega | decide)), i2, (by first | assumption | omega | decide | exact rfl | exact zb01 (by omega) | exact Or.inl (by decide) | exact Or.inr (by first | omega | decide))⟩) hP hD
              · skip
                have c84 : 48 ≤ x_78.toInt := zle (Int32.not_lt.mp cb9) (by decide) rfl
                have n85 : 48 ≤ x_78.toInt := Int.le_trans (Int.le_refl _) c84
                refine lv_iload_n hx hb dX6_step_158 rfl (lv_at hl 0 rfl) ?_
                refine lv_bipush (v := 57) hx hb dX6_step_159 (by decide) ?_
                refine lv_icmp_gt (tgt := 221) hx hb dX6_step_161 (by decide) (fun cb9 => ?_) (fun cb9 => ?_)
                · skip
                  have c86 : 57 < x_78.toInt := zlti cb9 (by decide) rfl
                  have n87 : 58 ≤ x_78.toInt := zL2 (a := 57) c86 (Int.le_refl _) (by decide)
                  refine lv_aload_n hx hb dX6_step_221 rfl (lv_at hl 1 rfl) ?_
                  refine lv_iconst (v := 3) hx hb dX6_step_222 (by decide) ?_
                  refine va_put (D := g.1) (ci := 6) (v := .int 3) (ty := .int) (C := RX6) (T := TX6) (N := 7) hx hb hts izRX6 tyX6 tyX6_ok nmX6 hown hK hP hD hS 0 rfl rfl 3 (by decide) (hts _ k258) (fun _ h9 => h9) rfl (by decide +kernel) rfl rfl (Nat.le_of_ble_eq_true rfl) dX6_step_223 (fun H locs hP hD hS => ?_)
                  have hP : va_P g.1 vwCl (List.flatten [bTape g ta ab sz ln 3 x_1 x_79 ft fb]) H := hP
                  have hD : va_D A (List.flatten [bTape g ta ab sz ln 3 x_1 x_79 ft fb]) := hD
                  have hP : va_P g.1 vwCl (List.flatten [bTape g ta ab sz ln 3 x_1 x_79 ft fb]) H := hP
                  have hD : va_D A (List.flatten [bTape g ta ab sz ln 3 x_1 x_79 ft fb]) := hD
                  exact mret_v hx hb hr hlocks hS (Nat.le_of_ble_eq_true rfl) (Nat.le_of_ble_eq_true rfl) dX6_step_226 ((3 : Int32), x_1, x_79) rfl (show (0 ≤ x_79.toInt ∧ x_79.toInt ≤ 400) ∧ (0 ≤ x_1.toInt ∧ x_1.toInt ≤ 400) ∧ (zKd (3 : Int32).toInt x_1.toInt x_79.toInt) from ⟨(by first | assumption | omega | decide | exact rfl | exact zb01 (by omega) | exact Or.inl (by decide) | exact Or.inr (by first | omega | decide)), i2, (by first | assumption | omega | decide | exact rfl | exact zb01 (by omega) | exact Or.inl (by decide) | exact Or.inr (by first | omega | decide))⟩) hP hD
                · skip
                  have c88 : x_78.toInt ≤ 57 := zle (Int32.not_lt.mp cb9) rfl (by decide)
                  have n89 : x_78.toInt ≤ 57 := Int.le_trans c88 (Int.le_refl _)
                  refine lv_aload_n hx hb dX6_step_164 rfl (lv_at hl 1 rfl) ?_
                  refine lv_iconst (v := 2) hx hb dX6_step_165 (by decide) ?_
                  refine va_put (D := g.1) (ci := 6) (v := .int 2) (ty := .int) (C := RX6) (T := TX6) (N := 7) hx hb hts izRX6 tyX6 tyX6_ok nmX6 hown hK hP hD hS 0 rfl rfl 3 (by decide) (hts _ k258) (fun _ h9 => h9) rfl (by decide +kernel) rfl rfl (Nat.le_of_ble_eq_true rfl) dX6_step_166 (fun H locs hP hD hS => ?_)
                  have hP : va_P g.1 vwCl (List.flatten [bTape g ta ab sz ln 2 x_1 x_79 ft fb]) H := hP
                  have hD : va_D A (List.flatten [bTape g ta ab sz ln 2 x_1 x_79 ft fb]) := hD
                  have hl := lv_sub (l' := [(0, .ref ta), (1, .int x_78)]) hl [1, 0] rfl
                  have LP169_93 : ∀ (kf : Nat) (x_90 : Int32), (1 ≤ x_90.toInt ∧ x_90.toInt ≤ 400) → (x_1.toInt < x_90.toInt) → ∀ (H : Heap) (locs : List Loc) (ls : Array Slot), ((ln.toInt - x_90.toInt).toNat) < kf → va_P g.1 vwCl (List.flatten [bTape g ta ab sz ln 2 x_1 x_90 ft fb]) H → va_D A (List.flatten [bTape g ta ab sz ln 2 x_1 x_90 ft fb]) → va_S A s.heap H locs → lv_has ls 2 [(0, .ref ta), (1, .int x_78)] → W p l e ({ frames := 0, cells := 0, slots := 0, locals := 0 } : Room) s m args below meth c H locs (0) (0) (zF g (fun u : Int32 × Int32 × Int32 => (fun (kd2 : Int32) (bg2 : Int32) (nx2 : Int32) => none) (u.1) (u.2.1) (u.2.2)) (fun u : Int32 × Int32 × Int32 => (fun (kd2 : Int32) (bg2 : Int32) (nx2 : Int32) => (0 ≤ nx2.toInt ∧ nx2.toInt ≤ 400) ∧ (0 ≤ bg2.toInt ∧ bg2.toInt ≤ 400) ∧ (zKd kd2.toInt bg2.toInt nx2.toInt)) (u.1) (u.2.1) (u.2.2)) (fun u : Int32 × Int32 × Int32 => (fun (kd2 : Int32) (bg2 : Int32) (nx2 : Int32) => [bTape g ta ab sz ln kd2 bg2 nx2 ft fb]) (u.1) (u.2.1) (u.2.2)) ({ frames := 0, cells := 0, slots := 0, locals := 0 } : Room) below args s A) (F0 m 169 ls []) := by
                    intro kf
                    induction kf with
                    | zero => intro x_90 i91 i92 H locs ls hk; exact absurd hk (Nat.not_lt_zero _)
                    | succ kf ih169_94 =>
                      intro x_90 i91 i92 H locs ls hk169_94 hP hD hS hl
                      refine lv_aload_n hx hb dX6_step_169 rfl (lv_at hl 0 rfl) ?_
                      refine va_get (D := g.1) (ci := 6) (v := .int x_90) (C := RX6) (T := TX6) (N := 7) hx hb hts izRX6 hown hK hP 0 rfl rfl 5 (by decide) (hts _ k259) (fun _ h9 => h9) rfl dX6_step_170 ?_
                      refine lv_aload_n hx hb dX6_step_173 rfl (lv_at hl 0 rfl) ?_
                      refine va_get (D := g.1) (ci := 6) (v := .int ln) (C := RX6) (T := TX6) (N := 7) hx hb hts izRX6 hown hK hP 0 rfl rfl 2 (by decide) (hts _ k272) (fun _ h9 => h9) rfl dX6_step_174 ?_
                      refine lv_icmp_ge (tgt := 226) hx hb dX6_step_177 (by decide) (fun cb9 => ?_) (fun cb9 => ?_)
                      · skip
                        have c95 : ln.toInt ≤ x_90.toInt := zle cb9 rfl rfl
                        have hP : va_P g.1 vwCl (List.flatten [bTape g ta ab sz ln 2 x_1 x_90 ft fb]) H := hP
                        have hD : va_D A (List.flatten [bTape g ta ab sz ln 2 x_1 x_90 ft fb]) := hD
                        exact mret_v hx hb hr hlocks hS (Nat.le_of_ble_eq_true rfl) (Nat.le_of_ble_eq_true rfl) dX6_step_226 ((2 : Int32), x_1, x_90) rfl (show (0 ≤ x_90.toInt ∧ x_90.toInt ≤ 400) ∧ (0 ≤ x_1.toInt ∧ x_1.toInt ≤ 400) ∧ (zKd (2 : Int32).toInt x_1.toInt x_90.toInt) from ⟨(by first | assumption | omega | decide | exact rfl | exact zb01 (by omega) | exact Or.inl (by decide) | exact Or.inr (by first | omega | decide)), i2, (by first | assumption | omega | decide | exact rfl | exact zb01 (by omega) | exact Or.inl (by decide) | exact Or.inr (by first | omega | decide))⟩) hP hD
                      · skip
                        have c96 : x_90.toInt < ln.toInt := zlti (Int32.not_le.mp cb9) rfl rfl
                        have n97 : x_90.toInt ≤ 399 := zL1 (b := 400) c96 hln.2 (by decide)
                        have n98 : 2 ≤ ln.toInt := zL2 (a := 1) c96 i91.1 (by decide)
                        refine lv_aload_n hx hb dX6_step_180 rfl (lv_at hl 0 rfl) ?_
                        refine va_get (D := g.1) (ci := 6) (v := .ref ab) (C := RX6) (T := TX6) (N := 7) hx hb hts izRX6 hown hK hP 0 rfl rfl 0 (by decide) (hts _ k261) (fun _ h9 => h9) rfl dX6_step_181 ?_
                        refine lv_aload_n hx hb dX6_step_184 rfl (lv_at hl 0 rfl) ?_
                        refine va_get (D := g.1) (ci := 6) (v := .int x_90) (C := RX6) (T := TX6) (N := 7) hx hb hts izRX6 hown hK hP 0 rfl rfl 5 (by decide) (hts _ k259) (fun _ h9 => h9) rfl dX6_step_185 ?_
                        refine va_iald hx hb hK hP 1 0 rfl rfl (zinK (a := 1) (b := 399) i91.1 n97 (by decide)) dX6_step_188 ?_
                        refine zg (fun x_99 => ?_)
                        refine lv_bipush (v := 48) hx hb dX6_step_189 (by decide) ?_
                        refine lv_icmp_lt (tgt := 226) hx hb dX6_step_191 (by decide) (fun cb9 => ?_) (fun cb9 => ?_)
                        · skip
                          have c100 : x_99.toInt < 48 := zlti cb9 rfl (by decide)
                          have n101 : x_99.toInt ≤ 47 := zL1 (b := 48) c100 (Int.le_refl _) (by decide)
                          have hP : va_P g.1 vwCl (List.flatten [bTape g ta ab sz ln 2 x_1 x_90 ft fb]) H := hP
                          have hD : va_D A (List.flatten [bTape g ta ab sz ln 2 x_1 x_90 ft fb]) := hD
                          exact mret_v hx hb hr hlocks hS (Nat.le_of_ble_eq_true rfl) (Nat.le_of_ble_eq_true rfl) dX6_step_226 ((2 : Int32), x_1, x_90) rfl (show (0 ≤ x_90.toInt ∧ x_90.toInt ≤ 400) ∧ (0 ≤ x_1.toInt ∧ x_1.toInt ≤ 400) ∧ (zKd (2 : Int32).toInt x_1.toInt x_90.toInt) from ⟨(by first | assumption | omega | decide | exact rfl | exact zb01 (by omega) | exact Or.inl (by decide) | exact Or.inr (by first | omega | decide)), i2, (by first | assumption | omega | decide | exact rfl | exact zb01 (by omega) | exact Or.inl (by decide) | exact Or.inr (by first | omega | decide))⟩) hP hD
                        · skip
                          have c102 : 48 ≤ x_99.toInt := zle (Int32.not_lt.mp cb9) (by decide) rfl
                          have n103 : 48 ≤ x_99.toInt := Int.le_trans (Int.le_refl _) c102
                          refine lv_aload_n hx hb dX6_step_194 rfl (lv_at hl 0 rfl) ?_
                          refine va_get (D := g.1) (ci := 6) (v := .ref ab) (C := RX6) (T := TX6) (N := 7) hx hb hts izRX6 hown hK hP 0 rfl rfl 0 (by decide) (hts _ k261) (fun _ h9 => h9) rfl dX6_step_195 ?_
                          refine lv_aload_n hx hb dX6_step_198 rfl (lv_at hl 0 rfl) ?_
                          refine va_get (D := g.1) (ci := 6) (v := .int x_90) (C := RX6) (T := TX6) (N := 7) hx hb hts izRX6 hown hK hP 0 rfl rfl 5 (by decide) (hts _ k259) (fun _ h9 => h9) rfl dX6_step_199 ?_
                          refine va_iald hx hb hK hP 1 0 rfl rfl (zinK (a := 1) (b := 399) i91.1 n97 (by decide)) dX6_step_202 ?_
                          refine zg (fun x_104 => ?_)
                          refine lv_bipush (v := 57) hx hb dX6_step_203 (by decide) ?_
                          refine lv_icmp_gt (tgt := 226) hx hb dX6_step_205 (by decide) (fun cb9 => ?_) (fun cb9 => ?_)
                          · skip
                            have c105 : 57 < x_104.toInt := zlti cb9 (by decide) rfl
                            have n106 : 58 ≤ x_104.toInt := zL2 (a := 57) c105 (Int.le_refl _) (by decide)
                            have hP : va_P g.1 vwCl (List.flatten [bTape g ta ab sz ln 2 x_1 x_90 ft fb]) H := hP
                            have hD : va_D A (List.flatten [bTape g ta ab sz ln 2 x_1 x_90 ft fb]) := hD
                            exact mret_v hx hb hr hlocks hS (Nat.le_of_ble_eq_true rfl) (Nat.le_of_ble_eq_true rfl) dX6_step_226 ((2 : Int32), x_1, x_90) rfl (show (0 ≤ x_90.toInt ∧ x_90.toInt ≤ 400) ∧ (0 ≤ x_1.toInt ∧ x_1.toInt ≤ 400) ∧ (zKd (2 : Int32).toInt x_1.toInt x_90.toInt) from ⟨(by first | assumption | omega | decide | exact rfl | exact zb01 (by omega) | exact Or.inl (by decide) | exact Or.inr (by first | omega | decide)), i2, (by first | assumption | omega | decide | exact rfl | exact zb01 (by omega) | exact Or.inl (by decide) | exact Or.inr (by first | omega | decide))⟩) hP hD
                          · skip
                            have c107 : x_104.toInt ≤ 57 := zle (Int32.not_lt.mp cb9) rfl (by decide)
                            have n108 : x_104.toInt ≤ 57 := Int.le_trans c107 (Int.le_refl _)
                            refine lv_aload_n hx hb dX6_step_208 rfl (lv_at hl 0 rfl) ?_
                            refine lv_dup hx hb dX6_step_209 rfl ?_
                            refine va_get (D := g.1) (ci := 6) (v := .int x_90) (C := RX6) (T := TX6) (N := 7) hx hb hts izRX6 hown hK hP 0 rfl rfl 5 (by decide) (hts _ k259) (fun _ h9 => h9) rfl dX6_step_210 ?_
                            refine lv_iconst (v := 1) hx hb dX6_step_213 (by decide) ?_
                            refine lv_iadd hx hb dX6_step_214 ?_
                            refine zg3 (zaddK (i := x_90.toInt) (j := 1) (a' := 2) (b' := 400) rfl (by decide) i91.1 n97 (Int.le_refl _) (Int.le_refl _) (by decide)) (fun x_109 hx_109 => ?_)
                            refine va_put (D := g.1) (ci := 6) (v := .int x_109) (ty := .int) (C := RX6) (T := TX6) (N := 7) hx hb hts izRX6 tyX6 tyX6_ok nmX6 hown hK hP hD hS 0 rfl rfl 5 (by decide) (hts _ k259) (fun _ h9 => h9) rfl (by decide +kernel) rfl rfl (Nat.le_of_ble_eq_true rfl) dX6_step_215 (fun H locs hP hD hS => ?_)
                            have hP : va_P g.1 vwCl (List.flatten [bTape g ta ab sz ln 2 x_1 x_109 ft fb]) H := hP
                            have hD : va_D A (List.flatten [bTape g ta ab sz ln 2 x_1 x_109 ft fb]) := hD
                            refine lv_goto (tgt := 169) hx hb dX6_step_218 (by decide) ?_
                            have hP : va_P g.1 vwCl (List.flatten [bTape g ta ab sz ln 2 x_1 x_109 ft fb]) H := hP
                            have hD : va_D A (List.flatten [bTape g ta ab sz ln 2 x_1 x_109 ft fb]) := hD
                            exact ih169_94 x_109 ⟨(Int.le_trans (by decide) hx_109.2.1), hx_109.2.2⟩ (by first | omega | assumption | decide) H _ ls (by omega)  hP hD hS (lv_sub hl [0, 1] rfl)
                  have hP : va_P g.1 vwCl (List.flatten [bTape g ta ab sz ln 2 x_1 x_79 ft fb]) H := hP
                  have hD : va_D A (List.flatten [bTape g ta ab sz ln 2 x_1 x_79 ft fb]) := hD
                  exact LP169_93 _ x_79 ⟨hx_79.2.1, hx_79.2.2⟩ (by first | omega | assumption | decide) H _ ls (Nat.lt_succ_self _)  hP hD hS (lv_sub hl [0, 1] rfl)
            · skip
              have c110 : 97 ≤ x_78.toInt := zle (Int32.not_lt.mp cb9) (by decide) rfl
              have n111 : 97 ≤ x_78.toInt := Int.le_trans (Int.le_refl _) c110
              refine lv_iload_n hx hb dX6_step_89 rfl (lv_at hl 0 rfl) ?_
              refine lv_bipush (v := 122) hx hb dX6_step_90 (by decide) ?_
              refine lv_icmp_gt (tgt := 152) hx hb dX6_step_92 (by decide) (fun cb9 => ?_) (fun cb9 => ?_)
              · skip
                have c112 : 122 < x_78.toInt := zlti cb9 (by decide) rfl
                have n113 : 123 ≤ x_78.toInt := zL2 (a := 122) c112 (Int.le_refl _) (by decide)
                refine lv_iload_n hx hb dX6_step_152 rfl (lv_at hl 0 rfl) ?_
                refine lv_bipush (v := 48) hx hb dX6_step_153 (by decide) ?_
                refine lv_icmp_lt (tgt := 221) hx hb dX6_step_155 (by decide) (fun cb9 => ?_) (fun cb9 => ?_)
                · skip
                  exact absurd (show x_78.toInt < 48 from zlti cb9 rfl (by decide)) (zDlt (a := 123) (b := 48) n113 (Int.le_refl _) (by decide))
                · skip
                  have c115 : 48 ≤ x_78.toInt := zle (Int32.not_lt.mp cb9) (by decide) rfl
                  refine lv_iload_n hx hb dX6_step_158 rfl (lv_at hl 0 rfl) ?_
                  refine lv_bipush (v := 57) hx hb dX6_step_159 (by decide) ?_
                  refine lv_icmp_gt (tgt := 221) hx hb dX6_step_161 (by decide) (fun cb9 => ?_) (fun cb9 => ?_)
                  · skip
                    have c116 : 57 < x_78.toInt := zlti cb9 (by decide) rfl
                    refine lv_aload_n hx hb dX6_step_221 rfl (lv_at hl 1 rfl) ?_
                    refine lv_iconst (v := 3) hx hb dX6_step_222 (by decide) ?_
                    refine va_put (D := g.1) (ci := 6) (v := .int 3) (ty := .int) (C := RX6) (T := TX6) (N := 7) hx hb hts izRX6 tyX6 tyX6_ok nmX6 hown hK hP hD hS 0 rfl rfl 3 (by decide) (hts _ k258) (fun _ h9 => h9) rfl (by decide +kernel) rfl rfl (Nat.le_of_ble_eq_true rfl) dX6_step_223 (fun H locs hP hD hS => ?_)
                    have hP : va_P g.1 vwCl (List.flatten [bTape g ta ab sz ln 3 x_1 x_79 ft fb]) H := hP
                    have hD : va_D A (List.flatten [bTape g ta ab sz ln 3 x_1 x_79 ft fb]) := hD
                    have hP : va_P g.1 vwCl (List.flatten [bTape g ta ab sz ln 3 x_1 x_79 ft fb]) H := hP
                    have hD : va_D A (List.flatten [bTape g ta ab sz ln 3 x_1 x_79 ft fb]) := hD
                    exact mret_v hx hb hr hlocks hS (Nat.le_of_ble_eq_true rfl) (Nat.le_of_ble_eq_true rfl) dX6_step_226 ((3 : Int32), x_1, x_79) rfl (show (0 ≤ x_79.toInt ∧ x_79.toInt ≤ 400) ∧ (0 ≤ x_1.toInt ∧ x_1.toInt ≤ 400) ∧ (zKd (3 : Int32).toInt x_1.toInt x_79.toInt) from ⟨(by first | assumption | omega | decide | exact rfl | exact zb01 (by omega) | exact Or.inl (by decide) | exact Or.inr (by first | omega | decide)), i2, (by first | assumption | omega | decide | exact rfl | exact zb01 (by omega) | exact Or.inl (by decide) | exact Or.inr (by first | omega | decide))⟩) hP hD
                  · skip
                    exact absurd (show x_78.toInt ≤ 57 from zle (Int32.not_lt.mp cb9) rfl (by decide)) (zDle (a := 123) (b := 57) n113 (Int.le_refl _) (by decide))
              · skip
                have c118 : x_78.toInt ≤ 122 := zle (Int32.not_lt.mp cb9) rfl (by decide)
                have n119 : x_78.toInt ≤ 122 := Int.le_trans c118 (Int.le_refl _)
                refine lv_aload_n hx hb dX6_step_95 rfl (lv_at hl 1 rfl) ?_
                refine lv_iconst (v := 1) hx hb dX6_step_96 (by decide) ?_
                refine va_put (D := g.1) (ci := 6) (v := .int 1) (ty := .int) (C := RX6) (T := TX6) (N := 7) hx hb hts izRX6 tyX6 tyX6_ok nmX6 hown hK hP hD hS 0 rfl rfl 3 (by decide) (hts _ k258) (fun _ h9 => h9) rfl (by decide +kernel) rfl rfl (Nat.le_of_ble_eq_true rfl) dX6_step_97 (fun H locs hP hD hS => ?_)
                have hP : va_P g.1 vwCl (List.flatten [bTape g ta ab sz ln 1 x_1 x_79 ft fb]) H := hP
                have hD : va_D A (List.flatten [bTape g ta ab sz ln 1 x_1 x_79 ft fb]) := hD
                have hl := lv_sub (l' := [(0, .ref ta), (1, .int x_78)]) hl [1, 0] rfl
                have LP100_123 : ∀ (kf : Nat) (x_120 : Int32), (1 ≤ x_120.toInt ∧ x_120.toInt ≤ 400) → (x_1.toInt < x_120.toInt) → ∀ (H : Heap) (locs : List Loc) (ls : Array Slot), ((ln.toInt - x_120.toInt).toNat) < kf → va_P g.1 vwCl (List.flatten [bTape g ta ab sz ln 1 x_1 x_120 ft fb]) H → va_D A (List.flatten [bTape g ta ab sz ln 1 x_1 x_120 ft fb]) → va_S A s.heap H locs → lv_has ls 2 [(0, .ref ta), (1, .int x_78)] → W p l e ({ frames := 0, cells := 0, slots := 0, locals := 0 } : Room) s m args below meth c H locs (0) (0) (zF g (fun u : Int32 × Int32 × Int32 => (fun (kd2 : Int32) (bg2 : Int32) (nx2 : Int32) => none) (u.1) (u.2.1) (u.2.2)) (fun u : Int32 × Int32 × Int32 => (fun (kd2 : Int32) (bg2 : Int32) (nx2 : Int32) => (0 ≤ nx2.toInt ∧ nx2.toInt ≤ 400) ∧ (0 ≤ bg2.toInt ∧ bg2.toInt ≤ 400) ∧ (zKd kd2.toInt bg2.toInt nx2.toInt)) (u.1) (u.2.1) (u.2.2)) (fun u : Int32 × Int32 × Int32 => (fun (kd2 : Int32) (bg2 : Int32) (nx2 : Int32) => [bTape g ta ab sz ln kd2 bg2 nx2 ft fb]) (u.1) (u.2.1) (u.2.2)) ({ frames := 0, cells := 0, slots := 0, locals := 0 } : Room) below args s A) (F0 m 100 ls []) := by
                  intro kf
                  induction kf with
                  | zero => intro x_120 i121 i122 H locs ls hk; exact absurd hk (Nat.not_lt_zero _)
                  | succ kf ih100_124 =>
                    intro x_120 i121 i122 H locs ls hk100_124 hP hD hS hl
                    refine lv_aload_n hx hb dX6_step_100 rfl (lv_at hl 0 rfl) ?_
                    refine va_get (D := g.1) (ci := 6) (v := .int x_120) (C := RX6) (T := TX6) (N := 7) hx hb hts izRX6 hown hK hP 0 rfl rfl 5 (by decide) (hts _ k259) (fun _ h9 => h9) rfl dX6_step_101 ?_
                    refine lv_aload_n hx hb dX6_step_104 rfl (lv_at hl 0 rfl) ?_
                    refine va_get (D := g.1) (ci := 6) (v := .int ln) (C := RX6) (T := TX6) (N := 7) hx hb hts izRX6 hown hK hP 0 rfl rfl 2 (by decide) (hts _ k272) (fun _ h9 => h9) rfl dX6_step_105 ?_
                    refine lv_icmp_ge (tgt := 226) hx hb dX6_step_108 (by decide) (fun cb9 => ?_) (fun cb9 => ?_)
                    · skip
                      have c125 : ln.toInt ≤ x_120.toInt := zle cb9 rfl rfl
                      have hP : va_P g.1 vwCl (List.flatten [bTape g ta ab sz ln 1 x_1 x_120 ft fb]) H := hP
                      have hD : va_D A (List.flatten [bTape g ta ab sz ln 1 x_1 x_120 ft fb]) := hD
                      exact mret_v hx hb hr hlocks hS (Nat.le_of_ble_eq_true rfl) (Nat.le_of_ble_eq_true rfl) dX6_step_226 ((1 : Int32), x_1, x_120) rfl (show (0 ≤ x_120.toInt ∧ x_120.toInt ≤ 400) ∧ (0 ≤ x_1.toInt ∧ x_1.toInt ≤ 400) ∧ (zKd (1 : Int32).toInt x_1.toInt x_120.toInt) from ⟨(by first | assumption | omega | decide | exact rfl | exact zb01 (by omega) | exact Or.inl (by decide) | exact Or.inr (by first | omega | decide)), i2, (by first | assumption | omega | decide | exact rfl | exact zb01 (by omega) | exact Or.inl (by decide) | exact Or.inr (by first | omega | decide))⟩) hP hD
                    · skip
                      have c126 : x_120.toInt < ln.toInt := zlti (Int32.not_le.mp cb9) rfl rfl
                      have n127 : x_120.toInt ≤ 399 := zL1 (b := 400) c126 hln.2 (by decide)
                      have n128 : 2 ≤ ln.toInt := zL2 (a := 1) c126 i121.1 (by decide)
                      refine lv_aload_n hx hb dX6_step_111 rfl (lv_at hl 0 rfl) ?_
                      refine va_get (D := g.1) (ci := 6) (v := .ref ab) (C := RX6) (T := TX6) (N := 7) hx hb hts izRX6 hown hK hP 0 rfl rfl 0 (by decide) (hts _ k261) (fun _ h9 => h9) rfl dX6_step_112 ?_
                      refine lv_aload_n hx hb dX6_step_115 rfl (lv_at hl 0 rfl) ?_
                      refine va_get (D := g.1) (ci := 6) (v := .int x_120) (C := RX6) (T := TX6) (N := 7) hx hb hts izRX6 hown hK hP 0 rfl rfl 5 (by decide) (hts _ k259) (fun _ h9 => h9) rfl dX6_step_116 ?_
                      refine va_iald hx hb hK hP 1 0 rfl rfl (zinK (a := 1) (b := 399) i121.1 n127 (by decide)) dX6_step_119 ?_
                      refine zg (fun x_129 => ?_)
                      refine lv_bipush (v := 97) hx hb dX6_step_120 (by decide) ?_
                      refine lv_icmp_lt (tgt := 226) hx hb dX6_step_122 (by decide) (fun cb9 => ?_) (fun cb9 => ?_)
                      · skip
                        have c130 : x_129.toInt < 97 := zlti cb9 rfl (by decide)
                        have n131 : x_129.toInt ≤ 96 := zL1 (b := 97) c130 (Int.le_refl _) (by decide)
                        have hP : va_P g.1 vwCl (List.flatten [bTape g ta ab sz ln 1 x_1 x_120 ft fb]) H := hP
                        have hD : va_D A (List.flatten [bTape g ta ab sz ln 1 x_1 x_120 ft fb]) := hD
                        exact mret_v hx hb hr hlocks hS (Nat.le_of_ble_eq_true rfl) (Nat.le_of_ble_eq_true rfl) dX6_step_226 ((1 : Int32), x_1, x_120) rfl (show (0 ≤ x_120.toInt ∧ x_120.toInt ≤ 400) ∧ (0 ≤ x_1.toInt ∧ x_1.toInt ≤ 400) ∧ (zKd (1 : Int32).toInt x_1.toInt x_120.toInt) from ⟨(by first | assumption | omega | decide | exact rfl | exact zb01 (by omega) | exact Or.inl (by decide) | exact Or.inr (by first | omega | decide)), i2, (by first | assumption | omega | decide | exact rfl | exact zb01 (by omega) | exact Or.inl (by decide) | exact Or.inr (by first | omega | decide))⟩) hP hD
                      · skip
                        have c132 : 97 ≤ x_129.toInt := zle (Int32.not_lt.mp cb9) (by decide) rfl
                        have n133 : 97 ≤ x_129.toInt := Int.le_trans (Int.le_refl _) c132
                        refine lv_aload_n hx hb dX6_step_125 rfl (lv_at hl 0 rfl) ?_
                        refine va_get (D := g.1) (ci := 6) (v := .ref ab) (C := RX6) (T := TX6) (N := 7) hx hb hts izRX6 hown hK hP 0 rfl rfl 0 (by decide) (hts _ k261) (fun _ h9 => h9) rfl dX6_step_126 ?_
                        refine lv_aload_n hx hb dX6_step_129 rfl (lv_at hl 0 rfl) ?_
                        refine va_get (D := g.1) (ci := 6) (v := .int x_120) (C := RX6) (T := TX6) (N := 7) hx hb hts izRX6 hown hK hP 0 rfl rfl 5 (by decide) (hts _ k259) (fun _ h9 => h9) rfl dX6_step_130 ?_
                        refine va_iald hx hb hK hP 1 0 rfl rfl (zinK (a := 1) (b := 399) i121.1 n127 (by decide)) dX6_step_133 ?_
                        refine zg (fun x_134 => ?_)
                        refine lv_bipush (v := 122) hx hb dX6_step_134 (by decide) ?_
                        refine lv_icmp_gt (tgt := 226) hx hb dX6_step_136 (by decide) (fun cb9 => ?_) (fun cb9 => ?_)
                        · skip
                          have c135 : 122 < x_134.toInt := zlti cb9 (by decide) rfl
                          have n136 : 123 ≤ x_134.toInt := zL2 (a := 122) c135 (Int.le_refl _) (by decide)
                          have hP : va_P g.1 vwCl (List.flatten [bTape g ta ab sz ln 1 x_1 x_120 ft fb]) H := hP
                          have hD : va_D A (List.flatten [bTape g ta ab sz ln 1 x_1 x_120 ft fb]) := hD
                          exact mret_v hx hb hr hlocks hS (Nat.le_of_ble_eq_true rfl) (Nat.le_of_ble_eq_true rfl) dX6_step_226 ((1 : Int32), x_1, x_120) rfl (show (0 ≤ x_120.toInt ∧ x_120.toInt ≤ 400) ∧ (0 ≤ x_1.toInt ∧ x_1.toInt ≤ 400) ∧ (zKd (1 : Int32).toInt x_1.toInt x_120.toInt) from ⟨(by first | assumption | omega | decide | exact rfl | exact zb01 (by omega) | exact Or.inl (by decide) | exact Or.inr (by first | omega | decide)), i2, (by first | assumption | omega | decide | exact rfl | exact zb01 (by omega) | exact Or.inl (by decide) | exact Or.inr (by first | omega | decide))⟩) hP hD
                        · skip
                          have c137 : x_134.toInt ≤ 122 := zle (Int32.not_lt.mp cb9) rfl (by decide)
                          have n138 : x_134.toInt ≤ 122 := Int.le_trans c137 (Int.le_refl _)
                          refine lv_aload_n hx hb dX6_step_139 rfl (lv_at hl 0 rfl) ?_
                          refine lv_dup hx hb dX6_step_140 rfl ?_
                          refine va_get (D := g.1) (ci := 6) (v := .int x_120) (C := RX6) (T := TX6) (N := 7) hx hb hts izRX6 hown hK hP 0 rfl rfl 5 (by decide) (hts _ k259) (fun _ h9 => h9) rfl dX6_step_141 ?_
                          refine lv_iconst (v := 1) hx hb dX6_step_144 (by decide) ?_
                          refine lv_iadd hx hb dX6_step_145 ?_
                          refine zg3 (zaddK (i := x_120.toInt) (j := 1) (a' := 2) (b' := 400) rfl (by decide) i121.1 n127 (Int.le_refl _) (Int.le_refl _) (by decide)) (fun x_139 hx_139 => ?_)
                          refine va_put (D := g.1) (ci := 6) (v := .int x_139) (ty := .int) (C := RX6) (T := TX6) (N := 7) hx hb hts izRX6 tyX6 tyX6_ok nmX6 hown hK hP hD hS 0 rfl rfl 5 (by decide) (hts _ k259) (fun _ h9 => h9) rfl (by decide +kernel) rfl rfl (Nat.le_of_ble_eq_true rfl) dX6_step_146 (fun H locs hP hD hS => ?_)
                          have hP : va_P g.1 vwCl (List.flatten [bTape g ta ab sz ln 1 x_1 x_139 ft fb]) H := hP
                          have hD : va_D A (List.flatten [bTape g ta ab sz ln 1 x_1 x_139 ft fb]) := hD
                          refine lv_goto (tgt := 100) hx hb dX6_step_149 (by decide) ?_
                          have hP : va_P g.1 vwCl (List.flatten [bTape g ta ab sz ln 1 x_1 x_139 ft fb]) H := hP
                          have hD : va_D A (List.flatten [bTape g ta ab sz ln 1 x_1 x_139 ft fb]) := hD
                          exact ih100_124 x_139 ⟨(Int.le_trans (by decide) hx_139.2.1), hx_139.2.2⟩ (by first | omega | assumption | decide) H _ ls (by omega)  hP hD hS (lv_sub hl [0, 1] rfl)
                have hP : va_P g.1 vwCl (List.flatten [bTape g ta ab sz ln 1 x_1 x_79 ft fb]) H := hP
                have hD : va_D A (List.flatten [bTape g ta ab sz ln 1 x_1 x_79 ft fb]) := hD
                exact LP100_123 _ x_79 ⟨hx_79.2.1, hx_79.2.2⟩ (by first | omega | assumption | decide) H _ ls (Nat.lt_succ_self _)  hP hD hS (lv_sub hl [0, 1] rfl)
          · skip
            have c140 : ln.toInt ≤ x_1.toInt := zle (Int32.not_lt.mp cb9) rfl rfl
            have n141 : 1 ≤ x_1.toInt := Int.le_trans n74 c140
            have n142 : ln.toInt ≤ 399 := Int.le_trans c140 n73
            refine lv_aload_n hx hb dX6_step_57 rfl (lv_at hl 0 rfl) ?_
            refine lv_iconst (v := 0) hx hb dX6_step_58 (by decide) ?_
            refine va_put (D := g.1) (ci := 6) (v := .int 0) (ty := .int) (C := RX6) (T := TX6) (N := 7) hx hb hts izRX6 tyX6 tyX6_ok nmX6 hown hK hP hD hS 0 rfl rfl 3 (by decide) (hts _ k258) (fun _ h9 => h9) rfl (by decide +kernel) rfl rfl (Nat.le_of_ble_eq_true rfl) dX6_step_59 (fun H locs hP hD hS => ?_)
            have hP : va_P g.1 vwCl (List.flatten [bTape g ta ab sz ln 0 x_1 x_1 ft fb]) H := hP
            have hD : va_D A (List.flatten [bTape g ta ab sz ln 0 x_1 x_1 ft fb]) := hD
            have hP : va_P g.1 vwCl (List.flatten [bTape g ta ab sz ln 0 x_1 x_1 ft fb]) H := hP
            have hD : va_D A (List.flatten [bTape g ta ab sz ln 0 x_1 x_1 ft fb]) := hD
            exact mret_v hx hb hr hlocks hS (Nat.le_of_ble_eq_true rfl) (Nat.le_of_ble_eq_true rfl) dX6_step_62 ((0 : Int32), x_1, x_1) rfl (show (0 ≤ x_1.toInt ∧ x_1.toInt ≤ 400) ∧ (0 ≤ x_1.toInt ∧ x_1.toInt ≤ 400) ∧ (zKd (0 : Int32).toInt x_1.toInt x_1.toInt) from ⟨i2, i2, (by first | assumption | omega | decide | exact rfl | exact zb01 (by omega) | exact Or.inl (by decide) | exact Or.inr (by first | omega | decide))⟩) hP hD
        · skip
          have c143 : x_75.toInt = 32 := zeq cb9 rfl (by decide)
          have n144 : 32 ≤ x_75.toInt := Int.le_trans (Int.le_refl _) (Int.le_of_eq c143.symm)
          have n145 : x_75.toInt ≤ 32 := Int.le_trans (Int.le_of_eq c143) (Int.le_refl _)
          refine lv_aload_n hx hb dX6_step_25 rfl (lv_at hl 0 rfl) ?_
          refine lv_dup hx hb dX6_step_26 rfl ?_
          refine va_get (D := g.1) (ci := 6) (v := .int x_1) (C := RX6) (T := TX6) (N := 7) hx hb hts izRX6 hown hK hP 0 rfl rfl 5 (by decide) (hts _ k259) (fun _ h9 => h9) rfl dX6_step_27 ?_
          refine lv_iconst (v := 1) hx hb dX6_step_30 (by decide) ?_
          refine lv_iadd hx hb dX6_step_31 ?_
          refine zg3 (zaddK (i := x_1.toInt) (j := 1) (a' := 1) (b' := 400) rfl (by decide) i2.1 n73 (Int.le_refl _) (Int.le_refl _) (by decide)) (fun x_146 hx_146 => ?_)
          refine va_put (D := g.1) (ci := 6) (v := .int x_146) (ty := .int) (C := RX6) (T := TX6) (N := 7) hx hb hts izRX6 tyX6 tyX6_ok nmX6 hown hK hP hD hS 0 rfl rfl 5 (by decide) (hts _ k259) (fun _ h9 => h9) rfl (by decide +kernel) rfl rfl (Nat.le_of_ble_eq_true rfl) dX6_step_32 (fun H locs hP hD hS => ?_)
          have hP : va_P g.1 vwCl (List.flatten [bTape g ta ab sz ln kd bg x_146 ft fb]) H := hP
          have hD : va_D A (List.flatten [bTape g ta ab sz ln kd bg x_146 ft fb]) := hD
          refine lv_goto (tgt := 0) hx hb dX6_step_35 (by decide) ?_
          have hP : va_P g.1 vwCl (List.flatten [bTape g ta ab sz ln kd bg x_146 ft fb]) H := hP
          have hD : va_D A (List.flatten [bTape g ta ab sz ln kd bg x_146 ft fb]) := hD
          exact ih0_4 x_146 ⟨(Int.le_trans (by decide) hx_146.2.1), hx_146.2.2⟩ H _ ls (by omega)  hP hD hS (lv_sub hl [0] rfl)
  have hP : va_P g.1 vwCl (List.flatten [bTape g ta ab sz ln kd bg nx ft fb]) s.heap := hP
  have hD : va_D A (List.flatten [bTape g ta ab sz ln kd bg nx ft fb]) := hD
  exact LP0_3 _ nx ⟨hnx.1, hnx.2⟩ s.heap _ ls (Nat.lt_succ_self _)  hP hD hS (lv_sub hl [0] rfl)
set_option maxRecDepth 100000 in
set_option maxHeartbeats 4000000 in
theorem c_t_open (l : Launch) (g : zG) (ta : Nat) (ab : Nat) (sz : Int32) (ln : Int32) (kd : Int32) (bg : Int32) (nx : Int32) (ft : Int32) (fb : Nat → Int32) (n : Int32) (b_n : 0 ≤ n.toInt ∧ n.toInt ≤ 400) : zM' g l yX6_open (Cond.code yX6_open cX6_open 2 none :: zB) ({ frames := 1, cells := 0, slots := 0, locals := 21 } : Room) [.ref ta, .int n] [bTape g ta ab sz ln kd bg nx ft fb] (fun u : Int32 × Int32 × Int32 × Int32 => (fun (kd2 : Int32) (bg2 : Int32) (nx2 : Int32) (ln2 : Int32) => none) (u.1) (u.2.1) (u.2.2.1) (u.2.2.2)) (fun u : Int32 × Int32 × Int32 × Int32 => (fun (kd2 : Int32) (bg2 : Int32) (nx2 : Int32) (ln2 : Int32) => (0 ≤ nx2.toInt ∧ nx2.toInt ≤ 400) ∧ (0 ≤ bg2.toInt ∧ bg2.toInt ≤ 400) ∧ (zKd kd2.toInt bg2.toInt nx2.toInt) ∧ (0 ≤ ln2.toInt ∧ ln2.toInt ≤ 400)) (u.1) (u.2.1) (u.2.2.1) (u.2.2.2)) (fun u : Int32 × Int32 × Int32 × Int32 => (fun (kd2 : Int32) (bg2 : Int32) (nx2 : Int32) (ln2 : Int32) => [bTape g ta ab sz ln2 kd2 bg2 nx2 (-1) fb]) (u.1) (u.2.1) (u.2.2.1) (u.2.2.2)) := by
  refine zM'.of (cc := cX6_open) (maxL := 2) (rt := none) (by decide) rfl (Nat.le_of_ble_eq_true rfl) ?_
  intro p e s m args below meth c A ls St hr hlocks hin hK hT hA hP hD hS hl
  obtain ⟨hx, hb, hml, hown, hts⟩ := id St
  have hl : lv_has ls 2 [(0, .ref ta), (1, .int n)] := hl
  refine lv_aload_n hx hb dX6_open_0 rfl (lv_at hl 0 rfl) ?_
  refine lv_iload_n hx hb dX6_open_1 rfl (lv_at hl 1 rfl) ?_
  refine lv_sipush (v := 400) hx hb dX6_open_2 (by decide) ?_
  refine va_mmin hx hb (by rw [hml]; exact hl.1.symm) hown (hts _ k429) (hts _ k41) (hts _ k42) (hts _ k43) (Nat.le_of_ble_eq_true rfl) (Nat.le_of_ble_eq_true rfl) (Nat.le_of_ble_eq_true rfl) (Nat.le_of_ble_eq_true rfl) dX6_open_5 ?_
  refine zgmn (i := n.toInt) (j := 400) rfl (by decide) (fun x_1 hx_1 => ?_)
  refine va_put (D := g.1) (ci := 6) (v := .int x_1) (ty := .int) (C := RX6) (T := TX6) (N := 7) hx hb hts izRX6 tyX6 tyX6_ok nmX6 hown hK hP hD hS 0 rfl rfl 2 (by decide) (hts _ k272) (fun _ h9 => h9) rfl (by decide +kernel) rfl rfl (Nat.le_of_ble_eq_true rfl) dX6_open_8 (fun H locs hP hD hS => ?_)
  have hP : va_P g.1 vwCl (List.flatten [bTape g ta ab sz x_1 kd bg nx ft fb]) H := hP
  have hD : va_D A (List.flatten [bTape g ta ab sz x_1 kd bg nx ft fb]) := hD
  refine lv_aload_n hx hb dX6_open_11 rfl (lv_at hl 0 rfl) ?_
  refine lv_iconst (v := 0) hx hb dX6_open_12 (by decide) ?_
  refine va_put (D := g.1) (ci := 6) (v := .int 0) (ty := .int) (C := RX6) (T := TX6) (N := 7) hx hb hts izRX6 tyX6 tyX6_ok nmX6 hown hK hP hD hS 0 rfl rfl 5 (by decide) (hts _ k259) (fun _ h9 => h9) rfl (by decide +kernel) rfl rfl (Nat.le_of_ble_eq_true rfl) dX6_open_13 (fun H locs hP hD hS => ?_)
  have hP : va_P g.1 vwCl (List.flatten [bTape g ta ab sz x_1 kd bg 0 ft fb]) H := hP
  have hD : va_D A (List.flatten [bTape g ta ab sz x_1 kd bg 0 ft fb]) := hD
  refine lv_aload_n hx hb dX6_open_16 rfl (lv_at hl 0 rfl) ?_
  refine lv_iconst (v := (-1)) hx hb dX6_open_17 (by decide) ?_
  refine va_put (D := g.1) (ci := 6) (v := .int (-1)) (ty := .int) (C := RX6) (T := TX6) (N := 7) hx hb hts izRX6 tyX6 tyX6_ok nmX6 hown hK hP hD hS 0 rfl rfl 6 (by decide) (hts _ k270) (fun _ h9 => h9) rfl (by decide +kernel) rfl rfl (Nat.le_of_ble_eq_true rfl) dX6_open_18 (fun H locs hP hD hS => ?_)
  have hP : va_P g.1 vwCl (List.flatten [bTape g ta ab sz x_1 kd bg 0 (-1) fb]) H := hP
  have hD : va_D A (List.flatten [bTape g ta ab sz x_1 kd bg 0 (-1) fb]) := hD
  refine lv_aload_n hx hb dX6_open_21 rfl (lv_at hl 0 rfl) ?_
  have hL0 : (0 : Int32).toInt = 0 := by decide
  refine mcallV' (g := g) (q0 := 0) (ci := 6) (As := []) (rest := []) St hK hT hA hP hD hS hl.1 [0] [] rfl rfl rfl (c_t_step l g ta ab sz x_1 kd bg 0 (-1) fb (by first | assumption | omega | decide | exact Or.inl (by decide) | exact Or.inr (by decide)) (by decide)) (cwV 0 hts (zgL (zl4 k274 k275 k276 k277) k271) rfl rfl rfl (by decide +kernel) ⟨Nat.le_of_ble_eq_true rfl, Nat.le_of_ble_eq_true rfl⟩) rfl rfl rfl rfl (Nat.le_of_ble_eq_true rfl) dX6_open_22 ⟨(Nat.le_of_ble_eq_true rfl), (Nat.le_of_ble_eq_true rfl)⟩ (fun u_ H locs hq5 hP hD hS => ?_)
  obtain ⟨kd2_2, bg2_3, nx2_4⟩ := u_
  replace hq5 : (0 ≤ nx2_4.toInt ∧ nx2_4.toInt ≤ 400) ∧ (0 ≤ bg2_3.toInt ∧ bg2_3.toInt ≤ 400) ∧ (zKd kd2_2.toInt bg2_3.toInt nx2_4.toInt) := hq5
  have hP : va_P g.1 vwCl (List.flatten [bTape g ta ab sz x_1 kd2_2 bg2_3 nx2_4 (-1) fb]) H := hP
  have hD : va_D A (List.flatten [bTape g ta ab sz x_1 kd2_2 bg2_3 nx2_4 (-1) fb]) := hD
  refine W.widen (k := 0) (n := 0) (Nat.le_of_ble_eq_true rfl) (Nat.le_of_ble_eq_true rfl) ?_
  refine W.eq (g2 := F0 m 25 ls []) rfl ?_
  obtain ⟨hq5_0, hq5_1, hq5_2⟩ := hq5
  have hP : va_P g.1 vwCl (List.flatten [bTape g ta ab sz x_1 kd2_2 bg2_3 nx2_4 (-1) fb]) H := hP
  have hD : va_D A (List.flatten [bTape g ta ab sz x_1 kd2_2 bg2_3 nx2_4 (-1) fb]) := hD
  exact mret_v hx hb hr hlocks hS (Nat.le_of_ble_eq_true rfl) (Nat.le_of_ble_eq_true rfl) dX6_open_25 (kd2_2, bg2_3, nx2_4, x_1) rfl (show (0 ≤ nx2_4.toInt ∧ nx2_4.toInt ≤ 400) ∧ (0 ≤ bg2_3.toInt ∧ bg2_3.toInt ≤ 400) ∧ (zKd kd2_2.toInt bg2_3.toInt nx2_4.toInt) ∧ (0 ≤ x_1.toInt ∧ x_1.toInt ≤ 400) from ⟨hq5_0, hq5_1, hq5_2, (by first | assumption | omega | decide | exact rfl | exact zb01 (by omega) | exact Or.inl (by decide) | exact Or.inr (by first | omega | decide))⟩) hP hD
set_option maxRecDepth 100000 in
set_option maxHeartbeats 4000000 in
theorem c_t_refuse (l : Launch) (g : zG) (ta : Nat) (ab : Nat) (sz : Int32) (ln : Int32) (kd : Int32) (bg : Int32) (nx : Int32) (ft : Int32) (fb : Nat → Int32) (hln : 0 ≤ ln.toInt ∧ ln.toInt ≤ 400) (hnx : 0 ≤ nx.toInt ∧ nx.toInt ≤ 400) (hbg : 0 ≤ bg.toInt ∧ bg.toInt ≤ 400) (hkd : zKd kd.toInt bg.toInt nx.toInt) (hft : -1 ≤ ft.toInt) : zM' g l yX6_refuse (Cond.code yX6_refuse cX6_refuse 1 (some .boolean) :: zB) ({ frames := 0, cells := 0, slots := 0, locals := 0 } : Room) [.ref ta] [bTape g ta ab sz ln kd bg nx ft fb] (fun (ft2 : Int32) => some (.int 0)) (fun (ft2 : Int32) => (-1 ≤ ft2.toInt)) (fun (ft2 : Int32) => [bTape g ta ab sz ln kd bg nx ft2 fb]) := by
  refine zM'.of (cc := cX6_refuse) (maxL := 1) (rt := (some .boolean)) (by decide) rfl (Nat.le_of_ble_eq_true rfl) ?_
  intro p e s m args below meth c A ls St hr hlocks hin hK hT hA hP hD hS hl
  obtain ⟨hx, hb, hml, hown, hts⟩ := id St
  have hl : lv_has ls 1 [(0, .ref ta)] := hl
  refine lv_aload_n hx hb dX6_refuse_0 rfl (lv_at hl 0 rfl) ?_
  refine va_get (D := g.1) (ci := 6) (v := .int ft) (C := RX6) (T := TX6) (N := 7) hx hb hts izRX6 hown hK hP 0 rfl rfl 6 (by decide) (hts _ k270) (fun _ h9 => h9) rfl dX6_refuse_1 ?_
  refine lv_iconst (v := (-1)) hx hb dX6_refuse_4 (by decide) ?_
  refine lv_icmp_ne (tgt := 16) hx hb dX6_refuse_5 (by decide) (fun cb9 => ?_) (fun cb9 => ?_)
  · skip
    have c1 : ¬ ft.toInt = (-1) := zne cb9 rfl (by decide)
    refine lv_iconst (v := 0) hx hb dX6_refuse_16 (by decide) ?_
    have hP : va_P g.1 vwCl (List.flatten [bTape g ta ab sz ln kd bg nx ft fb]) s.heap := hP
    have hD : va_D A (List.flatten [bTape g ta ab sz ln kd bg nx ft fb]) := hD
    exact mret_z hx hb hr hlocks hS (Nat.le_of_ble_eq_true rfl) (Nat.le_of_ble_eq_true rfl) dX6_refuse_17 (ft) rfl (by decide) (show (-1 ≤ ft.toInt) from hft) hP hD
  · skip
    have c2 : ft.toInt = (-1) := zeq cb9 rfl (by decide)
    have n3 : ft.toInt ≤ (-1) := Int.le_trans (Int.le_of_eq c2) (Int.le_refl _)
    refine lv_aload_n hx hb dX6_refuse_8 rfl (lv_at hl 0 rfl) ?_
    refine lv_aload_n hx hb dX6_refuse_9 rfl (lv_at hl 0 rfl) ?_
    refine va_get (D := g.1) (ci := 6) (v := .int bg) (C := RX6) (T := TX6) (N := 7) hx hb hts izRX6 hown hK hP 0 rfl rfl 4 (by decide) (hts _ k260) (fun _ h9 => h9) rfl dX6_refuse_10 ?_
    refine va_put (D := g.1) (ci := 6) (v := .int bg) (ty := .int) (C := RX6) (T := TX6) (N := 7) hx hb hts izRX6 tyX6 tyX6_ok nmX6 hown hK hP hD hS 0 rfl rfl 6 (by decide) (hts _ k270) (fun _ h9 => h9) rfl (by decide +kernel) rfl rfl (Nat.le_of_ble_eq_true rfl) dX6_refuse_13 (fun H locs hP hD hS => ?_)
    have hP : va_P g.1 vwCl (List.flatten [bTape g ta ab sz ln kd bg nx bg fb]) H := hP
    have hD : va_D A (List.flatten [bTape g ta ab sz ln kd bg nx bg fb]) := hD
    refine lv_iconst (v := 0) hx hb dX6_refuse_16 (by decide) ?_
    have hP : va_P g.1 vwCl (List.flatten [bTape g ta ab sz ln kd bg nx bg fb]) H := hP
    have hD : va_D A (List.flatten [bTape g ta ab sz ln kd bg nx bg fb]) := hD
    exact mret_z hx hb hr hlocks hS (Nat.le_of_ble_eq_true rfl) (Nat.le_of_ble_eq_true rfl) dX6_refuse_17 (bg) rfl (by decide) (show (-1 ≤ bg.toInt) from (by first | assumption | omega | decide | exact rfl | exact zb01 (by omega) | exact Or.inl (by decide) | exact Or.inr (by first | omega | decide))) hP hD
set_option maxRecDepth 100000 in
set_option maxHeartbeats 4000000 in
theorem c_t_isWord (l : Launch) (g : zG) (ta : Nat) (ab : Nat) (sz : Int32) (ln : Int32) (kd : Int32) (bg : Int32) (nx : Int32) (ft : Int32) (fb : Nat → Int32) (k : Nat) (j : Nat) (q : String × Nat × String × List Int32) (hln : 0 ≤ ln.toInt ∧ ln.toInt ≤ 400) (hnx : 0 ≤ nx.toInt ∧ nx.toInt ≤ 400) (hbg : 0 ≤ bg.toInt ∧ bg.toInt ≤ 400) (hkd : zKd kd.toInt bg.toInt nx.toInt) (hft : -1 ≤ ft.toInt) (hk9 : k = g.2 (10 + 2 * j)) (hj9 : zLit[j]? = some q) (hql : 1 ≤ q.2.2.2.length ∧ q.2.2.2.length ≤ 7) : zM' g l yX6_isWord (Cond.code yX6_isWord cX6_isWord 3 (some .boolean) :: zB) ({ frames := 4, cells := 0, slots := 0, locals := 85 } : Room) [.ref ta, .ref k] [bTape g ta ab sz ln kd bg nx ft fb] (fun (r : Int32) => some (.int r)) (fun (r : Int32) => (r = 0 ∨ r = 1)) (fun (r : Int32) => [bTape g ta ab sz ln kd bg nx ft fb]) := by
  refine zM'.of (cc := cX6_isWord) (maxL := 3) (rt := (some .boolean)) (by decide) rfl (Nat.le_of_ble_eq_true rfl) ?_
  intro p e s m args below meth c A ls St hr hlocks hin hK hT hA hP hD hS hl
  obtain ⟨hx, hb, hml, hown, hts⟩ := id St
  have hl : lv_has ls 3 [(0, .ref ta), (1, .ref k)] := hl
  obtain ⟨-, hSt⟩ := hT.2.1.2.2 j q hj9
  have hkd9 : kd.toInt = 0 ∨ bg.toInt < nx.toInt := hkd
  refine lv_aload_n hx hb dX6_isWord_0 rfl (lv_at hl 0 rfl) ?_
  refine va_get (D := g.1) (ci := 6) (v := .int kd) (C := RX6) (T := TX6) (N := 7) hx hb hts izRX6 hown hK hP 0 rfl rfl 3 (by decide) (hts _ k258) (fun _ h9 => h9) rfl dX6_isWord_1 ?_
  refine lv_iconst (v := 1) hx hb dX6_isWord_4 (by decide) ?_
  refine lv_icmp_ne (tgt := 24) hx hb dX6_isWord_5 (by decide) (fun cb9 => ?_) (fun cb9 => ?_)
  · skip
    have c1 : ¬ kd.toInt = 1 := zne cb9 rfl (by decide)
    refine lv_iconst (v := 0) hx hb dX6_isWord_24 (by decide) ?_
    have hP : va_P g.1 vwCl (List.flatten [bTape g ta ab sz ln kd bg nx ft fb]) s.heap := hP
    have hD : va_D A (List.flatten [bTape g ta ab sz ln kd bg nx ft fb]) := hD
    exact mret_z hx hb hr hlocks hS (Nat.le_of_ble_eq_true rfl) (Nat.le_of_ble_eq_true rfl) dX6_isWord_25 ((0 : Int32)) rfl (by decide) (show (0 = 0 ∨ 0 = 1) from (by decide)) hP hD
  · skip
    have c2 : kd.toInt = 1 := zeq cb9 rfl (by decide)
    have n3 : 1 ≤ kd.toInt := Int.le_trans (Int.le_refl _) (Int.le_of_eq c2.symm)
    have n4 : kd.toInt ≤ 1 := Int.le_trans (Int.le_of_eq c2) (Int.le_refl _)
    refine lv_aload_n hx hb dX6_isWord_8 rfl (lv_at hl 1 rfl) ?_
    refine mcallL' (g := g) (As := []) (rest := []) St hK hT hA hP hD hS hl.1 [] [0] rfl rfl rfl (s_length l g k j q hk9 hj9 hql) (cwV 0 hts (zgL (zl4 k262 k263 k264 k223) k218) rfl rfl rfl (by decide +kernel) ⟨Nat.le_of_ble_eq_true rfl, Nat.le_of_ble_eq_true rfl⟩) (by rw [hk9]; exact zSt_recv hSt hS) rfl rfl (Nat.le_of_ble_eq_true rfl) dX6_isWord_9 ⟨(Nat.le_of_ble_eq_true rfl), (Nat.le_of_ble_eq_true rfl)⟩ (fun r_5 H locs hq6 hP hD hS => ?_)
    replace hq6 : (r_5.toInt = (q.2.2.2.length : Int)) := hq6
    have hP : va_P g.1 vwCl (List.flatten [bTape g ta ab sz ln kd bg nx ft fb]) H := hP
    have hD : va_D A (List.flatten [bTape g ta ab sz ln kd bg nx ft fb]) := hD
    refine W.widen (k := 0) (n := 0) (Nat.le_of_ble_eq_true rfl) (Nat.le_of_ble_eq_true rfl) ?_
    refine W.eq (g2 := F0 m 12 ls [.int r_5]) rfl ?_
    refine lv_aload_n hx hb dX6_isWord_12 rfl (lv_at hl 0 rfl) ?_
    refine va_get (D := g.1) (ci := 6) (v := .int nx) (C := RX6) (T := TX6) (N := 7) hx hb hts izRX6 hown hK hP 0 rfl rfl 5 (by decide) (hts _ k259) (fun _ h9 => h9) rfl dX6_isWord_13 ?_
    refine lv_aload_n hx hb dX6_isWord_16 rfl (lv_at hl 0 rfl) ?_
    refine va_get (D := g.1) (ci := 6) (v := .int bg) (C := RX6) (T := TX6) (N := 7) hx hb hts izRX6 hown hK hP 0 rfl rfl 4 (by decide) (hts _ k260) (fun _ h9 => h9) rfl dX6_isWord_17 ?_
    refine lv_isub hx hb dX6_isWord_20 ?_
    refine zg3 (zsubK (i := nx.toInt) (j := bg.toInt) (a' := (-400)) (b' := 400) rfl rfl hnx.1 hnx.2 hbg.1 hbg.2 (by decide)) (fun x_7 hx_7 => ?_)
    refine lv_icmp_eq (tgt := 26) hx hb dX6_isWord_21 (by decide) (fun cb9 => ?_) (fun cb9 => ?_)
    · skip
      have c8 : r_5.toInt = x_7.toInt := zeq cb9 rfl rfl
      refine lv_iconst (v := 0) hx hb dX6_isWord_26 (by decide) ?_
      refine lv_istore_n (lv' := [(2, .int 0), (0, .ref ta), (1, .ref k)]) hx hb dX6_isWord_27 rfl hl (by decide) rfl (fun ls hl => ?_)
      have hl := lv_sub (l' := [(0, .ref ta), (1, .ref k), (2, .int 0)]) hl [1, 2, 0] rfl
      have LP28_11 : ∀ (kf : Nat) (x_9 : Int32), (0 ≤ x_9.toInt ∧ x_9.toInt ≤ 7) → ∀ (H : Heap) (locs : List Loc) (ls : Array Slot), ((8 - x_9.toInt).toNat) < kf → va_P g.1 vwCl (List.flatten [bTape g ta ab sz ln kd bg nx ft fb]) H → va_D A (List.flatten [bTape g ta ab sz ln kd bg nx ft fb]) → va_S A s.heap H locs → lv_has ls 3 [(0, .ref ta), (1, .ref k), (2, .int x_9)] → W p l e ({ frames := 4, cells := 0, slots := 0, locals := 85 } : Room) s m args below meth c H locs (0) (0) (zF g (fun (r : Int32) => some (.int r)) (fun (r : Int32) => (r = 0 ∨ r = 1)) (fun (r : Int32) => [bTape g ta ab sz ln kd bg nx ft fb]) ({ frames := 4, cells := 0, slots := 0, locals := 85 } : Room) below args s A) (F0 m 28 ls []) := by
        intro kf
        induction kf with
        | zero => intro x_9 i10 H locs ls hk; exact absurd hk (Nat.not_lt_zero _)
        | succ kf ih28_12 =>
          intro x_9 i10 H locs ls hk28_12 hP hD hS hl
          refine lv_iload_n hx hb dX6_isWord_28 rfl (lv_at hl 2 rfl) ?_
          refine lv_aload_n hx hb dX6_isWord_29 rfl (lv_at hl 1 rfl) ?_
          refine mcallL' (g := g) (As := []) (rest := [.int x_9]) St hK hT hA hP hD hS hl.1 [] [0] rfl rfl rfl (s_length l g k j q hk9 hj9 hql) (cwV 0 hts (zgL (zl4 k262 k263 k264 k223) k218) rfl rfl rfl (by decide +kernel) ⟨Nat.le_of_ble_eq_true rfl, Nat.le_of_ble_eq_true rfl⟩) (by rw [hk9]; exact zSt_recv hSt hS) rfl rfl (Nat.le_of_ble_eq_true rfl) dX6_isWord_30 ⟨(Nat.le_of_ble_eq_true rfl), (Nat.le_of_ble_eq_true rfl)⟩ (fun r_13 H locs hq14 hP hD hS => ?_)
          replace hq14 : (r_13.toInt = (q.2.2.2.length : Int)) := hq14
          have hP : va_P g.1 vwCl (List.flatten [bTape g ta ab sz ln kd bg nx ft fb]) H := hP
          have hD : va_D A (List.flatten [bTape g ta ab sz ln kd bg nx ft fb]) := hD
          refine W.widen (k := 0) (n := 0) (Nat.le_of_ble_eq_true rfl) (Nat.le_of_ble_eq_true rfl) ?_
          refine W.eq (g2 := F0 m 33 ls [.int r_13, .int x_9]) rfl ?_
          refine lv_icmp_ge (tgt := 63) hx hb dX6_isWord_33 (by decide) (fun cb9 => ?_) (fun cb9 => ?_)
          · skip
            have c15 : r_13.toInt ≤ x_9.toInt := zle cb9 rfl rfl
            refine lv_iconst (v := 1) hx hb dX6_isWord_63 (by decide) ?_
            have hP : va_P g.1 vwCl (List.flatten [bTape g ta ab sz ln kd bg nx ft fb]) H := hP
            have hD : va_D A (List.flatten [bTape g ta ab sz ln kd bg nx ft fb]) := hD
            exact mret_z hx hb hr hlocks hS (Nat.le_of_ble_eq_true rfl) (Nat.le_of_ble_eq_true rfl) dX6_isWord_64 ((1 : Int32)) rfl (by decide) (show (1 = 0 ∨ 1 = 1) from (by decide)) hP hD
          · skip
            have c16 : x_9.toInt < r_13.toInt := zlti (Int32.not_le.mp cb9) rfl rfl
            refine lv_aload_n hx hb dX6_isWord_36 rfl (lv_at hl 0 rfl) ?_
            refine va_get (D := g.1) (ci := 6) (v := .ref ab) (C := RX6) (T := TX6) (N := 7) hx hb hts izRX6 hown hK hP 0 rfl rfl 0 (by decide) (hts _ k261) (fun _ h9 => h9) rfl dX6_isWord_37 ?_
            refine lv_aload_n hx hb dX6_isWord_40 rfl (lv_at hl 0 rfl) ?_
            refine va_get (D := g.1) (ci := 6) (v := .int bg) (C := RX6) (T := TX6) (N := 7) hx hb hts izRX6 hown hK hP 0 rfl rfl 4 (by decide) (hts _ k260) (fun _ h9 => h9) rfl dX6_isWord_41 ?_
            refine lv_iload_n hx hb dX6_isWord_44 rfl (lv_at hl 2 rfl) ?_
            refine lv_iadd hx hb dX6_isWord_45 ?_
            refine zgv (zadd (i := bg.toInt) (j := x_9.toInt) rfl rfl (by omega)) (fun x_17 hx_17 => ?_)
            refine va_iald hx hb hK hP 1 0 rfl rfl (zinI (by omega) (by omega)) dX6_isWord_46 ?_
            refine zg (fun x_18 => ?_)
            refine lv_aload_n hx hb dX6_isWord_47 rfl (lv_at hl 1 rfl) ?_
            refine lv_iload_n hx hb dX6_isWord_48 rfl (lv_at hl 2 rfl) ?_
            refine mcallL' (g := g) (As := [.int x_9]) (rest := [.int x_18]) St hK hT hA hP hD hS hl.1 [] [0] rfl rfl rfl (s_char l g k j q x_9 hk9 hj9 hql (by first | assumption | omega | decide | exact Or.inl (by decide) | exact Or.inr (by decide))) (cwV 1 hts (zgL (zl4 k265 k266 k267 k223) k257) rfl rfl rfl (by decide +kernel) ⟨Nat.le_of_ble_eq_true rfl, Nat.le_of_ble_eq_true rfl⟩) (by rw [hk9]; exact zSt_recv hSt hS) rfl rfl (Nat.le_of_ble_eq_true rfl) dX6_isWord_49 ⟨(Nat.le_of_ble_eq_true rfl), (Nat.le_of_ble_eq_true rfl)⟩ (fun r_19 H locs hq20 hP hD hS => ?_)
            replace hq20 : (narrow .char (.int r_19) = .int r_19) := hq20
            have hP : va_P g.1 vwCl (List.flatten [bTape g ta ab sz ln kd bg nx ft fb]) H := hP
            have hD : va_D A (List.flatten [bTape g ta ab sz ln kd bg nx ft fb]) := hD
            refine W.widen (k := 0) (n := 0) (Nat.le_of_ble_eq_true rfl) (Nat.le_of_ble_eq_true rfl) ?_
            refine W.eq (g2 := F0 m 52 ls [.int r_19, .int x_18]) rfl ?_
            refine lv_icmp_eq (tgt := 57) hx hb dX6_isWord_52 (by decide) (fun cb9 => ?_) (fun cb9 => ?_)
            · skip
              have c21 : x_18.toInt = r_19.toInt := zeq cb9 rfl rfl
              refine ziinc (j := x_9.toInt + 1) (lv' := fun v9 => [(2, .int v9), (0, .ref ta), (1, .ref k)]) hx hb dX6_isWord_57 hl (k := 2) rfl (by decide) (fun _ => rfl) (zadd (i := x_9.toInt) (j := 1) rfl (by decide) (by omega)) (fun x_22 ls hx_22 hl => ?_)
              refine lv_goto (tgt := 28) hx hb dX6_isWord_60 (by decide) ?_
              have hl := lv_sub (l' := [(0, .ref ta), (1, .ref k), (2, .int x_22)]) hl [1, 2, 0] rfl
              have hP : va_P g.1 vwCl (List.flatten [bTape g ta ab sz ln kd bg nx ft fb]) H := hP
              have hD : va_D A (List.flatten [bTape g ta ab sz ln kd bg nx ft fb]) := hD
              exact ih28_12 x_22 (by first | omega | assumption | decide) H _ ls (by omega)  hP hD hS (lv_sub hl [0, 1, 2] rfl)
            · skip
              have c23 : ¬ x_18.toInt = r_19.toInt := zne cb9 rfl rfl
              refine lv_iconst (v := 0) hx hb dX6_isWord_55 (by decide) ?_
              have hP : va_P g.1 vwCl (List.flatten [bTape g ta ab sz ln kd bg nx ft fb]) H := hP
              have hD : va_D A (List.flatten [bTape g ta ab sz ln kd bg nx ft fb]) := hD
              exact mret_z hx hb hr hlocks hS (Nat.le_of_ble_eq_true rfl) (Nat.le_of_ble_eq_true rfl) dX6_isWord_56 ((0 : Int32)) rfl (by decide) (show (0 = 0 ∨ 0 = 1) from (by decide)) hP hD
      have hP : va_P g.1 vwCl (List.flatten [bTape g ta ab sz ln kd bg nx ft fb]) H := hP
      have hD : va_D A (List.flatten [bTape g ta ab sz ln kd bg nx ft fb]) := hD
      exact LP28_11 _ 0 (by decide) H _ ls (Nat.lt_succ_self _)  hP hD hS (lv_sub hl [0, 1, 2] rfl)
    · skip
      have c24 : ¬ r_5.toInt = x_7.toInt := zne cb9 rfl rfl
      refine lv_iconst (v := 0) hx hb dX6_isWord_24 (by decide) ?_
      have hP : va_P g.1 vwCl (List.flatten [bTape g ta ab sz ln kd bg nx ft fb]) H := hP
      have hD : va_D A (List.flatten [bTape g ta ab sz ln kd bg nx ft fb]) := hD
      exact mret_z hx hb hr hlocks hS (Nat.le_of_ble_eq_true rfl) (Nat.le_of_ble_eq_true rfl) dX6_isWord_25 ((0 : Int32)) rfl (by decide) (show (0 = 0 ∨ 0 = 1) from (by decide)) hP hD
set_option maxRecDepth 100000 in
set_option maxHeartbeats 4000000 in
theorem c_t_isSign (l : Launch) (g : zG) (ta : Nat) (ab : Nat) (sz : Int32) (ln : Int32) (kd : Int32) (bg : Int32) (nx : Int32) (ft : Int32) (fb : Nat → Int32) (sg : Int32) (hln : 0 ≤ ln.toInt ∧ ln.toInt ≤ 400) (hnx : 0 ≤ nx.toInt ∧ nx.toInt ≤ 400) (hbg : 0 ≤ bg.toInt ∧ bg.toInt ≤ 400) (hkd : zKd kd.toInt bg.toInt nx.toInt) (hft : -1 ≤ ft.toInt) : zM' g l yX6_isSign (Cond.code yX6_isSign cX6_isSign 2 (some .boolean) :: zB) ({ frames := 0, cells := 0, slots := 0, locals := 0 } : Room) [.ref ta, .int sg] [bTape g ta ab sz ln kd bg nx ft fb] (fun (q : Int32) => some (.int q)) (fun (q : Int32) => (q = 0 ∨ q = 1)) (fun (q : Int32) => [bTape g ta ab sz ln kd bg nx ft fb]) := by
  refine zM'.of (cc := cX6_isSign) (maxL := 2) (rt := (some .boolean)) (by decide) rfl (Nat.le_of_ble_eq_true rfl) ?_
  intro p e s m args below meth c A ls St hr hlocks hin hK hT hA hP hD hS hl
  obtain ⟨hx, hb, hml, hown, hts⟩ := id St
  have hl : lv_has ls 2 [(0, .ref ta), (1, .int sg)] := hl
  have hkd9 : kd.toInt = 0 ∨ bg.toInt < nx.toInt := hkd
  refine lv_aload_n hx hb dX6_isSign_0 rfl (lv_at hl 0 rfl) ?_
  refine va_get (D := g.1) (ci := 6) (v := .int kd) (C := RX6) (T := TX6) (N := 7) hx hb hts izRX6 hown hK hP 0 rfl rfl 3 (by decide) (hts _ k258) (fun _ h9 => h9) rfl dX6_isSign_1 ?_
  refine lv_iconst (v := 3) hx hb dX6_isSign_4 (by decide) ?_
  refine lv_icmp_ne (tgt := 25) hx hb dX6_isSign_5 (by decide) (fun cb9 => ?_) (fun cb9 => ?_)
  · skip
    have c1 : ¬ kd.toInt = 3 := zne cb9 rfl (by decide)
    refine lv_iconst (v := 0) hx hb dX6_isSign_25 (by decide) ?_
    have hP : va_P g.1 vwCl (List.flatten [bTape g ta ab sz ln kd bg nx ft fb]) s.heap := hP
    have hD : va_D A (List.flatten [bTape g ta ab sz ln kd bg nx ft fb]) := hD
    exact mret_z hx hb hr hlocks hS (Nat.le_of_ble_eq_true rfl) (Nat.le_of_ble_eq_true rfl) dX6_isSign_26 ((0 : Int32)) rfl (by decide) (show (0 = 0 ∨ 0 = 1) from (by decide)) hP hD
  · skip
    have c2 : kd.toInt = 3 := zeq cb9 rfl (by decide)
    have n3 : 3 ≤ kd.toInt := Int.le_trans (Int.le_refl _) (Int.le_of_eq c2.symm)
    have n4 : kd.toInt ≤ 3 := Int.le_trans (Int.le_of_eq c2) (Int.le_refl _)
    refine lv_aload_n hx hb dX6_isSign_8 rfl (lv_at hl 0 rfl) ?_
    refine va_get (D := g.1) (ci := 6) (v := .ref ab) (C := RX6) (T := TX6) (N := 7) hx hb hts izRX6 hown hK hP 0 rfl rfl 0 (by decide) (hts _ k261) (fun _ h9 => h9) rfl dX6_isSign_9 ?_
    refine lv_aload_n hx hb dX6_isSign_12 rfl (lv_at hl 0 rfl) ?_
    refine va_get (D := g.1) (ci := 6) (v := .int bg) (C := RX6) (T := TX6) (N := 7) hx hb hts izRX6 hown hK hP 0 rfl rfl 4 (by decide) (hts _ k260) (fun _ h9 => h9) rfl dX6_isSign_13 ?_
    refine va_iald hx hb hK hP 1 0 rfl rfl (zinI (by omega) (by omega)) dX6_isSign_16 ?_
    refine zg (fun x_5 => ?_)
    refine lv_iload_n hx hb dX6_isSign_17 rfl (lv_at hl 1 rfl) ?_
    refine lv_icmp_ne (tgt := 25) hx hb dX6_isSign_18 (by decide) (fun cb9 => ?_) (fun cb9 => ?_)
    · skip
      have c6 : ¬ x_5.toInt = sg.toInt := zne cb9 rfl rfl
      refine lv_iconst (v := 0) hx hb dX6_isSign_25 (by decide) ?_
      have hP : va_P g.1 vwCl (List.flatten [bTape g ta ab sz ln kd bg nx ft fb]) s.heap := hP
      have hD : va_D A (List.flatten [bTape g ta ab sz ln kd bg nx ft fb]) := hD
      exact mret_z hx hb hr hlocks hS (Nat.le_of_ble_eq_true rfl) (Nat.le_of_ble_eq_true rfl) dX6_isSign_26 ((0 : Int32)) rfl (by decide) (show (0 = 0 ∨ 0 = 1) from (by decide)) hP hD
    · skip
      have c7 : x_5.toInt = sg.toInt := zeq cb9 rfl rfl
      refine lv_iconst (v := 1) hx hb dX6_isSign_21 (by decide) ?_
      refine lv_goto (tgt := 26) hx hb dX6_isSign_22 (by decide) ?_
      have hP : va_P g.1 vwCl (List.flatten [bTape g ta ab sz ln kd bg nx ft fb]) s.heap := hP
      have hD : va_D A (List.flatten [bTape g ta ab sz ln kd bg nx ft fb]) := hD
      exact mret_z hx hb hr hlocks hS (Nat.le_of_ble_eq_true rfl) (Nat.le_of_ble_eq_true rfl) dX6_isSign_26 ((1 : Int32)) rfl (by decide) (show (1 = 0 ∨ 1 = 1) from (by decide)) hP hD
set_option maxRecDepth 100000 in
set_option maxHeartbeats 4000000 in
theorem c_t_takeWord (l : Launch) (g : zG) (ta : Nat) (ab : Nat) (sz : Int32) (ln : Int32) (kd : Int32) (bg : Int32) (nx : Int32) (ft : Int32) (fb : Nat → Int32) (k : Nat) (j : Nat) (q : String × Nat × String × List Int32) (hln : 0 ≤ ln.toInt ∧ ln.toInt ≤ 400) (hnx : 0 ≤ nx.toInt ∧ nx.toInt ≤ 400) (hbg : 0 ≤ bg.toInt ∧ bg.toInt ≤ 400) (hkd : zKd kd.toInt bg.toInt nx.toInt) (hft : -1 ≤ ft.toInt) (hk9 : k = g.2 (10 + 2 * j)) (hj9 : zLit[j]? = some q) (hql : 1 ≤ q.2.2.2.length ∧ q.2.2.2.length ≤ 7) : zM' g l yX6_takeWord (Cond.code yX6_takeWord cX6_takeWord 2 (some .boolean) :: zB) ({ frames := 5, cells := 0, slots := 0, locals := 107 } : Room) [.ref ta, .ref k] [bTape g ta ab sz ln kd bg nx ft fb] (fun u : Int32 × Int32 × Int32 × Int32 => (fun (kd2 : Int32) (bg2 : Int32) (nx2 : Int32) (r : Int32) => some (.int r)) (u.1) (u.2.1) (u.2.2.1) (u.2.2.2)) (fun u : Int32 × Int32 × Int32 × Int32 => (fun (kd2 : Int32) (bg2 : Int32) (nx2 : Int32) (r : Int32) => (0 ≤ nx2.toInt ∧ nx2.toInt ≤ 400) ∧ (0 ≤ bg2.toInt ∧ bg2.toInt ≤ 400) ∧ (zKd kd2.toInt bg2.toInt nx2.toInt) ∧ (r = 0 ∨ r = 1)) (u.1) (u.2.1) (u.2.2.1) (u.2.2.2)) (fun u : Int32 × Int32 × Int32 × Int32 => (fun (kd2 : Int32) (bg2 : Int32) (nx2 : Int32) (r : Int32) => [bTape g ta ab sz ln kd2 bg2 nx2 ft fb]) (u.1) (u.2.1) (u.2.2.1) (u.2.2.2)) := by
  refine zM'.of (cc := cX6_takeWord) (maxL := 2) (rt := (some .boolean)) (by decide) rfl (Nat.le_of_ble_eq_true rfl) ?_
  intro p e s m args below meth c A ls St hr hlocks hin hK hT hA hP hD hS hl
  obtain ⟨hx, hb, hml, hown, hts⟩ := id St
  have hl : lv_has ls 2 [(0, .ref ta), (1, .ref k)] := hl
  refine lv_aload_n hx hb dX6_takeWord_0 rfl (lv_at hl 0 rfl) ?_
  refine lv_aload_n hx hb dX6_takeWord_1 rfl (lv_at hl 1 rfl) ?_
  refine mcallV' (g := g) (q0 := 0) (ci := 6) (As := [.ref k]) (rest := []) St hK hT hA hP hD hS hl.1 [0] [] rfl rfl rfl (c_t_isWord l g ta ab sz ln kd bg nx ft fb k j q hln hnx hbg hkd hft hk9 hj9 hql) (cwV 1 hts (zgL (zl4 k281 k282 k283 k277) k268) rfl rfl rfl (by decide +kernel) ⟨Nat.le_of_ble_eq_true rfl, Nat.le_of_ble_eq_true rfl⟩) rfl rfl rfl rfl (Nat.le_of_ble_eq_true rfl) dX6_takeWord_2 ⟨(Nat.le_of_ble_eq_true rfl), (Nat.le_of_ble_eq_true rfl)⟩ (fun r_1 H locs hq2 hP hD hS => ?_)
  replace hq2 : (r_1 = 0 ∨ r_1 = 1) := hq2
  have hP : va_P g.1 vwCl (List.flatten [bTape g ta ab sz ln kd bg nx ft fb]) H := hP
  have hD : va_D A (List.flatten [bTape g ta ab sz ln kd bg nx ft fb]) := hD
  refine W.widen (k := 0) (n := 0) (Nat.le_of_ble_eq_true rfl) (Nat.le_of_ble_eq_true rfl) ?_
  refine W.eq (g2 := F0 m 5 ls [.int r_1]) rfl ?_
  rcases hq2 with rfl | rfl
  · skip
    refine lv_if_ne (tgt := 10) hx hb dX6_takeWord_5 (by decide) (fun c3 => absurd (by decide) c3) (fun _ => ?_)
    refine lv_iconst (v := 0) hx hb dX6_takeWord_8 (by decide) ?_
    have hP : va_P g.1 vwCl (List.flatten [bTape g ta ab sz ln kd bg nx ft fb]) H := hP
    have hD : va_D A (List.flatten [bTape g ta ab sz ln kd bg nx ft fb]) := hD
    exact mret_z hx hb hr hlocks hS (Nat.le_of_ble_eq_true rfl) (Nat.le_of_ble_eq_true rfl) dX6_takeWord_9 (kd, bg, nx, (0 : Int32)) rfl (by decide) (show (0 ≤ nx.toInt ∧ nx.toInt ≤ 400) ∧ (0 ≤ bg.toInt ∧ bg.toInt ≤ 400) ∧ (zKd kd.toInt bg.toInt nx.toInt) ∧ (0 = 0 ∨ 0 = 1) from ⟨hnx, hbg, hkd, (by decide)⟩) hP hD
  · skip
    refine lv_if_ne (tgt := 10) hx hb dX6_takeWord_5 (by decide) (fun _ => ?_) (fun c4 => absurd c4 (by decide))
    refine lv_aload_n hx hb dX6_takeWord_10 rfl (lv_at hl 0 rfl) ?_
    refine mcallV' (g := g) (q0 := 0) (ci := 6) (As := []) (rest := []) St hK hT hA hP hD hS hl.1 [0] [] rfl rfl rfl (c_t_step l g ta ab sz ln kd bg nx ft fb hln hnx) (cwV 0 hts (zgL (zl4 k274 k275 k276 k277) k271) rfl rfl rfl (by decide +kernel) ⟨Nat.le_of_ble_eq_true rfl, Nat.le_of_ble_eq_true rfl⟩) rfl rfl rfl rfl (Nat.le_of_ble_eq_true rfl) dX6_takeWord_11 ⟨(Nat.le_of_ble_eq_true rfl), (Nat.le_of_ble_eq_true rfl)⟩ (fun u_ H locs hq8 hP hD hS => ?_)
    obtain ⟨kd2_5, bg2_6, nx2_7⟩ := u_
    replace hq8 : (0 ≤ nx2_7.toInt ∧ nx2_7.toInt ≤ 400) ∧ (0 ≤ bg2_6.toInt ∧ bg2_6.toInt ≤ 400) ∧ (zKd kd2_5.toInt bg2_6.toInt nx2_7.toInt) := hq8
    have hP : va_P g.1 vwCl (List.flatten [bTape g ta ab sz ln kd2_5 bg2_6 nx2_7 ft fb]) H := hP
    have hD : va_D A (List.flatten [bTape g ta ab sz ln kd2_5 bg2_6 nx2_7 ft fb]) := hD
    refine W.widen (k := 0) (n := 0) (Nat.le_of_ble_eq_true rfl) (Nat.le_of_ble_eq_true rfl) ?_
    refine W.eq (g2 := F0 m 14 ls []) rfl ?_
    obtain ⟨hq8_0, hq8_1, hq8_2⟩ := hq8
    refine lv_iconst (v := 1) hx hb dX6_takeWord_14 (by decide) ?_
    have hP : va_P g.1 vwCl (List.flatten [bTape g ta ab sz ln kd2_5 bg2_6 nx2_7 ft fb]) H := hP
    have hD : va_D A (List.flatten [bTape g ta ab sz ln kd2_5 bg2_6 nx2_7 ft fb]) := hD
    exact mret_z hx hb hr hlocks hS (Nat.le_of_ble_eq_true rfl) (Nat.le_of_ble_eq_true rfl) dX6_takeWord_15 (kd2_5, bg2_6, nx2_7, (1 : Int32)) rfl (by decide) (show (0 ≤ nx2_7.toInt ∧ nx2_7.toInt ≤ 400) ∧ (0 ≤ bg2_6.toInt ∧ bg2_6.toInt ≤ 400) ∧ (zKd kd2_5.toInt bg2_6.toInt nx2_7.toInt) ∧ (1 = 0 ∨ 1 = 1) from ⟨hq8_0, hq8_1, hq8_2, (by decide)⟩) hP hD
set_option maxRecDepth 100000 in
set_option maxHeartbeats 4000000 in
theorem c_t_needWord (l : Launch) (g : zG) (ta : Nat) (ab : Nat) (sz : Int32) (ln : Int32) (kd : Int32) (bg : Int32) (nx : Int32) (ft : Int32) (fb : Nat → Int32) (k : Nat) (j : Nat) (q : String × Nat × String × List Int32) (hln : 0 ≤ ln.toInt ∧ ln.toInt ≤ 400) (hnx : 0 ≤ nx.toInt ∧ nx.toInt ≤ 400) (hbg : 0 ≤ bg.toInt ∧ bg.toInt ≤ 400) (hkd : zKd kd.toInt bg.toInt nx.toInt) (hft : -1 ≤ ft.toInt) (hk9 : k = g.2 (10 + 2 * j)) (hj9 : zLit[j]? = some q) (hql : 1 ≤ q.2.2.2.length ∧ q.2.2.2.length ≤ 7) : zM' g l yX6_needWord (Cond.code yX6_needWord cX6_needWord 2 (some .boolean) :: zB) ({ frames := 6, cells := 0, slots := 0, locals := 128 } : Room) [.ref ta, .ref k] [bTape g ta ab sz ln kd bg nx ft fb] (fun u : Int32 × Int32 × Int32 × Int32 × Int32 => (fun (kd2 : Int32) (bg2 : Int32) (nx2 : Int32) (ft2 : Int32) (r : Int32) => some (.int r)) (u.1) (u.2.1) (u.2.2.1) (u.2.2.2.1) (u.2.2.2.2)) (fun u : Int32 × Int32 × Int32 × Int32 × Int32 => (fun (kd2 : Int32) (bg2 : Int32) (nx2 : Int32) (ft2 : Int32) (r : Int32) => (0 ≤ nx2.toInt ∧ nx2.toInt ≤ 400) ∧ (0 ≤ bg2.toInt ∧ bg2.toInt ≤ 400) ∧ (zKd kd2.toInt bg2.toInt nx2.toInt) ∧ (-1 ≤ ft2.toInt) ∧ (r = 0 ∨ r = 1)) (u.1) (u.2.1) (u.2.2.1) (u.2.2.2.1) (u.2.2.2.2)) (fun u : Int32 × Int32 × Int32 × Int32 × Int32 => (fun (kd2 : Int32) (bg2 : Int32) (nx2 : Int32) (ft2 : Int32) (r : Int32) => [bTape g ta ab sz ln kd2 bg2 nx2 ft2 fb]) (u.1) (u.2.1) (u.2.2.1) (u.2.2.2.1) (u.2.2.2.2)) := by
  refine zM'.of (cc := cX6_needWord) (maxL := 2) (rt := (some .boolean)) (by decide) rfl (Nat.le_of_ble_eq_true rfl) ?_
  intro p e s m args below meth c A ls St hr hlocks hin hK hT hA hP hD hS hl
  obtain ⟨hx, hb, hml, hown, hts⟩ := id St
  have hl : lv_has ls 2 [(0, .ref ta), (1, .ref k)] := hl
  refine lv_aload_n hx hb dX6_needWord_0 rfl (lv_at hl 0 rfl) ?_
  refine lv_aload_n hx hb dX6_needWord_1 rfl (lv_at hl 1 rfl) ?_
  refine mcallV' (g := g) (q0 := 0) (ci := 6) (As := [.ref k]) (rest := []) St hK hT hA hP hD hS hl.1 [0] [] rfl rfl rfl (c_t_takeWord l g ta ab sz ln kd bg nx ft fb k j q hln hnx hbg hkd hft hk9 hj9 hql) (cwV 1 hts (zgL (zl4 k430 k311 k312 k277) k284) rfl rfl rfl (by decide +kernel) ⟨Nat.le_of_ble_eq_true rfl, Nat.le_of_ble_eq_true rfl⟩) rfl rfl rfl rfl (Nat.le_of_ble_eq_true rfl) dX6_needWord_2 ⟨(Nat.le_of_ble_eq_true rfl), (Nat.le_of_ble_eq_true rfl)⟩ (fun u_ H locs hq5 hP hD hS => ?_)
  obtain ⟨kd2_1, bg2_2, nx2_3, r_4⟩ := u_
  replace hq5 : (0 ≤ nx2_3.toInt ∧ nx2_3.toInt ≤ 400) ∧ (0 ≤ bg2_2.toInt ∧ bg2_2.toInt ≤ 400) ∧ (zKd kd2_1.toInt bg2_2.toInt nx2_3.toInt) ∧ (r_4 = 0 ∨ r_4 = 1) := hq5
  have hP : va_P g.1 vwCl (List.flatten [bTape g ta ab sz ln kd2_1 bg2_2 nx2_3 ft fb]) H := hP
  have hD : va_D A (List.flatten [bTape g ta ab sz ln kd2_1 bg2_2 nx2_3 ft fb]) := hD
  refine W.widen (k := 0) (n := 0) (Nat.le_of_ble_eq_true rfl) (Nat.le_of_ble_eq_true rfl) ?_
  refine W.eq (g2 := F0 m 5 ls [.int r_4]) rfl ?_
  obtain ⟨hq5_0, hq5_1, hq5_2, hq5_3⟩ := hq5
  rcases hq5_3 with rfl | rfl
  · skip
    refine lv_if_ne (tgt := 15) hx hb dX6_needWord_5 (by decide) (fun c6 => absurd (by decide) c6) (fun _ => ?_)
    refine lv_aload_n hx hb dX6_needWord_8 rfl (lv_at hl 0 rfl) ?_
    refine mcallV' (g := g) (q0 := 0) (ci := 6) (As := []) (rest := []) St hK hT hA hP hD hS hl.1 [0] [] rfl rfl rfl (c_t_refuse l g ta ab sz ln kd2_1 bg2_2 nx2_3 ft fb hln hq5_0 hq5_1 hq5_2 hft) (cwV 0 hts (zgL (zl4 k278 k279 k280 k277) k269) rfl rfl rfl (by decide +kernel) ⟨Nat.le_of_ble_eq_true rfl, Nat.le_of_ble_eq_true rfl⟩) rfl rfl rfl rfl (Nat.le_of_ble_eq_true rfl) dX6_needWord_9 ⟨(Nat.le_of_ble_eq_true rfl), (Nat.le_of_ble_eq_true rfl)⟩ (fun ft2_7 H locs hq8 hP hD hS => ?_)
    replace hq8 : (-1 ≤ ft2_7.toInt) := hq8
    have hP : va_P g.1 vwCl (List.flatten [bTape g ta ab sz ln kd2_1 bg2_2 nx2_3 ft2_7 fb]) H := hP
    have hD : va_D A (List.flatten [bTape g ta ab sz ln kd2_1 bg2_2 nx2_3 ft2_7 fb]) := hD
    refine W.widen (k := 0) (n := 0) (Nat.le_of_ble_eq_true rfl) (Nat.le_of_ble_eq_true rfl) ?_
    refine W.eq (g2 := F0 m 12 ls [.int 0]) rfl ?_
    refine lv_if_eq (tgt := 19) hx hb dX6_needWord_12 (by decide) (fun _ => ?_) (fun c9 => absurd (by decide) c9)
    refine lv_iconst (v := 0) hx hb dX6_needWord_19 (by decide) ?_
    have hP : va_P g.1 vwCl (List.flatten [bTape g ta ab sz ln kd2_1 bg2_2 nx2_3 ft2_7 fb]) H := hP
    have hD : va_D A (List.flatten [bTape g ta ab sz ln kd2_1 bg2_2 nx2_3 ft2_7 fb]) := hD
    exact mret_z hx hb hr hlocks hS (Nat.le_of_ble_eq_true rfl) (Nat.le_of_ble_eq_true rfl) dX6_needWord_20 (kd2_1, bg2_2, nx2_3, ft2_7, (0 : Int32)) rfl (by decide) (show (0 ≤ nx2_3.toInt ∧ nx2_3.toInt ≤ 400) ∧ (0 ≤ bg2_2.toInt ∧ bg2_2.toInt ≤ 400) ∧ (zKd kd2_1.toInt bg2_2.toInt nx2_3.toInt) ∧ (-1 ≤ ft2_7.toInt) ∧ (0 = 0 ∨ 0 = 1) from ⟨hq5_0, hq5_1, hq5_2, hq8, (by decide)⟩) hP hD
  · skip
    refine lv_if_ne (tgt := 15) hx hb dX6_needWord_5 (by decide) (fun _ => ?_) (fun c10 => absurd c10 (by decide))
    refine lv_iconst (v := 1) hx hb dX6_needWord_15 (by decide) ?_
    refine lv_goto (tgt := 20) hx hb dX6_needWord_16 (by decide) ?_
    have hP : va_P g.1 vwCl (List.flatten [bTape g ta ab sz ln kd2_1 bg2_2 nx2_3 ft fb]) H := hP
    have hD : va_D A (List.flatten [bTape g ta ab sz ln kd2_1 bg2_2 nx2_3 ft fb]) := hD
    exact mret_z hx hb hr hlocks hS (Nat.le_of_ble_eq_true rfl) (Nat.le_of_ble_eq_true rfl) dX6_needWord_20 (kd2_1, bg2_2, nx2_3, ft, (1 : Int32)) rfl (by decide) (show (0 ≤ nx2_3.toInt ∧ nx2_3.toInt ≤ 400) ∧ (0 ≤ bg2_2.toInt ∧ bg2_2.toInt ≤ 400) ∧ (zKd kd2_1.toInt bg2_2.toInt nx2_3.toInt) ∧ (-1 ≤ ft.toInt) ∧ (1 = 0 ∨ 1 = 1) from ⟨hq5_0, hq5_1, hq5_2, hft, (by decide)⟩) hP hD
