set_option maxRecDepth 100000 in
set_option maxHeartbeats 4000000 in
theorem c_l_clear (l : Launch) (g : zG) (lo : Nat) (lc : Nat) (lz : Int32) (ll : Int32) (lm : Int32) (lg : Int32) (ld : Int32) (fc : Nat → Int32)  : zM' g l yX1_clear (Cond.code yX1_clear cX1_clear 1 none :: zB) ({ frames := 0, cells := 0, slots := 0, locals := 0 } : Room) [.ref lo] [bLaw g lo lc lz ll lm lg ld fc] (fun _ : Unit => none) (fun _ : Unit => True) (fun _ : Unit => [bLaw g lo lc 0 (-1) lm lg ld fc]) := by
  refine zM'.of (cc := cX1_clear) (maxL := 1) (rt := none) (by decide) rfl (Nat.le_of_ble_eq_true rfl) ?_
  intro p e s m args below meth c A ls St hr hlocks hin hK hT hA hP hD hS hl
  obtain ⟨hx, hb, hml, hown, hts⟩ := id St
  have hl : lv_has ls 1 [(0, .ref lo)] := hl
  refine lv_aload_n hx hb dX1_clear_0 rfl (lv_at hl 0 rfl) ?_
  refine lv_iconst (v := 0) hx hb dX1_clear_1 (by decide) ?_
  refine va_put (D := g.1) (ci := 1) (v := .int 0) (ty := .int) (C := RX1) (T := TX1) (N := 6) hx hb hts izRX1 tyX1 tyX1_ok nmX1 hown hK hP hD hS 0 rfl rfl 1 (by decide) (hts _ k100) (fun _ h9 => h9) rfl (by decide +kernel) rfl rfl (Nat.le_of_ble_eq_true rfl) dX1_clear_2 (fun H locs hP hD hS => ?_)
  have hP : va_P g.1 vwCl (List.flatten [bLaw g lo lc 0 ll lm lg ld fc]) H := hP
  have hD : va_D A (List.flatten [bLaw g lo lc 0 ll lm lg ld fc]) := hD
  refine lv_aload_n hx hb dX1_clear_5 rfl (lv_at hl 0 rfl) ?_
  refine lv_iconst (v := (-1)) hx hb dX1_clear_6 (by decide) ?_
  refine va_put (D := g.1) (ci := 1) (v := .int (-1)) (ty := .int) (C := RX1) (T := TX1) (N := 6) hx hb hts izRX1 tyX1 tyX1_ok nmX1 hown hK hP hD hS 0 rfl rfl 2 (by decide) (hts _ k98) (fun _ h9 => h9) rfl (by decide +kernel) rfl rfl (Nat.le_of_ble_eq_true rfl) dX1_clear_7 (fun H locs hP hD hS => ?_)
  have hP : va_P g.1 vwCl (List.flatten [bLaw g lo lc 0 (-1) lm lg ld fc]) H := hP
  have hD : va_D A (List.flatten [bLaw g lo lc 0 (-1) lm lg ld fc]) := hD
  have hP : va_P g.1 vwCl (List.flatten [bLaw g lo lc 0 (-1) lm lg ld fc]) H := hP
  have hD : va_D A (List.flatten [bLaw g lo lc 0 (-1) lm lg ld fc]) := hD
  exact mret_v hx hb hr hlocks hS (Nat.le_of_ble_eq_true rfl) (Nat.le_of_ble_eq_true rfl) dX1_clear_10 () rfl trivial hP hD
set_option maxRecDepth 100000 in
set_option maxHeartbeats 4000000 in
theorem c_l_put (l : Launch) (g : zG) (lo : Nat) (lc : Nat) (lz : Int32) (ll : Int32) (lm : Int32) (lg : Int32) (ld : Int32) (fc : Nat → Int32) (kn : Int32) (nu : Int32) (b_lz : 0 ≤ lz.toInt ∧ lz.toInt ≤ 400) : zM' g l yX1_put (Cond.code yX1_put cX1_put 3 (some .int) :: zB) ({ frames := 0, cells := 0, slots := 0, locals := 0 } : Room) [.ref lo, .int kn, .int nu] [bLaw g lo lc lz ll lm lg ld fc] (fun u : Int32 × (Nat → Int32) × Int32 => (fun (lz2 : Int32) (fc2 : Nat → Int32) (q : Int32) => some (.int q)) (u.1) (u.2.1) (u.2.2)) (fun u : Int32 × (Nat → Int32) × Int32 => (fun (lz2 : Int32) (fc2 : Nat → Int32) (q : Int32) => (0 ≤ lz2.toInt ∧ lz2.toInt ≤ 400)) (u.1) (u.2.1) (u.2.2)) (fun u : Int32 × (Nat → Int32) × Int32 => (fun (lz2 : Int32) (fc2 : Nat → Int32) (q : Int32) => [bLaw g lo lc lz2 ll lm lg ld fc2]) (u.1) (u.2.1) (u.2.2)) := by
  refine zM'.of (cc := cX1_put) (maxL := 3) (rt := (some .int)) (by decide) rfl (Nat.le_of_ble_eq_true rfl) ?_
  intro p e s m args below meth c A ls St hr hlocks hin hK hT hA hP hD hS hl
  obtain ⟨hx, hb, hml, hown, hts⟩ := id St
  have hl : lv_has ls 3 [(0, .ref lo), (1, .int kn), (2, .int nu)] := hl
  refine lv_aload_n hx hb dX1_put_0 rfl (lv_at hl 0 rfl) ?_
  refine va_get (D := g.1) (ci := 1) (v := .int lz) (C := RX1) (T := TX1) (N := 6) hx hb hts izRX1 hown hK hP 0 rfl rfl 1 (by decide) (hts _ k100) (fun _ h9 => h9) rfl dX1_put_1 ?_
  refine lv_sipush (v := 400) hx hb dX1_put_4 (by decide) ?_
  refine lv_icmp_lt (tgt := 12) hx hb dX1_put_7 (by decide) (fun cb9 => ?_) (fun cb9 => ?_)
  · skip
    have c1 : lz.toInt < 400 := zlti cb9 rfl (by decide)
    have n2 : lz.toInt ≤ 399 := zL1 (b := 400) c1 (Int.le_refl _) (by decide)
    refine lv_aload_n hx hb dX1_put_12 rfl (lv_at hl 0 rfl) ?_
    refine va_get (D := g.1) (ci := 1) (v := .ref lc) (C := RX1) (T := TX1) (N := 6) hx hb hts izRX1 hown hK hP 0 rfl rfl 0 (by decide) (hts _ k101) (fun _ h9 => h9) rfl dX1_put_13 ?_
    refine lv_aload_n hx hb dX1_put_16 rfl (lv_at hl 0 rfl) ?_
    refine va_get (D := g.1) (ci := 1) (v := .int lz) (C := RX1) (T := TX1) (N := 6) hx hb hts izRX1 hown hK hP 0 rfl rfl 1 (by decide) (hts _ k100) (fun _ h9 => h9) rfl dX1_put_17 ?_
    refine lv_iload_n hx hb dX1_put_20 rfl (lv_at hl 1 rfl) ?_
    refine lv_bipush (v := 32) hx hb dX1_put_21 (by decide) ?_
    refine lv_iload_n hx hb dX1_put_23 rfl (lv_at hl 2 rfl) ?_
    refine lv_imul hx hb dX1_put_24 ?_
    refine zg (fun x_3 => ?_)
    refine lv_iadd hx hb dX1_put_25 ?_
    refine zg (fun x_4 => ?_)
    refine va_iast hx hb hK hP hD hS 1 0 rfl rfl (zinK (a := 0) (b := 399) b_lz.1 n2 (by decide)) dX1_put_26 (fun H locs hP hD hS => ?_)
    obtain ⟨fc_5, hP, hD⟩ : ∃ fc_5 : Nat → Int32, va_P g.1 vwCl (List.flatten [bLaw g lo lc lz ll lm lg ld fc_5]) H ∧ va_D A (List.flatten [bLaw g lo lc lz ll lm lg ld fc_5]) := ⟨upd fc lz.toNatClampNeg x_4, hP, hD⟩
    refine lv_aload_n hx hb dX1_put_27 rfl (lv_at hl 0 rfl) ?_
    refine lv_dup hx hb dX1_put_28 rfl ?_
    refine va_get (D := g.1) (ci := 1) (v := .int lz) (C := RX1) (T := TX1) (N := 6) hx hb hts izRX1 hown hK hP 0 rfl rfl 1 (by decide) (hts _ k100) (fun _ h9 => h9) rfl dX1_put_29 ?_
    refine lv_iconst (v := 1) hx hb dX1_put_32 (by decide) ?_
    refine lv_iadd hx hb dX1_put_33 ?_
    refine zg3 (zaddK (i := lz.toInt) (j := 1) (a' := 1) (b' := 400) rfl (by decide) b_lz.1 n2 (Int.le_refl _) (Int.le_refl _) (by decide)) (fun x_6 hx_6 => ?_)
    refine va_put (D := g.1) (ci := 1) (v := .int x_6) (ty := .int) (C := RX1) (T := TX1) (N := 6) hx hb hts izRX1 tyX1 tyX1_ok nmX1 hown hK hP hD hS 0 rfl rfl 1 (by decide) (hts _ k100) (fun _ h9 => h9) rfl (by decide +kernel) rfl rfl (Nat.le_of_ble_eq_true rfl) dX1_put_34 (fun H locs hP hD hS => ?_)
    have hP : va_P g.1 vwCl (List.flatten [bLaw g lo lc x_6 ll lm lg ld fc_5]) H := hP
    have hD : va_D A (List.flatten [bLaw g lo lc x_6 ll lm lg ld fc_5]) := hD
    refine lv_aload_n hx hb dX1_put_37 rfl (lv_at hl 0 rfl) ?_
    refine va_get (D := g.1) (ci := 1) (v := .int x_6) (C := RX1) (T := TX1) (N := 6) hx hb hts izRX1 hown hK hP 0 rfl rfl 1 (by decide) (hts _ k100) (fun _ h9 => h9) rfl dX1_put_38 ?_
    refine lv_iconst (v := 1) hx hb dX1_put_41 (by decide) ?_
    refine lv_isub hx hb dX1_put_42 ?_
    refine zg3 (zsubK (i := x_6.toInt) (j := 1) (a' := 0) (b' := 399) rfl (by decide) hx_6.2.1 hx_6.2.2 (Int.le_refl _) (Int.le_refl _) (by decide)) (fun x_7 hx_7 => ?_)
    have hP : va_P g.1 vwCl (List.flatten [bLaw g lo lc x_6 ll lm lg ld fc_5]) H := hP
    have hD : va_D A (List.flatten [bLaw g lo lc x_6 ll lm lg ld fc_5]) := hD
    exact mret_i hx hb hr hlocks hS (Nat.le_of_ble_eq_true rfl) (Nat.le_of_ble_eq_true rfl) dX1_put_43 (x_6, fc_5, x_7) rfl (show (0 ≤ x_6.toInt ∧ x_6.toInt ≤ 400) from (by first | assumption | omega | decide | exact rfl | exact zb01 (by omega) | exact Or.inl (by decide) | exact Or.inr (by first | omega | decide))) hP hD
  · skip
    have c8 : 400 ≤ lz.toInt := zle (Int32.not_lt.mp cb9) (by decide) rfl
    have n9 : 400 ≤ lz.toInt := Int.le_trans (Int.le_refl _) c8
    refine lv_iconst (v := (-1)) hx hb dX1_put_10 (by decide) ?_
    have hP : va_P g.1 vwCl (List.flatten [bLaw g lo lc lz ll lm lg ld fc]) s.heap := hP
    have hD : va_D A (List.flatten [bLaw g lo lc lz ll lm lg ld fc]) := hD
    exact mret_i hx hb hr hlocks hS (Nat.le_of_ble_eq_true rfl) (Nat.le_of_ble_eq_true rfl) dX1_put_11 (lz, fc, -1) rfl (show (0 ≤ lz.toInt ∧ lz.toInt ≤ 400) from b_lz) hP hD
