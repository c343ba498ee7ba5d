set_option maxRecDepth 100000 in
set_option maxHeartbeats 4000000 in
theorem c_l_aim (l : Launch) (g : zG) (lo : Nat) (lc : Nat) (lz : Int32) (ll : Int32) (lm : Int32) (lg : Int32) (ld : Int32) (fc : Nat → Int32) (ju : Int32) (b_lz : 0 ≤ lz.toInt ∧ lz.toInt ≤ 400) : zM' g l yX1_aim (Cond.code yX1_aim cX1_aim 2 none :: zB) ({ frames := 0, cells := 0, slots := 0, locals := 0 } : Room) [.ref lo, .int ju] [bLaw g lo lc lz ll lm lg ld fc] (fun (fc2 : Nat → Int32) => none) (fun (fc2 : Nat → Int32) => True) (fun (fc2 : Nat → Int32) => [bLaw g lo lc lz ll lm lg ld fc2]) := by
  refine zM'.of (cc := cX1_aim) (maxL := 2) (rt := none) (by decide) rfl (Nat.le_of_ble_eq_true rfl) ?_
  intro p e s m args below meth c A ls St hr hlocks hin hK hT hA hP hD hS hl
  obtain ⟨hx, hb, hml, hown, hts⟩ := id St
  have hl : lv_has ls 2 [(0, .ref lo), (1, .int ju)] := hl
  refine lv_iload_n hx hb dX1_aim_0 rfl (lv_at hl 1 rfl) ?_
  refine lv_if_lt (tgt := 35) hx hb dX1_aim_1 (by decide) (fun cb9 => ?_) (fun cb9 => ?_)
  · skip
    have c1 : ju.toInt < 0 := zlti cb9 rfl (by decide)
    have n2 : ju.toInt ≤ (-1) := zL1 (b := 0) c1 (Int.le_refl _) (by decide)
    have hP : va_P g.1 vwCl (List.flatten [bLaw g lo lc lz ll lm lg ld fc]) s.heap := hP
    have hD : va_D A (List.flatten [bLaw g lo lc lz ll lm lg ld fc]) := hD
    exact mret_v hx hb hr hlocks hS (Nat.le_of_ble_eq_true rfl) (Nat.le_of_ble_eq_true rfl) dX1_aim_35 (fc) rfl trivial hP hD
  · skip
    have c3 : 0 ≤ ju.toInt := zle (Int32.not_lt.mp cb9) (by decide) rfl
    have n4 : 0 ≤ ju.toInt := Int.le_trans (Int.le_refl _) c3
    refine lv_iload_n hx hb dX1_aim_4 rfl (lv_at hl 1 rfl) ?_
    refine lv_aload_n hx hb dX1_aim_5 rfl (lv_at hl 0 rfl) ?_
    refine va_get (D := g.1) (ci := 1) (v := .int lz) (C := RX1) (T := TX1) (N := 6) hx hb hts izRX1 hown hK hP 0 rfl rfl 1 (by decide) (hts _ k100) (fun _ h9 => h9) rfl dX1_aim_6 ?_
    refine lv_icmp_ge (tgt := 35) hx hb dX1_aim_9 (by decide) (fun cb9 => ?_) (fun cb9 => ?_)
    · skip
      have c5 : lz.toInt ≤ ju.toInt := zle cb9 rfl rfl
      have hP : va_P g.1 vwCl (List.flatten [bLaw g lo lc lz ll lm lg ld fc]) s.heap := hP
      have hD : va_D A (List.flatten [bLaw g lo lc lz ll lm lg ld fc]) := hD
      exact mret_v hx hb hr hlocks hS (Nat.le_of_ble_eq_true rfl) (Nat.le_of_ble_eq_true rfl) dX1_aim_35 (fc) rfl trivial hP hD
    · skip
      have c6 : ju.toInt < lz.toInt := zlti (Int32.not_le.mp cb9) rfl rfl
      have n7 : ju.toInt ≤ 399 := zL1 (b := 400) c6 b_lz.2 (by decide)
      have n8 : 1 ≤ lz.toInt := zL2 (a := 0) c6 n4 (by decide)
      refine lv_aload_n hx hb dX1_aim_12 rfl (lv_at hl 0 rfl) ?_
      refine va_get (D := g.1) (ci := 1) (v := .ref lc) (C := RX1) (T := TX1) (N := 6) hx hb hts izRX1 hown hK hP 0 rfl rfl 0 (by decide) (hts _ k101) (fun _ h9 => h9) rfl dX1_aim_13 ?_
      refine lv_iload_n hx hb dX1_aim_16 rfl (lv_at hl 1 rfl) ?_
      refine lv_aload_n hx hb dX1_aim_17 rfl (lv_at hl 0 rfl) ?_
      refine va_get (D := g.1) (ci := 1) (v := .ref lc) (C := RX1) (T := TX1) (N := 6) hx hb hts izRX1 hown hK hP 0 rfl rfl 0 (by decide) (hts _ k101) (fun _ h9 => h9) rfl dX1_aim_18 ?_
      refine lv_iload_n hx hb dX1_aim_21 rfl (lv_at hl 1 rfl) ?_
      refine va_iald hx hb hK hP 1 0 rfl rfl (zinK (a := 0) (b := 399) n4 n7 (by decide)) dX1_aim_22 ?_
      refine zg (fun x_9 => ?_)
      refine lv_bipush (v := 32) hx hb dX1_aim_23 (by decide) ?_
      refine lv_irem hx hb dX1_aim_25 (by decide) ?_
      refine zg (fun x_10 => ?_)
      refine lv_bipush (v := 32) hx hb dX1_aim_26 (by decide) ?_
      refine lv_aload_n hx hb dX1_aim_28 rfl (lv_at hl 0 rfl) ?_
      refine va_get (D := g.1) (ci := 1) (v := .int lz) (C := RX1) (T := TX1) (N := 6) hx hb hts izRX1 hown hK hP 0 rfl rfl 1 (by decide) (hts _ k100) (fun _ h9 => h9) rfl dX1_aim_29 ?_
      refine lv_imul hx hb dX1_aim_32 ?_
      refine zg3 (zmulKL (i := lz.toInt) (n := 32) (a' := 32) (b' := 12800) rfl (by decide) n8 b_lz.2 (by decide) (by decide)) (fun x_11 hx_11 => ?_)
      refine lv_iadd hx hb dX1_aim_33 ?_
      refine zg (fun x_12 => ?_)
      refine va_iast hx hb hK hP hD hS 1 0 rfl rfl (zinK (a := 0) (b := 399) n4 n7 (by decide)) dX1_aim_34 (fun H locs hP hD hS => ?_)
      obtain ⟨fc_13, hP, hD⟩ : ∃ fc_13 : Nat → Int32, va_P g.1 vwCl (List.flatten [bLaw g lo lc lz ll lm lg ld fc_13]) H ∧ va_D A (List.flatten [bLaw g lo lc lz ll lm lg ld fc_13]) := ⟨upd fc ju.toNatClampNeg x_12, hP, hD⟩
      have hP : va_P g.1 vwCl (List.flatten [bLaw g lo lc lz ll lm lg ld fc_13]) H := hP
      have hD : va_D A (List.flatten [bLaw g lo lc lz ll lm lg ld fc_13]) := hD
      exact mret_v hx hb hr hlocks hS (Nat.le_of_ble_eq_true rfl) (Nat.le_of_ble_eq_true rfl) dX1_aim_35 (fc_13) rfl trivial hP hD
