set_option maxRecDepth 100000 in
set_option maxHeartbeats 4000000 in
theorem c_draw (l : Launch) (g : zG) (o : Nat) (a : Nat → Nat) (pe : Int32) (wo : Int32) (tx : Int32) (ch : Int32) (jo : Int32) (tr : Int32) (dy : Int32) (sd : Int32) (f : Nat → Nat → Int32)  : zM' g l yX9_draw (Cond.code yX9_draw cX9_draw 1 (some .int) :: zB) ({ frames := 0, cells := 0, slots := 0, locals := 0 } : Room) [.ref o] [bTown g o a pe wo tx ch jo tr dy sd f] (fun u : Int32 × Int32 => (fun (sd2 : Int32) (q : Int32) => some (.int q)) (u.1) (u.2)) (fun u : Int32 × Int32 => (fun (sd2 : Int32) (q : Int32) => True) (u.1) (u.2)) (fun u : Int32 × Int32 => (fun (sd2 : Int32) (q : Int32) => [bTown g o a pe wo tx ch jo tr dy sd2 f]) (u.1) (u.2)) := by
  refine zM'.of (cc := cX9_draw) (maxL := 1) (rt := (some .int)) (by decide) rfl (Nat.le_of_ble_eq_true rfl) ?_
  intro p e s m args below meth c A ls St hr hlocks hin hK hT hA hP hD hS hl
  obtain ⟨hx, hb, hml, hown, hts⟩ := id St
  have hl : lv_has ls 1 [(0, .ref o)] := hl
  refine lv_aload_n hx hb dX9_draw_0 rfl (lv_at hl 0 rfl) ?_
  refine lv_ldc (v := 1103515245) hx hb hown (hts _ k130) dX9_draw_1 ?_
  refine lv_aload_n hx hb dX9_draw_3 rfl (lv_at hl 0 rfl) ?_
  refine va_get (D := g.1) (ci := 7) (v := .int sd) (C := RX9) (T := TX9) (N := 19) hx hb hts izRX9 hown hK hP 0 rfl rfl 7 (by decide) (hts _ k7) (fun _ h9 => h9) rfl dX9_draw_4 ?_
  refine lv_imul hx hb dX9_draw_7 ?_
  refine zg (fun x_1 => ?_)
  refine lv_sipush (v := 12345) hx hb dX9_draw_8 (by decide) ?_
  refine lv_iadd hx hb dX9_draw_11 ?_
  refine zg (fun x_2 => ?_)
  refine va_put (D := g.1) (ci := 7) (v := .int x_2) (ty := .int) (C := RX9) (T := TX9) (N := 19) hx hb hts izRX9 tyX9 tyX9_ok nmX9 hown hK hP hD hS 0 rfl rfl 7 (by decide) (hts _ k7) (fun _ h9 => h9) rfl (by decide +kernel) rfl rfl (Nat.le_of_ble_eq_true rfl) dX9_draw_12 (fun H locs hP hD hS => ?_)
  have hP : va_P g.1 vwCl (List.flatten [bTown g o a pe wo tx ch jo tr dy x_2 f]) H := hP
  have hD : va_D A (List.flatten [bTown g o a pe wo tx ch jo tr dy x_2 f]) := hD
  refine lv_aload_n hx hb dX9_draw_15 rfl (lv_at hl 0 rfl) ?_
  refine va_get (D := g.1) (ci := 7) (v := .int x_2) (C := RX9) (T := TX9) (N := 19) hx hb hts izRX9 hown hK hP 0 rfl rfl 7 (by decide) (hts _ k7) (fun _ h9 => h9) rfl dX9_draw_16 ?_
  refine lv_bipush (v := 16) hx hb dX9_draw_19 (by decide) ?_
  refine lv_ishr hx hb dX9_draw_21 ?_
  refine zg (fun x_3 => ?_)
  refine lv_sipush (v := 32767) hx hb dX9_draw_22 (by decide) ?_
  refine lv_iand hx hb dX9_draw_25 ?_
  refine zgb (zand32767 _) (fun x_4 hx_4 => ?_)
  have hP : va_P g.1 vwCl (List.flatten [bTown g o a pe wo tx ch jo tr dy x_2 f]) H := hP
  have hD : va_D A (List.flatten [bTown g o a pe wo tx ch jo tr dy x_2 f]) := hD
  exact mret_i hx hb hr hlocks hS (Nat.le_of_ble_eq_true rfl) (Nat.le_of_ble_eq_true rfl) dX9_draw_26 (x_2, x_4) rfl trivial hP hD
set_option maxRecDepth 100000 in
set_option maxHeartbeats 4000000 in
theorem c_spread (l : Launch) (g : zG) (o : Nat) (a : Nat → Nat) (pe : Int32) (wo : Int32) (tx : Int32) (ch : Int32) (jo : Int32) (tr : Int32) (dy : Int32) (sd : Int32) (f : Nat → Nat → Int32) (x1 : Int32) (wa : Int32) (b_pe : 0 ≤ pe.toInt ∧ pe.toInt ≤ 8) (b_wo : 0 ≤ wo.toInt ∧ wo.toInt ≤ 6) (rf : zZ4 f) (b_x1 : 0 ≤ x1.toInt ∧ x1.toInt ≤ 7) : zM' g l yX9_spread (Cond.code yX9_spread cX9_spread 4 none :: zB) ({ frames := 3, cells := 0, slots := 0, locals := 57 } : Room) [.ref o, .int x1, .int wa] [bTown g o a pe wo tx ch jo tr dy sd f] (fun (f2 : Nat → Nat → Int32) => none) (fun (f2 : Nat → Nat → Int32) => (zZ4 f2)) (fun (f2 : Nat → Nat → Int32) => [bTown g o a pe wo tx ch jo tr dy sd f2]) := by
  refine zM'.of (cc := cX9_spread) (maxL := 4) (rt := none) (by decide) rfl (Nat.le_of_ble_eq_true rfl) ?_
  intro p e s m args below meth c A ls St hr hlocks hin hK hT hA hP hD hS hl
  obtain ⟨hx, hb, hml, hown, hts⟩ := id St
  have hl : lv_has ls 4 [(0, .ref o), (1, .int x1), (2, .int wa)] := hl
  refine lv_iconst (v := 0) hx hb dX9_spread_0 (by decide) ?_
  refine lv_istore_n (lv' := [(3, .int 0), (0, .ref o), (1, .int x1), (2, .int wa)]) hx hb dX9_spread_1 rfl hl (by decide) rfl (fun ls hl => ?_)
  have hl := lv_sub (l' := [(0, .ref o), (1, .int x1), (2, .int wa), (3, .int 0)]) hl [1, 2, 3, 0] rfl
  have LP2_4 : ∀ (kf : Nat) (x_1 : Int32) (f_2 : Nat → Nat → Int32), (0 ≤ x_1.toInt ∧ x_1.toInt ≤ 8) → (zZ4 f_2) → ∀ (H : Heap) (locs : List Loc) (ls : Array Slot), ((9 - x_1.toInt).toNat) < kf → va_P g.1 vwCl (List.flatten [bTown g o a pe wo tx ch jo tr dy sd f_2]) H → va_D A (List.flatten [bTown g o a pe wo tx ch jo tr dy sd f_2]) → va_S A s.heap H locs → lv_has ls 4 [(0, .ref o), (1, .int x1), (2, .int wa), (3, .int x_1)] → W p l e ({ frames := 3, cells := 0, slots := 0, locals := 57 } : Room) s m args below meth c H locs (0) (0) (zF g (fun (f2 : Nat → Nat → Int32) => none) (fun (f2 : Nat → Nat → Int32) => (zZ4 f2)) (fun (f2 : Nat → Nat → Int32) => [bTown g o a pe wo tx ch jo tr dy sd f2]) ({ frames := 3, cells := 0, slots := 0, locals := 57 } : Room) below args s A) (F0 m 2 ls []) := by
    intro kf
    induction kf with
    | zero => intro x_1 f_2 i3 rf_2 H locs ls hk; exact absurd hk (Nat.not_lt_zero _)
    | succ kf ih2_5 =>
      intro x_1 f_2 i3 rf_2 H locs ls hk2_5 hP hD hS hl
      refine lv_iload_n hx hb dX9_spread_2 rfl (lv_at hl 3 rfl) ?_
      refine lv_aload_n hx hb dX9_spread_3 rfl (lv_at hl 0 rfl) ?_
      refine va_get (D := g.1) (ci := 7) (v := .int pe) (C := RX9) (T := TX9) (N := 19) hx hb hts izRX9 hown hK hP 0 rfl rfl 0 (by decide) (hts _ k31) (fun _ h9 => h9) rfl dX9_spread_4 ?_
      refine lv_icmp_ge (tgt := 54) hx hb dX9_spread_7 (by decide) (fun cb9 => ?_) (fun cb9 => ?_)
      · skip
        have c6 : pe.toInt ≤ x_1.toInt := zle cb9 rfl rfl
        refine lv_aload_n hx hb dX9_spread_54 rfl (lv_at hl 0 rfl) ?_
        refine va_get (D := g.1) (ci := 7) (v := .ref (a 0)) (C := RX9) (T := TX9) (N := 19) hx hb hts izRX9 hown hK hP 0 rfl rfl 8 (by decide) (hts _ k9) (fun _ h9 => h9) rfl dX9_spread_55 ?_
        refine lv_iload_n hx hb dX9_spread_58 rfl (lv_at hl 1 rfl) ?_
        refine lv_iload_n hx hb dX9_spread_59 rfl (lv_at hl 2 rfl) ?_
        refine lv_if_eq (tgt := 68) hx hb dX9_spread_60 (by decide) (fun cb9 => ?_) (fun cb9 => ?_)
        · skip
          have c7 : wa.toInt = 0 := zeq cb9 rfl (by decide)
          have n8 : 0 ≤ wa.toInt := Int.le_trans (Int.le_refl _) (Int.le_of_eq c7.symm)
          have n9 : wa.toInt ≤ 0 := Int.le_trans (Int.le_of_eq c7) (Int.le_refl _)
          refine lv_iconst (v := 0) hx hb dX9_spread_68 (by decide) ?_
          refine va_iast hx hb hK hP hD hS 1 0 rfl rfl (zinK (a := 0) (b := 7) b_x1.1 b_x1.2 (by decide)) dX9_spread_69 (fun H locs hP hD hS => ?_)
          obtain ⟨f10, rf10, hP, hD⟩ : ∃ f10 : Nat → Nat → Int32, zZ4 f10 ∧ va_P g.1 vwCl (List.flatten [bTown g o a pe wo tx ch jo tr dy sd f10]) H ∧ va_D A (List.flatten [bTown g o a pe wo tx ch jo tr dy sd f10]) := ⟨zu f_2 0 (upd (f_2 0) x1.toNatClampNeg 0), (zZ4_u rf_2 (by decide)), hP, hD⟩
          have hP : va_P g.1 vwCl (List.flatten [bTown g o a pe wo tx ch jo tr dy sd f10]) H := hP
          have hD : va_D A (List.flatten [bTown g o a pe wo tx ch jo tr dy sd f10]) := hD
          exact mret_v hx hb hr hlocks hS (Nat.le_of_ble_eq_true rfl) (Nat.le_of_ble_eq_true rfl) dX9_spread_70 (f10) rfl (show (zZ4 f10) from rf10) hP hD
        · skip
          have c11 : ¬ wa.toInt = 0 := zne cb9 rfl (by decide)
          refine lv_bipush (v := 99) hx hb dX9_spread_63 (by decide) ?_
          refine lv_goto (tgt := 69) hx hb dX9_spread_65 (by decide) ?_
          refine va_iast hx hb hK hP hD hS 1 0 rfl rfl (zinK (a := 0) (b := 7) b_x1.1 b_x1.2 (by decide)) dX9_spread_69 (fun H locs hP hD hS => ?_)
          obtain ⟨f12, rf12, hP, hD⟩ : ∃ f12 : Nat → Nat → Int32, zZ4 f12 ∧ va_P g.1 vwCl (List.flatten [bTown g o a pe wo tx ch jo tr dy sd f12]) H ∧ va_D A (List.flatten [bTown g o a pe wo tx ch jo tr dy sd f12]) := ⟨zu f_2 0 (upd (f_2 0) x1.toNatClampNeg 99), (zZ4_u rf_2 (by decide)), hP, hD⟩
          have hP : va_P g.1 vwCl (List.flatten [bTown g o a pe wo tx ch jo tr dy sd f12]) H := hP
          have hD : va_D A (List.flatten [bTown g o a pe wo tx ch jo tr dy sd f12]) := hD
          exact mret_v hx hb hr hlocks hS (Nat.le_of_ble_eq_true rfl) (Nat.le_of_ble_eq_true rfl) dX9_spread_70 (f12) rfl (show (zZ4 f12) from rf12) hP hD
      · skip
        have c13 : x_1.toInt < pe.toInt := zlti (Int32.not_le.mp cb9) rfl rfl
        have n14 : x_1.toInt ≤ 7 := zL1 (b := 8) c13 b_pe.2 (by decide)
        have n15 : 1 ≤ pe.toInt := zL2 (a := 0) c13 i3.1 (by decide)
        refine lv_iload_n hx hb dX9_spread_10 rfl (lv_at hl 3 rfl) ?_
        refine lv_iload_n hx hb dX9_spread_11 rfl (lv_at hl 1 rfl) ?_
        refine lv_icmp_eq (tgt := 48) hx hb dX9_spread_12 (by decide) (fun cb9 => ?_) (fun cb9 => ?_)
        · skip
          have c16 : x_1.toInt = x1.toInt := zeq cb9 rfl rfl
          refine ziinc3 (n' := 1) (a' := 1) (b' := 8) (lv' := fun v9 => [(3, .int v9), (0, .ref o), (1, .int x1), (2, .int wa)]) hx hb dX9_spread_48 hl (k := 3) rfl (by decide) (fun _ => rfl) (zaddK (i := x_1.toInt) (j := 1) rfl (by decide) i3.1 n14 (Int.le_refl _) (Int.le_refl _) (by decide)) (fun x_17 ls hx_17 hl => ?_)
          refine lv_goto (tgt := 2) hx hb dX9_spread_51 (by decide) ?_
          have hl := lv_sub (l' := [(0, .ref o), (1, .int x1), (2, .int wa), (3, .int x_17)]) hl [1, 2, 3, 0] rfl
          have hP : va_P g.1 vwCl (List.flatten [bTown g o a pe wo tx ch jo tr dy sd f_2]) H := hP
          have hD : va_D A (List.flatten [bTown g o a pe wo tx ch jo tr dy sd f_2]) := hD
          exact ih2_5 x_17 f_2 ⟨(Int.le_trans (by decide) hx_17.2.1), hx_17.2.2⟩ rf_2 H _ ls (zmK hx_17.1 (by decide) n14 (by decide) hk2_5)  hP hD hS (lv_sub hl [0, 1, 2, 3] rfl)
        · skip
          have c18 : ¬ x_1.toInt = x1.toInt := zne cb9 rfl rfl
          refine lv_aload_n hx hb dX9_spread_15 rfl (lv_at hl 0 rfl) ?_
          refine lv_iload_n hx hb dX9_spread_16 rfl (lv_at hl 3 rfl) ?_
          refine mcallV' (g := g) (q0 := 0) (ci := 7) (As := [.int x_1]) (rest := []) St hK hT hA hP hD hS hl.1 [0] [] rfl rfl rfl (c_isHere l g o a pe wo tx ch jo tr dy sd f_2 x_1 (⟨i3.1, n14⟩)) (cwV 1 hts (zgL (zl4 k53 k54 k55 k24) k51) rfl rfl rfl (by decide +kernel) ⟨Nat.le_of_ble_eq_true rfl, Nat.le_of_ble_eq_true rfl⟩) rfl rfl rfl rfl (Nat.le_of_ble_eq_true rfl) dX9_spread_17 ⟨(Nat.le_of_ble_eq_true rfl), (Nat.le_of_ble_eq_true rfl)⟩ (fun q_19 H locs hq20 hP hD hS => ?_)
          replace hq20 : (q_19 = 0 ∨ q_19 = 1) := hq20
          have hP : va_P g.1 vwCl (List.flatten [bTown g o a pe wo tx ch jo tr dy sd f_2]) H := hP
          have hD : va_D A (List.flatten [bTown g o a pe wo tx ch jo tr dy sd f_2]) := hD
          refine W.widen (k := 0) (n := 0) (Nat.le_of_ble_eq_true rfl) (Nat.le_of_ble_eq_true rfl) ?_
          refine W.eq (g2 := F0 m 20 ls [.int q_19]) rfl ?_
          rcases hq20 with rfl | rfl
          · skip
            refine lv_if_eq (tgt := 48) hx hb dX9_spread_20 (by decide) (fun _ => ?_) (fun c21 => absurd (by decide) c21)
            refine ziinc3 (n' := 1) (a' := 1) (b' := 8) (lv' := fun v9 => [(3, .int v9), (0, .ref o), (1, .int x1), (2, .int wa)]) hx hb dX9_spread_48 hl (k := 3) rfl (by decide) (fun _ => rfl) (zaddK (i := x_1.toInt) (j := 1) rfl (by decide) i3.1 n14 (Int.le_refl _) (Int.le_refl _) (by decide)) (fun x_22 ls hx_22 hl => ?_)
            refine lv_goto (tgt := 2) hx hb dX9_spread_51 (by decide) ?_
            have hl := lv_sub (l' := [(0, .ref o), (1, .int x1), (2, .int wa), (3, .int x_22)]) hl [1, 2, 3, 0] rfl
            have hP : va_P g.1 vwCl (List.flatten [bTown g o a pe wo tx ch jo tr dy sd f_2]) H := hP
            have hD : va_D A (List.flatten [bTown g o a pe wo tx ch jo tr dy sd f_2]) := hD
            exact ih2_5 x_22 f_2 ⟨(Int.le_trans (by decide) hx_22.2.1), hx_22.2.2⟩ rf_2 H _ ls (zmK hx_22.1 (by decide) n14 (by decide) hk2_5)  hP hD hS (lv_sub hl [0, 1, 2, 3] rfl)
          · skip
            refine lv_if_eq (tgt := 48) hx hb dX9_spread_20 (by decide) (fun c23 => absurd c23 (by decide)) (fun _ => ?_)
            refine lv_aload_n hx hb dX9_spread_23 rfl (lv_at hl 0 rfl) ?_
            refine lv_iload_n hx hb dX9_spread_24 rfl (lv_at hl 3 rfl) ?_
            refine lv_iload_n hx hb dX9_spread_25 rfl (lv_at hl 2 rfl) ?_
            refine lv_if_eq (tgt := 38) hx hb dX9_spread_26 (by decide) (fun cb9 => ?_) (fun cb9 => ?_)
            · skip
              have c24 : wa.toInt = 0 := zeq cb9 rfl (by decide)
              have n25 : 0 ≤ wa.toInt := Int.le_trans (Int.le_refl _) (Int.le_of_eq c24.symm)
              have n26 : wa.toInt ≤ 0 := Int.le_trans (Int.le_of_eq c24) (Int.le_refl _)
              refine lv_aload_n hx hb dX9_spread_38 rfl (lv_at hl 0 rfl) ?_
              refine lv_iload_n hx hb dX9_spread_39 rfl (lv_at hl 3 rfl) ?_
              refine lv_iload_n hx hb dX9_spread_40 rfl (lv_at hl 1 rfl) ?_
              refine mcallV' (g := g) (q0 := 0) (ci := 7) (As := [.int x_1, .int x1]) (rest := [.int x_1, .ref o]) St hK hT hA hP hD hS hl.1 [0] [] rfl rfl rfl (c_trustOf l g o a pe wo tx ch jo tr dy sd f_2 x_1 x1 (⟨i3.1, n14⟩) b_x1) (cwV 2 hts (zgL (zl4 k89 k90 k91 k24) k87) rfl rfl rfl (by decide +kernel) ⟨Nat.le_of_ble_eq_true rfl, Nat.le_of_ble_eq_true rfl⟩) rfl rfl rfl rfl (Nat.le_of_ble_eq_true rfl) dX9_spread_41 ⟨(Nat.le_of_ble_eq_true rfl), (Nat.le_of_ble_eq_true rfl)⟩ (fun q_27 H locs hq28 hP hD hS => ?_)
              have hP : va_P g.1 vwCl (List.flatten [bTown g o a pe wo tx ch jo tr dy sd f_2]) H := hP
              have hD : va_D A (List.flatten [bTown g o a pe wo tx ch jo tr dy sd f_2]) := hD
              refine W.widen (k := 0) (n := 0) (Nat.le_of_ble_eq_true rfl) (Nat.le_of_ble_eq_true rfl) ?_
              refine W.eq (g2 := F0 m 44 ls [.int q_27, .int x_1, .ref o]) rfl ?_
              refine lv_ineg hx hb dX9_spread_44 ?_
              refine zg (fun x_29 => ?_)
              refine mcallV' (g := g) (q0 := 0) (ci := 7) (As := [.int x_1, .int x_29]) (rest := []) St hK hT hA hP hD hS hl.1 [0] [] rfl rfl rfl (c_raise l g o a pe wo tx ch jo tr dy sd f_2 x_1 x_29 rf_2 (⟨i3.1, n14⟩)) (cwV 2 hts (zgL (zl4 k131 k132 k133 k24) k47) rfl rfl rfl (by decide +kernel) ⟨Nat.le_of_ble_eq_true rfl, Nat.le_of_ble_eq_true rfl⟩) rfl rfl rfl rfl (Nat.le_of_ble_eq_true rfl) dX9_spread_45 ⟨(Nat.le_of_ble_eq_true rfl), (Nat.le_of_ble_eq_true rfl)⟩ (fun f2_30 H locs hq31 hP hD hS => ?_)
              replace hq31 : (zZ4 f2_30) := hq31
              have hP : va_P g.1 vwCl (List.flatten [bTown g o a pe wo tx ch jo tr dy sd f2_30]) H := hP
              have hD : va_D A (List.flatten [bTown g o a pe wo tx ch jo tr dy sd f2_30]) := hD
              refine W.widen (k := 0) (n := 0) (Nat.le_of_ble_eq_true rfl) (Nat.le_of_ble_eq_true rfl) ?_
              refine W.eq (g2 := F0 m 48 ls []) rfl ?_
              have rf2_30 := hq31; clear hq31
              refine ziinc3 (n' := 1) (a' := 1) (b' := 8) (lv' := fun v9 => [(3, .int v9), (0, .ref o), (1, .int x1), (2, .int wa)]) hx hb dX9_spread_48 hl (k := 3) rfl (by decide) (fun _ => rfl) (zaddK (i := x_1.toInt) (j := 1) rfl (by decide) i3.1 n14 (Int.le_refl _) (Int.le_refl _) (by decide)) (fun x_32 ls hx_32 hl => ?_)
              refine lv_goto (tgt := 2) hx hb dX9_spread_51 (by decide) ?_
              have hl := lv_sub (l' := [(0, .ref o), (1, .int x1), (2, .int wa), (3, .int x_32)]) hl [1, 2, 3, 0] rfl
              have hP : va_P g.1 vwCl (List.flatten [bTown g o a pe wo tx ch jo tr dy sd f2_30]) H := hP
              have hD : va_D A (List.flatten [bTown g o a pe wo tx ch jo tr dy sd f2_30]) := hD
              exact ih2_5 x_32 f2_30 ⟨(Int.le_trans (by decide) hx_32.2.1), hx_32.2.2⟩ rf2_30 H _ ls (zmK hx_32.1 (by decide) n14 (by decide) hk2_5)  hP hD hS (lv_sub hl [0, 1, 2, 3] rfl)
            · skip
              have c33 : ¬ wa.toInt = 0 := zne cb9 rfl (by decide)
              refine lv_aload_n hx hb dX9_spread_29 rfl (lv_at hl 0 rfl) ?_
              refine lv_iload_n hx hb dX9_spread_30 rfl (lv_at hl 3 rfl) ?_
              refine lv_iload_n hx hb dX9_spread_31 rfl (lv_at hl 1 rfl) ?_
              refine mcallV' (g := g) (q0 := 0) (ci := 7) (As := [.int x_1, .int x1]) (rest := [.int x_1, .ref o]) St hK hT hA hP hD hS hl.1 [0] [] rfl rfl rfl (c_trustOf l g o a pe wo tx ch jo tr dy sd f_2 x_1 x1 (⟨i3.1, n14⟩) b_x1) (cwV 2 hts (zgL (zl4 k89 k90 k91 k24) k87) rfl rfl rfl (by decide +kernel) ⟨Nat.le_of_ble_eq_true rfl, Nat.le_of_ble_eq_true rfl⟩) rfl rfl rfl rfl (Nat.le_of_ble_eq_true rfl) dX9_spread_32 ⟨(Nat.le_of_ble_eq_true rfl), (Nat.le_of_ble_eq_true rfl)⟩ (fun q_34 H locs hq35 hP hD hS => ?_)
              have hP : va_P g.1 vwCl (List.flatten [bTown g o a pe wo tx ch jo tr dy sd f_2]) H := hP
              have hD : va_D A (List.flatten [bTown g o a pe wo tx ch jo tr dy sd f_2]) := hD
              refine W.widen (k := 0) (n := 0) (Nat.le_of_ble_eq_true rfl) (Nat.le_of_ble_eq_true rfl) ?_
              refine W.eq (g2 := F0 m 35 ls [.int q_34, .int x_1, .ref o]) rfl ?_
              refine lv_goto (tgt := 45) hx hb dX9_spread_35 (by decide) ?_
              refine mcallV' (g := g) (q0 := 0) (ci := 7) (As := [.int x_1, .int q_34]) (rest := []) St hK hT hA hP hD hS hl.1 [0] [] rfl rfl rfl (c_raise l g o a pe wo tx ch jo tr dy sd f_2 x_1 q_34 rf_2 (⟨i3.1, n14⟩)) (cwV 2 hts (zgL (zl4 k131 k132 k133 k24) k47) rfl rfl rfl (by decide +kernel) ⟨Nat.le_of_ble_eq_true rfl, Nat.le_of_ble_eq_true rfl⟩) rfl rfl rfl rfl (Nat.le_of_ble_eq_true rfl) dX9_spread_45 ⟨(Nat.le_of_ble_eq_true rfl), (Nat.le_of_ble_eq_true rfl)⟩ (fun f2_36 H locs hq37 hP hD hS => ?_)
              replace hq37 : (zZ4 f2_36) := hq37
              have hP : va_P g.1 vwCl (List.flatten [bTown g o a pe wo tx ch jo tr dy sd f2_36]) H := hP
              have hD : va_D A (List.flatten [bTown g o a pe wo tx ch jo tr dy sd f2_36]) := hD
              refine W.widen (k := 0) (n := 0) (Nat.le_of_ble_eq_true rfl) (Nat.le_of_ble_eq_true rfl) ?_
              refine W.eq (g2 := F0 m 48 ls []) rfl ?_
              have rf2_36 := hq37; clear hq37
              refine ziinc3 (n' := 1) (a' := 1) (b' := 8) (lv' := fun v9 => [(3, .int v9), (0, .ref o), (1, .int x1), (2, .int wa)]) hx hb dX9_spread_48 hl (k := 3) rfl (by decide) (fun _ => rfl) (zaddK (i := x_1.toInt) (j := 1) rfl (by decide) i3.1 n14 (Int.le_refl _) (Int.le_refl _) (by decide)) (fun x_38 ls hx_38 hl => ?_)
              refine lv_goto (tgt := 2) hx hb dX9_spread_51 (by decide) ?_
              have hl := lv_sub (l' := [(0, .ref o), (1, .int x1), (2, .int wa), (3, .int x_38)]) hl [1, 2, 3, 0] rfl
              have hP : va_P g.1 vwCl (List.flatten [bTown g o a pe wo tx ch jo tr dy sd f2_36]) H := hP
              have hD : va_D A (List.flatten [bTown g o a pe wo tx ch jo tr dy sd f2_36]) := hD
              exact ih2_5 x_38 f2_36 ⟨(Int.le_trans (by decide) hx_38.2.1), hx_38.2.2⟩ rf2_36 H _ ls (zmK hx_38.1 (by decide) n14 (by decide) hk2_5)  hP hD hS (lv_sub hl [0, 1, 2, 3] rfl)
  have hP : va_P g.1 vwCl (List.flatten [bTown g o a pe wo tx ch jo tr dy sd f]) s.heap := hP
  have hD : va_D A (List.flatten [bTown g o a pe wo tx ch jo tr dy sd f]) := hD
  exact LP2_4 _ 0 f (by decide) rf s.heap _ ls (Nat.lt_succ_self _)  hP hD hS (lv_sub hl [0, 1, 2, 3] rfl)
