set_option maxRecDepth 100000 in
set_option maxHeartbeats 4000000 in
theorem c_addWork (l : Launch) (g : zG) (o : Nat) (a : Nat → Nat) (pe : Int32) (wo : Int32) (tx : Int32) (ch : Int32) (jo : Int32) (tr : Int32) (dy : Int32) (sd : Int32) (f : Nat → Nat → Int32) (co : Int32) (ne9 : Int32) (ga : Int32) (b_pe : 0 ≤ pe.toInt ∧ pe.toInt ≤ 8) (b_wo : 0 ≤ wo.toInt ∧ wo.toInt ≤ 6) (rf : zZ4 f) : zM' g l yX9_addWork (Cond.code yX9_addWork cX9_addWork 5 none :: zB) ({ frames := 0, cells := 0, slots := 0, locals := 0 } : Room) [.ref o, .int co, .int ne9, .int ga] [bTown g o a pe wo tx ch jo tr dy sd f] (fun u : Int32 × (Nat → Nat → Int32) => (fun (wo2 : Int32) (f2 : Nat → Nat → Int32) => none) (u.1) (u.2)) (fun u : Int32 × (Nat → Nat → Int32) => (fun (wo2 : Int32) (f2 : Nat → Nat → Int32) => (0 ≤ wo2.toInt ∧ wo2.toInt ≤ 6) ∧ (zZ4 f2)) (u.1) (u.2)) (fun u : Int32 × (Nat → Nat → Int32) => (fun (wo2 : Int32) (f2 : Nat → Nat → Int32) => [bTown g o a pe wo2 tx ch jo tr dy sd f2]) (u.1) (u.2)) := by
  refine zM'.of (cc := cX9_addWork) (maxL := 5) (rt := none) (by decide) rfl (Nat.le_of_ble_eq_true rfl) ?_
  intro p e s m args below meth c A ls St hr hlocks hin hK hT hA hP hD hS hl
  obtain ⟨hx, hb, hml, hown, hts⟩ := id St
  have hl : lv_has ls 5 [(0, .ref o), (1, .int co), (2, .int ne9), (3, .int ga)] := hl
  refine lv_aload_n hx hb dX9_addWork_0 rfl (lv_at hl 0 rfl) ?_
  refine va_get (D := g.1) (ci := 7) (v := .int wo) (C := RX9) (T := TX9) (N := 19) hx hb hts izRX9 hown hK hP 0 rfl rfl 1 (by decide) (hts _ k32) (fun _ h9 => h9) rfl dX9_addWork_1 ?_
  refine lv_istore (lv' := [(4, .int wo), (0, .ref o), (1, .int co), (2, .int ne9), (3, .int ga)]) hx hb dX9_addWork_4 hl (by decide) rfl (fun ls hl => ?_)
  refine lv_iload hx hb dX9_addWork_6 (lv_at hl 0 rfl) ?_
  refine lv_bipush (v := 6) hx hb dX9_addWork_8 (by decide) ?_
  refine lv_icmp_lt (tgt := 14) hx hb dX9_addWork_10 (by decide) (fun cb9 => ?_) (fun cb9 => ?_)
  · skip
    have c1 : wo.toInt < 6 := zlti cb9 rfl (by decide)
    have n2 : wo.toInt ≤ 5 := zL1 (b := 6) c1 (Int.le_refl _) (by decide)
    refine lv_aload_n hx hb dX9_addWork_14 rfl (lv_at hl 1 rfl) ?_
    refine lv_dup hx hb dX9_addWork_15 rfl ?_
    refine va_get (D := g.1) (ci := 7) (v := .int wo) (C := RX9) (T := TX9) (N := 19) hx hb hts izRX9 hown hK hP 0 rfl rfl 1 (by decide) (hts _ k32) (fun _ h9 => h9) rfl dX9_addWork_16 ?_
    refine lv_iconst (v := 1) hx hb dX9_addWork_19 (by decide) ?_
    refine lv_iadd hx hb dX9_addWork_20 ?_
    refine zg3 (zaddK (i := wo.toInt) (j := 1) (a' := 1) (b' := 6) rfl (by decide) b_wo.1 n2 (Int.le_refl _) (Int.le_refl _) (by decide)) (fun x_3 hx_3 => ?_)
    refine va_put (D := g.1) (ci := 7) (v := .int x_3) (ty := .int) (C := RX9) (T := TX9) (N := 19) hx hb hts izRX9 tyX9 tyX9_ok nmX9 hown hK hP hD hS 0 rfl rfl 1 (by decide) (hts _ k32) (fun _ h9 => h9) rfl (by decide +kernel) rfl rfl (Nat.le_of_ble_eq_true rfl) dX9_addWork_21 (fun H locs hP hD hS => ?_)
    have hP : va_P g.1 vwCl (List.flatten [bTown g o a pe x_3 tx ch jo tr dy sd f]) H := hP
    have hD : va_D A (List.flatten [bTown g o a pe x_3 tx ch jo tr dy sd f]) := hD
    refine lv_aload_n hx hb dX9_addWork_24 rfl (lv_at hl 1 rfl) ?_
    refine va_get (D := g.1) (ci := 7) (v := .ref (a 6)) (C := RX9) (T := TX9) (N := 19) hx hb hts izRX9 hown hK hP 0 rfl rfl 14 (by decide) (hts _ k16) (fun _ h9 => h9) rfl dX9_addWork_25 ?_
    refine lv_iload hx hb dX9_addWork_28 (lv_at hl 0 rfl) ?_
    refine lv_iload_n hx hb dX9_addWork_30 rfl (lv_at hl 2 rfl) ?_
    refine va_iast hx hb hK hP hD hS 7 0 rfl rfl (zinK (a := 0) (b := 5) b_wo.1 n2 (by decide)) dX9_addWork_31 (fun H locs hP hD hS => ?_)
    obtain ⟨f4, rf4, hP, hD⟩ : ∃ f4 : Nat → Nat → Int32, zZ4 f4 ∧ va_P g.1 vwCl (List.flatten [bTown g o a pe x_3 tx ch jo tr dy sd f4]) H ∧ va_D A (List.flatten [bTown g o a pe x_3 tx ch jo tr dy sd f4]) := ⟨zu f 6 (upd (f 6) wo.toNatClampNeg co), (zZ4_u rf (by decide)), hP, hD⟩
    refine lv_aload_n hx hb dX9_addWork_32 rfl (lv_at hl 1 rfl) ?_
    refine va_get (D := g.1) (ci := 7) (v := .ref (a 7)) (C := RX9) (T := TX9) (N := 19) hx hb hts izRX9 hown hK hP 0 rfl rfl 15 (by decide) (hts _ k17) (fun _ h9 => h9) rfl dX9_addWork_33 ?_
    refine lv_iload hx hb dX9_addWork_36 (lv_at hl 0 rfl) ?_
    refine lv_iload_n hx hb dX9_addWork_38 rfl (lv_at hl 3 rfl) ?_
    refine va_iast hx hb hK hP hD hS 8 0 rfl rfl (zinK (a := 0) (b := 5) b_wo.1 n2 (by decide)) dX9_addWork_39 (fun H locs hP hD hS => ?_)
    obtain ⟨f5, rf5, hP, hD⟩ : ∃ f5 : Nat → Nat → Int32, zZ4 f5 ∧ va_P g.1 vwCl (List.flatten [bTown g o a pe x_3 tx ch jo tr dy sd f5]) H ∧ va_D A (List.flatten [bTown g o a pe x_3 tx ch jo tr dy sd f5]) := ⟨zu f4 7 (upd (f4 7) wo.toNatClampNeg ne9), (zZ4_u rf4 (by decide)), hP, hD⟩
    refine lv_aload_n hx hb dX9_addWork_40 rfl (lv_at hl 1 rfl) ?_
    refine va_get (D := g.1) (ci := 7) (v := .ref (a 8)) (C := RX9) (T := TX9) (N := 19) hx hb hts izRX9 hown hK hP 0 rfl rfl 16 (by decide) (hts _ k18) (fun _ h9 => h9) rfl dX9_addWork_41 ?_
    refine lv_iload hx hb dX9_addWork_44 (lv_at hl 0 rfl) ?_
    refine lv_iload_n hx hb dX9_addWork_46 rfl (lv_at hl 4 rfl) ?_
    refine va_iast hx hb hK hP hD hS 9 0 rfl rfl (zinK (a := 0) (b := 5) b_wo.1 n2 (by decide)) dX9_addWork_47 (fun H locs hP hD hS => ?_)
    obtain ⟨f6, rf6, hP, hD⟩ : ∃ f6 : Nat → Nat → Int32, zZ4 f6 ∧ va_P g.1 vwCl (List.flatten [bTown g o a pe x_3 tx ch jo tr dy sd f6]) H ∧ va_D A (List.flatten [bTown g o a pe x_3 tx ch jo tr dy sd f6]) := ⟨zu f5 8 (upd (f5 8) wo.toNatClampNeg ga), (zZ4_u rf5 (by decide)), hP, hD⟩
    refine lv_aload_n hx hb dX9_addWork_48 rfl (lv_at hl 1 rfl) ?_
    refine va_get (D := g.1) (ci := 7) (v := .ref (a 9)) (C := RX9) (T := TX9) (N := 19) hx hb hts izRX9 hown hK hP 0 rfl rfl 17 (by decide) (hts _ k19) (fun _ h9 => h9) rfl dX9_addWork_49 ?_
    refine lv_iload hx hb dX9_addWork_52 (lv_at hl 0 rfl) ?_
    refine lv_iconst (v := 0) hx hb dX9_addWork_54 (by decide) ?_
    refine va_iast hx hb hK hP hD hS 10 0 rfl rfl (zinK (a := 0) (b := 5) b_wo.1 n2 (by decide)) dX9_addWork_55 (fun H locs hP hD hS => ?_)
    obtain ⟨f7, rf7, hP, hD⟩ : ∃ f7 : Nat → Nat → Int32, zZ4 f7 ∧ va_P g.1 vwCl (List.flatten [bTown g o a pe x_3 tx ch jo tr dy sd f7]) H ∧ va_D A (List.flatten [bTown g o a pe x_3 tx ch jo tr dy sd f7]) := ⟨zu f6 9 (upd (f6 9) wo.toNatClampNeg 0), (zZ4_u rf6 (by decide)), hP, hD⟩
    have hP : va_P g.1 vwCl (List.flatten [bTown g o a pe x_3 tx ch jo tr dy sd f7]) H := hP
    have hD : va_D A (List.flatten [bTown g o a pe x_3 tx ch jo tr dy sd f7]) := hD
    exact mret_v hx hb hr hlocks hS (Nat.le_of_ble_eq_true rfl) (Nat.le_of_ble_eq_true rfl) dX9_addWork_56 (x_3, f7) rfl (show (0 ≤ x_3.toInt ∧ x_3.toInt ≤ 6) ∧ (zZ4 f7) from ⟨(by first | assumption | omega | decide | exact rfl | exact zb01 (by omega) | exact Or.inl (by decide) | exact Or.inr (by first | omega | decide)), rf7⟩) hP hD
  · skip
    have c8 : 6 ≤ wo.toInt := zle (Int32.not_lt.mp cb9) (by decide) rfl
    have n9 : 6 ≤ wo.toInt := Int.le_trans (Int.le_refl _) c8
    have hP : va_P g.1 vwCl (List.flatten [bTown g o a pe wo tx ch jo tr dy sd f]) s.heap := hP
    have hD : va_D A (List.flatten [bTown g o a pe wo tx ch jo tr dy sd f]) := hD
    exact mret_v hx hb hr hlocks hS (Nat.le_of_ble_eq_true rfl) (Nat.le_of_ble_eq_true rfl) dX9_addWork_13 (wo, f) rfl (show (0 ≤ wo.toInt ∧ wo.toInt ≤ 6) ∧ (zZ4 f) from ⟨b_wo, rf⟩) hP hD
