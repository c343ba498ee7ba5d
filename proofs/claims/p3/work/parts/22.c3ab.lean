set_option maxRecDepth 100000 in
set_option maxHeartbeats 4000000 in
theorem c_addPerson (l : Launch) (g : zG) (o : Nat) (a : Nat → Nat) (pe : Int32) (wo : Int32) (tx : Int32) (ch : Int32) (jo : Int32) (tr : Int32) (dy : Int32) (sd : Int32) (f : Nat → Nat → Int32) (be : Int32) (ha : Int32) (di : Int32) (b_pe : 0 ≤ pe.toInt ∧ pe.toInt ≤ 8) (b_wo : 0 ≤ wo.toInt ∧ wo.toInt ≤ 6) (rf : zZ4 f) (hdi : di = 0 ∨ di = 1) : zM' g l yX9_addPerson (Cond.code yX9_addPerson cX9_addPerson 6 none :: zB) ({ frames := 1, cells := 0, slots := 0, locals := 23 } : Room) [.ref o, .int be, .int ha, .int di] [bTown g o a pe wo tx ch jo tr dy sd f] (fun u : Int32 × (Nat → Nat → Int32) => (fun (pe2 : Int32) (f2 : Nat → Nat → Int32) => none) (u.1) (u.2)) (fun u : Int32 × (Nat → Nat → Int32) => (fun (pe2 : Int32) (f2 : Nat → Nat → Int32) => (0 ≤ pe2.toInt ∧ pe2.toInt ≤ 8) ∧ (zZ4 f2)) (u.1) (u.2)) (fun u : Int32 × (Nat → Nat → Int32) => (fun (pe2 : Int32) (f2 : Nat → Nat → Int32) => [bTown g o a pe2 wo tx ch jo tr dy sd f2]) (u.1) (u.2)) := by
  refine zM'.of (cc := cX9_addPerson) (maxL := 6) (rt := none) (by decide) rfl (Nat.le_of_ble_eq_true rfl) ?_
  intro p e s m args below meth c A ls St hr hlocks hin hK hT hA hP hD hS hl
  obtain ⟨hx, hb, hml, hown, hts⟩ := id St
  have hl : lv_has ls 6 [(0, .ref o), (1, .int be), (2, .int ha), (3, .int di)] := hl
  refine lv_aload_n hx hb dX9_addPerson_0 rfl (lv_at hl 0 rfl) ?_
  refine va_get (D := g.1) (ci := 7) (v := .int pe) (C := RX9) (T := TX9) (N := 19) hx hb hts izRX9 hown hK hP 0 rfl rfl 0 (by decide) (hts _ k31) (fun _ h9 => h9) rfl dX9_addPerson_1 ?_
  refine lv_istore (lv' := [(4, .int pe), (0, .ref o), (1, .int be), (2, .int ha), (3, .int di)]) hx hb dX9_addPerson_4 hl (by decide) rfl (fun ls hl => ?_)
  refine lv_iload hx hb dX9_addPerson_6 (lv_at hl 0 rfl) ?_
  refine lv_bipush (v := 8) hx hb dX9_addPerson_8 (by decide) ?_
  refine lv_icmp_lt (tgt := 14) hx hb dX9_addPerson_10 (by decide) (fun cb9 => ?_) (fun cb9 => ?_)
  · skip
    have c1 : pe.toInt < 8 := zlti cb9 rfl (by decide)
    have n2 : pe.toInt ≤ 7 := zL1 (b := 8) c1 (Int.le_refl _) (by decide)
    refine lv_aload_n hx hb dX9_addPerson_14 rfl (lv_at hl 1 rfl) ?_
    refine lv_dup hx hb dX9_addPerson_15 rfl ?_
    refine va_get (D := g.1) (ci := 7) (v := .int pe) (C := RX9) (T := TX9) (N := 19) hx hb hts izRX9 hown hK hP 0 rfl rfl 0 (by decide) (hts _ k31) (fun _ h9 => h9) rfl dX9_addPerson_16 ?_
    refine lv_iconst (v := 1) hx hb dX9_addPerson_19 (by decide) ?_
    refine lv_iadd hx hb dX9_addPerson_20 ?_
    refine zg3 (zaddK (i := pe.toInt) (j := 1) (a' := 1) (b' := 8) rfl (by decide) b_pe.1 n2 (Int.le_refl _) (Int.le_refl _) (by decide)) (fun x_3 hx_3 => ?_)
    refine va_put (D := g.1) (ci := 7) (v := .int x_3) (ty := .int) (C := RX9) (T := TX9) (N := 19) hx hb hts izRX9 tyX9 tyX9_ok nmX9 hown hK hP hD hS 0 rfl rfl 0 (by decide) (hts _ k31) (fun _ h9 => h9) rfl (by decide +kernel) rfl rfl (Nat.le_of_ble_eq_true rfl) dX9_addPerson_21 (fun H locs hP hD hS => ?_)
    have hP : va_P g.1 vwCl (List.flatten [bTown g o a x_3 wo tx ch jo tr dy sd f]) H := hP
    have hD : va_D A (List.flatten [bTown g o a x_3 wo tx ch jo tr dy sd f]) := hD
    refine lv_aload_n hx hb dX9_addPerson_24 rfl (lv_at hl 1 rfl) ?_
    refine va_get (D := g.1) (ci := 7) (v := .ref (a 0)) (C := RX9) (T := TX9) (N := 19) hx hb hts izRX9 hown hK hP 0 rfl rfl 8 (by decide) (hts _ k9) (fun _ h9 => h9) rfl dX9_addPerson_25 ?_
    refine lv_iload hx hb dX9_addPerson_28 (lv_at hl 0 rfl) ?_
    refine lv_iload_n hx hb dX9_addPerson_30 rfl (lv_at hl 2 rfl) ?_
    refine va_iast hx hb hK hP hD hS 1 0 rfl rfl (zinK (a := 0) (b := 7) b_pe.1 n2 (by decide)) dX9_addPerson_31 (fun H locs hP hD hS => ?_)
    obtain ⟨f4, rf4, hP, hD⟩ : ∃ f4 : Nat → Nat → Int32, zZ4 f4 ∧ va_P g.1 vwCl (List.flatten [bTown g o a x_3 wo tx ch jo tr dy sd f4]) H ∧ va_D A (List.flatten [bTown g o a x_3 wo tx ch jo tr dy sd f4]) := ⟨zu f 0 (upd (f 0) pe.toNatClampNeg be), (zZ4_u rf (by decide)), hP, hD⟩
    refine lv_aload_n hx hb dX9_addPerson_32 rfl (lv_at hl 1 rfl) ?_
    refine va_get (D := g.1) (ci := 7) (v := .ref (a 1)) (C := RX9) (T := TX9) (N := 19) hx hb hts izRX9 hown hK hP 0 rfl rfl 9 (by decide) (hts _ k10) (fun _ h9 => h9) rfl dX9_addPerson_33 ?_
    refine lv_iload hx hb dX9_addPerson_36 (lv_at hl 0 rfl) ?_
    refine lv_iload_n hx hb dX9_addPerson_38 rfl (lv_at hl 3 rfl) ?_
    refine va_iast hx hb hK hP hD hS 2 0 rfl rfl (zinK (a := 0) (b := 7) b_pe.1 n2 (by decide)) dX9_addPerson_39 (fun H locs hP hD hS => ?_)
    obtain ⟨f5, rf5, hP, hD⟩ : ∃ f5 : Nat → Nat → Int32, zZ4 f5 ∧ va_P g.1 vwCl (List.flatten [bTown g o a x_3 wo tx ch jo tr dy sd f5]) H ∧ va_D A (List.flatten [bTown g o a x_3 wo tx ch jo tr dy sd f5]) := ⟨zu f4 1 (upd (f4 1) pe.toNatClampNeg ha), (zZ4_u rf4 (by decide)), hP, hD⟩
    refine lv_aload_n hx hb dX9_addPerson_40 rfl (lv_at hl 1 rfl) ?_
    refine va_get (D := g.1) (ci := 7) (v := .ref (a 2)) (C := RX9) (T := TX9) (N := 19) hx hb hts izRX9 hown hK hP 0 rfl rfl 10 (by decide) (hts _ k11) (fun _ h9 => h9) rfl dX9_addPerson_41 ?_
    refine lv_iload hx hb dX9_addPerson_44 (lv_at hl 0 rfl) ?_
    refine lv_iconst (v := 0) hx hb dX9_addPerson_46 (by decide) ?_
    refine va_iast hx hb hK hP hD hS 3 0 rfl rfl (zinK (a := 0) (b := 7) b_pe.1 n2 (by decide)) dX9_addPerson_47 (fun H locs hP hD hS => ?_)
    obtain ⟨f6, rf6, hP, hD⟩ : ∃ f6 : Nat → Nat → Int32, zZ4 f6 ∧ va_P g.1 vwCl (List.flatten [bTown g o a x_3 wo tx ch jo tr dy sd f6]) H ∧ va_D A (List.flatten [bTown g o a x_3 wo tx ch jo tr dy sd f6]) := ⟨zu f5 2 (upd (f5 2) pe.toNatClampNeg 0), (zZ4_u rf5 (by decide)), hP, hD⟩
    refine lv_aload_n hx hb dX9_addPerson_48 rfl (lv_at hl 1 rfl) ?_
    refine va_get (D := g.1) (ci := 7) (v := .ref (a 3)) (C := RX9) (T := TX9) (N := 19) hx hb hts izRX9 hown hK hP 0 rfl rfl 11 (by decide) (hts _ k12) (fun _ h9 => h9) rfl dX9_addPerson_49 ?_
    refine lv_iload hx hb dX9_addPerson_52 (lv_at hl 0 rfl) ?_
    refine lv_iconst (v := (-1)) hx hb dX9_addPerson_54 (by decide) ?_
    refine va_iast hx hb hK hP hD hS 4 0 rfl rfl (zinK (a := 0) (b := 7) b_pe.1 n2 (by decide)) dX9_addPerson_55 (fun H locs hP hD hS => ?_)
    obtain ⟨f7, rf7, hP, hD⟩ : ∃ f7 : Nat → Nat → Int32, zZ4 f7 ∧ va_P g.1 vwCl (List.flatten [bTown g o a x_3 wo tx ch jo tr dy sd f7]) H ∧ va_D A (List.flatten [bTown g o a x_3 wo tx ch jo tr dy sd f7]) := ⟨zu f6 3 (upd (f6 3) pe.toNatClampNeg (-1)), (zZ4_u rf6 (by decide)), hP, hD⟩
    refine lv_aload_n hx hb dX9_addPerson_56 rfl (lv_at hl 1 rfl) ?_
    refine va_get (D := g.1) (ci := 7) (v := .ref (a 4)) (C := RX9) (T := TX9) (N := 19) hx hb hts izRX9 hown hK hP 0 rfl rfl 12 (by decide) (hts _ k14) (fun _ h9 => h9) rfl dX9_addPerson_57 ?_
    refine lv_iload hx hb dX9_addPerson_60 (lv_at hl 0 rfl) ?_
    refine lv_iload_n hx hb dX9_addPerson_62 rfl (lv_at hl 4 rfl) ?_
    refine va_zast hx hb hK hP hD hS 5 1 rfl rfl (zinK (a := 0) (b := 7) b_pe.1 n2 (by decide)) dX9_addPerson_63 (fun H locs hP hD hS => ?_)
    obtain ⟨f8, rf8, hP, hD⟩ : ∃ f8 : Nat → Nat → Int32, zZ4 f8 ∧ va_P g.1 vwCl (List.flatten [bTown g o a x_3 wo tx ch jo tr dy sd f8]) H ∧ va_D A (List.flatten [bTown g o a x_3 wo tx ch jo tr dy sd f8]) := ⟨zu f7 4 (upd (f7 4) pe.toNatClampNeg (vp_nar .boolean di)), (zZ4_s rf7 (by first | assumption | decide | omega)), hP, hD⟩
    refine lv_iconst (v := 0) hx hb dX9_addPerson_64 (by decide) ?_
    refine lv_istore (lv' := [(5, .int 0), (4, .int pe), (0, .ref o), (1, .int be), (2, .int ha), (3, .int di)]) hx hb dX9_addPerson_65 hl (by decide) rfl (fun ls hl => ?_)
    have hl := lv_sub (l' := [(0, .ref o), (1, .int be), (2, .int ha), (3, .int di), (4, .int pe), (5, .int 0)]) hl [2, 3, 4, 5, 1, 0] rfl
    have LP67_12 : ∀ (kf : Nat) (x_9 : Int32) (f_10 : Nat → Nat → Int32), (0 ≤ x_9.toInt ∧ x_9.toInt ≤ 8) → (zZ4 f_10) → ∀ (H : Heap) (locs : List Loc) (ls : Array Slot), ((9 - x_9.toInt).toNat) < kf → va_P g.1 vwCl (List.flatten [bTown g o a x_3 wo tx ch jo tr dy sd f_10]) H → va_D A (List.flatten [bTown g o a x_3 wo tx ch jo tr dy sd f_10]) → va_S A s.heap H locs → lv_has ls 6 [(0, .ref o), (1, .int be), (2, .int ha), (3, .int di), (4, .int pe), (5, .int x_9)] → W p l e ({ frames := 1, cells := 0, slots := 0, locals := 23 } : Room) s m args below meth c H locs (0) (0) (zF g (fun u : Int32 × (Nat → Nat → Int32) => (fun (pe2 : Int32) (f2 : Nat → Nat → Int32) => none) (u.1) (u.2)) (fun u : Int32 × (Nat → Nat → Int32) => (fun (pe2 : Int32) (f2 : Nat → Nat → Int32) => (0 ≤ pe2.toInt ∧ pe2.toInt ≤ 8) ∧ (zZ4 f2)) (u.1) (u.2)) (fun u : Int32 × (Nat → Nat → Int32) => (fun (pe2 : Int32) (f2 : Nat → Nat → Int32) => [bTown g o a pe2 wo tx ch jo tr dy sd f2]) (u.1) (u.2)) ({ frames := 1, cells := 0, slots := 0, locals := 23 } : Room) below args s A) (F0 m 67 ls []) := by
      intro kf
      induction kf with
      | zero => intro x_9 f_10 i11 rf_10 H locs ls hk; exact absurd hk (Nat.not_lt_zero _)
      | succ kf ih67_13 =>
        intro x_9 f_10 i11 rf_10 H locs ls hk67_13 hP hD hS hl
        refine lv_iload hx hb dX9_addPerson_67 (lv_at hl 5 rfl) ?_
        refine lv_bipush (v := 8) hx hb dX9_addPerson_69 (by decide) ?_
        refine lv_icmp_ge (tgt := 98) hx hb dX9_addPerson_71 (by decide) (fun cb9 => ?_) (fun cb9 => ?_)
        · skip
          have c14 : 8 ≤ x_9.toInt := zle cb9 (by decide) rfl
          have n15 : 8 ≤ x_9.toInt := Int.le_trans (Int.le_refl _) c14
          have hP : va_P g.1 vwCl (List.flatten [bTown g o a x_3 wo tx ch jo tr dy sd f_10]) H := hP
          have hD : va_D A (List.flatten [bTown g o a x_3 wo tx ch jo tr dy sd f_10]) := hD
          exact mret_v hx hb hr hlocks hS (Nat.le_of_ble_eq_true rfl) (Nat.le_of_ble_eq_true rfl) dX9_addPerson_98 (x_3, f_10) rfl (show (0 ≤ x_3.toInt ∧ x_3.toInt ≤ 8) ∧ (zZ4 f_10) from ⟨(by first | assumption | omega | decide | exact rfl | exact zb01 (by omega) | exact Or.inl (by decide) | exact Or.inr (by first | omega | decide)), rf_10⟩) hP hD
        · skip
          have c16 : x_9.toInt < 8 := zlti (Int32.not_le.mp cb9) rfl (by decide)
          have n17 : x_9.toInt ≤ 7 := zL1 (b := 8) c16 (Int.le_refl _) (by decide)
          refine lv_aload_n hx hb dX9_addPerson_74 rfl (lv_at hl 0 rfl) ?_
          refine lv_iload hx hb dX9_addPerson_75 (lv_at hl 4 rfl) ?_
          refine lv_iload hx hb dX9_addPerson_77 (lv_at hl 5 rfl) ?_
          refine lv_iconst (v := 0) hx hb dX9_addPerson_79 (by decide) ?_
          refine mcallV' (g := g) (q0 := 0) (ci := 7) (As := [.int pe, .int x_9, .int 0]) (rest := []) St hK hT hA hP hD hS hl.1 [0] [] rfl rfl rfl (c_setTrust l g o a x_3 wo tx ch jo tr dy sd f_10 pe x_9 0 rf_10 (⟨b_pe.1, n2⟩) (⟨i11.1, n17⟩)) (cwV 3 hts (zgL (zl4 k436 k437 k438 k24) k434) rfl rfl rfl (by decide +kernel) ⟨Nat.le_of_ble_eq_true rfl, Nat.le_of_ble_eq_true rfl⟩) rfl rfl rfl rfl (Nat.le_of_ble_eq_true rfl) dX9_addPerson_80 ⟨(Nat.le_of_ble_eq_true rfl), (Nat.le_of_ble_eq_true rfl)⟩ (fun f2_18 H locs hq19 hP hD hS => ?_)
          replace hq19 : (zZ4 f2_18) := hq19
          have hP : va_P g.1 vwCl (List.flatten [bTown g o a x_3 wo tx ch jo tr dy sd f2_18]) H := hP
          have hD : va_D A (List.flatten [bTown g o a x_3 wo tx ch jo tr dy sd f2_18]) := hD
          refine W.widen (k := 0) (n := 0) (Nat.le_of_ble_eq_true rfl) (Nat.le_of_ble_eq_true rfl) ?_
          refine W.eq (g2 := F0 m 83 ls []) rfl ?_
          have rf2_18 := hq19; clear hq19
          refine lv_aload_n hx hb dX9_addPerson_83 rfl (lv_at hl 0 rfl) ?_
          refine lv_iload hx hb dX9_addPerson_84 (lv_at hl 5 rfl) ?_
          refine lv_iload hx hb dX9_addPerson_86 (lv_at hl 4 rfl) ?_
          refine lv_iconst (v := 0) hx hb dX9_addPerson_88 (by decide) ?_
          refine mcallV' (g := g) (q0 := 0) (ci := 7) (As := [.int x_9, .int pe, .int 0]) (rest := []) St hK hT hA hP hD hS hl.1 [0] [] rfl rfl rfl (c_setTrust l g o a x_3 wo tx ch jo tr dy sd f2_18 x_9 pe 0 rf2_18 (⟨i11.1, n17⟩) (⟨b_pe.1, n2⟩)) (cwV 3 hts (zgL (zl4 k436 k437 k438 k24) k434) rfl rfl rfl (by decide +kernel) ⟨Nat.le_of_ble_eq_true rfl, Nat.le_of_ble_eq_true rfl⟩) rfl rfl rfl rfl (Nat.le_of_ble_eq_true rfl) dX9_addPerson_89 ⟨(Nat.le_of_ble_eq_true rfl), (Nat.le_of_ble_eq_true rfl)⟩ (fun f2_20 H locs hq21 hP hD hS => ?_)
          replace hq21 : (zZ4 f2_20) := hq21
          have hP : va_P g.1 vwCl (List.flatten [bTown g o a x_3 wo tx ch jo tr dy sd f2_20]) H := hP
          have hD : va_D A (List.flatten [bTown g o a x_3 wo tx ch jo tr dy sd f2_20]) := hD
          refine W.widen (k := 0) (n := 0) (Nat.le_of_ble_eq_true rfl) (Nat.le_of_ble_eq_true rfl) ?_
          refine W.eq (g2 := F0 m 92 ls []) rfl ?_
          have rf2_20 := hq21; clear hq21
          refine ziinc3 (n' := 1) (a' := 1) (b' := 8) (lv' := fun v9 => [(5, .int v9), (0, .ref o), (1, .int be), (2, .int ha), (3, .int di), (4, .int pe)]) hx hb dX9_addPerson_92 hl (k := 5) rfl (by decide) (fun _ => rfl) (zaddK (i := x_9.toInt) (j := 1) rfl (by decide) i11.1 n17 (Int.le_refl _) (Int.le_refl _) (by decide)) (fun x_22 ls hx_22 hl => ?_)
          refine lv_goto (tgt := 67) hx hb dX9_addPerson_95 (by decide) ?_
          have hl := lv_sub (l' := [(0, .ref o), (1, .int be), (2, .int ha), (3, .int di), (4, .int pe), (5, .int x_22)]) hl [1, 2, 3, 4, 5, 0] rfl
          have hP : va_P g.1 vwCl (List.flatten [bTown g o a x_3 wo tx ch jo tr dy sd f2_20]) H := hP
          have hD : va_D A (List.flatten [bTown g o a x_3 wo tx ch jo tr dy sd f2_20]) := hD
          exact ih67_13 x_22 f2_20 ⟨(Int.le_trans (by decide) hx_22.2.1), hx_22.2.2⟩ rf2_20 H _ ls (zmK hx_22.1 (by decide) n17 (by decide) hk67_13)  hP hD hS (lv_sub hl [0, 1, 2, 3, 4, 5] rfl)
    have hP : va_P g.1 vwCl (List.flatten [bTown g o a x_3 wo tx ch jo tr dy sd f8]) H := hP
    have hD : va_D A (List.flatten [bTown g o a x_3 wo tx ch jo tr dy sd f8]) := hD
    exact LP67_12 _ 0 f8 (by decide) rf8 H _ ls (Nat.lt_succ_self _)  hP hD hS (lv_sub hl [0, 1, 2, 3, 4, 5] rfl)
  · skip
    have c23 : 8 ≤ pe.toInt := zle (Int32.not_lt.mp cb9) (by decide) rfl
    have n24 : 8 ≤ pe.toInt := Int.le_trans (Int.le_refl _) c23
    have hP : va_P g.1 vwCl (List.flatten [bTown g o a pe wo tx ch jo tr dy sd f]) s.heap := hP
    have hD : va_D A (List.flatten [bTown g o a pe wo tx ch jo tr dy sd f]) := hD
    exact mret_v hx hb hr hlocks hS (Nat.le_of_ble_eq_true rfl) (Nat.le_of_ble_eq_true rfl) dX9_addPerson_13 (pe, f) rfl (show (0 ≤ pe.toInt ∧ pe.toInt ≤ 8) ∧ (zZ4 f) from ⟨b_pe, rf⟩) hP hD
