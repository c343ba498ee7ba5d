set_option maxRecDepth 100000 in
set_option maxHeartbeats 4000000 in
theorem m_ruin (l : Launch) (g : zG) (o : Nat) (a : Nat → Nat) (th : Int32) (hi : Int32) (ac : Int32) (tp : Int32) (ba : Int32) (en : Int32) (tA : Int32) (fl : Int32) (de : Int32) (iD : Int32) (iO : Int32) (tU : Int32) (fm : Nat → Int32) (fk : Nat → Int32) (fa : Nat → Int32) (fc : Nat → Int32) (ft : Nat → Int32) (ff : Nat → Int32) (fb : Nat → Int32) (fi : Nat → Int32) (rfm : rM fm) (rfa : rM fa) (hiD : 0 ≤ iD.toInt ∧ iD.toInt ≤ 1) (hiO : 0 ≤ iO.toInt ∧ iO.toInt ≤ 1) : zM' g l yX12_ruin (Cond.code yX12_ruin cX12_ruin 4 (some .int) :: zB) ({ frames := 33, cells := 0, slots := 0, locals := 736 } : Room) [.ref o] [bMo g o a th hi ac tp ba en tA fl de iD iO tU fm fk fa fc ft ff fb fi] (fun u : Int32 × Int32 × Int32 × Int32 × Int32 × Int32 × Int32 × Int32 × (Nat → Int32) × (Nat → Int32) × (Nat → Int32) × (Nat → Int32) × Int32 => (fun (th2 : Int32) (ba2 : Int32) (en2 : Int32) (at2 : Int32) (de2 : Int32) (iD2 : Int32) (iO2 : Int32) (tU2 : Int32) (ff2 : Nat → Int32) (fm2 : Nat → Int32) (fb2 : Nat → Int32) (fa2 : Nat → Int32) (q : Int32) => some (.int q)) (u.1) (u.2.1) (u.2.2.1) (u.2.2.2.1) (u.2.2.2.2.1) (u.2.2.2.2.2.1) (u.2.2.2.2.2.2.1) (u.2.2.2.2.2.2.2.1) (u.2.2.2.2.2.2.2.2.1) (u.2.2.2.2.2.2.2.2.2.1) (u.2.2.2.2.2.2.2.2.2.2.1) (u.2.2.2.2.2.2.2.2.2.2.2.1) (u.2.2.2.2.2.2.2.2.2.2.2.2)) (fun u : Int32 × Int32 × Int32 × Int32 × Int32 × Int32 × Int32 × Int32 × (Nat → Int32) × (Nat → Int32) × (Nat → Int32) × (Nat → Int32) × Int32 => (fun (th2 : Int32) (ba2 : Int32) (en2 : Int32) (at2 : Int32) (de2 : Int32) (iD2 : Int32) (iO2 : Int32) (tU2 : Int32) (ff2 : Nat → Int32) (fm2 : Nat → Int32) (fb2 : Nat → Int32) (fa2 : Nat → Int32) (q : Int32) => (rM fa2) ∧ (rM fm2) ∧ (0 ≤ iO2.toInt ∧ iO2.toInt ≤ 1) ∧ (0 ≤ iD2.toInt ∧ iD2.toInt ≤ 1)) (u.1) (u.2.1) (u.2.2.1) (u.2.2.2.1) (u.2.2.2.2.1) (u.2.2.2.2.2.1) (u.2.2.2.2.2.2.1) (u.2.2.2.2.2.2.2.1) (u.2.2.2.2.2.2.2.2.1) (u.2.2.2.2.2.2.2.2.2.1) (u.2.2.2.2.2.2.2.2.2.2.1) (u.2.2.2.2.2.2.2.2.2.2.2.1) (u.2.2.2.2.2.2.2.2.2.2.2.2)) (fun u : Int32 × Int32 × Int32 × Int32 × Int32 × Int32 × Int32 × Int32 × (Nat → Int32) × (Nat → Int32) × (Nat → Int32) × (Nat → Int32) × Int32 => (fun (th2 : Int32) (ba2 : Int32) (en2 : Int32) (at2 : Int32) (de2 : Int32) (iD2 : Int32) (iO2 : Int32) (tU2 : Int32) (ff2 : Nat → Int32) (fm2 : Nat → Int32) (fb2 : Nat → Int32) (fa2 : Nat → Int32) (q : Int32) => [bMo g o a th2 hi ac tp ba2 en2 at2 fl de2 iD2 iO2 tU2 fm2 fk fa2 fc ft ff2 fb2 fi]) (u.1) (u.2.1) (u.2.2.1) (u.2.2.2.1) (u.2.2.2.2.1) (u.2.2.2.2.2.1) (u.2.2.2.2.2.2.1) (u.2.2.2.2.2.2.2.1) (u.2.2.2.2.2.2.2.2.1) (u.2.2.2.2.2.2.2.2.2.1) (u.2.2.2.2.2.2.2.2.2.2.1) (u.2.2.2.2.2.2.2.2.2.2.2.1) (u.2.2.2.2.2.2.2.2.2.2.2.2)) := by
  refine zM'.of (cc := cX12_ruin) (maxL := 4) (rt := (some .int)) (by decide) rfl (Nat.le_of_ble_eq_true rfl) ?_
  intro p e s m args below meth c A ls St hr hlocks hin hK hT hA hP hD hS hl
  obtain ⟨hx, hb, hml, hown, hts⟩ := id St
  have hl : lv_has ls 4 [(0, .ref o)] := hl
  refine lv_aload_n hx hb dX12_ruin_0 rfl (lv_at hl 0 rfl) ?_
  refine lv_iconst (v := 0) hx hb dX12_ruin_1 (by decide) ?_
  refine va_put (D := g.1) (ci := 10) (v := .int 0) (ty := .int) (C := RX12) (T := TX12) (N := 20) hx hb hts izRX12 tyX12 tyX12_ok nmX12 hown hK hP hD hS 0 rfl rfl 0 (by decide) (hts _ k871) (fun _ h9 => h9) rfl (by decide +kernel) rfl rfl (Nat.le_of_ble_eq_true rfl) dX12_ruin_2 (fun H locs hP hD hS => ?_)
  have hP : va_P g.1 vwCl (List.flatten [bMo g o a 0 hi ac tp ba en tA fl de iD iO tU fm fk fa fc ft ff fb fi]) H := hP
  have hD : va_D A (List.flatten [bMo g o a 0 hi ac tp ba en tA fl de iD iO tU fm fk fa fc ft ff fb fi]) := hD
  refine lv_aload_n hx hb dX12_ruin_5 rfl (lv_at hl 0 rfl) ?_
  refine mcallV' (g := g) (q0 := 0) (ci := 10) (As := []) (rest := []) St hK hT hA hP hD hS hl.1 [0] [] rfl rfl rfl (m_putsAside l g o a 0 hi ac tp ba en tA fl de iD iO tU fm fk fa fc ft ff fb fi (by first | assumption | omega | decide | exact Or.inl (by decide) | exact Or.inr (by decide)) (by first | assumption | omega | decide | exact Or.inl (by decide) | exact Or.inr (by decide))) (cwV 0 hts (zgL (zl4 k974 k975 k976 k837) k971) rfl rfl rfl (by decide +kernel) ⟨Nat.le_of_ble_eq_true rfl, Nat.le_of_ble_eq_true rfl⟩) rfl rfl rfl rfl (Nat.le_of_ble_eq_true rfl) dX12_ruin_6 ⟨(Nat.le_of_ble_eq_true rfl), (Nat.le_of_ble_eq_true rfl)⟩ (fun fa2_1 H locs hq2 hP hD hS => ?_)
  replace hq2 : (rM fa2_1) := hq2
  have hP : va_P g.1 vwCl (List.flatten [bMo g o a 0 hi ac tp ba en tA fl de iD iO tU fm fk fa2_1 fc ft ff fb fi]) H := hP
  have hD : va_D A (List.flatten [bMo g o a 0 hi ac tp ba en tA fl de iD iO tU fm fk fa2_1 fc ft ff fb fi]) := hD
  refine W.widen (k := 0) (n := 0) (Nat.le_of_ble_eq_true rfl) (Nat.le_of_ble_eq_true rfl) ?_
  refine W.eq (g2 := F0 m 9 ls []) rfl ?_
  have rfa2_1 := hq2; clear hq2
  refine lv_iconst (v := (-1)) hx hb dX12_ruin_9 (by decide) ?_
  refine lv_istore_n (lv' := [(1, .int (-1)), (0, .ref o)]) hx hb dX12_ruin_10 rfl hl (by decide) rfl (fun ls hl => ?_)
  refine lv_iconst (v := 0) hx hb dX12_ruin_11 (by decide) ?_
  refine lv_istore_n (lv' := [(2, .int 0), (1, .int (-1)), (0, .ref o)]) hx hb dX12_ruin_12 rfl hl (by decide) rfl (fun ls hl => ?_)
  have hl := lv_sub (l' := [(0, .ref o), (1, .int (-1)), (2, .int 0)]) hl [2, 1, 0] rfl
  have LP13_19 : ∀ (kf : Nat) (x_3 : Int32) (x_4 : Int32) (x_5 : Int32) (x_6 : Int32) (x_7 : Int32) (x_8 : Int32) (x_9 : Int32) (x_10 : Int32) (x_11 : Int32) (fm_12 : Nat → Int32) (ff_13 : Nat → Int32) (fb_14 : Nat → Int32), ((-1) ≤ x_3.toInt ∧ x_3.toInt ≤ 100) → (0 ≤ x_4.toInt ∧ x_4.toInt ≤ 101) → (0 ≤ x_9.toInt ∧ x_9.toInt ≤ 1) → (0 ≤ x_10.toInt ∧ x_10.toInt ≤ 1) → (rM fm_12) → ∀ (H : Heap) (locs : List Loc) (ls : Array Slot), ((102 - x_4.toInt).toNat) < kf → va_P g.1 vwCl (List.flatten [bMo g o a 0 hi ac tp x_5 x_6 x_7 fl x_8 x_9 x_10 x_11 fm_12 fk fa2_1 fc ft ff_13 fb_14 fi]) H → va_D A (List.flatten [bMo g o a 0 hi ac tp x_5 x_6 x_7 fl x_8 x_9 x_10 x_11 fm_12 fk fa2_1 fc ft ff_13 fb_14 fi]) → va_S A s.heap H locs → lv_has ls 4 [(0, .ref o), (1, .int x_3), (2, .int x_4)] → W p l e ({ frames := 33, cells := 0, slots := 0, locals := 736 } : Room) s m args below meth c H locs (0) (0) (zF g (fun u : Int32 × Int32 × Int32 × Int32 × Int32 × Int32 × Int32 × Int32 × (Nat → Int32) × (Nat → Int32) × (Nat → Int32) × (Nat → Int32) × Int32 => (fun (th2 : Int32) (ba2 : Int32) (en2 : Int32) (at2 : Int32) (de2 : Int32) (iD2 : Int32) (iO2 : Int32) (tU2 : Int32) (ff2 : Nat → Int32) (fm2 : Nat → Int32) (fb2 : Nat → Int32) (fa2 : Nat → Int32) (q : Int32) => some (.int q)) (u.1) (u.2.1) (u.2.2.1) (u.2.2.2.1) (u.2.2.2.2.1) (u.2.2.2.2.2.1) (u.2.2.2.2.2.2.1) (u.2.2.2.2.2.2.2.1) (u.2.2.2.2.2.2.2.2.1) (u.2.2.2.2.2.2.2.2.2.1) (u.2.2.2.2.2.2.2.2.2.2.1) (u.2.2.2.2.2.2.2.2.2.2.2.1) (u.2.2.2.2.2.2.2.2.2.2.2.2)) (fun u : Int32 × Int32 × Int32 × Int32 × Int32 × Int32 × Int32 × Int32 × (Nat → Int32) × (Nat → Int32) × (Nat → Int32) × (Nat → Int32) × Int32 => (fun (th2 : Int32) (ba2 : Int32) (en2 : Int32) (at2 : Int32) (de2 : Int32) (iD2 : Int32) (iO2 : Int32) (tU2 : Int32) (ff2 : Nat → Int32) (fm2 : Nat → Int32) (fb2 : Nat → Int32) (fa2 : Nat → Int32) (q : Int32) => (rM fa2) ∧ (rM fm2) ∧ (0 ≤ iO2.toInt ∧ iO2.toInt ≤ 1) ∧ (0 ≤ iD2.toInt ∧ iD2.toInt ≤ 1)) (u.1) (u.2.1) (u.2.2.1) (u.2.2.2.1) (u.2.2.2.2.1) (u.2.2.2.2.2.1) (u.2.2.2.2.2.2.1) (u.2.2.2.2.2.2.2.1) (u.2.2.2.2.2.2.2.2.1) (u.2.2.2.2.2.2.2.2.2.1) (u.2.2.2.2.2.2.2.2.2.2.1) (u.2.2.2.2.2.2.2.2.2.2.2.1) (u.2.2.2.2.2.2.2.2.2.2.2.2)) (fun u : Int32 × Int32 × Int32 × Int32 × Int32 × Int32 × Int32 × Int32 × (Nat → Int32) × (Nat → Int32) × (Nat → Int32) × (Nat → Int32) × Int32 => (fun (th2 : Int32) (ba2 : Int32) (en2 : Int32) (at2 : Int32) (de2 : Int32) (iD2 : Int32) (iO2 : Int32) (tU2 : Int32) (ff2 : Nat → Int32) (fm2 : Nat → Int32) (fb2 : Nat → Int32) (fa2 : Nat → Int32) (q : Int32) => [bMo g o a th2 hi ac tp ba2 en2 at2 fl de2 iD2 iO2 tU2 fm2 fk fa2 fc ft ff2 fb2 fi]) (u.1) (u.2.1) (u.2.2.1) (u.2.2.2.1) (u.2.2.2.2.1) (u.2.2.2.2.2.1) (u.2.2.2.2.2.2.1) (u.2.2.2.2.2.2.2.1) (u.2.2.2.2.2.2.2.2.1) (u.2.2.2.2.2.2.2.2.2.1) (u.2.2.2.2.2.2.2.2.2.2.1) (u.2.2.2.2.2.2.2.2.2.2.2.1) (u.2.2.2.2.2.2.2.2.2.2.2.2)) ({ frames := 33, cells := 0, slots := 0, locals := 736 } : Room) below args s A) (F0 m 13 ls []) := by
    intro kf
    induction kf with
    | zero => intro x_3 x_4 x_5 x_6 x_7 x_8 x_9 x_10 x_11 fm_12 ff_13 fb_14 i15 i16 i17 i18 rfm_12 H locs ls hk; exact absurd hk (Nat.not_lt_zero _)
    | succ kf ih13_20 =>
      intro x_3 x_4 x_5 x_6 x_7 x_8 x_9 x_10 x_11 fm_12 ff_13 fb_14 i15 i16 i17 i18 rfm_12 H locs ls hk13_20 hP hD hS hl
      refine lv_iload_n hx hb dX12_ruin_13 rfl (lv_at hl 2 rfl) ?_
      refine lv_bipush (v := 100) hx hb dX12_ruin_14 (by decide) ?_
      refine lv_icmp_gt (tgt := 67) hx hb dX12_ruin_16 (by decide) (fun cb9 => ?_) (fun cb9 => ?_)
      · skip
        have c21 : 100 < x_4.toInt := zlti cb9 (by decide) rfl
        have n22 : 101 ≤ x_4.toInt := zL2 (a := 100) c21 (Int.le_refl _) (by decide)
        refine lv_aload_n hx hb dX12_ruin_67 rfl (lv_at hl 0 rfl) ?_
        refine mcallV' (g := g) (q0 := 0) (ci := 10) (As := []) (rest := []) St hK hT hA hP hD hS hl.1 [0] [] rfl rfl rfl (m_comesBack l g o a 0 hi ac tp x_5 x_6 x_7 fl x_8 x_9 x_10 x_11 fm_12 fk fa2_1 fc ft ff_13 fb_14 fi (by first | assumption | omega | decide | exact Or.inl (by decide) | exact Or.inr (by decide)) (by first | assumption | omega | decide | exact Or.inl (by decide) | exact Or.inr (by decide))) (cwV 0 hts (zgL (zl4 k983 k984 k985 k837) k972) rfl rfl rfl (by decide +kernel) ⟨Nat.le_of_ble_eq_true rfl, Nat.le_of_ble_eq_true rfl⟩) rfl rfl rfl rfl (Nat.le_of_ble_eq_true rfl) dX12_ruin_68 ⟨(Nat.le_of_ble_eq_true rfl), (Nat.le_of_ble_eq_true rfl)⟩ (fun fm2_23 H locs hq24 hP hD hS => ?_)
        replace hq24 : (rM fm2_23) := hq24
        have hP : va_P g.1 vwCl (List.flatten [bMo g o a 0 hi ac tp x_5 x_6 x_7 fl x_8 x_9 x_10 x_11 fm2_23 fk fa2_1 fc ft ff_13 fb_14 fi]) H := hP
        have hD : va_D A (List.flatten [bMo g o a 0 hi ac tp x_5 x_6 x_7 fl x_8 x_9 x_10 x_11 fm2_23 fk fa2_1 fc ft ff_13 fb_14 fi]) := hD
        refine W.widen (k := 0) (n := 0) (Nat.le_of_ble_eq_true rfl) (Nat.le_of_ble_eq_true rfl) ?_
        refine W.eq (g2 := F0 m 71 ls []) rfl ?_
        have rfm2_23 := hq24; clear hq24
        refine lv_iload_n hx hb dX12_ruin_71 rfl (lv_at hl 1 rfl) ?_
        have hP : va_P g.1 vwCl (List.flatten [bMo g o a 0 hi ac tp x_5 x_6 x_7 fl x_8 x_9 x_10 x_11 fm2_23 fk fa2_1 fc ft ff_13 fb_14 fi]) H := hP
        have hD : va_D A (List.flatten [bMo g o a 0 hi ac tp x_5 x_6 x_7 fl x_8 x_9 x_10 x_11 fm2_23 fk fa2_1 fc ft ff_13 fb_14 fi]) := hD
        exact mret_i hx hb hr hlocks hS (Nat.le_of_ble_eq_true rfl) (Nat.le_of_ble_eq_true rfl) dX12_ruin_72 ((0 : Int32), x_5, x_6, x_7, x_8, x_9, x_10, x_11, ff_13, fm2_23, fb_14, fa2_1, x_3) rfl (show (rM fa2_1) ∧ (rM fm2_23) ∧ (0 ≤ x_10.toInt ∧ x_10.toInt ≤ 1) ∧ (0 ≤ x_9.toInt ∧ x_9.toInt ≤ 1) from ⟨(by first | assumption | omega | decide | exact rfl | exact zb01 (by omega) | exact Or.inl (by decide) | exact Or.inr (by first | omega | decide)), (by first | assumption | omega | decide | exact rfl | exact zb01 (by omega) | exact Or.inl (by decide) | exact Or.inr (by first | omega | decide)), (by first | assumption | omega | decide | exact rfl | exact zb01 (by omega) | exact Or.inl (by decide) | exact Or.inr (by first | omega | decide)), (by first | assumption | omega | decide | exact rfl | exact zb01 (by omega) | exact Or.inl (by decide) | exact Or.inr (by first | omega | decide))⟩) hP hD
      · skip
        have c25 : x_4.toInt ≤ 100 := zle (Int32.not_lt.mp cb9) rfl (by decide)
        have n26 : x_4.toInt ≤ 100 := Int.le_trans c25 (Int.le_refl _)
        refine lv_iload_n hx hb dX12_ruin_19 rfl (lv_at hl 1 rfl) ?_
        refine lv_iconst (v := (-1)) hx hb dX12_ruin_20 (by decide) ?_
        refine lv_icmp_ne (tgt := 67) hx hb dX12_ruin_21 (by decide) (fun cb9 => ?_) (fun cb9 => ?_)
        · skip
          have c27 : ¬ x_3.toInt = (-1) := zne cb9 rfl (by decide)
          have n28 : 0 ≤ x_3.toInt := zN1 c27 i15.1 (by decide)
          refine lv_aload_n hx hb dX12_ruin_67 rfl (lv_at hl 0 rfl) ?_
          refine mcallV' (g := g) (q0 := 0) (ci := 10) (As := []) (rest := []) St hK hT hA hP hD hS hl.1 [0] [] rfl rfl rfl (m_comesBack l g o a 0 hi ac tp x_5 x_6 x_7 fl x_8 x_9 x_10 x_11 fm_12 fk fa2_1 fc ft ff_13 fb_14 fi (by first | assumption | omega | decide | exact Or.inl (by decide) | exact Or.inr (by decide)) (by first | assumption | omega | decide | exact Or.inl (by decide) | exact Or.inr (by decide))) (cwV 0 hts (zgL (zl4 k983 k984 k985 k837) k972) rfl rfl rfl (by decide +kernel) ⟨Nat.le_of_ble_eq_true rfl, Nat.le_of_ble_eq_true rfl⟩) rfl rfl rfl rfl (Nat.le_of_ble_eq_true rfl) dX12_ruin_68 ⟨(Nat.le_of_ble_eq_true rfl), (Nat.le_of_ble_eq_true rfl)⟩ (fun fm2_29 H locs hq30 hP hD hS => ?_)
          replace hq30 : (rM fm2_29) := hq30
          have hP : va_P g.1 vwCl (List.flatten [bMo g o a 0 hi ac tp x_5 x_6 x_7 fl x_8 x_9 x_10 x_11 fm2_29 fk fa2_1 fc ft ff_13 fb_14 fi]) H := hP
          have hD : va_D A (List.flatten [bMo g o a 0 hi ac tp x_5 x_6 x_7 fl x_8 x_9 x_10 x_11 fm2_29 fk fa2_1 fc ft ff_13 fb_14 fi]) := hD
          refine W.widen (k := 0) (n := 0) (Nat.le_of_ble_eq_true rfl) (Nat.le_of_ble_eq_true rfl) ?_
          refine W.eq (g2 := F0 m 71 ls []) rfl ?_
          have rfm2_29 := hq30; clear hq30
          refine lv_iload_n hx hb dX12_ruin_71 rfl (lv_at hl 1 rfl) ?_
          have hP : va_P g.1 vwCl (List.flatten [bMo g o a 0 hi ac tp x_5 x_6 x_7 fl x_8 x_9 x_10 x_11 fm2_29 fk fa2_1 fc ft ff_13 fb_14 fi]) H := hP
          have hD : va_D A (List.flatten [bMo g o a 0 hi ac tp x_5 x_6 x_7 fl x_8 x_9 x_10 x_11 fm2_29 fk fa2_1 fc ft ff_13 fb_14 fi]) := hD
          exact mret_i hx hb hr hlocks hS (Nat.le_of_ble_eq_true rfl) (Nat.le_of_ble_eq_true rfl) dX12_ruin_72 ((0 : Int32), x_5, x_6, x_7, x_8, x_9, x_10, x_11, ff_13, fm2_29, fb_14, fa2_1, x_3) rfl (show (rM fa2_1) ∧ (rM fm2_29) ∧ (0 ≤ x_10.toInt ∧ x_10.toInt ≤ 1) ∧ (0 ≤ x_9.toInt ∧ x_9.toInt ≤ 1) from ⟨(by first | assumption | omega | decide | exact rfl | exact zb01 (by omega) | exact Or.inl (by decide) | exact Or.inr (by first | omega | decide)), (by first | assumption | omega | decide | exact rfl | exact zb01 (by omega) | exact Or.inl (by decide) | exact Or.inr (by first | omega | decide)), (by first | assumption | omega | decide | exact rfl | exact zb01 (by omega) | exact Or.inl (by decide) | exact Or.inr (by first | omega | decide)), (by first | assumption | omega | decide | exact rfl | exact zb01 (by omega) | exact Or.inl (by decide) | exact Or.inr (by first | omega | decide))⟩) hP hD
        · skip
          have c31 : x_3.toInt = (-1) := zeq cb9 rfl (by decide)
          have n32 : x_3.toInt ≤ (-1) := Int.le_trans (Int.le_of_eq c31) (Int.le_refl _)
          refine lv_aload_n hx hb dX12_ruin_24 rfl (lv_at hl 0 rfl) ?_
          refine mcallV' (g := g) (q0 := 0) (ci := 10) (As := []) (rest := []) St hK hT hA hP hD hS hl.1 [0] [] rfl rfl rfl (m_hereOnes l g o a 0 hi ac tp x_5 x_6 x_7 fl x_8 x_9 x_10 x_11 fm_12 fk fa2_1 fc ft ff_13 fb_14 fi (by first | assumption | omega | decide | exact Or.inl (by decide) | exact Or.inr (by decide))) (cwV 0 hts (zgL (zl4 k849 k850 k851 k837) k843) rfl rfl rfl (by decide +kernel) ⟨Nat.le_of_ble_eq_true rfl, Nat.le_of_ble_eq_true rfl⟩) rfl rfl rfl rfl (Nat.le_of_ble_eq_true rfl) dX12_ruin_25 ⟨(Nat.le_of_ble_eq_true rfl), (Nat.le_of_ble_eq_true rfl)⟩ (fun q_33 H locs hq34 hP hD hS => ?_)
          have hP : va_P g.1 vwCl (List.flatten [bMo g o a 0 hi ac tp x_5 x_6 x_7 fl x_8 x_9 x_10 x_11 fm_12 fk fa2_1 fc ft ff_13 fb_14 fi]) H := hP
          have hD : va_D A (List.flatten [bMo g o a 0 hi ac tp x_5 x_6 x_7 fl x_8 x_9 x_10 x_11 fm_12 fk fa2_1 fc ft ff_13 fb_14 fi]) := hD
          refine W.widen (k := 0) (n := 0) (Nat.le_of_ble_eq_true rfl) (Nat.le_of_ble_eq_true rfl) ?_
          refine W.eq (g2 := F0 m 28 ls [.int q_33]) rfl ?_
          refine lv_if_eq (tgt := 54) hx hb dX12_ruin_28 (by decide) (fun cb9 => ?_) (fun cb9 => ?_)
          · skip
            have c35 : q_33.toInt = 0 := zeq cb9 rfl (by decide)
            have n36 : 0 ≤ q_33.toInt := Int.le_trans (Int.le_refl _) (Int.le_of_eq c35.symm)
            have n37 : q_33.toInt ≤ 0 := Int.le_trans (Int.le_of_eq c35) (Int.le_refl _)
            refine lv_aload_n hx hb dX12_ruin_54 rfl (lv_at hl 0 rfl) ?_
            refine lv_iconst (v := 1) hx hb dX12_ruin_55 (by decide) ?_
            refine lv_iconst (v := 0) hx hb dX12_ruin_56 (by decide) ?_
            have hL1 : (1 : Int32).toInt = 1 := by decide
            refine mcallV' (g := g) (q0 := 0) (ci := 10) (As := [.int 1, .int 0]) (rest := []) St hK hT hA hP hD hS hl.1 [0] [] rfl rfl rfl (m_goes l g o a 0 hi ac tp x_5 x_6 x_7 fl x_8 x_9 x_10 x_11 fm_12 fk fa2_1 fc ft ff_13 fb_14 fi 1 0 (by first | assumption | omega | decide | exact Or.inl (by decide) | exact Or.inr (by decide)) (⟨i17.1, i17.2⟩) (⟨i18.1, i18.2⟩) (by decide)) (cwV 2 hts (zgL (zl4 k1056 k1057 k1058 k837) k1027) rfl rfl rfl (by decide +kernel) ⟨Nat.le_of_ble_eq_true rfl, Nat.le_of_ble_eq_true rfl⟩) rfl rfl rfl rfl (Nat.le_of_ble_eq_true rfl) dX12_ruin_57 ⟨(Nat.le_of_ble_eq_true rfl), (Nat.le_of_ble_eq_true rfl)⟩ (fun u_ H locs hq49 hP hD hS => ?_)
            obtain ⟨ba2_38, en2_39, at2_40, de2_41, iD2_42, iO2_43, tU2_44, ff2_45, fm2_46, fb2_47, q_48⟩ := u_
            replace hq49 : (rM fm2_46) ∧ (0 ≤ iO2_43.toInt ∧ iO2_43.toInt ≤ 1) ∧ (0 ≤ iD2_42.toInt ∧ iD2_42.toInt ≤ 1) := hq49
            have hP : va_P g.1 vwCl (List.flatten [bMo g o a 0 hi ac tp ba2_38 en2_39 at2_40 fl de2_41 iD2_42 iO2_43 tU2_44 fm2_46 fk fa2_1 fc ft ff2_45 fb2_47 fi]) H := hP
            have hD : va_D A (List.flatten [bMo g o a 0 hi ac tp ba2_38 en2_39 at2_40 fl de2_41 iD2_42 iO2_43 tU2_44 fm2_46 fk fa2_1 fc ft ff2_45 fb2_47 fi]) := hD
            refine W.widen (k := 0) (n := 0) (Nat.le_of_ble_eq_true rfl) (Nat.le_of_ble_eq_true rfl) ?_
            refine W.eq (g2 := F0 m 60 ls [.int q_48]) rfl ?_
            obtain ⟨rfm2_46, hq49_1, hq49_2⟩ := hq49
            refine lv_istore_n (lv' := [(3, .int q_48), (0, .ref o), (1, .int x_3), (2, .int x_4)]) hx hb dX12_ruin_60 rfl hl (by decide) rfl (fun ls hl => ?_)
            refine ziinc3 (n' := 1) (a' := 1) (b' := 101) (lv' := fun v9 => [(2, .int v9), (3, .int q_48), (0, .ref o), (1, .int x_3)]) hx hb dX12_ruin_61 hl (k := 3) rfl (by decide) (fun _ => rfl) (zaddK (i := x_4.toInt) (j := 1) rfl (by decide) i16.1 n26 (Int.le_refl _) (Int.le_refl _) (by decide)) (fun x_50 ls hx_50 hl => ?_)
            refine lv_goto (tgt := 13) hx hb dX12_ruin_64 (by decide) ?_
            have hl := lv_sub (l' := [(0, .ref o), (1, .int x_3), (2, .int x_50), (3, .int q_48)]) hl [2, 3, 0, 1] rfl
            have hP : va_P g.1 vwCl (List.flatten [bMo g o a 0 hi ac tp ba2_38 en2_39 at2_40 fl de2_41 iD2_42 iO2_43 tU2_44 fm2_46 fk fa2_1 fc ft ff2_45 fb2_47 fi]) H := hP
            have hD : va_D A (List.flatten [bMo g o a 0 hi ac tp ba2_38 en2_39 at2_40 fl de2_41 iD2_42 iO2_43 tU2_44 fm2_46 fk fa2_1 fc ft ff2_45 fb2_47 fi]) := hD
            exact ih13_20 x_3 x_50 ba2_38 en2_39 at2_40 de2_41 iD2_42 iO2_43 tU2_44 fm2_46 ff2_45 fb2_47 ⟨i15.1, (Int.le_trans n32 (by decide))⟩ ⟨(Int.le_trans (by decide) hx_50.2.1), hx_50.2.2⟩ ⟨hq49_2.1, hq49_2.2⟩ ⟨hq49_1.1, hq49_1.2⟩ rfm2_46 H _ ls (zmK hx_50.1 (by decide) n26 (by decide) hk13_20)  hP hD hS (lv_sub hl [0, 1, 2] rfl)
          · skip
            have c51 : ¬ q_33.toInt = 0 := zne cb9 rfl (by decide)
            refine lv_iconst (v := 3) hx hb dX12_ruin_31 (by decide) ?_
            refine lv_aload_n hx hb dX12_ruin_32 rfl (lv_at hl 0 rfl) ?_
            refine mcallV' (g := g) (q0 := 0) (ci := 10) (As := []) (rest := [.int 3]) St hK hT hA hP hD hS hl.1 [0] [] rfl rfl rfl (m_doubtsNow l g o a 0 hi ac tp x_5 x_6 x_7 fl x_8 x_9 x_10 x_11 fm_12 fk fa2_1 fc ft ff_13 fb_14 fi (by first | assumption | omega | decide | exact Or.inl (by decide) | exact Or.inr (by decide))) (cwV 0 hts (zgL (zl4 k1074 k1075 k1076 k837) k1072) rfl rfl rfl (by decide +kernel) ⟨Nat.le_of_ble_eq_true rfl, Nat.le_of_ble_eq_true rfl⟩) rfl rfl rfl rfl (Nat.le_of_ble_eq_true rfl) dX12_ruin_33 ⟨(Nat.le_of_ble_eq_true rfl), (Nat.le_of_ble_eq_true rfl)⟩ (fun q_52 H locs hq53 hP hD hS => ?_)
            have hP : va_P g.1 vwCl (List.flatten [bMo g o a 0 hi ac tp x_5 x_6 x_7 fl x_8 x_9 x_10 x_11 fm_12 fk fa2_1 fc ft ff_13 fb_14 fi]) H := hP
            have hD : va_D A (List.flatten [bMo g o a 0 hi ac tp x_5 x_6 x_7 fl x_8 x_9 x_10 x_11 fm_12 fk fa2_1 fc ft ff_13 fb_14 fi]) := hD
            refine W.widen (k := 0) (n := 0) (Nat.le_of_ble_eq_true rfl) (Nat.le_of_ble_eq_true rfl) ?_
            refine W.eq (g2 := F0 m 36 ls [.int q_52, .int 3]) rfl ?_
            refine mcallS' (g := g) (As := [.int q_52]) (rest := [.int 3]) St hK hT hA hP hD hS hl.1 [] [0] rfl rfl rfl (m_bits l g q_52 ) (va_cwS 1 hts (zgL (zl3 k852 k853 k837) k828) rfl rfl rfl (by decide +kernel) ⟨Nat.le_of_ble_eq_true rfl, Nat.le_of_ble_eq_true rfl⟩) rfl rfl (Nat.le_of_ble_eq_true rfl) dX12_ruin_36 ⟨(Nat.le_of_ble_eq_true rfl), (Nat.le_of_ble_eq_true rfl)⟩ (fun q_54 H locs hq55 hP hD hS => ?_)
            have hP : va_P g.1 vwCl (List.flatten [bMo g o a 0 hi ac tp x_5 x_6 x_7 fl x_8 x_9 x_10 x_11 fm_12 fk fa2_1 fc ft ff_13 fb_14 fi]) H := hP
            have hD : va_D A (List.flatten [bMo g o a 0 hi ac tp x_5 x_6 x_7 fl x_8 x_9 x_10 x_11 fm_12 fk fa2_1 fc ft ff_13 fb_14 fi]) := hD
            refine W.widen (k := 0) (n := 0) (Nat.le_of_ble_eq_true rfl) (Nat.le_of_ble_eq_true rfl) ?_
            refine W.eq (g2 := F0 m 39 ls [.int q_54, .int 3]) rfl ?_
            refine lv_imul hx hb dX12_ruin_39 ?_
            refine zg (fun x_56 => ?_)
            refine lv_iconst (v := 2) hx hb dX12_ruin_40 (by decide) ?_
            refine lv_aload_n hx hb dX12_ruin_41 rfl (lv_at hl 0 rfl) ?_
            refine mcallV' (g := g) (q0 := 0) (ci := 10) (As := []) (rest := [.int 2, .int x_56]) St hK hT hA hP hD hS hl.1 [0] [] rfl rfl rfl (m_hereOnes l g o a 0 hi ac tp x_5 x_6 x_7 fl x_8 x_9 x_10 x_11 fm_12 fk fa2_1 fc ft ff_13 fb_14 fi (by first | assumption | omega | decide | exact Or.inl (by decide) | exact Or.inr (by decide))) (cwV 0 hts (zgL (zl4 k849 k850 k851 k837) k843) rfl rfl rfl (by decide +kernel) ⟨Nat.le_of_ble_eq_true rfl, Nat.le_of_ble_eq_true rfl⟩) rfl rfl rfl rfl (Nat.le_of_ble_eq_true rfl) dX12_ruin_42 ⟨(Nat.le_of_ble_eq_true rfl), (Nat.le_of_ble_eq_true rfl)⟩ (fun q_57 H locs hq58 hP hD hS => ?_)
            have hP : va_P g.1 vwCl (List.flatten [bMo g o a 0 hi ac tp x_5 x_6 x_7 fl x_8 x_9 x_10 x_11 fm_12 fk fa2_1 fc ft ff_13 fb_14 fi]) H := hP
            have hD : va_D A (List.flatten [bMo g o a 0 hi ac tp x_5 x_6 x_7 fl x_8 x_9 x_10 x_11 fm_12 fk fa2_1 fc ft ff_13 fb_14 fi]) := hD
            refine W.widen (k := 0) (n := 0) (Nat.le_of_ble_eq_true rfl) (Nat.le_of_ble_eq_true rfl) ?_
            refine W.eq (g2 := F0 m 45 ls [.int q_57, .int 2, .int x_56]) rfl ?_
            refine mcallS' (g := g) (As := [.int q_57]) (rest := [.int 2, .int x_56]) St hK hT hA hP hD hS hl.1 [] [0] rfl rfl rfl (m_bits l g q_57 ) (va_cwS 1 hts (zgL (zl3 k852 k853 k837) k828) rfl rfl rfl (by decide +kernel) ⟨Nat.le_of_ble_eq_true rfl, Nat.le_of_ble_eq_true rfl⟩) rfl rfl (Nat.le_of_ble_eq_true rfl) dX12_ruin_45 ⟨(Nat.le_of_ble_eq_true rfl), (Nat.le_of_ble_eq_true rfl)⟩ (fun q_59 H locs hq60 hP hD hS => ?_)
            have hP : va_P g.1 vwCl (List.flatten [bMo g o a 0 hi ac tp x_5 x_6 x_7 fl x_8 x_9 x_10 x_11 fm_12 fk fa2_1 fc ft ff_13 fb_14 fi]) H := hP
            have hD : va_D A (List.flatten [bMo g o a 0 hi ac tp x_5 x_6 x_7 fl x_8 x_9 x_10 x_11 fm_12 fk fa2_1 fc ft ff_13 fb_14 fi]) := hD
            refine W.widen (k := 0) (n := 0) (Nat.le_of_ble_eq_true rfl) (Nat.le_of_ble_eq_true rfl) ?_
            refine W.eq (g2 := F0 m 48 ls [.int q_59, .int 2, .int x_56]) rfl ?_
            refine lv_imul hx hb dX12_ruin_48 ?_
            refine zg (fun x_61 => ?_)
            refine lv_icmp_lt (tgt := 54) hx hb dX12_ruin_49 (by decide) (fun cb9 => ?_) (fun cb9 => ?_)
            · skip
              have c62 : x_56.toInt < x_61.toInt := zlti cb9 rfl rfl
              refine lv_aload_n hx hb dX12_ruin_54 rfl (lv_at hl 0 rfl) ?_
              refine lv_iconst (v := 1) hx hb dX12_ruin_55 (by decide) ?_
              refine lv_iconst (v := 0) hx hb dX12_ruin_56 (by decide) ?_
              have hL1 : (1 : Int32).toInt = 1 := by decide
              refine mcallV' (g := g) (q0 := 0) (ci := 10) (As := [.int 1, .int 0]) (rest := []) St hK hT hA hP hD hS hl.1 [0] [] rfl rfl rfl (m_goes l g o a 0 hi ac tp x_5 x_6 x_7 fl x_8 x_9 x_10 x_11 fm_12 fk fa2_1 fc ft ff_13 fb_14 fi 1 0 (by first | assumption | omega | decide | exact Or.inl (by decide) | exact Or.inr (by decide)) (⟨i17.1, i17.2⟩) (⟨i18.1, i18.2⟩) (by decide)) (cwV 2 hts (zgL (zl4 k1056 k1057 k1058 k837) k1027) rfl rfl rfl (by decide +kernel) ⟨Nat.le_of_ble_eq_true rfl, Nat.le_of_ble_eq_true rfl⟩) rfl rfl rfl rfl (Nat.le_of_ble_eq_true rfl) dX12_ruin_57 ⟨(Nat.le_of_ble_eq_true rfl), (Nat.le_of_ble_eq_true rfl)⟩ (fun u_ H locs hq74 hP hD hS => ?_)
              obtain ⟨ba2_63, en2_64, at2_65, de2_66, iD2_67, iO2_68, tU2_69, ff2_70, fm2_71, fb2_72, q_73⟩ := u_
              replace hq74 : (rM fm2_71) ∧ (0 ≤ iO2_68.toInt ∧ iO2_68.toInt ≤ 1) ∧ (0 ≤ iD2_67.toInt ∧ iD2_67.toInt ≤ 1) := hq74
              have hP : va_P g.1 vwCl (List.flatten [bMo g o a 0 hi ac tp ba2_63 en2_64 at2_65 fl de2_66 iD2_67 iO2_68 tU2_69 fm2_71 fk fa2_1 fc ft ff2_70 fb2_72 fi]) H := hP
              have hD : va_D A (List.flatten [bMo g o a 0 hi ac tp ba2_63 en2_64 at2_65 fl de2_66 iD2_67 iO2_68 tU2_69 fm2_71 fk fa2_1 fc ft ff2_70 fb2_72 fi]) := hD
              refine W.widen (k := 0) (n := 0) (Nat.le_of_ble_eq_true rfl) (Nat.le_of_ble_eq_true rfl) ?_
              refine W.eq (g2 := F0 m 60 ls [.int q_73]) rfl ?_
              obtain ⟨rfm2_71, hq74_1, hq74_2⟩ := hq74
              refine lv_istore_n (lv' := [(3, .int q_73), (0, .ref o), (1, .int x_3), (2, .int x_4)]) hx hb dX12_ruin_60 rfl hl (by decide) rfl (fun ls hl => ?_)
              refine ziinc3 (n' := 1) (a' := 1) (b' := 101) (lv' := fun v9 => [(2, .int v9), (3, .int q_73), (0, .ref o), (1, .int x_3)]) hx hb dX12_ruin_61 hl (k := 3) rfl (by decide) (fun _ => rfl) (zaddK (i := x_4.toInt) (j := 1) rfl (by decide) i16.1 n26 (Int.le_refl _) (Int.le_refl _) (by decide)) (fun x_75 ls hx_75 hl => ?_)
              refine lv_goto (tgt := 13) hx hb dX12_ruin_64 (by decide) ?_
              have hl := lv_sub (l' := [(0, .ref o), (1, .int x_3), (2, .int x_75), (3, .int q_73)]) hl [2, 3, 0, 1] rfl
              have hP : va_P g.1 vwCl (List.flatten [bMo g o a 0 hi ac tp ba2_63 en2_64 at2_65 fl de2_66 iD2_67 iO2_68 tU2_69 fm2_71 fk fa2_1 fc ft ff2_70 fb2_72 fi]) H := hP
              have hD : va_D A (List.flatten [bMo g o a 0 hi ac tp ba2_63 en2_64 at2_65 fl de2_66 iD2_67 iO2_68 tU2_69 fm2_71 fk fa2_1 fc ft ff2_70 fb2_72 fi]) := hD
              exact ih13_20 x_3 x_75 ba2_63 en2_64 at2_65 de2_66 iD2_67 iO2_68 tU2_69 fm2_71 ff2_70 fb2_72 ⟨i15.1, (Int.le_trans n32 (by decide))⟩ ⟨(Int.le_trans (by decide) hx_75.2.1), hx_75.2.2⟩ ⟨hq74_2.1, hq74_2.2⟩ ⟨hq74_1.1, hq74_1.2⟩ rfm2_71 H _ ls (zmK hx_75.1 (by decide) n26 (by decide) hk13_20)  hP hD hS (lv_sub hl [0, 1, 2] rfl)
            · skip
              have c76 : x_61.toInt ≤ x_56.toInt := zle (Int32.not_lt.mp cb9) rfl rfl
              refine lv_iload_n hx hb dX12_ruin_52 rfl (lv_at hl 2 rfl) ?_
              refine lv_istore_n (lv' := [(1, .int x_4), (0, .ref o), (2, .int x_4)]) hx hb dX12_ruin_53 rfl hl (by decide) rfl (fun ls hl => ?_)
              refine lv_aload_n hx hb dX12_ruin_54 rfl (lv_at hl 1 rfl) ?_
              refine lv_iconst (v := 1) hx hb dX12_ruin_55 (by decide) ?_
              refine lv_iconst (v := 0) hx hb dX12_ruin_56 (by decide) ?_
              have hL1 : (1 : Int32).toInt = 1 := by decide
              refine mcallV' (g := g) (q0 := 0) (ci := 10) (As := [.int 1, .int 0]) (rest := []) St hK hT hA hP hD hS hl.1 [0] [] rfl rfl rfl (m_goes l g o a 0 hi ac tp x_5 x_6 x_7 fl x_8 x_9 x_10 x_11 fm_12 fk fa2_1 fc ft ff_13 fb_14 fi 1 0 (by first | assumption | omega | decide | exact Or.inl (by decide) | exact Or.inr (by decide)) (⟨i17.1, i17.2⟩) (⟨i18.1, i18.2⟩) (by decide)) (cwV 2 hts (zgL (zl4 k1056 k1057 k1058 k837) k1027) rfl rfl rfl (by decide +kernel) ⟨Nat.le_of_ble_eq_true rfl, Nat.le_of_ble_eq_true rfl⟩) rfl rfl rfl rfl (Nat.le_of_ble_eq_true rfl) dX12_ruin_57 ⟨(Nat.le_of_ble_eq_true rfl), (Nat.le_of_ble_eq_true rfl)⟩ (fun u_ H locs hq88 hP hD hS => ?_)
              obtain ⟨ba2_77, en2_78, at2_79, de2_80, iD2_81, iO2_82, tU2_83, ff2_84, fm2_85, fb2_86, q_87⟩ := u_
              replace hq88 : (rM fm2_85) ∧ (0 ≤ iO2_82.toInt ∧ iO2_82.toInt ≤ 1) ∧ (0 ≤ iD2_81.toInt ∧ iD2_81.toInt ≤ 1) := hq88
              have hP : va_P g.1 vwCl (List.flatten [bMo g o a 0 hi ac tp ba2_77 en2_78 at2_79 fl de2_80 iD2_81 iO2_82 tU2_83 fm2_85 fk fa2_1 fc ft ff2_84 fb2_86 fi]) H := hP
              have hD : va_D A (List.flatten [bMo g o a 0 hi ac tp ba2_77 en2_78 at2_79 fl de2_80 iD2_81 iO2_82 tU2_83 fm2_85 fk fa2_1 fc ft ff2_84 fb2_86 fi]) := hD
              refine W.widen (k := 0) (n := 0) (Nat.le_of_ble_eq_true rfl) (Nat.le_of_ble_eq_true rfl) ?_
              refine W.eq (g2 := F0 m 60 ls [.int q_87]) rfl ?_
              obtain ⟨rfm2_85, hq88_1, hq88_2⟩ := hq88
              refine lv_istore_n (lv' := [(3, .int q_87), (1, .int x_4), (0, .ref o), (2, .int x_4)]) hx hb dX12_ruin_60 rfl hl (by decide) rfl (fun ls hl => ?_)
              refine ziinc3 (n' := 1) (a' := 1) (b' := 101) (lv' := fun v9 => [(2, .int v9), (3, .int q_87), (1, .int x_4), (0, .ref o)]) hx hb dX12_ruin_61 hl (k := 3) rfl (by decide) (fun _ => rfl) (zaddK (i := x_4.toInt) (j := 1) rfl (by decide) i16.1 n26 (Int.le_refl _) (Int.le_refl _) (by decide)) (fun x_89 ls hx_89 hl => ?_)
              refine lv_goto (tgt := 13) hx hb dX12_ruin_64 (by decide) ?_
              have hl := lv_sub (l' := [(0, .ref o), (1, .int x_4), (2, .int x_89), (3, .int q_87)]) hl [3, 2, 0, 1] rfl
              have hP : va_P g.1 vwCl (List.flatten [bMo g o a 0 hi ac tp ba2_77 en2_78 at2_79 fl de2_80 iD2_81 iO2_82 tU2_83 fm2_85 fk fa2_1 fc ft ff2_84 fb2_86 fi]) H := hP
              have hD : va_D A (List.flatten [bMo g o a 0 hi ac tp ba2_77 en2_78 at2_79 fl de2_80 iD2_81 iO2_82 tU2_83 fm2_85 fk fa2_1 fc ft ff2_84 fb2_86 fi]) := hD
              exact ih13_20 x_4 x_89 ba2_77 en2_78 at2_79 de2_80 iD2_81 iO2_82 tU2_83 fm2_85 ff2_84 fb2_86 ⟨(Int.le_trans (by decide) i16.1), n26⟩ ⟨(Int.le_trans (by decide) hx_89.2.1), hx_89.2.2⟩ ⟨hq88_2.1, hq88_2.2⟩ ⟨hq88_1.1, hq88_1.2⟩ rfm2_85 H _ ls (zmK hx_89.1 (by decide) n26 (by decide) hk13_20)  hP hD hS (lv_sub hl [0, 1, 2] rfl)
  have hP : va_P g.1 vwCl (List.flatten [bMo g o a 0 hi ac tp ba en tA fl de iD iO tU fm fk fa2_1 fc ft ff fb fi]) H := hP
  have hD : va_D A (List.flatten [bMo g o a 0 hi ac tp ba en tA fl de iD iO tU fm fk fa2_1 fc ft ff fb fi]) := hD
  exact LP13_19 _ (-1) 0 ba en tA de iD iO tU fm ff fb (by decide) (by decide) ⟨hiD.1, hiD.2⟩ ⟨hiO.1, hiO.2⟩ rfm H _ ls (Nat.lt_succ_self _)  hP hD hS (lv_sub hl [0, 1, 2] rfl)
