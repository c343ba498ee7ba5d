set_option maxRecDepth 100000 in
set_option maxHeartbeats 4000000 in
theorem m_sways (l : Launch) (g : zG) (o : Nat) (a : Nat → Nat) (th : Int32) (hi : Int32) (ac : Int32) (tp : Int32) (ba : Int32) (en : Int32) (tA : Int32) (fl : Int32) (de : Int32) (iD : Int32) (iO : Int32) (tU : Int32) (fm : Nat → Int32) (fk : Nat → Int32) (fa : Nat → Int32) (fc : Nat → Int32) (ft : Nat → Int32) (ff : Nat → Int32) (fb : Nat → Int32) (fi : Nat → Int32) (x : Int32) (n : Int32) (rfm : rM fm) (rfa : rM fa) (hiD : 0 ≤ iD.toInt ∧ iD.toInt ≤ 1) (hiO : 0 ≤ iO.toInt ∧ iO.toInt ≤ 1) : zM' g l yX12_sways (Cond.code yX12_sways cX12_sways 3 (some .int) :: zB) ({ frames := 34, cells := 0, slots := 0, locals := 761 } : Room) [.ref o, .int x, .int n] [bMo g o a th hi ac tp ba en tA fl de iD iO tU fm fk fa fc ft ff fb fi] (fun u : Int32 × Int32 × Int32 × Int32 × Int32 × Int32 × Int32 × Int32 × (Nat → Int32) × (Nat → Int32) × (Nat → Int32) × (Nat → Int32) × Int32 => (fun (th2 : Int32) (ba2 : Int32) (en2 : Int32) (at2 : Int32) (de2 : Int32) (iD2 : Int32) (iO2 : Int32) (tU2 : Int32) (ff2 : Nat → Int32) (fm2 : Nat → Int32) (fb2 : Nat → Int32) (fa2 : Nat → Int32) (q : Int32) => some (.int q)) (u.1) (u.2.1) (u.2.2.1) (u.2.2.2.1) (u.2.2.2.2.1) (u.2.2.2.2.2.1) (u.2.2.2.2.2.2.1) (u.2.2.2.2.2.2.2.1) (u.2.2.2.2.2.2.2.2.1) (u.2.2.2.2.2.2.2.2.2.1) (u.2.2.2.2.2.2.2.2.2.2.1) (u.2.2.2.2.2.2.2.2.2.2.2.1) (u.2.2.2.2.2.2.2.2.2.2.2.2)) (fun u : Int32 × Int32 × Int32 × Int32 × Int32 × Int32 × Int32 × Int32 × (Nat → Int32) × (Nat → Int32) × (Nat → Int32) × (Nat → Int32) × Int32 => (fun (th2 : Int32) (ba2 : Int32) (en2 : Int32) (at2 : Int32) (de2 : Int32) (iD2 : Int32) (iO2 : Int32) (tU2 : Int32) (ff2 : Nat → Int32) (fm2 : Nat → Int32) (fb2 : Nat → Int32) (fa2 : Nat → Int32) (q : Int32) => (rM fa2) ∧ (rM fm2) ∧ (0 ≤ iO2.toInt ∧ iO2.toInt ≤ 1) ∧ (0 ≤ iD2.toInt ∧ iD2.toInt ≤ 1)) (u.1) (u.2.1) (u.2.2.1) (u.2.2.2.1) (u.2.2.2.2.1) (u.2.2.2.2.2.1) (u.2.2.2.2.2.2.1) (u.2.2.2.2.2.2.2.1) (u.2.2.2.2.2.2.2.2.1) (u.2.2.2.2.2.2.2.2.2.1) (u.2.2.2.2.2.2.2.2.2.2.1) (u.2.2.2.2.2.2.2.2.2.2.2.1) (u.2.2.2.2.2.2.2.2.2.2.2.2)) (fun u : Int32 × Int32 × Int32 × Int32 × Int32 × Int32 × Int32 × Int32 × (Nat → Int32) × (Nat → Int32) × (Nat → Int32) × (Nat → Int32) × Int32 => (fun (th2 : Int32) (ba2 : Int32) (en2 : Int32) (at2 : Int32) (de2 : Int32) (iD2 : Int32) (iO2 : Int32) (tU2 : Int32) (ff2 : Nat → Int32) (fm2 : Nat → Int32) (fb2 : Nat → Int32) (fa2 : Nat → Int32) (q : Int32) => [bMo g o a th2 hi ac tp ba2 en2 at2 fl de2 iD2 iO2 tU2 fm2 fk fa2 fc ft ff2 fb2 fi]) (u.1) (u.2.1) (u.2.2.1) (u.2.2.2.1) (u.2.2.2.2.1) (u.2.2.2.2.2.1) (u.2.2.2.2.2.2.1) (u.2.2.2.2.2.2.2.1) (u.2.2.2.2.2.2.2.2.1) (u.2.2.2.2.2.2.2.2.2.1) (u.2.2.2.2.2.2.2.2.2.2.1) (u.2.2.2.2.2.2.2.2.2.2.2.1) (u.2.2.2.2.2.2.2.2.2.2.2.2)) := by
  refine zM'.of (cc := cX12_sways) (maxL := 3) (rt := (some .int)) (by decide) rfl (Nat.le_of_ble_eq_true rfl) ?_
  intro p e s m args below meth c A ls St hr hlocks hin hK hT hA hP hD hS hl
  obtain ⟨hx, hb, hml, hown, hts⟩ := id St
  have hl : lv_has ls 3 [(0, .ref o), (1, .int x), (2, .int n)] := hl
  refine lv_aload_n hx hb dX12_sways_0 rfl (lv_at hl 0 rfl) ?_
  refine lv_aload_n hx hb dX12_sways_1 rfl (lv_at hl 0 rfl) ?_
  refine lv_iload_n hx hb dX12_sways_2 rfl (lv_at hl 1 rfl) ?_
  refine mcallV' (g := g) (q0 := 0) (ci := 10) (As := [.int x]) (rest := [.ref o]) St hK hT hA hP hD hS hl.1 [0] [] rfl rfl rfl (m_isPerson l g o a th hi ac tp ba en tA fl de iD iO tU fm fk fa fc ft ff fb fi x (by first | assumption | omega | decide | exact Or.inl (by decide) | exact Or.inr (by decide))) (cwV 1 hts (zgL (zl4 k1032 k1033 k1034 k837) k834) rfl rfl rfl (by decide +kernel) ⟨Nat.le_of_ble_eq_true rfl, Nat.le_of_ble_eq_true rfl⟩) rfl rfl rfl rfl (Nat.le_of_ble_eq_true rfl) dX12_sways_3 ⟨(Nat.le_of_ble_eq_true rfl), (Nat.le_of_ble_eq_true rfl)⟩ (fun q_1 H locs hq2 hP hD hS => ?_)
  replace hq2 : (q_1 = 1 ∧ 0 ≤ x.toInt ∧ x.toInt ≤ 7 ∧ x.toInt < (fm 3).toInt ∨ q_1 = 0) := hq2
  have hP : va_P g.1 vwCl (List.flatten [bMo g o a th hi ac tp ba en tA fl de iD iO tU fm fk fa fc ft ff fb fi]) H := hP
  have hD : va_D A (List.flatten [bMo g o a th hi ac tp ba en tA fl de iD iO tU fm fk fa fc ft ff fb fi]) := hD
  refine W.widen (k := 0) (n := 0) (Nat.le_of_ble_eq_true rfl) (Nat.le_of_ble_eq_true rfl) ?_
  refine W.eq (g2 := F0 m 6 ls [.int q_1, .ref o]) rfl ?_
  rcases hq2 with ⟨rfl, hq2_k⟩ | rfl
  · skip
    refine lv_if_ne (tgt := 13) hx hb dX12_sways_6 (by decide) (fun _ => ?_) (fun c3 => absurd c3 (by decide))
    refine lv_iload_n hx hb dX12_sways_13 rfl (lv_at hl 2 rfl) ?_
    refine lv_iconst (v := 0) hx hb dX12_sways_14 (by decide) ?_
    refine lv_bipush (v := 30) hx hb dX12_sways_15 (by decide) ?_
    have hL0 : (0 : Int32).toInt = 0 := by decide
    have hL30 : (30 : Int32).toInt = 30 := by decide
    refine mcallS' (g := g) (As := [.int n, .int 0, .int 30]) (rest := [.ref o]) St hK hT hA hP hD hS hl.1 [] [0] rfl rfl rfl (m_isIn l g n 0 30 ) (va_cwS 3 hts (zgL (zl3 k835 k836 k837) k824) rfl rfl rfl (by decide +kernel) ⟨Nat.le_of_ble_eq_true rfl, Nat.le_of_ble_eq_true rfl⟩) rfl rfl (Nat.le_of_ble_eq_true rfl) dX12_sways_17 ⟨(Nat.le_of_ble_eq_true rfl), (Nat.le_of_ble_eq_true rfl)⟩ (fun q_4 H locs hq5 hP hD hS => ?_)
    replace hq5 : (q_4 = 1 ∧ (0 : Int32).toInt ≤ n.toInt ∧ n.toInt ≤ (30 : Int32).toInt ∨ q_4 = 0 ∧ (n.toInt < (0 : Int32).toInt ∨ (30 : Int32).toInt < n.toInt)) := hq5
    have hP : va_P g.1 vwCl (List.flatten [bMo g o a th hi ac tp ba en tA fl de iD iO tU fm fk fa fc ft ff fb fi]) H := hP
    have hD : va_D A (List.flatten [bMo g o a th hi ac tp ba en tA fl de iD iO tU fm fk fa fc ft ff fb fi]) := hD
    refine W.widen (k := 0) (n := 0) (Nat.le_of_ble_eq_true rfl) (Nat.le_of_ble_eq_true rfl) ?_
    refine W.eq (g2 := F0 m 20 ls [.int q_4, .ref o]) rfl ?_
    rcases hq5 with ⟨rfl, hq5_k⟩ | ⟨rfl, hq5_k⟩
    · skip
      refine lv_if_ne (tgt := 27) hx hb dX12_sways_20 (by decide) (fun _ => ?_) (fun c6 => absurd c6 (by decide))
      refine lv_iconst (v := 0) hx hb dX12_sways_27 (by decide) ?_
      refine va_put (D := g.1) (ci := 10) (v := .int 0) (ty := .int) (C := RX12) (T := TX12) (N := 20) hx hb hts izRX12 tyX12 tyX12_ok nmX12 hown hK hP hD hS 0 rfl rfl 0 (by decide) (hts _ k871) (fun _ h9 => h9) rfl (by decide +kernel) rfl rfl (Nat.le_of_ble_eq_true rfl) dX12_sways_28 (fun H locs hP hD hS => ?_)
      have hP : va_P g.1 vwCl (List.flatten [bMo g o a 0 hi ac tp ba en tA fl de iD iO tU fm fk fa fc ft ff fb fi]) H := hP
      have hD : va_D A (List.flatten [bMo g o a 0 hi ac tp ba en tA fl de iD iO tU fm fk fa fc ft ff fb fi]) := hD
      refine lv_aload_n hx hb dX12_sways_31 rfl (lv_at hl 0 rfl) ?_
      refine va_get (D := g.1) (ci := 10) (v := .int 0) (C := RX12) (T := TX12) (N := 20) hx hb hts izRX12 hown hK hP 0 rfl rfl 0 (by decide) (hts _ k871) (fun _ h9 => h9) rfl dX12_sways_32 ?_
      refine lv_if_le (tgt := 42) hx hb dX12_sways_35 (by decide) (fun _ => ?_) (fun c7 => absurd (by decide) c7)
      refine lv_aload_n hx hb dX12_sways_42 rfl (lv_at hl 0 rfl) ?_
      refine lv_iload_n hx hb dX12_sways_43 rfl (lv_at hl 2 rfl) ?_
      refine lv_iconst (v := 1) hx hb dX12_sways_44 (by decide) ?_
      refine lv_iload_n hx hb dX12_sways_45 rfl (lv_at hl 1 rfl) ?_
      refine lv_ishl hx hb dX12_sways_46 ?_
      refine zgb (zshl1 (j := x.toInt) rfl 7 128 (by decide) (by decide) (by omega)) (fun x_8 hx_8 => ?_)
      refine lv_bipush (v := 10) hx hb dX12_sways_47 (by decide) ?_
      refine mcallV' (g := g) (q0 := 0) (ci := 10) (As := [.int n, .int x_8, .int 10]) (rest := []) St hK hT hA hP hD hS hl.1 [0] [] rfl rfl rfl (m_believedBy l g o a 0 hi ac tp ba en tA fl de iD iO tU fm fk fa fc ft ff fb fi n x_8 10 (by first | assumption | omega | decide | exact Or.inl (by decide) | exact Or.inr (by decide)) (by first | assumption | omega | decide | exact Or.inl (by decide) | exact Or.inr (by decide)) (⟨hiD.1, hiD.2⟩) (⟨hiO.1, hiO.2⟩) (by first | assumption | omega | decide | exact Or.inl (by decide) | exact Or.inr (by decide))) (cwV 3 hts (zgL (zl4 k1065 k1066 k1067 k837) k1063) rfl rfl rfl (by decide +kernel) ⟨Nat.le_of_ble_eq_true rfl, Nat.le_of_ble_eq_true rfl⟩) rfl rfl rfl rfl (Nat.le_of_ble_eq_true rfl) dX12_sways_49 ⟨(Nat.le_of_ble_eq_true rfl), (Nat.le_of_ble_eq_true rfl)⟩ (fun u_ H locs hq21 hP hD hS => ?_)
      obtain ⟨ba2_9, en2_10, at2_11, de2_12, iD2_13, iO2_14, tU2_15, ff2_16, fm2_17, fb2_18, fa2_19, q_20⟩ := u_
      replace hq21 : (rM fa2_19) ∧ (rM fm2_17) ∧ (0 ≤ iO2_14.toInt ∧ iO2_14.toInt ≤ 1) ∧ (0 ≤ iD2_13.toInt ∧ iD2_13.toInt ≤ 1) := hq21
      have hP : va_P g.1 vwCl (List.flatten [bMo g o a 0 hi ac tp ba2_9 en2_10 at2_11 fl de2_12 iD2_13 iO2_14 tU2_15 fm2_17 fk fa2_19 fc ft ff2_16 fb2_18 fi]) H := hP
      have hD : va_D A (List.flatten [bMo g o a 0 hi ac tp ba2_9 en2_10 at2_11 fl de2_12 iD2_13 iO2_14 tU2_15 fm2_17 fk fa2_19 fc ft ff2_16 fb2_18 fi]) := hD
      refine W.widen (k := 0) (n := 0) (Nat.le_of_ble_eq_true rfl) (Nat.le_of_ble_eq_true rfl) ?_
      refine W.eq (g2 := F0 m 52 ls [.int q_20]) rfl ?_
      obtain ⟨rfa2_19, rfm2_17, hq21_2, hq21_3⟩ := hq21
      refine lv_aload_n hx hb dX12_sways_52 rfl (lv_at hl 0 rfl) ?_
      refine lv_iload_n hx hb dX12_sways_53 rfl (lv_at hl 2 rfl) ?_
      refine lv_iconst (v := 0) hx hb dX12_sways_54 (by decide) ?_
      refine lv_iconst (v := 0) hx hb dX12_sways_55 (by decide) ?_
      refine mcallV' (g := g) (q0 := 0) (ci := 10) (As := [.int n, .int 0, .int 0]) (rest := [.int q_20]) St hK hT hA hP hD hS hl.1 [0] [] rfl rfl rfl (m_believedBy l g o a 0 hi ac tp ba2_9 en2_10 at2_11 fl de2_12 iD2_13 iO2_14 tU2_15 fm2_17 fk fa2_19 fc ft ff2_16 fb2_18 fi n 0 0 (by first | assumption | omega | decide | exact Or.inl (by decide) | exact Or.inr (by decide)) (by first | assumption | omega | decide | exact Or.inl (by decide) | exact Or.inr (by decide)) (⟨hq21_3.1, hq21_3.2⟩) (⟨hq21_2.1, hq21_2.2⟩) (by first | assumption | omega | decide | exact Or.inl (by decide) | exact Or.inr (by decide))) (cwV 3 hts (zgL (zl4 k1065 k1066 k1067 k837) k1063) rfl rfl rfl (by decide +kernel) ⟨Nat.le_of_ble_eq_true rfl, Nat.le_of_ble_eq_true rfl⟩) rfl rfl rfl rfl (Nat.le_of_ble_eq_true rfl) dX12_sways_56 ⟨(Nat.le_of_ble_eq_true rfl), (Nat.le_of_ble_eq_true rfl)⟩ (fun u_ H locs hq34 hP hD hS => ?_)
      obtain ⟨ba2_22, en2_23, at2_24, de2_25, iD2_26, iO2_27, tU2_28, ff2_29, fm2_30, fb2_31, fa2_32, q_33⟩ := u_
      replace hq34 : (rM fa2_32) ∧ (rM fm2_30) ∧ (0 ≤ iO2_27.toInt ∧ iO2_27.toInt ≤ 1) ∧ (0 ≤ iD2_26.toInt ∧ iD2_26.toInt ≤ 1) := hq34
      have hP : va_P g.1 vwCl (List.flatten [bMo g o a 0 hi ac tp ba2_22 en2_23 at2_24 fl de2_25 iD2_26 iO2_27 tU2_28 fm2_30 fk fa2_32 fc ft ff2_29 fb2_31 fi]) H := hP
      have hD : va_D A (List.flatten [bMo g o a 0 hi ac tp ba2_22 en2_23 at2_24 fl de2_25 iD2_26 iO2_27 tU2_28 fm2_30 fk fa2_32 fc ft ff2_29 fb2_31 fi]) := hD
      refine W.widen (k := 0) (n := 0) (Nat.le_of_ble_eq_true rfl) (Nat.le_of_ble_eq_true rfl) ?_
      refine W.eq (g2 := F0 m 59 ls [.int q_33, .int q_20]) rfl ?_
      obtain ⟨rfa2_32, rfm2_30, hq34_2, hq34_3⟩ := hq34
      refine lv_isub hx hb dX12_sways_59 ?_
      refine zg (fun x_35 => ?_)
      have hP : va_P g.1 vwCl (List.flatten [bMo g o a 0 hi ac tp ba2_22 en2_23 at2_24 fl de2_25 iD2_26 iO2_27 tU2_28 fm2_30 fk fa2_32 fc ft ff2_29 fb2_31 fi]) H := hP
      have hD : va_D A (List.flatten [bMo g o a 0 hi ac tp ba2_22 en2_23 at2_24 fl de2_25 iD2_26 iO2_27 tU2_28 fm2_30 fk fa2_32 fc ft ff2_29 fb2_31 fi]) := hD
      exact mret_i hx hb hr hlocks hS (Nat.le_of_ble_eq_true rfl) (Nat.le_of_ble_eq_true rfl) dX12_sways_60 ((0 : Int32), ba2_22, en2_23, at2_24, de2_25, iD2_26, iO2_27, tU2_28, ff2_29, fm2_30, fb2_31, fa2_32, x_35) rfl (show (rM fa2_32) ∧ (rM fm2_30) ∧ (0 ≤ iO2_27.toInt ∧ iO2_27.toInt ≤ 1) ∧ (0 ≤ iD2_26.toInt ∧ iD2_26.toInt ≤ 1) from ⟨(by first | assumption | omega | decide | exact rfl | exact zb01 (by omega) | exact Or.inl (by decide) | exact Or.inr (by first | omega | decide)), (by first | assumption | omega | decide | exact rfl | exact zb01 (by omega) | exact Or.inl (by decide) | exact Or.inr (by first | omega | decide)), (by first | assumption | omega | decide | exact rfl | exact zb01 (by omega) | exact Or.inl (by decide) | exact Or.inr (by first | omega | decide)), (by first | assumption | omega | decide | exact rfl | exact zb01 (by omega) | exact Or.inl (by decide) | exact Or.inr (by first | omega | decide))⟩) hP hD
    · skip
      refine lv_if_ne (tgt := 27) hx hb dX12_sways_20 (by decide) (fun c36 => absurd (by decide) c36) (fun _ => ?_)
      refine lv_iconst (v := 2) hx hb dX12_sways_23 (by decide) ?_
      refine lv_goto (tgt := 28) hx hb dX12_sways_24 (by decide) ?_
      refine va_put (D := g.1) (ci := 10) (v := .int 2) (ty := .int) (C := RX12) (T := TX12) (N := 20) hx hb hts izRX12 tyX12 tyX12_ok nmX12 hown hK hP hD hS 0 rfl rfl 0 (by decide) (hts _ k871) (fun _ h9 => h9) rfl (by decide +kernel) rfl rfl (Nat.le_of_ble_eq_true rfl) dX12_sways_28 (fun H locs hP hD hS => ?_)
      have hP : va_P g.1 vwCl (List.flatten [bMo g o a 2 hi ac tp ba en tA fl de iD iO tU fm fk fa fc ft ff fb fi]) H := hP
      have hD : va_D A (List.flatten [bMo g o a 2 hi ac tp ba en tA fl de iD iO tU fm fk fa fc ft ff fb fi]) := hD
      refine lv_aload_n hx hb dX12_sways_31 rfl (lv_at hl 0 rfl) ?_
      refine va_get (D := g.1) (ci := 10) (v := .int 2) (C := RX12) (T := TX12) (N := 20) hx hb hts izRX12 hown hK hP 0 rfl rfl 0 (by decide) (hts _ k871) (fun _ h9 => h9) rfl dX12_sways_32 ?_
      refine lv_if_le (tgt := 42) hx hb dX12_sways_35 (by decide) (fun c37 => absurd c37 (by decide)) (fun _ => ?_)
      refine lv_iconst (v := 0) hx hb dX12_sways_38 (by decide) ?_
      refine lv_goto (tgt := 60) hx hb dX12_sways_39 (by decide) ?_
      have hP : va_P g.1 vwCl (List.flatten [bMo g o a 2 hi ac tp ba en tA fl de iD iO tU fm fk fa fc ft ff fb fi]) H := hP
      have hD : va_D A (List.flatten [bMo g o a 2 hi ac tp ba en tA fl de iD iO tU fm fk fa fc ft ff fb fi]) := hD
      exact mret_i hx hb hr hlocks hS (Nat.le_of_ble_eq_true rfl) (Nat.le_of_ble_eq_true rfl) dX12_sways_60 ((2 : Int32), ba, en, tA, de, iD, iO, tU, ff, fm, fb, fa, (0 : Int32)) rfl (show (rM fa) ∧ (rM fm) ∧ (0 ≤ iO.toInt ∧ iO.toInt ≤ 1) ∧ (0 ≤ iD.toInt ∧ iD.toInt ≤ 1) from ⟨(by first | assumption | omega | decide | exact rfl | exact zb01 (by omega) | exact Or.inl (by decide) | exact Or.inr (by first | omega | decide)), (by first | assumption | omega | decide | exact rfl | exact zb01 (by omega) | exact Or.inl (by decide) | exact Or.inr (by first | omega | decide)), (by first | assumption | omega | decide | exact rfl | exact zb01 (by omega) | exact Or.inl (by decide) | exact Or.inr (by first | omega | decide)), (by first | assumption | omega | decide | exact rfl | exact zb01 (by omega) | exact Or.inl (by decide) | exact Or.inr (by first | omega | decide))⟩) hP hD
  · skip
    refine lv_if_ne (tgt := 13) hx hb dX12_sways_6 (by decide) (fun c38 => absurd (by decide) c38) (fun _ => ?_)
    refine lv_iconst (v := 1) hx hb dX12_sways_9 (by decide) ?_
    refine lv_goto (tgt := 28) hx hb dX12_sways_10 (by decide) ?_
    refine va_put (D := g.1) (ci := 10) (v := .int 1) (ty := .int) (C := RX12) (T := TX12) (N := 20) hx hb hts izRX12 tyX12 tyX12_ok nmX12 hown hK hP hD hS 0 rfl rfl 0 (by decide) (hts _ k871) (fun _ h9 => h9) rfl (by decide +kernel) rfl rfl (Nat.le_of_ble_eq_true rfl) dX12_sways_28 (fun H locs hP hD hS => ?_)
    have hP : va_P g.1 vwCl (List.flatten [bMo g o a 1 hi ac tp ba en tA fl de iD iO tU fm fk fa fc ft ff fb fi]) H := hP
    have hD : va_D A (List.flatten [bMo g o a 1 hi ac tp ba en tA fl de iD iO tU fm fk fa fc ft ff fb fi]) := hD
    refine lv_aload_n hx hb dX12_sways_31 rfl (lv_at hl 0 rfl) ?_
    refine va_get (D := g.1) (ci := 10) (v := .int 1) (C := RX12) (T := TX12) (N := 20) hx hb hts izRX12 hown hK hP 0 rfl rfl 0 (by decide) (hts _ k871) (fun _ h9 => h9) rfl dX12_sways_32 ?_
    refine lv_if_le (tgt := 42) hx hb dX12_sways_35 (by decide) (fun c39 => absurd c39 (by decide)) (fun _ => ?_)
    refine lv_iconst (v := 0) hx hb dX12_sways_38 (by decide) ?_
    refine lv_goto (tgt := 60) hx hb dX12_sways_39 (by decide) ?_
    have hP : va_P g.1 vwCl (List.flatten [bMo g o a 1 hi ac tp ba en tA fl de iD iO tU fm fk fa fc ft ff fb fi]) H := hP
    have hD : va_D A (List.flatten [bMo g o a 1 hi ac tp ba en tA fl de iD iO tU fm fk fa fc ft ff fb fi]) := hD
    exact mret_i hx hb hr hlocks hS (Nat.le_of_ble_eq_true rfl) (Nat.le_of_ble_eq_true rfl) dX12_sways_60 ((1 : Int32), ba, en, tA, de, iD, iO, tU, ff, fm, fb, fa, (0 : Int32)) rfl (show (rM fa) ∧ (rM fm) ∧ (0 ≤ iO.toInt ∧ iO.toInt ≤ 1) ∧ (0 ≤ iD.toInt ∧ iD.toInt ≤ 1) from ⟨(by first | assumption | omega | decide | exact rfl | exact zb01 (by omega) | exact Or.inl (by decide) | exact Or.inr (by first | omega | decide)), (by first | assumption | omega | decide | exact rfl | exact zb01 (by omega) | exact Or.inl (by decide) | exact Or.inr (by first | omega | decide)), (by first | assumption | omega | decide | exact rfl | exact zb01 (by omega) | exact Or.inl (by decide) | exact Or.inr (by first | omega | decide)), (by first | assumption | omega | decide | exact rfl | exact zb01 (by omega) | exact Or.inl (by decide) | exact Or.inr (by first | omega | decide))⟩) hP hD
