set_option maxRecDepth 100000 in
set_option maxHeartbeats 4000000 in
theorem m_workLine (l : Launch) (g : zG) (o : Nat) (a : Nat → Nat) (th : Int32) (hi : Int32) (ac : Int32) (tp : Int32) (ba : Int32) (en : Int32) (tA : Int32) (fl : Int32) (de : Int32) (iD : Int32) (iO : Int32) (tU : Int32) (fm : Nat → Int32) (fk : Nat → Int32) (fa : Nat → Int32) (fc : Nat → Int32) (ft : Nat → Int32) (ff : Nat → Int32) (fb : Nat → Int32) (fi : Nat → Int32) (b0 : Int32) (rfm : rM fm) (hba : zBa ba.toInt) (hen : 0 ≤ en.toInt ∧ en.toInt ≤ 400) (htA : 0 ≤ tA.toInt ∧ tA.toInt ≤ en.toInt + 7 - de.toInt) (hfl : -1 ≤ fl.toInt) (hde : 0 ≤ de.toInt ∧ de.toInt ≤ 6) (hb0 : 0 ≤ b0.toInt) : zM' g l yX12_workLine (Cond.code yX12_workLine cX12_workLine 6 none :: zB) ({ frames := 6, cells := 0, slots := 0, locals := 131 } : Room) [.ref o, .int b0] [bMo g o a th hi ac tp ba en tA fl de iD iO tU fm fk fa fc ft ff fb fi] (fun u : Int32 × Int32 × (Nat → Int32) => (fun (at2 : Int32) (fl2 : Int32) (fm2 : Nat → Int32) => none) (u.1) (u.2.1) (u.2.2)) (fun u : Int32 × Int32 × (Nat → Int32) => (fun (at2 : Int32) (fl2 : Int32) (fm2 : Nat → Int32) => (rM fm2) ∧ (0 ≤ at2.toInt ∧ at2.toInt ≤ en.toInt + 7 - de.toInt) ∧ (tA.toInt ≤ at2.toInt) ∧ (-1 ≤ fl2.toInt)) (u.1) (u.2.1) (u.2.2)) (fun u : Int32 × Int32 × (Nat → Int32) => (fun (at2 : Int32) (fl2 : Int32) (fm2 : Nat → Int32) => [bMo g o a th hi ac tp ba en at2 fl2 de iD iO tU fm2 fk fa fc ft ff fb fi]) (u.1) (u.2.1) (u.2.2)) := by
  refine zM'.of (cc := cX12_workLine) (maxL := 6) (rt := none) (by decide) rfl (Nat.le_of_ble_eq_true rfl) ?_
  intro p e s m args below meth c A ls St hr hlocks hin hK hT hA hP hD hS hl
  obtain ⟨hx, hb, hml, hown, hts⟩ := id St
  have hl : lv_has ls 6 [(0, .ref o), (1, .int b0)] := hl
  refine lv_aload_n hx hb dX12_workLine_0 rfl (lv_at hl 0 rfl) ?_
  refine va_get (D := g.1) (ci := 10) (v := .ref (a 0)) (C := RX12) (T := TX12) (N := 20) hx hb hts izRX12 hown hK hP 0 rfl rfl 1 (by decide) (hts _ k815) (fun _ h9 => h9) rfl dX12_workLine_1 ?_
  refine lv_iconst (v := 4) hx hb dX12_workLine_4 (by decide) ?_
  refine va_iald hx hb hK hP 1 0 rfl rfl (zin rfl) dX12_workLine_5 ?_
  refine zgq (r := fm 4) rfl (rM4 rfm) (fun x_1 hx_1 => ?_)
  refine lv_bipush (v := 6) hx hb dX12_workLine_6 (by decide) ?_
  refine lv_icmp_ne (tgt := 16) hx hb dX12_workLine_8 (by decide) (fun cb9 => ?_) (fun cb9 => ?_)
  · skip
    have c2 : ¬ x_1.toInt = 6 := zne cb9 rfl (by decide)
    have n3 : x_1.toInt ≤ 5 := zN2 c2 hx_1.2.1 (by decide)
    refine lv_aload_n hx hb dX12_workLine_16 rfl (lv_at hl 0 rfl) ?_
    refine lv_iconst (v := 1) hx hb dX12_workLine_17 (by decide) ?_
    refine lv_bipush (v := 99) hx hb dX12_workLine_18 (by decide) ?_
    have hL1 : (1 : Int32).toInt = 1 := by decide
    have hL99 : (99 : Int32).toInt = 99 := by decide
    refine mcallV' (g := g) (q0 := 0) (ci := 10) (As := [.int 1, .int 99]) (rest := []) St hK hT hA hP hD hS hl.1 [0] [] rfl rfl rfl (m_figures l g o a th hi ac tp ba en tA fl de iD iO tU fm fk fa fc ft ff fb fi 1 99 (by first | assumption | omega | decide | exact Or.inl (by decide) | exact Or.inr (by decide)) (⟨hen.1, hen.2⟩) (by first | assumption | omega | decide | exact Or.inl (by decide) | exact Or.inr (by decide)) (by first | assumption | omega | decide | exact Or.inl (by decide) | exact Or.inr (by decide)) (⟨hde.1, hde.2⟩)) (cwV 2 hts (zgL (zl4 k901 k902 k903 k837) k897) rfl rfl rfl (by decide +kernel) ⟨Nat.le_of_ble_eq_true rfl, Nat.le_of_ble_eq_true rfl⟩) rfl rfl rfl rfl (Nat.le_of_ble_eq_true rfl) dX12_workLine_20 ⟨(Nat.le_of_ble_eq_true rfl), (Nat.le_of_ble_eq_true rfl)⟩ (fun u_ H locs hq7 hP hD hS => ?_)
    obtain ⟨at2_4, fl2_5, r_6⟩ := u_
    replace hq7 : (0 ≤ at2_4.toInt ∧ at2_4.toInt ≤ en.toInt + 7 - de.toInt) ∧ (tA.toInt ≤ at2_4.toInt) ∧ (-1 ≤ fl2_5.toInt) ∧ (zImp (fl2_5.toInt = -1) (fl.toInt = -1 ∧ (1 : Int32).toInt ≤ r_6.toInt ∧ r_6.toInt ≤ (99 : Int32).toInt)) := hq7
    have hP : va_P g.1 vwCl (List.flatten [bMo g o a th hi ac tp ba en at2_4 fl2_5 de iD iO tU fm fk fa fc ft ff fb fi]) H := hP
    have hD : va_D A (List.flatten [bMo g o a th hi ac tp ba en at2_4 fl2_5 de iD iO tU fm fk fa fc ft ff fb fi]) := hD
    refine W.widen (k := 0) (n := 0) (Nat.le_of_ble_eq_true rfl) (Nat.le_of_ble_eq_true rfl) ?_
    refine W.eq (g2 := F0 m 23 ls [.int r_6]) rfl ?_
    obtain ⟨hq7_0, hq7_1, hq7_2, hq7_3⟩ := hq7
    refine lv_istore_n (lv' := [(2, .int r_6), (0, .ref o), (1, .int b0)]) hx hb dX12_workLine_23 rfl hl (by decide) rfl (fun ls hl => ?_)
    refine lv_aload_n hx hb dX12_workLine_24 rfl (lv_at hl 1 rfl) ?_
    refine va_ldcS (q := g.2 66) hx hb hown (zra28 hT.2.1) dX12_workLine_25 ?_
    refine lv_iconst (v := 0) hx hb dX12_workLine_27 (by decide) ?_
    refine lv_sipush (v := 799) hx hb dX12_workLine_28 (by decide) ?_
    have hL0 : (0 : Int32).toInt = 0 := by decide
    have hL799 : (799 : Int32).toInt = 799 := by decide
    refine mcallV' (g := g) (q0 := 0) (ci := 10) (As := [.ref (g.2 66), .int 0, .int 799]) (rest := []) St hK hT hA hP hD hS hl.1 [0] [] rfl rfl rfl (m_after l g o a th hi ac tp ba en at2_4 fl2_5 de iD iO tU fm fk fa fc ft ff fb fi 0 799 (g.2 66) 28 zqa28 (by first | assumption | omega | decide | exact Or.inl (by decide) | exact Or.inr (by decide)) (⟨hen.1, hen.2⟩) (by first | assumption | omega | decide | exact Or.inl (by decide) | exact Or.inr (by decide)) (by first | assumption | omega | decide | exact Or.inl (by decide) | exact Or.inr (by decide)) (⟨hde.1, hde.2⟩) rfl zla28 zna28) (cwV 3 hts (zgL (zl4 k905 k906 k907 k837) k904) rfl rfl rfl (by decide +kernel) ⟨Nat.le_of_ble_eq_true rfl, Nat.le_of_ble_eq_true rfl⟩) rfl rfl rfl rfl (Nat.le_of_ble_eq_true rfl) dX12_workLine_31 ⟨(Nat.le_of_ble_eq_true rfl), (Nat.le_of_ble_eq_true rfl)⟩ (fun u_ H locs hq11 hP hD hS => ?_)
    obtain ⟨at2_8, fl2_9, r_10⟩ := u_
    replace hq11 : (0 ≤ at2_8.toInt ∧ at2_8.toInt ≤ en.toInt + 7 - de.toInt) ∧ (at2_4.toInt ≤ at2_8.toInt) ∧ (-1 ≤ fl2_9.toInt) ∧ (zImp (fl2_9.toInt = -1) (fl2_5.toInt = -1 ∧ (0 : Int32).toInt ≤ r_10.toInt ∧ r_10.toInt ≤ (799 : Int32).toInt)) := hq11
    have hP : va_P g.1 vwCl (List.flatten [bMo g o a th hi ac tp ba en at2_8 fl2_9 de iD iO tU fm fk fa fc ft ff fb fi]) H := hP
    have hD : va_D A (List.flatten [bMo g o a th hi ac tp ba en at2_8 fl2_9 de iD iO tU fm fk fa fc ft ff fb fi]) := hD
    refine W.widen (k := 0) (n := 0) (Nat.le_of_ble_eq_true rfl) (Nat.le_of_ble_eq_true rfl) ?_
    refine W.eq (g2 := F0 m 34 ls [.int r_10]) rfl ?_
    obtain ⟨hq11_0, hq11_1, hq11_2, hq11_3⟩ := hq11
    refine lv_istore_n (lv' := [(3, .int r_10), (2, .int r_6), (0, .ref o), (1, .int b0)]) hx hb dX12_workLine_34 rfl hl (by decide) rfl (fun ls hl => ?_)
    refine lv_aload_n hx hb dX12_workLine_35 rfl (lv_at hl 2 rfl) ?_
    refine va_ldcS (q := g.2 68) hx hb hown (zra29 hT.2.1) dX12_workLine_36 ?_
    refine lv_iconst (v := 0) hx hb dX12_workLine_38 (by decide) ?_
    refine lv_bipush (v := 20) hx hb dX12_workLine_39 (by decide) ?_
    have hL20 : (20 : Int32).toInt = 20 := by decide
    refine mcallV' (g := g) (q0 := 0) (ci := 10) (As := [.ref (g.2 68), .int 0, .int 20]) (rest := []) St hK hT hA hP hD hS hl.1 [0] [] rfl rfl rfl (m_after l g o a th hi ac tp ba en at2_8 fl2_9 de iD iO tU fm fk fa fc ft ff fb fi 0 20 (g.2 68) 29 zqa29 (by first | assumption | omega | decide | exact Or.inl (by decide) | exact Or.inr (by decide)) (⟨hen.1, hen.2⟩) (by first | assumption | omega | decide | exact Or.inl (by decide) | exact Or.inr (by decide)) (by first | assumption | omega | decide | exact Or.inl (by decide) | exact Or.inr (by decide)) (⟨hde.1, hde.2⟩) rfl zla29 zna29) (cwV 3 hts (zgL (zl4 k905 k906 k907 k837) k904) rfl rfl rfl (by decide +kernel) ⟨Nat.le_of_ble_eq_true rfl, Nat.le_of_ble_eq_true rfl⟩) rfl rfl rfl rfl (Nat.le_of_ble_eq_true rfl) dX12_workLine_41 ⟨(Nat.le_of_ble_eq_true rfl), (Nat.le_of_ble_eq_true rfl)⟩ (fun u_ H locs hq15 hP hD hS => ?_)
    obtain ⟨at2_12, fl2_13, r_14⟩ := u_
    replace hq15 : (0 ≤ at2_12.toInt ∧ at2_12.toInt ≤ en.toInt + 7 - de.toInt) ∧ (at2_8.toInt ≤ at2_12.toInt) ∧ (-1 ≤ fl2_13.toInt) ∧ (zImp (fl2_13.toInt = -1) (fl2_9.toInt = -1 ∧ (0 : Int32).toInt ≤ r_14.toInt ∧ r_14.toInt ≤ (20 : Int32).toInt)) := hq15
    have hP : va_P g.1 vwCl (List.flatten [bMo g o a th hi ac tp ba en at2_12 fl2_13 de iD iO tU fm fk fa fc ft ff fb fi]) H := hP
    have hD : va_D A (List.flatten [bMo g o a th hi ac tp ba en at2_12 fl2_13 de iD iO tU fm fk fa fc ft ff fb fi]) := hD
    refine W.widen (k := 0) (n := 0) (Nat.le_of_ble_eq_true rfl) (Nat.le_of_ble_eq_true rfl) ?_
    refine W.eq (g2 := F0 m 44 ls [.int r_14]) rfl ?_
    obtain ⟨hq15_0, hq15_1, hq15_2, hq15_3⟩ := hq15
    refine lv_istore (lv' := [(4, .int r_14), (3, .int r_10), (2, .int r_6), (0, .ref o), (1, .int b0)]) hx hb dX12_workLine_44 hl (by decide) rfl (fun ls hl => ?_)
    refine lv_aload_n hx hb dX12_workLine_46 rfl (lv_at hl 3 rfl) ?_
    refine va_get (D := g.1) (ci := 10) (v := .int fl2_13) (C := RX12) (T := TX12) (N := 20) hx hb hts izRX12 hown hK hP 0 rfl rfl 12 (by decide) (hts _ k820) (fun _ h9 => h9) rfl dX12_workLine_47 ?_
    refine lv_iconst (v := (-1)) hx hb dX12_workLine_50 (by decide) ?_
    refine lv_icmp_eq (tgt := 55) hx hb dX12_workLine_51 (by decide) (fun cb9 => ?_) (fun cb9 => ?_)
    · skip
      have c16 : fl2_13.toInt = (-1) := zeq cb9 rfl (by decide)
      have n17 : fl2_13.toInt ≤ (-1) := Int.le_trans (Int.le_of_eq c16) (Int.le_refl _)
      obtain ⟨e19, w18⟩ := hq15_3 c16
      have w20 : 0 ≤ r_14.toInt ∧ r_14.toInt ≤ 20 := by first | exact w18 | omega
      obtain ⟨e22, w21⟩ := hq11_3 e19
      have w23 : 0 ≤ r_10.toInt ∧ r_10.toInt ≤ 799 := by first | exact w21 | omega
      obtain ⟨e25, w24⟩ := hq7_3 e22
      have w26 : 1 ≤ r_6.toInt ∧ r_6.toInt ≤ 99 := by first | exact w24 | omega
      refine lv_aload_n hx hb dX12_workLine_55 rfl (lv_at hl 3 rfl) ?_
      refine va_get (D := g.1) (ci := 10) (v := .ref (a 0)) (C := RX12) (T := TX12) (N := 20) hx hb hts izRX12 hown hK hP 0 rfl rfl 1 (by decide) (hts _ k815) (fun _ h9 => h9) rfl dX12_workLine_56 ?_
      refine lv_iconst (v := 4) hx hb dX12_workLine_59 (by decide) ?_
      refine va_iald hx hb hK hP 1 0 rfl rfl (zin rfl) dX12_workLine_60 ?_
      refine zgq (r := fm 4) rfl (rM4 rfm) (fun x_27 hx_27 => ?_)
      refine lv_istore (lv' := [(5, .int x_27), (4, .int r_14), (3, .int r_10), (2, .int r_6), (0, .ref o), (1, .int b0)]) hx hb dX12_workLine_61 hl (by decide) rfl (fun ls hl => ?_)
      refine lv_aload_n hx hb dX12_workLine_63 rfl (lv_at hl 4 rfl) ?_
      refine lv_iload hx hb dX12_workLine_64 (lv_at hl 0 rfl) ?_
      refine lv_iconst (v := 0) hx hb dX12_workLine_66 (by decide) ?_
      refine lv_iload_n hx hb dX12_workLine_67 rfl (lv_at hl 3 rfl) ?_
      refine mcallV' (g := g) (q0 := 0) (ci := 10) (As := [.int x_27, .int 0, .int r_6]) (rest := []) St hK hT hA hP hD hS hl.1 [0] [] rfl rfl rfl (m_putWork l g o a th hi ac tp ba en at2_12 fl2_13 de iD iO tU fm fk fa fc ft ff fb fi x_27 0 r_6 (by first | assumption | omega | decide | exact Or.inl (by decide) | exact Or.inr (by decide)) (by first | assumption | omega | decide | exact Or.inl (by decide) | exact Or.inr (by decide)) (by decide)) (cwV 3 hts (zgL (zl4 k913 k914 k915 k837) k832) rfl rfl rfl (by decide +kernel) ⟨Nat.le_of_ble_eq_true rfl, Nat.le_of_ble_eq_true rfl⟩) rfl rfl rfl rfl (Nat.le_of_ble_eq_true rfl) dX12_workLine_68 ⟨(Nat.le_of_ble_eq_true rfl), (Nat.le_of_ble_eq_true rfl)⟩ (fun fm2_28 H locs hq29 hP hD hS => ?_)
      replace hq29 : (rM fm2_28) ∧ ((fm2_28 3).toInt = (fm 3).toInt ∧ (fm2_28 4).toInt = (fm 4).toInt) := hq29
      have hP : va_P g.1 vwCl (List.flatten [bMo g o a th hi ac tp ba en at2_12 fl2_13 de iD iO tU fm2_28 fk fa fc ft ff fb fi]) H := hP
      have hD : va_D A (List.flatten [bMo g o a th hi ac tp ba en at2_12 fl2_13 de iD iO tU fm2_28 fk fa fc ft ff fb fi]) := hD
      refine W.widen (k := 0) (n := 0) (Nat.le_of_ble_eq_true rfl) (Nat.le_of_ble_eq_true rfl) ?_
      refine W.eq (g2 := F0 m 71 ls []) rfl ?_
      obtain ⟨rfm2_28, hq29_1⟩ := hq29
      refine lv_aload_n hx hb dX12_workLine_71 rfl (lv_at hl 4 rfl) ?_
      refine lv_iload hx hb dX12_workLine_72 (lv_at hl 0 rfl) ?_
      refine lv_iconst (v := 1) hx hb dX12_workLine_74 (by decide) ?_
      refine lv_iload_n hx hb dX12_workLine_75 rfl (lv_at hl 2 rfl) ?_
      refine mcallV' (g := g) (q0 := 0) (ci := 10) (As := [.int x_27, .int 1, .int r_10]) (rest := []) St hK hT hA hP hD hS hl.1 [0] [] rfl rfl rfl (m_putWork l g o a th hi ac tp ba en at2_12 fl2_13 de iD iO tU fm2_28 fk fa fc ft ff fb fi x_27 1 r_10 (by first | assumption | omega | decide | exact Or.inl (by decide) | exact Or.inr (by decide)) (by first | assumption | omega | decide | exact Or.inl (by decide) | exact Or.inr (by decide)) (by decide)) (cwV 3 hts (zgL (zl4 k913 k914 k915 k837) k832) rfl rfl rfl (by decide +kernel) ⟨Nat.le_of_ble_eq_true rfl, Nat.le_of_ble_eq_true rfl⟩) rfl rfl rfl rfl (Nat.le_of_ble_eq_true rfl) dX12_workLine_76 ⟨(Nat.le_of_ble_eq_true rfl), (Nat.le_of_ble_eq_true rfl)⟩ (fun fm2_30 H locs hq31 hP hD hS => ?_)
      replace hq31 : (rM fm2_30) ∧ ((fm2_30 3).toInt = (fm2_28 3).toInt ∧ (fm2_30 4).toInt = (fm2_28 4).toInt) := hq31
      have hP : va_P g.1 vwCl (List.flatten [bMo g o a th hi ac tp ba en at2_12 fl2_13 de iD iO tU fm2_30 fk fa fc ft ff fb fi]) H := hP
      have hD : va_D A (List.flatten [bMo g o a th hi ac tp ba en at2_12 fl2_13 de iD iO tU fm2_30 fk fa fc ft ff fb fi]) := hD
      refine W.widen (k := 0) (n := 0) (Nat.le_of_ble_eq_true rfl) (Nat.le_of_ble_eq_true rfl) ?_
      refine W.eq (g2 := F0 m 79 ls []) rfl ?_
      obtain ⟨rfm2_30, hq31_1⟩ := hq31
      refine lv_aload_n hx hb dX12_workLine_79 rfl (lv_at hl 4 rfl) ?_
      refine lv_iload hx hb dX12_workLine_80 (lv_at hl 0 rfl) ?_
      refine lv_iconst (v := 2) hx hb dX12_workLine_82 (by decide) ?_
      refine lv_iload hx hb dX12_workLine_83 (lv_at hl 1 rfl) ?_
      have hL2 : (2 : Int32).toInt = 2 := by decide
      refine mcallV' (g := g) (q0 := 0) (ci := 10) (As := [.int x_27, .int 2, .int r_14]) (rest := []) St hK hT hA hP hD hS hl.1 [0] [] rfl rfl rfl (m_putWork l g o a th hi ac tp ba en at2_12 fl2_13 de iD iO tU fm2_30 fk fa fc ft ff fb fi x_27 2 r_14 (by first | assumption | omega | decide | exact Or.inl (by decide) | exact Or.inr (by decide)) (by first | assumption | omega | decide | exact Or.inl (by decide) | exact Or.inr (by decide)) (by decide)) (cwV 3 hts (zgL (zl4 k913 k914 k915 k837) k832) rfl rfl rfl (by decide +kernel) ⟨Nat.le_of_ble_eq_true rfl, Nat.le_of_ble_eq_true rfl⟩) rfl rfl rfl rfl (Nat.le_of_ble_eq_true rfl) dX12_workLine_85 ⟨(Nat.le_of_ble_eq_true rfl), (Nat.le_of_ble_eq_true rfl)⟩ (fun fm2_32 H locs hq33 hP hD hS => ?_)
      replace hq33 : (rM fm2_32) ∧ ((fm2_32 3).toInt = (fm2_30 3).toInt ∧ (fm2_32 4).toInt = (fm2_30 4).toInt) := hq33
      have hP : va_P g.1 vwCl (List.flatten [bMo g o a th hi ac tp ba en at2_12 fl2_13 de iD iO tU fm2_32 fk fa fc ft ff fb fi]) H := hP
      have hD : va_D A (List.flatten [bMo g o a th hi ac tp ba en at2_12 fl2_13 de iD iO tU fm2_32 fk fa fc ft ff fb fi]) := hD
      refine W.widen (k := 0) (n := 0) (Nat.le_of_ble_eq_true rfl) (Nat.le_of_ble_eq_true rfl) ?_
      refine W.eq (g2 := F0 m 88 ls []) rfl ?_
      obtain ⟨rfm2_32, hq33_1⟩ := hq33
      refine lv_aload_n hx hb dX12_workLine_88 rfl (lv_at hl 4 rfl) ?_
      refine lv_iload hx hb dX12_workLine_89 (lv_at hl 0 rfl) ?_
      refine lv_iconst (v := 3) hx hb dX12_workLine_91 (by decide) ?_
      refine lv_iconst (v := 0) hx hb dX12_workLine_92 (by decide) ?_
      have hL3 : (3 : Int32).toInt = 3 := by decide
      refine mcallV' (g := g) (q0 := 0) (ci := 10) (As := [.int x_27, .int 3, .int 0]) (rest := []) St hK hT hA hP hD hS hl.1 [0] [] rfl rfl rfl (m_putWork l g o a th hi ac tp ba en at2_12 fl2_13 de iD iO tU fm2_32 fk fa fc ft ff fb fi x_27 3 0 (by first | assumption | omega | decide | exact Or.inl (by decide) | exact Or.inr (by decide)) (by first | assumption | omega | decide | exact Or.inl (by decide) | exact Or.inr (by decide)) (by decide)) (cwV 3 hts (zgL (zl4 k913 k914 k915 k837) k832) rfl rfl rfl (by decide +kernel) ⟨Nat.le_of_ble_eq_true rfl, Nat.le_of_ble_eq_true rfl⟩) rfl rfl rfl rfl (Nat.le_of_ble_eq_true rfl) dX12_workLine_93 ⟨(Nat.le_of_ble_eq_true rfl), (Nat.le_of_ble_eq_true rfl)⟩ (fun fm2_34 H locs hq35 hP hD hS => ?_)
      replace hq35 : (rM fm2_34) ∧ ((fm2_34 3).toInt = (fm2_32 3).toInt ∧ (fm2_34 4).toInt = (fm2_32 4).toInt) := hq35
      have hP : va_P g.1 vwCl (List.flatten [bMo g o a th hi ac tp ba en at2_12 fl2_13 de iD iO tU fm2_34 fk fa fc ft ff fb fi]) H := hP
      have hD : va_D A (List.flatten [bMo g o a th hi ac tp ba en at2_12 fl2_13 de iD iO tU fm2_34 fk fa fc ft ff fb fi]) := hD
      refine W.widen (k := 0) (n := 0) (Nat.le_of_ble_eq_true rfl) (Nat.le_of_ble_eq_true rfl) ?_
      refine W.eq (g2 := F0 m 96 ls []) rfl ?_
      obtain ⟨rfm2_34, hq35_1⟩ := hq35
      refine lv_aload_n hx hb dX12_workLine_96 rfl (lv_at hl 4 rfl) ?_
      refine va_get (D := g.1) (ci := 10) (v := .ref (a 0)) (C := RX12) (T := TX12) (N := 20) hx hb hts izRX12 hown hK hP 0 rfl rfl 1 (by decide) (hts _ k815) (fun _ h9 => h9) rfl dX12_workLine_97 ?_
      refine lv_iconst (v := 4) hx hb dX12_workLine_100 (by decide) ?_
      refine lv_dup2_11 hx hb dX12_workLine_101 rfl rfl ?_
      refine va_iald hx hb hK hP 1 0 rfl rfl (zin rfl) dX12_workLine_102 ?_
      refine zgq (r := fm2_34 4) rfl (rM4 rfm2_34) (fun x_36 hx_36 => ?_)
      refine lv_iconst (v := 1) hx hb dX12_workLine_103 (by decide) ?_
      refine lv_iadd hx hb dX12_workLine_104 ?_
      refine zg3 (zaddK (i := x_36.toInt) (j := 1) (a' := 1) (b' := 7) rfl (by decide) hx_36.1 hx_36.2.1 (Int.le_refl _) (Int.le_refl _) (by decide)) (fun x_37 hx_37 => ?_)
      refine va_iast hx hb hK hP hD hS 1 0 rfl rfl (zin rfl) dX12_workLine_105 (fun H locs hP hD hS => ?_)
      obtain ⟨fm_38, rfm_38, hP, hD⟩ : ∃ fm_38 : Nat → Int32, rM fm_38 ∧ va_P g.1 vwCl (List.flatten [bMo g o a th hi ac tp ba en at2_12 fl2_13 de iD iO tU fm_38 fk fa fc ft ff fb fi]) H ∧ va_D A (List.flatten [bMo g o a th hi ac tp ba en at2_12 fl2_13 de iD iO tU fm_38 fk fa fc ft ff fb fi]) := ⟨upd fm2_34 4 x_37, (rM_s4 rfm2_34 (show 0 ≤ x_37.toInt ∧ x_37.toInt ≤ 6 from (by omega))), hP, hD⟩
      have hP : va_P g.1 vwCl (List.flatten [bMo g o a th hi ac tp ba en at2_12 fl2_13 de iD iO tU fm_38 fk fa fc ft ff fb fi]) H := hP
      have hD : va_D A (List.flatten [bMo g o a th hi ac tp ba en at2_12 fl2_13 de iD iO tU fm_38 fk fa fc ft ff fb fi]) := hD
      exact mret_v hx hb hr hlocks hS (Nat.le_of_ble_eq_true rfl) (Nat.le_of_ble_eq_true rfl) dX12_workLine_106 (at2_12, fl2_13, fm_38) rfl (show (rM fm_38) ∧ (0 ≤ at2_12.toInt ∧ at2_12.toInt ≤ en.toInt + 7 - de.toInt) ∧ (tA.toInt ≤ at2_12.toInt) ∧ (-1 ≤ fl2_13.toInt) from ⟨(by first | assumption | omega | decide | exact rfl | exact zb01 (by omega) | exact Or.inl (by decide) | exact Or.inr (by first | omega | decide)), (by first | assumption | omega | decide | exact rfl | exact zb01 (by omega) | exact Or.inl (by decide) | exact Or.inr (by first | omega | decide)), (by first | assumption | omega | decide | exact rfl | exact zb01 (by omega) | exact Or.inl (by decide) | exact Or.inr (by first | omega | decide)), (by first | assumption | omega | decide | exact rfl | exact zb01 (by omega) | exact Or.inl (by decide) | exact Or.inr (by first | omega | decide))⟩) hP hD
    · skip
      have c39 : ¬ fl2_13.toInt = (-1) := zne cb9 rfl (by decide)
      have hP : va_P g.1 vwCl (List.flatten [bMo g o a th hi ac tp ba en at2_12 fl2_13 de iD iO tU fm fk fa fc ft ff fb fi]) H := hP
      have hD : va_D A (List.flatten [bMo g o a th hi ac tp ba en at2_12 fl2_13 de iD iO tU fm fk fa fc ft ff fb fi]) := hD
      exact mret_v hx hb hr hlocks hS (Nat.le_of_ble_eq_true rfl) (Nat.le_of_ble_eq_true rfl) dX12_workLine_54 (at2_12, fl2_13, fm) rfl (show (rM fm) ∧ (0 ≤ at2_12.toInt ∧ at2_12.toInt ≤ en.toInt + 7 - de.toInt) ∧ (tA.toInt ≤ at2_12.toInt) ∧ (-1 ≤ fl2_13.toInt) from ⟨(by first | assumption | omega | decide | exact rfl | exact zb01 (by omega) | exact Or.inl (by decide) | exact Or.inr (by first | omega | decide)), (by first | assumption | omega | decide | exact rfl | exact zb01 (by omega) | exact Or.inl (by decide) | exact Or.inr (by first | omega | decide)), (by first | assumption | omega | decide | exact rfl | exact zb01 (by omega) | exact Or.inl (by decide) | exact Or.inr (by first | omega | decide)), (by first | assumption | omega | decide | exact rfl | exact zb01 (by omega) | exact Or.inl (by decide) | exact Or.inr (by first | omega | decide))⟩) hP hD
  · skip
    have c40 : x_1.toInt = 6 := zeq cb9 rfl (by decide)
    have n41 : 6 ≤ x_1.toInt := Int.le_trans (Int.le_refl _) (Int.le_of_eq c40.symm)
    refine lv_aload_n hx hb dX12_workLine_11 rfl (lv_at hl 0 rfl) ?_
    refine lv_iload_n hx hb dX12_workLine_12 rfl (lv_at hl 1 rfl) ?_
    refine mcallV' (g := g) (q0 := 0) (ci := 10) (As := [.int b0]) (rest := []) St hK hT hA hP hD hS hl.1 [0] [] rfl rfl rfl (m_wrong l g o a th hi ac tp ba en tA fl de iD iO tU fm fk fa fc ft ff fb fi b0 hb0 (by first | assumption | omega | decide | exact Or.inl (by decide) | exact Or.inr (by decide))) (cwV 1 hts (zgL (zl4 k894 k895 k896 k837) k889) rfl rfl rfl (by decide +kernel) ⟨Nat.le_of_ble_eq_true rfl, Nat.le_of_ble_eq_true rfl⟩) rfl rfl rfl rfl (Nat.le_of_ble_eq_true rfl) dX12_workLine_13 ⟨(Nat.le_of_ble_eq_true rfl), (Nat.le_of_ble_eq_true rfl)⟩ (fun fl2_42 H locs hq43 hP hD hS => ?_)
    replace hq43 : (0 ≤ fl2_42.toInt) := hq43
    have hP : va_P g.1 vwCl (List.flatten [bMo g o a th hi ac tp ba en tA fl2_42 de iD iO tU fm fk fa fc ft ff fb fi]) H := hP
    have hD : va_D A (List.flatten [bMo g o a th hi ac tp ba en tA fl2_42 de iD iO tU fm fk fa fc ft ff fb fi]) := hD
    refine W.widen (k := 0) (n := 0) (Nat.le_of_ble_eq_true rfl) (Nat.le_of_ble_eq_true rfl) ?_
    refine W.eq (g2 := F0 m 16 ls []) rfl ?_
    refine lv_aload_n hx hb dX12_workLine_16 rfl (lv_at hl 0 rfl) ?_
    refine lv_iconst (v := 1) hx hb dX12_workLine_17 (by decide) ?_
    refine lv_bipush (v := 99) hx hb dX12_workLine_18 (by decide) ?_
    have hL1 : (1 : Int32).toInt = 1 := by decide
    have hL99 : (99 : Int32).toInt = 99 := by decide
    refine mcallV' (g := g) (q0 := 0) (ci := 10) (As := [.int 1, .int 99]) (rest := []) St hK hT hA hP hD hS hl.1 [0] [] rfl rfl rfl (m_figures l g o a th hi ac tp ba en tA fl2_42 de iD iO tU fm fk fa fc ft ff fb fi 1 99 (by first | assumption | omega | decide | exact Or.inl (by decide) | exact Or.inr (by decide)) (⟨hen.1, hen.2⟩) (by first | assumption | omega | decide | exact Or.inl (by decide) | exact Or.inr (by decide)) (Int.le_trans (by decide) hq43) (⟨hde.1, hde.2⟩)) (cwV 2 hts (zgL (zl4 k901 k902 k903 k837) k897) rfl rfl rfl (by decide +kernel) ⟨Nat.le_of_ble_eq_true rfl, Nat.le_of_ble_eq_true rfl⟩) rfl rfl rfl rfl (Nat.le_of_ble_eq_true rfl) dX12_workLine_20 ⟨(Nat.le_of_ble_eq_true rfl), (Nat.le_of_ble_eq_true rfl)⟩ (fun u_ H locs hq47 hP hD hS => ?_)
    obtain ⟨at2_44, fl2_45, r_46⟩ := u_
    replace hq47 : (0 ≤ at2_44.toInt ∧ at2_44.toInt ≤ en.toInt + 7 - de.toInt) ∧ (tA.toInt ≤ at2_44.toInt) ∧ (-1 ≤ fl2_45.toInt) ∧ (zImp (fl2_45.toInt = -1) (fl2_42.toInt = -1 ∧ (1 : Int32).toInt ≤ r_46.toInt ∧ r_46.toInt ≤ (99 : Int32).toInt)) := hq47
    have hP : va_P g.1 vwCl (List.flatten [bMo g o a th hi ac tp ba en at2_44 fl2_45 de iD iO tU fm fk fa fc ft ff fb fi]) H := hP
    have hD : va_D A (List.flatten [bMo g o a th hi ac tp ba en at2_44 fl2_45 de iD iO tU fm fk fa fc ft ff fb fi]) := hD
    refine W.widen (k := 0) (n := 0) (Nat.le_of_ble_eq_true rfl) (Nat.le_of_ble_eq_true rfl) ?_
    refine W.eq (g2 := F0 m 23 ls [.int r_46]) rfl ?_
    obtain ⟨hq47_0, hq47_1, hq47_2, hq47_3⟩ := hq47
    refine lv_istore_n (lv' := [(2, .int r_46), (0, .ref o), (1, .int b0)]) hx hb dX12_workLine_23 rfl hl (by decide) rfl (fun ls hl => ?_)
    refine lv_aload_n hx hb dX12_workLine_24 rfl (lv_at hl 1 rfl) ?_
    refine va_ldcS (q := g.2 66) hx hb hown (zra28 hT.2.1) dX12_workLine_25 ?_
    refine lv_iconst (v := 0) hx hb dX12_workLine_27 (by decide) ?_
    refine lv_sipush (v := 799) hx hb dX12_workLine_28 (by decide) ?_
    have hL0 : (0 : Int32).toInt = 0 := by decide
    have hL799 : (799 : Int32).toInt = 799 := by decide
    refine mcallV' (g := g) (q0 := 0) (ci := 10) (As := [.ref (g.2 66), .int 0, .int 799]) (rest := []) St hK hT hA hP hD hS hl.1 [0] [] rfl rfl rfl (m_after l g o a th hi ac tp ba en at2_44 fl2_45 de iD iO tU fm fk fa fc ft ff fb fi 0 799 (g.2 66) 28 zqa28 (by first | assumption | omega | decide | exact Or.inl (by decide) | exact Or.inr (by decide)) (⟨hen.1, hen.2⟩) (by first | assumption | omega | decide | exact Or.inl (by decide) | exact Or.inr (by decide)) (by first | assumption | omega | decide | exact Or.inl (by decide) | exact Or.inr (by decide)) (⟨hde.1, hde.2⟩) rfl zla28 zna28) (cwV 3 hts (zgL (zl4 k905 k906 k907 k837) k904) rfl rfl rfl (by decide +kernel) ⟨Nat.le_of_ble_eq_true rfl, Nat.le_of_ble_eq_true rfl⟩) rfl rfl rfl rfl (Nat.le_of_ble_eq_true rfl) dX12_workLine_31 ⟨(Nat.le_of_ble_eq_true rfl), (Nat.le_of_ble_eq_true rfl)⟩ (fun u_ H locs hq51 hP hD hS => ?_)
    obtain ⟨at2_48, fl2_49, r_50⟩ := u_
    replace hq51 : (0 ≤ at2_48.toInt ∧ at2_48.toInt ≤ en.toInt + 7 - de.toInt) ∧ (at2_44.toInt ≤ at2_48.toInt) ∧ (-1 ≤ fl2_49.toInt) ∧ (zImp (fl2_49.toInt = -1) (fl2_45.toInt = -1 ∧ (0 : Int32).toInt ≤ r_50.toInt ∧ r_50.toInt ≤ (799 : Int32).toInt)) := hq51
    have hP : va_P g.1 vwCl (List.flatten [bMo g o a th hi ac tp ba en at2_48 fl2_49 de iD iO tU fm fk fa fc ft ff fb fi]) H := hP
    have hD : va_D A (List.flatten [bMo g o a th hi ac tp ba en at2_48 fl2_49 de iD iO tU fm fk fa fc ft ff fb fi]) := hD
    refine W.widen (k := 0) (n := 0) (Nat.le_of_ble_eq_true rfl) (Nat.le_of_ble_eq_true rfl) ?_
    refine W.eq (g2 := F0 m 34 ls [.int r_50]) rfl ?_
    obtain ⟨hq51_0, hq51_1, hq51_2, hq51_3⟩ := hq51
    refine lv_istore_n (lv' := [(3, .int r_50), (2, .int r_46), (0, .ref o), (1, .int b0)]) hx hb dX12_workLine_34 rfl hl (by decide) rfl (fun ls hl => ?_)
    refine lv_aload_n hx hb dX12_workLine_35 rfl (lv_at hl 2 rfl) ?_
    refine va_ldcS (q := g.2 68) hx hb hown (zra29 hT.2.1) dX12_workLine_36 ?_
    refine lv_iconst (v := 0) hx hb dX12_workLine_38 (by decide) ?_
    refine lv_bipush (v := 20) hx hb dX12_workLine_39 (by decide) ?_
    have hL20 : (20 : Int32).toInt = 20 := by decide
    refine mcallV' (g := g) (q0 := 0) (ci := 10) (As := [.ref (g.2 68), .int 0, .int 20]) (rest := []) St hK hT hA hP hD hS hl.1 [0] [] rfl rfl rfl (m_after l g o a th hi ac tp ba en at2_48 fl2_49 de iD iO tU fm fk fa fc ft ff fb fi 0 20 (g.2 68) 29 zqa29 (by first | assumption | omega | decide | exact Or.inl (by decide) | exact Or.inr (by decide)) (⟨hen.1, hen.2⟩) (by first | assumption | omega | decide | exact Or.inl (by decide) | exact Or.inr (by decide)) (by first | assumption | omega | decide | exact Or.inl (by decide) | exact Or.inr (by decide)) (⟨hde.1, hde.2⟩) rfl zla29 zna29) (cwV 3 hts (zgL (zl4 k905 k906 k907 k837) k904) rfl rfl rfl (by decide +kernel) ⟨Nat.le_of_ble_eq_true rfl, Nat.le_of_ble_eq_true rfl⟩) rfl rfl rfl rfl (Nat.le_of_ble_eq_true rfl) dX12_workLine_41 ⟨(Nat.le_of_ble_eq_true rfl), (Nat.le_of_ble_eq_true rfl)⟩ (fun u_ H locs hq55 hP hD hS => ?_)
    obtain ⟨at2_52, fl2_53, r_54⟩ := u_
    replace hq55 : (0 ≤ at2_52.toInt ∧ at2_52.toInt ≤ en.toInt + 7 - de.toInt) ∧ (at2_48.toInt ≤ at2_52.toInt) ∧ (-1 ≤ fl2_53.toInt) ∧ (zImp (fl2_53.toInt = -1) (fl2_49.toInt = -1 ∧ (0 : Int32).toInt ≤ r_54.toInt ∧ r_54.toInt ≤ (20 : Int32).toInt)) := hq55
    have hP : va_P g.1 vwCl (List.flatten [bMo g o a th hi ac tp ba en at2_52 fl2_53 de iD iO tU fm fk fa fc ft ff fb fi]) H := hP
    have hD : va_D A (List.flatten [bMo g o a th hi ac tp ba en at2_52 fl2_53 de iD iO tU fm fk fa fc ft ff fb fi]) := hD
    refine W.widen (k := 0) (n := 0) (Nat.le_of_ble_eq_true rfl) (Nat.le_of_ble_eq_true rfl) ?_
    refine W.eq (g2 := F0 m 44 ls [.int r_54]) rfl ?_
    obtain ⟨hq55_0, hq55_1, hq55_2, hq55_3⟩ := hq55
    refine lv_istore (lv' := [(4, .int r_54), (3, .int r_50), (2, .int r_46), (0, .ref o), (1, .int b0)]) hx hb dX12_workLine_44 hl (by decide) rfl (fun ls hl => ?_)
    refine lv_aload_n hx hb dX12_workLine_46 rfl (lv_at hl 3 rfl) ?_
    refine va_get (D := g.1) (ci := 10) (v := .int fl2_53) (C := RX12) (T := TX12) (N := 20) hx hb hts izRX12 hown hK hP 0 rfl rfl 12 (by decide) (hts _ k820) (fun _ h9 => h9) rfl dX12_workLine_47 ?_
    refine lv_iconst (v := (-1)) hx hb dX12_workLine_50 (by decide) ?_
    refine lv_icmp_eq (tgt := 55) hx hb dX12_workLine_51 (by decide) (fun cb9 => ?_) (fun cb9 => ?_)
    · skip
      have c56 : fl2_53.toInt = (-1) := zeq cb9 rfl (by decide)
      have n57 : fl2_53.toInt ≤ (-1) := Int.le_trans (Int.le_of_eq c56) (Int.le_refl _)
      obtain ⟨e59, w58⟩ := hq55_3 c56
      have w60 : 0 ≤ r_54.toInt ∧ r_54.toInt ≤ 20 := by first | exact w58 | omega
      obtain ⟨e62, w61⟩ := hq51_3 e59
      have w63 : 0 ≤ r_50.toInt ∧ r_50.toInt ≤ 799 := by first | exact w61 | omega
      obtain ⟨e65, w64⟩ := hq47_3 e62
      have w66 : 1 ≤ r_46.toInt ∧ r_46.toInt ≤ 99 := by first | exact w64 | omega
      exact absurd e65 (zDeq2 (a := 0) (b := -1) hq43 (Int.le_refl _) (by decide))
    · skip
      have c67 : ¬ fl2_53.toInt = (-1) := zne cb9 rfl (by decide)
      have hP : va_P g.1 vwCl (List.flatten [bMo g o a th hi ac tp ba en at2_52 fl2_53 de iD iO tU fm fk fa fc ft ff fb fi]) H := hP
      have hD : va_D A (List.flatten [bMo g o a th hi ac tp ba en at2_52 fl2_53 de iD iO tU fm fk fa fc ft ff fb fi]) := hD
      exact mret_v hx hb hr hlocks hS (Nat.le_of_ble_eq_true rfl) (Nat.le_of_ble_eq_true rfl) dX12_workLine_54 (at2_52, fl2_53, fm) rfl (show (rM fm) ∧ (0 ≤ at2_52.toInt ∧ at2_52.toInt ≤ en.toInt + 7 - de.toInt) ∧ (tA.toInt ≤ at2_52.toInt) ∧ (-1 ≤ fl2_53.toInt) from ⟨(by first | assumption | omega | decide | exact rfl | exact zb01 (by omega) | exact Or.inl (by decide) | exact Or.inr (by first | omega | decide)), (by first | assumption | omega | decide | exact rfl | exact zb01 (by omega) | exact Or.inl (by decide) | exact Or.inr (by first | omega | decide)), (by first | assumption | omega | decide | exact rfl | exact zb01 (by omega) | exact Or.inl (by decide) | exact Or.inr (by first | omega | decide)), (by first | assumption | omega | decide | exact rfl | exact zb01 (by omega) | exact Or.inl (by decide) | exact Or.inr (by first | omega | decide))⟩) hP hD
