set_option maxRecDepth 100000 in
set_option maxHeartbeats 4000000 in
theorem m_personLine (l : Launch) (g : zG) (o : Nat) (a : Nat → Nat) (th : Int32) (hi : Int32) (ac : Int32) (tp : Int32) (ba : Int32) (en : Int32) (tA : Int32) (fl : Int32) (de : Int32) (iD : Int32) (iO : Int32) (tU : Int32) (fm : Nat → Int32) (fk : Nat → Int32) (fa : Nat → Int32) (fc : Nat → Int32) (ft : Nat → Int32) (ff : Nat → Int32) (fb : Nat → Int32) (fi : Nat → Int32) (b0 : Int32) (rfm : rM fm) (hba : zBa ba.toInt) (hen : 0 ≤ en.toInt ∧ en.toInt ≤ 400) (htA : 0 ≤ tA.toInt ∧ tA.toInt ≤ en.toInt + 7 - de.toInt) (hfl : -1 ≤ fl.toInt) (hde : 0 ≤ de.toInt ∧ de.toInt ≤ 6) (hb0 : 0 ≤ b0.toInt) : zM' g l yX12_personLine (Cond.code yX12_personLine cX12_personLine 6 none :: zB) ({ frames := 6, cells := 0, slots := 0, locals := 131 } : Room) [.ref o, .int b0] [bMo g o a th hi ac tp ba en tA fl de iD iO tU fm fk fa fc ft ff fb fi] (fun u : Int32 × Int32 × (Nat → Int32) => (fun (at2 : Int32) (fl2 : Int32) (fm2 : Nat → Int32) => none) (u.1) (u.2.1) (u.2.2)) (fun u : Int32 × Int32 × (Nat → Int32) => (fun (at2 : Int32) (fl2 : Int32) (fm2 : Nat → Int32) => (rM fm2) ∧ (0 ≤ at2.toInt ∧ at2.toInt ≤ en.toInt + 7 - de.toInt) ∧ (tA.toInt ≤ at2.toInt) ∧ (-1 ≤ fl2.toInt)) (u.1) (u.2.1) (u.2.2)) (fun u : Int32 × Int32 × (Nat → Int32) => (fun (at2 : Int32) (fl2 : Int32) (fm2 : Nat → Int32) => [bMo g o a th hi ac tp ba en at2 fl2 de iD iO tU fm2 fk fa fc ft ff fb fi]) (u.1) (u.2.1) (u.2.2)) := by
  refine zM'.of (cc := cX12_personLine) (maxL := 6) (rt := none) (by decide) rfl (Nat.le_of_ble_eq_true rfl) ?_
  intro p e s m args below meth c A ls St hr hlocks hin hK hT hA hP hD hS hl
  obtain ⟨hx, hb, hml, hown, hts⟩ := id St
  have hl : lv_has ls 6 [(0, .ref o), (1, .int b0)] := hl
  refine lv_aload_n hx hb dX12_personLine_0 rfl (lv_at hl 0 rfl) ?_
  refine va_get (D := g.1) (ci := 10) (v := .ref (a 0)) (C := RX12) (T := TX12) (N := 20) hx hb hts izRX12 hown hK hP 0 rfl rfl 1 (by decide) (hts _ k815) (fun _ h9 => h9) rfl dX12_personLine_1 ?_
  refine lv_iconst (v := 3) hx hb dX12_personLine_4 (by decide) ?_
  refine va_iald hx hb hK hP 1 0 rfl rfl (zin rfl) dX12_personLine_5 ?_
  refine zgq (r := fm 3) rfl (rM3 rfm) (fun x_1 hx_1 => ?_)
  refine lv_bipush (v := 8) hx hb dX12_personLine_6 (by decide) ?_
  refine lv_icmp_ne (tgt := 16) hx hb dX12_personLine_8 (by decide) (fun cb9 => ?_) (fun cb9 => ?_)
  · skip
    have c2 : ¬ x_1.toInt = 8 := zne cb9 rfl (by decide)
    have n3 : x_1.toInt ≤ 7 := zN2 c2 hx_1.2.1 (by decide)
    refine lv_aload_n hx hb dX12_personLine_16 rfl (lv_at hl 0 rfl) ?_
    refine lv_iconst (v := 0) hx hb dX12_personLine_17 (by decide) ?_
    refine lv_bipush (v := 99) hx hb dX12_personLine_18 (by decide) ?_
    have hL0 : (0 : Int32).toInt = 0 := by decide
    have hL99 : (99 : Int32).toInt = 99 := by decide
    refine mcallV' (g := g) (q0 := 0) (ci := 10) (As := [.int 0, .int 99]) (rest := []) St hK hT hA hP hD hS hl.1 [0] [] rfl rfl rfl (m_figures l g o a th hi ac tp ba en tA fl de iD iO tU fm fk fa fc ft ff fb fi 0 99 (by first | assumption | omega | decide | exact Or.inl (by decide) | exact Or.inr (by decide)) (⟨hen.1, hen.2⟩) (by first | assumption | omega | decide | exact Or.inl (by decide) | exact Or.inr (by decide)) (by first | assumption | omega | decide | exact Or.inl (by decide) | exact Or.inr (by decide)) (⟨hde.1, hde.2⟩)) (cwV 2 hts (zgL (zl4 k901 k902 k903 k837) k897) rfl rfl rfl (by decide +kernel) ⟨Nat.le_of_ble_eq_true rfl, Nat.le_of_ble_eq_true rfl⟩) rfl rfl rfl rfl (Nat.le_of_ble_eq_true rfl) dX12_personLine_20 ⟨(Nat.le_of_ble_eq_true rfl), (Nat.le_of_ble_eq_true rfl)⟩ (fun u_ H locs hq7 hP hD hS => ?_)
    obtain ⟨at2_4, fl2_5, r_6⟩ := u_
    replace hq7 : (0 ≤ at2_4.toInt ∧ at2_4.toInt ≤ en.toInt + 7 - de.toInt) ∧ (tA.toInt ≤ at2_4.toInt) ∧ (-1 ≤ fl2_5.toInt) ∧ (zImp (fl2_5.toInt = -1) (fl.toInt = -1 ∧ (0 : Int32).toInt ≤ r_6.toInt ∧ r_6.toInt ≤ (99 : Int32).toInt)) := hq7
    have hP : va_P g.1 vwCl (List.flatten [bMo g o a th hi ac tp ba en at2_4 fl2_5 de iD iO tU fm fk fa fc ft ff fb fi]) H := hP
    have hD : va_D A (List.flatten [bMo g o a th hi ac tp ba en at2_4 fl2_5 de iD iO tU fm fk fa fc ft ff fb fi]) := hD
    refine W.widen (k := 0) (n := 0) (Nat.le_of_ble_eq_true rfl) (Nat.le_of_ble_eq_true rfl) ?_
    refine W.eq (g2 := F0 m 23 ls [.int r_6]) rfl ?_
    obtain ⟨hq7_0, hq7_1, hq7_2, hq7_3⟩ := hq7
    refine lv_istore_n (lv' := [(2, .int r_6), (0, .ref o), (1, .int b0)]) hx hb dX12_personLine_23 rfl hl (by decide) rfl (fun ls hl => ?_)
    refine lv_aload_n hx hb dX12_personLine_24 rfl (lv_at hl 1 rfl) ?_
    refine va_ldcS (q := g.2 62) hx hb hown (zra26 hT.2.1) dX12_personLine_25 ?_
    refine lv_iconst (v := 0) hx hb dX12_personLine_27 (by decide) ?_
    refine lv_sipush (v := 999) hx hb dX12_personLine_28 (by decide) ?_
    have hL999 : (999 : Int32).toInt = 999 := by decide
    refine mcallV' (g := g) (q0 := 0) (ci := 10) (As := [.ref (g.2 62), .int 0, .int 999]) (rest := []) St hK hT hA hP hD hS hl.1 [0] [] rfl rfl rfl (m_after l g o a th hi ac tp ba en at2_4 fl2_5 de iD iO tU fm fk fa fc ft ff fb fi 0 999 (g.2 62) 26 zqa26 (by first | assumption | omega | decide | exact Or.inl (by decide) | exact Or.inr (by decide)) (⟨hen.1, hen.2⟩) (by first | assumption | omega | decide | exact Or.inl (by decide) | exact Or.inr (by decide)) (by first | assumption | omega | decide | exact Or.inl (by decide) | exact Or.inr (by decide)) (⟨hde.1, hde.2⟩) rfl zla26 zna26) (cwV 3 hts (zgL (zl4 k905 k906 k907 k837) k904) rfl rfl rfl (by decide +kernel) ⟨Nat.le_of_ble_eq_true rfl, Nat.le_of_ble_eq_true rfl⟩) rfl rfl rfl rfl (Nat.le_of_ble_eq_true rfl) dX12_personLine_31 ⟨(Nat.le_of_ble_eq_true rfl), (Nat.le_of_ble_eq_true rfl)⟩ (fun u_ H locs hq11 hP hD hS => ?_)
    obtain ⟨at2_8, fl2_9, r_10⟩ := u_
    replace hq11 : (0 ≤ at2_8.toInt ∧ at2_8.toInt ≤ en.toInt + 7 - de.toInt) ∧ (at2_4.toInt ≤ at2_8.toInt) ∧ (-1 ≤ fl2_9.toInt) ∧ (zImp (fl2_9.toInt = -1) (fl2_5.toInt = -1 ∧ (0 : Int32).toInt ≤ r_10.toInt ∧ r_10.toInt ≤ (999 : Int32).toInt)) := hq11
    have hP : va_P g.1 vwCl (List.flatten [bMo g o a th hi ac tp ba en at2_8 fl2_9 de iD iO tU fm fk fa fc ft ff fb fi]) H := hP
    have hD : va_D A (List.flatten [bMo g o a th hi ac tp ba en at2_8 fl2_9 de iD iO tU fm fk fa fc ft ff fb fi]) := hD
    refine W.widen (k := 0) (n := 0) (Nat.le_of_ble_eq_true rfl) (Nat.le_of_ble_eq_true rfl) ?_
    refine W.eq (g2 := F0 m 34 ls [.int r_10]) rfl ?_
    obtain ⟨hq11_0, hq11_1, hq11_2, hq11_3⟩ := hq11
    refine lv_istore_n (lv' := [(3, .int r_10), (2, .int r_6), (0, .ref o), (1, .int b0)]) hx hb dX12_personLine_34 rfl hl (by decide) rfl (fun ls hl => ?_)
    refine lv_aload_n hx hb dX12_personLine_35 rfl (lv_at hl 2 rfl) ?_
    refine va_get (D := g.1) (ci := 10) (v := .int fl2_9) (C := RX12) (T := TX12) (N := 20) hx hb hts izRX12 hown hK hP 0 rfl rfl 12 (by decide) (hts _ k820) (fun _ h9 => h9) rfl dX12_personLine_36 ?_
    refine lv_iconst (v := (-1)) hx hb dX12_personLine_39 (by decide) ?_
    refine lv_icmp_ne (tgt := 56) hx hb dX12_personLine_40 (by decide) (fun cb9 => ?_) (fun cb9 => ?_)
    · skip
      have c12 : ¬ fl2_9.toInt = (-1) := zne cb9 rfl (by decide)
      refine lv_iconst (v := 0) hx hb dX12_personLine_56 (by decide) ?_
      refine lv_istore (lv' := [(4, .int 0), (3, .int r_10), (2, .int r_6), (0, .ref o), (1, .int b0)]) hx hb dX12_personLine_57 hl (by decide) rfl (fun ls hl => ?_)
      refine lv_aload_n hx hb dX12_personLine_59 rfl (lv_at hl 3 rfl) ?_
      refine va_get (D := g.1) (ci := 10) (v := .int fl2_9) (C := RX12) (T := TX12) (N := 20) hx hb hts izRX12 hown hK hP 0 rfl rfl 12 (by decide) (hts _ k820) (fun _ h9 => h9) rfl dX12_personLine_60 ?_
      refine lv_iconst (v := (-1)) hx hb dX12_personLine_63 (by decide) ?_
      refine lv_icmp_eq (tgt := 68) hx hb dX12_personLine_64 (by decide) (fun cb9 => ?_) (fun cb9 => ?_)
      · skip
        exact absurd (show fl2_9.toInt = (-1) from zeq cb9 rfl (by decide)) (by omega)
      · skip
        have c14 : ¬ fl2_9.toInt = (-1) := zne cb9 rfl (by decide)
        have hP : va_P g.1 vwCl (List.flatten [bMo g o a th hi ac tp ba en at2_8 fl2_9 de iD iO tU fm fk fa fc ft ff fb fi]) H := hP
        have hD : va_D A (List.flatten [bMo g o a th hi ac tp ba en at2_8 fl2_9 de iD iO tU fm fk fa fc ft ff fb fi]) := hD
        exact mret_v hx hb hr hlocks hS (Nat.le_of_ble_eq_true rfl) (Nat.le_of_ble_eq_true rfl) dX12_personLine_67 (at2_8, fl2_9, fm) rfl (show (rM fm) ∧ (0 ≤ at2_8.toInt ∧ at2_8.toInt ≤ en.toInt + 7 - de.toInt) ∧ (tA.toInt ≤ at2_8.toInt) ∧ (-1 ≤ fl2_9.toInt) from ⟨(by first | assumption | omega | decide | exact rfl | exact zb01 (by omega) | exact Or.inl (by decide) | exact Or.inr (by first | omega | decide)), (by first | assumption | omega | decide | exact rfl | exact zb01 (by omega) | exact Or.inl (by decide) | exact Or.inr (by first | omega | decide)), (by first | assumption | omega | decide | exact rfl | exact zb01 (by omega) | exact Or.inl (by decide) | exact Or.inr (by first | omega | decide)), (by first | assumption | omega | decide | exact rfl | exact zb01 (by omega) | exact Or.inl (by decide) | exact Or.inr (by first | omega | decide))⟩) hP hD
    · skip
      have c15 : fl2_9.toInt = (-1) := zeq cb9 rfl (by decide)
      have n16 : fl2_9.toInt ≤ (-1) := Int.le_trans (Int.le_of_eq c15) (Int.le_refl _)
      obtain ⟨e18, w17⟩ := hq11_3 c15
      have w19 : 0 ≤ r_10.toInt ∧ r_10.toInt ≤ 999 := by first | exact w17 | omega
      obtain ⟨e21, w20⟩ := hq7_3 e18
      have w22 : 0 ≤ r_6.toInt ∧ r_6.toInt ≤ 99 := by first | exact w20 | omega
      refine lv_aload_n hx hb dX12_personLine_43 rfl (lv_at hl 2 rfl) ?_
      refine va_ldcS (q := g.2 64) hx hb hown (zra27 hT.2.1) dX12_personLine_44 ?_
      refine mcallV' (g := g) (q0 := 0) (ci := 10) (As := [.ref (g.2 64)]) (rest := []) St hK hT hA hP hD hS hl.1 [0] [] rfl rfl rfl (m_has l g o a th hi ac tp ba en at2_8 fl2_9 de iD iO tU fm fk fa fc ft ff fb fi (g.2 64) 27 zqa27 (by first | assumption | omega | decide | exact Or.inl (by decide) | exact Or.inr (by decide)) (⟨hen.1, hen.2⟩) (by first | assumption | omega | decide | exact Or.inl (by decide) | exact Or.inr (by decide)) (by first | assumption | omega | decide | exact Or.inl (by decide) | exact Or.inr (by decide)) (⟨hde.1, hde.2⟩) rfl zla27 zna27) (cwV 1 hts (zgL (zl4 k898 k899 k900 k837) k888) rfl rfl rfl (by decide +kernel) ⟨Nat.le_of_ble_eq_true rfl, Nat.le_of_ble_eq_true rfl⟩) rfl rfl rfl rfl (Nat.le_of_ble_eq_true rfl) dX12_personLine_46 ⟨(Nat.le_of_ble_eq_true rfl), (Nat.le_of_ble_eq_true rfl)⟩ (fun u_ H locs hq25 hP hD hS => ?_)
      obtain ⟨at2_23, r_24⟩ := u_
      replace hq25 : (0 ≤ at2_23.toInt ∧ at2_23.toInt ≤ en.toInt + 7 - de.toInt) ∧ (at2_8.toInt ≤ at2_23.toInt) ∧ (r_24 = 1 ∧ at2_8.toInt < at2_23.toInt ∧ at2_23.toInt ≤ en.toInt ∨ r_24 = 0) := hq25
      have hP : va_P g.1 vwCl (List.flatten [bMo g o a th hi ac tp ba en at2_23 fl2_9 de iD iO tU fm fk fa fc ft ff fb fi]) H := hP
      have hD : va_D A (List.flatten [bMo g o a th hi ac tp ba en at2_23 fl2_9 de iD iO tU fm fk fa fc ft ff fb fi]) := hD
      refine W.widen (k := 0) (n := 0) (Nat.le_of_ble_eq_true rfl) (Nat.le_of_ble_eq_true rfl) ?_
      refine W.eq (g2 := F0 m 49 ls [.int r_24]) rfl ?_
      obtain ⟨hq25_0, hq25_1, hq25_2⟩ := hq25
      rcases hq25_2 with ⟨rfl, hq25_k⟩ | rfl
      · skip
        refine lv_if_eq (tgt := 56) hx hb dX12_personLine_49 (by decide) (fun c26 => absurd c26 (by decide)) (fun _ => ?_)
        refine lv_iconst (v := 1) hx hb dX12_personLine_52 (by decide) ?_
        refine lv_goto (tgt := 57) hx hb dX12_personLine_53 (by decide) ?_
        refine lv_istore (lv' := [(4, .int 1), (3, .int r_10), (2, .int r_6), (0, .ref o), (1, .int b0)]) hx hb dX12_personLine_57 hl (by decide) rfl (fun ls hl => ?_)
        refine lv_aload_n hx hb dX12_personLine_59 rfl (lv_at hl 3 rfl) ?_
        refine va_get (D := g.1) (ci := 10) (v := .int fl2_9) (C := RX12) (T := TX12) (N := 20) hx hb hts izRX12 hown hK hP 0 rfl rfl 12 (by decide) (hts _ k820) (fun _ h9 => h9) rfl dX12_personLine_60 ?_
        refine lv_iconst (v := (-1)) hx hb dX12_personLine_63 (by decide) ?_
        refine lv_icmp_eq (tgt := 68) hx hb dX12_personLine_64 (by decide) (fun cb9 => ?_) (fun cb9 => ?_)
        · skip
          have c27 : fl2_9.toInt = (-1) := zeq cb9 rfl (by decide)
          obtain ⟨e29, w28⟩ := hq11_3 c27
          have w30 : 0 ≤ r_10.toInt ∧ r_10.toInt ≤ 999 := by first | exact w28 | omega
          obtain ⟨e32, w31⟩ := hq7_3 e29
          have w33 : 0 ≤ r_6.toInt ∧ r_6.toInt ≤ 99 := by first | exact w31 | omega
          refine lv_aload_n hx hb dX12_personLine_68 rfl (lv_at hl 3 rfl) ?_
          refine va_get (D := g.1) (ci := 10) (v := .ref (a 0)) (C := RX12) (T := TX12) (N := 20) hx hb hts izRX12 hown hK hP 0 rfl rfl 1 (by decide) (hts _ k815) (fun _ h9 => h9) rfl dX12_personLine_69 ?_
          refine lv_iconst (v := 3) hx hb dX12_personLine_72 (by decide) ?_
          refine va_iald hx hb hK hP 1 0 rfl rfl (zin rfl) dX12_personLine_73 ?_
          refine zgq (r := fm 3) rfl (rM3 rfm) (fun x_34 hx_34 => ?_)
          refine lv_istore (lv' := [(5, .int x_34), (4, .int 1), (3, .int r_10), (2, .int r_6), (0, .ref o), (1, .int b0)]) hx hb dX12_personLine_74 hl (by decide) rfl (fun ls hl => ?_)
          have w35 : 0 ≤ x_34.toInt ∧ x_34.toInt ≤ 7 := by omega
          refine lv_aload_n hx hb dX12_personLine_76 rfl (lv_at hl 4 rfl) ?_
          refine lv_iload hx hb dX12_personLine_77 (lv_at hl 0 rfl) ?_
          refine lv_iconst (v := 0) hx hb dX12_personLine_79 (by decide) ?_
          refine lv_iload_n hx hb dX12_personLine_80 rfl (lv_at hl 3 rfl) ?_
          refine mcallV' (g := g) (q0 := 0) (ci := 10) (As := [.int x_34, .int 0, .int r_6]) (rest := []) St hK hT hA hP hD hS hl.1 [0] [] rfl rfl rfl (m_put l g o a th hi ac tp ba en at2_23 fl2_9 de iD iO tU fm fk fa fc ft ff fb fi x_34 0 r_6 (by first | assumption | omega | decide | exact Or.inl (by decide) | exact Or.inr (by decide)) (⟨w35.1, w35.2⟩) (by decide)) (cwV 3 hts (zgL (zl4 k908 k909 k910 k837) k830) rfl rfl rfl (by decide +kernel) ⟨Nat.le_of_ble_eq_true rfl, Nat.le_of_ble_eq_true rfl⟩) rfl rfl rfl rfl (Nat.le_of_ble_eq_true rfl) dX12_personLine_81 ⟨(Nat.le_of_ble_eq_true rfl), (Nat.le_of_ble_eq_true rfl)⟩ (fun fm2_36 H locs hq37 hP hD hS => ?_)
          replace hq37 : (rM fm2_36) ∧ ((fm2_36 3).toInt = (fm 3).toInt ∧ (fm2_36 4).toInt = (fm 4).toInt) := hq37
          have hP : va_P g.1 vwCl (List.flatten [bMo g o a th hi ac tp ba en at2_23 fl2_9 de iD iO tU fm2_36 fk fa fc ft ff fb fi]) H := hP
          have hD : va_D A (List.flatten [bMo g o a th hi ac tp ba en at2_23 fl2_9 de iD iO tU fm2_36 fk fa fc ft ff fb fi]) := hD
          refine W.widen (k := 0) (n := 0) (Nat.le_of_ble_eq_true rfl) (Nat.le_of_ble_eq_true rfl) ?_
          refine W.eq (g2 := F0 m 84 ls []) rfl ?_
          obtain ⟨rfm2_36, hq37_1⟩ := hq37
          refine lv_aload_n hx hb dX12_personLine_84 rfl (lv_at hl 4 rfl) ?_
          refine lv_iload hx hb dX12_personLine_85 (lv_at hl 0 rfl) ?_
          refine lv_iconst (v := 1) hx hb dX12_personLine_87 (by decide) ?_
          refine lv_iload_n hx hb dX12_personLine_88 rfl (lv_at hl 2 rfl) ?_
          have hL1 : (1 : Int32).toInt = 1 := by decide
          refine mcallV' (g := g) (q0 := 0) (ci := 10) (As := [.int x_34, .int 1, .int r_10]) (rest := []) St hK hT hA hP hD hS hl.1 [0] [] rfl rfl rfl (m_put l g o a th hi ac tp ba en at2_23 fl2_9 de iD iO tU fm2_36 fk fa fc ft ff fb fi x_34 1 r_10 (by first | assumption | omega | decide | exact Or.inl (by decide) | exact Or.inr (by decide)) (⟨w35.1, w35.2⟩) (by decide)) (cwV 3 hts (zgL (zl4 k908 k909 k910 k837) k830) rfl rfl rfl (by decide +kernel) ⟨Nat.le_of_ble_eq_true rfl, Nat.le_of_ble_eq_true rfl⟩) rfl rfl rfl rfl (Nat.le_of_ble_eq_true rfl) dX12_personLine_89 ⟨(Nat.le_of_ble_eq_true rfl), (Nat.le_of_ble_eq_true rfl)⟩ (fun fm2_38 H locs hq39 hP hD hS => ?_)
          replace hq39 : (rM fm2_38) ∧ ((fm2_38 3).toInt = (fm2_36 3).toInt ∧ (fm2_38 4).toInt = (fm2_36 4).toInt) := hq39
          have hP : va_P g.1 vwCl (List.flatten [bMo g o a th hi ac tp ba en at2_23 fl2_9 de iD iO tU fm2_38 fk fa fc ft ff fb fi]) H := hP
          have hD : va_D A (List.flatten [bMo g o a th hi ac tp ba en at2_23 fl2_9 de iD iO tU fm2_38 fk fa fc ft ff fb fi]) := hD
          refine W.widen (k := 0) (n := 0) (Nat.le_of_ble_eq_true rfl) (Nat.le_of_ble_eq_true rfl) ?_
          refine W.eq (g2 := F0 m 92 ls []) rfl ?_
          obtain ⟨rfm2_38, hq39_1⟩ := hq39
          refine lv_aload_n hx hb dX12_personLine_92 rfl (lv_at hl 4 rfl) ?_
          refine lv_iload hx hb dX12_personLine_93 (lv_at hl 0 rfl) ?_
          refine lv_iconst (v := 2) hx hb dX12_personLine_95 (by decide) ?_
          refine lv_iconst (v := 0) hx hb dX12_personLine_96 (by decide) ?_
          have hL2 : (2 : Int32).toInt = 2 := by decide
          refine mcallV' (g := g) (q0 := 0) (ci := 10) (As := [.int x_34, .int 2, .int 0]) (rest := []) St hK hT hA hP hD hS hl.1 [0] [] rfl rfl rfl (m_put l g o a th hi ac tp ba en at2_23 fl2_9 de iD iO tU fm2_38 fk fa fc ft ff fb fi x_34 2 0 (by first | assumption | omega | decide | exact Or.inl (by decide) | exact Or.inr (by decide)) (⟨w35.1, w35.2⟩) (by decide)) (cwV 3 hts (zgL (zl4 k908 k909 k910 k837) k830) rfl rfl rfl (by decide +kernel) ⟨Nat.le_of_ble_eq_true rfl, Nat.le_of_ble_eq_true rfl⟩) rfl rfl rfl rfl (Nat.le_of_ble_eq_true rfl) dX12_personLine_97 ⟨(Nat.le_of_ble_eq_true rfl), (Nat.le_of_ble_eq_true rfl)⟩ (fun fm2_40 H locs hq41 hP hD hS => ?_)
          replace hq41 : (rM fm2_40) ∧ ((fm2_40 3).toInt = (fm2_38 3).toInt ∧ (fm2_40 4).toInt = (fm2_38 4).toInt) := hq41
          have hP : va_P g.1 vwCl (List.flatten [bMo g o a th hi ac tp ba en at2_23 fl2_9 de iD iO tU fm2_40 fk fa fc ft ff fb fi]) H := hP
          have hD : va_D A (List.flatten [bMo g o a th hi ac tp ba en at2_23 fl2_9 de iD iO tU fm2_40 fk fa fc ft ff fb fi]) := hD
          refine W.widen (k := 0) (n := 0) (Nat.le_of_ble_eq_true rfl) (Nat.le_of_ble_eq_true rfl) ?_
          refine W.eq (g2 := F0 m 100 ls []) rfl ?_
          obtain ⟨rfm2_40, hq41_1⟩ := hq41
          refine lv_aload_n hx hb dX12_personLine_100 rfl (lv_at hl 4 rfl) ?_
          refine lv_iload hx hb dX12_personLine_101 (lv_at hl 0 rfl) ?_
          refine lv_iconst (v := 3) hx hb dX12_personLine_103 (by decide) ?_
          refine lv_iload hx hb dX12_personLine_104 (lv_at hl 1 rfl) ?_
          refine lv_if_eq (tgt := 113) hx hb dX12_personLine_106 (by decide) (fun c42 => absurd c42 (by decide)) (fun _ => ?_)
          refine lv_iconst (v := 1) hx hb dX12_personLine_109 (by decide) ?_
          refine lv_goto (tgt := 114) hx hb dX12_personLine_110 (by decide) ?_
          have hL3 : (3 : Int32).toInt = 3 := by decide
          refine mcallV' (g := g) (q0 := 0) (ci := 10) (As := [.int x_34, .int 3, .int 1]) (rest := []) St hK hT hA hP hD hS hl.1 [0] [] rfl rfl rfl (m_put l g o a th hi ac tp ba en at2_23 fl2_9 de iD iO tU fm2_40 fk fa fc ft ff fb fi x_34 3 1 (by first | assumption | omega | decide | exact Or.inl (by decide) | exact Or.inr (by decide)) (⟨w35.1, w35.2⟩) (by decide)) (cwV 3 hts (zgL (zl4 k908 k909 k910 k837) k830) rfl rfl rfl (by decide +kernel) ⟨Nat.le_of_ble_eq_true rfl, Nat.le_of_ble_eq_true rfl⟩) rfl rfl rfl rfl (Nat.le_of_ble_eq_true rfl) dX12_personLine_114 ⟨(Nat.le_of_ble_eq_true rfl), (Nat.le_of_ble_eq_true rfl)⟩ (fun fm2_43 H locs hq44 hP hD hS => ?_)
          replace hq44 : (rM fm2_43) ∧ ((fm2_43 3).toInt = (fm2_40 3).toInt ∧ (fm2_43 4).toInt = (fm2_40 4).toInt) := hq44
          have hP : va_P g.1 vwCl (List.flatten [bMo g o a th hi ac tp ba en at2_23 fl2_9 de iD iO tU fm2_43 fk fa fc ft ff fb fi]) H := hP
          have hD : va_D A (List.flatten [bMo g o a th hi ac tp ba en at2_23 fl2_9 de iD iO tU fm2_43 fk fa fc ft ff fb fi]) := hD
          refine W.widen (k := 0) (n := 0) (Nat.le_of_ble_eq_true rfl) (Nat.le_of_ble_eq_true rfl) ?_
          refine W.eq (g2 := F0 m 117 ls []) rfl ?_
          obtain ⟨rfm2_43, hq44_1⟩ := hq44
          refine lv_aload_n hx hb dX12_personLine_117 rfl (lv_at hl 4 rfl) ?_
          refine lv_iload hx hb dX12_personLine_118 (lv_at hl 0 rfl) ?_
          refine lv_iconst (v := 4) hx hb dX12_personLine_120 (by decide) ?_
          refine lv_iconst (v := (-1)) hx hb dX12_personLine_121 (by decide) ?_
          have hL4 : (4 : Int32).toInt = 4 := by decide
          refine mcallV' (g := g) (q0 := 0) (ci := 10) (As := [.int x_34, .int 4, .int (-1)]) (rest := []) St hK hT hA hP hD hS hl.1 [0] [] rfl rfl rfl (m_put l g o a th hi ac tp ba en at2_23 fl2_9 de iD iO tU fm2_43 fk fa fc ft ff fb fi x_34 4 (-1) (by first | assumption | omega | decide | exact Or.inl (by decide) | exact Or.inr (by decide)) (⟨w35.1, w35.2⟩) (by decide)) (cwV 3 hts (zgL (zl4 k908 k909 k910 k837) k830) rfl rfl rfl (by decide +kernel) ⟨Nat.le_of_ble_eq_true rfl, Nat.le_of_ble_eq_true rfl⟩) rfl rfl rfl rfl (Nat.le_of_ble_eq_true rfl) dX12_personLine_122 ⟨(Nat.le_of_ble_eq_true rfl), (Nat.le_of_ble_eq_true rfl)⟩ (fun fm2_45 H locs hq46 hP hD hS => ?_)
          replace hq46 : (rM fm2_45) ∧ ((fm2_45 3).toInt = (fm2_43 3).toInt ∧ (fm2_45 4).toInt = (fm2_43 4).toInt) := hq46
          have hP : va_P g.1 vwCl (List.flatten [bMo g o a th hi ac tp ba en at2_23 fl2_9 de iD iO tU fm2_45 fk fa fc ft ff fb fi]) H := hP
          have hD : va_D A (List.flatten [bMo g o a th hi ac tp ba en at2_23 fl2_9 de iD iO tU fm2_45 fk fa fc ft ff fb fi]) := hD
          refine W.widen (k := 0) (n := 0) (Nat.le_of_ble_eq_true rfl) (Nat.le_of_ble_eq_true rfl) ?_
          refine W.eq (g2 := F0 m 125 ls []) rfl ?_
          obtain ⟨rfm2_45, hq46_1⟩ := hq46
          refine lv_aload_n hx hb dX12_personLine_125 rfl (lv_at hl 4 rfl) ?_
          refine va_get (D := g.1) (ci := 10) (v := .ref (a 0)) (C := RX12) (T := TX12) (N := 20) hx hb hts izRX12 hown hK hP 0 rfl rfl 1 (by decide) (hts _ k815) (fun _ h9 => h9) rfl dX12_personLine_126 ?_
          refine lv_iconst (v := 3) hx hb dX12_personLine_129 (by decide) ?_
          refine lv_dup2_11 hx hb dX12_personLine_130 rfl rfl ?_
          refine va_iald hx hb hK hP 1 0 rfl rfl (zin rfl) dX12_personLine_131 ?_
          refine zgq (r := fm2_45 3) rfl (rM3 rfm2_45) (fun x_47 hx_47 => ?_)
          refine lv_iconst (v := 1) hx hb dX12_personLine_132 (by decide) ?_
          refine lv_iadd hx hb dX12_personLine_133 ?_
          refine zg3 (zaddK (i := x_47.toInt) (j := 1) (a' := 1) (b' := 9) rfl (by decide) hx_47.1 hx_47.2.1 (Int.le_refl _) (Int.le_refl _) (by decide)) (fun x_48 hx_48 => ?_)
          refine va_iast hx hb hK hP hD hS 1 0 rfl rfl (zin rfl) dX12_personLine_134 (fun H locs hP hD hS => ?_)
          obtain ⟨fm_49, rfm_49, hP, hD⟩ : ∃ fm_49 : Nat → Int32, rM fm_49 ∧ va_P g.1 vwCl (List.flatten [bMo g o a th hi ac tp ba en at2_23 fl2_9 de iD iO tU fm_49 fk fa fc ft ff fb fi]) H ∧ va_D A (List.flatten [bMo g o a th hi ac tp ba en at2_23 fl2_9 de iD iO tU fm_49 fk fa fc ft ff fb fi]) := ⟨upd fm2_45 3 x_48, (rM_s3 rfm2_45 (show 0 ≤ x_48.toInt ∧ x_48.toInt ≤ 8 from (by omega))), hP, hD⟩
          have hP : va_P g.1 vwCl (List.flatten [bMo g o a th hi ac tp ba en at2_23 fl2_9 de iD iO tU fm_49 fk fa fc ft ff fb fi]) H := hP
          have hD : va_D A (List.flatten [bMo g o a th hi ac tp ba en at2_23 fl2_9 de iD iO tU fm_49 fk fa fc ft ff fb fi]) := hD
          exact mret_v hx hb hr hlocks hS (Nat.le_of_ble_eq_true rfl) (Nat.le_of_ble_eq_true rfl) dX12_personLine_135 (at2_23, fl2_9, fm_49) rfl (show (rM fm_49) ∧ (0 ≤ at2_23.toInt ∧ at2_23.toInt ≤ en.toInt + 7 - de.toInt) ∧ (tA.toInt ≤ at2_23.toInt) ∧ (-1 ≤ fl2_9.toInt) from ⟨(by first | assumption | omega | decide | exact rfl | exact zb01 (by omega) | exact Or.inl (by decide) | exact Or.inr (by first | omega | decide)), (by first | assumption | omega | decide | exact rfl | exact zb01 (by omega) | exact Or.inl (by decide) | exact Or.inr (by first | omega | decide)), (by first | assumption | omega | decide | exact rfl | exact zb01 (by omega) | exact Or.inl (by decide) | exact Or.inr (by first | omega | decide)), (by first | assumption | omega | decide | exact rfl | exact zb01 (by omega) | exact Or.inl (by decide) | exact Or.inr (by first | omega | decide))⟩) hP hD
        · skip
          exact absurd (show ¬ fl2_9.toInt = (-1) from zne cb9 rfl (by decide)) (by omega)
      · skip
        refine lv_if_eq (tgt := 56) hx hb dX12_personLine_49 (by decide) (fun _ => ?_) (fun c51 => absurd (by decide) c51)
        refine lv_iconst (v := 0) hx hb dX12_personLine_56 (by decide) ?_
        refine lv_istore (lv' := [(4, .int 0), (3, .int r_10), (2, .int r_6), (0, .ref o), (1, .int b0)]) hx hb dX12_personLine_57 hl (by decide) rfl (fun ls hl => ?_)
        refine lv_aload_n hx hb dX12_personLine_59 rfl (lv_at hl 3 rfl) ?_
        refine va_get (D := g.1) (ci := 10) (v := .int fl2_9) (C := RX12) (T := TX12) (N := 20) hx hb hts izRX12 hown hK hP 0 rfl rfl 12 (by decide) (hts _ k820) (fun _ h9 => h9) rfl dX12_personLine_60 ?_
        refine lv_iconst (v := (-1)) hx hb dX12_personLine_63 (by decide) ?_
        refine lv_icmp_eq (tgt := 68) hx hb dX12_personLine_64 (by decide) (fun cb9 => ?_) (fun cb9 => ?_)
        · skip
          have c52 : fl2_9.toInt = (-1) := zeq cb9 rfl (by decide)
          obtain ⟨e54, w53⟩ := hq11_3 c52
          have w55 : 0 ≤ r_10.toInt ∧ r_10.toInt ≤ 999 := by first | exact w53 | omega
          obtain ⟨e57, w56⟩ := hq7_3 e54
          have w58 : 0 ≤ r_6.toInt ∧ r_6.toInt ≤ 99 := by first | exact w56 | omega
          refine lv_aload_n hx hb dX12_personLine_68 rfl (lv_at hl 3 rfl) ?_
          refine va_get (D := g.1) (ci := 10) (v := .ref (a 0)) (C := RX12) (T := TX12) (N := 20) hx hb hts izRX12 hown hK hP 0 rfl rfl 1 (by decide) (hts _ k815) (fun _ h9 => h9) rfl dX12_personLine_69 ?_
          refine lv_iconst (v := 3) hx hb dX12_personLine_72 (by decide) ?_
          refine va_iald hx hb hK hP 1 0 rfl rfl (zin rfl) dX12_personLine_73 ?_
          refine zgq (r := fm 3) rfl (rM3 rfm) (fun x_59 hx_59 => ?_)
          refine lv_istore (lv' := [(5, .int x_59), (4, .int 0), (3, .int r_10), (2, .int r_6), (0, .ref o), (1, .int b0)]) hx hb dX12_personLine_74 hl (by decide) rfl (fun ls hl => ?_)
          have w60 : 0 ≤ x_59.toInt ∧ x_59.toInt ≤ 7 := by omega
          refine lv_aload_n hx hb dX12_personLine_76 rfl (lv_at hl 4 rfl) ?_
          refine lv_iload hx hb dX12_personLine_77 (lv_at hl 0 rfl) ?_
          refine lv_iconst (v := 0) hx hb dX12_personLine_79 (by decide) ?_
          refine lv_iload_n hx hb dX12_personLine_80 rfl (lv_at hl 3 rfl) ?_
          refine mcallV' (g := g) (q0 := 0) (ci := 10) (As := [.int x_59, .int 0, .int r_6]) (rest := []) St hK hT hA hP hD hS hl.1 [0] [] rfl rfl rfl (m_put l g o a th hi ac tp ba en at2_23 fl2_9 de iD iO tU fm fk fa fc ft ff fb fi x_59 0 r_6 (by first | assumption | omega | decide | exact Or.inl (by decide) | exact Or.inr (by decide)) (⟨w60.1, w60.2⟩) (by decide)) (cwV 3 hts (zgL (zl4 k908 k909 k910 k837) k830) rfl rfl rfl (by decide +kernel) ⟨Nat.le_of_ble_eq_true rfl, Nat.le_of_ble_eq_true rfl⟩) rfl rfl rfl rfl (Nat.le_of_ble_eq_true rfl) dX12_personLine_81 ⟨(Nat.le_of_ble_eq_true rfl), (Nat.le_of_ble_eq_true rfl)⟩ (fun fm2_61 H locs hq62 hP hD hS => ?_)
          replace hq62 : (rM fm2_61) ∧ ((fm2_61 3).toInt = (fm 3).toInt ∧ (fm2_61 4).toInt = (fm 4).toInt) := hq62
          have hP : va_P g.1 vwCl (List.flatten [bMo g o a th hi ac tp ba en at2_23 fl2_9 de iD iO tU fm2_61 fk fa fc ft ff fb fi]) H := hP
          have hD : va_D A (List.flatten [bMo g o a th hi ac tp ba en at2_23 fl2_9 de iD iO tU fm2_61 fk fa fc ft ff fb fi]) := hD
          refine W.widen (k := 0) (n := 0) (Nat.le_of_ble_eq_true rfl) (Nat.le_of_ble_eq_true rfl) ?_
          refine W.eq (g2 := F0 m 84 ls []) rfl ?_
          obtain ⟨rfm2_61, hq62_1⟩ := hq62
          refine lv_aload_n hx hb dX12_personLine_84 rfl (lv_at hl 4 rfl) ?_
          refine lv_iload hx hb dX12_personLine_85 (lv_at hl 0 rfl) ?_
          refine lv_iconst (v := 1) hx hb dX12_personLine_87 (by decide) ?_
          refine lv_iload_n hx hb dX12_personLine_88 rfl (lv_at hl 2 rfl) ?_
          have hL1 : (1 : Int32).toInt = 1 := by decide
          refine mcallV' (g := g) (q0 := 0) (ci := 10) (As := [.int x_59, .int 1, .int r_10]) (rest := []) St hK hT hA hP hD hS hl.1 [0] [] rfl rfl rfl (m_put l g o a th hi ac tp ba en at2_23 fl2_9 de iD iO tU fm2_61 fk fa fc ft ff fb fi x_59 1 r_10 (by first | assumption | omega | decide | exact Or.inl (by decide) | exact Or.inr (by decide)) (⟨w60.1, w60.2⟩) (by decide)) (cwV 3 hts (zgL (zl4 k908 k909 k910 k837) k830) rfl rfl rfl (by decide +kernel) ⟨Nat.le_of_ble_eq_true rfl, Nat.le_of_ble_eq_true rfl⟩) rfl rfl rfl rfl (Nat.le_of_ble_eq_true rfl) dX12_personLine_89 ⟨(Nat.le_of_ble_eq_true rfl), (Nat.le_of_ble_eq_true rfl)⟩ (fun fm2_63 H locs hq64 hP hD hS => ?_)
          replace hq64 : (rM fm2_63) ∧ ((fm2_63 3).toInt = (fm2_61 3).toInt ∧ (fm2_63 4).toInt = (fm2_61 4).toInt) := hq64
          have hP : va_P g.1 vwCl (List.flatten [bMo g o a th hi ac tp ba en at2_23 fl2_9 de iD iO tU fm2_63 fk fa fc ft ff fb fi]) H := hP
          have hD : va_D A (List.flatten [bMo g o a th hi ac tp ba en at2_23 fl2_9 de iD iO tU fm2_63 fk fa fc ft ff fb fi]) := hD
          refine W.widen (k := 0) (n := 0) (Nat.le_of_ble_eq_true rfl) (Nat.le_of_ble_eq_true rfl) ?_
          refine W.eq (g2 := F0 m 92 ls []) rfl ?_
          obtain ⟨rfm2_63, hq64_1⟩ := hq64
          refine lv_aload_n hx hb dX12_personLine_92 rfl (lv_at hl 4 rfl) ?_
          refine lv_iload hx hb dX12_personLine_93 (lv_at hl 0 rfl) ?_
          refine lv_iconst (v := 2) hx hb dX12_personLine_95 (by decide) ?_
          refine lv_iconst (v := 0) hx hb dX12_personLine_96 (by decide) ?_
          have hL2 : (2 : Int32).toInt = 2 := by decide
          refine mcallV' (g := g) (q0 := 0) (ci := 10) (As := [.int x_59, .int 2, .int 0]) (rest := []) St hK hT hA hP hD hS hl.1 [0] [] rfl rfl rfl (m_put l g o a th hi ac tp ba en at2_23 fl2_9 de iD iO tU fm2_63 fk fa fc ft ff fb fi x_59 2 0 (by first | assumption | omega | decide | exact Or.inl (by decide) | exact Or.inr (by decide)) (⟨w60.1, w60.2⟩) (by decide)) (cwV 3 hts (zgL (zl4 k908 k909 k910 k837) k830) rfl rfl rfl (by decide +kernel) ⟨Nat.le_of_ble_eq_true rfl, Nat.le_of_ble_eq_true rfl⟩) rfl rfl rfl rfl (Nat.le_of_ble_eq_true rfl) dX12_personLine_97 ⟨(Nat.le_of_ble_eq_true rfl), (Nat.le_of_ble_eq_true rfl)⟩ (fun fm2_65 H locs hq66 hP hD hS => ?_)
          replace hq66 : (rM fm2_65) ∧ ((fm2_65 3).toInt = (fm2_63 3).toInt ∧ (fm2_65 4).toInt = (fm2_63 4).toInt) := hq66
          have hP : va_P g.1 vwCl (List.flatten [bMo g o a th hi ac tp ba en at2_23 fl2_9 de iD iO tU fm2_65 fk fa fc ft ff fb fi]) H := hP
          have hD : va_D A (List.flatten [bMo g o a th hi ac tp ba en at2_23 fl2_9 de iD iO tU fm2_65 fk fa fc ft ff fb fi]) := hD
          refine W.widen (k := 0) (n := 0) (Nat.le_of_ble_eq_true rfl) (Nat.le_of_ble_eq_true rfl) ?_
          refine W.eq (g2 := F0 m 100 ls []) rfl ?_
          obtain ⟨rfm2_65, hq66_1⟩ := hq66
          refine lv_aload_n hx hb dX12_personLine_100 rfl (lv_at hl 4 rfl) ?_
          refine lv_iload hx hb dX12_personLine_101 (lv_at hl 0 rfl) ?_
          refine lv_iconst (v := 3) hx hb dX12_personLine_103 (by decide) ?_
          refine lv_iload hx hb dX12_personLine_104 (lv_at hl 1 rfl) ?_
          refine lv_if_eq (tgt := 113) hx hb dX12_personLine_106 (by decide) (fun _ => ?_) (fun c67 => absurd (by decide) c67)
          refine lv_iconst (v := 0) hx hb dX12_personLine_113 (by decide) ?_
          have hL3 : (3 : Int32).toInt = 3 := by decide
          refine mcallV' (g := g) (q0 := 0) (ci := 10) (As := [.int x_59, .int 3, .int 0]) (rest := []) St hK hT hA hP hD hS hl.1 [0] [] rfl rfl rfl (m_put l g o a th hi ac tp ba en at2_23 fl2_9 de iD iO tU fm2_65 fk fa fc ft ff fb fi x_59 3 0 (by first | assumption | omega | decide | exact Or.inl (by decide) | exact Or.inr (by decide)) (⟨w60.1, w60.2⟩) (by decide)) (cwV 3 hts (zgL (zl4 k908 k909 k910 k837) k830) rfl rfl rfl (by decide +kernel) ⟨Nat.le_of_ble_eq_true rfl, Nat.le_of_ble_eq_true rfl⟩) rfl rfl rfl rfl (Nat.le_of_ble_eq_true rfl) dX12_personLine_114 ⟨(Nat.le_of_ble_eq_true rfl), (Nat.le_of_ble_eq_true rfl)⟩ (fun fm2_68 H locs hq69 hP hD hS => ?_)
          replace hq69 : (rM fm2_68) ∧ ((fm2_68 3).toInt = (fm2_65 3).toInt ∧ (fm2_68 4).toInt = (fm2_65 4).toInt) := hq69
          have hP : va_P g.1 vwCl (List.flatten [bMo g o a th hi ac tp ba en at2_23 fl2_9 de iD iO tU fm2_68 fk fa fc ft ff fb fi]) H := hP
          have hD : va_D A (List.flatten [bMo g o a th hi ac tp ba en at2_23 fl2_9 de iD iO tU fm2_68 fk fa fc ft ff fb fi]) := hD
          refine W.widen (k := 0) (n := 0) (Nat.le_of_ble_eq_true rfl) (Nat.le_of_ble_eq_true rfl) ?_
          refine W.eq (g2 := F0 m 117 ls []) rfl ?_
          obtain ⟨rfm2_68, hq69_1⟩ := hq69
          refine lv_aload_n hx hb dX12_personLine_117 rfl (lv_at hl 4 rfl) ?_
          refine lv_iload hx hb dX12_personLine_118 (lv_at hl 0 rfl) ?_
          refine lv_iconst (v := 4) hx hb dX12_personLine_120 (by decide) ?_
          refine lv_iconst (v := (-1)) hx hb dX12_personLine_121 (by decide) ?_
          have hL4 : (4 : Int32).toInt = 4 := by decide
          refine mcallV' (g := g) (q0 := 0) (ci := 10) (As := [.int x_59, .int 4, .int (-1)]) (rest := []) St hK hT hA hP hD hS hl.1 [0] [] rfl rfl rfl (m_put l g o a th hi ac tp ba en at2_23 fl2_9 de iD iO tU fm2_68 fk fa fc ft ff fb fi x_59 4 (-1) (by first | assumption | omega | decide | exact Or.inl (by decide) | exact Or.inr (by decide)) (⟨w60.1, w60.2⟩) (by decide)) (cwV 3 hts (zgL (zl4 k908 k909 k910 k837) k830) rfl rfl rfl (by decide +kernel) ⟨Nat.le_of_ble_eq_true rfl, Nat.le_of_ble_eq_true rfl⟩) rfl rfl rfl rfl (Nat.le_of_ble_eq_true rfl) dX12_personLine_122 ⟨(Nat.le_of_ble_eq_true rfl), (Nat.le_of_ble_eq_true rfl)⟩ (fun fm2_70 H locs hq71 hP hD hS => ?_)
          replace hq71 : (rM fm2_70) ∧ ((fm2_70 3).toInt = (fm2_68 3).toInt ∧ (fm2_70 4).toInt = (fm2_68 4).toInt) := hq71
          have hP : va_P g.1 vwCl (List.flatten [bMo g o a th hi ac tp ba en at2_23 fl2_9 de iD iO tU fm2_70 fk fa fc ft ff fb fi]) H := hP
          have hD : va_D A (List.flatten [bMo g o a th hi ac tp ba en at2_23 fl2_9 de iD iO tU fm2_70 fk fa fc ft ff fb fi]) := hD
          refine W.widen (k := 0) (n := 0) (Nat.le_of_ble_eq_true rfl) (Nat.le_of_ble_eq_true rfl) ?_
          refine W.eq (g2 := F0 m 125 ls []) rfl ?_
          obtain ⟨rfm2_70, hq71_1⟩ := hq71
          refine lv_aload_n hx hb dX12_personLine_125 rfl (lv_at hl 4 rfl) ?_
          refine va_get (D := g.1) (ci := 10) (v := .ref (a 0)) (C := RX12) (T := TX12) (N := 20) hx hb hts izRX12 hown hK hP 0 rfl rfl 1 (by decide) (hts _ k815) (fun _ h9 => h9) rfl dX12_personLine_126 ?_
          refine lv_iconst (v := 3) hx hb dX12_personLine_129 (by decide) ?_
          refine lv_dup2_11 hx hb dX12_personLine_130 rfl rfl ?_
          refine va_iald hx hb hK hP 1 0 rfl rfl (zin rfl) dX12_personLine_131 ?_
          refine zgq (r := fm2_70 3) rfl (rM3 rfm2_70) (fun x_72 hx_72 => ?_)
          refine lv_iconst (v := 1) hx hb dX12_personLine_132 (by decide) ?_
          refine lv_iadd hx hb dX12_personLine_133 ?_
          refine zg3 (zaddK (i := x_72.toInt) (j := 1) (a' := 1) (b' := 9) rfl (by decide) hx_72.1 hx_72.2.1 (Int.le_refl _) (Int.le_refl _) (by decide)) (fun x_73 hx_73 => ?_)
          refine va_iast hx hb hK hP hD hS 1 0 rfl rfl (zin rfl) dX12_personLine_134 (fun H locs hP hD hS => ?_)
          obtain ⟨fm_74, rfm_74, hP, hD⟩ : ∃ fm_74 : Nat → Int32, rM fm_74 ∧ va_P g.1 vwCl (List.flatten [bMo g o a th hi ac tp ba en at2_23 fl2_9 de iD iO tU fm_74 fk fa fc ft ff fb fi]) H ∧ va_D A (List.flatten [bMo g o a th hi ac tp ba en at2_23 fl2_9 de iD iO tU fm_74 fk fa fc ft ff fb fi]) := ⟨upd fm2_70 3 x_73, (rM_s3 rfm2_70 (show 0 ≤ x_73.toInt ∧ x_73.toInt ≤ 8 from (by omega))), hP, hD⟩
          have hP : va_P g.1 vwCl (List.flatten [bMo g o a th hi ac tp ba en at2_23 fl2_9 de iD iO tU fm_74 fk fa fc ft ff fb fi]) H := hP
          have hD : va_D A (List.flatten [bMo g o a th hi ac tp ba en at2_23 fl2_9 de iD iO tU fm_74 fk fa fc ft ff fb fi]) := hD
          exact mret_v hx hb hr hlocks hS (Nat.le_of_ble_eq_true rfl) (Nat.le_of_ble_eq_true rfl) dX12_personLine_135 (at2_23, fl2_9, fm_74) rfl (show (rM fm_74) ∧ (0 ≤ at2_23.toInt ∧ at2_23.toInt ≤ en.toInt + 7 - de.toInt) ∧ (tA.toInt ≤ at2_23.toInt) ∧ (-1 ≤ fl2_9.toInt) from ⟨(by first | assumption | omega | decide | exact rfl | exact zb01 (by omega) | exact Or.inl (by decide) | exact Or.inr (by first | omega | decide)), (by first | assumption | omega | decide | exact rfl | exact zb01 (by omega) | exact Or.inl (by decide) | exact Or.inr (by first | omega | decide)), (by first | assumption | omega | decide | exact rfl | exact zb01 (by omega) | exact Or.inl (by decide) | exact Or.inr (by first | omega | decide)), (by first | assumption | omega | decide | exact rfl | exact zb01 (by omega) | exact Or.inl (by decide) | exact Or.inr (by first | omega | decide))⟩) hP hD
        · skip
          exact absurd (show ¬ fl2_9.toInt = (-1) from zne cb9 rfl (by decide)) (by omega)
  · skip
    have c76 : x_1.toInt = 8 := zeq cb9 rfl (by decide)
    have n77 : 8 ≤ x_1.toInt := Int.le_trans (Int.le_refl _) (Int.le_of_eq c76.symm)
    refine lv_aload_n hx hb dX12_personLine_11 rfl (lv_at hl 0 rfl) ?_
    refine lv_iload_n hx hb dX12_personLine_12 rfl (lv_at hl 1 rfl) ?_
    refine mcallV' (g := g) (q0 := 0) (ci := 10) (As := [.int b0]) (rest := []) St hK hT hA hP hD hS hl.1 [0] [] rfl rfl rfl (m_wrong l g o a th hi ac tp ba en tA fl de iD iO tU fm fk fa fc ft ff fb fi b0 hb0 (by first | assumption | omega | decide | exact Or.inl (by decide) | exact Or.inr (by decide))) (cwV 1 hts (zgL (zl4 k894 k895 k896 k837) k889) rfl rfl rfl (by decide +kernel) ⟨Nat.le_of_ble_eq_true rfl, Nat.le_of_ble_eq_true rfl⟩) rfl rfl rfl rfl (Nat.le_of_ble_eq_true rfl) dX12_personLine_13 ⟨(Nat.le_of_ble_eq_true rfl), (Nat.le_of_ble_eq_true rfl)⟩ (fun fl2_78 H locs hq79 hP hD hS => ?_)
    replace hq79 : (0 ≤ fl2_78.toInt) := hq79
    have hP : va_P g.1 vwCl (List.flatten [bMo g o a th hi ac tp ba en tA fl2_78 de iD iO tU fm fk fa fc ft ff fb fi]) H := hP
    have hD : va_D A (List.flatten [bMo g o a th hi ac tp ba en tA fl2_78 de iD iO tU fm fk fa fc ft ff fb fi]) := hD
    refine W.widen (k := 0) (n := 0) (Nat.le_of_ble_eq_true rfl) (Nat.le_of_ble_eq_true rfl) ?_
    refine W.eq (g2 := F0 m 16 ls []) rfl ?_
    refine lv_aload_n hx hb dX12_personLine_16 rfl (lv_at hl 0 rfl) ?_
    refine lv_iconst (v := 0) hx hb dX12_personLine_17 (by decide) ?_
    refine lv_bipush (v := 99) hx hb dX12_personLine_18 (by decide) ?_
    have hL0 : (0 : Int32).toInt = 0 := by decide
    have hL99 : (99 : Int32).toInt = 99 := by decide
    refine mcallV' (g := g) (q0 := 0) (ci := 10) (As := [.int 0, .int 99]) (rest := []) St hK hT hA hP hD hS hl.1 [0] [] rfl rfl rfl (m_figures l g o a th hi ac tp ba en tA fl2_78 de iD iO tU fm fk fa fc ft ff fb fi 0 99 (by first | assumption | omega | decide | exact Or.inl (by decide) | exact Or.inr (by decide)) (⟨hen.1, hen.2⟩) (by first | assumption | omega | decide | exact Or.inl (by decide) | exact Or.inr (by decide)) (Int.le_trans (by decide) hq79) (⟨hde.1, hde.2⟩)) (cwV 2 hts (zgL (zl4 k901 k902 k903 k837) k897) rfl rfl rfl (by decide +kernel) ⟨Nat.le_of_ble_eq_true rfl, Nat.le_of_ble_eq_true rfl⟩) rfl rfl rfl rfl (Nat.le_of_ble_eq_true rfl) dX12_personLine_20 ⟨(Nat.le_of_ble_eq_true rfl), (Nat.le_of_ble_eq_true rfl)⟩ (fun u_ H locs hq83 hP hD hS => ?_)
    obtain ⟨at2_80, fl2_81, r_82⟩ := u_
    replace hq83 : (0 ≤ at2_80.toInt ∧ at2_80.toInt ≤ en.toInt + 7 - de.toInt) ∧ (tA.toInt ≤ at2_80.toInt) ∧ (-1 ≤ fl2_81.toInt) ∧ (zImp (fl2_81.toInt = -1) (fl2_78.toInt = -1 ∧ (0 : Int32).toInt ≤ r_82.toInt ∧ r_82.toInt ≤ (99 : Int32).toInt)) := hq83
    have hP : va_P g.1 vwCl (List.flatten [bMo g o a th hi ac tp ba en at2_80 fl2_81 de iD iO tU fm fk fa fc ft ff fb fi]) H := hP
    have hD : va_D A (List.flatten [bMo g o a th hi ac tp ba en at2_80 fl2_81 de iD iO tU fm fk fa fc ft ff fb fi]) := hD
    refine W.widen (k := 0) (n := 0) (Nat.le_of_ble_eq_true rfl) (Nat.le_of_ble_eq_true rfl) ?_
    refine W.eq (g2 := F0 m 23 ls [.int r_82]) rfl ?_
    obtain ⟨hq83_0, hq83_1, hq83_2, hq83_3⟩ := hq83
    refine lv_istore_n (lv' := [(2, .int r_82), (0, .ref o), (1, .int b0)]) hx hb dX12_personLine_23 rfl hl (by decide) rfl (fun ls hl => ?_)
    refine lv_aload_n hx hb dX12_personLine_24 rfl (lv_at hl 1 rfl) ?_
    refine va_ldcS (q := g.2 62) hx hb hown (zra26 hT.2.1) dX12_personLine_25 ?_
    refine lv_iconst (v := 0) hx hb dX12_personLine_27 (by decide) ?_
    refine lv_sipush (v := 999) hx hb dX12_personLine_28 (by decide) ?_
    have hL999 : (999 : Int32).toInt = 999 := by decide
    refine mcallV' (g := g) (q0 := 0) (ci := 10) (As := [.ref (g.2 62), .int 0, .int 999]) (rest := []) St hK hT hA hP hD hS hl.1 [0] [] rfl rfl rfl (m_after l g o a th hi ac tp ba en at2_80 fl2_81 de iD iO tU fm fk fa fc ft ff fb fi 0 999 (g.2 62) 26 zqa26 (by first | assumption | omega | decide | exact Or.inl (by decide) | exact Or.inr (by decide)) (⟨hen.1, hen.2⟩) (by first | assumption | omega | decide | exact Or.inl (by decide) | exact Or.inr (by decide)) (by first | assumption | omega | decide | exact Or.inl (by decide) | exact Or.inr (by decide)) (⟨hde.1, hde.2⟩) rfl zla26 zna26) (cwV 3 hts (zgL (zl4 k905 k906 k907 k837) k904) rfl rfl rfl (by decide +kernel) ⟨Nat.le_of_ble_eq_true rfl, Nat.le_of_ble_eq_true rfl⟩) rfl rfl rfl rfl (Nat.le_of_ble_eq_true rfl) dX12_personLine_31 ⟨(Nat.le_of_ble_eq_true rfl), (Nat.le_of_ble_eq_true rfl)⟩ (fun u_ H locs hq87 hP hD hS => ?_)
    obtain ⟨at2_84, fl2_85, r_86⟩ := u_
    replace hq87 : (0 ≤ at2_84.toInt ∧ at2_84.toInt ≤ en.toInt + 7 - de.toInt) ∧ (at2_80.toInt ≤ at2_84.toInt) ∧ (-1 ≤ fl2_85.toInt) ∧ (zImp (fl2_85.toInt = -1) (fl2_81.toInt = -1 ∧ (0 : Int32).toInt ≤ r_86.toInt ∧ r_86.toInt ≤ (999 : Int32).toInt)) := hq87
    have hP : va_P g.1 vwCl (List.flatten [bMo g o a th hi ac tp ba en at2_84 fl2_85 de iD iO tU fm fk fa fc ft ff fb fi]) H := hP
    have hD : va_D A (List.flatten [bMo g o a th hi ac tp ba en at2_84 fl2_85 de iD iO tU fm fk fa fc ft ff fb fi]) := hD
    refine W.widen (k := 0) (n := 0) (Nat.le_of_ble_eq_true rfl) (Nat.le_of_ble_eq_true rfl) ?_
    refine W.eq (g2 := F0 m 34 ls [.int r_86]) rfl ?_
    obtain ⟨hq87_0, hq87_1, hq87_2, hq87_3⟩ := hq87
    refine lv_istore_n (lv' := [(3, .int r_86), (2, .int r_82), (0, .ref o), (1, .int b0)]) hx hb dX12_personLine_34 rfl hl (by decide) rfl (fun ls hl => ?_)
    refine lv_aload_n hx hb dX12_personLine_35 rfl (lv_at hl 2 rfl) ?_
    refine va_get (D := g.1) (ci := 10) (v := .int fl2_85) (C := RX12) (T := TX12) (N := 20) hx hb hts izRX12 hown hK hP 0 rfl rfl 12 (by decide) (hts _ k820) (fun _ h9 => h9) rfl dX12_personLine_36 ?_
    refine lv_iconst (v := (-1)) hx hb dX12_personLine_39 (by decide) ?_
    refine lv_icmp_ne (tgt := 56) hx hb dX12_personLine_40 (by decide) (fun cb9 => ?_) (fun cb9 => ?_)
    · skip
      have c88 : ¬ fl2_85.toInt = (-1) := zne cb9 rfl (by decide)
      refine lv_iconst (v := 0) hx hb dX12_personLine_56 (by decide) ?_
      refine lv_istore (lv' := [(4, .int 0), (3, .int r_86), (2, .int r_82), (0, .ref o), (1, .int b0)]) hx hb dX12_personLine_57 hl (by decide) rfl (fun ls hl => ?_)
      refine lv_aload_n hx hb dX12_personLine_59 rfl (lv_at hl 3 rfl) ?_
      refine va_get (D := g.1) (ci := 10) (v := .int fl2_85) (C := RX12) (T := TX12) (N := 20) hx hb hts izRX12 hown hK hP 0 rfl rfl 12 (by decide) (hts _ k820) (fun _ h9 => h9) rfl dX12_personLine_60 ?_
      refine lv_iconst (v := (-1)) hx hb dX12_personLine_63 (by decide) ?_
      refine lv_icmp_eq (tgt := 68) hx hb dX12_personLine_64 (by decide) (fun cb9 => ?_) (fun cb9 => ?_)
      · skip
        exact absurd (show fl2_85.toInt = (-1) from zeq cb9 rfl (by decide)) (by omega)
      · skip
        have c90 : ¬ fl2_85.toInt = (-1) := zne cb9 rfl (by decide)
        have hP : va_P g.1 vwCl (List.flatten [bMo g o a th hi ac tp ba en at2_84 fl2_85 de iD iO tU fm fk fa fc ft ff fb fi]) H := hP
        have hD : va_D A (List.flatten [bMo g o a th hi ac tp ba en at2_84 fl2_85 de iD iO tU fm fk fa fc ft ff fb fi]) := hD
        exact mret_v hx hb hr hlocks hS (Nat.le_of_ble_eq_true rfl) (Nat.le_of_ble_eq_true rfl) dX12_personLine_67 (at2_84, fl2_85, fm) rfl (show (rM fm) ∧ (0 ≤ at2_84.toInt ∧ at2_84.toInt ≤ en.toInt + 7 - de.toInt) ∧ (tA.toInt ≤ at2_84.toInt) ∧ (-1 ≤ fl2_85.toInt) from ⟨(by first | assumption | omega | decide | exact rfl | exact zb01 (by omega) | exact Or.inl (by decide) | exact Or.inr (by first | omega | decide)), (by first | assumption | omega | decide | exact rfl | exact zb01 (by omega) | exact Or.inl (by decide) | exact Or.inr (by first | omega | decide)), (by first | assumption | omega | decide | exact rfl | exact zb01 (by omega) | exact Or.inl (by decide) | exact Or.inr (by first | omega | decide)), (by first | assumption | omega | decide | exact rfl | exact zb01 (by omega) | exact Or.inl (by decide) | exact Or.inr (by first | omega | decide))⟩) hP hD
    · skip
      have c91 : fl2_85.toInt = (-1) := zeq cb9 rfl (by decide)
      have n92 : fl2_85.toInt ≤ (-1) := Int.le_trans (Int.le_of_eq c91) (Int.le_refl _)
      obtain ⟨e94, w93⟩ := hq87_3 c91
      have w95 : 0 ≤ r_86.toInt ∧ r_86.toInt ≤ 999 := by first | exact w93 | omega
      obtain ⟨e97, w96⟩ := hq83_3 e94
      have w98 : 0 ≤ r_82.toInt ∧ r_82.toInt ≤ 99 := by first | exact w96 | omega
      exact absurd e97 (zDeq2 (a := 0) (b := -1) hq79 (Int.le_refl _) (by decide))
set_option maxRecDepth 100000 in
set_option maxHeartbeats 4000000 in
theorem m_trustsLine (l : Launch) (g : zG) (o : Nat) (a : Nat → Nat) (th : Int32) (hi : Int32) (ac : Int32) (tp : Int32) (ba : Int32) (en : Int32) (tA : Int32) (fl : Int32) (de : Int32) (iD : Int32) (iO : Int32) (tU : Int32) (fm : Nat → Int32) (fk : Nat → Int32) (fa : Nat → Int32) (fc : Nat → Int32) (ft : Nat → Int32) (ff : Nat → Int32) (fb : Nat → Int32) (fi : Nat → Int32) (rfm : rM fm) (hba : zBa ba.toInt) (hen : 0 ≤ en.toInt ∧ en.toInt ≤ 400) (htA : 0 ≤ tA.toInt ∧ tA.toInt ≤ en.toInt + 7 - de.toInt) (hfl : -1 ≤ fl.toInt) (hde : 0 ≤ de.toInt ∧ de.toInt ≤ 6) : zM' g l yX12_trustsLine (Cond.code yX12_trustsLine cX12_trustsLine 5 none :: zB) ({ frames := 4, cells := 0, slots := 0, locals := 85 } : Room) [.ref o] [bMo g o a th hi ac tp ba en tA fl de iD iO tU fm fk fa fc ft ff fb fi] (fun u : Int32 × Int32 × (Nat → Int32) => (fun (at2 : Int32) (fl2 : Int32) (fm2 : Nat → Int32) => none) (u.1) (u.2.1) (u.2.2)) (fun u : Int32 × Int32 × (Nat → Int32) => (fun (at2 : Int32) (fl2 : Int32) (fm2 : Nat → Int32) => (rM fm2) ∧ (0 ≤ at2.toInt ∧ at2.toInt ≤ en.toInt + 7 - de.toInt) ∧ (tA.toInt ≤ at2.toInt) ∧ (-1 ≤ fl2.toInt)) (u.1) (u.2.1) (u.2.2)) (fun u : Int32 × Int32 × (Nat → Int32) => (fun (at2 : Int32) (fl2 : Int32) (fm2 : Nat → Int32) => [bMo g o a th hi ac tp ba en at2 fl2 de iD iO tU fm2 fk fa fc ft ff fb fi]) (u.1) (u.2.1) (u.2.2)) := by
  refine zM'.of (cc := cX12_trustsLine) (maxL := 5) (rt := none) (by decide) rfl (Nat.le_of_ble_eq_true rfl) ?_
  intro p e s m args below meth c A ls St hr hlocks hin hK hT hA hP hD hS hl
  obtain ⟨hx, hb, hml, hown, hts⟩ := id St
  have hl : lv_has ls 5 [(0, .ref o)] := hl
  refine lv_aload_n hx hb dX12_trustsLine_0 rfl (lv_at hl 0 rfl) ?_
  refine lv_iconst (v := 0) hx hb dX12_trustsLine_1 (by decide) ?_
  refine lv_aload_n hx hb dX12_trustsLine_2 rfl (lv_at hl 0 rfl) ?_
  refine va_get (D := g.1) (ci := 10) (v := .ref (a 0)) (C := RX12) (T := TX12) (N := 20) hx hb hts izRX12 hown hK hP 0 rfl rfl 1 (by decide) (hts _ k815) (fun _ h9 => h9) rfl dX12_trustsLine_3 ?_
  refine lv_iconst (v := 3) hx hb dX12_trustsLine_6 (by decide) ?_
  refine va_iald hx hb hK hP 1 0 rfl rfl (zin rfl) dX12_trustsLine_7 ?_
  refine zgq (r := fm 3) rfl (rM3 rfm) (fun x_1 hx_1 => ?_)
  refine lv_iconst (v := 1) hx hb dX12_trustsLine_8 (by decide) ?_
  refine lv_isub hx hb dX12_trustsLine_9 ?_
  refine zg3 (zsubK (i := x_1.toInt) (j := 1) (a' := (-1)) (b' := 7) rfl (by decide) hx_1.1 hx_1.2.1 (Int.le_refl _) (Int.le_refl _) (by decide)) (fun x_2 hx_2 => ?_)
  have hL0 : (0 : Int32).toInt = 0 := by decide
  refine mcallV' (g := g) (q0 := 0) (ci := 10) (As := [.int 0, .int x_2]) (rest := []) St hK hT hA hP hD hS hl.1 [0] [] rfl rfl rfl (m_figures l g o a th hi ac tp ba en tA fl de iD iO tU fm fk fa fc ft ff fb fi 0 x_2 (by first | assumption | omega | decide | exact Or.inl (by decide) | exact Or.inr (by decide)) (⟨hen.1, hen.2⟩) (by first | assumption | omega | decide | exact Or.inl (by decide) | exact Or.inr (by decide)) (by first | assumption | omega | decide | exact Or.inl (by decide) | exact Or.inr (by decide)) (⟨hde.1, hde.2⟩)) (cwV 2 hts (zgL (zl4 k901 k902 k903 k837) k897) rfl rfl rfl (by decide +kernel) ⟨Nat.le_of_ble_eq_true rfl, Nat.le_of_ble_eq_true rfl⟩) rfl rfl rfl rfl (Nat.le_of_ble_eq_true rfl) dX12_trustsLine_10 ⟨(Nat.le_of_ble_eq_true rfl), (Nat.le_of_ble_eq_true rfl)⟩ (fun u_ H locs hq6 hP hD hS => ?_)
  obtain ⟨at2_3, fl2_4, r_5⟩ := u_
  replace hq6 : (0 ≤ at2_3.toInt ∧ at2_3.toInt ≤ en.toInt + 7 - de.toInt) ∧ (tA.toInt ≤ at2_3.toInt) ∧ (-1 ≤ fl2_4.toInt) ∧ (zImp (fl2_4.toInt = -1) (fl.toInt = -1 ∧ (0 : Int32).toInt ≤ r_5.toInt ∧ r_5.toInt ≤ x_2.toInt)) := hq6
  have hP : va_P g.1 vwCl (List.flatten [bMo g o a th hi ac tp ba en at2_3 fl2_4 de iD iO tU fm fk fa fc ft ff fb fi]) H := hP
  have hD : va_D A (List.flatten [bMo g o a th hi ac tp ba en at2_3 fl2_4 de iD iO tU fm fk fa fc ft ff fb fi]) := hD
  refine W.widen (k := 0) (n := 0) (Nat.le_of_ble_eq_true rfl) (Nat.le_of_ble_eq_true rfl) ?_
  refine W.eq (g2 := F0 m 13 ls [.int r_5]) rfl ?_
  obtain ⟨hq6_0, hq6_1, hq6_2, hq6_3⟩ := hq6
  refine lv_istore_n (lv' := [(1, .int r_5), (0, .ref o)]) hx hb dX12_trustsLine_13 rfl hl (by decide) rfl (fun ls hl => ?_)
  refine lv_aload_n hx hb dX12_trustsLine_14 rfl (lv_at hl 1 rfl) ?_
  refine mcallV' (g := g) (q0 := 0) (ci := 10) (As := []) (rest := []) St hK hT hA hP hD hS hl.1 [0] [] rfl rfl rfl (m_here l g o a th hi ac tp ba en at2_3 fl2_4 de iD iO tU fm fk fa fc ft ff fb fi (by first | assumption | omega | decide | exact Or.inl (by decide) | exact Or.inr (by decide)) (⟨hen.1, hen.2⟩) (by first | assumption | omega | decide | exact Or.inl (by decide) | exact Or.inr (by decide)) (by first | assumption | omega | decide | exact Or.inl (by decide) | exact Or.inr (by decide)) (⟨hde.1, hde.2⟩)) (cwV 0 hts (zgL (zl4 k891 k892 k893 k837) k890) rfl rfl rfl (by decide +kernel) ⟨Nat.le_of_ble_eq_true rfl, Nat.le_of_ble_eq_true rfl⟩) rfl rfl rfl rfl (Nat.le_of_ble_eq_true rfl) dX12_trustsLine_15 ⟨(Nat.le_of_ble_eq_true rfl), (Nat.le_of_ble_eq_true rfl)⟩ (fun at2_7 H locs hq8 hP hD hS => ?_)
  replace hq8 : (0 ≤ at2_7.toInt ∧ at2_7.toInt ≤ en.toInt + 7 - de.toInt) ∧ (at2_3.toInt ≤ at2_7.toInt) := hq8
  have hP : va_P g.1 vwCl (List.flatten [bMo g o a th hi ac tp ba en at2_7 fl2_4 de iD iO tU fm fk fa fc ft ff fb fi]) H := hP
  have hD : va_D A (List.flatten [bMo g o a th hi ac tp ba en at2_7 fl2_4 de iD iO tU fm fk fa fc ft ff fb fi]) := hD
  refine W.widen (k := 0) (n := 0) (Nat.le_of_ble_eq_true rfl) (Nat.le_of_ble_eq_true rfl) ?_
  refine W.eq (g2 := F0 m 18 ls [.int at2_7]) rfl ?_
  obtain ⟨hq8_0, hq8_1⟩ := hq8
  refine lv_istore_n (lv' := [(2, .int at2_7), (1, .int r_5), (0, .ref o)]) hx hb dX12_trustsLine_18 rfl hl (by decide) rfl (fun ls hl => ?_)
  refine lv_iconst (v := 0) hx hb dX12_trustsLine_19 (by decide) ?_
  refine lv_istore_n (lv' := [(3, .int 0), (2, .int at2_7), (1, .int r_5), (0, .ref o)]) hx hb dX12_trustsLine_20 rfl hl (by decide) rfl (fun ls hl => ?_)
  have hl := lv_sub (l' := [(0, .ref o), (1, .int r_5), (2, .int at2_7), (3, .int 0)]) hl [3, 2, 1, 0] rfl
  have LP21_12 : ∀ (kf : Nat) (x_9 : Int32), (0 ≤ x_9.toInt ∧ x_9.toInt ≤ 400) → (x_9.toInt = 0 ∨ at2_7.toInt + x_9.toInt ≤ en.toInt) → ∀ (H : Heap) (locs : List Loc) (ls : Array Slot), ((400 - x_9.toInt).toNat) < kf → va_P g.1 vwCl (List.flatten [bMo g o a th hi ac tp ba en at2_7 fl2_4 de iD iO tU fm fk fa fc ft ff fb fi]) H → va_D A (List.flatten [bMo g o a th hi ac tp ba en at2_7 fl2_4 de iD iO tU fm fk fa fc ft ff fb fi]) → va_S A s.heap H locs → lv_has ls 5 [(0, .ref o), (1, .int r_5), (2, .int at2_7), (3, .int x_9)] → W p l e ({ frames := 4, cells := 0, slots := 0, locals := 85 } : Room) s m args below meth c H locs (0) (0) (zF g (fun u : Int32 × Int32 × (Nat → Int32) => (fun (at2 : Int32) (fl2 : Int32) (fm2 : Nat → Int32) => none) (u.1) (u.2.1) (u.2.2)) (fun u : Int32 × Int32 × (Nat → Int32) => (fun (at2 : Int32) (fl2 : Int32) (fm2 : Nat → Int32) => (rM fm2) ∧ (0 ≤ at2.toInt ∧ at2.toInt ≤ en.toInt + 7 - de.toInt) ∧ (tA.toInt ≤ at2.toInt) ∧ (-1 ≤ fl2.toInt)) (u.1) (u.2.1) (u.2.2)) (fun u : Int32 × Int32 × (Nat → Int32) => (fun (at2 : Int32) (fl2 : Int32) (fm2 : Nat → Int32) => [bMo g o a th hi ac tp ba en at2 fl2 de iD iO tU fm2 fk fa fc ft ff fb fi]) (u.1) (u.2.1) (u.2.2)) ({ frames := 4, cells := 0, slots := 0, locals := 85 } : Room) below args s A) (F0 m 21 ls []) := by
    intro kf
    induction kf with
    | zero => intro x_9 i10 i11 H locs ls hk; exact absurd hk (Nat.not_lt_zero _)
    | succ kf ih21_13 =>
      intro x_9 i10 i11 H locs ls hk hP hD hS hl
      refine lv_aload_n hx hb dX12_trustsLine_21 rfl (lv_at hl 0 rfl) ?_
      refine va_get (D := g.1) (ci := 10) (v := .int fl2_4) (C := RX12) (T := TX12) (N := 20) hx hb hts izRX12 hown hK hP 0 rfl rfl 12 (by decide) (hts _ k820) (fun _ h9 => h9) rfl dX12_trustsLine_22 ?_
      refine lv_iconst (v := (-1)) hx hb dX12_trustsLine_25 (by decide) ?_
      refine lv_icmp_ne (tgt := 62) hx hb dX12_trustsLine_26 (by decide) (fun cb9 => ?_) (fun cb9 => ?_)
      · skip
        have c14 : ¬ fl2_4.toInt = (-1) := zne cb9 rfl (by decide)
        refine lv_iload_n hx hb dX12_trustsLine_62 rfl (lv_at hl 3 rfl) ?_
        refine lv_aload_n hx hb dX12_trustsLine_63 rfl (lv_at hl 0 rfl) ?_
        refine va_get (D := g.1) (ci := 10) (v := .ref (a 0)) (C := RX12) (T := TX12) (N := 20) hx hb hts izRX12 hown hK hP 0 rfl rfl 1 (by decide) (hts _ k815) (fun _ h9 => h9) rfl dX12_trustsLine_64 ?_
        refine lv_iconst (v := 3) hx hb dX12_trustsLine_67 (by decide) ?_
        refine va_iald hx hb hK hP 1 0 rfl rfl (zin rfl) dX12_trustsLine_68 ?_
        refine zgq (r := fm 3) rfl (rM3 rfm) (fun x_15 hx_15 => ?_)
        refine lv_icmp_eq (tgt := 77) hx hb dX12_trustsLine_69 (by decide) (fun cb9 => ?_) (fun cb9 => ?_)
        · skip
          have c16 : x_9.toInt = x_15.toInt := zeq cb9 rfl rfl
          have n17 : x_9.toInt ≤ 8 := Int.le_trans (Int.le_of_eq c16) hx_15.2.1
          refine lv_aload_n hx hb dX12_trustsLine_77 rfl (lv_at hl 0 rfl) ?_
          refine va_get (D := g.1) (ci := 10) (v := .int fl2_4) (C := RX12) (T := TX12) (N := 20) hx hb hts izRX12 hown hK hP 0 rfl rfl 12 (by decide) (hts _ k820) (fun _ h9 => h9) rfl dX12_trustsLine_78 ?_
          refine lv_iconst (v := (-1)) hx hb dX12_trustsLine_81 (by decide) ?_
          refine lv_icmp_eq (tgt := 86) hx hb dX12_trustsLine_82 (by decide) (fun cb9 => ?_) (fun cb9 => ?_)
          · skip
            exact absurd (show fl2_4.toInt = (-1) from zeq cb9 rfl (by decide)) (by omega)
          · skip
            have c19 : ¬ fl2_4.toInt = (-1) := zne cb9 rfl (by decide)
            have hP : va_P g.1 vwCl (List.flatten [bMo g o a th hi ac tp ba en at2_7 fl2_4 de iD iO tU fm fk fa fc ft ff fb fi]) H := hP
            have hD : va_D A (List.flatten [bMo g o a th hi ac tp ba en at2_7 fl2_4 de iD iO tU fm fk fa fc ft ff fb fi]) := hD
            exact mret_v hx hb hr hlocks hS (Nat.le_of_ble_eq_true rfl) (Nat.le_of_ble_eq_true rfl) dX12_trustsLine_85 (at2_7, fl2_4, fm) rfl (show (rM fm) ∧ (0 ≤ at2_7.toInt ∧ at2_7.toInt ≤ en.toInt + 7 - de.toInt) ∧ (tA.toInt ≤ at2_7.toInt) ∧ (-1 ≤ fl2_4.toInt) from ⟨(by first | assumption | omega | decide | exact rfl | exact zb01 (by omega) | exact Or.inl (by decide) | exact Or.inr (by first | omega | decide)), (by first | assumption | omega | decide | exact rfl | exact zb01 (by omega) | exact Or.inl (by decide) | exact Or.inr (by first | omega | decide)), (by first | assumption | omega | decide | exact rfl | exact zb01 (by omega) | exact Or.inl (by decide) | exact Or.inr (by first | omega | decide)), (by first | assumption | omega | decide | exact rfl | exact zb01 (by omega) | exact Or.inl (by decide) | exact Or.inr (by first | omega | decide))⟩) hP hD
        · skip
          have c20 : ¬ x_9.toInt = x_15.toInt := zne cb9 rfl rfl
          refine lv_aload_n hx hb dX12_trustsLine_72 rfl (lv_at hl 0 rfl) ?_
          refine lv_iload_n hx hb dX12_trustsLine_73 rfl (lv_at hl 2 rfl) ?_
          refine mcallV' (g := g) (q0 := 0) (ci := 10) (As := [.int at2_7]) (rest := []) St hK hT hA hP hD hS hl.1 [0] [] rfl rfl rfl (m_wrong l g o a th hi ac tp ba en at2_7 fl2_4 de iD iO tU fm fk fa fc ft ff fb fi at2_7 (by first | assumption | omega | decide | exact Or.inl (by decide) | exact Or.inr (by decide)) (by first | assumption | omega | decide | exact Or.inl (by decide) | exact Or.inr (by decide))) (cwV 1 hts (zgL (zl4 k894 k895 k896 k837) k889) rfl rfl rfl (by decide +kernel) ⟨Nat.le_of_ble_eq_true rfl, Nat.le_of_ble_eq_true rfl⟩) rfl rfl rfl rfl (Nat.le_of_ble_eq_true rfl) dX12_trustsLine_74 ⟨(Nat.le_of_ble_eq_true rfl), (Nat.le_of_ble_eq_true rfl)⟩ (fun fl2_21 H locs hq22 hP hD hS => ?_)
          replace hq22 : (0 ≤ fl2_21.toInt) := hq22
          have hP : va_P g.1 vwCl (List.flatten [bMo g o a th hi ac tp ba en at2_7 fl2_21 de iD iO tU fm fk fa fc ft ff fb fi]) H := hP
          have hD : va_D A (List.flatten [bMo g o a th hi ac tp ba en at2_7 fl2_21 de iD iO tU fm fk fa fc ft ff fb fi]) := hD
          refine W.widen (k := 0) (n := 0) (Nat.le_of_ble_eq_true rfl) (Nat.le_of_ble_eq_true rfl) ?_
          refine W.eq (g2 := F0 m 77 ls []) rfl ?_
          refine lv_aload_n hx hb dX12_trustsLine_77 rfl (lv_at hl 0 rfl) ?_
          refine va_get (D := g.1) (ci := 10) (v := .int fl2_21) (C := RX12) (T := TX12) (N := 20) hx hb hts izRX12 hown hK hP 0 rfl rfl 12 (by decide) (hts _ k820) (fun _ h9 => h9) rfl dX12_trustsLine_78 ?_
          refine lv_iconst (v := (-1)) hx hb dX12_trustsLine_81 (by decide) ?_
          refine lv_icmp_eq (tgt := 86) hx hb dX12_trustsLine_82 (by decide) (fun cb9 => ?_) (fun cb9 => ?_)
          · skip
            exact absurd (show fl2_21.toInt = (-1) from zeq cb9 rfl (by decide)) (zDeq2 (a := 0) (b := (-1)) hq22 (Int.le_refl _) (by decide))
          · skip
            have c24 : ¬ fl2_21.toInt = (-1) := zne cb9 rfl (by decide)
            have hP : va_P g.1 vwCl (List.flatten [bMo g o a th hi ac tp ba en at2_7 fl2_21 de iD iO tU fm fk fa fc ft ff fb fi]) H := hP
            have hD : va_D A (List.flatten [bMo g o a th hi ac tp ba en at2_7 fl2_21 de iD iO tU fm fk fa fc ft ff fb fi]) := hD
            exact mret_v hx hb hr hlocks hS (Nat.le_of_ble_eq_true rfl) (Nat.le_of_ble_eq_true rfl) dX12_trustsLine_85 (at2_7, fl2_21, fm) rfl (show (rM fm) ∧ (0 ≤ at2_7.toInt ∧ at2_7.toInt ≤ en.toInt + 7 - de.toInt) ∧ (tA.toInt ≤ at2_7.toInt) ∧ (-1 ≤ fl2_21.toInt) from ⟨(by first | assumption | omega | decide | exact rfl | exact zb01 (by omega) | exact Or.inl (by decide) | exact Or.inr (by first | omega | decide)), (by first | assumption | omega | decide | exact rfl | exact zb01 (by omega) | exact Or.inl (by decide) | exact Or.inr (by first | omega | decide)), (by first | assumption | omega | decide | exact rfl | exact zb01 (by omega) | exact Or.inl (by decide) | exact Or.inr (by first | omega | decide)), (by first | assumption | omega | decide | exact rfl | exact zb01 (by omega) | exact Or.inl (by decide) | exact Or.inr (by first | omega | decide))⟩) hP hD
      · skip
        have c25 : fl2_4.toInt = (-1) := zeq cb9 rfl (by decide)
        have n26 : fl2_4.toInt ≤ (-1) := Int.le_trans (Int.le_of_eq c25) (Int.le_refl _)
        obtain ⟨e28, w27⟩ := hq6_3 c25
        have w29 : 0 ≤ r_5.toInt ∧ r_5.toInt ≤ 7 := by first | exact w27 | omega
        refine lv_iload_n hx hb dX12_trustsLine_29 rfl (lv_at hl 2 rfl) ?_
        refine lv_iload_n hx hb dX12_trustsLine_30 rfl (lv_at hl 3 rfl) ?_
        refine lv_iadd hx hb dX12_trustsLine_31 ?_
        refine zgv (zadd (i := at2_7.toInt) (j := x_9.toInt) rfl rfl (by omega)) (fun x_30 hx_30 => ?_)
        refine lv_aload_n hx hb dX12_trustsLine_32 rfl (lv_at hl 0 rfl) ?_
        refine va_get (D := g.1) (ci := 10) (v := .int en) (C := RX12) (T := TX12) (N := 20) hx hb hts izRX12 hown hK hP 0 rfl rfl 10 (by decide) (hts _ k878) (fun _ h9 => h9) rfl dX12_trustsLine_33 ?_
        refine lv_icmp_ge (tgt := 62) hx hb dX12_trustsLine_36 (by decide) (fun cb9 => ?_) (fun cb9 => ?_)
        · skip
          have c31 : en.toInt ≤ x_30.toInt := zle cb9 rfl rfl
          refine lv_iload_n hx hb dX12_trustsLine_62 rfl (lv_at hl 3 rfl) ?_
          refine lv_aload_n hx hb dX12_trustsLine_63 rfl (lv_at hl 0 rfl) ?_
          refine va_get (D := g.1) (ci := 10) (v := .ref (a 0)) (C := RX12) (T := TX12) (N := 20) hx hb hts izRX12 hown hK hP 0 rfl rfl 1 (by decide) (hts _ k815) (fun _ h9 => h9) rfl dX12_trustsLine_64 ?_
          refine lv_iconst (v := 3) hx hb dX12_trustsLine_67 (by decide) ?_
          refine va_iald hx hb hK hP 1 0 rfl rfl (zin rfl) dX12_trustsLine_68 ?_
          refine zgq (r := fm 3) rfl (rM3 rfm) (fun x_32 hx_32 => ?_)
          refine lv_icmp_eq (tgt := 77) hx hb dX12_trustsLine_69 (by decide) (fun cb9 => ?_) (fun cb9 => ?_)
          · skip
            have c33 : x_9.toInt = x_32.toInt := zeq cb9 rfl rfl
            have n34 : x_9.toInt ≤ 8 := Int.le_trans (Int.le_of_eq c33) hx_32.2.1
            refine lv_aload_n hx hb dX12_trustsLine_77 rfl (lv_at hl 0 rfl) ?_
            refine va_get (D := g.1) (ci := 10) (v := .int fl2_4) (C := RX12) (T := TX12) (N := 20) hx hb hts izRX12 hown hK hP 0 rfl rfl 12 (by decide) (hts _ k820) (fun _ h9 => h9) rfl dX12_trustsLine_78 ?_
            refine lv_iconst (v := (-1)) hx hb dX12_trustsLine_81 (by decide) ?_
            refine lv_icmp_eq (tgt := 86) hx hb dX12_trustsLine_82 (by decide) (fun cb9 => ?_) (fun cb9 => ?_)
            · skip
              have c35 : fl2_4.toInt = (-1) := zeq cb9 rfl (by decide)
              obtain ⟨e37, w36⟩ := hq6_3 c35
              have w38 : 0 ≤ r_5.toInt ∧ r_5.toInt ≤ 7 := by first | exact w36 | omega
              have w39 : 0 ≤ r_5.toInt ∧ r_5.toInt ≤ 7 := by omega
              refine lv_iconst (v := 0) hx hb dX12_trustsLine_86 (by decide) ?_
              refine lv_istore (lv' := [(4, .int 0), (0, .ref o), (1, .int r_5), (2, .int at2_7), (3, .int x_9)]) hx hb dX12_trustsLine_87 hl (by decide) rfl (fun ls hl => ?_)
              have hl := lv_sub (l' := [(0, .ref o), (1, .int r_5), (2, .int at2_7), (3, .int x_9), (4, .int 0)]) hl [1, 2, 3, 4, 0] rfl
              have LP89_43 : ∀ (kf : Nat) (x_40 : Int32) (fm_41 : Nat → Int32), (0 ≤ x_40.toInt ∧ x_40.toInt ≤ 8) → (rM fm_41) → ∀ (H : Heap) (locs : List Loc) (ls : Array Slot), ((9 - x_40.toInt).toNat) < kf → va_P g.1 vwCl (List.flatten [bMo g o a th hi ac tp ba en at2_7 fl2_4 de iD iO tU fm_41 fk fa fc ft ff fb fi]) H → va_D A (List.flatten [bMo g o a th hi ac tp ba en at2_7 fl2_4 de iD iO tU fm_41 fk fa fc ft ff fb fi]) → va_S A s.heap H locs → lv_has ls 5 [(0, .ref o), (1, .int r_5), (2, .int at2_7), (3, .int x_9), (4, .int x_40)] → W p l e ({ frames := 4, cells := 0, slots := 0, locals := 85 } : Room) s m args below meth c H locs (0) (0) (zF g (fun u : Int32 × Int32 × (Nat → Int32) => (fun (at2 : Int32) (fl2 : Int32) (fm2 : Nat → Int32) => none) (u.1) (u.2.1) (u.2.2)) (fun u : Int32 × Int32 × (Nat → Int32) => (fun (at2 : Int32) (fl2 : Int32) (fm2 : Nat → Int32) => (rM fm2) ∧ (0 ≤ at2.toInt ∧ at2.toInt ≤ en.toInt + 7 - de.toInt) ∧ (tA.toInt ≤ at2.toInt) ∧ (-1 ≤ fl2.toInt)) (u.1) (u.2.1) (u.2.2)) (fun u : Int32 × Int32 × (Nat → Int32) => (fun (at2 : Int32) (fl2 : Int32) (fm2 : Nat → Int32) => [bMo g o a th hi ac tp ba en at2 fl2 de iD iO tU fm2 fk fa fc ft ff fb fi]) (u.1) (u.2.1) (u.2.2)) ({ frames := 4, cells := 0, slots := 0, locals := 85 } : Room) below args s A) (F0 m 89 ls []) := by
                intro kf
                induction kf with
                | zero => intro x_40 fm_41 i42 rfm_41 H locs ls hk; exact absurd hk (Nat.not_lt_zero _)
                | succ kf ih89_44 =>
                  intro x_40 fm_41 i42 rfm_41 H locs ls hk hP hD hS hl
                  refine lv_iload hx hb dX12_trustsLine_89 (lv_at hl 4 rfl) ?_
                  refine lv_iload_n hx hb dX12_trustsLine_91 rfl (lv_at hl 3 rfl) ?_
                  refine lv_icmp_ge (tgt := 127) hx hb dX12_trustsLine_92 (by decide) (fun cb9 => ?_) (fun cb9 => ?_)
                  · skip
                    have c45 : x_9.toInt ≤ x_40.toInt := zle cb9 rfl rfl
                    refine lv_aload_n hx hb dX12_trustsLine_127 rfl (lv_at hl 0 rfl) ?_
                    refine lv_iload_n hx hb dX12_trustsLine_128 rfl (lv_at hl 2 rfl) ?_
                    refine lv_iload_n hx hb dX12_trustsLine_129 rfl (lv_at hl 3 rfl) ?_
                    refine lv_iadd hx hb dX12_trustsLine_130 ?_
                    refine zgv (zadd (i := at2_7.toInt) (j := x_9.toInt) rfl rfl (by omega)) (fun x_46 hx_46 => ?_)
                    refine va_put (D := g.1) (ci := 10) (v := .int x_46) (ty := .int) (C := RX12) (T := TX12) (N := 20) hx hb hts izRX12 tyX12 tyX12_ok nmX12 hown hK hP hD hS 0 rfl rfl 11 (by decide) (hts _ k877) (fun _ h9 => h9) rfl (by decide +kernel) rfl rfl (Nat.le_of_ble_eq_true rfl) dX12_trustsLine_131 (fun H locs hP hD hS => ?_)
                    have hP : va_P g.1 vwCl (List.flatten [bMo g o a th hi ac tp ba en x_46 fl2_4 de iD iO tU fm_41 fk fa fc ft ff fb fi]) H := hP
                    have hD : va_D A (List.flatten [bMo g o a th hi ac tp ba en x_46 fl2_4 de iD iO tU fm_41 fk fa fc ft ff fb fi]) := hD
                    have hP : va_P g.1 vwCl (List.flatten [bMo g o a th hi ac tp ba en x_46 fl2_4 de iD iO tU fm_41 fk fa fc ft ff fb fi]) H := hP
                    have hD : va_D A (List.flatten [bMo g o a th hi ac tp ba en x_46 fl2_4 de iD iO tU fm_41 fk fa fc ft ff fb fi]) := hD
                    exact mret_v hx hb hr hlocks hS (Nat.le_of_ble_eq_true rfl) (Nat.le_of_ble_eq_true rfl) dX12_trustsLine_134 (x_46, fl2_4, fm_41) rfl (show (rM fm_41) ∧ (0 ≤ x_46.toInt ∧ x_46.toInt ≤ en.toInt + 7 - de.toInt) ∧ (tA.toInt ≤ x_46.toInt) ∧ (-1 ≤ fl2_4.toInt) from ⟨(by first | assumption | omega | decide | exact rfl | exact zb01 (by omega) | exact Or.inl (by decide) | exact Or.inr (by first | omega | decide)), (by first | assumption | omega | decide | exact rfl | exact zb01 (by omega) | exact Or.inl (by decide) | exact Or.inr (by first | omega | decide)), (by first | assumption | omega | decide | exact rfl | exact zb01 (by omega) | exact Or.inl (by decide) | exact Or.inr (by first | omega | decide)), (by first | assumption | omega | decide | exact rfl | exact zb01 (by omega) | exact Or.inl (by decide) | exact Or.inr (by first | omega | decide))⟩) hP hD
                  · skip
                    have c47 : x_40.toInt < x_9.toInt := zlti (Int32.not_le.mp cb9) rfl rfl
                    have n48 : x_40.toInt ≤ 7 := zL1 (b := 8) c47 n34 (by decide)
                    have n49 : 1 ≤ x_9.toInt := zL2 (a := 0) c47 i42.1 (by decide)
                    refine lv_aload_n hx hb dX12_trustsLine_95 rfl (lv_at hl 0 rfl) ?_
                    refine va_get (D := g.1) (ci := 10) (v := .ref (a 0)) (C := RX12) (T := TX12) (N := 20) hx hb hts izRX12 hown hK hP 0 rfl rfl 1 (by decide) (hts _ k815) (fun _ h9 => h9) rfl dX12_trustsLine_96 ?_
                    refine lv_bipush (v := 51) hx hb dX12_trustsLine_99 (by decide) ?_
                    refine lv_bipush (v := 8) hx hb dX12_trustsLine_101 (by decide) ?_
                    refine lv_iload_n hx hb dX12_trustsLine_103 rfl (lv_at hl 1 rfl) ?_
                    refine lv_imul hx hb dX12_trustsLine_104 ?_
                    refine zg3 (zmulKL (i := r_5.toInt) (n := 8) (a' := 0) (b' := 56) rfl (by decide) w39.1 w39.2 (by decide) (by decide)) (fun x_50 hx_50 => ?_)
                    refine lv_iadd hx hb dX12_trustsLine_105 ?_
                    refine zg3 (zaddK (i := 51) (j := x_50.toInt) (a' := 51) (b' := 107) (by decide) rfl (Int.le_refl _) (Int.le_refl _) hx_50.2.1 hx_50.2.2 (by decide)) (fun x_51 hx_51 => ?_)
                    refine lv_iload hx hb dX12_trustsLine_106 (lv_at hl 4 rfl) ?_
                    refine lv_iadd hx hb dX12_trustsLine_108 ?_
                    refine zg3 (zaddK (i := x_51.toInt) (j := x_40.toInt) (a' := 51) (b' := 114) rfl rfl hx_51.2.1 hx_51.2.2 i42.1 n48 (by decide)) (fun x_52 hx_52 => ?_)
                    refine lv_aload_n hx hb dX12_trustsLine_109 rfl (lv_at hl 0 rfl) ?_
                    refine lv_iload_n hx hb dX12_trustsLine_110 rfl (lv_at hl 2 rfl) ?_
                    refine lv_iload hx hb dX12_trustsLine_111 (lv_at hl 4 rfl) ?_
                    refine lv_iadd hx hb dX12_trustsLine_113 ?_
                    refine zgv (zadd (i := at2_7.toInt) (j := x_40.toInt) rfl rfl (by omega)) (fun x_53 hx_53 => ?_)
                    refine mcallV' (g := g) (q0 := 0) (ci := 10) (As := [.int x_53]) (rest := [.int x_52, .ref (a 0)]) St hK hT hA hP hD hS hl.1 [0] [] rfl rfl rfl (m_letter l g o a th hi ac tp ba en at2_7 fl2_4 de iD iO tU fm_41 fk fa fc ft ff fb fi x_53 (by first | assumption | omega | decide | exact Or.inl (by decide) | exact Or.inr (by decide)) (by first | assumption | omega | decide | exact Or.inl (by decide) | exact Or.inr (by decide))) (cwV 1 hts (zgL (zl4 k879 k880 k881 k837) k874) rfl rfl rfl (by decide +kernel) ⟨Nat.le_of_ble_eq_true rfl, Nat.le_of_ble_eq_true rfl⟩) rfl rfl rfl rfl (Nat.le_of_ble_eq_true rfl) dX12_trustsLine_114 ⟨(Nat.le_of_ble_eq_true rfl), (Nat.le_of_ble_eq_true rfl)⟩ (fun q_54 H locs hq55 hP hD hS => ?_)
                    have hP : va_P g.1 vwCl (List.flatten [bMo g o a th hi ac tp ba en at2_7 fl2_4 de iD iO tU fm_41 fk fa fc ft ff fb fi]) H := hP
                    have hD : va_D A (List.flatten [bMo g o a th hi ac tp ba en at2_7 fl2_4 de iD iO tU fm_41 fk fa fc ft ff fb fi]) := hD
                    refine W.widen (k := 0) (n := 0) (Nat.le_of_ble_eq_true rfl) (Nat.le_of_ble_eq_true rfl) ?_
                    refine W.eq (g2 := F0 m 117 ls [.int q_54, .int x_52, .ref (a 0)]) rfl ?_
                    refine lv_bipush (v := 48) hx hb dX12_trustsLine_117 (by decide) ?_
                    refine lv_isub hx hb dX12_trustsLine_119 ?_
                    refine zg (fun x_56 => ?_)
                    refine va_iast hx hb hK hP hD hS 1 0 rfl rfl (zinK (a := 51) (b := 114) hx_52.2.1 hx_52.2.2 (by decide)) dX12_trustsLine_120 (fun H locs hP hD hS => ?_)
                    obtain ⟨fm_57, rfm_57, hkfm_57, hP, hD⟩ : ∃ fm_57 : Nat → Int32, rM fm_57 ∧ ((fm_57 3).toInt = (fm_41 3).toInt ∧ (fm_57 4).toInt = (fm_41 4).toInt) ∧ va_P g.1 vwCl (List.flatten [bMo g o a th hi ac tp ba en at2_7 fl2_4 de iD iO tU fm_57 fk fa fc ft ff fb fi]) H ∧ va_D A (List.flatten [bMo g o a th hi ac tp ba en at2_7 fl2_4 de iD iO tU fm_57 fk fa fc ft ff fb fi]) := ⟨upd fm_41 x_52.toNatClampNeg x_56, (rM_stB rfm_41 (Int.le_trans (by decide) hx_52.2.1)), (rM_kp (j := x_52.toInt) rfl (Int.le_trans (by decide) hx_52.2.1)), hP, hD⟩
                    refine ziinc3 (n' := 1) (a' := 1) (b' := 8) (lv' := fun v9 => [(4, .int v9), (0, .ref o), (1, .int r_5), (2, .int at2_7), (3, .int x_9)]) hx hb dX12_trustsLine_121 hl (k := 4) rfl (by decide) (fun _ => rfl) (zaddK (i := x_40.toInt) (j := 1) rfl (by decide) i42.1 n48 (Int.le_refl _) (Int.le_refl _) (by decide)) (fun x_58 ls hx_58 hl => ?_)
                    refine lv_goto (tgt := 89) hx hb dX12_trustsLine_124 (by decide) ?_
                    have hl := lv_sub (l' := [(0, .ref o), (1, .int r_5), (2, .int at2_7), (3, .int x_9), (4, .int x_58)]) hl [1, 2, 3, 4, 0] rfl
                    have hP : va_P g.1 vwCl (List.flatten [bMo g o a th hi ac tp ba en at2_7 fl2_4 de iD iO tU fm_57 fk fa fc ft ff fb fi]) H := hP
                    have hD : va_D A (List.flatten [bMo g o a th hi ac tp ba en at2_7 fl2_4 de iD iO tU fm_57 fk fa fc ft ff fb fi]) := hD
                    exact ih89_44 x_58 fm_57 ⟨(Int.le_trans (by decide) hx_58.2.1), hx_58.2.2⟩ rfm_57 H _ ls (by omega)  hP hD hS (lv_sub hl [0, 1, 2, 3, 4] rfl)
              have hP : va_P g.1 vwCl (List.flatten [bMo g o a th hi ac tp ba en at2_7 fl2_4 de iD iO tU fm fk fa fc ft ff fb fi]) H := hP
              have hD : va_D A (List.flatten [bMo g o a th hi ac tp ba en at2_7 fl2_4 de iD iO tU fm fk fa fc ft ff fb fi]) := hD
              exact LP89_43 _ 0 fm (by decide) rfm H _ ls (Nat.lt_succ_self _)  hP hD hS (lv_sub hl [0, 1, 2, 3, 4] rfl)
            · skip
              exact absurd (show ¬ fl2_4.toInt = (-1) from zne cb9 rfl (by decide)) (by omega)
          · skip
            have c60 : ¬ x_9.toInt = x_32.toInt := zne cb9 rfl rfl
            refine lv_aload_n hx hb dX12_trustsLine_72 rfl (lv_at hl 0 rfl) ?_
            refine lv_iload_n hx hb dX12_trustsLine_73 rfl (lv_at hl 2 rfl) ?_
            refine mcallV' (g := g) (q0 := 0) (ci := 10) (As := [.int at2_7]) (rest := []) St hK hT hA hP hD hS hl.1 [0] [] rfl rfl rfl (m_wrong l g o a th hi ac tp ba en at2_7 fl2_4 de iD iO tU fm fk fa fc ft ff fb fi at2_7 (by first | assumption | omega | decide | exact Or.inl (by decide) | exact Or.inr (by decide)) (by first | assumption | omega | decide | exact Or.inl (by decide) | exact Or.inr (by decide))) (cwV 1 hts (zgL (zl4 k894 k895 k896 k837) k889) rfl rfl rfl (by decide +kernel) ⟨Nat.le_of_ble_eq_true rfl, Nat.le_of_ble_eq_true rfl⟩) rfl rfl rfl rfl (Nat.le_of_ble_eq_true rfl) dX12_trustsLine_74 ⟨(Nat.le_of_ble_eq_true rfl), (Nat.le_of_ble_eq_true rfl)⟩ (fun fl2_61 H locs hq62 hP hD hS => ?_)
            replace hq62 : (0 ≤ fl2_61.toInt) := hq62
            have hP : va_P g.1 vwCl (List.flatten [bMo g o a th hi ac tp ba en at2_7 fl2_61 de iD iO tU fm fk fa fc ft ff fb fi]) H := hP
            have hD : va_D A (List.flatten [bMo g o a th hi ac tp ba en at2_7 fl2_61 de iD iO tU fm fk fa fc ft ff fb fi]) := hD
            refine W.widen (k := 0) (n := 0) (Nat.le_of_ble_eq_true rfl) (Nat.le_of_ble_eq_true rfl) ?_
            refine W.eq (g2 := F0 m 77 ls []) rfl ?_
            refine lv_aload_n hx hb dX12_trustsLine_77 rfl (lv_at hl 0 rfl) ?_
            refine va_get (D := g.1) (ci := 10) (v := .int fl2_61) (C := RX12) (T := TX12) (N := 20) hx hb hts izRX12 hown hK hP 0 rfl rfl 12 (by decide) (hts _ k820) (fun _ h9 => h9) rfl dX12_trustsLine_78 ?_
            refine lv_iconst (v := (-1)) hx hb dX12_trustsLine_81 (by decide) ?_
            refine lv_icmp_eq (tgt := 86) hx hb dX12_trustsLine_82 (by decide) (fun cb9 => ?_) (fun cb9 => ?_)
            · skip
              exact absurd (show fl2_61.toInt = (-1) from zeq cb9 rfl (by decide)) (zDeq2 (a := 0) (b := (-1)) hq62 (Int.le_refl _) (by decide))
            · skip
              have c64 : ¬ fl2_61.toInt = (-1) := zne cb9 rfl (by decide)
              have hP : va_P g.1 vwCl (List.flatten [bMo g o a th hi ac tp ba en at2_7 fl2_61 de iD iO tU fm fk fa fc ft ff fb fi]) H := hP
              have hD : va_D A (List.flatten [bMo g o a th hi ac tp ba en at2_7 fl2_61 de iD iO tU fm fk fa fc ft ff fb fi]) := hD
              exact mret_v hx hb hr hlocks hS (Nat.le_of_ble_eq_true rfl) (Nat.le_of_ble_eq_true rfl) dX12_trustsLine_85 (at2_7, fl2_61, fm) rfl (show (rM fm) ∧ (0 ≤ at2_7.toInt ∧ at2_7.toInt ≤ en.toInt + 7 - de.toInt) ∧ (tA.toInt ≤ at2_7.toInt) ∧ (-1 ≤ fl2_61.toInt) from ⟨(by first | assumption | omega | decide | exact rfl | exact zb01 (by omega) | exact Or.inl (by decide) | exact Or.inr (by first | omega | decide)), (by first | assumption | omega | decide | exact rfl | exact zb01 (by omega) | exact Or.inl (by decide) | exact Or.inr (by first | omega | decide)), (by first | assumption | omega | decide | exact rfl | exact zb01 (by omega) | exact Or.inl (by decide) | exact Or.inr (by first | omega | decide)), (by first | assumption | omega | decide | exact rfl | exact zb01 (by omega) | exact Or.inl (by decide) | exact Or.inr (by first | omega | decide))⟩) hP hD
        · skip
          have c65 : x_30.toInt < en.toInt := zlti (Int32.not_le.mp cb9) rfl rfl
          have n66 : x_30.toInt ≤ 399 := zL1 (b := 400) c65 hen.2 (by decide)
          refine lv_aload_n hx hb dX12_trustsLine_39 rfl (lv_at hl 0 rfl) ?_
          refine lv_iload_n hx hb dX12_trustsLine_40 rfl (lv_at hl 2 rfl) ?_
          refine lv_iload_n hx hb dX12_trustsLine_41 rfl (lv_at hl 3 rfl) ?_
          refine lv_iadd hx hb dX12_trustsLine_42 ?_
          refine zgv (zadd (i := at2_7.toInt) (j := x_9.toInt) rfl rfl (by omega)) (fun x_67 hx_67 => ?_)
          refine mcallV' (g := g) (q0 := 0) (ci := 10) (As := [.int x_67]) (rest := []) St hK hT hA hP hD hS hl.1 [0] [] rfl rfl rfl (m_letter l g o a th hi ac tp ba en at2_7 fl2_4 de iD iO tU fm fk fa fc ft ff fb fi x_67 (by first | assumption | omega | decide | exact Or.inl (by decide) | exact Or.inr (by decide)) (by first | assumption | omega | decide | exact Or.inl (by decide) | exact Or.inr (by decide))) (cwV 1 hts (zgL (zl4 k879 k880 k881 k837) k874) rfl rfl rfl (by decide +kernel) ⟨Nat.le_of_ble_eq_true rfl, Nat.le_of_ble_eq_true rfl⟩) rfl rfl rfl rfl (Nat.le_of_ble_eq_true rfl) dX12_trustsLine_43 ⟨(Nat.le_of_ble_eq_true rfl), (Nat.le_of_ble_eq_true rfl)⟩ (fun q_68 H locs hq69 hP hD hS => ?_)
          have hP : va_P g.1 vwCl (List.flatten [bMo g o a th hi ac tp ba en at2_7 fl2_4 de iD iO tU fm fk fa fc ft ff fb fi]) H := hP
          have hD : va_D A (List.flatten [bMo g o a th hi ac tp ba en at2_7 fl2_4 de iD iO tU fm fk fa fc ft ff fb fi]) := hD
          refine W.widen (k := 0) (n := 0) (Nat.le_of_ble_eq_true rfl) (Nat.le_of_ble_eq_true rfl) ?_
          refine W.eq (g2 := F0 m 46 ls [.int q_68]) rfl ?_
          refine lv_bipush (v := 48) hx hb dX12_trustsLine_46 (by decide) ?_
          refine lv_bipush (v := 57) hx hb dX12_trustsLine_48 (by decide) ?_
          have hL48 : (48 : Int32).toInt = 48 := by decide
          have hL57 : (57 : Int32).toInt = 57 := by decide
          refine mcallS' (g := g) (As := [.int q_68, .int 48, .int 57]) (rest := []) St hK hT hA hP hD hS hl.1 [] [0] rfl rfl rfl (m_isIn l g q_68 48 57 ) (va_cwS 3 hts (zgL (zl3 k835 k836 k837) k824) rfl rfl rfl (by decide +kernel) ⟨Nat.le_of_ble_eq_true rfl, Nat.le_of_ble_eq_true rfl⟩) rfl rfl (Nat.le_of_ble_eq_true rfl) dX12_trustsLine_50 ⟨(Nat.le_of_ble_eq_true rfl), (Nat.le_of_ble_eq_true rfl)⟩ (fun q_70 H locs hq71 hP hD hS => ?_)
          replace hq71 : (q_70 = 1 ∧ (48 : Int32).toInt ≤ q_68.toInt ∧ q_68.toInt ≤ (57 : Int32).toInt ∨ q_70 = 0 ∧ (q_68.toInt < (48 : Int32).toInt ∨ (57 : Int32).toInt < q_68.toInt)) := hq71
          have hP : va_P g.1 vwCl (List.flatten [bMo g o a th hi ac tp ba en at2_7 fl2_4 de iD iO tU fm fk fa fc ft ff fb fi]) H := hP
          have hD : va_D A (List.flatten [bMo g o a th hi ac tp ba en at2_7 fl2_4 de iD iO tU fm fk fa fc ft ff fb fi]) := hD
          refine W.widen (k := 0) (n := 0) (Nat.le_of_ble_eq_true rfl) (Nat.le_of_ble_eq_true rfl) ?_
          refine W.eq (g2 := F0 m 53 ls [.int q_70]) rfl ?_
          rcases hq71 with ⟨rfl, hq71_k⟩ | ⟨rfl, hq71_k⟩
          · skip
            refine lv_if_eq (tgt := 62) hx hb dX12_trustsLine_53 (by decide) (fun c72 => absurd c72 (by decide)) (fun _ => ?_)
            refine ziinc3 (n' := 1) (a' := 1) (b' := 401) (lv' := fun v9 => [(3, .int v9), (0, .ref o), (1, .int r_5), (2, .int at2_7)]) hx hb dX12_trustsLine_56 hl (k := 3) rfl (by decide) (fun _ => rfl) (zaddK (i := x_9.toInt) (j := 1) rfl (by decide) i10.1 i10.2 (Int.le_refl _) (Int.le_refl _) (by decide)) (fun x_73 ls hx_73 hl => ?_)
            refine lv_goto (tgt := 21) hx hb dX12_trustsLine_59 (by decide) ?_
            have hl := lv_sub (l' := [(0, .ref o), (1, .int r_5), (2, .int at2_7), (3, .int x_73)]) hl [1, 2, 3, 0] rfl
            have hP : va_P g.1 vwCl (List.flatten [bMo g o a th hi ac tp ba en at2_7 fl2_4 de iD iO tU fm fk fa fc ft ff fb fi]) H := hP
            have hD : va_D A (List.flatten [bMo g o a th hi ac tp ba en at2_7 fl2_4 de iD iO tU fm fk fa fc ft ff fb fi]) := hD
            exact ih21_13 x_73 (by first | omega | assumption | decide) (by first | omega | assumption | decide) H _ ls (by omega)  hP hD hS (lv_sub hl [0, 1, 2, 3] rfl)
          · skip
            refine lv_if_eq (tgt := 62) hx hb dX12_trustsLine_53 (by decide) (fun _ => ?_) (fun c74 => absurd (by decide) c74)
            refine lv_iload_n hx hb dX12_trustsLine_62 rfl (lv_at hl 3 rfl) ?_
            refine lv_aload_n hx hb dX12_trustsLine_63 rfl (lv_at hl 0 rfl) ?_
            refine va_get (D := g.1) (ci := 10) (v := .ref (a 0)) (C := RX12) (T := TX12) (N := 20) hx hb hts izRX12 hown hK hP 0 rfl rfl 1 (by decide) (hts _ k815) (fun _ h9 => h9) rfl dX12_trustsLine_64 ?_
            refine lv_iconst (v := 3) hx hb dX12_trustsLine_67 (by decide) ?_
            refine va_iald hx hb hK hP 1 0 rfl rfl (zin rfl) dX12_trustsLine_68 ?_
            refine zgq (r := fm 3) rfl (rM3 rfm) (fun x_75 hx_75 => ?_)
            refine lv_icmp_eq (tgt := 77) hx hb dX12_trustsLine_69 (by decide) (fun cb9 => ?_) (fun cb9 => ?_)
            · skip
              have c76 : x_9.toInt = x_75.toInt := zeq cb9 rfl rfl
              have n77 : x_9.toInt ≤ 8 := Int.le_trans (Int.le_of_eq c76) hx_75.2.1
              refine lv_aload_n hx hb dX12_trustsLine_77 rfl (lv_at hl 0 rfl) ?_
              refine va_get (D := g.1) (ci := 10) (v := .int fl2_4) (C := RX12) (T := TX12) (N := 20) hx hb hts izRX12 hown hK hP 0 rfl rfl 12 (by decide) (hts _ k820) (fun _ h9 => h9) rfl dX12_trustsLine_78 ?_
              refine lv_iconst (v := (-1)) hx hb dX12_trustsLine_81 (by decide) ?_
              refine lv_icmp_eq (tgt := 86) hx hb dX12_trustsLine_82 (by decide) (fun cb9 => ?_) (fun cb9 => ?_)
              · skip
                have c78 : fl2_4.toInt = (-1) := zeq cb9 rfl (by decide)
                obtain ⟨e80, w79⟩ := hq6_3 c78
                have w81 : 0 ≤ r_5.toInt ∧ r_5.toInt ≤ 7 := by first | exact w79 | omega
                have w82 : 0 ≤ r_5.toInt ∧ r_5.toInt ≤ 7 := by omega
                refine lv_iconst (v := 0) hx hb dX12_trustsLine_86 (by decide) ?_
                refine lv_istore (lv' := [(4, .int 0), (0, .ref o), (1, .int r_5), (2, .int at2_7), (3, .int x_9)]) hx hb dX12_trustsLine_87 hl (by decide) rfl (fun ls hl => ?_)
                have hl := lv_sub (l' := [(0, .ref o), (1, .int r_5), (2, .int at2_7), (3, .int x_9), (4, .int 0)]) hl [1, 2, 3, 4, 0] rfl
                have LP89_86 : ∀ (kf : Nat) (x_83 : Int32) (fm_84 : Nat → Int32), (0 ≤ x_83.toInt ∧ x_83.toInt ≤ 8) → (rM fm_84) → ∀ (H : Heap) (locs : List Loc) (ls : Array Slot), ((9 - x_83.toInt).toNat) < kf → va_P g.1 vwCl (List.flatten [bMo g o a th hi ac tp ba en at2_7 fl2_4 de iD iO tU fm_84 fk fa fc ft ff fb fi]) H → va_D A (List.flatten [bMo g o a th hi ac tp ba en at2_7 fl2_4 de iD iO tU fm_84 fk fa fc ft ff fb fi]) → va_S A s.heap H locs → lv_has ls 5 [(0, .ref o), (1, .int r_5), (2, .int at2_7), (3, .int x_9), (4, .int x_83)] → W p l e ({ frames := 4, cells := 0, slots := 0, locals := 85 } : Room) s m args below meth c H locs (0) (0) (zF g (fun u : Int32 × Int32 × (Nat → Int32) => (fun (at2 : Int32) (fl2 : Int32) (fm2 : Nat → Int32) => none) (u.1) (u.2.1) (u.2.2)) (fun u : Int32 × Int32 × (Nat → Int32) => (fun (at2 : Int32) (fl2 : Int32) (fm2 : Nat → Int32) => (rM fm2) ∧ (0 ≤ at2.toInt ∧ at2.toInt ≤ en.toInt + 7 - de.toInt) ∧ (tA.toInt ≤ at2.toInt) ∧ (-1 ≤ fl2.toInt)) (u.1) (u.2.1) (u.2.2)) (fun u : Int32 × Int32 × (Nat → Int32) => (fun (at2 : Int32) (fl2 : Int32) (fm2 : Nat → Int32) => [bMo g o a th hi ac tp ba en at2 fl2 de iD iO tU fm2 fk fa fc ft ff fb fi]) (u.1) (u.2.1) (u.2.2)) ({ frames := 4, cells := 0, slots := 0, locals := 85 } : Room) below args s A) (F0 m 89 ls []) := by
                  intro kf
                  induction kf with
                  | zero => intro x_83 fm_84 i85 rfm_84 H locs ls hk; exact absurd hk (Nat.not_lt_zero _)
                  | succ kf ih89_87 =>
                    intro x_83 fm_84 i85 rfm_84 H locs ls hk hP hD hS hl
                    refine lv_iload hx hb dX12_trustsLine_89 (lv_at hl 4 rfl) ?_
                    refine lv_iload_n hx hb dX12_trustsLine_91 rfl (lv_at hl 3 rfl) ?_
                    refine lv_icmp_ge (tgt := 127) hx hb dX12_trustsLine_92 (by decide) (fun cb9 => ?_) (fun cb9 => ?_)
                    · skip
                      have c88 : x_9.toInt ≤ x_83.toInt := zle cb9 rfl rfl
                      refine lv_aload_n hx hb dX12_trustsLine_127 rfl (lv_at hl 0 rfl) ?_
                      refine lv_iload_n hx hb dX12_trustsLine_128 rfl (lv_at hl 2 rfl) ?_
                      refine lv_iload_n hx hb dX12_trustsLine_129 rfl (lv_at hl 3 rfl) ?_
                      refine lv_iadd hx hb dX12_trustsLine_130 ?_
                      refine zgv (zadd (i := at2_7.toInt) (j := x_9.toInt) rfl rfl (by omega)) (fun x_89 hx_89 => ?_)
                      refine va_put (D := g.1) (ci := 10) (v := .int x_89) (ty := .int) (C := RX12) (T := TX12) (N := 20) hx hb hts izRX12 tyX12 tyX12_ok nmX12 hown hK hP hD hS 0 rfl rfl 11 (by decide) (hts _ k877) (fun _ h9 => h9) rfl (by decide +kernel) rfl rfl (Nat.le_of_ble_eq_true rfl) dX12_trustsLine_131 (fun H locs hP hD hS => ?_)
                      have hP : va_P g.1 vwCl (List.flatten [bMo g o a th hi ac tp ba en x_89 fl2_4 de iD iO tU fm_84 fk fa fc ft ff fb fi]) H := hP
                      have hD : va_D A (List.flatten [bMo g o a th hi ac tp ba en x_89 fl2_4 de iD iO tU fm_84 fk fa fc ft ff fb fi]) := hD
                      have hP : va_P g.1 vwCl (List.flatten [bMo g o a th hi ac tp ba en x_89 fl2_4 de iD iO tU fm_84 fk fa fc ft ff fb fi]) H := hP
                      have hD : va_D A (List.flatten [bMo g o a th hi ac tp ba en x_89 fl2_4 de iD iO tU fm_84 fk fa fc ft ff fb fi]) := hD
                      exact mret_v hx hb hr hlocks hS (Nat.le_of_ble_eq_true rfl) (Nat.le_of_ble_eq_true rfl) dX12_trustsLine_134 (x_89, fl2_4, fm_84) rfl (show (rM fm_84) ∧ (0 ≤ x_89.toInt ∧ x_89.toInt ≤ en.toInt + 7 - de.toInt) ∧ (tA.toInt ≤ x_89.toInt) ∧ (-1 ≤ fl2_4.toInt) from ⟨(by first | assumption | omega | decide | exact rfl | exact zb01 (by omega) | exact Or.inl (by decide) | exact Or.inr (by first | omega | decide)), (by first | assumption | omega | decide | exact rfl | exact zb01 (by omega) | exact Or.inl (by decide) | exact Or.inr (by first | omega | decide)), (by first | assumption | omega | decide | exact rfl | exact zb01 (by omega) | exact Or.inl (by decide) | exact Or.inr (by first | omega | decide)), (by first | assumption | omega | decide | exact rfl | exact zb01 (by omega) | exact Or.inl (by decide) | exact Or.inr (by first | omega | decide))⟩) hP hD
                    · skip
                      have c90 : x_83.toInt < x_9.toInt := zlti (Int32.not_le.mp cb9) rfl rfl
                      have n91 : x_83.toInt ≤ 7 := zL1 (b := 8) c90 n77 (by decide)
                      have n92 : 1 ≤ x_9.toInt := zL2 (a := 0) c90 i85.1 (by decide)
                      refine lv_aload_n hx hb dX12_trustsLine_95 rfl (lv_at hl 0 rfl) ?_
                      refine va_get (D := g.1) (ci := 10) (v := .ref (a 0)) (C := RX12) (T := TX12) (N := 20) hx hb hts izRX12 hown hK hP 0 rfl rfl 1 (by decide) (hts _ k815) (fun _ h9 => h9) rfl dX12_trustsLine_96 ?_
                      refine lv_bipush (v := 51) hx hb dX12_trustsLine_99 (by decide) ?_
                      refine lv_bipush (v := 8) hx hb dX12_trustsLine_101 (by decide) ?_
                      refine lv_iload_n hx hb dX12_trustsLine_103 rfl (lv_at hl 1 rfl) ?_
                      refine lv_imul hx hb dX12_trustsLine_104 ?_
                      refine zg3 (zmulKL (i := r_5.toInt) (n := 8) (a' := 0) (b' := 56) rfl (by decide) w82.1 w82.2 (by decide) (by decide)) (fun x_93 hx_93 => ?_)
                      refine lv_iadd hx hb dX12_trustsLine_105 ?_
                      refine zg3 (zaddK (i := 51) (j := x_93.toInt) (a' := 51) (b' := 107) (by decide) rfl (Int.le_refl _) (Int.le_refl _) hx_93.2.1 hx_93.2.2 (by decide)) (fun x_94 hx_94 => ?_)
                      refine lv_iload hx hb dX12_trustsLine_106 (lv_at hl 4 rfl) ?_
                      refine lv_iadd hx hb dX12_trustsLine_108 ?_
                      refine zg3 (zaddK (i := x_94.toInt) (j := x_83.toInt) (a' := 51) (b' := 114) rfl rfl hx_94.2.1 hx_94.2.2 i85.1 n91 (by decide)) (fun x_95 hx_95 => ?_)
                      refine lv_aload_n hx hb dX12_trustsLine_109 rfl (lv_at hl 0 rfl) ?_
                      refine lv_iload_n hx hb dX12_trustsLine_110 rfl (lv_at hl 2 rfl) ?_
                      refine lv_iload hx hb dX12_trustsLine_111 (lv_at hl 4 rfl) ?_
                      refine lv_iadd hx hb dX12_trustsLine_113 ?_
                      refine zgv (zadd (i := at2_7.toInt) (j := x_83.toInt) rfl rfl (by omega)) (fun x_96 hx_96 => ?_)
                      refine mcallV' (g := g) (q0 := 0) (ci := 10) (As := [.int x_96]) (rest := [.int x_95, .ref (a 0)]) St hK hT hA hP hD hS hl.1 [0] [] rfl rfl rfl (m_letter l g o a th hi ac tp ba en at2_7 fl2_4 de iD iO tU fm_84 fk fa fc ft ff fb fi x_96 (by first | assumption | omega | decide | exact Or.inl (by decide) | exact Or.inr (by decide)) (by first | assumption | omega | decide | exact Or.inl (by decide) | exact Or.inr (by decide))) (cwV 1 hts (zgL (zl4 k879 k880 k881 k837) k874) rfl rfl rfl (by decide +kernel) ⟨Nat.le_of_ble_eq_true rfl, Nat.le_of_ble_eq_true rfl⟩) rfl rfl rfl rfl (Nat.le_of_ble_eq_true rfl) dX12_trustsLine_114 ⟨(Nat.le_of_ble_eq_true rfl), (Nat.le_of_ble_eq_true rfl)⟩ (fun q_97 H locs hq98 hP hD hS => ?_)
                      have hP : va_P g.1 vwCl (List.flatten [bMo g o a th hi ac tp ba en at2_7 fl2_4 de iD iO tU fm_84 fk fa fc ft ff fb fi]) H := hP
                      have hD : va_D A (List.flatten [bMo g o a th hi ac tp ba en at2_7 fl2_4 de iD iO tU fm_84 fk fa fc ft ff fb fi]) := hD
                      refine W.widen (k := 0) (n := 0) (Nat.le_of_ble_eq_true rfl) (Nat.le_of_ble_eq_true rfl) ?_
                      refine W.eq (g2 := F0 m 117 ls [.int q_97, .int x_95, .ref (a 0)]) rfl ?_
                      refine lv_bipush (v := 48) hx hb dX12_trustsLine_117 (by decide) ?_
                      refine lv_isub hx hb dX12_trustsLine_119 ?_
                      refine zg (fun x_99 => ?_)
                      refine va_iast hx hb hK hP hD hS 1 0 rfl rfl (zinK (a := 51) (b := 114) hx_95.2.1 hx_95.2.2 (by decide)) dX12_trustsLine_120 (fun H locs hP hD hS => ?_)
                      obtain ⟨fm_100, rfm_100, hkfm_100, hP, hD⟩ : ∃ fm_100 : Nat → Int32, rM fm_100 ∧ ((fm_100 3).toInt = (fm_84 3).toInt ∧ (fm_100 4).toInt = (fm_84 4).toInt) ∧ va_P g.1 vwCl (List.flatten [bMo g o a th hi ac tp ba en at2_7 fl2_4 de iD iO tU fm_100 fk fa fc ft ff fb fi]) H ∧ va_D A (List.flatten [bMo g o a th hi ac tp ba en at2_7 fl2_4 de iD iO tU fm_100 fk fa fc ft ff fb fi]) := ⟨upd fm_84 x_95.toNatClampNeg x_99, (rM_stB rfm_84 (Int.le_trans (by decide) hx_95.2.1)), (rM_kp (j := x_95.toInt) rfl (Int.le_trans (by decide) hx_95.2.1)), hP, hD⟩
                      refine ziinc3 (n' := 1) (a' := 1) (b' := 8) (lv' := fun v9 => [(4, .int v9), (0, .ref o), (1, .int r_5), (2, .int at2_7), (3, .int x_9)]) hx hb dX12_trustsLine_121 hl (k := 4) rfl (by decide) (fun _ => rfl) (zaddK (i := x_83.toInt) (j := 1) rfl (by decide) i85.1 n91 (Int.le_refl _) (Int.le_refl _) (by decide)) (fun x_101 ls hx_101 hl => ?_)
                      refine lv_goto (tgt := 89) hx hb dX12_trustsLine_124 (by decide) ?_
                      have hl := lv_sub (l' := [(0, .ref o), (1, .int r_5), (2, .int at2_7), (3, .int x_9), (4, .int x_101)]) hl [1, 2, 3, 4, 0] rfl
                      have hP : va_P g.1 vwCl (List.flatten [bMo g o a th hi ac tp ba en at2_7 fl2_4 de iD iO tU fm_100 fk fa fc ft ff fb fi]) H := hP
                      have hD : va_D A (List.flatten [bMo g o a th hi ac tp ba en at2_7 fl2_4 de iD iO tU fm_100 fk fa fc ft ff fb fi]) := hD
                      exact ih89_87 x_101 fm_100 ⟨(Int.le_trans (by decide) hx_101.2.1), hx_101.2.2⟩ rfm_100 H _ ls (by omega)  hP hD hS (lv_sub hl [0, 1, 2, 3, 4] rfl)
                have hP : va_P g.1 vwCl (List.flatten [bMo g o a th hi ac tp ba en at2_7 fl2_4 de iD iO tU fm fk fa fc ft ff fb fi]) H := hP
                have hD : va_D A (List.flatten [bMo g o a th hi ac tp ba en at2_7 fl2_4 de iD iO tU fm fk fa fc ft ff fb fi]) := hD
                exact LP89_86 _ 0 fm (by decide) rfm H _ ls (Nat.lt_succ_self _)  hP hD hS (lv_sub hl [0, 1, 2, 3, 4] rfl)
              · skip
                exact absurd (show ¬ fl2_4.toInt = (-1) from zne cb9 rfl (by decide)) (by omega)
            · skip
              have c103 : ¬ x_9.toInt = x_75.toInt := zne cb9 rfl rfl
              refine lv_aload_n hx hb dX12_trustsLine_72 rfl (lv_at hl 0 rfl) ?_
              refine lv_iload_n hx hb dX12_trustsLine_73 rfl (lv_at hl 2 rfl) ?_
              refine mcallV' (g := g) (q0 := 0) (ci := 10) (As := [.int at2_7]) (rest := []) St hK hT hA hP hD hS hl.1 [0] [] rfl rfl rfl (m_wrong l g o a th hi ac tp ba en at2_7 fl2_4 de iD iO tU fm fk fa fc ft ff fb fi at2_7 (by first | assumption | omega | decide | exact Or.inl (by decide) | exact Or.inr (by decide)) (by first | assumption | omega | decide | exact Or.inl (by decide) | exact Or.inr (by decide))) (cwV 1 hts (zgL (zl4 k894 k895 k896 k837) k889) rfl rfl rfl (by decide +kernel) ⟨Nat.le_of_ble_eq_true rfl, Nat.le_of_ble_eq_true rfl⟩) rfl rfl rfl rfl (Nat.le_of_ble_eq_true rfl) dX12_trustsLine_74 ⟨(Nat.le_of_ble_eq_true rfl), (Nat.le_of_ble_eq_true rfl)⟩ (fun fl2_104 H locs hq105 hP hD hS => ?_)
              replace hq105 : (0 ≤ fl2_104.toInt) := hq105
              have hP : va_P g.1 vwCl (List.flatten [bMo g o a th hi ac tp ba en at2_7 fl2_104 de iD iO tU fm fk fa fc ft ff fb fi]) H := hP
              have hD : va_D A (List.flatten [bMo g o a th hi ac tp ba en at2_7 fl2_104 de iD iO tU fm fk fa fc ft ff fb fi]) := hD
              refine W.widen (k := 0) (n := 0) (Nat.le_of_ble_eq_true rfl) (Nat.le_of_ble_eq_true rfl) ?_
              refine W.eq (g2 := F0 m 77 ls []) rfl ?_
              refine lv_aload_n hx hb dX12_trustsLine_77 rfl (lv_at hl 0 rfl) ?_
              refine va_get (D := g.1) (ci := 10) (v := .int fl2_104) (C := RX12) (T := TX12) (N := 20) hx hb hts izRX12 hown hK hP 0 rfl rfl 12 (by decide) (hts _ k820) (fun _ h9 => h9) rfl dX12_trustsLine_78 ?_
              refine lv_iconst (v := (-1)) hx hb dX12_trustsLine_81 (by decide) ?_
              refine lv_icmp_eq (tgt := 86) hx hb dX12_trustsLine_82 (by decide) (fun cb9 => ?_) (fun cb9 => ?_)
              · skip
                exact absurd (show fl2_104.toInt = (-1) from zeq cb9 rfl (by decide)) (zDeq2 (a := 0) (b := (-1)) hq105 (Int.le_refl _) (by decide))
              · skip
                have c107 : ¬ fl2_104.toInt = (-1) := zne cb9 rfl (by decide)
                have hP : va_P g.1 vwCl (List.flatten [bMo g o a th hi ac tp ba en at2_7 fl2_104 de iD iO tU fm fk fa fc ft ff fb fi]) H := hP
                have hD : va_D A (List.flatten [bMo g o a th hi ac tp ba en at2_7 fl2_104 de iD iO tU fm fk fa fc ft ff fb fi]) := hD
                exact mret_v hx hb hr hlocks hS (Nat.le_of_ble_eq_true rfl) (Nat.le_of_ble_eq_true rfl) dX12_trustsLine_85 (at2_7, fl2_104, fm) rfl (show (rM fm) ∧ (0 ≤ at2_7.toInt ∧ at2_7.toInt ≤ en.toInt + 7 - de.toInt) ∧ (tA.toInt ≤ at2_7.toInt) ∧ (-1 ≤ fl2_104.toInt) from ⟨(by first | assumption | omega | decide | exact rfl | exact zb01 (by omega) | exact Or.inl (by decide) | exact Or.inr (by first | omega | decide)), (by first | assumption | omega | decide | exact rfl | exact zb01 (by omega) | exact Or.inl (by decide) | exact Or.inr (by first | omega | decide)), (by first | assumption | omega | decide | exact rfl | exact zb01 (by omega) | exact Or.inl (by decide) | exact Or.inr (by first | omega | decide)), (by first | assumption | omega | decide | exact rfl | exact zb01 (by omega) | exact Or.inl (by decide) | exact Or.inr (by first | omega | decide))⟩) hP hD
  have hP : va_P g.1 vwCl (List.flatten [bMo g o a th hi ac tp ba en at2_7 fl2_4 de iD iO tU fm fk fa fc ft ff fb fi]) H := hP
  have hD : va_D A (List.flatten [bMo g o a th hi ac tp ba en at2_7 fl2_4 de iD iO tU fm fk fa fc ft ff fb fi]) := hD
  exact LP21_12 _ 0 (by decide) (by first | omega | assumption | decide) H _ ls (Nat.lt_succ_self _)  hP hD hS (lv_sub hl [0, 1, 2, 3] rfl)
