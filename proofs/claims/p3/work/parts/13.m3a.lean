set_option maxRecDepth 100000 in
set_option maxHeartbeats 4000000 in
theorem m_personLine (l : Launch) (g : zG) (o : Nat) (a : Nat → Nat) (th : Int32) (hi : Int32) (ac : Int32) (tp : Int32) (ba : Int32) (en : Int32) (tA : Int32) (fl : Int32) (de : Int32) (iD : Int32) (iO : Int32) (tU : Int32) (fm : Nat → Int32) (fk : Nat → Int32) (fa : Nat → Int32) (fc : Nat → Int32) (ft : Nat → Int32) (ff : Nat → Int32) (fb : Nat → Int32) (fi : Nat → Int32) (b0 : Int32) (rfm : rM fm) (hba : zBa ba.toInt) (hen : 0 ≤ en.toInt ∧ en.toInt ≤ 400) (htA : 0 ≤ tA.toInt ∧ tA.toInt ≤ en.toInt + 7 - de.toInt) (hfl : -1 ≤ fl.toInt) (hde : 0 ≤ de.toInt ∧ de.toInt ≤ 6) (hb0 : 0 ≤ b0.toInt) : zM' g l yX12_personLine (Cond.code yX12_personLine cX12_personLine 6 none :: zB) ({ frames := 6, cells := 0, slots := 0, locals := 131 } : Room) [.ref o, .int b0] [bMo g o a th hi ac tp ba en tA fl de iD iO tU fm fk fa fc ft ff fb fi] (fun u : Int32 × Int32 × (Nat → Int32) => (fun (at2 : Int32) (fl2 : Int32) (fm2 : Nat → Int32) => none) (u.1) (u.2.1) (u.2.2)) (fun u : Int32 × Int32 × (Nat → Int32) => (fun (at2 : Int32) (fl2 : Int32) (fm2 : Nat → Int32) => (rM fm2) ∧ (0 ≤ at2.toInt ∧ at2.toInt ≤ en.toInt + 7 - de.toInt) ∧ (tA.toInt ≤ at2.toInt) ∧ (-1 ≤ fl2.toInt)) (u.1) (u.2.1) (u.2.2)) (fun u : Int32 × Int32 × (Nat → Int32) => (fun (at2 : Int32) (fl2 : Int32) (fm2 : Nat → Int32) => [bMo g o a th hi ac tp ba en at2 fl2 de iD iO tU fm2 fk fa fc ft ff fb fi]) (u.1) (u.2.1) (u.2.2)) := by
  refine zM'.of (cc := cX12_personLine) (maxL := 6) (rt := none) (by decide) rfl (Nat.le_of_ble_eq_true rfl) ?_
  intro p e s m args below meth c A ls St hr hlocks hin hK hT hA hP hD hS hl
  obtain ⟨hx, hb, hml, hown, hts⟩ := id St
  have hl : lv_has ls 6 [(0, .ref o), (1, .int b0)] := hl
  refine lv_aload_n hx hb dX12_personLine_0 rfl (lv_at hl 0 rfl) ?_
  refine va_get (D := g.1) (ci := 10) (v := .ref (a 0)) (C := RX12) (T := TX12) (N := 20) hx hb hts izRX12 hown hK hP 0 rfl rfl 1 (by decide) (hts _ k815) (fun _ h9 => h9) rfl dX12_personLine_1 ?_
  refine lv_iconst (v := 3) hx hb dX12_personLine_4 (by decide) ?_
  refine va_iald hx hb hK hP 1 0 rfl rfl (zin rfl) dX12_personLine_5 ?_
  refine zgq (r := fm 3) rfl (rM3 rfm) (fun x_1 hx_1 => ?_)
  refine lv_bipush (v := 8) hx hb dX12_personLine_6 (by decide) ?_
  refine lv_icmp_ne (tgt := 16) hx hb dX12_personLine_8 (by decide) (fun cb9 => ?_) (fun cb9 => ?_)
  · skip
    have c2 : ¬ x_1.toInt = 8 := zne cb9 rfl (by decide)
    have n3 : x_1.toInt ≤ 7 := zN2 c2 hx_1.2.1 (by decide)
    refine lv_aload_n hx hb dX12_personLine_16 rfl (lv_at hl 0 rfl) ?_
    refine lv_iconst (v := 0) hx hb dX12_personLine_17 (by decide) ?_
    refine lv_bipush (v := 99) hx hb dX12_personLine_18 (by decide) ?_
    have hL0 : (0 : Int32).toInt = 0 := by decide
    have hL99 : (99 : Int32).toInt = 99 := by decide
    refine mcallV' (g := g) (q0 := 0) (ci := 10) (As := [.int 0, .int 99]) (rest := []) St hK hT hA hP hD hS hl.1 [0] [] rfl rfl rfl (m_figures l g o a th hi ac tp ba en tA fl de iD iO tU fm fk fa fc ft ff fb fi 0 99 (by first | assumption | omega | decide | exact Or.inl (by decide) | exact Or.inr (by decide)) (⟨hen.1, hen.2⟩) (by first | assumption | omega | decide | exact Or.inl (by decide) | exact Or.inr (by decide)) (by first | assumption | omega | decide | exact Or.inl (by decide) | exact Or.inr (by decide)) (⟨hde.1, hde.2⟩)) (cwV 2 hts (zgL (zl4 k901 k902 k903 k837) k897) rfl rfl rfl (by decide +kernel) ⟨Nat.le_of_ble_eq_true rfl, Nat.le_of_ble_eq_true rfl⟩) rfl rfl rfl rfl (Nat.le_of_ble_eq_true rfl) dX12_personLine_20 ⟨(Nat.le_of_ble_eq_true rfl), (Nat.le_of_ble_eq_true rfl)⟩ (fun u_ H locs hq7 hP hD hS => ?_)
    obtain ⟨at2_4, fl2_5, r_6⟩ := u_
    replace hq7 : (0 ≤ at2_4.toInt ∧ at2_4.toInt ≤ en.toInt + 7 - de.toInt) ∧ (tA.toInt ≤ at2_4.toInt) ∧ (-1 ≤ fl2_5.toInt) ∧ (zImp (fl2_5.toInt = -1) (fl.toInt = -1 ∧ (0 : Int32).toInt ≤ r_6.toInt ∧ r_6.toInt ≤ (99 : Int32).toInt)) := hq7
    have hP : va_P g.1 vwCl (List.flatten [bMo g o a th hi ac tp ba en at2_4 fl2_5 de iD iO tU fm fk fa fc ft ff fb fi]) H := hP
    have hD : va_D A (List.flatten [bMo g o a th hi ac tp ba en at2_4 fl2_5 de iD iO tU fm fk fa fc ft ff fb fi]) := hD
    refine W.widen (k := 0) (n := 0) (Nat.le_of_ble_eq_true rfl) (Nat.le_of_ble_eq_true rfl) ?_
    refine W.eq (g2 := F0 m 23 ls [.int r_6]) rfl ?_
    obtain ⟨hq7_0, hq7_1, hq7_2, hq7_3⟩ := hq7
    refine lv_istore_n (lv' := [(2, .int r_6), (0, .ref o), (1, .int b0)]) hx hb dX12_personLine_23 rfl hl (by decide) rfl (fun ls hl => ?_)
    refine lv_aload_n hx hb dX12_personLine_24 rfl (lv_at hl 1 rfl) ?_
    refine va_ldcS (q := g.2 62) hx hb hown (zra26 hT.2.1) dX12_personLine_25 ?_
    refine lv_iconst (v := 0) hx hb dX12_personLine_27 (by decide) ?_
    refine lv_sipush (v := 999) hx hb dX12_personLine_28 (by decide) ?_
    have hL999 : (999 : Int32).toInt = 999 := by decide
    refine mcallV' (g := g) (q0 := 0) (ci := 10) (As := [.ref (g.2 62), .int 0, .int 999]) (rest := []) St hK hT hA hP hD hS hl.1 [0] [] rfl rfl rfl (m_after l g o a th hi ac tp ba en at2_4 fl2_5 de iD iO tU fm fk fa fc ft ff fb fi 0 999 (g.2 62) 26 zqa26 (by first | assumption | omega | decide | exact Or.inl (by decide) | exact Or.inr (by decide)) (⟨hen.1, hen.2⟩) (by first | assumption | omega | decide | exact Or.inl (by decide) | exact Or.inr (by decide)) (by first | assumption | omega | decide | exact Or.inl (by decide) | exact Or.inr (by decide)) (⟨hde.1, hde.2⟩) rfl zla26 zna26) (cwV 3 hts (zgL (zl4 k905 k906 k907 k837) k904) rfl rfl rfl (by decide +kernel) ⟨Nat.le_of_ble_eq_true rfl, Nat.le_of_ble_eq_true rfl⟩) rfl rfl rfl rfl (Nat.le_of_ble_eq_true rfl) dX12_personLine_31 ⟨(Nat.le_of_ble_eq_true rfl), (Nat.le_of_ble_eq_true rfl)⟩ (fun u_ H locs hq11 hP hD hS => ?_)
    obtain ⟨at2_8, fl2_9, r_10⟩ := u_
    replace hq11 : (0 ≤ at2_8.toInt ∧ at2_8.toInt ≤ en.toInt + 7 - de.toInt) ∧ (at2_4.toInt ≤ at2_8.toInt) ∧ (-1 ≤ fl2_9.toInt) ∧ (zImp (fl2_9.toInt = -1) (fl2_5.toInt = -1 ∧ (0 : Int32).toInt ≤ r_10.toInt ∧ r_10.toInt ≤ (999 : Int32).toInt)) := hq11
    have hP : va_P g.1 vwCl (List.flatten [bMo g o a th hi ac tp ba en at2_8 fl2_9 de iD iO tU fm fk fa fc ft ff fb fi]) H := hP
    have hD : va_D A (List.flatten [bMo g o a th hi ac tp ba en at2_8 fl2_9 de iD iO tU fm fk fa fc ft ff fb fi]) := hD
    refine W.widen (k := 0) (n := 0) (Nat.le_of_ble_eq_true rfl) (Nat.le_of_ble_eq_true rfl) ?_
    refine W.eq (g2 := F0 m 34 ls [.int r_10]) rfl ?_
    obtain ⟨hq11_0, hq11_1, hq11_2, hq11_3⟩ := hq11
    refine lv_istore_n (lv' := [(3, .int r_10), (2, .int r_6), (0, .ref o), (1, .int b0)]) hx hb dX12_personLine_34 rfl hl (by decide) rfl (fun ls hl => ?_)
    refine lv_aload_n hx hb dX12_personLine_35 rfl (lv_at hl 2 rfl) ?_
    refine va_get (D := g.1) (ci := 10) (v := .int fl2_9) (C := RX12) (T := TX12) (N := 20) hx hb hts izRX12 hown hK hP 0 rfl rfl 12 (by decide) (hts _ k820) (fun _ h9 => h9) rfl dX12_personLine_36 ?_
    refine lv_iconst (v := (-1)) hx hb dX12_personLine_39 (by decide) ?_
    refine lv_icmp_ne (tgt := 56) hx hb dX12_personLine_40 (by decide) (fun cb9 => ?_) (fun cb9 => ?_)
    · skip
      have c12 : ¬ fl2_9.toInt = (-1) := zne cb9 rfl (by decide)
      refine lv_iconst (v := 0) hx hb dX12_personLine_56 (by decide) ?_
      refine lv_istore (lv' := [(4, .int 0), (3, .int r_10), (2, .int r_6), (0, .ref o), (1, .int b0)]) hx hb dX12_personLine_57 hl (by decide) rfl (fun ls hl => ?_)
      refine lv_aload_n hx hb dX12_personLine_59 rfl (lv_at hl 3 rfl) ?_
      refine va_get (D := g.1) (ci := 10) (v := .int fl2_9) (C := RX12) (T := TX12) (N := 20) hx hb hts izRX12 hown hK hP 0 rfl rfl 12 (by decide) (hts _ k820) (fun _ h9 => h9) rfl dX12_personLine_60 ?_
      refine lv_iconst (v := (-1)) hx hb dX12_personLine_63 (by decide) ?_
      refine lv_icmp_eq (tgt := 68) hx hb dX12_personLine_64 (by decide) (fun cb9 => ?_) (fun cb9 => ?_)
      · skip
        exact absurd (show fl2_9.toInt = (-1) from zeq cb9 rfl (by decide)) (by omega)
      · skip
        have c14 : ¬ fl2_9.toInt = (-1) := zne cb9 rfl (by decide)
        have hP : va_P g.1 vwCl (List.flatten [bMo g o a th hi ac tp ba en at2_8 fl2_9 de iD iO tU fm fk fa fc ft ff fb fi]) H := hP
        have hD : va_D A (List.flatten [bMo g o a th hi ac tp ba en at2_8 fl2_9 de iD iO tU fm fk fa fc ft ff fb fi]) := hD
        exact mret_v hx hb hr hlocks hS (Nat.le_of_ble_eq_true rfl) (Nat.le_of_ble_eq_true rfl) dX12_personLine_67 (at2_8, fl2_9, fm) rfl (show (rM fm) ∧ (0 ≤ at2_8.toInt ∧ at2_8.toInt ≤ en.toInt + 7 - de.toInt) ∧ (tA.toInt ≤ at2_8.toInt) ∧ (-1 ≤ fl2_9.toInt) from ⟨(by first | assumption | omega | decide | exact rfl | exact zb01 (by omega) | exact Or.inl (by decide) | exact Or.inr (by first | omega | decide)), (by first | assumption | omega | decide | exact rfl | exact zb01 (by omega) | exact Or.inl (by decide) | exact Or.inr (by first | omega | decide)), (by first | assumption | omega | decide | exact rfl | exact zb01 (by omega) | exact Or.inl (by decide) | exact Or.inr (by first | omega | decide)), (by first | assumption | omega | decide | exact rfl | exact zb01 (by omega) | exact Or.inl (by decide) | exact Or.inr (by first | omega | decide))⟩) hP hD
    · skip
      have c15 : fl2_9.toInt = (-1) := zeq cb9 rfl (by decide)
      have n16 : fl2_9.toInt ≤ (-1) := Int.le_trans (Int.le_of_eq c15) (Int.le_refl _)
      obtain ⟨e18, w17⟩ := hq11_3 c15
      have w19 : 0 ≤ r_10.toInt ∧ r_10.toInt ≤ 999 := by first | exact w17 | omega
      obtain ⟨e21, w20⟩ := hq7_3 e18
      have w22 : 0 ≤ r_6.toInt ∧ r_6.toInt ≤ 99 := by first | exact w20 | omega
      refine lv_aload_n hx hb dX12_personLine_43 rfl (lv_at hl 2 rfl) ?_
      refine va_ldcS (q := g.2 64) hx hb hown (zra27 hT.2.1) dX12_personLine_44 ?_
      refine mcallV' (g := g) (q0 := 0) (ci := 10) (As := [.ref (g.2 64)]) (rest := []) St hK hT hA hP hD hS hl.1 [0] [] rfl rfl rfl (m_has l g o a th hi ac tp ba en at2_8 fl2_9 de iD iO tU fm fk fa fc ft ff fb fi (g.2 64) 27 zqa27 (by first | assumption | omega | decide | exact Or.inl (by decide) | exact Or.inr (by decide)) (⟨hen.1, hen.2⟩) (by first | assumption | omega | decide | exact Or.inl (by decide) | exact Or.inr (by decide)) (by first | assumption | omega | decide | exact Or.inl (by decide) | exact Or.inr (by decide)) (⟨hde.1, hde.2⟩) rfl zla27 zna27) (cwV 1 hts (zgL (zl4 k898 k899 k900 k837) k888) rfl rfl rfl (by decide +kernel) ⟨Nat.le_of_ble_eq_true rfl, Nat.le_of_ble_eq_true rfl⟩) rfl rfl rfl rfl (Nat.le_of_ble_eq_true rfl) dX12_personLine_46 ⟨(Nat.le_of_ble_eq_true rfl), (Nat.le_of_ble_eq_true rfl)⟩ (fun u_ H locs hq25 hP hD hS => ?_)
      obtain ⟨at2_23, r_24⟩ := u_
      replace hq25 : (0 ≤ at2_23.toInt ∧ at2_23.toInt ≤ en.toInt + 7 - de.toInt) ∧ (at2_8.toInt ≤ at2_23.toInt) ∧ (r_24 = 1 ∧ at2_8.toInt < at2_23.toInt ∧ at2_23.toInt ≤ en.toInt ∨ r_24 = 0) := hq25
      have hP : va_P g.1 vwCl (List.flatten [bMo g o a th hi ac tp ba en at2_23 fl2_9 de iD iO tU fm fk fa fc ft ff fb fi]) H := hP
      have hD : va_D A (List.flatten [bMo g o a th hi ac tp ba en at2_23 fl2_9 de iD iO tU fm fk fa fc ft ff fb fi]) := hD
      refine W.widen (k := 0) (n := 0) (Nat.le_of_ble_eq_true rfl) (Nat.le_of_ble_eq_true rfl) ?_
      refine W.eq (g2 := F0 m 49 ls [.int r_24]) rfl ?_
      obtain ⟨hq25_0, hq25_1, hq25_2⟩ := hq25
      rcases hq25_2 with ⟨rfl, hq25_k⟩ | rfl
      · skip
        refine lv_if_eq (tgt := 56) hx hb dX12_personLine_49 (by decide) (fun c26 => absurd c26 (by decide)) (fun _ => ?_)
        refine lv_iconst (v := 1) hx hb dX12_personLine_52 (by decide) ?_
        refine lv_goto (tgt := 57) hx hb dX12_personLine_53 (by decide) ?_
        refine lv_istore (lv' := [(4, .int 1), (3, .int r_10), (2, .int r_6), (0, .ref o), (1, .int b0)]) hx hb dX12_personLine_57 hl (by decide) rfl (fun ls hl => ?_)
        refine lv_aload_n hx hb dX12_personLine_59 rfl (lv_at hl 3 rfl) ?_
        refine va_get (D := g.1) (ci := 10) (v := .int fl2_9) (C := RX12) (T := TX12) (N := 20) hx hb hts izRX12 hown hK hP 0 rfl rfl 12 (by decide) (hts _ k820) (fun _ h9 => h9) rfl dX12_personLine_60 ?_
        refine lv_iconst (v := (-1)) hx hb dX12_personLine_63 (by decide) ?_
        refine lv_icmp_eq (tgt := 68) hx hb dX12_personLine_64 (by decide) (fun cb9 => ?_) (fun cb9 => ?_)
        · skip
          have c27 : fl2_9.toInt = (-1) := zeq cb9 rfl (by decide)
          obtain ⟨e29, w28⟩ := hq11_3 c27
          have w30 : 0 ≤ r_10.toInt ∧ r_10.toInt ≤ 999 := by first | exact w28 | omega
          obtain ⟨e32, w31⟩ := hq7_3 e29
          have w33 : 0 ≤ r_6.toInt ∧ r_6.toInt ≤ 99 := by first | exact w31 | omega
          refine lv_aload_n hx hb dX12_personLine_68 rfl (lv_at hl 3 rfl) ?_
          refine va_get (D := g.1) (ci := 10) (v := .ref (a 0)) (C := RX12) (T := TX12) (N := 20) hx hb hts izRX12 hown hK hP 0 rfl rfl 1 (by decide) (hts _ k815) (fun _ h9 => h9) rfl dX12_personLine_69 ?_
          refine lv_iconst (v := 3) hx hb dX12_personLine_72 (by decide) ?_
          refine va_iald hx hb hK hP 1 0 rfl rfl (zin rfl) dX12_personLine_73 ?_
          refine zgq (r := fm 3) rfl (rM3 rfm) (fun x_34 hx_34 => ?_)
          refine lv_istore (lv' := [(5, .int x_34), (4, .int 1), (3, .int r_10), (2, .int r_6), (0, .ref o), (1, .int b0)]) hx hb dX12_personLine_74 hl (by decide) rfl (fun ls hl => ?_)
          have w35 : 0 ≤ x_34.toInt ∧ x_34.toInt ≤ 7 := by omega
          refine lv_aload_n hx hb dX12_personLine_76 rfl (lv_at hl 4 rfl) ?_
          refine lv_iload hx hb dX12_personLine_77 (lv_at hl 0 rfl) ?_
          refine lv_iconst (v := 0) hx hb dX12_personLine_79 (by decide) ?_
          refine lv_iload_n hx hb dX12_personLine_80 rfl (lv_at hl 3 rfl) ?_
          refine mcallV' (g := g) (q0 := 0) (ci := 10) (As := [.int x_34, .int 0, .int r_6]) (rest := []) St hK hT hA hP hD hS hl.1 [0] [] rfl rfl rfl (m_put l g o a th hi ac tp ba en at2_23 fl2_9 de iD iO tU fm fk fa fc ft ff fb fi x_34 0 r_6 (by first | assumption | omega | decide | exact Or.inl (by decide) | exact Or.inr (by decide)) (⟨w35.1, w35.2⟩) (by decide)) (cwV 3 hts (zgL (zl4 k908 k909 k910 k837) k830) rfl rfl rfl (by decide +kernel) ⟨Nat.le_of_ble_eq_true rfl, Nat.le_of_ble_eq_true rfl⟩) rfl rfl rfl rfl (Nat.le_of_ble_eq_true rfl) dX12_personLine_81 ⟨(Nat.le_of_ble_eq_true rfl), (Nat.le_of_ble_eq_true rfl)⟩ (fun fm2_36 H locs hq37 hP hD hS => ?_)
          replace hq37 : (rM fm2_36) ∧ ((fm2_36 3).toInt = (fm 3).toInt ∧ (fm2_36 4).toInt = (fm 4).toInt) := hq37
          have hP : va_P g.1 vwCl (List.flatten [bMo g o a th hi ac tp ba en at2_23 fl2_9 de iD iO tU fm2_36 fk fa fc ft ff fb fi]) H := hP
          have hD : va_D A (List.flatten [bMo g o a th hi ac tp ba en at2_23 fl2_9 de iD iO tU fm2_36 fk fa fc ft ff fb fi]) := hD
          refine W.widen (k := 0) (n := 0) (Nat.le_of_ble_eq_true rfl) (Nat.le_of_ble_eq_true rfl) ?_
          refine W.eq (g2 := F0 m 84 ls []) rfl ?_
          obtain ⟨rfm2_36, hq37_1⟩ := hq37
          refine lv_aload_n hx hb dX12_personLine_84 rfl (lv_at hl 4 rfl) ?_
          refine lv_iload hx hb dX12_personLine_85 (lv_at hl 0 rfl) ?_
          refine lv_iconst (v := 1) hx hb dX12_personLine_87 (by decide) ?_
          refine lv_iload_n hx hb dX12_personLine_88 rfl (lv_at hl 2 rfl) ?_
          have hL1 : (1 : Int32).toInt = 1 := by decide
          refine mcallV' (g := g) (q0 := 0) (ci := 10) (As := [.int x_34, .int 1, .int r_10]) (rest := []) St hK hT hA hP hD hS hl.1 [0] [] rfl rfl rfl (m_put l g o a th hi ac tp ba en at2_23 fl2_9 de iD iO tU fm2_36 fk fa fc ft ff fb fi x_34 1 r_10 (by first | assumption | omega | decide | exact Or.inl (by decide) | exact Or.inr (by decide)) (⟨w35.1, w35.2⟩) (by decide)) (cwV 3 hts (zgL (zl4 k908 k909 k910 k837) k830) rfl rfl rfl (by decide +kernel) ⟨Nat.le_of_ble_eq_true rfl, Nat.le_of_ble_eq_true rfl⟩) rfl rfl rfl rfl (Nat.le_of_ble_eq_true rfl) dX12_personLine_89 ⟨(Nat.le_of_ble_eq_true rfl), (Nat.le_of_ble_eq_true rfl)⟩ (fun fm2_38 H locs hq39 hP hD hS => ?_)
          replace hq39 : (rM fm2_38) ∧ ((fm2_38 3).toInt = (fm2_36 3).toInt ∧ (fm2_38 4).toInt = (fm2_36 4).toInt) := hq39
          have hP : va_P g.1 vwCl (List.flatten [bMo g o a th hi ac tp ba en at2_23 fl2_9 de iD iO tU fm2_38 fk fa fc ft ff fb fi]) H := hP
          have hD : va_D A (List.flatten [bMo g o a th hi ac tp ba en at2_23 fl2_9 de iD iO tU fm2_38 fk fa fc ft ff fb fi]) := hD
          refine W.widen (k := 0) (n := 0) (Nat.le_of_ble_eq_true rfl) (Nat.le_of_ble_eq_true rfl) ?_
          refine W.eq (g2 := F0 m 92 ls []) rfl ?_
          obtain ⟨rfm2_38, hq39_1⟩ := hq39
          refine lv_aload_n hx hb dX12_personLine_92 rfl (lv_at hl 4 rfl) ?_
          refine lv_iload hx hb dX12_personLine_93 (lv_at hl 0 rfl) ?_
          refine lv_iconst (v := 2) hx hb dX12_personLine_95 (by decide) ?_
          refine lv_iconst (v := 0) hx hb dX12_personLine_96 (by decide) ?_
          have hL2 : (2 : Int32).toInt = 2 := by decide
          refine mcallV' (g := g) (q0 := 0) (ci := 10) (As := [.int x_34, .int 2, .int 0]) (rest := []) St hK hT hA hP hD hS hl.1 [0] [] rfl rfl rfl (m_put l g o a th hi ac tp ba en at2_23 fl2_9 de iD iO tU fm2_38 fk fa fc ft ff fb fi x_34 2 0 (by first | assumption | omega | decide | exact Or.inl (by decide) | exact Or.inr (by decide)) (⟨w35.1, w35.2⟩) (by decide)) (cwV 3 hts (zgL (zl4 k908 k909 k910 k837) k830) rfl rfl rfl (by decide +kernel) ⟨Nat.le_of_ble_eq_true rfl, Nat.le_of_ble_eq_true rfl⟩) rfl rfl rfl rfl (Nat.le_of_ble_eq_true rfl) dX12_personLine_97 ⟨(Nat.le_of_ble_eq_true rfl), (Nat.le_of_ble_eq_true rfl)⟩ (fun fm2_40 H locs hq41 hP hD hS => ?_)
          replace hq41 : (rM fm2_40) ∧ ((fm2_40 3).toInt = (fm2_38 3).toInt ∧ (fm2_40 4).toInt = (fm2_38 4).toInt) := hq41
          have hP : va_P g.1 vwCl (List.flatten [bMo g o a th hi ac tp ba en at2_23 fl2_9 de iD iO tU fm2_40 fk fa fc ft ff fb fi]) H := hP
          have hD : va_D A (List.flatten [bMo g o a th hi ac tp ba en at2_23 fl2_9 de iD iO tU fm2_40 fk fa fc ft ff fb fi]) := hD
          refine W.widen (k := 0) (n := 0) (Nat.le_of_ble_eq_true rfl) (Nat.le_of_ble_eq_true rfl) ?_
          refine W.eq (g2 := F0 m 100 ls []) rfl ?_
          obtain ⟨rfm2_40, hq41_1⟩ := hq41
          refine lv_aload_n hx hb dX12_personLine_100 rfl (lv_at hl 4 rfl) ?_
          refine lv_iload hx hb dX12_personLine_101 (lv_at hl 0 rfl) ?_
          refine lv_iconst (v := 3) hx hb dX12_personLine_103 (by decide) ?_
          refine lv_iload hx hb dX12_personLine_104 (lv_at hl 1 rfl) ?_
          refine lv_if_eq (tgt := 113) hx hb dX12_personLine_106 (by decide) (fun c42 => absurd c42 (by decide)) (fun _ => ?_)
          refine lv_iconst (v := 1) hx hb dX12_personLine_109 (by decide) ?_
          refine lv_goto (tgt := 114) hx hb dX12_personLine_110 (by decide) ?_
          have hL3 : (3 : Int32).toInt = 3 := by decide
          refine mcallV' (g := g) (q0 := 0) (ci := 10) (As := [.int x_34, .int 3, .int 1]) (rest := []) St hK hT hA hP hD hS hl.1 [0] [] rfl rfl rfl (m_put l g o a th hi ac tp ba en at2_23 fl2_9 de iD iO tU fm2_40 fk fa fc ft ff fb fi x_34 3 1 (by first | assumption | omega | decide | exact Or.inl (by decide) | exact Or.inr (by decide)) (⟨w35.1, w35.2⟩) (by decide)) (cwV 3 hts (zgL (zl4 k908 k909 k910 k837) k830) rfl rfl rfl (by decide +kernel) ⟨Nat.le_of_ble_eq_true rfl, Nat.le_of_ble_eq_true rfl⟩) rfl rfl rfl rfl (Nat.le_of_ble_eq_true rfl) dX12_personLine_114 ⟨(Nat.le_of_ble_eq_true rfl), (Nat.le_of_ble_eq_true rfl)⟩ (fun fm2_43 H locs hq44 hP hD hS => ?_)
          replace hq44 : (rM fm2_43) ∧ ((fm2_43 3).toInt = (fm2_40 3).toInt ∧ (fm2_43 4).toInt = (fm2_40 4).toInt) := hq44
          have hP : va_P g.1 vwCl (List.flatten [bMo g o a th hi ac tp ba en at2_23 fl2_9 de iD iO tU fm2_43 fk fa fc ft ff fb fi]) H := hP
          have hD : va_D A (List.flatten [bMo g o a th hi ac tp ba en at2_23 fl2_9 de iD iO tU fm2_43 fk fa fc ft ff fb fi]) := hD
          refine W.widen (k := 0) (n := 0) (Nat.le_of_ble_eq_true rfl) (Nat.le_of_ble_eq_true rfl) ?_
          refine W.eq (g2 := F0 m 117 ls []) rfl ?_
          obtain ⟨rfm2_43, hq44_1⟩ := hq44
          refine lv_aload_n hx hb dX12_personLine_117 rfl (lv_at hl 4 rfl) ?_
          refine lv_iload hx hb dX12_personLine_118 (lv_at hl 0 rfl) ?_
          refine lv_iconst (v := 4) hx hb dX12_personLine_120 (by decide) ?_
          refine lv_iconst (v := (-1)) hx hb dX12_personLine_121 (by decide) ?_
          have hL4 : (4 : Int32).toInt = 4 := by decide
          refine mcallV' (g := g) (q0 := 0) (ci := 10) (As := [.int x_34, .int 4, .int (-1)]) (rest := []) St hK hT hA hP hD hS hl.1 [0] [] rfl rfl rfl (m_put l g o a th hi ac tp ba en at2_23 fl2_9 de iD iO tU fm2_43 fk fa fc ft ff fb fi x_34 4 (-1) (by first | assumption | omega | decide | exact Or.inl (by decide) | exact Or.inr (by decide)) (⟨w35.1, w35.2⟩) (by decide)) (cwV 3 hts (zgL (zl4 k908 k909 k910 k837) k830) rfl rfl rfl (by decide +kernel) ⟨Nat.le_of_ble_eq_true rfl, Nat.le_of_ble_eq_true rfl⟩) rfl rfl rfl rfl (Nat.le_of_ble_eq_true rfl) dX12_personLine_122 ⟨(Nat.le_of_ble_eq_true rfl), (Nat.le_of_ble_eq_true rfl)⟩ (fun fm2_45 H locs hq46 hP hD hS => ?_)
          replace hq46 : (rM fm2_45) ∧ ((fm2_45 3).toInt = (fm2_43 3).toInt ∧ (fm2_45 4).toInt = (fm2_43 4).toInt) := hq46
          have hP : va_P g.1 vwCl (List.flatten [bMo g o a th hi ac tp ba en at2_23 fl2_9 de iD iO tU fm2_45 fk fa fc ft ff fb fi]) H := hP
          have hD : va_D A (List.flatten [bMo g o a th hi ac tp ba en at2_23 fl2_9 de iD iO tU fm2_45 fk fa fc ft ff fb fi]) := hD
          refine W.widen (k := 0) (n := 0) (Nat.le_of_ble_eq_true rfl) (Nat.le_of_ble_eq_true rfl) ?_
          refine W.eq (g2 := F0 m 125 ls []) rfl ?_
          obtain ⟨rfm2_45, hq46_1⟩ := hq46
          refine lv_aload_n hx hb dX12_personLine_125 rfl (lv_at hl 4 rfl) ?_
          refine va_get (D := g.1) (ci := 10) (v := .ref (a 0)) (C := RX12) (T := TX12) (N := 20) hx hb hts izRX12 hown hK hP 0 rfl rfl 1 (by decide) (hts _ k815) (fun _ h9 => h9) rfl dX12_personLine_126 ?_
          refine lv_iconst (v := 3) hx hb dX12_personLine_129 (by decide) ?_
          refine lv_dup2_11 hx hb dX12_personLine_130 rfl rfl ?_
          refine va_iald hx hb hK hP 1 0 rfl rfl (zin rfl) dX12_personLine_131 ?_
          refine zgq (r := fm2_45 3) rfl (rM3 rfm2_45) (fun x_47 hx_47 => ?_)
          refine lv_iconst (v := 1) hx hb dX12_personLine_132 (by decide) ?_
          refine lv_iadd hx hb dX12_personLine_133 ?_
          refine zg3 (zaddK (i := x_47.toInt) (j := 1) (a' := 1) (b' := 9) rfl (by decide) hx_47.1 hx_47.2.1 (Int.le_refl _) (Int.le_refl _) (by decide)) (fun x_48 hx_48 => ?_)
          refine va_iast hx hb hK hP hD hS 1 0 rfl rfl (zin rfl) dX12_personLine_134 (fun H locs hP hD hS => ?_)
          obtain ⟨fm_49, rfm_49, hP, hD⟩ : ∃ fm_49 : Nat → Int32, rM fm_49 ∧ va_P g.1 vwCl (List.flatten [bMo g o a th hi ac tp ba en at2_23 fl2_9 de iD iO tU fm_49 fk fa fc ft ff fb fi]) H ∧ va_D A (List.flatten [bMo g o a th hi ac tp ba en at2_23 fl2_9 de iD iO tU fm_49 fk fa fc ft ff fb fi]) := ⟨upd fm2_45 3 x_48, (rM_s3 rfm2_45 (show 0 ≤ x_48.toInt ∧ x_48.toInt ≤ 8 from (by omega))), hP, hD⟩
          have hP : va_P g.1 vwCl (List.flatten [bMo g o a th hi ac tp ba en at2_23 fl2_9 de iD iO tU fm_49 fk fa fc ft ff fb fi]) H := hP
          have hD : va_D A (List.flatten [bMo g o a th hi ac tp ba en at2_23 fl2_9 de iD iO tU fm_49 fk fa fc ft ff fb fi]) := hD
          exact mret_v hx hb hr hlocks hS (Nat.le_of_ble_eq_true rfl) (Nat.le_of_ble_eq_true rfl) dX12_personLine_135 (at2_23, fl2_9, fm_49) rfl (show (rM fm_49) ∧ (0 ≤ at2_23.toInt ∧ at2_23.toInt ≤ en.toInt + 7 - de.toInt) ∧ (tA.toInt ≤ at2_23.toInt) ∧ (-1 ≤ fl2_9.toInt) from ⟨(by first | assumption | omega | decide | exact rfl | exact zb01 (by omega) | exact Or.inl (by decide) | exact Or.inr (by first | omega | decide)), (by first | assumption | omega | decide | exact rfl | exact zb01 (by omega) | exact Or.inl (by decide) | exact Or.inr (by first | omega | decide)), (by first | assumption | omega | decide | exact rfl | exact zb01 (by omega) | exact Or.inl (by decide) | exact Or.inr (by first | omega | decide)), (by first | assumption | omega | decide | exact rfl | exact zb01 (by omega) | exact Or.inl (by decide) | exact Or.inr (by first | omega | decide))⟩) hP hD
        · skip
          exact absurd (show ¬ fl2_9.toInt = (-1) from zne cb9 rfl (by decide)) (by omega)
      · skip
        refine lv_if_eq (tgt := 56) hx hb dX12_personLine_49 (by decide) (fun _ => ?_) (fun c51 => absurd (by decide) c51)
        refine lv_iconst (v := 0) hx hb dX12_personLine_56 (by decide) ?_
        refine lv_istore (lv' := [(4, .int 0), (3, .int r_10), (2, .int r_6), (0, .ref o), (1, .int b0)]) hx hb dX12_personLine_57 hl (by decide) rfl (fun ls hl => ?_)
        refine lv_aload_n hx hb dX12_personLine_59 rfl (lv_at hl 3 rfl) ?_
        refine va_get (D := g.1) (ci := 10) (v := .int fl2_9) (C := RX12) (T := TX12) (N := 20) hx hb hts izRX12 hown hK hP 0 rfl rfl 12 (by decide) (hts _ k820) (fun _ h9 => h9) rfl dX12_personLine_60 ?_
        refine lv_iconst (v := (-1)) hx hb dX12_personLine_63 (by decide) ?_
        refine lv_icmp_eq (tgt := 68) hx hb dX12_personLine_64 (by decide) (fun cb9 => ?_) (fun cb9 => ?_)
        · skip
          have c52 : fl2_9.toInt = (-1) := zeq cb9 rfl (by decide)
          obtain ⟨e54, w53⟩ := hq11_3 c52
          have w55 : 0 ≤ r_10.toInt ∧ r_10.toInt ≤ 999 := by first | exact w53 | omega
          obtain ⟨e57, w56⟩ := hq7_3 e54
          have w58 : 0 ≤ r_6.toInt ∧ r_6.toInt ≤ 99 := by first | exact w56 | omega
          refine lv_aload_n hx hb dX12_personLine_68 rfl (lv_at hl 3 rfl) ?_
          refine va_get (D := g.1) (ci := 10) (v := .ref (a 0)) (C := RX12) (T := TX12) (N := 20) hx hb hts izRX12 hown hK hP 0 rfl rfl 1 (by decide) (hts _ k815) (fun _ h9 => h9) rfl dX12_personLine_69 ?_
          refine lv_iconst (v := 3) hx hb dX12_personLine_72 (by decide) ?_
          refine va_iald hx hb hK hP 1 0 rfl rfl (zin rfl) dX12_personLine_73 ?_
          refine zgq (r := fm 3) rfl (rM3 rfm) (fun x_59 hx_59 => ?_)
          refine lv_istore (lv' := [(5, .int x_59), (4, .int 0), (3, .int r_10), (2, .int r_6), (0, .ref o), (1, .int b0)]) hx hb dX12_personLine_74 hl (by decide) rfl (fun ls hl => ?_)
          have w60 : 0 ≤ x_59.toInt ∧ x_59.toInt ≤ 7 := by omega
          refine lv_aload_n hx hb dX12_personLine_76 rfl (lv_at hl 4 rfl) ?_
          refine lv_iload hx hb dX12_personLine_77 (lv_at hl 0 rfl) ?_
          refine lv_iconst (v := 0) hx hb dX12_personLine_79 (by decide) ?_
          refine lv_iload_n hx hb dX12_personLine_80 rfl (lv_at hl 3 rfl) ?_
          refine mcallV' (g := g) (q0 := 0) (ci := 10) (As := [.int x_59, .int 0, .int r_6]) (rest := []) St hK hT hA hP hD hS hl.1 [0] [] rfl rfl rfl (m_put l g o a th hi ac tp ba en at2_23 fl2_9 de iD iO tU fm fk fa fc ft ff fb fi x_59 0 r_6 (by first | assumption | omega | decide | exact Or.inl (by decide) | exact Or.inr (by decide)) (⟨w60.1, w60.2⟩) (by decide)) (cwV 3 hts (zgL (zl4 k908 k909 k910 k837) k830) rfl rfl rfl (by decide +kernel) ⟨Nat.le_of_ble_eq_true rfl, Nat.le_of_ble_eq_true rfl⟩) rfl rfl rfl rfl (Nat.le_of_ble_eq_true rfl) dX12_personLine_81 ⟨(Nat.le_of_ble_eq_true rfl), (Nat.le_of_ble_eq_true rfl)⟩ (fun fm2_61 H locs hq62 hP hD hS => ?_)
          replace hq62 : (rM fm2_61) ∧ ((fm2_61 3).toInt = (fm 3).toInt ∧ (fm2_61 4).toInt = (fm 4).toInt) := hq62
          have hP : va_P g.1 vwCl (List.flatten [bMo g o a th hi ac tp ba en at2_23 fl2_9 de iD iO tU fm2_61 fk fa fc ft ff fb fi]) H := hP
          have hD : va_D A (List.flatten [bMo g o a th hi ac tp ba en at2_23 fl2_9 de iD iO tU fm2_61 fk fa fc ft ff fb fi]) := hD
          refine W.widen (k := 0) (n := 0) (Nat.le_of_ble_eq_true rfl) (Nat.le_of_ble_eq_true rfl) ?_
          refine W.eq (g2 := F0 m 84 ls []) rfl ?_
          obtain ⟨rfm2_61, hq62_1⟩ := hq62
          refine lv_aload_n hx hb dX12_personLine_84 rfl (lv_at hl 4 rfl) ?_
          refine lv_iload hx hb dX12_personLine_85 (lv_at hl 0 rfl) ?_
          refine lv_iconst (v := 1) hx hb dX12_personLine_87 (by decide) ?_
          refine lv_iload_n hx hb dX12_personLine_88 rfl (lv_at hl 2 rfl) ?_
          have hL1 : (1 : Int32).toInt = 1 := by decide
          refine mcallV' (g := g) (q0 := 0) (ci := 10) (As := [.int x_59, .int 1, .int r_10]) (rest := []) St hK hT hA hP hD hS hl.1 [0] [] rfl rfl rfl (m_put l g o a th hi ac tp ba en at2_23 fl2_9 de iD iO tU fm2_61 fk fa fc ft ff fb fi x_59 1 r_10 (by first | assumption | omega | decide | exact Or.inl (by decide) | exact Or.inr (by decide)) (⟨w60.1, w60.2⟩) (by decide)) (cwV 3 hts (zgL (zl4 k908 k909 k910 k837) k830) rfl rfl rfl (by decide +kernel) ⟨Nat.le_of_ble_eq_true rfl, Nat.le_of_ble_eq_true rfl⟩) rfl rfl rfl rfl (Nat.le_of_ble_eq_true rfl) dX12_personLine_89 ⟨(Nat.le_of_ble_eq_true rfl), (Nat.le_of_ble_eq_true rfl)⟩ (fun fm2_63 H locs hq64 hP hD hS => ?_)
          replace hq64 : (rM fm2_63) ∧ ((fm2_63 3).toInt = (fm2_61 3).toInt ∧ (fm2_63 4).toInt = (fm2_61 4).toInt) := hq64
          have hP : va_P g.1 vwCl (List.flatten [bMo g o a th hi ac tp ba en at2_23 fl2_9 de iD iO tU fm2_63 fk fa fc ft ff fb fi]) H := hP
          have hD : va_D A (List.flatten [bMo g o a th hi ac tp ba en at2_23 fl2_9 de iD iO tU fm2_63 fk fa fc ft ff fb fi]) := hD
          refine W.widen (k := 0) (n := 0) (Nat.le_of_ble_eq_true rfl) (Nat.le_of_ble_eq_true rfl) ?_
          refine W.eq (g2 := F0 m 92 ls []) rfl ?_
          obtain ⟨rfm2_63, hq64_1⟩ := hq64
          refine lv_aload_n hx hb dX12_personLine_92 rfl (lv_at hl 4 rfl) ?_
          refine lv_iload hx hb dX12_personLine_93 (lv_at hl 0 rfl) ?_
          refine lv_iconst (v := 2) hx hb dX12_personLine_95 (by decide) ?_
          refine lv_iconst (v := 0) hx hb dX12_personLine_96 (by decide) ?_
          have hL2 : (2 : Int32).toInt = 2 := by decide
          refine mcallV' (g := g) (q0 := 0) (ci := 10) (As := [.int x_59, .int 2, .int 0]) (rest := []) St hK hT hA hP hD hS hl.1 [0] [] rfl rfl rfl (m_put l g o a th hi ac tp ba en at2_23 fl2_9 de iD iO tU fm2_63 fk fa fc ft ff fb fi x_59 2 0 (by first | assumption | omega | decide | exact Or.inl (by decide) | exact Or.inr (by decide)) (⟨w60.1, w60.2⟩) (by decide)) (cwV 3 hts (zgL (zl4 k908 k909 k910 k837) k830) rfl rfl rfl (by decide +kernel) ⟨Nat.le_of_ble_eq_true rfl, Nat.le_of_ble_eq_true rfl⟩) rfl rfl rfl rfl (Nat.le_of_ble_eq_true rfl) dX12_personLine_97 ⟨(Nat.le_of_ble_eq_true rfl), (Nat.le_of_ble_eq_true rfl)⟩ (fun fm2_65 H locs hq66 hP hD hS => ?_)
          replace hq66 : (rM fm2_65) ∧ ((fm2_65 3).toInt = (fm2_63 3).toInt ∧ (fm2_65 4).toInt = (fm2_63 4).toInt) := hq66
          have hP : va_P g.1 vwCl (List.flatten [bMo g o a th hi ac tp ba en at2_23 fl2_9 de iD iO tU fm2_65 fk fa fc ft ff fb fi]) H := hP
          have hD : va_D A (List.flatten [bMo g o a th hi ac tp ba en at2_23 fl2_9 de iD iO tU fm2_65 fk fa fc ft ff fb fi]) := hD
          refine W.widen (k := 0) (n := 0) (Nat.le_of_ble_eq_true rfl) (Nat.le_of_ble_eq_true rfl) ?_
          refine W.eq (g2 := F0 m 100 ls []) rfl ?_
          obtain ⟨rfm2_65, hq66_1⟩ := hq66
          refine lv_aload_n hx hb dX12_personLine_100 rfl (lv_at hl 4 rfl) ?_
          refine lv_iload hx hb dX12_personLine_101 (lv_at hl 0 rfl) ?_
          refine lv_iconst (v := 3) hx hb dX12_personLine_103 (by decide) ?_
          refine lv_iload hx hb dX12_personLine_104 (lv_at hl 1 rfl) ?_
          refine lv_if_eq (tgt := 113) hx hb dX12_personLine_106 (by decide) (fun _ => ?_) (fun c67 => absurd (by decide) c67)
          refine lv_iconst (v := 0) hx hb dX12_personLine_113 (by decide) ?_
          have hL3 : (3 : Int32).toInt = 3 := by decide
          refine mcallV' (g := g) (q0 := 0) (ci := 10) (As := [.int x_59, .int 3, .int 0]) (rest := []) St hK hT hA hP hD hS hl.1 [0] [] rfl rfl rfl (m_put l g o a th hi ac tp ba en at2_23 fl2_9 de iD iO tU fm2_65 fk fa fc ft ff fb fi x_59 3 0 (by first | assumption | omega | decide | exact Or.inl (by decide) | exact Or.inr (by decide)) (⟨w60.1, w60.2⟩) (by decide)) (cwV 3 hts (zgL (zl4 k908 k909 k910 k837) k830) rfl rfl rfl (by decide +kernel) ⟨Nat.le_of_ble_eq_true rfl, Nat.le_of_ble_eq_true rfl⟩) rfl rfl rfl rfl (Nat.le_of_ble_eq_true rfl) dX12_personLine_114 ⟨(Nat.le_of_ble_eq_true rfl), (Nat.le_of_ble_eq_true rfl)⟩ (fun fm2_68 H locs hq69 hP hD hS => ?_)
          replace hq69 : (rM fm2_68) ∧ ((fm2_68 3).toInt = (fm2_65 3).toInt ∧ (fm2_68 4).toInt = (fm2_65 4).toInt) := hq69
          have hP : va_P g.1 vwCl (List.flatten [bMo g o a th hi ac tp ba en at2_23 fl2_9 de iD iO tU fm2_68 fk fa fc ft ff fb fi]) H := hP
          have hD : va_D A (List.flatten [bMo g o a th hi ac tp ba en at2_23 fl2_9 de iD iO tU fm2_68 fk fa fc ft ff fb fi]) := hD
          refine W.widen (k := 0) (n := 0) (Nat.le_of_ble_eq_true rfl) (Nat.le_of_ble_eq_true rfl) ?_
          refine W.eq (g2 := F0 m 117 ls []) rfl ?_
          obtain ⟨rfm2_68, hq69_1⟩ := hq69
          refine lv_aload_n hx hb dX12_personLine_117 rfl (lv_at hl 4 rfl) ?_
          refine lv_iload hx hb dX12_personLine_118 (lv_at hl 0 rfl) ?_
          refine lv_iconst (v := 4) hx hb dX12_personLine_120 (by decide) ?_
          refine lv_iconst (v := (-1)) hx hb dX12_personLine_121 (by decide) ?_
          have hL4 : (4 : Int32).toInt = 4 := by decide
          refine mcallV' (g := g) (q0 := 0) (ci := 10) (As := [.int x_59, .int 4, .int (-1)]) (rest := []) St hK hT hA hP hD hS hl.1 [0] [] rfl rfl rfl (m_put l g o a th hi ac tp ba en at2_23 fl2_9 de iD iO tU fm2_68 fk fa fc ft ff fb fi x_59 4 (-1) (by first | assumption | omega | decide | exact Or.inl (by decide) | exact Or.inr (by decide)) (⟨w60.1, w60.2⟩) (by decide)) (cwV 3 hts (zgL (zl4 k908 k909 k910 k837) k830) rfl rfl rfl (by decide +kernel) ⟨Nat.le_of_ble_eq_true rfl, Nat.le_of_ble_eq_true rfl⟩) rfl rfl rfl rfl (Nat.le_of_ble_eq_true rfl) dX12_personLine_122 ⟨(Nat.le_of_ble_eq_true rfl), (Nat.le_of_ble_eq_true rfl)⟩ (fun fm2_70 H locs hq71 hP hD hS => ?_)
          replace hq71 : (rM fm2_70) ∧ ((fm2_70 3).toInt = (fm2_68 3).toInt ∧ (fm2_70 4).toInt = (fm2_68 4).toInt) := hq71
          have hP : va_P g.1 vwCl (List.flatten [bMo g o a th hi ac tp ba en at2_23 fl2_9 de iD iO tU fm2_70 fk fa fc ft ff fb fi]) H := hP
          have hD : va_D A (List.flatten [bMo g o a th hi ac tp ba en at2_23 fl2_9 de iD iO tU fm2_70 fk fa fc ft ff fb fi]) := hD
          refine W.widen (k := 0) (n := 0) (Nat.le_of_ble_eq_true rfl) (Nat.le_of_ble_eq_true rfl) ?_
          refine W.eq (g2 := F0 m 125 ls []) rfl ?_
          obtain ⟨rfm2_70, hq71_1⟩ := hq71
          refine lv_aload_n hx hb dX12_personLine_125 rfl (lv_at hl 4 rfl) ?_
          refine va_get (D := g.1) (ci := 10) (v := .ref (a 0)) (C := RX12) (T := TX12) (N := 20) hx hb hts izRX12 hown hK hP 0 rfl rfl 1 (by decide) (hts _ k815) (fun _ h9 => h9) rfl dX12_personLine_126 ?_
          refine lv_iconst (v := 3) hx hb dX12_personLine_129 (by decide) ?_
          refine lv_dup2_11 hx hb dX12_personLine_130 rfl rfl ?_
          refine va_iald hx hb hK hP 1 0 rfl rfl (zin rfl) dX12_personLine_131 ?_
          refine zgq (r := fm2_70 3) rfl (rM3 rfm2_70) (fun x_72 hx_72 => ?_)
          refine lv_iconst (v := 1) hx hb dX12_personLine_132 (by decide) ?_
          refine lv_iadd hx hb dX12_personLine_133 ?_
          refine zg3 (zaddK (i := x_72.toInt) (j := 1) (a' := 1) (b' := 9) rfl (by decide) hx_72.1 hx_72.2.1 (Int.le_refl _) (Int.le_refl _) (by decide)) (fun x_73 hx_73 => ?_)
          refine va_iast hx hb hK hP hD hS 1 0 rfl rfl (zin rfl) dX12_personLine_134 (fun H locs hP hD hS => ?_)
          obtain ⟨fm_74, rfm_74, hP, hD⟩ : ∃ fm_74 : Nat → Int32, rM fm_74 ∧ va_P g.1 vwCl (List.flatten [bMo g o a th hi ac tp ba en at2_23 fl2_9 de iD iO tU fm_74 fk fa fc ft ff fb fi]) H ∧ va_D A (List.flatten [bMo g o a th hi ac tp ba en at2_23 fl2_9 de iD iO tU fm_74 fk fa fc ft ff fb fi]) := ⟨upd fm2_70 3 x_73, (rM_s3 rfm2_70 (show 0 ≤ x_73.toInt ∧ x_73.toInt ≤ 8 from (by omega))), hP, hD⟩
          have hP : va_P g.1 vwCl (List.flatten [bMo g o a th hi ac tp ba en at2_23 fl2_9 de iD iO tU fm_74 fk fa fc ft ff fb fi]) H := hP
          have hD : va_D A (List.flatten [bMo g o a th hi ac tp ba en at2_23 fl2_9 de iD iO tU fm_74 fk fa fc ft ff fb fi]) := hD
          exact mret_v hx hb hr hlocks hS (Nat.le_of_ble_eq_true rfl) (Nat.le_of_ble_eq_true rfl) dX12_personLine_135 (at2_23, fl2_9, fm_74) rfl (show (rM fm_74) ∧ (0 ≤ at2_23.toInt ∧ at2_23.toInt ≤ en.toInt + 7 - de.toInt) ∧ (tA.toInt ≤ at2_23.toInt) ∧ (-1 ≤ fl2_9.toInt) from ⟨(by first | assumption | omega | decide | exact rfl | exact zb01 (by omega) | exact Or.inl (by decide) | exact Or.inr (by first | omega | decide)), (by first | assumption | omega | decide | exact rfl | exact zb01 (by omega) | exact Or.inl (by decide) | exact Or.inr (by first | omega | decide)), (by first | assumption | omega | decide | exact rfl | exact zb01 (by omega) | exact Or.inl (by decide) | exact Or.inr (by first | omega | decide)), (by first | assumption | omega | decide | exact rfl | exact zb01 (by omega) | exact Or.inl (by decide) | exact Or.inr (by first | omega | decide))⟩) hP hD
        · skip
          exact absurd (show ¬ fl2_9.toInt = (-1) from zne cb9 rfl (by decide)) (by omega)
  · skip
    have c76 : x_1.toInt = 8 := zeq cb9 rfl (by decide)
    have n77 : 8 ≤ x_1.toInt := Int.le_trans (Int.le_refl _) (Int.le_of_eq c76.symm)
    refine lv_aload_n hx hb dX12_personLine_11 rfl (lv_at hl 0 rfl) ?_
    refine lv_iload_n hx hb dX12_personLine_12 rfl (lv_at hl 1 rfl) ?_
    refine mcallV' (g := g) (q0 := 0) (ci := 10) (As := [.int b0]) (rest := []) St hK hT hA hP hD hS hl.1 [0] [] rfl rfl rfl (m_wrong l g o a th hi ac tp ba en tA fl de iD iO tU fm fk fa fc ft ff fb fi b0 hb0 (by first | assumption | omega | decide | exact Or.inl (by decide) | exact Or.inr (by decide))) (cwV 1 hts (zgL (zl4 k894 k895 k896 k837) k889) rfl rfl rfl (by decide +kernel) ⟨Nat.le_of_ble_eq_true rfl, Nat.le_of_ble_eq_true rfl⟩) rfl rfl rfl rfl (Nat.le_of_ble_eq_true rfl) dX12_personLine_13 ⟨(Nat.le_of_ble_eq_true rfl), (Nat.le_of_ble_eq_true rfl)⟩ (fun fl2_78 H locs hq79 hP hD hS => ?_)
    replace hq79 : (0 ≤ fl2_78.toInt) := hq79
    have hP : va_P g.1 vwCl (List.flatten [bMo g o a th hi ac tp ba en tA fl2_78 de iD iO tU fm fk fa fc ft ff fb fi]) H := hP
    have hD : va_D A (List.flatten [bMo g o a th hi ac tp ba en tA fl2_78 de iD iO tU fm fk fa fc ft ff fb fi]) := hD
    refine W.widen (k := 0) (n := 0) (Nat.le_of_ble_eq_true rfl) (Nat.le_of_ble_eq_true rfl) ?_
    refine W.eq (g2 := F0 m 16 ls []) rfl ?_
    refine lv_aload_n hx hb dX12_personLine_16 rfl (lv_at hl 0 rfl) ?_
    refine lv_iconst (v := 0) hx hb dX12_personLine_17 (by decide) ?_
    refine lv_bipush (v := 99) hx hb dX12_personLine_18 (by decide) ?_
    have hL0 : (0 : Int32).toInt = 0 := by decide
    have hL99 : (99 : Int32).toInt = 99 := by decide
    refine mcallV' (g := g) (q0 := 0) (ci := 10) (As := [.int 0, .int 99]) (rest := []) St hK hT hA hP hD hS hl.1 [0] [] rfl rfl rfl (m_figures l g o a th hi ac tp ba en tA fl2_78 de iD iO tU fm fk fa fc ft ff fb fi 0 99 (by first | assumption | omega | decide | exact Or.inl (by decide) | exact Or.inr (by decide)) (⟨hen.1, hen.2⟩) (by first | assumption | omega | decide | exact Or.inl (by decide) | exact Or.inr (by decide)) (Int.le_trans (by decide) hq79) (⟨hde.1, hde.2⟩)) (cwV 2 hts (zgL (zl4 k901 k902 k903 k837) k897) rfl rfl rfl (by decide +kernel) ⟨Nat.le_of_ble_eq_true rfl, Nat.le_of_ble_eq_true rfl⟩) rfl rfl rfl rfl (Nat.le_of_ble_eq_true rfl) dX12_personLine_20 ⟨(Nat.le_of_ble_eq_true rfl), (Nat.le_of_ble_eq_true rfl)⟩ (fun u_ H locs hq83 hP hD hS => ?_)
    obtain ⟨at2_80, fl2_81, r_82⟩ := u_
    replace hq83 : (0 ≤ at2_80.toInt ∧ at2_80.toInt ≤ en.toInt + 7 - de.toInt) ∧ (tA.toInt ≤ at2_80.toInt) ∧ (-1 ≤ fl2_81.toInt) ∧ (zImp (fl2_81.toInt = -1) (fl2_78.toInt = -1 ∧ (0 : Int32).toInt ≤ r_82.toInt ∧ r_82.toInt ≤ (99 : Int32).toInt)) := hq83
    have hP : va_P g.1 vwCl (List.flatten [bMo g o a th hi ac tp ba en at2_80 fl2_81 de iD iO tU fm fk fa fc ft ff fb fi]) H := hP
    have hD : va_D A (List.flatten [bMo g o a th hi ac tp ba en at2_80 fl2_81 de iD iO tU fm fk fa fc ft ff fb fi]) := hD
    refine W.widen (k := 0) (n := 0) (Nat.le_of_ble_eq_true rfl) (Nat.le_of_ble_eq_true rfl) ?_
    refine W.eq (g2 := F0 m 23 ls [.int r_82]) rfl ?_
    obtain ⟨hq83_0, hq83_1, hq83_2, hq83_3⟩ := hq83
    refine lv_istore_n (lv' := [(2, .int r_82), (0, .ref o), (1, .int b0)]) hx hb dX12_personLine_23 rfl hl (by decide) rfl (fun ls hl => ?_)
    refine lv_aload_n hx hb dX12_personLine_24 rfl (lv_at hl 1 rfl) ?_
    refine va_ldcS (q := g.2 62) hx hb hown (zra26 hT.2.1) dX12_personLine_25 ?_
    refine lv_iconst (v := 0) hx hb dX12_personLine_27 (by decide) ?_
    refine lv_sipush (v := 999) hx hb dX12_personLine_28 (by decide) ?_
    have hL999 : (999 : Int32).toInt = 999 := by decide
    refine mcallV' (g := g) (q0 := 0) (ci := 10) (As := [.ref (g.2 62), .int 0, .int 999]) (rest := []) St hK hT hA hP hD hS hl.1 [0] [] rfl rfl rfl (m_after l g o a th hi ac tp ba en at2_80 fl2_81 de iD iO tU fm fk fa fc ft ff fb fi 0 999 (g.2 62) 26 zqa26 (by first | assumption | omega | decide | exact Or.inl (by decide) | exact Or.inr (by decide)) (⟨hen.1, hen.2⟩) (by first | assumption | omega | decide | exact Or.inl (by decide) | exact Or.inr (by decide)) (by first | assumption | omega | decide | exact Or.inl (by decide) | exact Or.inr (by decide)) (⟨hde.1, hde.2⟩) rfl zla26 zna26) (cwV 3 hts (zgL (zl4 k905 k906 k907 k837) k904) rfl rfl rfl (by decide +kernel) ⟨Nat.le_of_ble_eq_true rfl, Nat.le_of_ble_eq_true rfl⟩) rfl rfl rfl rfl (Nat.le_of_ble_eq_true rfl) dX12_personLine_31 ⟨(Nat.le_of_ble_eq_true rfl), (Nat.le_of_ble_eq_true rfl)⟩ (fun u_ H locs hq87 hP hD hS => ?_)
    obtain ⟨at2_84, fl2_85, r_86⟩ := u_
    replace hq87 : (0 ≤ at2_84.toInt ∧ at2_84.toInt ≤ en.toInt + 7 - de.toInt) ∧ (at2_80.toInt ≤ at2_84.toInt) ∧ (-1 ≤ fl2_85.toInt) ∧ (zImp (fl2_85.toInt = -1) (fl2_81.toInt = -1 ∧ (0 : Int32).toInt ≤ r_86.toInt ∧ r_86.toInt ≤ (999 : Int32).toInt)) := hq87
    have hP : va_P g.1 vwCl (List.flatten [bMo g o a th hi ac tp ba en at2_84 fl2_85 de iD iO tU fm fk fa fc ft ff fb fi]) H := hP
    have hD : va_D A (List.flatten [bMo g o a th hi ac tp ba en at2_84 fl2_85 de iD iO tU fm fk fa fc ft ff fb fi]) := hD
    refine W.widen (k := 0) (n := 0) (Nat.le_of_ble_eq_true rfl) (Nat.le_of_ble_eq_true rfl) ?_
    refine W.eq (g2 := F0 m 34 ls [.int r_86]) rfl ?_
    obtain ⟨hq87_0, hq87_1, hq87_2, hq87_3⟩ := hq87
    refine lv_istore_n (lv' := [(3, .int r_86), (2, .int r_82), (0, .ref o), (1, .int b0)]) hx hb dX12_personLine_34 rfl hl (by decide) rfl (fun ls hl => ?_)
    refine lv_aload_n hx hb dX12_personLine_35 rfl (lv_at hl 2 rfl) ?_
    refine va_get (D := g.1) (ci := 10) (v := .int fl2_85) (C := RX12) (T := TX12) (N := 20) hx hb hts izRX12 hown hK hP 0 rfl rfl 12 (by decide) (hts _ k820) (fun _ h9 => h9) rfl dX12_personLine_36 ?_
    refine lv_iconst (v := (-1)) hx hb dX12_personLine_39 (by decide) ?_
    refine lv_icmp_ne (tgt := 56) hx hb dX12_personLine_40 (by decide) (fun cb9 => ?_) (fun cb9 => ?_)
    · skip
      have c88 : ¬ fl2_85.toInt = (-1) := zne cb9 rfl (by decide)
      refine lv_iconst (v := 0) hx hb dX12_personLine_56 (by decide) ?_
      refine lv_istore (lv' := [(4, .int 0), (3, .int r_86), (2, .int r_82), (0, .ref o), (1, .int b0)]) hx hb dX12_personLine_57 hl (by decide) rfl (fun ls hl => ?_)
      refine lv_aload_n hx hb dX12_personLine_59 rfl (lv_at hl 3 rfl) ?_
      refine va_get (D := g.1) (ci := 10) (v := .int fl2_85) (C := RX12) (T := TX12) (N := 20) hx hb hts izRX12 hown hK hP 0 rfl rfl 12 (by decide) (hts _ k820) (fun _ h9 => h9) rfl dX12_personLine_60 ?_
      refine lv_iconst (v := (-1)) hx hb dX12_personLine_63 (by decide) ?_
      refine lv_icmp_eq (tgt := 68) hx hb dX12_personLine_64 (by decide) (fun cb9 => ?_) (fun cb9 => ?_)
      · skip
        exact absurd (show fl2_85.toInt = (-1) from zeq cb9 rfl (by decide)) (by omega)
      · skip
        have c90 : ¬ fl2_85.toInt = (-1) := zne cb9 rfl (by decide)
        have hP : va_P g.1 vwCl (List.flatten [bMo g o a th hi ac tp ba en at2_84 fl2_85 de iD iO tU fm fk fa fc ft ff fb fi]) H := hP
        have hD : va_D A (List.flatten [bMo g o a th hi ac tp ba en at2_84 fl2_85 de iD iO tU fm fk fa fc ft ff fb fi]) := hD
        exact mret_v hx hb hr hlocks hS (Nat.le_of_ble_eq_true rfl) (Nat.le_of_ble_eq_true rfl) dX12_personLine_67 (at2_84, fl2_85, fm) rfl (show (rM fm) ∧ (0 ≤ at2_84.toInt ∧ at2_84.toInt ≤ en.toInt + 7 - de.toInt) ∧ (tA.toInt ≤ at2_84.toInt) ∧ (-1 ≤ fl2_85.toInt) from ⟨(by first | assumption | omega | decide | exact rfl | exact zb01 (by omega) | exact Or.inl (by decide) | exact Or.inr (by first | omega | decide)), (by first | assumption | omega | decide | exact rfl | exact zb01 (by omega) | exact Or.inl (by decide) | exact Or.inr (by first | omega | decide)), (by first | assumption | omega | decide | exact rfl | exact zb01 (by omega) | exact Or.inl (by decide) | exact Or.inr (by first | omega | decide)), (by first | assumption | omega | decide | exact rfl | exact zb01 (by omega) | exact Or.inl (by decide) | exact Or.inr (by first | omega | decide))⟩) hP hD
    · skip
      have c91 : fl2_85.toInt = (-1) := zeq cb9 rfl (by decide)
      have n92 : fl2_85.toInt ≤ (-1) := Int.le_trans (Int.le_of_eq c91) (Int.le_refl _)
      obtain ⟨e94, w93⟩ := hq87_3 c91
      have w95 : 0 ≤ r_86.toInt ∧ r_86.toInt ≤ 999 := by first | exact w93 | omega
      obtain ⟨e97, w96⟩ := hq83_3 e94
      have w98 : 0 ≤ r_82.toInt ∧ r_82.toInt ≤ 99 := by first | exact w96 | omega
      exact absurd e97 (zDeq2 (a := 0) (b := -1) hq79 (Int.le_refl _) (by decide))
