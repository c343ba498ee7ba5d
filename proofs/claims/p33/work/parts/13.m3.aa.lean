set_option maxRecDepth 100000 in
set_option maxHeartbeats 4000000 in
theorem m_personLine (l : Launch) (g : zG) (o : Nat) (a : Nat → Nat) (th : Int32) (hi : Int32) (ac : Int32) (tp : Int32) (ba : Int32) (en : Int32) (tA : Int32) (fl : Int32) (de : Int32) (iD : Int32) (iO : Int32) (tU : Int32) (fm : Nat → Int32) (fk : Nat → Int32) (fa : Nat → Int32) (fc : Nat → Int32) (ft : Nat → Int32) (ff : Nat → Int32) (fb : Nat → Int32) (fi : Nat → Int32) (b0 : Int32) (rfm : rM fm) (hba : zBa ba.toInt) (hen : 0 ≤ en.toInt ∧ en.toInt ≤ 400) (htA : 0 ≤ tA.toInt ∧ tA.toInt ≤ en.toInt + 7 - de.toInt) (hfl : -1 ≤ fl.toInt) (hde : 0 ≤ de.toInt ∧ de.toInt ≤ 6) (hb0 : 0 ≤ b0.toInt) : zM' g l yX12_personLine (Cond.code yX12_personLine cX12_personLine 6 none :: zB) ({ frames := 6, cells := 0, slots := 0, locals := 131 } : Room) [.ref o, .int b0] [bMo g o a th hi ac tp ba en tA fl de iD iO tU fm fk fa fc ft ff fb fi] (fun u : Int32 × Int32 × (Nat → Int32) => (fun (at2 : Int32) (fl2 : Int32) (fm2 : Nat → Int32) => none) (u.1) (u.2.1) (u.2.2)) (fun u : Int32 × Int32 × (Nat → Int32) => (fun (at2 : Int32) (fl2 : Int32) (fm2 : Nat → Int32) => (rM fm2) ∧ (0 ≤ at2.toInt ∧ at2.toInt ≤ en.toInt + 7 - de.toInt) ∧ (tA.toInt ≤ at2.toInt) ∧ (-1 ≤ fl2.toInt)) (u.1) (u.2.1) (u.2.2)) (fun u : Int32 × Int32 × (Nat → Int32) => (fun (at2 : Int32) (fl2 : Int32) (fm2 : Nat → Int32) => [bMo g o a th hi ac tp ba en at2 fl2 de iD iO tU fm2 fk fa fc ft ff fb fi]) (u.1) (u.2.1) (u.2.2)) := by
  refine zM'.of (cc := cX12_personLine) (maxL := 6) (rt := none) (by decide) rfl (Nat.le_of_ble_eq_true rfl) ?_
  intro p e s m args below meth c A ls St hr hlocks hin hK hT hA hP hD hS hl
  obtain ⟨hx, hb, hml, hown, hts⟩ := id St
  have hl : lv_has ls 6 [(0, .ref o), (1, .int b0)] := hl
  refine lv_aload_n hx hb dX12_personLine_0 rfl (lv_at hl 0 rfl) ?_
  refine va_get (D := g.1) (ci := 10) (v := .ref (a 0)) (C := RX12) (T := TX12) (N := 20) hx hb hts izRX12 hown hK hP 0 rfl rfl 1 (by decide) (hts _ k815) (fun _ h9 => h9) rfl dX12_personLine_1 ?_
  refine lv_iconst (v := 3) hx hb dX12_personLine_4 (by decide) ?_
  refine va_iald hx hb hK hP 1 0 rfl rfl (zin rfl) dX12_personLine_5 ?_
  refine zgq (r := fm 3) rfl (rM3 rfm) (fun x_1 hx_1 => ?_)
  refine lv_bipush (v := 8) hx hb dX12_personLine_6 (by decide) ?_
  refine lv_icmp_ne (tgt := 16) hx hb dX12_personLine_8 (by decide) (fun cb9 => ?_) (fun cb9 => ?_)
  · skip
    have c2 : ¬ x_1.toInt = 8 := zne cb9 rfl (by decide)
    have n3 : x_1.toInt ≤ 7 := zN2 c2 hx_1.2.1 (by decide)
    refine lv_aload_n hx hb dX12_personLine_16 rfl (lv_at hl 0 rfl) ?_
    refine lv_iconst (v := 0) hx hb dX12_personLine_17 (by decide) ?_
    refine lv_bipush (v := 99) hx hb dX12_personLine_18 (by decide) ?_
    have hL0 : (0 : Int32).toInt = 0 := by decide
    have hL99 : (99 : Int32).toInt = 99 := by decide
    refine mcallV' (g := g) (q0 := 0) (ci := 10) (As := [.int 0, .int 99]) (rest := []) St hK hT hA hP hD hS hl.1 [0] [] rfl rfl rfl (m_figures l g o a th hi ac tp ba en tA fl de iD iO tU fm fk fa fc ft ff fb fi 0 99 hba hen htA hfl hde) (cwV 2 hts (zgL (zl4 k902 k903 k904 k839) k898) rfl rfl rfl (by decide +kernel) ⟨Nat.le_of_ble_eq_true rfl, Nat.le_of_ble_eq_true rfl⟩) rfl rfl rfl rfl (Nat.le_of_ble_eq_true rfl) dX12_personLine_20 ⟨(Nat.le_of_ble_eq_true rfl), (Nat.le_of_ble_eq_true rfl)⟩ (fun u_ H locs hq7 hP hD hS => ?_)
    obtain ⟨at2_4, fl2_5, r_6⟩ := u_
    replace hq7 : (0 ≤ at2_4.toInt ∧ at2_4.toInt ≤ en.toInt + 7 - de.toInt) ∧ (tA.toInt ≤ at2_4.toInt) ∧ (-1 ≤ fl2_5.toInt) ∧ (zImp (fl2_5.toInt = -1) (fl.toInt = -1 ∧ (0 : Int32).toInt ≤ r_6.toInt ∧ r_6.toInt ≤ (99 : Int32).toInt)) := hq7
    have hP : va_P g.1 vwCl (List.flatten [bMo g o a th hi ac tp ba en at2_4 fl2_5 de iD iO tU fm fk fa fc ft ff fb fi]) H := hP
    have hD : va_D A (List.flatten [bMo g o a th hi ac tp ba en at2_4 fl2_5 de iD iO tU fm fk fa fc ft ff fb fi]) := hD
    refine W.widen (k := 0) (n := 0) (Nat.le_of_ble_eq_true rfl) (Nat.le_of_ble_eq_true rfl) ?_
    refine W.eq (g2 := F0 m 23 ls [.int r_6]) rfl ?_
    obtain ⟨hq7_0, hq7_1, hq7_2, hq7_3⟩ := hq7
    refine lv_istore_n (lv' := [(2, .int r_6), (0, .ref o), (1, .int b0)]) hx hb dX12_personLine_23 rfl hl (by decide) rfl (fun ls hl => ?_)
    refine lv_aload_n hx hb dX12_personLine_24 rfl (lv_at hl 1 rfl) ?_
    refine va_ldcS (q := g.2 62) hx hb hown (zra26 hT.2.1) dX12_personLine_25 ?_
    refine lv_iconst (v := 0) hx hb dX12_personLine_27 (by decide) ?_
    refine lv_sipush (v := 999) hx hb dX12_personLine_28 (by decide) ?_
    have hL999 : (999 : Int32).toInt = 999 := by decide
    refine mcallV' (g := g) (q0 := 0) (ci := 10) (As := [.ref (g.2 62), .int 0, .int 999]) (rest := []) St hK hT hA hP hD hS hl.1 [0] [] rfl rfl rfl (m_after l g o a th hi ac tp ba en at2_4 fl2_5 de iD iO tU fm fk fa fc ft ff fb fi 0 999 (g.2 62) 26 zqa26 hba hen hq7_0 hq7_2 hde rfl zla26 zna26) (cwV 3 hts (zgL (zl4 k906 k907 k908 k839) k905) rfl rfl rfl (by decide +kernel) ⟨Nat.le_of_ble_eq_true rfl, Nat.le_of_ble_eq_true rfl⟩) rfl rfl rfl rfl (Nat.le_of_ble_eq_true rfl) dX12_personLine_31 ⟨(Nat.le_of_ble_eq_true rfl), (Nat.le_of_ble_eq_true rfl)⟩ (fun u_ H locs hq11 hP hD hS => ?_)
    obtain ⟨at2_8, fl2_9, r_10⟩ := u_
    replace hq11 : (0 ≤ at2_8.toInt ∧ at2_8.toInt ≤ en.toInt + 7 - de.toInt) ∧ (at2_4.toInt ≤ at2_8.toInt) ∧ (-1 ≤ fl2_9.toInt) ∧ (zImp (fl2_9.toInt = -1) (fl2_5.toInt = -1 ∧ (0 : Int32).toInt ≤ r_10.toInt ∧ r_10.toInt ≤ (999 : Int32).toInt)) := hq11
    have hP : va_P g.1 vwCl (List.flatten [bMo g o a th hi ac tp ba en at2_8 fl2_9 de iD iO tU fm fk fa fc ft ff fb fi]) H := hP
    have hD : va_D A (List.flatten [bMo g o a th hi ac tp ba en at2_8 fl2_9 de iD iO tU fm fk fa fc ft ff fb fi]) := hD
    refine W.widen (k := 0) (n := 0) (Nat.le_of_ble_eq_true rfl) (Nat.le_of_ble_eq_true rfl) ?_
    refine W.eq (g2 := F0 m 34 ls [.int r_10]) rfl ?_
    obtain ⟨hq11_0, hq11_1, hq11_2, hq11_3⟩ := hq11
    refine lv_istore_n (lv' := [(3, .int r_10), (2, .int r_6), (0, .ref o), (1, .int b0)]) hx hb dX12_personLine_34 rfl hl (by decide) rfl (fun ls hl => ?_)
    refine lv_aload_n hx hb dX12_personLine_35 rfl (lv_at hl 2 rfl) ?_
    refine va_get (D := g.1) (ci := 10) (v := .int fl2_9) (C := RX12) (T := TX12) (N := 20) hx hb hts izRX12 hown hK hP 0 rfl rfl 12 (by decide) (hts _ k820) (fun _ h9 => h9) rfl dX12_personLine_36 ?_
    refine lv_iconst (v := (-1)) hx hb dX12_personLine_39 (by decide) ?_
    refine lv_icmp_ne (tgt := 56) hx hb dX12_personLine_40 (by decide) (fun cb9 => ?_) (fun cb9 => ?_)
    · skip
      have c12 : ¬ fl2_9.toInt = (-1) := zne cb9 rfl (by decide)
      refine lv_iconst (v := 0) hx hb dX12_personLine_56 (by decide) ?_
      refine lv_istore (lv' := [(4, .int 0), (3, .int r_10), (2, .int r_6), (0, .ref o), (1, .int b0)]) hx hb dX12_personLine_57 hl (by decide) rfl (fun ls hl => ?_)
      refine lv_aload_n hx hb dX12_personLine_59 rfl (lv_at hl 3 rfl) ?_
      refine va_get (D := g.1) (ci := 10) (v := .int fl2_9) (C := RX12) (T := TX12) (N := 20) hx hb hts izRX12 hown hK hP 0 rfl rfl 12 (by decide) (hts _ k820) (fun _ h9 => h9) rfl dX12_personLine_60 ?_
      refine lv_iconst (v := (-1)) hx hb dX12_personLine_63 (by decide) ?_
      refine lv_icmp_eq (tgt := 68) hx hb dX12_personLine_64 (by decide) (fun cb9 => ?_) (fun cb9 => ?_)
      · skip
        exact absurd (show fl2_9.toInt = (-1) from zeq cb9 rfl (by decide)) (by omega)
      · skip
        have c14 : ¬ fl2_9.toInt = (-1) := zne cb9 rfl (by decide)
        have hP : va_P g.1 vwCl (List.flatten [bMo g o a th hi ac tp ba en at2_8 fl2_9 de iD iO tU fm fk fa fc ft ff fb fi]) H := hP
        have hD : va_D A (List.flatten [bMo g o a th hi ac tp ba en at2_8 fl2_9 de iD iO tU fm fk fa fc ft ff fb fi]) := hD
        exact mret_v hx hb hr hlocks hS (Nat.le_of_ble_eq_true rfl) (Nat.le_of_ble_eq_true rfl) dX12_personLine_67 (at2_8, fl2_9, fm) rfl (show (rM fm) ∧ (0 ≤ at2_8.toInt ∧ at2_8.toInt ≤ en.toInt + 7 - de.toInt) ∧ (tA.toInt ≤ at2_8.toInt) ∧ (-1 ≤ fl2_9.toInt) from ⟨rfm, hq11_0, (by first | assumption | omega | decide | exact rfl | exact zb01 (by omega) | exact Or.inl (by decide) | exact Or.inr (by first | omega | decide)), hq11_2⟩) hP hD
    · skip
      have c15 : fl2_9.toInt = (-1) := zeq cb9 rfl (by decide)
      have n16 : fl2_9.toInt ≤ (-1) := Int.le_trans (Int.le_of_eq c15) (Int.le_refl _)
      obtain ⟨e18, w17⟩ := hq11_3 c15
      have w19 : 0 ≤ r_10.toInt ∧ r_10.toInt ≤ 999 := by omega
      obtain ⟨e21, w20⟩ := hq7_3 e18
      have w22 : 0 ≤ r_6.toInt ∧ r_6.toInt ≤ 99 := by omega
      refine lv_aload_n hx hb dX12_personLine_43 rfl (lv_at hl 2 rfl) ?_
      refine va_ldcS (q := g.2 64) hx hb hown (zra27 hT.2.1) dX12_personLine_44 ?_
      refine mcallV' (g := g) (q0 := 0) (ci := 10) (As := [.ref (g.2 64)]) (rest := []) St hK hT hA hP hD hS hl.1 [0] [] rfl rfl rfl (m_has l g o a th hi ac tp ba en at2_8 fl2_9 de iD iO tU fm fk fa fc ft ff fb fi (g.2 64) 27 zqa27 hba hen hq11_0 hq11_2 hde rfl zla27 zna27) (cwV 1 hts (zgL (zl4 k899 k900 k901 k839) k889) rfl rfl rfl (by decide +kernel) ⟨Nat.le_of_ble_eq_true rfl, Nat.le_of_ble_eq_true rfl⟩) rfl rfl rfl rfl (Nat.le_of_ble_eq_true rfl) dX12_personLine_46 ⟨(Nat.le_of_ble_eq_true rfl), (Nat.le_of_ble_eq_true rfl)⟩ (fun u_ H locs hq25 hP hD hS => ?_)
      obtain ⟨at2_23, r_24⟩ := u_
      replace hq25 : (0 ≤ at2_23.toInt ∧ at2_23.toInt ≤ en.toInt + 7 - de.toInt) ∧ (at2_8.toInt ≤ at2_23.toInt) ∧ (r_24 = 1 ∧ at2_8.toInt < at2_23.toInt ∧ at2_23.toInt ≤ en.toInt ∨ r_24 = 0) := hq25
      have hP : va_P g.1 vwCl (List.flatten [bMo g o a th hi ac tp ba en at2_23 fl2_9 de iD iO tU fm fk fa fc ft ff fb fi]) H := hP
      have hD : va_D A (List.flatten [bMo g o a th hi ac tp ba en at2_23 fl2_9 de iD iO tU fm fk fa fc ft ff fb fi]) := hD
      refine W.widen (k := 0) (n := 0) (Nat.le_of_ble_eq_true rfl) (Nat.le_of_ble_eq_true rfl) ?_
      refine W.eq (g2 := F0 m 49 ls [.int r_24]) rfl ?_
      obtain ⟨hq25_0, hq25_1, hq25_2⟩ := hq25
      rcases hq25_2 with ⟨rfl, hq25_k⟩ | rfl
      · skip
        refine lv_if_eq (tgt := 56) hx hb dX12_personLine_49 (by decide) (fun c26 => absurd c26 (by decide)) (fun _ => ?_)
        refine lv_iconst (v := 1) hx hb dX12_personLine_52 (by decide) ?_
        refine lv_goto (tgt := 57) hx hb dX12_personLine_53 (by decide) ?_
        refine lv_istore (lv' := [(4, .int 1), (3, .int r_10), (2, .int r_6), (0, .ref o), (1, .int b0)]) hx hb dX12_personLine_57 hl (by decide) rfl (fun ls hl => ?_)
        refine lv_aload_n hx hb dX12_personLine_59 rfl (lv_at hl 3 rfl) ?_
        refine va_get (D := g.1) (ci := 10) (v := .int fl2_9) (C := RX12) (T := TX12) (N := 20) hx hb hts izRX12 hown hK hP 0 rfl rfl 12 (by decide) (hts _ k820) (fun _ h9 => h9) rfl dX12_personLine_60 ?_
        refine lv_iconst (v := (-1)) hx hb dX12_personLine_63 (by decide) ?_
        refine lv_icmp_eq (tgt := 68) hx hb dX12_personLine_64 (by decide) (fun cb9 => ?_) (fun cb9 => ?_)
        · skip
          have c27 : fl2_9.toInt = (-1) := zeq cb9 rfl (by decide)
          obtain ⟨e29, w28⟩ := hq11_3 c27
          have w30 : 0 ≤ r_10.toInt ∧ r_10.toInt ≤ 999 := by omega
          obtain ⟨e32, w31⟩ := hq7_3 e29
          have w33 : 0 ≤ r_6.toInt ∧ r_6.toInt ≤ 99 := by omega
          refine lv_aload_n hx hb dX12_personLine_68 rfl (lv_at hl 3 rfl) ?_
          refine va_get (D := g.1) (ci := 10) (v := .ref (a 0)) (C := RX12) (T := TX12) (N := 20) hx hb hts izRX12 hown hK hP 0 rfl rfl 1 (by decide) (hts _ k815) (fun _ h9 => h9) rfl dX12_personLine_69 ?_
          refine lv_iconst (v := 3) hx hb dX12_personLine_72 (by decide) ?_
          refine va_iald hx hb hK hP 1 0 rfl rfl (zin rfl) dX12_personLine_73 ?_
          refine zgq (r := fm 3) rfl (rM3 rfm) (fun x_34 hx_34 => ?_)
          refine lv_istore (lv' := [(5, .int x_34), (4, .int 1), (3, .int r_10), (2, .int r_6), (0, .ref o), (1, .int b0)]) hx hb dX12_personLine_74 hl (by decide) rfl (fun ls hl => ?_)
          have w35 : 0 ≤ x_34.toInt ∧ x_34.toInt ≤ 7 := by omega
          refine lv_aload_n hx hb dX12_personLine_76 rfl (lv_at hl 4 rfl) ?_
          refine lv_iload hx hb dX12_personLine_77 (lv_at hl 0 rfl) ?_
          refine lv_iconst (v := 0) hx hb dX12_personLine_79 (by decide) ?_
          refine lv_iload_n hx hb dX12_personLine_80 rfl (lv_at hl 3 rfl) ?_
          refine mcallV' (g := g) (q0 := 0) (ci := 10) (As := [.int x_34, .int 0, .int r_6]) (rest := []) St hK hT hA hP hD hS hl.1 [0] [] rfl rfl rfl (m_put l g o a th hi ac tp ba en at2_23 fl2_9 de iD iO tU fm fk fa fc ft ff fb fi x_34 0 r_6 rfm (⟨w35.1, w35.2⟩) (by decide)) (cwV 3 hts (zgL (zl4 k909 k910 k911 k839) k832) rfl rfl rfl (by decide +kernel) ⟨Nat.le_of_ble_eq_true rfl, Nat.le_of_ble_eq_true rfl⟩) rfl rfl rfl rfl (Nat.le_of_ble_eq_true rfl) dX12_personLine_81 ⟨(Nat.le_of_ble_eq_true rfl), (Nat.le_of_ble_eq_true rfl)⟩ (fun fm2_36 H locs hq37 hP hD hS => ?_)
          replace hq37 : ((fm2_36 0).toInt = (fm 0).toInt ∧ (fm2_36 3).toInt = (fm 3).toInt ∧ (fm2_36 4).toInt = (fm 4).toInt) ∧ (rM fm2_36) ∧ ((fm2_36 3).toInt = (fm 3).toInt ∧ (fm2_36 4).toInt = (fm 4).toInt) := hq37
          have hP : va_P g.1 vwCl (List.flatten [bMo g o a th hi ac tp ba en at2_23 fl2_9 de iD iO tU fm2_36 fk fa fc ft ff fb fi]) H := hP
          have hD : va_D A (List.flatten [bMo g o a th hi ac tp ba en at2_23 fl2_9 de iD iO tU fm2_36 fk fa fc ft ff fb fi]) := hD
          refine W.widen (k := 0) (n := 0) (Nat.le_of_ble_eq_true rfl) (Nat.le_of_ble_eq_true rfl) ?_
          refine W.eq (g2 := F0 m 84 ls []) rfl ?_
          obtain ⟨hq37_0, rfm2_36, hq37_2⟩ := hq37
          refine lv_aload_n hx hb dX12_personLine_84 rfl (lv_at hl 4 rfl) ?_
          refine lv_iload hx hb dX12_personLine_85 (lv_at hl 0 rfl) ?_
          refine lv_iconst (v := 1) hx hb dX12_personLine_87 (by decide) ?_
          refine lv_iload_n hx hb dX12_personLine_88 rfl (lv_at hl 2 rfl) ?_
          have hL1 : (1 : Int32).toInt = 1 := by decide
          refine mcallV' (g := g) (q0 := 0) (ci := 10) (As := [.int x_34, .int 1, .int r_10]) (rest := []) St hK hT hA hP hD hS hl.1 [0] [] rfl rfl rfl (m_put l g o a th hi ac tp ba en at2_23 fl2_9 de iD iO tU fm2_36 fk fa fc ft ff fb fi x_34 1 r_10 rfm2_36 (⟨w35.1, w35.2⟩) (by decide)) (cwV 3 hts (zgL (zl4 k909 k910 k911 k839) k832) rfl rfl rfl (by decide +kernel) ⟨Nat.le_of_ble_eq_true rfl, Nat.le_of_ble_eq_true rfl⟩) rfl rfl rfl rfl (Nat.le_of_ble_eq_true rfl) dX12_personLine_89 ⟨(Nat.le_of_ble_eq_true rfl), (Nat.le_of_ble_eq_true rfl)⟩ (fun fm2_38 H locs hq39 hP hD hS => ?_)
          replace hq39 : ((fm2_38 0).toInt = (fm2_36 0).toInt ∧ (fm2_38 3).toInt = (fm2_36 3).toInt ∧ (fm2_38 4).toInt = (fm2_36 4).toInt) ∧ (rM fm2_38) ∧ ((fm2_38 3).toInt = (fm2_36 3).toInt ∧ (fm2_38 4).toInt = (fm2_36 4).toInt) := hq39
          have hP : va_P g.1 vwCl (List.flatten [bMo g o a th hi ac tp ba en at2_23 fl2_9 de iD iO tU fm2_38 fk fa fc ft ff fb fi]) H := hP
          have hD : va_D A (List.flatten [bMo g o a th hi ac tp ba en at2_23 fl2_9 de iD iO tU fm2_38 fk fa fc ft ff fb fi]) := hD
          refine W.widen (k := 0) (n := 0) (Nat.le_of_ble_eq_true rfl) (Nat.le_of_ble_eq_true rfl) ?_
          refine W.eq (g2 := F0 m 92 ls []) rfl ?_
          obtain ⟨hq39_0, rfm2_38, hq39_2⟩ := hq39
          refine lv_aload_n hx hb dX12_personLine_92 rfl (lv_at hl 4 rfl) ?_
          refine lv_iload hx hb dX12_personLine_93 (lv_at hl 0 rfl) ?_
          refine lv_iconst (v := 2) hx hb dX12_personLine_95 (by decide) ?_
          refine lv_iconst (v := 0) hx hb dX12_personLine_96 (by decide) ?_
          have hL2 : (2 : Int32).toInt = 2 := by decide
          refine mcallV' (g := g) (q0 := 0) (ci := 10) (As := [.int x_34, .int 2, .int 0]) (rest := []) St hK hT hA hP hD hS hl.1 [0] [] rfl rfl rfl (m_put l g o a th hi ac tp ba en at2_23 fl2_9 de iD iO tU fm2_38 fk fa fc ft ff fb fi x_34 2 0 rfm2_38 (⟨w35.1, w35.2⟩) (by decide)) (cwV 3 hts (zgL (zl4 k909 k910 k911 k839) k832) rfl rfl rfl (by decide +kernel) ⟨Nat.le_of_ble_eq_true rfl, Nat.le_of_ble_eq_true rfl⟩) rfl rfl rfl rfl (Nat.le_of_ble_eq_true rfl) dX12_personLine_97 ⟨(Nat.le_of_ble_eq_true rfl), (Nat.le_of_ble_eq_true rfl)⟩ (fun fm2_40 H locs hq41 hP hD hS => ?_)
          replace hq41 : ((fm2_40 0).toInt = (fm2_38 0).toInt ∧ (fm2_40 3).toInt = (fm2_38 3).toInt ∧ (fm2_40 4).toInt = (fm2_38 4).toInt) ∧ (rM fm2_40) ∧ ((fm2_40 3).toInt = (fm2_38 3).toInt ∧ (fm2_40 4).toInt = (fm2_38 4).toInt) := hq41
          have hP : va_P g.1 vwCl (List.flatten [bMo g o a th hi ac tp ba en at2_23 fl2_9 de iD iO tU fm2_40 fk fa fc ft ff fb fi]) H := hP
          have hD : va_D A (List.flatten [bMo g o a th hi ac tp ba en at2_23 fl2_9 de iD iO tU fm2_40 fk fa fc ft ff fb fi]) := hD
          refine W.widen (k := 0) (n := 0) (Nat.le_of_ble_eq_true rfl) (Nat.le_of_ble_eq_true rfl) ?_
          refine W.eq (g2 := F0 m 100 ls []) rfl ?_
          obtain ⟨hq41_0, rfm2_40, hq41_2⟩ := hq41
          refine lv_aload_n hx hb dX12_personLine_100 rfl (lv_at hl 4 rfl) ?_
          refine lv_iload hx hb dX12_personLine_101 (lv_at hl 0 rfl) ?_
          refine lv_iconst (v := 3) hx hb dX12_personLine_103 (by decide) ?_
          refine lv_iload hx hb dX12_personLine_104 (lv_at hl 1 rfl) ?_
          refine lv_if_eq (tgt := 113) hx hb dX12_personLine_106 (by decide) (fun c42 => absurd c42 (by decide)) (fun _ => ?_)
          refine lv_iconst (v := 1) hx hb dX12_personLine_109 (by decide) ?_
          refine lv_goto (tgt := 114) hx hb dX12_personLine_110 (by decide) ?_
          have hL3 : (3 : Int32).toInt = 3 := by decide
          refine mcallV' (g := g) (q0 := 0) (ci := 10) (As := [.int x_34, .int 3, .int 1]) (rest := []) St hK hT hA hP hD hS hl.1 [0] [] rfl rfl rfl (m_put l g o a th hi ac tp ba en at2_23 fl2_9 de iD iO tU fm2_40 fk fa fc ft ff fb fi x_34 3 1 rfm2_40 (⟨w35.1, w35.2⟩) (by decide)) (cwV 3 hts (zgL (zl4 k909 k910 k911 k839) k832) rfl rfl rfl (by decide +kernel) ⟨Nat.le_of_ble_eq_true rfl, Nat.le_of_ble_eq_true rfl⟩) rfl rfl rfl rfl (Nat.le_of_ble_eq_true rfl) dX12_personLine_114 ⟨(Nat.le_of_ble_eq_true rfl), (Nat.le_of_ble_eq_true rfl)⟩ (fun fm2_43 H locs hq44 hP hD hS => ?_)
          replace hq44 : ((fm2_43 0).toInt = (fm2_40 0).toInt ∧ (fm2_43 3).toInt = (fm2_40 3).toInt ∧ (fm2_43 4).toInt = (fm2_40 4).toInt) ∧ (rM fm2_43) ∧ ((fm2_43 3).toInt = (fm2_40 3).toInt ∧ (fm2_43 4).toInt = (fm2_40 4).toInt) := hq44
          have hP : va_P g.1 vwCl (List.flatten [bMo g o a th hi ac tp ba en at2_23 fl2_9 de iD iO tU fm2_43 fk fa fc ft ff fb fi]) H := hP
          have hD : va_D A (List.flatten [bMo g o a th hi ac tp ba en at2_23 fl2_9 de iD iO tU fm2_43 fk fa fc ft ff fb fi]) := hD
          refine W.widen (k := 0) (n := 0) (Nat.le_of_ble_eq_true rfl) (Nat.le_of_ble_eq_true rfl) ?_
          refine W.eq (g2 := F0 m 117 ls []) rfl ?_
          obtain ⟨hq44_0, rfm2_43, hq44_2⟩ := hq44
          refine lv_aload_n hx hb dX12_personLine_117 rfl (lv_at hl 4 rfl) ?_
          refine lv_iload hx hb dX12_personLine_118 (lv_at hl 0 rfl) ?_
          refine lv_iconst (v := 4) hx hb dX12_personLine_120 (by decide) ?_
          refine lv_iconst (v := (-1)) hx hb dX12_personLine_121 (by decide) ?_
          have hL4 : (4 : Int32).toInt = 4 := by decide
          refine mcallV' (g := g) (q0 := 0) (ci := 10) (As := [.int x_34, .int 4, .int (-1)]) (rest := []) St hK hT hA hP hD hS hl.1 [0] [] rfl rfl rfl (m_put l g o a th hi ac tp ba en at2_23 fl2_9 de iD iO tU fm2_43 fk fa fc ft ff fb fi x_34 4 (-1) rfm2_43 (⟨w35.1, w35.2⟩) (by decide)) (cwV 3 hts (zgL (zl4 k909 k910 k911 k839) k832) rfl rfl rfl (by decide +kernel) ⟨Nat.le_of_ble_eq_true rfl, Nat.le_of_ble_eq_true rfl⟩) rfl rfl rfl rfl (Nat.le_of_ble_eq_true rfl) dX12_personLine_122 ⟨(Nat.le_of_ble_eq_true rfl), (Nat.le_of_ble_eq_true rfl)⟩ (fun fm2_45 H locs hq46 hP hD hS => ?_)
          replace hq46 : ((fm2_45 0).toInt = (fm2_43 0).toInt ∧ (fm2_45 3).toInt = (fm2_43 3).toInt ∧ (fm2_45 4).toInt = (fm2_43 4).toInt) ∧ (rM fm2_45) ∧ ((fm2_45 3).toInt = (fm2_43 3).toInt ∧ (fm2_45 4).toInt = (fm2_43 4).toInt) := hq46
          have hP : va_P g.1 vwCl (List.flatten [bMo g o a th hi ac tp ba en at2_23 fl2_9 de iD iO tU fm2_45 fk fa fc ft ff fb fi]) H := hP
          have hD : va_D A (List.flatten [bMo g o a th hi ac tp ba en at2_23 fl2_9 de iD iO tU fm2_45 fk fa fc ft ff fb fi]) := hD
          refine W.widen (k := 0) (n := 0) (Nat.le_of_ble_eq_true rfl) (Nat.le_of_ble_eq_true rfl) ?_
          refine W.eq (g2 := F0 m 125 ls []) rfl ?_
          obtain ⟨hq46_0, rfm2_45, hq46_2⟩ := hq46
          refine lv_aload_n hx hb dX12_personLine_125 rfl (lv_at hl 4 rfl) ?_
          refine va_get (D := g.1) (ci := 10) (v := .ref (a 0)) (C := RX12) (T := TX12) (N := 20) hx hb hts izRX12 hown hK hP 0 rfl rfl 1 (by decide) (hts _ k815) (fun _ h9 => h9) rfl dX12_personLine_126 ?_
          refine lv_iconst (v := 3) hx hb dX12_personLine_129 (by decide) ?_
          refine lv_dup2_11 hx hb dX12_personLine_130 rfl rfl ?_
          refine va_iald hx hb hK hP 1 0 rfl rfl (zin rfl) dX12_personLine_131 ?_
          refine zgq (r := fm2_45 3) rfl (rM3 rfm2_45) (fun x_47 hx_47 => ?_)
          refine lv_iconst (v := 1) hx hb dX12_personLine_132 (by decide) ?_
          refine lv_iadd hx hb dX12_personLine_133 ?_
          refine zg3 (zaddK (i := x_47.toInt) (j := 1) (a' := 1) (b' := 9) rfl (by decide) hx_47.1 hx_47.2.1 (Int.le_refl _) (Int.le_refl _) (by decide)) (fun x_48 hx_48 => ?_)
          refine va_iast hx hb hK hP hD hS 1 0 rfl rfl (zin rfl) dX12_personLine_134 (fun H locs hP hD hS => ?_)
          obtain ⟨fm_49, rfm_49, hP, hD⟩ : ∃ fm_49 : Nat → Int32, rM fm_49 ∧ va_P g.1 vwCl (List.flatten [bMo g o a th hi ac tp ba en at2_23 fl2_9 de iD iO tU fm_49 fk fa fc ft ff fb fi]) H ∧ va_D A (List.flatten [bMo g o a th hi ac tp ba en at2_23 fl2_9 de iD iO tU fm_49 fk fa fc ft ff fb fi]) := ⟨upd fm2_45 3 x_48, (rM_s3 rfm2_45 (show 0 ≤ x_48.toInt ∧ x_48.toInt ≤ 8 from (by omega))), hP, hD⟩
          have hP : va_P g.1 vwCl (List.flatten [bMo g o a th hi ac tp ba en at2_23 fl2_9 de iD iO tU fm_49 fk fa fc ft ff fb fi]) H := hP
          have hD : va_D A (List.flatten [bMo g o a th hi ac tp ba en at2_23 fl2_9 de iD iO tU fm_49 fk fa fc ft ff fb fi]) := hD
          exact mret_v hx hb hr hlocks hS (Nat.le_of_ble_eq_true rfl) (Nat.le_of_ble_eq_true rfl) dX12_personLine_135 (at2_23, fl2_9, fm_49) rfl (show (rM fm_49) ∧ (0 ≤ at2_23.toInt ∧ at2_23.toInt ≤ en.toInt + 7 - de.toInt) ∧ (tA.toInt ≤ at2_23.toInt) ∧ (-1 ≤ fl2_9.toInt) from ⟨rfm_49, hq25_0, (by first | assumption | omega | decide | exact rfl | exact zb01 (by omega) | exact Or.inl (by decide) | exact Or.inr (by first | omega | decide)), hq11_2⟩) hP hD
        · skip
          exact absurd (show ¬ fl2_9.toInt = (-1) from zne cb9 rfl (by decide)) (by omega)
      · skip
        refine lv_if_eq (tgt := 56) hx hb dX12_personLine_49 (by decide) (fun _ => ?_) (fun c51 => absurd (by decide) c51)
        refine lv_iconst (v := 0) hx hb dX12_personLine_56 (by decide) ?_
        refine lv_istore (lv' := [(4, .int 0), (3, .int r_10), (2, .int r_6), (0, .ref o), (1, .int b0)]) hx hb dX12_personLine_57 hl (by decide) rfl (fun ls hl => ?_)
        refine lv_aload_n hx hb dX12_personLine_59 rfl (lv_at hl 3 rfl) ?_
        refine va_get (D := g.1) (ci := 10) (v := .int fl2_9) (C := RX12) (T := TX12) (N := 20) hx hb hts izRX12 hown hK hP 0 rfl rfl 12 (by decide) (hts _ k820) (fun _ h9 => h9) rfl dX12_personLine_60 ?_
        refine lv_iconst (v := (-1)) hx hb dX12_personLine_63 (by decide) ?_
        refine lv_icmp_eq (tgt := 68) hx hb dX12_personLine_64 (by decide) (fun cb9 => ?_) (fun cb9 => ?_)
        · skip
          have c52 : fl2_9.toInt = (-1) := zeq cb9 rfl (by decide)
          obtain ⟨e54, w53⟩ := hq11_3 c52
          have w55 : 0 ≤ r_10.toInt ∧ r_10.toInt ≤ 999 := by omega
          obtain ⟨e57, w56⟩ := hq7_3 e54
          have w58 : 0 ≤ r_6.toInt ∧ r_6.toInt ≤ 99 := by omega
          refine lv_aload_n hx hb dX12_personLine_68 rfl (lv_at hl 3 rfl) ?_
          refine va_get (D := g.1) (ci := 10) (v := .ref (a 0)) (C := RX12) (T := TX12) (N := 20) hx hb hts izRX12 hown hK hP 0 rfl rfl 1 (by decide) (hts _ k815) (fun _ h9 => h9) rfl dX12_personLine_69 ?_
          refine lv_iconst (v := 3) hx hb dX12_personLine_72 (by decide) ?_
          refine va_iald hx hb hK hP 1 0 rfl rfl (zin rfl) dX12_personLine_73 ?_
          refine zgq (r := fm 3) rfl (rM3 rfm) (fun x_59 hx_59 => ?_)
          refine lv_istore (lv' := [(5, .int x_59), (4, .int 0), (3, .int r_10), (2, .int r_6), (0, .ref o), (1, .int b0)]) hx hb dX12_personLine_74 hl (by decide) rfl (fun ls hl => ?_)
          have w60 : 0 ≤ x_59.toInt ∧ x_59.toInt ≤ 7 := by omega
          refine lv_aload_n hx hb dX12_personLine_76 rfl (lv_at hl 4 rfl) ?_
          refine lv_iload hx hb dX12_personLine_77 (lv_at hl 0 rfl) ?_
          refine lv_iconst (v := 0) hx hb dX12_personLine_79 (by decide) ?_
          refine lv_iload_n hx hb dX12_personLine_80 rfl (lv_at hl 3 rfl) ?_
          refine mcallV' (g := g) (q0 := 0) (ci := 10) (As := [.int x_59, .int 0, .int r_6]) (rest := []) St hK hT hA hP hD hS hl.1 [0] [] rfl rfl rfl (m_put l g o a th hi ac tp ba en at2_23 fl2_9 de iD iO tU fm fk fa fc ft ff fb fi x_59 0 r_6 rfm (⟨w60.1, w60.2⟩) (by decide)) (cwV 3 hts (zgL (zl4 k909 k910 k911 k839) k832) rfl rfl rfl (by decide +kernel) ⟨Nat.le_of_ble_eq_true rfl, Nat.le_of_ble_eq_true rfl⟩) rfl rfl rfl rfl (Nat.le_of_ble_eq_true rfl) dX12_personLine_81 ⟨(Nat.le_of_ble_eq_true rfl), (Nat.le_of_ble_eq_true rfl)⟩ (fun fm2_61 H locs hq62 hP hD hS => ?_)
          replace hq62 : ((fm2_61 0).toInt = (fm 0).toInt ∧ (fm2_61 3).toInt = (fm 3).toInt ∧ (fm2_61 4).toInt = (fm 4).toInt) ∧ (rM fm2_61) ∧ ((fm2_61 3).toInt = (fm 3).toInt ∧ (fm2_61 4).toInt = (fm 4).toInt) := hq62
          have hP : va_P g.1 vwCl (List.flatten [bMo g o a th hi ac tp ba en at2_23 fl2_9 de iD iO tU fm2_61 fk fa fc ft ff fb fi]) H := hP
          have hD : va_D A (List.flatten [bMo g o a th hi ac tp ba en at2_23 fl2_9 de iD iO tU fm2_61 fk fa fc ft ff fb fi]) := hD
          refine W.widen (k := 0) (n := 0) (Nat.le_of_ble_eq_true rfl) (Nat.le_of_ble_eq_true rfl) ?_
          refine W.eq (g2 := F0 m 84 ls []) rfl ?_
          obtain ⟨hq62_0, rfm2_61, hq62_2⟩ := hq62
          refine lv_aload_n hx hb dX12_personLine_84 rfl (lv_at hl 4 rfl) ?_
          refine lv_iload hx hb dX12_personLine_85 (lv_at hl 0 rfl) ?_
          refine lv_iconst (v := 1) hx hb dX12_personLine_87 (by decide) ?_
          refine lv_iload_n hx hb dX12_personLine_88 rfl (lv_at hl 2 rfl) ?_
          have hL1 : (1 : Int32).toInt = 1 := by decide
          refine mcallV' (g := g) (q0 := 0) (ci := 10) (As := [.int x_59, .int 1, .int r_10]) (rest := []) St hK hT hA hP hD hS hl.1 [0] [] rfl rfl rfl (m_put l g o a th hi ac tp ba en at2_23 fl2_9 de iD iO tU fm2_61 fk fa fc ft ff fb fi x_59 1 r_10 rfm2_61 (⟨w60.1, w60.2⟩) (by decide)) (cwV 3 hts (zgL (zl4 k909 k910 k911 k839) k832) rfl rfl rfl (by decide +kernel) ⟨Nat.le_of_ble_eq_true rfl, Nat.le_of_ble_eq_true rfl⟩) rfl rfl rfl rfl (Nat.le_of_ble_eq_true rfl) dX12_personLine_89 ⟨(Nat.le_of_ble_eq_true rfl), (Nat.le_of_ble_eq_true rfl)⟩ (fun fm2_63 H locs hq64 hP hD hS => ?_)
          replace hq64 : ((fm2_63 0).toInt = (fm2_61 0).toInt ∧ (fm2_63 3).toInt = (fm2_61 3).toInt ∧ (fm2_63 4).toInt = (fm2_61 4).toInt) ∧ (rM fm2_63) ∧ ((fm2_63 3).toInt = (fm2_61 3).toInt ∧ (fm2_63 4).toInt = (fm2_61 4).toInt) := hq64
          have hP : va_P g.1 vwCl (List.flatten [bMo g o a th hi ac tp ba en at2_23 fl2_9 de iD iO tU fm2_63 fk fa fc ft ff fb fi]) H := hP
          have hD : va_D A (List.flatten [bMo g o a th hi ac tp ba en at2_23 fl2_9 de iD iO tU fm2_63 fk fa fc ft ff fb fi]) := hD
          refine W.widen (k := 0) (n := 0) (Nat.le_of_ble_eq_true rfl) (Nat.le_of_ble_eq_true rfl) ?_
          refine W.eq (g2 := F0 m 92 ls []) rfl ?_
          obtain ⟨hq64_0, rfm2_63, hq64_2⟩ := hq64
          refine lv_aload_n hx hb dX12_personLine_92 rfl (lv_at hl 4 rfl) ?_
          refine lv_iload hx hb dX12_personLine_93 (lv_at hl 0 rfl) ?_
          refine lv_iconst (v := 2) hx hb dX12_personLine_95 (by decide) ?_
          refine lv_iconst (v := 0) hx hb dX12_personLine_96 (by decide) ?_
          have hL2 : (2 : Int32).toInt = 2 := by decide
          refine mcallV' (g := g) (q0 := 0) (ci := 10) (As := [.int x_59, .int 2, .int 0]) (rest := []) St hK hT hA hP hD hS hl.1 [0] [] rfl rfl rfl (m_put l g o a th hi ac tp ba en at2_23 fl2_9 de iD iO tU fm2_63 fk fa fc ft ff fb fi x_59 2 0 rfm2_63 (⟨w60.1, w60.2⟩) (by decide)) (cwV 3 hts (zgL (zl4 k909 k910 k911 k839) k832) rfl rfl rfl (by decide +kernel) ⟨Nat.le_of_ble_eq_true rfl, Nat.le_of_ble_eq_true rfl⟩) rfl rfl rfl rfl (Nat.le_of_ble_eq_true rfl) dX12_personLine_97 ⟨(Nat.le_of_ble_eq_true rfl), (Nat.le_of_ble_eq_true rfl)⟩ (fun fm2_65 H locs hq66 hP hD hS => ?_)
          replace hq66 : ((fm2_65 0).toInt = (fm2_63 0).toInt ∧ (fm2_65 3).toInt = (fm2_63 3).toInt ∧ (fm2_65 4).toInt = (fm2_63 4).toInt) ∧ (rM fm2_65) ∧ ((fm2_65 3).toInt = (fm2_63 3).toInt ∧ (fm2_65 4).toInt = (fm2_63 4).toInt) := hq66
          have hP : va_P g.1 vwCl (List.flatten [bMo g o a th hi ac tp ba en at2_23 fl2_9 de iD iO tU fm2_65 fk fa fc ft ff fb fi]) H := hP
          have hD : va_D A (List.flatten [bMo g o a th hi ac tp ba en at2_23 fl2_9 de iD iO tU fm2_65 fk fa fc ft ff fb fi]) := hD
          refine W.widen (k := 0) (n := 0) (Nat.le_of_ble_eq_true rfl) (Nat.le_of_ble_eq_true rfl) ?_
          refine W.eq (g2 := F0 m 100 ls []) rfl ?_
          obtain ⟨hq66_0, rfm2_65, hq66_2⟩ := hq66
          refine lv_aload_n hx hb dX12_personLine_100 rfl (lv_at hl 4 rfl) ?_
          refine lv_iload hx hb dX12_personLine_101 (lv_at hl 0 rfl) ?_
          refine lv_iconst (v := 3) hx hb dX12_personLine_103 (by decide) ?_
          refine lv_iload hx hb dX12_personLine_104 (lv_at hl 1 rfl) ?_
          refine lv_if_eq (tgt := 113) hx hb dX12_personLine_106 (by decide) (fun _ => ?_) (fun c67 => absurd (by decide) c67)
          refine lv_iconst (v := 0) hx hb dX12_personLine_113 (by decide) ?_
          have hL3 : (3 : Int32).toInt = 3 := by decide
          refine mcallV' (g := g) (q0 := 0) (ci := 10) (As := [.int x_59, .int 3, .int 0]) (rest := []) St hK hT hA hP hD hS hl.1 [0] [] rfl rfl rfl (m_put l g o a th hi ac tp ba en at2_23 fl2_9 de iD iO tU fm2_65 fk fa fc ft ff fb fi x_59 3 0 rfm2_65 (⟨w60.1, w60.2⟩) (by decide)) (cwV 3 hts (zgL (zl4 k909 k910 k911 k839) k832) rfl rfl rfl (by decide +kernel) ⟨Nat.le_of_ble_eq_true rfl, Nat.le_of_ble_eq_true rfl⟩) rfl rfl rfl rfl (Nat.le_of_ble_eq_true rfl) dX12_personLine_114 ⟨(Nat.le_of_ble_eq_true rfl), (Nat.le_of_ble_eq_true rfl)⟩ (fun fm2_68 H locs hq69 hP hD hS => ?_)
          replace hq69 : ((fm2_68 0).toInt = (fm2_65 0).toInt ∧ (fm2_68 3).toInt = (fm2_65 3).toInt ∧ (fm2_68 4).toInt = (fm2_65 4).toInt) ∧ (rM fm2_68) ∧ ((fm2_68 3).toInt = (fm2_65 3).toInt ∧ (fm2_68 4).toInt = (fm2_65 4).toInt) := hq69
          have hP : va_P g.1 vwCl (List.flatten [bMo g o a th hi ac tp ba en at2_23 fl2_9 de iD iO tU fm2_68 fk fa fc ft ff fb fi]) H := hP
          have hD : va_D A (List.flatten [bMo g o a th hi ac tp ba en at2_23 fl2_9 de iD iO tU fm2_68 fk fa fc ft ff fb fi]) := hD
          refine W.widen (k := 0) (n := 0) (Nat.le_of_ble_eq_true rfl) (Nat.le_of_ble_eq_true rfl) ?_
          refine W.eq (g2 := F0 m 117 ls []) rfl ?_
          obtain ⟨hq69_0, rfm2_68, hq69_2⟩ := hq69
          refine lv_aload_n hx hb dX12_personLine_117 rfl (lv_at hl 4 rfl) ?_
          refine lv_iload hx hb dX12_personLine_118 (lv_at hl 0 rfl) ?_
          refine lv_iconst (v := 4) hx hb dX12_personLine_120 (by decide) ?_
          refine lv_iconst (v := (-1)) hx hb dX12_personLine_121 (by decide) ?_
          have hL4 : (4 : Int32).toInt = 4 := by decide
          refine mcallV' (g := g) (q0 := 0) (ci := 10) (As := [.int x_59, .int 4, .int (-1)]) (rest := []) St hK hT hA hP hD hS hl.1 [0] [] rfl rfl rfl (m_put l g o a th hi ac tp ba en at2_23 fl2_9 de iD iO tU fm2_68 fk fa fc ft ff fb fi x_59 4 (-1) rfm2_68 (⟨w60.1, w60.2⟩) (by decide)) (cwV 3 hts (zgL (zl4 k909 k910 k911 k839) k832) rfl rfl rfl (by decide +kernel) ⟨Nat.le_of_ble_eq_true rfl, Nat.le_of_ble_eq_true rfl⟩) rfl rfl rfl rfl (Nat.le_of_ble_eq_true rfl) dX12_personLine_122 ⟨(Nat.le_of_ble_eq_true rfl), (Nat.le_of_ble_eq_true rfl)⟩ (fun fm2_70 H locs hq71 hP hD hS => ?_)
          replace hq71 : ((fm2_70 0).toInt = (fm2_68 0).toInt ∧ (fm2_70 3).toInt = (fm2_68 3).toInt ∧ (fm2_70 4).toInt = (fm2_68 4).toInt) ∧ (rM fm2_70) ∧ ((fm2_70 3).toInt = (fm2_68 3).toInt ∧ (fm2_70 4).toInt = (fm2_68 4).toInt) := hq71
          have hP : va_P g.1 vwCl (List.flatten [bMo g o a th hi ac tp ba en at2_23 fl2_9 de iD iO tU fm2_70 fk fa fc ft ff fb fi]) H := hP
          have hD : va_D A (List.flatten [bMo g o a th hi ac tp ba en at2_23 fl2_9 de iD iO tU fm2_70 fk fa fc ft ff fb fi]) := hD
          refine W.widen (k := 0) (n := 0) (Nat.le_of_ble_eq_true rfl) (Nat.le_of_ble_eq_true rfl) ?_
          refine W.eq (g2 := F0 m 125 ls []) rfl ?_
          obtain ⟨hq71_0, rfm2_70, hq71_2⟩ := hq71
          refine lv_aload_n hx hb dX12_personLine_125 rfl (lv_at hl 4 rfl) ?_
          refine va_get (D := g.1) (ci := 10) (v := .ref (a 0)) (C := RX12) (T := TX12) (N := 20) hx hb hts izRX12 hown hK hP 0 rfl rfl 1 (by decide) (hts _ k815) (fun _ h9 => h9) rfl dX12_personLine_126 ?_
          refine lv_iconst (v := 3) hx hb dX12_personLine_129 (by decide) ?_
          refine lv_dup2_11 hx hb dX12_personLine_130 rfl rfl ?_
          refine va_iald hx hb hK hP 1 0 rfl rfl (zin rfl) dX12_personLine_131 ?_
          refine zgq (r := fm2_70 3) rfl (rM3 rfm2_70) (fun x_72 hx_72 => ?_)
          refine lv_iconst (v := 1) hx hb dX12_personLine_132 (by decide) ?_
          refine lv_iadd hx hb dX12_personLine_133 ?_
          refine zg3 (zaddK (i := x_72.toInt) (j := 1) (a' := 1) (b' := 9) rfl (by decide) hx_72.1 hx_72.2.1 (Int.le_refl _) (Int.le_refl _) (by decide)) (fun x_73 hx_73 => ?_)
          refine va_iast hx hb hK hP hD hS 1 0 rfl rfl (zin rfl) dX12_personLine_134 (fun H locs hP hD hS => ?_)
          obtain ⟨fm_74, rfm_74, hP, hD⟩ : ∃ fm_74 : Nat → Int32, rM fm_74 ∧ va_P g.1 vwCl (List.flatten [bMo g o a th hi ac tp ba en at2_23 fl2_9 de iD iO tU fm_74 fk fa fc ft ff fb fi]) H ∧ va_D A (List.flatten [bMo g o a th hi ac tp ba en at2_23 fl2_9 de iD iO tU fm_74 fk fa fc ft ff fb fi]) := ⟨upd fm2_70 3 x_73, (rM_s3 rfm2_70 (show 0 ≤ x_73.toInt ∧ x_73.toInt ≤ 8 from (by omega))), hP, hD⟩
          have hP : va_P g.1 vwCl (List.flatten [bMo g o a th hi ac tp ba en at2_23 fl2_9 de iD iO tU fm_74 fk fa fc ft ff fb fi]) H := hP
          have hD : va_D A (List.flatten [bMo g o a th hi ac tp ba en at2_23 fl2_9 de iD iO tU fm_74 fk fa fc ft ff fb fi]) := hD
          exact mret_v hx hb hr hlocks hS (Nat.le_of_ble_eq_true rfl) (Nat.le_of_ble_eq_true rfl) dX12_personLine_135 (at2_23, fl2_9, fm_74) rfl (show (rM fm_74) ∧ (0 ≤ at2_23.toInt ∧ at2_23.toInt ≤ en.toInt + 7 - de.toInt) ∧ (tA.toInt ≤ at2_23.toInt) ∧ (-1 ≤ fl2_9.toInt) from ⟨rfm_74, hq25_0, (by first | assumption | omega | decide | exact rfl | exact zb01 (by omega) | exact Or.inl (by decide) | exact Or.inr (by first | omega | decide)), hq11_2⟩) hP hD
        · skip
          exact absurd (show ¬ fl2_9.toInt = (-1) from zne cb9 rfl (by decide)) (by omega)
  · skip
    have c76 : x_1.toInt = 8 := zeq cb9 rfl (by decide)
    have n77 : 8 ≤ x_1.toInt := Int.le_trans (Int.le_refl _) (Int.le_of_eq c76.symm)
    refine lv_aload_n hx hb dX12_personLine_11 rfl (lv_at hl 0 rfl) ?_
    refine lv_iload_n hx hb dX12_personLine_12 rfl (lv_at hl 1 rfl) ?_
    refine mcallV' (g := g) (q0 := 0) (ci := 10) (As := [.int b0]) (rest := []) St hK hT hA hP hD hS hl.1 [0] [] rfl rfl rfl (m_wrong l g o a th hi ac tp ba en tA fl de iD iO tU fm fk fa fc ft ff fb fi b0 hb0 hfl) (cwV 1 hts (zgL (zl4 k895 k896 k897 k839) k890) rfl rfl rfl (by decide +kernel) ⟨Nat.le_of_ble_eq_true rfl, Nat.le_of_ble_eq_true rfl⟩) rfl rfl rfl rfl (Nat.le_of_ble_eq_true rfl) dX12_personLine_13 ⟨(Nat.le_of_ble_eq_true rfl), (Nat.le_of_ble_eq_true rfl)⟩ (fun fl2_78 H locs hq79 hP hD hS => ?_)
    replace hq79 : (0 ≤ fl2_78.toInt) := hq79
    have hP : va_P g.1 vwCl (List.flatten [bMo g o a th hi ac tp ba en tA fl2_78 de iD iO tU fm fk fa fc ft ff fb fi]) H := hP
    have hD : va_D A (List.flatten [bMo g o a th hi ac tp ba en tA fl2_78 de iD iO tU fm fk fa fc ft ff fb fi]) := hD
    refine W.widen (k := 0) (n := 0) (Nat.le_of_ble_eq_true rfl) (Nat.le_of_ble_eq_true rfl) ?_
    refine W.eq (g2 := F0 m 16 ls []) rfl ?_
    refine lv_aload_n hx hb dX12_personLine_16 rfl (lv_at hl 0 rfl) ?_
    refine lv_iconst (v := 0) hx hb dX12_personLine_17 (by decide) ?_
    refine lv_bipush (v := 99) hx hb dX12_personLine_18 (by decide) ?_
    have hL0 : (0 : Int32).toInt = 0 := by decide
    have hL99 : (99 : Int32).toInt = 99 := by decide
    refine mcallV' (g := g) (q0 := 0) (ci := 10) (As := [.int 0, .int 99]) (rest := []) St hK hT hA hP hD hS hl.1 [0] [] rfl rfl rfl (m_figures l g o a th hi ac tp ba en tA fl2_78 de iD iO tU fm fk fa fc ft ff fb fi 0 99 hba hen htA (Int.le_trans (by decide) hq79) hde) (cwV 2 hts (zgL (zl4 k902 k903 k904 k839) k898) rfl rfl rfl (by decide +kernel) ⟨Nat.le_of_ble_eq_true rfl, Nat.le_of_ble_eq_true rfl⟩) rfl rfl rfl rfl (Nat.le_of_ble_eq_true rfl) dX12_personLine_20 ⟨(Nat.le_of_ble_eq_true rfl), (Nat.le_of_ble_eq_true rfl)⟩ (fun u_ H locs hq83 hP hD hS => ?_)
    obtain ⟨at2_80, fl2_81, r_82⟩ := u_
    replace hq83 : (0 ≤ at2_80.toInt ∧ at2_80.toInt ≤ en.toInt + 7 - de.toInt) ∧ (tA.toInt ≤ at2_80.toInt) ∧ (-1 ≤ fl2_81.toInt) ∧ (zImp (fl2_81.toInt = -1) (fl2_78.toInt = -1 ∧ (0 : Int32).toInt ≤ r_82.toInt ∧ r_82.toInt ≤ (99 : Int32).toInt)) := hq83
    have hP : va_P g.1 vwCl (List.flatten [bMo g o a th hi ac tp ba en at2_80 fl2_81 de iD iO tU fm fk fa fc ft ff fb fi]) H := hP
    have hD : va_D A (List.flatten [bMo g o a th hi ac tp ba en at2_80 fl2_81 de iD iO tU fm fk fa fc ft ff fb fi]) := hD
    refine W.widen (k := 0) (n := 0) (Nat.le_of_ble_eq_true rfl) (Nat.le_of_ble_eq_true rfl) ?_
    refine W.eq (g2 := F0 m 23 ls [.int r_82]) rfl ?_
    obtain ⟨hq83_0, hq83_1, hq83_2, hq83_3⟩ := hq83
    refine lv_istore_n (lv' := [(2, .int r_82), (0, .ref o), (1, .int b0)]) hx hb dX12_personLine_23 rfl hl (by decide) rfl (fun ls hl => ?_)
    refine lv_aload_n hx hb dX12_personLine_24 rfl (lv_at hl 1 rfl) ?_
    refine va_ldcS (q := g.2 62) hx hb hown (zra26 hT.2.1) dX12_personLine_25 ?_
    refine lv_iconst (v := 0) hx hb dX12_personLine_27 (by decide) ?_
    refine lv_sipush (v := 999) hx hb dX12_personLine_28 (by decide) ?_
    have hL999 : (999 : Int32).toInt = 999 := by decide
    refine mcallV' (g := g) (q0 := 0) (ci := 10) (As := [.ref (g.2 62), .int 0, .int 999]) (rest := []) St hK hT hA hP hD hS hl.1 [0] [] rfl rfl rfl (m_after l g o a th hi ac tp ba en at2_80 fl2_81 de iD iO tU fm fk fa fc ft ff fb fi 0 999 (g.2 62) 26 zqa26 hba hen hq83_0 hq83_2 hde rfl zla26 zna26) (cwV 3 hts (zgL (zl4 k906 k907 k908 k839) k905) rfl rfl rfl (by decide +kernel) ⟨Nat.le_of_ble_eq_true rfl, Nat.le_of_ble_eq_true rfl⟩) rfl rfl rfl rfl (Nat.le_of_ble_eq_true rfl) dX12_personLine_31 ⟨(Nat.le_of_ble_eq_true rfl), (Nat.le_of_ble_eq_true rfl)⟩ (fun u_ H locs hq87 hP hD hS => ?_)
    obtain ⟨at2_84, fl2_85, r_86⟩ := u_
    replace hq87 : (0 ≤ at2_84.toInt ∧ at2_84.toInt ≤ en.toInt + 7 - de.toInt) ∧ (at2_80.toInt ≤ at2_84.toInt) ∧ (-1 ≤ fl2_85.toInt) ∧ (zImp (fl2_85.toInt = -1) (fl2_81.toInt = -1 ∧ (0 : Int32).toInt ≤ r_86.toInt ∧ r_86.toInt ≤ (999 : Int32).toInt)) := hq87
    have hP : va_P g.1 vwCl (List.flatten [bMo g o a th hi ac tp ba en at2_84 fl2_85 de iD iO tU fm fk fa fc ft ff fb fi]) H := hP
    have hD : va_D A (List.flatten [bMo g o a th hi ac tp ba en at2_84 fl2_85 de iD iO tU fm fk fa fc ft ff fb fi]) := hD
    refine W.widen (k := 0) (n := 0) (Nat.le_of_ble_eq_true rfl) (Nat.le_of_ble_eq_true rfl) ?_
    refine W.eq (g2 := F0 m 34 ls [.int r_86]) rfl ?_
    obtain ⟨hq87_0, hq87_1, hq87_2, hq87_3⟩ := hq87
    refine lv_istore_n (lv' := [(3, .int r_86), (2, .int r_82), (0, .ref o), (1, .int b0)]) hx hb dX12_personLine_34 rfl hl (by decide) rfl (fun ls hl => ?_)
    refine lv_aload_n hx hb dX12_personLine_35 rfl (lv_at hl 2 rfl) ?_
    refine va_get (D := g.1) (ci := 10) (v := .int fl2_85) (C := RX12) (T := TX12) (N := 20) hx hb hts izRX12 hown hK hP 0 rfl rfl 12 (by decide) (hts _ k820) (fun _ h9 => h9) rfl dX12_personLine_36 ?_
    refine lv_iconst (v := (-1)) hx hb dX12_personLine_39 (by decide) ?_
    refine lv_icmp_ne (tgt := 56) hx hb dX12_personLine_40 (by decide) (fun cb9 => ?_) (fun cb9 => ?_)
    · skip
      have c88 : ¬ fl2_85.toInt = (-1) := zne cb9 rfl (by decide)
      refine lv_iconst (v := 0) hx hb dX12_personLine_56 (by decide) ?_
      refine lv_istore (lv' := [(4, .int 0), (3, .int r_86), (2, .int r_82), (0, .ref o), (1, .int b0)]) hx hb dX12_personLine_57 hl (by decide) rfl (fun ls hl => ?_)
      refine lv_aload_n hx hb dX12_personLine_59 rfl (lv_at hl 3 rfl) ?_
      refine va_get (D := g.1) (ci := 10) (v := .int fl2_85) (C := RX12) (T := TX12) (N := 20) hx hb hts izRX12 hown hK hP 0 rfl rfl 12 (by decide) (hts _ k820) (fun _ h9 => h9) rfl dX12_personLine_60 ?_
      refine lv_iconst (v := (-1)) hx hb dX12_personLine_63 (by decide) ?_
      refine lv_icmp_eq (tgt := 68) hx hb dX12_personLine_64 (by decide) (fun cb9 => ?_) (fun cb9 => ?_)
      · skip
        exact absurd (show fl2_85.toInt = (-1) from zeq cb9 rfl (by decide)) (by omega)
      · skip
        have c90 : ¬ fl2_85.toInt = (-1) := zne cb9 rfl (by decide)
        have hP : va_P g.1 vwCl (List.flatten [bMo g o a th hi ac tp ba en at2_84 fl2_85 de iD iO tU fm fk fa fc ft ff fb fi]) H := hP
        have hD : va_D A (List.flatten [bMo g o a th hi ac tp ba en at2_84 fl2_85 de iD iO tU fm fk fa fc ft ff fb fi]) := hD
        exact mret_v hx hb hr hlocks hS (Nat.le_of_ble_eq_true rfl) (Nat.le_of_ble_eq_true rfl) dX12_personLine_67 (at2_84, fl2_85, fm) rfl (show (rM fm) ∧ (0 ≤ at2_84.toInt ∧ at2_84.toInt ≤ en.toInt + 7 - de.toInt) ∧ (tA.toInt ≤ at2_84.toInt) ∧ (-1 ≤ fl2_85.toInt) from ⟨rfm, hq87_0, (by first | assumption | omega | decide | exact rfl | exact zb01 (by omega) | exact Or.inl (by decide) | exact Or.inr (by first | omega | decide)), hq87_2⟩) hP hD
    · skip
      have c91 : fl2_85.toInt = (-1) := zeq cb9 rfl (by decide)
      have n92 : fl2_85.toInt ≤ (-1) := Int.le_trans (Int.le_of_eq c91) (Int.le_refl _)
      obtain ⟨e94, w93⟩ := hq87_3 c91
      have w95 : 0 ≤ r_86.toInt ∧ r_86.toInt ≤ 999 := by omega
      obtain ⟨e97, w96⟩ := hq83_3 e94
      have w98 : 0 ≤ r_82.toInt ∧ r_82.toInt ≤ 99 := by omega
      exact absurd e97 (zDeq2 (a := 0) (b := -1) hq79 (Int.le_refl _) (by decide))
set_option maxRecDepth 100000 in
set_option maxHeartbeats 4000000 in
theorem m_trustsLine (l : Launch) (g : zG) (o : Nat) (a : Nat → Nat) (th : Int32) (hi : Int32) (ac : Int32) (tp : Int32) (ba : Int32) (en : Int32) (tA : Int32) (fl : Int32) (de : Int32) (iD : Int32) (iO : Int32) (tU : Int32) (fm : Nat → Int32) (fk : Nat → Int32) (fa : Nat → Int32) (fc : Nat → Int32) (ft : Nat → Int32) (ff : Nat → Int32) (fb : Nat → Int32) (fi : Nat → Int32) (rfm : rM fm) (hba : zBa ba.toInt) (hen : 0 ≤ en.toInt ∧ en.toInt ≤ 400) (htA : 0 ≤ tA.toInt ∧ tA.toInt ≤ en.toInt + 7 - de.toInt) (hfl : -1 ≤ fl.toInt) (hde : 0 ≤ de.toInt ∧ de.toInt ≤ 6) : zM' g l yX12_trustsLine (Cond.code yX12_trustsLine cX12_trustsLine 5 none :: zB) ({ frames := 4, cells := 0, slots := 0, locals := 85 } : Room) [.ref o] [bMo g o a th hi ac tp ba en tA fl de iD iO tU fm fk fa fc ft ff fb fi] (fun u : Int32 × Int32 × (Nat → Int32) => (fun (at2 : Int32) (fl2 : Int32) (fm2 : Nat → Int32) => none) (u.1) (u.2.1) (u.2.2)) (fun u : Int32 × Int32 × (Nat → Int32) => (fun (at2 : Int32) (fl2 : Int32) (fm2 : Nat → Int32) => (rM fm2) ∧ (0 ≤ at2.toInt ∧ at2.toInt ≤ en.toInt + 7 - de.toInt) ∧ (tA.toInt ≤ at2.toInt) ∧ (-1 ≤ fl2.toInt)) (u.1) (u.2.1) (u.2.2)) (fun u : Int32 × Int32 × (Nat → Int32) => (fun (at2 : Int32) (fl2 : Int32) (fm2 : Nat → Int32) => [bMo g o a th hi ac tp ba en at2 fl2 de iD iO tU fm2 fk fa fc ft ff fb fi]) (u.1) (u.2.1) (u.2.2)) := by
  refine zM'.of (cc := cX12_trustsLine) (maxL := 5) (rt := none) (by decide) rfl (Nat.le_of_ble_eq_true rfl) ?_
  intro p e s m args below meth c A ls St hr hlocks hin hK hT hA hP hD hS hl
  obtain ⟨hx, hb, hml, hown, hts⟩ := id St
  have hl : lv_has ls 5 [(0, .ref o)] := hl
  refine lv_aload_n hx hb dX12_trustsLine_0 rfl (lv_at hl 0 rfl) ?_
  refine lv_iconst (v := 0) hx hb dX12_trustsLine_1 (by decide) ?_
  refine lv_aload_n hx hb dX12_trustsLine_2 rfl (lv_at hl 0 rfl) ?_
  refine va_get (D := g.1) (ci := 10) (v := .ref (a 0)) (C := RX12) (T := TX12) (N := 20) hx hb hts izRX12 hown hK hP 0 rfl rfl 1 (by decide) (hts _ k815) (fun _ h9 => h9) rfl dX12_trustsLine_3 ?_
  refine lv_iconst (v := 3) hx hb dX12_trustsLine_6 (by decide) ?_
  refine va_iald hx hb hK hP 1 0 rfl rfl (zin rfl) dX12_trustsLine_7 ?_
  refine zgq (r := fm 3) rfl (rM3 rfm) (fun x_1 hx_1 => ?_)
  refine lv_iconst (v := 1) hx hb dX12_trustsLine_8 (by decide) ?_
  refine lv_isub hx hb dX12_trustsLine_9 ?_
  refine zg3 (zsubK (i := x_1.toInt) (j := 1) (a' := (-1)) (b' := 7) rfl (by decide) hx_1.1 hx_1.2.1 (Int.le_refl _) (Int.le_refl _) (by decide)) (fun x_2 hx_2 => ?_)
  have hL0 : (0 : Int32).toInt = 0 := by decide
  refine mcallV' (g := g) (q0 := 0) (ci := 10) (As := [.int 0, .int x_2]) (rest := []) St hK hT hA hP hD hS hl.1 [0] [] rfl rfl rfl (m_figures l g o a th hi ac tp ba en tA fl de iD iO tU fm fk fa fc ft ff fb fi 0 x_2 hba hen htA hfl hde) (cwV 2 hts (zgL (zl4 k902 k903 k904 k839) k898) rfl rfl rfl (by decide +kernel) ⟨Nat.le_of_ble_eq_true rfl, Nat.le_of_ble_eq_true rfl⟩) rfl rfl rfl rfl (Nat.le_of_ble_eq_true rfl) dX12_trustsLine_10 ⟨(Nat.le_of_ble_eq_true rfl), (Nat.le_of_ble_eq_true rfl)⟩ (fun u_ H locs hq6 hP hD hS => ?_)
  obtain ⟨at2_3, fl2_4, r_5⟩ := u_
  replace hq6 : (0 ≤ at2_3.toInt ∧ at2_3.toInt ≤ en.toInt + 7 - de.toInt) ∧ (tA.toInt ≤ at2_3.toInt) ∧ (-1 ≤ fl2_4.toInt) ∧ (zImp (fl2_4.toInt = -1) (fl.toInt = -1 ∧ (0 : Int32).toInt ≤ r_5.toInt ∧ r_5.toInt ≤ x_2.toInt)) := hq6
  have hP : va_P g.1 vwCl (List.flatten [bMo g o a th hi ac tp ba en at2_3 fl2_4 de iD iO tU fm fk fa fc ft ff fb fi]) H := hP
  have hD : va_D A (List.flatten [bMo g o a th hi ac tp ba en at2_3 fl2_4 de iD iO tU fm fk fa fc ft ff fb fi]) := hD
  refine W.widen (k := 0) (n := 0) (Nat.le_of_ble_eq_true rfl) (Nat.le_of_ble_eq_true rfl) ?_
  refine W.eq (g2 := F0 m 13 ls [.int r_5]) rfl ?_
  obtain ⟨hq6_0, hq6_1, hq6_2, hq6_3⟩ := hq6
  refine lv_istore_n (lv' := [(1, .int r_5), (0, .ref o)]) hx hb dX12_trustsLine_13 rfl hl (by decide) rfl (fun ls hl => ?_)
  refine lv_aload_n hx hb dX12_trustsLine_14 rfl (lv_at hl 1 rfl) ?_
  refine mcallV' (g := g) (q0 := 0) (ci := 10) (As := []) (rest := []) St hK hT hA hP hD hS hl.1 [0] [] rfl rfl rfl (m_here l g o a th hi ac tp ba en at2_3 fl2_4 de iD iO tU fm fk fa fc ft ff fb fi hba hen hq6_0 hq6_2 hde) (cwV 0 hts (zgL (zl4 k892 k893 k894 k839) k891) rfl rfl rfl (by decide +kernel) ⟨Nat.le_of_ble_eq_true rfl, Nat.le_of_ble_eq_true rfl⟩) rfl rfl rfl rfl (Nat.le_of_ble_eq_true rfl) dX12_trustsLine_15 ⟨(Nat.le_of_ble_eq_true rfl), (Nat.le_of_ble_eq_true rfl)⟩ (fun at2_7 H locs hq8 hP hD hS => ?_)
  replace hq8 : (0 ≤ at2_7.toInt ∧ at2_7.toInt ≤ en.toInt + 7 - de.toInt) ∧ (at2_3.toInt ≤ at2_7.toInt) := hq8
  have hP : va_P g.1 vwCl (List.flatten [bMo g o a th hi ac tp ba en at2_7 fl2_4 de iD iO tU fm fk fa fc ft ff fb fi]) H := hP
  have hD : va_D A (List.flatten [bMo g o a th hi ac tp ba en at2_7 fl2_4 de iD iO tU fm fk fa fc ft ff fb fi]) := hD
  refine W.widen (k := 0) (n := 0) (Nat.le_of_ble_eq_true rfl) (Nat.le_of_ble_eq_true rfl) ?_
  refine W.eq (g2 := F0 m 18 ls [.int at2_7]) rfl ?_
  obtain ⟨hq8_0, hq8_1⟩ := hq8
  refine lv_istore_n (lv' := [(2, .int at2_7), (1, .int r_5), (0, .ref o)]) hx hb dX12_trustsLine_18 rfl hl (by decide) rfl (fun ls hl => ?_)
  refine lv_iconst (v := 0) hx hb dX12_trustsLine_19 (by decide) ?_
  refine lv_istore_n (lv' := [(3, .int 0), (2, .int at2_7), (1, .int r_5), (0, .ref o)]) hx hb dX12_trustsLine_20 rfl hl (by decide) rfl (fun ls hl => ?_)
  have hl := lv_sub (l' := [(0, .ref o), (1, .int r_5), (2, .int at2_7), (3, .int 0)]) hl [3, 2, 1, 0] rfl
  have LP21_12 : ∀ (kf : Nat) (x_9 : Int32), (0 ≤ x_9.toInt ∧ x_9.toInt ≤ 400) → (x_9.toInt = 0 ∨ at2_7.toInt + x_9.toInt ≤ en.toInt) → ∀ (H : Heap) (locs : List Loc) (ls : Array Slot), ((400 - x_9.toInt).toNat) < kf → va_P g.1 vwCl (List.flatten [bMo g o a th hi ac tp ba en at2_7 fl2_4 de iD iO tU fm fk fa fc ft ff fb fi]) H → va_D A (List.flatten [bMo g o a th hi ac tp ba en at2_7 fl2_4 de iD iO tU fm fk fa fc ft ff fb fi]) → va_S A s.heap H locs → lv_has ls 5 [(0, .ref o), (1, .int r_5), (2, .int at2_7), (3, .int x_9)] → W p l e ({ frames := 4, cells := 0, slots := 0, locals := 85 } : Room) s m args below meth c H locs (0) (0) (zF g (fun u : Int32 × Int32 × (Nat → Int32) => (fun (at2 : Int32) (fl2 : Int32) (fm2 : Nat → Int32) => none) (u.1) (u.2.1) (u.2.2)) (fun u : Int32 × Int32 × (Nat → Int32) => (fun (at2 : Int32) (fl2 : Int32) (fm2 : Nat → Int32) => (rM fm2) ∧ (0 ≤ at2.toInt ∧ at2.toInt ≤ en.toInt + 7 - de.toInt) ∧ (tA.toInt ≤ at2.toInt) ∧ (-1 ≤ fl2.toInt)) (u.1) (u.2.1) (u.2.2)) (fun u : Int32 × Int32 × (Nat → Int32) => (fun (at2 : Int32) (fl2 : Int32) (fm2 : Nat → Int32) => [bMo g o a th hi ac tp ba en at2 fl2 de iD iO tU fm2 fk fa fc ft ff fb fi]) (u.1) (u.2.1) (u.2.2)) ({ frames := 4, cells := 0, slots := 0, locals := 85 } : Room) below args s A) (F0 m 21 ls []) := by
    intro kf
    induction kf with
    | zero => intro x_9 i10 i11 H locs ls hk; exact absurd hk (Nat.not_lt_zero _)
    | succ kf ih21_13 =>
      intro x_9 i10 i11 H locs ls hk21_13 hP hD hS hl
      refine lv_aload_n hx hb dX12_trustsLine_21 rfl (lv_at hl 0 rfl) ?_
      refine va_get (D := g.1) (ci := 10) (v := .int fl2_4) (C := RX12) (T := TX12) (N := 20) hx hb hts izRX12 hown hK hP 0 rfl rfl 12 (by decide) (hts _ k820) (fun _ h9 => h9) rfl dX12_trustsLine_22 ?_
      refine lv_iconst (v := (-1)) hx hb dX12_trustsLine_25 (by decide) ?_
      refine lv_icmp_ne (tgt := 62) hx hb dX12_trustsLine_26 (by decide) (fun cb9 => ?_) (fun cb9 => ?_)
      · skip
        have c14 : ¬ fl2_4.toInt = (-1) := zne cb9 rfl (by decide)
        refine lv_iload_n hx hb dX12_trustsLine_62 rfl (lv_at hl 3 rfl) ?_
        refine lv_aload_n hx hb dX12_trustsLine_63 rfl (lv_at hl 0 rfl) ?_
        refine va_get (D := g.1) (ci := 10) (v := .ref (a 0)) (C := RX12) (T := TX12) (N := 20) hx hb hts izRX12 hown hK hP 0 rfl rfl 1 (by decide) (hts _ k815) (fun _ h9 => h9) rfl dX12_trustsLine_64 ?_
        refine lv_iconst (v := 3) hx hb dX12_trustsLine_67 (by decide) ?_
        refine va_iald hx hb hK hP 1 0 rfl rfl (zin rfl) dX12_trustsLine_68 ?_
        refine zgq (r := fm 3) rfl (rM3 rfm) (fun x_15 hx_15 => ?_)
        refine lv_icmp_eq (tgt := 77) hx hb dX12_trustsLine_69 (by decide) (fun cb9 => ?_) (fun cb9 => ?_)
        · skip
          have c16 : x_9.toInt = x_15.toInt := zeq cb9 rfl rfl
          have n17 : x_9.toInt ≤ 8 := Int.le_trans (Int.le_of_eq c16) hx_15.2.1
          refine lv_aload_n hx hb dX12_trustsLine_77 rfl (lv_at hl 0 rfl) ?_
          refine va_get (D := g.1) (ci := 10) (v := .int fl2_4) (C := RX12) (T := TX12) (N := 20) hx hb hts izRX12 hown hK hP 0 rfl rfl 12 (by decide) (hts _ k820) (fun _ h9 => h9) rfl dX12_trustsLine_78 ?_
          refine lv_iconst (v := (-1)) hx hb dX12_trustsLine_81 (by decide) ?_
          refine lv_icmp_eq (tgt := 86) hx hb dX12_trustsLine_82 (by decide) (fun cb9 => ?_) (fun cb9 => ?_)
          · skip
            exact absurd (show fl2_4.toInt = (-1) from zeq cb9 rfl (by decide)) (by omega)
          · skip
            have c19 : ¬ fl2_4.toInt = (-1) := zne cb9 rfl (by decide)
            have hP : va_P g.1 vwCl (List.flatten [bMo g o a th hi ac tp ba en at2_7 fl2_4 de iD iO tU fm fk fa fc ft ff fb fi]) H := hP
            have hD : va_D A (List.flatten [bMo g o a th hi ac tp ba en at2_7 fl2_4 de iD iO tU fm fk fa fc ft ff fb fi]) := hD
            exact mret_v hx hb hr hlocks hS (Nat.le_of_ble_eq_true rfl) (Nat.le_of_ble_eq_true rfl) dX12_trustsLine_85 (at2_7, fl2_4, fm) rfl (show (rM fm) ∧ (0 ≤ at2_7.toInt ∧ at2_7.toInt ≤ en.toInt + 7 - de.toInt) ∧ (tA.toInt ≤ at2_7.toInt) ∧ (-1 ≤ fl2_4.toInt) from ⟨rfm, hq8_0, (by first | assumption | omega | decide | exact rfl | exact zb01 (by omega) | exact Or.inl (by decide) | exact Or.inr (by first | omega | decide)), hq6_2⟩) hP hD
        · skip
          have c20 : ¬ x_9.toInt = x_15.toInt := zne cb9 rfl rfl
          refine lv_aload_n hx hb dX12_trustsLine_72 rfl (lv_at hl 0 rfl) ?_
          refine lv_iload_n hx hb dX12_trustsLine_73 rfl (lv_at hl 2 rfl) ?_
          refine mcallV' (g := g) (q0 := 0) (ci := 10) (As := [.int at2_7]) (rest := []) St hK hT hA hP hD hS hl.1 [0] [] rfl rfl rfl (m_wrong l g o a th hi ac tp ba en at2_7 fl2_4 de iD iO tU fm fk fa fc ft ff fb fi at2_7 (by first | assumption | omega | decide | exact Or.inl (by decide) | exact Or.inr (by decide)) hq6_2) (cwV 1 hts (zgL (zl4 k895 k896 k897 k839) k890) rfl rfl rfl (by decide +kernel) ⟨Nat.le_of_ble_eq_true rfl, Nat.le_of_ble_eq_true rfl⟩) rfl rfl rfl rfl (Nat.le_of_ble_eq_true rfl) dX12_trustsLine_74 ⟨(Nat.le_of_ble_eq_true rfl), (Nat.le_of_ble_eq_true rfl)⟩ (fun fl2_21 H locs hq22 hP hD hS => ?_)
          replace hq22 : (0 ≤ fl2_21.toInt) := hq22
          have hP : va_P g.1 vwCl (List.flatten [bMo g o a th hi ac tp ba en at2_7 fl2_21 de iD iO tU fm fk fa fc ft ff fb fi]) H := hP
          have hD : va_D A (List.flatten [bMo g o a th hi ac tp ba en at2_7 fl2_21 de iD iO tU fm fk fa fc ft ff fb fi]) := hD
          refine W.widen (k := 0) (n := 0) (Nat.le_of_ble_eq_true rfl) (Nat.le_of_ble_eq_true rfl) ?_
          refine W.eq (g2 := F0 m 77 ls []) rfl ?_
          refine lv_aload_n hx hb dX12_trustsLine_77 rfl (lv_at hl 0 rfl) ?_
          refine va_get (D := g.1) (ci := 10) (v := .int fl2_21) (C := RX12) (T := TX12) (N := 20) hx hb hts izRX12 hown hK hP 0 rfl rfl 12 (by decide) (hts _ k820) (fun _ h9 => h9) rfl dX12_trustsLine_78 ?_
          refine lv_iconst (v := (-1)) hx hb dX12_trustsLine_81 (by decide) ?_
          refine lv_icmp_eq (tgt := 86) hx hb dX12_trustsLine_82 (by decide) (fun cb9 => ?_) (fun cb9 => ?_)
          · skip
            exact absurd (show fl2_21.toInt = (-1) from zeq cb9 rfl (by decide)) (zDeq2 (a := 0) (b := (-1)) hq22 (Int.le_refl _) (by decide))
          · skip
            have c24 : ¬ fl2_21.toInt = (-1) := zne cb9 rfl (by decide)
            have hP : va_P g.1 vwCl (List.flatten [bMo g o a th hi ac tp ba en at2_7 fl2_21 de iD iO tU fm fk fa fc ft ff fb fi]) H := hP
            have hD : va_D A (List.flatten [bMo g o a th hi ac tp ba en at2_7 fl2_21 de iD iO tU fm fk fa fc ft ff fb fi]) := hD
            exact mret_v hx hb hr hlocks hS (Nat.le_of_ble_eq_true rfl) (Nat.le_of_ble_eq_true rfl) dX12_trustsLine_85 (at2_7, fl2_21, fm) rfl (show (rM fm) ∧ (0 ≤ at2_7.toInt ∧ at2_7.toInt ≤ en.toInt + 7 - de.toInt) ∧ (tA.toInt ≤ at2_7.toInt) ∧ (-1 ≤ fl2_21.toInt) from ⟨rfm, hq8_0, (by first | assumption | omega | decide | exact rfl | exact zb01 (by omega) | exact Or.inl (by decide) | exact Or.inr (by first | omega | decide)), (by first | assumption | omega | decide | exact rfl | exact zb01 (by omega) | exact Or.inl (by decide) | exact Or.inr (by first | omega | decide))⟩) hP hD
      · skip
        have c25 : fl2_4.toInt = (-1) := zeq cb9 rfl (by decide)
        have n26 : fl2_4.toInt ≤ (-1) := Int.le_trans (Int.le_of_eq c25) (Int.le_refl _)
        obtain ⟨e28, w27⟩ := hq6_3 c25
        have w29 : 0 ≤ r_5.toInt ∧ r_5.toInt ≤ 7 := by omega
        refine lv_iload_n hx hb dX12_trustsLine_29 rfl (lv_at hl 2 rfl) ?_
        refine lv_iload_n hx hb dX12_trustsLine_30 rfl (lv_at hl 3 rfl) ?_
        refine lv_iadd hx hb dX12_trustsLine_31 ?_
        refine zgv (zadd (i := at2_7.toInt) (j := x_9.toInt) rfl rfl (by omega)) (fun x_30 hx_30 => ?_)
        refine lv_aload_n hx hb dX12_trustsLine_32 rfl (lv_at hl 0 rfl) ?_
        refine va_get (D := g.1) (ci := 10) (v := .int en) (C := RX12) (T := TX12) (N := 20) hx hb hts izRX12 hown hK hP 0 rfl rfl 10 (by decide) (hts _ k879) (fun _ h9 => h9) rfl dX12_trustsLine_33 ?_
        refine lv_icmp_ge (tgt := 62) hx hb dX12_trustsLine_36 (by decide) (fun cb9 => ?_) (fun cb9 => ?_)
        · skip
          have c31 : en.toInt ≤ x_30.toInt := zle cb9 rfl rfl
          refine lv_iload_n hx hb dX12_trustsLine_62 rfl (lv_at hl 3 rfl) ?_
          refine lv_aload_n hx hb dX12_trustsLine_63 rfl (lv_at hl 0 rfl) ?_
          refine va_get (D := g.1) (ci := 10) (v := .ref (a 0)) (C := RX12) (T := TX12) (N := 20) hx hb hts izRX12 hown hK hP 0 rfl rfl 1 (by decide) (hts _ k815) (fun _ h9 => h9) rfl dX12_trustsLine_64 ?_
          refine lv_iconst (v := 3) hx hb dX12_trustsLine_67 (by decide) ?_
          refine va_iald hx hb hK hP 1 0 rfl rfl (zin rfl) dX12_trustsLine_68 ?_
          refine zgq (r := fm 3) rfl (rM3 rfm) (fun x_32 hx_32 => ?_)
          refine lv_icmp_eq (tgt := 77) hx hb dX12_trustsLine_69 (by decide) (fun cb9 => ?_) (fun cb9 => ?_)
          · skip
            have c33 : x_9.toInt = x_32.toInt := zeq cb9 rfl rfl
            have n34 : x_9.toInt ≤ 8 := Int.le_trans (Int.le_of_eq c33) hx_32.2.1
            refine lv_aload_n hx hb dX12_trustsLine_77 rfl (lv_at hl 0 rfl) ?_
            refine va_get (D := g.1) (ci := 10) (v := .int fl2_4) (C := RX12) (T := TX12) (N := 20) hx hb hts izRX12 hown hK hP 0 rfl rfl 12 (by decide) (hts _ k820) (fun _ h9 => h9) rfl dX12_trustsLine_78 ?_
            refine lv_iconst (v := (-1)) hx hb dX12_trustsLine_81 (by decide) ?_
            refine lv_icmp_eq (tgt := 86) hx hb dX12_trustsLine_82 (by decide) (fun cb9 => ?_) (fun cb9 => ?_)
            · skip
              have c35 : fl2_4.toInt = (-1) := zeq cb9 rfl (by decide)
              obtain ⟨e37, w36⟩ := hq6_3 c35
              have w38 : 0 ≤ r_5.toInt ∧ r_5.toInt ≤ 7 := by omega
              have w39 : 0 ≤ r_5.toInt ∧ r_5.toInt ≤ 7 := by omega
              refine lv_iconst (v := 0) hx hb dX12_trustsLine_86 (by decide) ?_
              refine lv_istore (lv' := [(4, .int 0), (0, .ref o), (1, .int r_5), (2, .int at2_7), (3, .int x_9)]) hx hb dX12_trustsLine_87 hl (by decide) rfl (fun ls hl => ?_)
              have hl := lv_sub (l' := [(0, .ref o), (1, .int r_5), (2, .int at2_7), (3, .int x_9), (4, .int 0)]) hl [1, 2, 3, 4, 0] rfl
              have LP89_43 : ∀ (kf : Nat) (x_40 : Int32) (fm_41 : Nat → Int32), (0 ≤ x_40.toInt ∧ x_40.toInt ≤ 8) → (rM fm_41) → ∀ (H : Heap) (locs : List Loc) (ls : Array Slot), ((9 - x_40.toInt).toNat) < kf → va_P g.1 vwCl (List.flatten [bMo g o a th hi ac tp ba en at2_7 fl2_4 de iD iO tU fm_41 fk fa fc ft ff fb fi]) H → va_D A (List.flatten [bMo g o a th hi ac tp ba en at2_7 fl2_4 de iD iO tU fm_41 fk fa fc ft ff fb fi]) → va_S A s.heap H locs → lv_has ls 5 [(0, .ref o), (1, .int r_5), (2, .int at2_7), (3, .int x_9), (4, .int x_40)] → W p l e ({ frames := 4, cells := 0, slots := 0, locals := 85 } : Room) s m args below meth c H locs (0) (0) (zF g (fun u : Int32 × Int32 × (Nat → Int32) => (fun (at2 : Int32) (fl2 : Int32) (fm2 : Nat → Int32) => none) (u.1) (u.2.1) (u.2.2)) (fun u : Int32 × Int32 × (Nat → Int32) => (fun (at2 : Int32) (fl2 : Int32) (fm2 : Nat → Int32) => (rM fm2) ∧ (0 ≤ at2.toInt ∧ at2.toInt ≤ en.toInt + 7 - de.toInt) ∧ (tA.toInt ≤ at2.toInt) ∧ (-1 ≤ fl2.toInt)) (u.1) (u.2.1) (u.2.2)) (fun u : Int32 × Int32 × (Nat → Int32) => (fun (at2 : Int32) (fl2 : Int32) (fm2 : Nat → Int32) => [bMo g o a th hi ac tp ba en at2 fl2 de iD iO tU fm2 fk fa fc ft ff fb fi]) (u.1) (u.2.1) (u.2.2)) ({ frames := 4, cells := 0, slots := 0, locals := 85 } : Room) below args s A) (F0 m 89 ls []) := by
                intro kf
                induction kf with
                | zero => intro x_40 fm_41 i42 rfm_41 H locs ls hk; exact absurd hk (Nat.not_lt_zero _)
                | succ kf ih89_44 =>
                  intro x_40 fm_41 i42 rfm_41 H locs ls hk89_44 hP hD hS hl
                  refine lv_iload hx hb dX12_trustsLine_89 (lv_at hl 4 rfl) ?_
                  refine lv_iload_n hx hb dX12_trustsLine_91 rfl (lv_at hl 3 rfl) ?_
                  refine lv_icmp_ge (tgt := 127) hx hb dX12_trustsLine_92 (by decide) (fun cb9 => ?_) (fun cb9 => ?_)
                  · skip
                    have c45 : x_9.toInt ≤ x_40.toInt := zle cb9 rfl rfl
                    refine lv_aload_n hx hb dX12_trustsLine_127 rfl (lv_at hl 0 rfl) ?_
                    refine lv_iload_n hx hb dX12_trustsLine_128 rfl (lv_at hl 2 rfl) ?_
                    refine lv_iload_n hx hb dX12_trustsLine_129 rfl (lv_at hl 3 rfl) ?_
                    refine lv_iadd hx hb dX12_trustsLine_130 ?_
                    refine zgv (zadd (i := at2_7.toInt) (j := x_9.toInt) rfl rfl (by omega)) (fun x_46 hx_46 => ?_)
                    refine va_put (D := g.1) (ci := 10) (v := .int x_46) (ty := .int) (C := RX12) (T := TX12) (N := 20) hx hb hts izRX12 tyX12 tyX12_ok nmX12 hown hK hP hD hS 0 rfl rfl 11 (by decide) (hts _ k878) (fun _ h9 => h9) rfl (by decide +kernel) rfl rfl (Nat.le_of_ble_eq_true rfl) dX12_trustsLine_131 (fun H locs hP hD hS => ?_)
                    have hP : va_P g.1 vwCl (List.flatten [bMo g o a th hi ac tp ba en x_46 fl2_4 de iD iO tU fm_41 fk fa fc ft ff fb fi]) H := hP
                    have hD : va_D A (List.flatten [bMo g o a th hi ac tp ba en x_46 fl2_4 de iD iO tU fm_41 fk fa fc ft ff fb fi]) := hD
                    have hP : va_P g.1 vwCl (List.flatten [bMo g o a th hi ac tp ba en x_46 fl2_4 de iD iO tU fm_41 fk fa fc ft ff fb fi]) H := hP
                    have hD : va_D A (List.flatten [bMo g o a th hi ac tp ba en x_46 fl2_4 de iD iO tU fm_41 fk fa fc ft ff fb fi]) := hD
                    exact mret_v hx hb hr hlocks hS (Nat.le_of_ble_eq_true rfl) (Nat.le_of_ble_eq_true rfl) dX12_trustsLine_134 (x_46, fl2_4, fm_41) rfl (show (rM fm_41) ∧ (0 ≤ x_46.toInt ∧ x_46.toInt ≤ en.toInt + 7 - de.toInt) ∧ (tA.toInt ≤ x_46.toInt) ∧ (-1 ≤ fl2_4.toInt) from ⟨rfm_41, (by first | assumption | omega | decide | exact rfl | exact zb01 (by omega) | exact Or.inl (by decide) | exact Or.inr (by first | omega | decide)), (by first | assumption | omega | decide | exact rfl | exact zb01 (by omega) | exact Or.inl (by decide) | exact Or.inr (by first | omega | decide)), hq6_2⟩) hP hD
                  · skip
                    have c47 : x_40.toInt < x_9.toInt := zlti (Int32.not_le.mp cb9) rfl rfl
                    have n48 : x_40.toInt ≤ 7 := zL1 (b := 8) c47 n34 (by decide)
                    have n49 : 1 ≤ x_9.toInt := zL2 (a := 0) c47 i42.1 (by decide)
                    refine lv_aload_n hx hb dX12_trustsLine_95 rfl (lv_at hl 0 rfl) ?_
                    refine va_get (D := g.1) (ci := 10) (v := .ref (a 0)) (C := RX12) (T := TX12) (N := 20) hx hb hts izRX12 hown hK hP 0 rfl rfl 1 (by decide) (hts _ k815) (fun _ h9 => h9) rfl dX12_trustsLine_96 ?_
                    refine lv_bipush (v := 51) hx hb dX12_trustsLine_99 (by decide) ?_
                    refine lv_bipush (v := 8) hx hb dX12_trustsLine_101 (by decide) ?_
                    refine lv_iload_n hx hb dX12_trustsLine_103 rfl (lv_at hl 1 rfl) ?_
                    refine lv_imul hx hb dX12_trustsLine_104 ?_
                    refine zg3 (zmulKL (i := r_5.toInt) (n := 8) (a' := 0) (b' := 56) rfl (by decide) w39.1 w39.2 (by decide) (by decide)) (fun x_50 hx_50 => ?_)
                    refine lv_iadd hx hb dX12_trustsLine_105 ?_
                    refine zg3 (zaddK (i := 51) (j := x_50.toInt) (a' := 51) (b' := 107) (by decide) rfl (Int.le_refl _) (Int.le_refl _) hx_50.2.1 hx_50.2.2 (by decide)) (fun x_51 hx_51 => ?_)
                    refine lv_iload hx hb dX12_trustsLine_106 (lv_at hl 4 rfl) ?_
                    refine lv_iadd hx hb dX12_trustsLine_108 ?_
                    refine zg3 (zaddK (i := x_51.toInt) (j := x_40.toInt) (a' := 51) (b' := 114) rfl rfl hx_51.2.1 hx_51.2.2 i42.1 n48 (by decide)) (fun x_52 hx_52 => ?_)
                    refine lv_aload_n hx hb dX12_trustsLine_109 rfl (lv_at hl 0 rfl) ?_
                    refine lv_iload_n hx hb dX12_trustsLine_110 rfl (lv_at hl 2 rfl) ?_
                    refine lv_iload hx hb dX12_trustsLine_111 (lv_at hl 4 rfl) ?_
                    refine lv_iadd hx hb dX12_trustsLine_113 ?_
                    refine zgv (zadd (i := at2_7.toInt) (j := x_40.toInt) rfl rfl (by omega)) (fun x_53 hx_53 => ?_)
                    refine mcallV' (g := g) (q0 := 0) (ci := 10) (As := [.int x_53]) (rest := [.int x_52, .ref (a 0)]) St hK hT hA hP hD hS hl.1 [0] [] rfl rfl rfl (m_letter l g o a th hi ac tp ba en at2_7 fl2_4 de iD iO tU fm_41 fk fa fc ft ff fb fi x_53 (by first | assumption | omega | decide | exact Or.inl (by decide) | exact Or.inr (by decide)) hba) (cwV 1 hts (zgL (zl4 k880 k881 k882 k839) k875) rfl rfl rfl (by decide +kernel) ⟨Nat.le_of_ble_eq_true rfl, Nat.le_of_ble_eq_true rfl⟩) rfl rfl rfl rfl (Nat.le_of_ble_eq_true rfl) dX12_trustsLine_114 ⟨(Nat.le_of_ble_eq_true rfl), (Nat.le_of_ble_eq_true rfl)⟩ (fun q_54 H locs hq55 hP hD hS => ?_)
                    have hP : va_P g.1 vwCl (List.flatten [bMo g o a th hi ac tp ba en at2_7 fl2_4 de iD iO tU fm_41 fk fa fc ft ff fb fi]) H := hP
                    have hD : va_D A (List.flatten [bMo g o a th hi ac tp ba en at2_7 fl2_4 de iD iO tU fm_41 fk fa fc ft ff fb fi]) := hD
                    refine W.widen (k := 0) (n := 0) (Nat.le_of_ble_eq_true rfl) (Nat.le_of_ble_eq_true rfl) ?_
                    refine W.eq (g2 := F0 m 117 ls [.int q_54, .int x_52, .ref (a 0)]) rfl ?_
                    refine lv_bipush (v := 48) hx hb dX12_trustsLine_117 (by decide) ?_
                    refine lv_isub hx hb dX12_trustsLine_119 ?_
                    refine zg (fun x_56 => ?_)
                    refine va_iast hx hb hK hP hD hS 1 0 rfl rfl (zinK (a := 51) (b := 114) hx_52.2.1 hx_52.2.2 (by decide)) dX12_trustsLine_120 (fun H locs hP hD hS => ?_)
                    obtain ⟨fm_57, rfm_57, hkfm_57, hP, hD⟩ : ∃ fm_57 : Nat → Int32, rM fm_57 ∧ ((fm_57 3).toInt = (fm_41 3).toInt ∧ (fm_57 4).toInt = (fm_41 4).toInt) ∧ va_P g.1 vwCl (List.flatten [bMo g o a th hi ac tp ba en at2_7 fl2_4 de iD iO tU fm_57 fk fa fc ft ff fb fi]) H ∧ va_D A (List.flatten [bMo g o a th hi ac tp ba en at2_7 fl2_4 de iD iO tU fm_57 fk fa fc ft ff fb fi]) := ⟨upd fm_41 x_52.toNatClampNeg x_56, (rM_stB rfm_41 (Int.le_trans (by decide) hx_52.2.1)), (rM_kp (j := x_52.toInt) rfl (Int.le_trans (by decide) hx_52.2.1)), hP, hD⟩
                    refine ziinc3 (n' := 1) (a' := 1) (b' := 8) (lv' := fun v9 => [(4, .int v9), (0, .ref o), (1, .int r_5), (2, .int at2_7), (3, .int x_9)]) hx hb dX12_trustsLine_121 hl (k := 4) rfl (by decide) (fun _ => rfl) (zaddK (i := x_40.toInt) (j := 1) rfl (by decide) i42.1 n48 (Int.le_refl _) (Int.le_refl _) (by decide)) (fun x_58 ls hx_58 hl => ?_)
                    refine lv_goto (tgt := 89) hx hb dX12_trustsLine_124 (by decide) ?_
                    have hl := lv_sub (l' := [(0, .ref o), (1, .int r_5), (2, .int at2_7), (3, .int x_9), (4, .int x_58)]) hl [1, 2, 3, 4, 0] rfl
                    have hP : va_P g.1 vwCl (List.flatten [bMo g o a th hi ac tp ba en at2_7 fl2_4 de iD iO tU fm_57 fk fa fc ft ff fb fi]) H := hP
                    have hD : va_D A (List.flatten [bMo g o a th hi ac tp ba en at2_7 fl2_4 de iD iO tU fm_57 fk fa fc ft ff fb fi]) := hD
                    exact ih89_44 x_58 fm_57 ⟨(Int.le_trans (by decide) hx_58.2.1), hx_58.2.2⟩ rfm_57 H _ ls (zmK hx_58.1 (by decide) n48 (by decide) hk89_44)  hP hD hS (lv_sub hl [0, 1, 2, 3, 4] rfl)
              have hP : va_P g.1 vwCl (List.flatten [bMo g o a th hi ac tp ba en at2_7 fl2_4 de iD iO tU fm fk fa fc ft ff fb fi]) H := hP
              have hD : va_D A (List.flatten [bMo g o a th hi ac tp ba en at2_7 fl2_4 de iD iO tU fm fk fa fc ft ff fb fi]) := hD
              exact LP89_43 _ 0 fm (by decide) rfm H _ ls (Nat.lt_succ_self _)  hP hD hS (lv_sub hl [0, 1, 2, 3, 4] rfl)
            · skip
              exact absurd (show ¬ fl2_4.toInt = (-1) from zne cb9 rfl (by decide)) (by omega)
          · skip
            have c60 : ¬ x_9.toInt = x_32.toInt := zne cb9 rfl rfl
            refine lv_aload_n hx hb dX12_trustsLine_72 rfl (lv_at hl 0 rfl) ?_
            refine lv_iload_n hx hb dX12_trustsLine_73 rfl (lv_at hl 2 rfl) ?_
            refine mcallV' (g := g) (q0 := 0) (ci := 10) (As := [.int at2_7]) (rest := []) St hK hT hA hP hD hS hl.1 [0] [] rfl rfl rfl (m_wrong l g o a th hi ac tp ba en at2_7 fl2_4 de iD iO tU fm fk fa fc ft ff fb fi at2_7 (by first | assumption | omega | decide | exact Or.inl (by decide) | exact Or.inr (by decide)) hq6_2) (cwV 1 hts (zgL (zl4 k895 k896 k897 k839) k890) rfl rfl rfl (by decide +kernel) ⟨Nat.le_of_ble_eq_true rfl, Nat.le_of_ble_eq_true rfl⟩) rfl rfl rfl rfl (Nat.le_of_ble_eq_true rfl) dX12_trustsLine_74 ⟨(Nat.le_of_ble_eq_true rfl), (Nat.le_of_ble_eq_true rfl)⟩ (fun fl2_61 H locs hq62 hP hD hS => ?_)
            replace hq62 : (0 ≤ fl2_61.toInt) := hq62
            have hP : va_P g.1 vwCl (List.flatten [bMo g o a th hi ac tp ba en at2_7 fl2_61 de iD iO tU fm fk fa fc ft ff fb fi]) H := hP
            have hD : va_D A (List.flatten [bMo g o a th hi ac tp ba en at2_7 fl2_61 de iD iO tU fm fk fa fc ft ff fb fi]) := hD
            refine W.widen (k := 0) (n := 0) (Nat.le_of_ble_eq_true rfl) (Nat.le_of_ble_eq_true rfl) ?_
            refine W.eq (g2 := F0 m 77 ls []) rfl ?_
            refine lv_aload_n hx hb dX12_trustsLine_77 rfl (lv_at hl 0 rfl) ?_
            refine va_get (D := g.1) (ci := 10) (v := .int fl2_61) (C := RX12) (T := TX12) (N := 20) hx hb hts izRX12 hown hK hP 0 rfl rfl 12 (by decide) (hts _ k820) (fun _ h9 => h9) rfl dX12_trustsLine_78 ?_
            refine lv_iconst (v := (-1)) hx hb dX12_trustsLine_81 (by decide) ?_
            refine lv_icmp_eq (tgt := 86) hx hb dX12_trustsLine_82 (by decide) (fun cb9 => ?_) (fun cb9 => ?_)
            · skip
              exact absurd (show fl2_61.toInt = (-1) from zeq cb9 rfl (by decide)) (zDeq2 (a := 0) (b := (-1)) hq62 (Int.le_refl _) (by decide))
            · skip
              have c64 : ¬ fl2_61.toInt = (-1) := zne cb9 rfl (by decide)
              have hP : va_P g.1 vwCl (List.flatten [bMo g o a th hi ac tp ba en at2_7 fl2_61 de iD iO tU fm fk fa fc ft ff fb fi]) H := hP
              have hD : va_D A (List.flatten [bMo g o a th hi ac tp ba en at2_7 fl2_61 de iD iO tU fm fk fa fc ft ff fb fi]) := hD
              exact mret_v hx hb hr hlocks hS (Nat.le_of_ble_eq_true rfl) (Nat.le_of_ble_eq_true rfl) dX12_trustsLine_85 (at2_7, fl2_61, fm) rfl (show (rM fm) ∧ (0 ≤ at2_7.toInt ∧ at2_7.toInt ≤ en.toInt + 7 - de.toInt) ∧ (tA.toInt ≤ at2_7.toInt) ∧ (-1 ≤ fl2_61.toInt) from ⟨rfm, hq8_0, (by first | assumption | omega | decide | exact rfl | exact zb01 (by omega) | exact Or.inl (by decide) | exact Or.inr (by first | omega | decide)), (by first | assumption | omega | decide | exact rfl | exact zb01 (by omega) | exact Or.inl (by decide) | exact Or.inr (by first | omega | decide))⟩) hP hD
        · skip
          have c65 : x_30.toInt < en.toInt := zlti (Int32.not_le.mp cb9) rfl rfl
          have n66 : x_30.toInt ≤ 399 := zL1 (b := 400) c65 hen.2 (by decide)
          refine lv_aload_n hx hb dX12_trustsLine_39 rfl (lv_at hl 0 rfl) ?_
          refine lv_iload_n hx hb dX12_trustsLine_40 rfl (lv_at hl 2 rfl) ?_
          refine lv_iload_n hx hb dX12_trustsLine_41 rfl (lv_at hl 3 rfl) ?_
          refine lv_iadd hx hb dX12_trustsLine_42 ?_
          refine zgv (zadd (i := at2_7.toInt) (j := x_9.toInt) rfl rfl (by omega)) (fun x_67 hx_67 => ?_)
          refine mcallV' (g := g) (q0 := 0) (ci := 10) (As := [.int x_67]) (rest := []) St hK hT hA hP hD hS hl.1 [0] [] rfl rfl rfl (m_letter l g o a th hi ac tp ba en at2_7 fl2_4 de iD iO tU fm fk fa fc ft ff fb fi x_67 (by first | assumption | omega | decide | exact Or.inl (by decide) | exact Or.inr (by decide)) hba) (cwV 1 hts (zgL (zl4 k880 k881 k882 k839) k875) rfl rfl rfl (by decide +kernel) ⟨Nat.le_of_ble_eq_true rfl, Nat.le_of_ble_eq_true rfl⟩) rfl rfl rfl rfl (Nat.le_of_ble_eq_true rfl) dX12_trustsLine_43 ⟨(Nat.le_of_ble_eq_true rfl), (Nat.le_of_ble_eq_true rfl)⟩ (fun q_68 H locs hq69 hP hD hS => ?_)
          have hP : va_P g.1 vwCl (List.flatten [bMo g o a th hi ac tp ba en at2_7 fl2_4 de iD iO tU fm fk fa fc ft ff fb fi]) H := hP
          have hD : va_D A (List.flatten [bMo g o a th hi ac tp ba en at2_7 fl2_4 de iD iO tU fm fk fa fc ft ff fb fi]) := hD
          refine W.widen (k := 0) (n := 0) (Nat.le_of_ble_eq_true rfl) (Nat.le_of_ble_eq_true rfl) ?_
          refine W.eq (g2 := F0 m 46 ls [.int q_68]) rfl ?_
          refine lv_bipush (v := 48) hx hb dX12_trustsLine_46 (by decide) ?_
          refine lv_bipush (v := 57) hx hb dX12_trustsLine_48 (by decide) ?_
          have hL48 : (48 : Int32).toInt = 48 := by decide
          have hL57 : (57 : Int32).toInt = 57 := by decide
          refine mcallS' (g := g) (As := [.int q_68, .int 48, .int 57]) (rest := []) St hK hT hA hP hD hS hl.1 [] [0] rfl rfl rfl (m_isIn l g q_68 48 57 ) (va_cwS 3 hts (zgL (zl3 k837 k838 k839) k826) rfl rfl rfl (by decide +kernel) ⟨Nat.le_of_ble_eq_true rfl, Nat.le_of_ble_eq_true rfl⟩) rfl rfl (Nat.le_of_ble_eq_true rfl) dX12_trustsLine_50 ⟨(Nat.le_of_ble_eq_true rfl), (Nat.le_of_ble_eq_true rfl)⟩ (fun q_70 H locs hq71 hP hD hS => ?_)
          replace hq71 : (q_70 = 1 ∧ (48 : Int32).toInt ≤ q_68.toInt ∧ q_68.toInt ≤ (57 : Int32).toInt ∨ q_70 = 0 ∧ (q_68.toInt < (48 : Int32).toInt ∨ (57 : Int32).toInt < q_68.toInt)) := hq71
          have hP : va_P g.1 vwCl (List.flatten [bMo g o a th hi ac tp ba en at2_7 fl2_4 de iD iO tU fm fk fa fc ft ff fb fi]) H := hP
          have hD : va_D A (List.flatten [bMo g o a th hi ac tp ba en at2_7 fl2_4 de iD iO tU fm fk fa fc ft ff fb fi]) := hD
          refine W.widen (k := 0) (n := 0) (Nat.le_of_ble_eq_true rfl) (Nat.le_of_ble_eq_true rfl) ?_
          refine W.eq (g2 := F0 m 53 ls [.int q_70]) rfl ?_
          rcases hq71 with ⟨rfl, hq71_k⟩ | ⟨rfl, hq71_k⟩
          · skip
            refine lv_if_eq (tgt := 62) hx hb dX12_trustsLine_53 (by decide) (fun c72 => absurd c72 (by decide)) (fun _ => ?_)
            refine ziinc3 (n' := 1) (a' := 1) (b' := 401) (lv' := fun v9 => [(3, .int v9), (0, .ref o), (1, .int r_5), (2, .int at2_7)]) hx hb dX12_trustsLine_56 hl (k := 3) rfl (by decide) (fun _ => rfl) (zaddK (i := x_9.toInt) (j := 1) rfl (by decide) i10.1 i10.2 (Int.le_refl _) (Int.le_refl _) (by decide)) (fun x_73 ls hx_73 hl => ?_)
            refine lv_goto (tgt := 21) hx hb dX12_trustsLine_59 (by decide) ?_
            have hl := lv_sub (l' := [(0, .ref o), (1, .int r_5), (2, .int at2_7), (3, .int x_73)]) hl [1, 2, 3, 0] rfl
            have hP : va_P g.1 vwCl (List.flatten [bMo g o a th hi ac tp ba en at2_7 fl2_4 de iD iO tU fm fk fa fc ft ff fb fi]) H := hP
            have hD : va_D A (List.flatten [bMo g o a th hi ac tp ba en at2_7 fl2_4 de iD iO tU fm fk fa fc ft ff fb fi]) := hD
            exact ih21_13 x_73 (by first | omega | assumption | decide) (by first | omega | assumption | decide) H _ ls (by omega)  hP hD hS (lv_sub hl [0, 1, 2, 3] rfl)
          · skip
            refine lv_if_eq (tgt := 62) hx hb dX12_trustsLine_53 (by decide) (fun _ => ?_) (fun c74 => absurd (by decide) c74)
            refine lv_iload_n hx hb dX12_trustsLine_62 rfl (lv_at hl 3 rfl) ?_
            refine lv_aload_n hx hb dX12_trustsLine_63 rfl (lv_at hl 0 rfl) ?_
            refine va_get (D := g.1) (ci := 10) (v := .ref (a 0)) (C := RX12) (T := TX12) (N := 20) hx hb hts izRX12 hown hK hP 0 rfl rfl 1 (by decide) (hts _ k815) (fun _ h9 => h9) rfl dX12_trustsLine_64 ?_
            refine lv_iconst (v := 3) hx hb dX12_trustsLine_67 (by decide) ?_
            refine va_iald hx hb hK hP 1 0 rfl rfl (zin rfl) dX12_trustsLine_68 ?_
            refine zgq (r := fm 3) rfl (rM3 rfm) (fun x_75 hx_75 => ?_)
            refine lv_icmp_eq (tgt := 77) hx hb dX12_trustsLine_69 (by decide) (fun cb9 => ?_) (fun cb9 => ?_)
            · skip
              have c76 : x_9.toInt = x_75.toInt := zeq cb9 rfl rfl
              have n77 : x_9.toInt ≤ 8 := Int.le_trans (Int.le_of_eq c76) hx_75.2.1
              refine lv_aload_n hx hb dX12_trustsLine_77 rfl (lv_at hl 0 rfl) ?_
              refine va_get (D := g.1) (ci := 10) (v := .int fl2_4) (C := RX12) (T := TX12) (N := 20) hx hb hts izRX12 hown hK hP 0 rfl rfl 12 (by decide) (hts _ k820) (fun _ h9 => h9) rfl dX12_trustsLine_78 ?_
              refine lv_iconst (v := (-1)) hx hb dX12_trustsLine_81 (by decide) ?_
              refine lv_icmp_eq (tgt := 86) hx hb dX12_trustsLine_82 (by decide) (fun cb9 => ?_) (fun cb9 => ?_)
              · skip
                have c78 : fl2_4.toInt = (-1) := zeq cb9 rfl (by decide)
                obtain ⟨e80, w79⟩ := hq6_3 c78
                have w81 : 0 ≤ r_5.toInt ∧ r_5.toInt ≤ 7 := by omega
                have w82 : 0 ≤ r_5.toInt ∧ r_5.toInt ≤ 7 := by omega
                refine lv_iconst (v := 0) hx hb dX12_trustsLine_86 (by decide) ?_
                refine lv_istore (lv' := [(4, .int 0), (0, .ref o), (1, .int r_5), (2, .int at2_7), (3, .int x_9)]) hx hb dX12_trustsLine_87 hl (by decide) rfl (fun ls hl => ?_)
                have hl := lv_sub (l' := [(0, .ref o), (1, .int r_5), (2, .int at2_7), (3, .int x_9), (4, .int 0)]) hl [1, 2, 3, 4, 0] rfl
                have LP89_86 : ∀ (kf : Nat) (x_83 : Int32) (fm_84 : Nat → Int32), (0 ≤ x_83.toInt ∧ x_83.toInt ≤ 8) → (rM fm_84) → ∀ (H : Heap) (locs : List Loc) (ls : Array Slot), ((9 - x_83.toInt).toNat) < kf → va_P g.1 vwCl (List.flatten [bMo g o a th hi ac tp ba en at2_7 fl2_4 de iD iO tU fm_84 fk fa fc ft ff fb fi]) H → va_D A (List.flatten [bMo g o a th hi ac tp ba en at2_7 fl2_4 de iD iO tU fm_84 fk fa fc ft ff fb fi]) → va_S A s.heap H locs → lv_has ls 5 [(0, .ref o), (1, .int r_5), (2, .int at2_7), (3, .int x_9), (4, .int x_83)] → W p l e ({ frames := 4, cells := 0, slots := 0, locals := 85 } : Room) s m args below meth c H locs (0) (0) (zF g (fun u : Int32 × Int32 × (Nat → Int32) => (fun (at2 : Int32) (fl2 : Int32) (fm2 : Nat → Int32) => none) (u.1) (u.2.1) (u.2.2)) (fun u : Int32 × Int32 × (Nat → Int32) => (fun (at2 : Int32) (fl2 : Int32) (fm2 : Nat → Int32) => (rM fm2) ∧ (0 ≤ at2.toInt ∧ at2.toInt ≤ en.toInt + 7 - de.toInt) ∧ (tA.toInt ≤ at2.toInt) ∧ (-1 ≤ fl2.toInt)) (u.1) (u.2.1) (u.2.2)) (fun u : Int32 × Int32 × (Nat → Int32) => (fun (at2 : Int32) (fl2 : Int32) (fm2 : Nat → Int32) => [bMo g o a th hi ac tp ba en at2 fl2 de iD iO tU fm2 fk fa fc ft ff fb fi]) (u.1) (u.2.1) (u.2.2)) ({ frames := 4, cells := 0, slots := 0, locals := 85 } : Room) below args s A) (F0 m 89 ls []) := by
                  intro kf
                  induction kf with
                  | zero => intro x_83 fm_84 i85 rfm_84 H locs ls hk; exact absurd hk (Nat.not_lt_zero _)
                  | succ kf ih89_87 =>
                    intro x_83 fm_84 i85 rfm_84 H locs ls hk89_87 hP hD hS hl
                    refine lv_iload hx hb dX12_trustsLine_89 (lv_at hl 4 rfl) ?_
                    refine lv_iload_n hx hb dX12_trustsLine_91 rfl (lv_at hl 3 rfl) ?_
                    refine lv_icmp_ge (tgt := 127) hx hb dX12_trustsLine_92 (by decide) (fun cb9 => ?_) (fun cb9 => ?_)
                    · skip
                      have c88 : x_9.toInt ≤ x_83.toInt := zle cb9 rfl rfl
                      refine lv_aload_n hx hb dX12_trustsLine_127 rfl (lv_at hl 0 rfl) ?_
                      refine lv_iload_n hx hb dX12_trustsLine_128 rfl (lv_at hl 2 rfl) ?_
                      refine lv_iload_n hx hb dX12_trustsLine_129 rfl (lv_at hl 3 rfl) ?_
                      refine lv_iadd hx hb dX12_trustsLine_130 ?_
                      refine zgv (zadd (i := at2_7.toInt) (j := x_9.toInt) rfl rfl (by omega)) (fun x_89 hx_89 => ?_)
                      refine va_put (D := g.1) (ci := 10) (v := .int x_89) (ty := .int) (C := RX12) (T := TX12) (N := 20) hx hb hts izRX12 tyX12 tyX12_ok nmX12 hown hK hP hD hS 0 rfl rfl 11 (by decide) (hts _ k878) (fun _ h9 => h9) rfl (by decide +kernel) rfl rfl (Nat.le_of_ble_eq_true rfl) dX12_trustsLine_131 (fun H locs hP hD hS => ?_)
                      have hP : va_P g.1 vwCl (List.flatten [bMo g o a th hi ac tp ba en x_89 fl2_4 de iD iO tU fm_84 fk fa fc ft ff fb fi]) H := hP
                      have hD : va_D A (List.flatten [bMo g o a th hi ac tp ba en x_89 fl2_4 de iD iO tU fm_84 fk fa fc ft ff fb fi]) := hD
                      have hP : va_P g.1 vwCl (List.flatten [bMo g o a th hi ac tp ba en x_89 fl2_4 de iD iO tU fm_84 fk fa fc ft ff fb fi]) H := hP
                      have hD : va_D A (List.flatten [bMo g o a th hi ac tp ba en x_89 fl2_4 de iD iO tU fm_84 fk fa fc ft ff fb fi]) := hD
                      exact mret_v hx hb hr hlocks hS (Nat.le_of_ble_eq_true rfl) (Nat.le_of_ble_eq_true rfl) dX12_trustsLine_134 (x_89, fl2_4, fm_84) rfl (show (rM fm_84) ∧ (0 ≤ x_89.toInt ∧ x_89.toInt ≤ en.toInt + 7 - de.toInt) ∧ (tA.toInt ≤ x_89.toInt) ∧ (-1 ≤ fl2_4.toInt) from ⟨rfm_84, (by first | assumption | omega | decide | exact rfl | exact zb01 (by omega) | exact Or.inl (by decide) | exact Or.inr (by first | omega | decide)), (by first | assumption | omega | decide | exact rfl | exact zb01 (by omega) | exact Or.inl (by decide) | exact Or.inr (by first | omega | decide)), hq6_2⟩) hP hD
                    · skip
                      have c90 : x_83.toInt < x_9.toInt := zlti (Int32.not_le.mp cb9) rfl rfl
                      have n91 : x_83.toInt ≤ 7 := zL1 (b := 8) c90 n77 (by decide)
                      have n92 : 1 ≤ x_9.toInt := zL2 (a := 0) c90 i85.1 (by decide)
                      refine lv_aload_n hx hb dX12_trustsLine_95 rfl (lv_at hl 0 rfl) ?_
                      refine va_get (D := g.1) (ci := 10) (v := .ref (a 0)) (C := RX12) (T := TX12) (N := 20) hx hb hts izRX12 hown hK hP 0 rfl rfl 1 (by decide) (hts _ k815) (fun _ h9 => h9) rfl dX12_trustsLine_96 ?_
                      refine lv_bipush (v := 51) hx hb dX12_trustsLine_99 (by decide) ?_
                      refine lv_bipush (v := 8) hx hb dX12_trustsLine_101 (by decide) ?_
                      refine lv_iload_n hx hb dX12_trustsLine_103 rfl (lv_at hl 1 rfl) ?_
                      refine lv_imul hx hb dX12_trustsLine_104 ?_
                      refine zg3 (zmulKL (i := r_5.toInt) (n := 8) (a' := 0) (b' := 56) rfl (by decide) w82.1 w82.2 (by decide) (by decide)) (fun x_93 hx_93 => ?_)
                      refine lv_iadd hx hb dX12_trustsLine_105 ?_
                      refine zg3 (zaddK (i := 51) (j := x_93.toInt) (a' := 51) (b' := 107) (by decide) rfl (Int.le_refl _) (Int.le_refl _) hx_93.2.1 hx_93.2.2 (by decide)) (fun x_94 hx_94 => ?_)
                      refine lv_iload hx hb dX12_trustsLine_106 (lv_at hl 4 rfl) ?_
                      refine lv_iadd hx hb dX12_trustsLine_108 ?_
                      refine zg3 (zaddK (i := x_94.toInt) (j := x_83.toInt) (a' := 51) (b' := 114) rfl rfl hx_94.2.1 hx_94.2.2 i85.1 n91 (by decide)) (fun x_95 hx_95 => ?_)
                      refine lv_aload_n hx hb dX12_trustsLine_109 rfl (lv_at hl 0 rfl) ?_
                      refine lv_iload_n hx hb dX12_trustsLine_110 rfl (lv_at hl 2 rfl) ?_
                      refine lv_iload hx hb dX12_trustsLine_111 (lv_at hl 4 rfl) ?_
                      refine lv_iadd hx hb dX12_trustsLine_113 ?_
                      refine zgv (zadd (i := at2_7.toInt) (j := x_83.toInt) rfl rfl (by omega)) (fun x_96 hx_96 => ?_)
                      refine mcallV' (g := g) (q0 := 0) (ci := 10) (As := [.int x_96]) (rest := [.int x_95, .ref (a 0)]) St hK hT hA hP hD hS hl.1 [0] [] rfl rfl rfl (m_letter l g o a th hi ac tp ba en at2_7 fl2_4 de iD iO tU fm_84 fk fa fc ft ff fb fi x_96 (by first | assumption | omega | decide | exact Or.inl (by decide) | exact Or.inr (by decide)) hba) (cwV 1 hts (zgL (zl4 k880 k881 k882 k839) k875) rfl rfl rfl (by decide +kernel) ⟨Nat.le_of_ble_eq_true rfl, Nat.le_of_ble_eq_true rfl⟩) rfl rfl rfl rfl (Nat.le_of_ble_eq_true rfl) dX12_trustsLine_114 ⟨(Nat.le_of_ble_eq_true rfl), (Nat.le_of_ble_eq_true rfl)⟩ (fun q_97 H locs hq98 hP hD hS => ?_)
                      have hP : va_P g.1 vwCl (List.flatten [bMo g o a th hi ac tp ba en at2_7 fl2_4 de iD iO tU fm_84 fk fa fc ft ff fb fi]) H := hP
                      have hD : va_D A (List.flatten [bMo g o a th hi ac tp ba en at2_7 fl2_4 de iD iO tU fm_84 fk fa fc ft ff fb fi]) := hD
                      refine W.widen (k := 0) (n := 0) (Nat.le_of_ble_eq_true rfl) (Nat.le_of_ble_eq_true rfl) ?_
                      refine W.eq (g2 := F0 m 117 ls [.int q_97, .int x_95, .ref (a 0)]) rfl ?_
                      refine lv_bipush (v := 48) hx hb dX12_trustsLine_117 (by decide) ?_
                      refine lv_isub hx hb dX12_trustsLine_119 ?_
                      refine zg (fun x_99 => ?_)
                      refine va_iast hx hb hK hP hD hS 1 0 rfl rfl (zinK (a := 51) (b := 114) hx_95.2.1 hx_95.2.2 (by decide)) dX12_trustsLine_120 (fun H locs hP hD hS => ?_)
                      obtain ⟨fm_100, rfm_100, hkfm_100, hP, hD⟩ : ∃ fm_100 : Nat → Int32, rM fm_100 ∧ ((fm_100 3).toInt = (fm_84 3).toInt ∧ (fm_100 4).toInt = (fm_84 4).toInt) ∧ va_P g.1 vwCl (List.flatten [bMo g o a th hi ac tp ba en at2_7 fl2_4 de iD iO tU fm_100 fk fa fc ft ff fb fi]) H ∧ va_D A (List.flatten [bMo g o a th hi ac tp ba en at2_7 fl2_4 de iD iO tU fm_100 fk fa fc ft ff fb fi]) := ⟨upd fm_84 x_95.toNatClampNeg x_99, (rM_stB rfm_84 (Int.le_trans (by decide) hx_95.2.1)), (rM_kp (j := x_95.toInt) rfl (Int.le_trans (by decide) hx_95.2.1)), hP, hD⟩
                      refine ziinc3 (n' := 1) (a' := 1) (b' := 8) (lv' := fun v9 => [(4, .int v9), (0, .ref o), (1, .int r_5), (2, .int at2_7), (3, .int x_9)]) hx hb dX12_trustsLine_121 hl (k := 4) rfl (by decide) (fun _ => rfl) (zaddK (i := x_83.toInt) (j := 1) rfl (by decide) i85.1 n91 (Int.le_refl _) (Int.le_refl _) (by decide)) (fun x_101 ls hx_101 hl => ?_)
                      refine lv_goto (tgt := 89) hx hb dX12_trustsLine_124 (by decide) ?_
                      have hl := lv_sub (l' := [(0, .ref o), (1, .int r_5), (2, .int at2_7), (3, .int x_9), (4, .int x_101)]) hl [1, 2, 3, 4, 0] rfl
                      have hP : va_P g.1 vwCl (List.flatten [bMo g o a th hi ac tp ba en at2_7 fl2_4 de iD iO tU fm_100 fk fa fc ft ff fb fi]) H := hP
                      have hD : va_D A (List.flatten [bMo g o a th hi ac tp ba en at2_7 fl2_4 de iD iO tU fm_100 fk fa fc ft ff fb fi]) := hD
                      exact ih89_87 x_101 fm_100 ⟨(Int.le_trans (by decide) hx_101.2.1), hx_101.2.2⟩ rfm_100 H _ ls (zmK hx_101.1 (by decide) n91 (by decide) hk89_87)  hP hD hS (lv_sub hl [0, 1, 2, 3, 4] rfl)
                have hP : va_P g.1 vwCl (List.flatten [bMo g o a th hi ac tp ba en at2_7 fl2_4 de iD iO tU fm fk fa fc ft ff fb fi]) H := hP
                have hD : va_D A (List.flatten [bMo g o a th hi ac tp ba en at2_7 fl2_4 de iD iO tU fm fk fa fc ft ff fb fi]) := hD
                exact LP89_86 _ 0 fm (by decide) rfm H _ ls (Nat.lt_succ_self _)  hP hD hS (lv_sub hl [0, 1, 2, 3, 4] rfl)
              · skip
                exact absurd (show ¬ fl2_4.toInt = (-1) from zne cb9 rfl (by decide)) (by omega)
            · skip
              have c103 : ¬ x_9.toInt = x_75.toInt := zne cb9 rfl rfl
              refine lv_aload_n hx hb dX12_trustsLine_72 rfl (lv_at hl 0 rfl) ?_
              refine lv_iload_n hx hb dX12_trustsLine_73 rfl (lv_at hl 2 rfl) ?_
              refine mcallV' (g := g) (q0 := 0) (ci := 10) (As := [.int at2_7]) (rest := []) St hK hT hA hP hD hS hl.1 [0] [] rfl rfl rfl (m_wrong l g o a th hi ac tp ba en at2_7 fl2_4 de iD iO tU fm fk fa fc ft ff fb fi at2_7 (by first | assumption | omega | decide | exact Or.inl (by decide) | exact Or.inr (by decide)) hq6_2) (cwV 1 hts (zgL (zl4 k895 k896 k897 k839) k890) rfl rfl rfl (by decide +kernel) ⟨Nat.le_of_ble_eq_true rfl, Nat.le_of_ble_eq_true rfl⟩) rfl rfl rfl rfl (Nat.le_of_ble_eq_true rfl) dX12_trustsLine_74 ⟨(Nat.le_of_ble_eq_true rfl), (Nat.le_of_ble_eq_true rfl)⟩ (fun fl2_104 H locs hq105 hP hD hS => ?_)
              replace hq105 : (0 ≤ fl2_104.toInt) := hq105
              have hP : va_P g.1 vwCl (List.flatten [bMo g o a th hi ac tp ba en at2_7 fl2_104 de iD iO tU fm fk fa fc ft ff fb fi]) H := hP
              have hD : va_D A (List.flatten [bMo g o a th hi ac tp ba en at2_7 fl2_104 de iD iO tU fm fk fa fc ft ff fb fi]) := hD
              refine W.widen (k := 0) (n := 0) (Nat.le_of_ble_eq_true rfl) (Nat.le_of_ble_eq_true rfl) ?_
              refine W.eq (g2 := F0 m 77 ls []) rfl ?_
              refine lv_aload_n hx hb dX12_trustsLine_77 rfl (lv_at hl 0 rfl) ?_
              refine va_get (D := g.1) (ci := 10) (v := .int fl2_104) (C := RX12) (T := TX12) (N := 20) hx hb hts izRX12 hown hK hP 0 rfl rfl 12 (by decide) (hts _ k820) (fun _ h9 => h9) rfl dX12_trustsLine_78 ?_
              refine lv_iconst (v := (-1)) hx hb dX12_trustsLine_81 (by decide) ?_
              refine lv_icmp_eq (tgt := 86) hx hb dX12_trustsLine_82 (by decide) (fun cb9 => ?_) (fun cb9 => ?_)
              · skip
                exact absurd (show fl2_104.toInt = (-1) from zeq cb9 rfl (by decide)) (zDeq2 (a := 0) (b := (-1)) hq105 (Int.le_refl _) (by decide))
              · skip
                have c107 : ¬ fl2_104.toInt = (-1) := zne cb9 rfl (by decide)
                have hP : va_P g.1 vwCl (List.flatten [bMo g o a th hi ac tp ba en at2_7 fl2_104 de iD iO tU fm fk fa fc ft ff fb fi]) H := hP
                have hD : va_D A (List.flatten [bMo g o a th hi ac tp ba en at2_7 fl2_104 de iD iO tU fm fk fa fc ft ff fb fi]) := hD
                exact mret_v hx hb hr hlocks hS (Nat.le_of_ble_eq_true rfl) (Nat.le_of_ble_eq_true rfl) dX12_trustsLine_85 (at2_7, fl2_104, fm) rfl (show (rM fm) ∧ (0 ≤ at2_7.toInt ∧ at2_7.toInt ≤ en.toInt + 7 - de.toInt) ∧ (tA.toInt ≤ at2_7.toInt) ∧ (-1 ≤ fl2_104.toInt) from ⟨rfm, hq8_0, (by first | assumption | omega | decide | exact rfl | exact zb01 (by omega) | exact Or.inl (by decide) | exact Or.inr (by first | omega | decide)), (by first | assumption | omega | decide | exact rfl | exact zb01 (by omega) | exact Or.inl (by decide) | exact Or.inr (by first | omega | decide))⟩) hP hD
  have hP : va_P g.1 vwCl (List.flatten [bMo g o a th hi ac tp ba en at2_7 fl2_4 de iD iO tU fm fk fa fc ft ff fb fi]) H := hP
  have hD : va_D A (List.flatten [bMo g o a th hi ac tp ba en at2_7 fl2_4 de iD iO tU fm fk fa fc ft ff fb fi]) := hD
  exact LP21_12 _ 0 (by decide) (by first | omega | assumption | decide) H _ ls (Nat.lt_succ_self _)  hP hD hS (lv_sub hl [0, 1, 2, 3] rfl)
set_option maxRecDepth 100000 in
set_option maxHeartbeats 4000000 in
theorem m_workLine (l : Launch) (g : zG) (o : Nat) (a : Nat → Nat) (th : Int32) (hi : Int32) (ac : Int32) (tp : Int32) (ba : Int32) (en : Int32) (tA : Int32) (fl : Int32) (de : Int32) (iD : Int32) (iO : Int32) (tU : Int32) (fm : Nat → Int32) (fk : Nat → Int32) (fa : Nat → Int32) (fc : Nat → Int32) (ft : Nat → Int32) (ff : Nat → Int32) (fb : Nat → Int32) (fi : Nat → Int32) (b0 : Int32) (rfm : rM fm) (hba : zBa ba.toInt) (hen : 0 ≤ en.toInt ∧ en.toInt ≤ 400) (htA : 0 ≤ tA.toInt ∧ tA.toInt ≤ en.toInt + 7 - de.toInt) (hfl : -1 ≤ fl.toInt) (hde : 0 ≤ de.toInt ∧ de.toInt ≤ 6) (hb0 : 0 ≤ b0.toInt) : zM' g l yX12_workLine (Cond.code yX12_workLine cX12_workLine 6 none :: zB) ({ frames := 6, cells := 0, slots := 0, locals := 131 } : Room) [.ref o, .int b0] [bMo g o a th hi ac tp ba en tA fl de iD iO tU fm fk fa fc ft ff fb fi] (fun u : Int32 × Int32 × (Nat → Int32) => (fun (at2 : Int32) (fl2 : Int32) (fm2 : Nat → Int32) => none) (u.1) (u.2.1) (u.2.2)) (fun u : Int32 × Int32 × (Nat → Int32) => (fun (at2 : Int32) (fl2 : Int32) (fm2 : Nat → Int32) => (rM fm2) ∧ (0 ≤ at2.toInt ∧ at2.toInt ≤ en.toInt + 7 - de.toInt) ∧ (tA.toInt ≤ at2.toInt) ∧ (-1 ≤ fl2.toInt)) (u.1) (u.2.1) (u.2.2)) (fun u : Int32 × Int32 × (Nat → Int32) => (fun (at2 : Int32) (fl2 : Int32) (fm2 : Nat → Int32) => [bMo g o a th hi ac tp ba en at2 fl2 de iD iO tU fm2 fk fa fc ft ff fb fi]) (u.1) (u.2.1) (u.2.2)) := by
  refine zM'.of (cc := cX12_workLine) (maxL := 6) (rt := none) (by decide) rfl (Nat.le_of_ble_eq_true rfl) ?_
  intro p e s m args below meth c A ls St hr hlocks hin hK hT hA hP hD hS hl
  obtain ⟨hx, hb, hml, hown, hts⟩ := id St
  have hl : lv_has ls 6 [(0, .ref o), (1, .int b0)] := hl
  refine lv_aload_n hx hb dX12_workLine_0 rfl (lv_at hl 0 rfl) ?_
  refine va_get (D := g.1) (ci := 10) (v := .ref (a 0)) (C := RX12) (T := TX12) (N := 20) hx hb hts izRX12 hown hK hP 0 rfl rfl 1 (by decide) (hts _ k815) (fun _ h9 => h9) rfl dX12_workLine_1 ?_
  refine lv_iconst (v := 4) hx hb dX12_workLine_4 (by decide) ?_
  refine va_iald hx hb hK hP 1 0 rfl rfl (zin rfl) dX12_workLine_5 ?_
  refine zgq (r := fm 4) rfl (rM4 rfm) (fun x_1 hx_1 => ?_)
  refine lv_bipush (v := 6) hx hb dX12_workLine_6 (by decide) ?_
  refine lv_icmp_ne (tgt := 16) hx hb dX12_workLine_8 (by decide) (fun cb9 => ?_) (fun cb9 => ?_)
  · skip
    have c2 : ¬ x_1.toInt = 6 := zne cb9 rfl (by decide)
    have n3 : x_1.toInt ≤ 5 := zN2 c2 hx_1.2.1 (by decide)
    refine lv_aload_n hx hb dX12_workLine_16 rfl (lv_at hl 0 rfl) ?_
    refine lv_iconst (v := 1) hx hb dX12_workLine_17 (by decide) ?_
    refine lv_bipush (v := 99) hx hb dX12_workLine_18 (by decide) ?_
    have hL1 : (1 : Int32).toInt = 1 := by decide
    have hL99 : (99 : Int32).toInt = 99 := by decide
    refine mcallV' (g := g) (q0 := 0) (ci := 10) (As := [.int 1, .int 99]) (rest := []) St hK hT hA hP hD hS hl.1 [0] [] rfl rfl rfl (m_figures l g o a th hi ac tp ba en tA fl de iD iO tU fm fk fa fc ft ff fb fi 1 99 hba hen htA hfl hde) (cwV 2 hts (zgL (zl4 k902 k903 k904 k839) k898) rfl rfl rfl (by decide +kernel) ⟨Nat.le_of_ble_eq_true rfl, Nat.le_of_ble_eq_true rfl⟩) rfl rfl rfl rfl (Nat.le_of_ble_eq_true rfl) dX12_workLine_20 ⟨(Nat.le_of_ble_eq_true rfl), (Nat.le_of_ble_eq_true rfl)⟩ (fun u_ H locs hq7 hP hD hS => ?_)
    obtain ⟨at2_4, fl2_5, r_6⟩ := u_
    replace hq7 : (0 ≤ at2_4.toInt ∧ at2_4.toInt ≤ en.toInt + 7 - de.toInt) ∧ (tA.toInt ≤ at2_4.toInt) ∧ (-1 ≤ fl2_5.toInt) ∧ (zImp (fl2_5.toInt = -1) (fl.toInt = -1 ∧ (1 : Int32).toInt ≤ r_6.toInt ∧ r_6.toInt ≤ (99 : Int32).toInt)) := hq7
    have hP : va_P g.1 vwCl (List.flatten [bMo g o a th hi ac tp ba en at2_4 fl2_5 de iD iO tU fm fk fa fc ft ff fb fi]) H := hP
    have hD : va_D A (List.flatten [bMo g o a th hi ac tp ba en at2_4 fl2_5 de iD iO tU fm fk fa fc ft ff fb fi]) := hD
    refine W.widen (k := 0) (n := 0) (Nat.le_of_ble_eq_true rfl) (Nat.le_of_ble_eq_true rfl) ?_
    refine W.eq (g2 := F0 m 23 ls [.int r_6]) rfl ?_
    obtain ⟨hq7_0, hq7_1, hq7_2, hq7_3⟩ := hq7
    refine lv_istore_n (lv' := [(2, .int r_6), (0, .ref o), (1, .int b0)]) hx hb dX12_workLine_23 rfl hl (by decide) rfl (fun ls hl => ?_)
    refine lv_aload_n hx hb dX12_workLine_24 rfl (lv_at hl 1 rfl) ?_
    refine va_ldcS (q := g.2 66) hx hb hown (zra28 hT.2.1) dX12_workLine_25 ?_
    refine lv_iconst (v := 0) hx hb dX12_workLine_27 (by decide) ?_
    refine lv_sipush (v := 799) hx hb dX12_workLine_28 (by decide) ?_
    have hL0 : (0 : Int32).toInt = 0 := by decide
    have hL799 : (799 : Int32).toInt = 799 := by decide
    refine mcallV' (g := g) (q0 := 0) (ci := 10) (As := [.ref (g.2 66), .int 0, .int 799]) (rest := []) St hK hT hA hP hD hS hl.1 [0] [] rfl rfl rfl (m_after l g o a th hi ac tp ba en at2_4 fl2_5 de iD iO tU fm fk fa fc ft ff fb fi 0 799 (g.2 66) 28 zqa28 hba hen hq7_0 hq7_2 hde rfl zla28 zna28) (cwV 3 hts (zgL (zl4 k906 k907 k908 k839) k905) rfl rfl rfl (by decide +kernel) ⟨Nat.le_of_ble_eq_true rfl, Nat.le_of_ble_eq_true rfl⟩) rfl rfl rfl rfl (Nat.le_of_ble_eq_true rfl) dX12_workLine_31 ⟨(Nat.le_of_ble_eq_true rfl), (Nat.le_of_ble_eq_true rfl)⟩ (fun u_ H locs hq11 hP hD hS => ?_)
    obtain ⟨at2_8, fl2_9, r_10⟩ := u_
    replace hq11 : (0 ≤ at2_8.toInt ∧ at2_8.toInt ≤ en.toInt + 7 - de.toInt) ∧ (at2_4.toInt ≤ at2_8.toInt) ∧ (-1 ≤ fl2_9.toInt) ∧ (zImp (fl2_9.toInt = -1) (fl2_5.toInt = -1 ∧ (0 : Int32).toInt ≤ r_10.toInt ∧ r_10.toInt ≤ (799 : Int32).toInt)) := hq11
    have hP : va_P g.1 vwCl (List.flatten [bMo g o a th hi ac tp ba en at2_8 fl2_9 de iD iO tU fm fk fa fc ft ff fb fi]) H := hP
    have hD : va_D A (List.flatten [bMo g o a th hi ac tp ba en at2_8 fl2_9 de iD iO tU fm fk fa fc ft ff fb fi]) := hD
    refine W.widen (k := 0) (n := 0) (Nat.le_of_ble_eq_true rfl) (Nat.le_of_ble_eq_true rfl) ?_
    refine W.eq (g2 := F0 m 34 ls [.int r_10]) rfl ?_
    obtain ⟨hq11_0, hq11_1, hq11_2, hq11_3⟩ := hq11
    refine lv_istore_n (lv' := [(3, .int r_10), (2, .int r_6), (0, .ref o), (1, .int b0)]) hx hb dX12_workLine_34 rfl hl (by decide) rfl (fun ls hl => ?_)
    refine lv_aload_n hx hb dX12_workLine_35 rfl (lv_at hl 2 rfl) ?_
    refine va_ldcS (q := g.2 68) hx hb hown (zra29 hT.2.1) dX12_workLine_36 ?_
    refine lv_iconst (v := 0) hx hb dX12_workLine_38 (by decide) ?_
    refine lv_bipush (v := 20) hx hb dX12_workLine_39 (by decide) ?_
    have hL20 : (20 : Int32).toInt = 20 := by decide
    refine mcallV' (g := g) (q0 := 0) (ci := 10) (As := [.ref (g.2 68), .int 0, .int 20]) (rest := []) St hK hT hA hP hD hS hl.1 [0] [] rfl rfl rfl (m_after l g o a th hi ac tp ba en at2_8 fl2_9 de iD iO tU fm fk fa fc ft ff fb fi 0 20 (g.2 68) 29 zqa29 hba hen hq11_0 hq11_2 hde rfl zla29 zna29) (cwV 3 hts (zgL (zl4 k906 k907 k908 k839) k905) rfl rfl rfl (by decide +kernel) ⟨Nat.le_of_ble_eq_true rfl, Nat.le_of_ble_eq_true rfl⟩) rfl rfl rfl rfl (Nat.le_of_ble_eq_true rfl) dX12_workLine_41 ⟨(Nat.le_of_ble_eq_true rfl), (Nat.le_of_ble_eq_true rfl)⟩ (fun u_ H locs hq15 hP hD hS => ?_)
    obtain ⟨at2_12, fl2_13, r_14⟩ := u_
    replace hq15 : (0 ≤ at2_12.toInt ∧ at2_12.toInt ≤ en.toInt + 7 - de.toInt) ∧ (at2_8.toInt ≤ at2_12.toInt) ∧ (-1 ≤ fl2_13.toInt) ∧ (zImp (fl2_13.toInt = -1) (fl2_9.toInt = -1 ∧ (0 : Int32).toInt ≤ r_14.toInt ∧ r_14.toInt ≤ (20 : Int32).toInt)) := hq15
    have hP : va_P g.1 vwCl (List.flatten [bMo g o a th hi ac tp ba en at2_12 fl2_13 de iD iO tU fm fk fa fc ft ff fb fi]) H := hP
    have hD : va_D A (List.flatten [bMo g o a th hi ac tp ba en at2_12 fl2_13 de iD iO tU fm fk fa fc ft ff fb fi]) := hD
    refine W.widen (k := 0) (n := 0) (Nat.le_of_ble_eq_true rfl) (Nat.le_of_ble_eq_true rfl) ?_
    refine W.eq (g2 := F0 m 44 ls [.int r_14]) rfl ?_
    obtain ⟨hq15_0, hq15_1, hq15_2, hq15_3⟩ := hq15
    refine lv_istore (lv' := [(4, .int r_14), (3, .int r_10), (2, .int r_6), (0, .ref o), (1, .int b0)]) hx hb dX12_workLine_44 hl (by decide) rfl (fun ls hl => ?_)
    refine lv_aload_n hx hb dX12_workLine_46 rfl (lv_at hl 3 rfl) ?_
    refine va_get (D := g.1) (ci := 10) (v := .int fl2_13) (C := RX12) (T := TX12) (N := 20) hx hb hts izRX12 hown hK hP 0 rfl rfl 12 (by decide) (hts _ k820) (fun _ h9 => h9) rfl dX12_workLine_47 ?_
    refine lv_iconst (v := (-1)) hx hb dX12_workLine_50 (by decide) ?_
    refine lv_icmp_eq (tgt := 55) hx hb dX12_workLine_51 (by decide) (fun cb9 => ?_) (fun cb9 => ?_)
    · skip
      have c16 : fl2_13.toInt = (-1) := zeq cb9 rfl (by decide)
      have n17 : fl2_13.toInt ≤ (-1) := Int.le_trans (Int.le_of_eq c16) (Int.le_refl _)
      obtain ⟨e19, w18⟩ := hq15_3 c16
      have w20 : 0 ≤ r_14.toInt ∧ r_14.toInt ≤ 20 := by omega
      obtain ⟨e22, w21⟩ := hq11_3 e19
      have w23 : 0 ≤ r_10.toInt ∧ r_10.toInt ≤ 799 := by omega
      obtain ⟨e25, w24⟩ := hq7_3 e22
      have w26 : 1 ≤ r_6.toInt ∧ r_6.toInt ≤ 99 := by omega
      refine lv_aload_n hx hb dX12_workLine_55 rfl (lv_at hl 3 rfl) ?_
      refine va_get (D := g.1) (ci := 10) (v := .ref (a 0)) (C := RX12) (T := TX12) (N := 20) hx hb hts izRX12 hown hK hP 0 rfl rfl 1 (by decide) (hts _ k815) (fun _ h9 => h9) rfl dX12_workLine_56 ?_
      refine lv_iconst (v := 4) hx hb dX12_workLine_59 (by decide) ?_
      refine va_iald hx hb hK hP 1 0 rfl rfl (zin rfl) dX12_workLine_60 ?_
      refine zgq (r := fm 4) rfl (rM4 rfm) (fun x_27 hx_27 => ?_)
      refine lv_istore (lv' := [(5, .int x_27), (4, .int r_14), (3, .int r_10), (2, .int r_6), (0, .ref o), (1, .int b0)]) hx hb dX12_workLine_61 hl (by decide) rfl (fun ls hl => ?_)
      refine lv_aload_n hx hb dX12_workLine_63 rfl (lv_at hl 4 rfl) ?_
      refine lv_iload hx hb dX12_workLine_64 (lv_at hl 0 rfl) ?_
      refine lv_iconst (v := 0) hx hb dX12_workLine_66 (by decide) ?_
      refine lv_iload_n hx hb dX12_workLine_67 rfl (lv_at hl 3 rfl) ?_
      refine mcallV' (g := g) (q0 := 0) (ci := 10) (As := [.int x_27, .int 0, .int r_6]) (rest := []) St hK hT hA hP hD hS hl.1 [0] [] rfl rfl rfl (m_putWork l g o a th hi ac tp ba en at2_12 fl2_13 de iD iO tU fm fk fa fc ft ff fb fi x_27 0 r_6 rfm (by first | assumption | omega | decide | exact Or.inl (by decide) | exact Or.inr (by decide)) (by decide)) (cwV 3 hts (zgL (zl4 k914 k915 k916 k839) k834) rfl rfl rfl (by decide +kernel) ⟨Nat.le_of_ble_eq_true rfl, Nat.le_of_ble_eq_true rfl⟩) rfl rfl rfl rfl (Nat.le_of_ble_eq_true rfl) dX12_workLine_68 ⟨(Nat.le_of_ble_eq_true rfl), (Nat.le_of_ble_eq_true rfl)⟩ (fun fm2_28 H locs hq29 hP hD hS => ?_)
      replace hq29 : ((fm2_28 0).toInt = (fm 0).toInt ∧ (fm2_28 3).toInt = (fm 3).toInt ∧ (fm2_28 4).toInt = (fm 4).toInt) ∧ (rM fm2_28) ∧ ((fm2_28 3).toInt = (fm 3).toInt ∧ (fm2_28 4).toInt = (fm 4).toInt) := hq29
      have hP : va_P g.1 vwCl (List.flatten [bMo g o a th hi ac tp ba en at2_12 fl2_13 de iD iO tU fm2_28 fk fa fc ft ff fb fi]) H := hP
      have hD : va_D A (List.flatten [bMo g o a th hi ac tp ba en at2_12 fl2_13 de iD iO tU fm2_28 fk fa fc ft ff fb fi]) := hD
      refine W.widen (k := 0) (n := 0) (Nat.le_of_ble_eq_true rfl) (Nat.le_of_ble_eq_true rfl) ?_
      refine W.eq (g2 := F0 m 71 ls []) rfl ?_
      obtain ⟨hq29_0, rfm2_28, hq29_2⟩ := hq29
      refine lv_aload_n hx hb dX12_workLine_71 rfl (lv_at hl 4 rfl) ?_
      refine lv_iload hx hb dX12_workLine_72 (lv_at hl 0 rfl) ?_
      refine lv_iconst (v := 1) hx hb dX12_workLine_74 (by decide) ?_
      refine lv_iload_n hx hb dX12_workLine_75 rfl (lv_at hl 2 rfl) ?_
      refine mcallV' (g := g) (q0 := 0) (ci := 10) (As := [.int x_27, .int 1, .int r_10]) (rest := []) St hK hT hA hP hD hS hl.1 [0] [] rfl rfl rfl (m_putWork l g o a th hi ac tp ba en at2_12 fl2_13 de iD iO tU fm2_28 fk fa fc ft ff fb fi x_27 1 r_10 rfm2_28 (by first | assumption | omega | decide | exact Or.inl (by decide) | exact Or.inr (by decide)) (by decide)) (cwV 3 hts (zgL (zl4 k914 k915 k916 k839) k834) rfl rfl rfl (by decide +kernel) ⟨Nat.le_of_ble_eq_true rfl, Nat.le_of_ble_eq_true rfl⟩) rfl rfl rfl rfl (Nat.le_of_ble_eq_true rfl) dX12_workLine_76 ⟨(Nat.le_of_ble_eq_true rfl), (Nat.le_of_ble_eq_true rfl)⟩ (fun fm2_30 H locs hq31 hP hD hS => ?_)
      replace hq31 : ((fm2_30 0).toInt = (fm2_28 0).toInt ∧ (fm2_30 3).toInt = (fm2_28 3).toInt ∧ (fm2_30 4).toInt = (fm2_28 4).toInt) ∧ (rM fm2_30) ∧ ((fm2_30 3).toInt = (fm2_28 3).toInt ∧ (fm2_30 4).toInt = (fm2_28 4).toInt) := hq31
      have hP : va_P g.1 vwCl (List.flatten [bMo g o a th hi ac tp ba en at2_12 fl2_13 de iD iO tU fm2_30 fk fa fc ft ff fb fi]) H := hP
      have hD : va_D A (List.flatten [bMo g o a th hi ac tp ba en at2_12 fl2_13 de iD iO tU fm2_30 fk fa fc ft ff fb fi]) := hD
      refine W.widen (k := 0) (n := 0) (Nat.le_of_ble_eq_true rfl) (Nat.le_of_ble_eq_true rfl) ?_
      refine W.eq (g2 := F0 m 79 ls []) rfl ?_
      obtain ⟨hq31_0, rfm2_30, hq31_2⟩ := hq31
      refine lv_aload_n hx hb dX12_workLine_79 rfl (lv_at hl 4 rfl) ?_
      refine lv_iload hx hb dX12_workLine_80 (lv_at hl 0 rfl) ?_
      refine lv_iconst (v := 2) hx hb dX12_workLine_82 (by decide) ?_
      refine lv_iload hx hb dX12_workLine_83 (lv_at hl 1 rfl) ?_
      have hL2 : (2 : Int32).toInt = 2 := by decide
      refine mcallV' (g := g) (q0 := 0) (ci := 10) (As := [.int x_27, .int 2, .int r_14]) (rest := []) St hK hT hA hP hD hS hl.1 [0] [] rfl rfl rfl (m_putWork l g o a th hi ac tp ba en at2_12 fl2_13 de iD iO tU fm2_30 fk fa fc ft ff fb fi x_27 2 r_14 rfm2_30 (by first | assumption | omega | decide | exact Or.inl (by decide) | exact Or.inr (by decide)) (by decide)) (cwV 3 hts (zgL (zl4 k914 k915 k916 k839) k834) rfl rfl rfl (by decide +kernel) ⟨Nat.le_of_ble_eq_true rfl, Nat.le_of_ble_eq_true rfl⟩) rfl rfl rfl rfl (Nat.le_of_ble_eq_true rfl) dX12_workLine_85 ⟨(Nat.le_of_ble_eq_true rfl), (Nat.le_of_ble_eq_true rfl)⟩ (fun fm2_32 H locs hq33 hP hD hS => ?_)
      replace hq33 : ((fm2_32 0).toInt = (fm2_30 0).toInt ∧ (fm2_32 3).toInt = (fm2_30 3).toInt ∧ (fm2_32 4).toInt = (fm2_30 4).toInt) ∧ (rM fm2_32) ∧ ((fm2_32 3).toInt = (fm2_30 3).toInt ∧ (fm2_32 4).toInt = (fm2_30 4).toInt) := hq33
      have hP : va_P g.1 vwCl (List.flatten [bMo g o a th hi ac tp ba en at2_12 fl2_13 de iD iO tU fm2_32 fk fa fc ft ff fb fi]) H := hP
      have hD : va_D A (List.flatten [bMo g o a th hi ac tp ba en at2_12 fl2_13 de iD iO tU fm2_32 fk fa fc ft ff fb fi]) := hD
      refine W.widen (k := 0) (n := 0) (Nat.le_of_ble_eq_true rfl) (Nat.le_of_ble_eq_true rfl) ?_
      refine W.eq (g2 := F0 m 88 ls []) rfl ?_
      obtain ⟨hq33_0, rfm2_32, hq33_2⟩ := hq33
      refine lv_aload_n hx hb dX12_workLine_88 rfl (lv_at hl 4 rfl) ?_
      refine lv_iload hx hb dX12_workLine_89 (lv_at hl 0 rfl) ?_
      refine lv_iconst (v := 3) hx hb dX12_workLine_91 (by decide) ?_
      refine lv_iconst (v := 0) hx hb dX12_workLine_92 (by decide) ?_
      have hL3 : (3 : Int32).toInt = 3 := by decide
      refine mcallV' (g := g) (q0 := 0) (ci := 10) (As := [.int x_27, .int 3, .int 0]) (rest := []) St hK hT hA hP hD hS hl.1 [0] [] rfl rfl rfl (m_putWork l g o a th hi ac tp ba en at2_12 fl2_13 de iD iO tU fm2_32 fk fa fc ft ff fb fi x_27 3 0 rfm2_32 (by first | assumption | omega | decide | exact Or.inl (by decide) | exact Or.inr (by decide)) (by decide)) (cwV 3 hts (zgL (zl4 k914 k915 k916 k839) k834) rfl rfl rfl (by decide +kernel) ⟨Nat.le_of_ble_eq_true rfl, Nat.le_of_ble_eq_true rfl⟩) rfl rfl rfl rfl (Nat.le_of_ble_eq_true rfl) dX12_workLine_93 ⟨(Nat.le_of_ble_eq_true rfl), (Nat.le_of_ble_eq_true rfl)⟩ (fun fm2_34 H locs hq35 hP hD hS => ?_)
      replace hq35 : ((fm2_34 0).toInt = (fm2_32 0).toInt ∧ (fm2_34 3).toInt = (fm2_32 3).toInt ∧ (fm2_34 4).toInt = (fm2_32 4).toInt) ∧ (rM fm2_34) ∧ ((fm2_34 3).toInt = (fm2_32 3).toInt ∧ (fm2_34 4).toInt = (fm2_32 4).toInt) := hq35
      have hP : va_P g.1 vwCl (List.flatten [bMo g o a th hi ac tp ba en at2_12 fl2_13 de iD iO tU fm2_34 fk fa fc ft ff fb fi]) H := hP
      have hD : va_D A (List.flatten [bMo g o a th hi ac tp ba en at2_12 fl2_13 de iD iO tU fm2_34 fk fa fc ft ff fb fi]) := hD
      refine W.widen (k := 0) (n := 0) (Nat.le_of_ble_eq_true rfl) (Nat.le_of_ble_eq_true rfl) ?_
      refine W.eq (g2 := F0 m 96 ls []) rfl ?_
      obtain ⟨hq35_0, rfm2_34, hq35_2⟩ := hq35
      refine lv_aload_n hx hb dX12_workLine_96 rfl (lv_at hl 4 rfl) ?_
      refine va_get (D := g.1) (ci := 10) (v := .ref (a 0)) (C := RX12) (T := TX12) (N := 20) hx hb hts izRX12 hown hK hP 0 rfl rfl 1 (by decide) (hts _ k815) (fun _ h9 => h9) rfl dX12_workLine_97 ?_
      refine lv_iconst (v := 4) hx hb dX12_workLine_100 (by decide) ?_
      refine lv_dup2_11 hx hb dX12_workLine_101 rfl rfl ?_
      refine va_iald hx hb hK hP 1 0 rfl rfl (zin rfl) dX12_workLine_102 ?_
      refine zgq (r := fm2_34 4) rfl (rM4 rfm2_34) (fun x_36 hx_36 => ?_)
      refine lv_iconst (v := 1) hx hb dX12_workLine_103 (by decide) ?_
      refine lv_iadd hx hb dX12_workLine_104 ?_
      refine zg3 (zaddK (i := x_36.toInt) (j := 1) (a' := 1) (b' := 7) rfl (by decide) hx_36.1 hx_36.2.1 (Int.le_refl _) (Int.le_refl _) (by decide)) (fun x_37 hx_37 => ?_)
      refine va_iast hx hb hK hP hD hS 1 0 rfl rfl (zin rfl) dX12_workLine_105 (fun H locs hP hD hS => ?_)
      obtain ⟨fm_38, rfm_38, hP, hD⟩ : ∃ fm_38 : Nat → Int32, rM fm_38 ∧ va_P g.1 vwCl (List.flatten [bMo g o a th hi ac tp ba en at2_12 fl2_13 de iD iO tU fm_38 fk fa fc ft ff fb fi]) H ∧ va_D A (List.flatten [bMo g o a th hi ac tp ba en at2_12 fl2_13 de iD iO tU fm_38 fk fa fc ft ff fb fi]) := ⟨upd fm2_34 4 x_37, (rM_s4 rfm2_34 (show 0 ≤ x_37.toInt ∧ x_37.toInt ≤ 6 from (by omega))), hP, hD⟩
      have hP : va_P g.1 vwCl (List.flatten [bMo g o a th hi ac tp ba en at2_12 fl2_13 de iD iO tU fm_38 fk fa fc ft ff fb fi]) H := hP
      have hD : va_D A (List.flatten [bMo g o a th hi ac tp ba en at2_12 fl2_13 de iD iO tU fm_38 fk fa fc ft ff fb fi]) := hD
      exact mret_v hx hb hr hlocks hS (Nat.le_of_ble_eq_true rfl) (Nat.le_of_ble_eq_true rfl) dX12_workLine_106 (at2_12, fl2_13, fm_38) rfl (show (rM fm_38) ∧ (0 ≤ at2_12.toInt ∧ at2_12.toInt ≤ en.toInt + 7 - de.toInt) ∧ (tA.toInt ≤ at2_12.toInt) ∧ (-1 ≤ fl2_13.toInt) from ⟨rfm_38, hq15_0, (by first | assumption | omega | decide | exact rfl | exact zb01 (by omega) | exact Or.inl (by decide) | exact Or.inr (by first | omega | decide)), hq15_2⟩) hP hD
    · skip
      have c39 : ¬ fl2_13.toInt = (-1) := zne cb9 rfl (by decide)
      have hP : va_P g.1 vwCl (List.flatten [bMo g o a th hi ac tp ba en at2_12 fl2_13 de iD iO tU fm fk fa fc ft ff fb fi]) H := hP
      have hD : va_D A (List.flatten [bMo g o a th hi ac tp ba en at2_12 fl2_13 de iD iO tU fm fk fa fc ft ff fb fi]) := hD
      exact mret_v hx hb hr hlocks hS (Nat.le_of_ble_eq_true rfl) (Nat.le_of_ble_eq_true rfl) dX12_workLine_54 (at2_12, fl2_13, fm) rfl (show (rM fm) ∧ (0 ≤ at2_12.toInt ∧ at2_12.toInt ≤ en.toInt + 7 - de.toInt) ∧ (tA.toInt ≤ at2_12.toInt) ∧ (-1 ≤ fl2_13.toInt) from ⟨rfm, hq15_0, (by first | assumption | omega | decide | exact rfl | exact zb01 (by omega) | exact Or.inl (by decide) | exact Or.inr (by first | omega | decide)), hq15_2⟩) hP hD
  · skip
    have c40 : x_1.toInt = 6 := zeq cb9 rfl (by decide)
    have n41 : 6 ≤ x_1.toInt := Int.le_trans (Int.le_refl _) (Int.le_of_eq c40.symm)
    refine lv_aload_n hx hb dX12_workLine_11 rfl (lv_at hl 0 rfl) ?_
    refine lv_iload_n hx hb dX12_workLine_12 rfl (lv_at hl 1 rfl) ?_
    refine mcallV' (g := g) (q0 := 0) (ci := 10) (As := [.int b0]) (rest := []) St hK hT hA hP hD hS hl.1 [0] [] rfl rfl rfl (m_wrong l g o a th hi ac tp ba en tA fl de iD iO tU fm fk fa fc ft ff fb fi b0 hb0 hfl) (cwV 1 hts (zgL (zl4 k895 k896 k897 k839) k890) rfl rfl rfl (by decide +kernel) ⟨Nat.le_of_ble_eq_true rfl, Nat.le_of_ble_eq_true rfl⟩) rfl rfl rfl rfl (Nat.le_of_ble_eq_true rfl) dX12_workLine_13 ⟨(Nat.le_of_ble_eq_true rfl), (Nat.le_of_ble_eq_true rfl)⟩ (fun fl2_42 H locs hq43 hP hD hS => ?_)
    replace hq43 : (0 ≤ fl2_42.toInt) := hq43
    have hP : va_P g.1 vwCl (List.flatten [bMo g o a th hi ac tp ba en tA fl2_42 de iD iO tU fm fk fa fc ft ff fb fi]) H := hP
    have hD : va_D A (List.flatten [bMo g o a th hi ac tp ba en tA fl2_42 de iD iO tU fm fk fa fc ft ff fb fi]) := hD
    refine W.widen (k := 0) (n := 0) (Nat.le_of_ble_eq_true rfl) (Nat.le_of_ble_eq_true rfl) ?_
    refine W.eq (g2 := F0 m 16 ls []) rfl ?_
    refine lv_aload_n hx hb dX12_workLine_16 rfl (lv_at hl 0 rfl) ?_
    refine lv_iconst (v := 1) hx hb dX12_workLine_17 (by decide) ?_
    refine lv_bipush (v := 99) hx hb dX12_workLine_18 (by decide) ?_
    have hL1 : (1 : Int32).toInt = 1 := by decide
    have hL99 : (99 : Int32).toInt = 99 := by decide
    refine mcallV' (g := g) (q0 := 0) (ci := 10) (As := [.int 1, .int 99]) (rest := []) St hK hT hA hP hD hS hl.1 [0] [] rfl rfl rfl (m_figures l g o a th hi ac tp ba en tA fl2_42 de iD iO tU fm fk fa fc ft ff fb fi 1 99 hba hen htA (Int.le_trans (by decide) hq43) hde) (cwV 2 hts (zgL (zl4 k902 k903 k904 k839) k898) rfl rfl rfl (by decide +kernel) ⟨Nat.le_of_ble_eq_true rfl, Nat.le_of_ble_eq_true rfl⟩) rfl rfl rfl rfl (Nat.le_of_ble_eq_true rfl) dX12_workLine_20 ⟨(Nat.le_of_ble_eq_true rfl), (Nat.le_of_ble_eq_true rfl)⟩ (fun u_ H locs hq47 hP hD hS => ?_)
    obtain ⟨at2_44, fl2_45, r_46⟩ := u_
    replace hq47 : (0 ≤ at2_44.toInt ∧ at2_44.toInt ≤ en.toInt + 7 - de.toInt) ∧ (tA.toInt ≤ at2_44.toInt) ∧ (-1 ≤ fl2_45.toInt) ∧ (zImp (fl2_45.toInt = -1) (fl2_42.toInt = -1 ∧ (1 : Int32).toInt ≤ r_46.toInt ∧ r_46.toInt ≤ (99 : Int32).toInt)) := hq47
    have hP : va_P g.1 vwCl (List.flatten [bMo g o a th hi ac tp ba en at2_44 fl2_45 de iD iO tU fm fk fa fc ft ff fb fi]) H := hP
    have hD : va_D A (List.flatten [bMo g o a th hi ac tp ba en at2_44 fl2_45 de iD iO tU fm fk fa fc ft ff fb fi]) := hD
    refine W.widen (k := 0) (n := 0) (Nat.le_of_ble_eq_true rfl) (Nat.le_of_ble_eq_true rfl) ?_
    refine W.eq (g2 := F0 m 23 ls [.int r_46]) rfl ?_
    obtain ⟨hq47_0, hq47_1, hq47_2, hq47_3⟩ := hq47
    refine lv_istore_n (lv' := [(2, .int r_46), (0, .ref o), (1, .int b0)]) hx hb dX12_workLine_23 rfl hl (by decide) rfl (fun ls hl => ?_)
    refine lv_aload_n hx hb dX12_workLine_24 rfl (lv_at hl 1 rfl) ?_
    refine va_ldcS (q := g.2 66) hx hb hown (zra28 hT.2.1) dX12_workLine_25 ?_
    refine lv_iconst (v := 0) hx hb dX12_workLine_27 (by decide) ?_
    refine lv_sipush (v := 799) hx hb dX12_workLine_28 (by decide) ?_
    have hL0 : (0 : Int32).toInt = 0 := by decide
    have hL799 : (799 : Int32).toInt = 799 := by decide
    refine mcallV' (g := g) (q0 := 0) (ci := 10) (As := [.ref (g.2 66), .int 0, .int 799]) (rest := []) St hK hT hA hP hD hS hl.1 [0] [] rfl rfl rfl (m_after l g o a th hi ac tp ba en at2_44 fl2_45 de iD iO tU fm fk fa fc ft ff fb fi 0 799 (g.2 66) 28 zqa28 hba hen hq47_0 hq47_2 hde rfl zla28 zna28) (cwV 3 hts (zgL (zl4 k906 k907 k908 k839) k905) rfl rfl rfl (by decide +kernel) ⟨Nat.le_of_ble_eq_true rfl, Nat.le_of_ble_eq_true rfl⟩) rfl rfl rfl rfl (Nat.le_of_ble_eq_true rfl) dX12_workLine_31 ⟨(Nat.le_of_ble_eq_true rfl), (Nat.le_of_ble_eq_true rfl)⟩ (fun u_ H locs hq51 hP hD hS => ?_)
    obtain ⟨at2_48, fl2_49, r_50⟩ := u_
    replace hq51 : (0 ≤ at2_48.toInt ∧ at2_48.toInt ≤ en.toInt + 7 - de.toInt) ∧ (at2_44.toInt ≤ at2_48.toInt) ∧ (-1 ≤ fl2_49.toInt) ∧ (zImp (fl2_49.toInt = -1) (fl2_45.toInt = -1 ∧ (0 : Int32).toInt ≤ r_50.toInt ∧ r_50.toInt ≤ (799 : Int32).toInt)) := hq51
    have hP : va_P g.1 vwCl (List.flatten [bMo g o a th hi ac tp ba en at2_48 fl2_49 de iD iO tU fm fk fa fc ft ff fb fi]) H := hP
    have hD : va_D A (List.flatten [bMo g o a th hi ac tp ba en at2_48 fl2_49 de iD iO tU fm fk fa fc ft ff fb fi]) := hD
    refine W.widen (k := 0) (n := 0) (Nat.le_of_ble_eq_true rfl) (Nat.le_of_ble_eq_true rfl) ?_
    refine W.eq (g2 := F0 m 34 ls [.int r_50]) rfl ?_
    obtain ⟨hq51_0, hq51_1, hq51_2, hq51_3⟩ := hq51
    refine lv_istore_n (lv' := [(3, .int r_50), (2, .int r_46), (0, .ref o), (1, .int b0)]) hx hb dX12_workLine_34 rfl hl (by decide) rfl (fun ls hl => ?_)
    refine lv_aload_n hx hb dX12_workLine_35 rfl (lv_at hl 2 rfl) ?_
    refine va_ldcS (q := g.2 68) hx hb hown (zra29 hT.2.1) dX12_workLine_36 ?_
    refine lv_iconst (v := 0) hx hb dX12_workLine_38 (by decide) ?_
    refine lv_bipush (v := 20) hx hb dX12_workLine_39 (by decide) ?_
    have hL20 : (20 : Int32).toInt = 20 := by decide
    refine mcallV' (g := g) (q0 := 0) (ci := 10) (As := [.ref (g.2 68), .int 0, .int 20]) (rest := []) St hK hT hA hP hD hS hl.1 [0] [] rfl rfl rfl (m_after l g o a th hi ac tp ba en at2_48 fl2_49 de iD iO tU fm fk fa fc ft ff fb fi 0 20 (g.2 68) 29 zqa29 hba hen hq51_0 hq51_2 hde rfl zla29 zna29) (cwV 3 hts (zgL (zl4 k906 k907 k908 k839) k905) rfl rfl rfl (by decide +kernel) ⟨Nat.le_of_ble_eq_true rfl, Nat.le_of_ble_eq_true rfl⟩) rfl rfl rfl rfl (Nat.le_of_ble_eq_true rfl) dX12_workLine_41 ⟨(Nat.le_of_ble_eq_true rfl), (Nat.le_of_ble_eq_true rfl)⟩ (fun u_ H locs hq55 hP hD hS => ?_)
    obtain ⟨at2_52, fl2_53, r_54⟩ := u_
    replace hq55 : (0 ≤ at2_52.toInt ∧ at2_52.toInt ≤ en.toInt + 7 - de.toInt) ∧ (at2_48.toInt ≤ at2_52.toInt) ∧ (-1 ≤ fl2_53.toInt) ∧ (zImp (fl2_53.toInt = -1) (fl2_49.toInt = -1 ∧ (0 : Int32).toInt ≤ r_54.toInt ∧ r_54.toInt ≤ (20 : Int32).toInt)) := hq55
    have hP : va_P g.1 vwCl (List.flatten [bMo g o a th hi ac tp ba en at2_52 fl2_53 de iD iO tU fm fk fa fc ft ff fb fi]) H := hP
    have hD : va_D A (List.flatten [bMo g o a th hi ac tp ba en at2_52 fl2_53 de iD iO tU fm fk fa fc ft ff fb fi]) := hD
    refine W.widen (k := 0) (n := 0) (Nat.le_of_ble_eq_true rfl) (Nat.le_of_ble_eq_true rfl) ?_
    refine W.eq (g2 := F0 m 44 ls [.int r_54]) rfl ?_
    obtain ⟨hq55_0, hq55_1, hq55_2, hq55_3⟩ := hq55
    refine lv_istore (lv' := [(4, .int r_54), (3, .int r_50), (2, .int r_46), (0, .ref o), (1, .int b0)]) hx hb dX12_workLine_44 hl (by decide) rfl (fun ls hl => ?_)
    refine lv_aload_n hx hb dX12_workLine_46 rfl (lv_at hl 3 rfl) ?_
    refine va_get (D := g.1) (ci := 10) (v := .int fl2_53) (C := RX12) (T := TX12) (N := 20) hx hb hts izRX12 hown hK hP 0 rfl rfl 12 (by decide) (hts _ k820) (fun _ h9 => h9) rfl dX12_workLine_47 ?_
    refine lv_iconst (v := (-1)) hx hb dX12_workLine_50 (by decide) ?_
    refine lv_icmp_eq (tgt := 55) hx hb dX12_workLine_51 (by decide) (fun cb9 => ?_) (fun cb9 => ?_)
    · skip
      have c56 : fl2_53.toInt = (-1) := zeq cb9 rfl (by decide)
      have n57 : fl2_53.toInt ≤ (-1) := Int.le_trans (Int.le_of_eq c56) (Int.le_refl _)
      obtain ⟨e59, w58⟩ := hq55_3 c56
      have w60 : 0 ≤ r_54.toInt ∧ r_54.toInt ≤ 20 := by omega
      obtain ⟨e62, w61⟩ := hq51_3 e59
      have w63 : 0 ≤ r_50.toInt ∧ r_50.toInt ≤ 799 := by omega
      obtain ⟨e65, w64⟩ := hq47_3 e62
      have w66 : 1 ≤ r_46.toInt ∧ r_46.toInt ≤ 99 := by omega
      exact absurd e65 (zDeq2 (a := 0) (b := -1) hq43 (Int.le_refl _) (by decide))
    · skip
      have c67 : ¬ fl2_53.toInt = (-1) := zne cb9 rfl (by decide)
      have hP : va_P g.1 vwCl (List.flatten [bMo g o a th hi ac tp ba en at2_52 fl2_53 de iD iO tU fm fk fa fc ft ff fb fi]) H := hP
      have hD : va_D A (List.flatten [bMo g o a th hi ac tp ba en at2_52 fl2_53 de iD iO tU fm fk fa fc ft ff fb fi]) := hD
      exact mret_v hx hb hr hlocks hS (Nat.le_of_ble_eq_true rfl) (Nat.le_of_ble_eq_true rfl) dX12_workLine_54 (at2_52, fl2_53, fm) rfl (show (rM fm) ∧ (0 ≤ at2_52.toInt ∧ at2_52.toInt ≤ en.toInt + 7 - de.toInt) ∧ (tA.toInt ≤ at2_52.toInt) ∧ (-1 ≤ fl2_53.toInt) from ⟨rfm, hq55_0, (by first | assumption | omega | decide | exact rfl | exact zb01 (by omega) | exact Or.inl (by decide) | exact Or.inr (by first | omega | decide)), hq55_2⟩) hP hD
set_option maxRecDepth 100000 in
set_option maxHeartbeats 4000000 in
theorem m_tells (l : Launch) (g : zG) (o : Nat) (a : Nat → Nat) (th : Int32) (hi : Int32) (ac : Int32) (tp : Int32) (ba : Int32) (en : Int32) (tA : Int32) (fl : Int32) (de : Int32) (iD : Int32) (iO : Int32) (tU : Int32) (fm : Nat → Int32) (fk : Nat → Int32) (fa : Nat → Int32) (fc : Nat → Int32) (ft : Nat → Int32) (ff : Nat → Int32) (fb : Nat → Int32) (fi : Nat → Int32) (wh : Int32) (lw : Int32) (hg : Int32) (rfm : rM fm) (hba : zBa ba.toInt) (hen : 0 ≤ en.toInt ∧ en.toInt ≤ 400) (htA : 0 ≤ tA.toInt ∧ tA.toInt ≤ en.toInt + 7 - de.toInt) (hfl : -1 ≤ fl.toInt) (hde : 0 ≤ de.toInt ∧ de.toInt ≤ 6) (hwh : 5 ≤ wh.toInt ∧ wh.toInt ≤ 50 ∧ ¬ wh.toInt = 9) : zM' g l yX12_tells (Cond.code yX12_tells cX12_tells 5 none :: zB) ({ frames := 4, cells := 0, slots := 0, locals := 85 } : Room) [.ref o, .int wh, .int lw, .int hg] [bMo g o a th hi ac tp ba en tA fl de iD iO tU fm fk fa fc ft ff fb fi] (fun u : Int32 × Int32 × (Nat → Int32) => (fun (at2 : Int32) (fl2 : Int32) (fm2 : Nat → Int32) => none) (u.1) (u.2.1) (u.2.2)) (fun u : Int32 × Int32 × (Nat → Int32) => (fun (at2 : Int32) (fl2 : Int32) (fm2 : Nat → Int32) => (rM fm2) ∧ (0 ≤ at2.toInt ∧ at2.toInt ≤ en.toInt + 7 - de.toInt) ∧ (tA.toInt ≤ at2.toInt) ∧ (-1 ≤ fl2.toInt)) (u.1) (u.2.1) (u.2.2)) (fun u : Int32 × Int32 × (Nat → Int32) => (fun (at2 : Int32) (fl2 : Int32) (fm2 : Nat → Int32) => [bMo g o a th hi ac tp ba en at2 fl2 de iD iO tU fm2 fk fa fc ft ff fb fi]) (u.1) (u.2.1) (u.2.2)) := by
  refine zM'.of (cc := cX12_tells) (maxL := 5) (rt := none) (by decide) rfl (Nat.le_of_ble_eq_true rfl) ?_
  intro p e s m args below meth c A ls St hr hlocks hin hK hT hA hP hD hS hl
  obtain ⟨hx, hb, hml, hown, hts⟩ := id St
  have hl : lv_has ls 5 [(0, .ref o), (1, .int wh), (2, .int lw), (3, .int hg)] := hl
  refine lv_aload_n hx hb dX12_tells_0 rfl (lv_at hl 0 rfl) ?_
  refine lv_iload_n hx hb dX12_tells_1 rfl (lv_at hl 2 rfl) ?_
  refine lv_iload_n hx hb dX12_tells_2 rfl (lv_at hl 3 rfl) ?_
  refine mcallV' (g := g) (q0 := 0) (ci := 10) (As := [.int lw, .int hg]) (rest := []) St hK hT hA hP hD hS hl.1 [0] [] rfl rfl rfl (m_figures l g o a th hi ac tp ba en tA fl de iD iO tU fm fk fa fc ft ff fb fi lw hg hba hen htA hfl hde) (cwV 2 hts (zgL (zl4 k902 k903 k904 k839) k898) rfl rfl rfl (by decide +kernel) ⟨Nat.le_of_ble_eq_true rfl, Nat.le_of_ble_eq_true rfl⟩) rfl rfl rfl rfl (Nat.le_of_ble_eq_true rfl) dX12_tells_3 ⟨(Nat.le_of_ble_eq_true rfl), (Nat.le_of_ble_eq_true rfl)⟩ (fun u_ H locs hq4 hP hD hS => ?_)
  obtain ⟨at2_1, fl2_2, r_3⟩ := u_
  replace hq4 : (0 ≤ at2_1.toInt ∧ at2_1.toInt ≤ en.toInt + 7 - de.toInt) ∧ (tA.toInt ≤ at2_1.toInt) ∧ (-1 ≤ fl2_2.toInt) ∧ (zImp (fl2_2.toInt = -1) (fl.toInt = -1 ∧ lw.toInt ≤ r_3.toInt ∧ r_3.toInt ≤ hg.toInt)) := hq4
  have hP : va_P g.1 vwCl (List.flatten [bMo g o a th hi ac tp ba en at2_1 fl2_2 de iD iO tU fm fk fa fc ft ff fb fi]) H := hP
  have hD : va_D A (List.flatten [bMo g o a th hi ac tp ba en at2_1 fl2_2 de iD iO tU fm fk fa fc ft ff fb fi]) := hD
  refine W.widen (k := 0) (n := 0) (Nat.le_of_ble_eq_true rfl) (Nat.le_of_ble_eq_true rfl) ?_
  refine W.eq (g2 := F0 m 6 ls [.int r_3]) rfl ?_
  obtain ⟨hq4_0, hq4_1, hq4_2, hq4_3⟩ := hq4
  refine lv_istore (lv' := [(4, .int r_3), (0, .ref o), (1, .int wh), (2, .int lw), (3, .int hg)]) hx hb dX12_tells_6 hl (by decide) rfl (fun ls hl => ?_)
  refine lv_aload_n hx hb dX12_tells_8 rfl (lv_at hl 1 rfl) ?_
  refine va_get (D := g.1) (ci := 10) (v := .int fl2_2) (C := RX12) (T := TX12) (N := 20) hx hb hts izRX12 hown hK hP 0 rfl rfl 12 (by decide) (hts _ k820) (fun _ h9 => h9) rfl dX12_tells_9 ?_
  refine lv_iconst (v := (-1)) hx hb dX12_tells_12 (by decide) ?_
  refine lv_icmp_ne (tgt := 24) hx hb dX12_tells_13 (by decide) (fun cb9 => ?_) (fun cb9 => ?_)
  · skip
    have c5 : ¬ fl2_2.toInt = (-1) := zne cb9 rfl (by decide)
    have hP : va_P g.1 vwCl (List.flatten [bMo g o a th hi ac tp ba en at2_1 fl2_2 de iD iO tU fm fk fa fc ft ff fb fi]) H := hP
    have hD : va_D A (List.flatten [bMo g o a th hi ac tp ba en at2_1 fl2_2 de iD iO tU fm fk fa fc ft ff fb fi]) := hD
    exact mret_v hx hb hr hlocks hS (Nat.le_of_ble_eq_true rfl) (Nat.le_of_ble_eq_true rfl) dX12_tells_24 (at2_1, fl2_2, fm) rfl (show (rM fm) ∧ (0 ≤ at2_1.toInt ∧ at2_1.toInt ≤ en.toInt + 7 - de.toInt) ∧ (tA.toInt ≤ at2_1.toInt) ∧ (-1 ≤ fl2_2.toInt) from ⟨rfm, hq4_0, hq4_1, hq4_2⟩) hP hD
  · skip
    have c6 : fl2_2.toInt = (-1) := zeq cb9 rfl (by decide)
    have n7 : fl2_2.toInt ≤ (-1) := Int.le_trans (Int.le_of_eq c6) (Int.le_refl _)
    obtain ⟨e9, w8⟩ := hq4_3 c6
    refine lv_aload_n hx hb dX12_tells_16 rfl (lv_at hl 1 rfl) ?_
    refine va_get (D := g.1) (ci := 10) (v := .ref (a 0)) (C := RX12) (T := TX12) (N := 20) hx hb hts izRX12 hown hK hP 0 rfl rfl 1 (by decide) (hts _ k815) (fun _ h9 => h9) rfl dX12_tells_17 ?_
    refine lv_iload_n hx hb dX12_tells_20 rfl (lv_at hl 2 rfl) ?_
    refine lv_iload hx hb dX12_tells_21 (lv_at hl 0 rfl) ?_
    refine va_iast hx hb hK hP hD hS 1 0 rfl rfl (zinI (by omega) (by omega)) dX12_tells_23 (fun H locs hP hD hS => ?_)
    obtain ⟨fm_10, rfm_10, hP, hD⟩ : ∃ fm_10 : Nat → Int32, rM fm_10 ∧ va_P g.1 vwCl (List.flatten [bMo g o a th hi ac tp ba en at2_1 fl2_2 de iD iO tU fm_10 fk fa fc ft ff fb fi]) H ∧ va_D A (List.flatten [bMo g o a th hi ac tp ba en at2_1 fl2_2 de iD iO tU fm_10 fk fa fc ft ff fb fi]) := ⟨upd fm wh.toNatClampNeg r_3, (rM_st (j := wh.toInt) (w := r_3.toInt) rfm rfl rfl (by omega)), hP, hD⟩
    have hP : va_P g.1 vwCl (List.flatten [bMo g o a th hi ac tp ba en at2_1 fl2_2 de iD iO tU fm_10 fk fa fc ft ff fb fi]) H := hP
    have hD : va_D A (List.flatten [bMo g o a th hi ac tp ba en at2_1 fl2_2 de iD iO tU fm_10 fk fa fc ft ff fb fi]) := hD
    exact mret_v hx hb hr hlocks hS (Nat.le_of_ble_eq_true rfl) (Nat.le_of_ble_eq_true rfl) dX12_tells_24 (at2_1, fl2_2, fm_10) rfl (show (rM fm_10) ∧ (0 ≤ at2_1.toInt ∧ at2_1.toInt ≤ en.toInt + 7 - de.toInt) ∧ (tA.toInt ≤ at2_1.toInt) ∧ (-1 ≤ fl2_2.toInt) from ⟨rfm_10, hq4_0, hq4_1, hq4_2⟩) hP hD
set_option maxRecDepth 100000 in
set_option maxHeartbeats 4000000 in
theorem m_townLine (l : Launch) (g : zG) (o : Nat) (a : Nat → Nat) (th : Int32) (hi : Int32) (ac : Int32) (tp : Int32) (ba : Int32) (en : Int32) (tA : Int32) (fl : Int32) (de : Int32) (iD : Int32) (iO : Int32) (tU : Int32) (fm : Nat → Int32) (fk : Nat → Int32) (fa : Nat → Int32) (fc : Nat → Int32) (ft : Nat → Int32) (ff : Nat → Int32) (fb : Nat → Int32) (fi : Nat → Int32) (rfm : rM fm) (hba : zBa ba.toInt) (hen : 0 ≤ en.toInt ∧ en.toInt ≤ 400) (htA : 0 ≤ tA.toInt ∧ tA.toInt ≤ en.toInt + 7 - de.toInt) (hfl : -1 ≤ fl.toInt) (hde : 0 ≤ de.toInt ∧ de.toInt ≤ 6) : zM' g l yX12_townLine (Cond.code yX12_townLine cX12_townLine 3 none :: zB) ({ frames := 7, cells := 0, slots := 0, locals := 156 } : Room) [.ref o] [bMo g o a th hi ac tp ba en tA fl de iD iO tU fm fk fa fc ft ff fb fi] (fun u : Int32 × Int32 × (Nat → Int32) => (fun (at2 : Int32) (fl2 : Int32) (fm2 : Nat → Int32) => none) (u.1) (u.2.1) (u.2.2)) (fun u : Int32 × Int32 × (Nat → Int32) => (fun (at2 : Int32) (fl2 : Int32) (fm2 : Nat → Int32) => (rM fm2) ∧ (0 ≤ at2.toInt ∧ at2.toInt ≤ en.toInt + 7 - de.toInt) ∧ (tA.toInt ≤ at2.toInt) ∧ (-1 ≤ fl2.toInt)) (u.1) (u.2.1) (u.2.2)) (fun u : Int32 × Int32 × (Nat → Int32) => (fun (at2 : Int32) (fl2 : Int32) (fm2 : Nat → Int32) => [bMo g o a th hi ac tp ba en at2 fl2 de iD iO tU fm2 fk fa fc ft ff fb fi]) (u.1) (u.2.1) (u.2.2)) := by
  refine zM'.of (cc := cX12_townLine) (maxL := 3) (rt := none) (by decide) rfl (Nat.le_of_ble_eq_true rfl) ?_
  intro p e s m args below meth c A ls St hr hlocks hin hK hT hA hP hD hS hl
  obtain ⟨hx, hb, hml, hown, hts⟩ := id St
  have hl : lv_has ls 3 [(0, .ref o)] := hl
  refine lv_aload_n hx hb dX12_townLine_0 rfl (lv_at hl 0 rfl) ?_
  refine mcallV' (g := g) (q0 := 0) (ci := 10) (As := []) (rest := []) St hK hT hA hP hD hS hl.1 [0] [] rfl rfl rfl (m_here l g o a th hi ac tp ba en tA fl de iD iO tU fm fk fa fc ft ff fb fi hba hen htA hfl hde) (cwV 0 hts (zgL (zl4 k892 k893 k894 k839) k891) rfl rfl rfl (by decide +kernel) ⟨Nat.le_of_ble_eq_true rfl, Nat.le_of_ble_eq_true rfl⟩) rfl rfl rfl rfl (Nat.le_of_ble_eq_true rfl) dX12_townLine_1 ⟨(Nat.le_of_ble_eq_true rfl), (Nat.le_of_ble_eq_true rfl)⟩ (fun at2_1 H locs hq2 hP hD hS => ?_)
  replace hq2 : (0 ≤ at2_1.toInt ∧ at2_1.toInt ≤ en.toInt + 7 - de.toInt) ∧ (tA.toInt ≤ at2_1.toInt) := hq2
  have hP : va_P g.1 vwCl (List.flatten [bMo g o a th hi ac tp ba en at2_1 fl de iD iO tU fm fk fa fc ft ff fb fi]) H := hP
  have hD : va_D A (List.flatten [bMo g o a th hi ac tp ba en at2_1 fl de iD iO tU fm fk fa fc ft ff fb fi]) := hD
  refine W.widen (k := 0) (n := 0) (Nat.le_of_ble_eq_true rfl) (Nat.le_of_ble_eq_true rfl) ?_
  refine W.eq (g2 := F0 m 4 ls [.int at2_1]) rfl ?_
  obtain ⟨hq2_0, hq2_1⟩ := hq2
  refine lv_istore_n (lv' := [(1, .int at2_1), (0, .ref o)]) hx hb dX12_townLine_4 rfl hl (by decide) rfl (fun ls hl => ?_)
  refine lv_aload_n hx hb dX12_townLine_5 rfl (lv_at hl 1 rfl) ?_
  refine va_ldcS (q := g.2 70) hx hb hown (zra30 hT.2.1) dX12_townLine_6 ?_
  refine mcallV' (g := g) (q0 := 0) (ci := 10) (As := [.ref (g.2 70)]) (rest := []) St hK hT hA hP hD hS hl.1 [0] [] rfl rfl rfl (m_has l g o a th hi ac tp ba en at2_1 fl de iD iO tU fm fk fa fc ft ff fb fi (g.2 70) 30 zqa30 hba hen hq2_0 hfl hde rfl zla30 zna30) (cwV 1 hts (zgL (zl4 k899 k900 k901 k839) k889) rfl rfl rfl (by decide +kernel) ⟨Nat.le_of_ble_eq_true rfl, Nat.le_of_ble_eq_true rfl⟩) rfl rfl rfl rfl (Nat.le_of_ble_eq_true rfl) dX12_townLine_8 ⟨(Nat.le_of_ble_eq_true rfl), (Nat.le_of_ble_eq_true rfl)⟩ (fun u_ H locs hq5 hP hD hS => ?_)
  obtain ⟨at2_3, r_4⟩ := u_
  replace hq5 : (0 ≤ at2_3.toInt ∧ at2_3.toInt ≤ en.toInt + 7 - de.toInt) ∧ (at2_1.toInt ≤ at2_3.toInt) ∧ (r_4 = 1 ∧ at2_1.toInt < at2_3.toInt ∧ at2_3.toInt ≤ en.toInt ∨ r_4 = 0) := hq5
  have hP : va_P g.1 vwCl (List.flatten [bMo g o a th hi ac tp ba en at2_3 fl de iD iO tU fm fk fa fc ft ff fb fi]) H := hP
  have hD : va_D A (List.flatten [bMo g o a th hi ac tp ba en at2_3 fl de iD iO tU fm fk fa fc ft ff fb fi]) := hD
  refine W.widen (k := 0) (n := 0) (Nat.le_of_ble_eq_true rfl) (Nat.le_of_ble_eq_true rfl) ?_
  refine W.eq (g2 := F0 m 11 ls [.int r_4]) rfl ?_
  obtain ⟨hq5_0, hq5_1, hq5_2⟩ := hq5
  rcases hq5_2 with ⟨rfl, hq5_k⟩ | rfl
  · skip
    refine lv_if_eq (tgt := 22) hx hb dX12_townLine_11 (by decide) (fun c6 => absurd c6 (by decide)) (fun _ => ?_)
    refine lv_aload_n hx hb dX12_townLine_14 rfl (lv_at hl 1 rfl) ?_
    refine lv_iload_n hx hb dX12_townLine_15 rfl (lv_at hl 0 rfl) ?_
    refine mcallV' (g := g) (q0 := 0) (ci := 10) (As := [.int at2_1]) (rest := []) St hK hT hA hP hD hS hl.1 [0] [] rfl rfl rfl (m_personLine l g o a th hi ac tp ba en at2_3 fl de iD iO tU fm fk fa fc ft ff fb fi at2_1 rfm hba hen hq5_0 hfl hde (by first | assumption | omega | decide | exact Or.inl (by decide) | exact Or.inr (by decide))) (cwV 1 hts (zgL (zl4 k919 k920 k921 k839) k912) rfl rfl rfl (by decide +kernel) ⟨Nat.le_of_ble_eq_true rfl, Nat.le_of_ble_eq_true rfl⟩) rfl rfl rfl rfl (Nat.le_of_ble_eq_true rfl) dX12_townLine_16 ⟨(Nat.le_of_ble_eq_true rfl), (Nat.le_of_ble_eq_true rfl)⟩ (fun u_ H locs hq10 hP hD hS => ?_)
    obtain ⟨at2_7, fl2_8, fm2_9⟩ := u_
    replace hq10 : (rM fm2_9) ∧ (0 ≤ at2_7.toInt ∧ at2_7.toInt ≤ en.toInt + 7 - de.toInt) ∧ (at2_3.toInt ≤ at2_7.toInt) ∧ (-1 ≤ fl2_8.toInt) := hq10
    have hP : va_P g.1 vwCl (List.flatten [bMo g o a th hi ac tp ba en at2_7 fl2_8 de iD iO tU fm2_9 fk fa fc ft ff fb fi]) H := hP
    have hD : va_D A (List.flatten [bMo g o a th hi ac tp ba en at2_7 fl2_8 de iD iO tU fm2_9 fk fa fc ft ff fb fi]) := hD
    refine W.widen (k := 0) (n := 0) (Nat.le_of_ble_eq_true rfl) (Nat.le_of_ble_eq_true rfl) ?_
    refine W.eq (g2 := F0 m 19 ls []) rfl ?_
    obtain ⟨rfm2_9, hq10_1, hq10_2, hq10_3⟩ := hq10
    refine lv_goto (tgt := 197) hx hb dX12_townLine_19 (by decide) ?_
    have hP : va_P g.1 vwCl (List.flatten [bMo g o a th hi ac tp ba en at2_7 fl2_8 de iD iO tU fm2_9 fk fa fc ft ff fb fi]) H := hP
    have hD : va_D A (List.flatten [bMo g o a th hi ac tp ba en at2_7 fl2_8 de iD iO tU fm2_9 fk fa fc ft ff fb fi]) := hD
    exact mret_v hx hb hr hlocks hS (Nat.le_of_ble_eq_true rfl) (Nat.le_of_ble_eq_true rfl) dX12_townLine_197 (at2_7, fl2_8, fm2_9) rfl (show (rM fm2_9) ∧ (0 ≤ at2_7.toInt ∧ at2_7.toInt ≤ en.toInt + 7 - de.toInt) ∧ (tA.toInt ≤ at2_7.toInt) ∧ (-1 ≤ fl2_8.toInt) from ⟨rfm2_9, hq10_1, (by first | assumption | omega | decide | exact rfl | exact zb01 (by omega) | exact Or.inl (by decide) | exact Or.inr (by first | omega | decide)), hq10_3⟩) hP hD
  · skip
    refine lv_if_eq (tgt := 22) hx hb dX12_townLine_11 (by decide) (fun _ => ?_) (fun c11 => absurd (by decide) c11)
    refine lv_aload_n hx hb dX12_townLine_22 rfl (lv_at hl 1 rfl) ?_
    refine va_ldcS (q := g.2 72) hx hb hown (zra31 hT.2.1) dX12_townLine_23 ?_
    refine mcallV' (g := g) (q0 := 0) (ci := 10) (As := [.ref (g.2 72)]) (rest := []) St hK hT hA hP hD hS hl.1 [0] [] rfl rfl rfl (m_has l g o a th hi ac tp ba en at2_3 fl de iD iO tU fm fk fa fc ft ff fb fi (g.2 72) 31 zqa31 hba hen hq5_0 hfl hde rfl zla31 zna31) (cwV 1 hts (zgL (zl4 k899 k900 k901 k839) k889) rfl rfl rfl (by decide +kernel) ⟨Nat.le_of_ble_eq_true rfl, Nat.le_of_ble_eq_true rfl⟩) rfl rfl rfl rfl (Nat.le_of_ble_eq_true rfl) dX12_townLine_25 ⟨(Nat.le_of_ble_eq_true rfl), (Nat.le_of_ble_eq_true rfl)⟩ (fun u_ H locs hq14 hP hD hS => ?_)
    obtain ⟨at2_12, r_13⟩ := u_
    replace hq14 : (0 ≤ at2_12.toInt ∧ at2_12.toInt ≤ en.toInt + 7 - de.toInt) ∧ (at2_3.toInt ≤ at2_12.toInt) ∧ (r_13 = 1 ∧ at2_3.toInt < at2_12.toInt ∧ at2_12.toInt ≤ en.toInt ∨ r_13 = 0) := hq14
    have hP : va_P g.1 vwCl (List.flatten [bMo g o a th hi ac tp ba en at2_12 fl de iD iO tU fm fk fa fc ft ff fb fi]) H := hP
    have hD : va_D A (List.flatten [bMo g o a th hi ac tp ba en at2_12 fl de iD iO tU fm fk fa fc ft ff fb fi]) := hD
    refine W.widen (k := 0) (n := 0) (Nat.le_of_ble_eq_true rfl) (Nat.le_of_ble_eq_true rfl) ?_
    refine W.eq (g2 := F0 m 28 ls [.int r_13]) rfl ?_
    obtain ⟨hq14_0, hq14_1, hq14_2⟩ := hq14
    rcases hq14_2 with ⟨rfl, hq14_k⟩ | rfl
    · skip
      refine lv_if_eq (tgt := 38) hx hb dX12_townLine_28 (by decide) (fun c15 => absurd c15 (by decide)) (fun _ => ?_)
      refine lv_aload_n hx hb dX12_townLine_31 rfl (lv_at hl 1 rfl) ?_
      refine mcallV' (g := g) (q0 := 0) (ci := 10) (As := []) (rest := []) St hK hT hA hP hD hS hl.1 [0] [] rfl rfl rfl (m_trustsLine l g o a th hi ac tp ba en at2_12 fl de iD iO tU fm fk fa fc ft ff fb fi rfm hba hen hq14_0 hfl hde) (cwV 0 hts (zgL (zl4 k922 k923 k924 k839) k913) rfl rfl rfl (by decide +kernel) ⟨Nat.le_of_ble_eq_true rfl, Nat.le_of_ble_eq_true rfl⟩) rfl rfl rfl rfl (Nat.le_of_ble_eq_true rfl) dX12_townLine_32 ⟨(Nat.le_of_ble_eq_true rfl), (Nat.le_of_ble_eq_true rfl)⟩ (fun u_ H locs hq19 hP hD hS => ?_)
      obtain ⟨at2_16, fl2_17, fm2_18⟩ := u_
      replace hq19 : (rM fm2_18) ∧ (0 ≤ at2_16.toInt ∧ at2_16.toInt ≤ en.toInt + 7 - de.toInt) ∧ (at2_12.toInt ≤ at2_16.toInt) ∧ (-1 ≤ fl2_17.toInt) := hq19
      have hP : va_P g.1 vwCl (List.flatten [bMo g o a th hi ac tp ba en at2_16 fl2_17 de iD iO tU fm2_18 fk fa fc ft ff fb fi]) H := hP
      have hD : va_D A (List.flatten [bMo g o a th hi ac tp ba en at2_16 fl2_17 de iD iO tU fm2_18 fk fa fc ft ff fb fi]) := hD
      refine W.widen (k := 0) (n := 0) (Nat.le_of_ble_eq_true rfl) (Nat.le_of_ble_eq_true rfl) ?_
      refine W.eq (g2 := F0 m 35 ls []) rfl ?_
      obtain ⟨rfm2_18, hq19_1, hq19_2, hq19_3⟩ := hq19
      refine lv_goto (tgt := 197) hx hb dX12_townLine_35 (by decide) ?_
      have hP : va_P g.1 vwCl (List.flatten [bMo g o a th hi ac tp ba en at2_16 fl2_17 de iD iO tU fm2_18 fk fa fc ft ff fb fi]) H := hP
      have hD : va_D A (List.flatten [bMo g o a th hi ac tp ba en at2_16 fl2_17 de iD iO tU fm2_18 fk fa fc ft ff fb fi]) := hD
      exact mret_v hx hb hr hlocks hS (Nat.le_of_ble_eq_true rfl) (Nat.le_of_ble_eq_true rfl) dX12_townLine_197 (at2_16, fl2_17, fm2_18) rfl (show (rM fm2_18) ∧ (0 ≤ at2_16.toInt ∧ at2_16.toInt ≤ en.toInt + 7 - de.toInt) ∧ (tA.toInt ≤ at2_16.toInt) ∧ (-1 ≤ fl2_17.toInt) from ⟨rfm2_18, hq19_1, (by first | assumption | omega | decide | exact rfl | exact zb01 (by omega) | exact Or.inl (by decide) | exact Or.inr (by first | omega | decide)), hq19_3⟩) hP hD
    · skip
      refine lv_if_eq (tgt := 38) hx hb dX12_townLine_28 (by decide) (fun _ => ?_) (fun c20 => absurd (by decide) c20)
      refine lv_aload_n hx hb dX12_townLine_38 rfl (lv_at hl 1 rfl) ?_
      refine va_ldcS (q := g.2 74) hx hb hown (zra32 hT.2.1) dX12_townLine_39 ?_
      refine mcallV' (g := g) (q0 := 0) (ci := 10) (As := [.ref (g.2 74)]) (rest := []) St hK hT hA hP hD hS hl.1 [0] [] rfl rfl rfl (m_has l g o a th hi ac tp ba en at2_12 fl de iD iO tU fm fk fa fc ft ff fb fi (g.2 74) 32 zqa32 hba hen hq14_0 hfl hde rfl zla32 zna32) (cwV 1 hts (zgL (zl4 k899 k900 k901 k839) k889) rfl rfl rfl (by decide +kernel) ⟨Nat.le_of_ble_eq_true rfl, Nat.le_of_ble_eq_true rfl⟩) rfl rfl rfl rfl (Nat.le_of_ble_eq_true rfl) dX12_townLine_41 ⟨(Nat.le_of_ble_eq_true rfl), (Nat.le_of_ble_eq_true rfl)⟩ (fun u_ H locs hq23 hP hD hS => ?_)
      obtain ⟨at2_21, r_22⟩ := u_
      replace hq23 : (0 ≤ at2_21.toInt ∧ at2_21.toInt ≤ en.toInt + 7 - de.toInt) ∧ (at2_12.toInt ≤ at2_21.toInt) ∧ (r_22 = 1 ∧ at2_12.toInt < at2_21.toInt ∧ at2_21.toInt ≤ en.toInt ∨ r_22 = 0) := hq23
      have hP : va_P g.1 vwCl (List.flatten [bMo g o a th hi ac tp ba en at2_21 fl de iD iO tU fm fk fa fc ft ff fb fi]) H := hP
      have hD : va_D A (List.flatten [bMo g o a th hi ac tp ba en at2_21 fl de iD iO tU fm fk fa fc ft ff fb fi]) := hD
      refine W.widen (k := 0) (n := 0) (Nat.le_of_ble_eq_true rfl) (Nat.le_of_ble_eq_true rfl) ?_
      refine W.eq (g2 := F0 m 44 ls [.int r_22]) rfl ?_
      obtain ⟨hq23_0, hq23_1, hq23_2⟩ := hq23
      rcases hq23_2 with ⟨rfl, hq23_k⟩ | rfl
      · skip
        refine lv_if_eq (tgt := 55) hx hb dX12_townLine_44 (by decide) (fun c24 => absurd c24 (by decide)) (fun _ => ?_)
        refine lv_aload_n hx hb dX12_townLine_47 rfl (lv_at hl 1 rfl) ?_
        refine lv_iload_n hx hb dX12_townLine_48 rfl (lv_at hl 0 rfl) ?_
        refine mcallV' (g := g) (q0 := 0) (ci := 10) (As := [.int at2_1]) (rest := []) St hK hT hA hP hD hS hl.1 [0] [] rfl rfl rfl (m_workLine l g o a th hi ac tp ba en at2_21 fl de iD iO tU fm fk fa fc ft ff fb fi at2_1 rfm hba hen hq23_0 hfl hde (by first | assumption | omega | decide | exact Or.inl (by decide) | exact Or.inr (by decide))) (cwV 1 hts (zgL (zl4 k925 k926 k927 k839) k917) rfl rfl rfl (by decide +kernel) ⟨Nat.le_of_ble_eq_true rfl, Nat.le_of_ble_eq_true rfl⟩) rfl rfl rfl rfl (Nat.le_of_ble_eq_true rfl) dX12_townLine_49 ⟨(Nat.le_of_ble_eq_true rfl), (Nat.le_of_ble_eq_true rfl)⟩ (fun u_ H locs hq28 hP hD hS => ?_)
        obtain ⟨at2_25, fl2_26, fm2_27⟩ := u_
        replace hq28 : (rM fm2_27) ∧ (0 ≤ at2_25.toInt ∧ at2_25.toInt ≤ en.toInt + 7 - de.toInt) ∧ (at2_21.toInt ≤ at2_25.toInt) ∧ (-1 ≤ fl2_26.toInt) := hq28
        have hP : va_P g.1 vwCl (List.flatten [bMo g o a th hi ac tp ba en at2_25 fl2_26 de iD iO tU fm2_27 fk fa fc ft ff fb fi]) H := hP
        have hD : va_D A (List.flatten [bMo g o a th hi ac tp ba en at2_25 fl2_26 de iD iO tU fm2_27 fk fa fc ft ff fb fi]) := hD
        refine W.widen (k := 0) (n := 0) (Nat.le_of_ble_eq_true rfl) (Nat.le_of_ble_eq_true rfl) ?_
        refine W.eq (g2 := F0 m 52 ls []) rfl ?_
        obtain ⟨rfm2_27, hq28_1, hq28_2, hq28_3⟩ := hq28
        refine lv_goto (tgt := 197) hx hb dX12_townLine_52 (by decide) ?_
        have hP : va_P g.1 vwCl (List.flatten [bMo g o a th hi ac tp ba en at2_25 fl2_26 de iD iO tU fm2_27 fk fa fc ft ff fb fi]) H := hP
        have hD : va_D A (List.flatten [bMo g o a th hi ac tp ba en at2_25 fl2_26 de iD iO tU fm2_27 fk fa fc ft ff fb fi]) := hD
        exact mret_v hx hb hr hlocks hS (Nat.le_of_ble_eq_true rfl) (Nat.le_of_ble_eq_true rfl) dX12_townLine_197 (at2_25, fl2_26, fm2_27) rfl (show (rM fm2_27) ∧ (0 ≤ at2_25.toInt ∧ at2_25.toInt ≤ en.toInt + 7 - de.toInt) ∧ (tA.toInt ≤ at2_25.toInt) ∧ (-1 ≤ fl2_26.toInt) from ⟨rfm2_27, hq28_1, (by first | assumption | omega | decide | exact rfl | exact zb01 (by omega) | exact Or.inl (by decide) | exact Or.inr (by first | omega | decide)), hq28_3⟩) hP hD
      · skip
        refine lv_if_eq (tgt := 55) hx hb dX12_townLine_44 (by decide) (fun _ => ?_) (fun c29 => absurd (by decide) c29)
        refine lv_aload_n hx hb dX12_townLine_55 rfl (lv_at hl 1 rfl) ?_
        refine va_ldcS (q := g.2 76) hx hb hown (zra33 hT.2.1) dX12_townLine_56 ?_
        refine mcallV' (g := g) (q0 := 0) (ci := 10) (As := [.ref (g.2 76)]) (rest := []) St hK hT hA hP hD hS hl.1 [0] [] rfl rfl rfl (m_has l g o a th hi ac tp ba en at2_21 fl de iD iO tU fm fk fa fc ft ff fb fi (g.2 76) 33 zqa33 hba hen hq23_0 hfl hde rfl zla33 zna33) (cwV 1 hts (zgL (zl4 k899 k900 k901 k839) k889) rfl rfl rfl (by decide +kernel) ⟨Nat.le_of_ble_eq_true rfl, Nat.le_of_ble_eq_true rfl⟩) rfl rfl rfl rfl (Nat.le_of_ble_eq_true rfl) dX12_townLine_58 ⟨(Nat.le_of_ble_eq_true rfl), (Nat.le_of_ble_eq_true rfl)⟩ (fun u_ H locs hq32 hP hD hS => ?_)
        obtain ⟨at2_30, r_31⟩ := u_
        replace hq32 : (0 ≤ at2_30.toInt ∧ at2_30.toInt ≤ en.toInt + 7 - de.toInt) ∧ (at2_21.toInt ≤ at2_30.toInt) ∧ (r_31 = 1 ∧ at2_21.toInt < at2_30.toInt ∧ at2_30.toInt ≤ en.toInt ∨ r_31 = 0) := hq32
        have hP : va_P g.1 vwCl (List.flatten [bMo g o a th hi ac tp ba en at2_30 fl de iD iO tU fm fk fa fc ft ff fb fi]) H := hP
        have hD : va_D A (List.flatten [bMo g o a th hi ac tp ba en at2_30 fl de iD iO tU fm fk fa fc ft ff fb fi]) := hD
        refine W.widen (k := 0) (n := 0) (Nat.le_of_ble_eq_true rfl) (Nat.le_of_ble_eq_true rfl) ?_
        refine W.eq (g2 := F0 m 61 ls [.int r_31]) rfl ?_
        obtain ⟨hq32_0, hq32_1, hq32_2⟩ := hq32
        rcases hq32_2 with ⟨rfl, hq32_k⟩ | rfl
        · skip
          refine lv_if_eq (tgt := 76) hx hb dX12_townLine_61 (by decide) (fun c33 => absurd c33 (by decide)) (fun _ => ?_)
          refine lv_aload_n hx hb dX12_townLine_64 rfl (lv_at hl 1 rfl) ?_
          refine lv_iconst (v := 5) hx hb dX12_townLine_65 (by decide) ?_
          refine lv_iconst (v := 0) hx hb dX12_townLine_66 (by decide) ?_
          refine lv_sipush (v := 999) hx hb dX12_townLine_67 (by decide) ?_
          have hL5 : (5 : Int32).toInt = 5 := by decide
          refine mcallV' (g := g) (q0 := 0) (ci := 10) (As := [.int 5, .int 0, .int 999]) (rest := []) St hK hT hA hP hD hS hl.1 [0] [] rfl rfl rfl (m_tells l g o a th hi ac tp ba en at2_30 fl de iD iO tU fm fk fa fc ft ff fb fi 5 0 999 rfm hba hen hq32_0 hfl hde (by first | assumption | omega | decide | exact Or.inl (by decide) | exact Or.inr (by decide))) (cwV 3 hts (zgL (zl4 k928 k929 k930 k839) k918) rfl rfl rfl (by decide +kernel) ⟨Nat.le_of_ble_eq_true rfl, Nat.le_of_ble_eq_true rfl⟩) rfl rfl rfl rfl (Nat.le_of_ble_eq_true rfl) dX12_townLine_70 ⟨(Nat.le_of_ble_eq_true rfl), (Nat.le_of_ble_eq_true rfl)⟩ (fun u_ H locs hq37 hP hD hS => ?_)
          obtain ⟨at2_34, fl2_35, fm2_36⟩ := u_
          replace hq37 : (rM fm2_36) ∧ (0 ≤ at2_34.toInt ∧ at2_34.toInt ≤ en.toInt + 7 - de.toInt) ∧ (at2_30.toInt ≤ at2_34.toInt) ∧ (-1 ≤ fl2_35.toInt) := hq37
          have hP : va_P g.1 vwCl (List.flatten [bMo g o a th hi ac tp ba en at2_34 fl2_35 de iD iO tU fm2_36 fk fa fc ft ff fb fi]) H := hP
          have hD : va_D A (List.flatten [bMo g o a th hi ac tp ba en at2_34 fl2_35 de iD iO tU fm2_36 fk fa fc ft ff fb fi]) := hD
          refine W.widen (k := 0) (n := 0) (Nat.le_of_ble_eq_true rfl) (Nat.le_of_ble_eq_true rfl) ?_
          refine W.eq (g2 := F0 m 73 ls []) rfl ?_
          obtain ⟨rfm2_36, hq37_1, hq37_2, hq37_3⟩ := hq37
          refine lv_goto (tgt := 197) hx hb dX12_townLine_73 (by decide) ?_
          have hP : va_P g.1 vwCl (List.flatten [bMo g o a th hi ac tp ba en at2_34 fl2_35 de iD iO tU fm2_36 fk fa fc ft ff fb fi]) H := hP
          have hD : va_D A (List.flatten [bMo g o a th hi ac tp ba en at2_34 fl2_35 de iD iO tU fm2_36 fk fa fc ft ff fb fi]) := hD
          exact mret_v hx hb hr hlocks hS (Nat.le_of_ble_eq_true rfl) (Nat.le_of_ble_eq_true rfl) dX12_townLine_197 (at2_34, fl2_35, fm2_36) rfl (show (rM fm2_36) ∧ (0 ≤ at2_34.toInt ∧ at2_34.toInt ≤ en.toInt + 7 - de.toInt) ∧ (tA.toInt ≤ at2_34.toInt) ∧ (-1 ≤ fl2_35.toInt) from ⟨rfm2_36, hq37_1, (by first | assumption | omega | decide | exact rfl | exact zb01 (by omega) | exact Or.inl (by decide) | exact Or.inr (by first | omega | decide)), hq37_3⟩) hP hD
        · skip
          refine lv_if_eq (tgt := 76) hx hb dX12_townLine_61 (by decide) (fun _ => ?_) (fun c38 => absurd (by decide) c38)
          refine lv_aload_n hx hb dX12_townLine_76 rfl (lv_at hl 1 rfl) ?_
          refine va_ldcS (q := g.2 78) hx hb hown (zra34 hT.2.1) dX12_townLine_77 ?_
          refine mcallV' (g := g) (q0 := 0) (ci := 10) (As := [.ref (g.2 78)]) (rest := []) St hK hT hA hP hD hS hl.1 [0] [] rfl rfl rfl (m_has l g o a th hi ac tp ba en at2_30 fl de iD iO tU fm fk fa fc ft ff fb fi (g.2 78) 34 zqa34 hba hen hq32_0 hfl hde rfl zla34 zna34) (cwV 1 hts (zgL (zl4 k899 k900 k901 k839) k889) rfl rfl rfl (by decide +kernel) ⟨Nat.le_of_ble_eq_true rfl, Nat.le_of_ble_eq_true rfl⟩) rfl rfl rfl rfl (Nat.le_of_ble_eq_true rfl) dX12_townLine_79 ⟨(Nat.le_of_ble_eq_true rfl), (Nat.le_of_ble_eq_true rfl)⟩ (fun u_ H locs hq41 hP hD hS => ?_)
          obtain ⟨at2_39, r_40⟩ := u_
          replace hq41 : (0 ≤ at2_39.toInt ∧ at2_39.toInt ≤ en.toInt + 7 - de.toInt) ∧ (at2_30.toInt ≤ at2_39.toInt) ∧ (r_40 = 1 ∧ at2_30.toInt < at2_39.toInt ∧ at2_39.toInt ≤ en.toInt ∨ r_40 = 0) := hq41
          have hP : va_P g.1 vwCl (List.flatten [bMo g o a th hi ac tp ba en at2_39 fl de iD iO tU fm fk fa fc ft ff fb fi]) H := hP
          have hD : va_D A (List.flatten [bMo g o a th hi ac tp ba en at2_39 fl de iD iO tU fm fk fa fc ft ff fb fi]) := hD
          refine W.widen (k := 0) (n := 0) (Nat.le_of_ble_eq_true rfl) (Nat.le_of_ble_eq_true rfl) ?_
          refine W.eq (g2 := F0 m 82 ls [.int r_40]) rfl ?_
          obtain ⟨hq41_0, hq41_1, hq41_2⟩ := hq41
          rcases hq41_2 with ⟨rfl, hq41_k⟩ | rfl
          · skip
            refine lv_if_eq (tgt := 97) hx hb dX12_townLine_82 (by decide) (fun c42 => absurd c42 (by decide)) (fun _ => ?_)
            refine lv_aload_n hx hb dX12_townLine_85 rfl (lv_at hl 1 rfl) ?_
            refine lv_bipush (v := 6) hx hb dX12_townLine_86 (by decide) ?_
            refine lv_iconst (v := 1) hx hb dX12_townLine_88 (by decide) ?_
            refine lv_bipush (v := 30) hx hb dX12_townLine_89 (by decide) ?_
            have hL6 : (6 : Int32).toInt = 6 := by decide
            refine mcallV' (g := g) (q0 := 0) (ci := 10) (As := [.int 6, .int 1, .int 30]) (rest := []) St hK hT hA hP hD hS hl.1 [0] [] rfl rfl rfl (m_tells l g o a th hi ac tp ba en at2_39 fl de iD iO tU fm fk fa fc ft ff fb fi 6 1 30 rfm hba hen hq41_0 hfl hde (by first | assumption | omega | decide | exact Or.inl (by decide) | exact Or.inr (by decide))) (cwV 3 hts (zgL (zl4 k928 k929 k930 k839) k918) rfl rfl rfl (by decide +kernel) ⟨Nat.le_of_ble_eq_true rfl, Nat.le_of_ble_eq_true rfl⟩) rfl rfl rfl rfl (Nat.le_of_ble_eq_true rfl) dX12_townLine_91 ⟨(Nat.le_of_ble_eq_true rfl), (Nat.le_of_ble_eq_true rfl)⟩ (fun u_ H locs hq46 hP hD hS => ?_)
            obtain ⟨at2_43, fl2_44, fm2_45⟩ := u_
            replace hq46 : (rM fm2_45) ∧ (0 ≤ at2_43.toInt ∧ at2_43.toInt ≤ en.toInt + 7 - de.toInt) ∧ (at2_39.toInt ≤ at2_43.toInt) ∧ (-1 ≤ fl2_44.toInt) := hq46
            have hP : va_P g.1 vwCl (List.flatten [bMo g o a th hi ac tp ba en at2_43 fl2_44 de iD iO tU fm2_45 fk fa fc ft ff fb fi]) H := hP
            have hD : va_D A (List.flatten [bMo g o a th hi ac tp ba en at2_43 fl2_44 de iD iO tU fm2_45 fk fa fc ft ff fb fi]) := hD
            refine W.widen (k := 0) (n := 0) (Nat.le_of_ble_eq_true rfl) (Nat.le_of_ble_eq_true rfl) ?_
            refine W.eq (g2 := F0 m 94 ls []) rfl ?_
            obtain ⟨rfm2_45, hq46_1, hq46_2, hq46_3⟩ := hq46
            refine lv_goto (tgt := 197) hx hb dX12_townLine_94 (by decide) ?_
            have hP : va_P g.1 vwCl (List.flatten [bMo g o a th hi ac tp ba en at2_43 fl2_44 de iD iO tU fm2_45 fk fa fc ft ff fb fi]) H := hP
            have hD : va_D A (List.flatten [bMo g o a th hi ac tp ba en at2_43 fl2_44 de iD iO tU fm2_45 fk fa fc ft ff fb fi]) := hD
            exact mret_v hx hb hr hlocks hS (Nat.le_of_ble_eq_true rfl) (Nat.le_of_ble_eq_true rfl) dX12_townLine_197 (at2_43, fl2_44, fm2_45) rfl (show (rM fm2_45) ∧ (0 ≤ at2_43.toInt ∧ at2_43.toInt ≤ en.toInt + 7 - de.toInt) ∧ (tA.toInt ≤ at2_43.toInt) ∧ (-1 ≤ fl2_44.toInt) from ⟨rfm2_45, hq46_1, (by first | assumption | omega | decide | exact rfl | exact zb01 (by omega) | exact Or.inl (by decide) | exact Or.inr (by first | omega | decide)), hq46_3⟩) hP hD
          · skip
            refine lv_if_eq (tgt := 97) hx hb dX12_townLine_82 (by decide) (fun _ => ?_) (fun c47 => absurd (by decide) c47)
            refine lv_aload_n hx hb dX12_townLine_97 rfl (lv_at hl 1 rfl) ?_
            refine va_ldcS (q := g.2 80) hx hb hown (zra35 hT.2.1) dX12_townLine_98 ?_
            refine mcallV' (g := g) (q0 := 0) (ci := 10) (As := [.ref (g.2 80)]) (rest := []) St hK hT hA hP hD hS hl.1 [0] [] rfl rfl rfl (m_has l g o a th hi ac tp ba en at2_39 fl de iD iO tU fm fk fa fc ft ff fb fi (g.2 80) 35 zqa35 hba hen hq41_0 hfl hde rfl zla35 zna35) (cwV 1 hts (zgL (zl4 k899 k900 k901 k839) k889) rfl rfl rfl (by decide +kernel) ⟨Nat.le_of_ble_eq_true rfl, Nat.le_of_ble_eq_true rfl⟩) rfl rfl rfl rfl (Nat.le_of_ble_eq_true rfl) dX12_townLine_100 ⟨(Nat.le_of_ble_eq_true rfl), (Nat.le_of_ble_eq_true rfl)⟩ (fun u_ H locs hq50 hP hD hS => ?_)
            obtain ⟨at2_48, r_49⟩ := u_
            replace hq50 : (0 ≤ at2_48.toInt ∧ at2_48.toInt ≤ en.toInt + 7 - de.toInt) ∧ (at2_39.toInt ≤ at2_48.toInt) ∧ (r_49 = 1 ∧ at2_39.toInt < at2_48.toInt ∧ at2_48.toInt ≤ en.toInt ∨ r_49 = 0) := hq50
            have hP : va_P g.1 vwCl (List.flatten [bMo g o a th hi ac tp ba en at2_48 fl de iD iO tU fm fk fa fc ft ff fb fi]) H := hP
            have hD : va_D A (List.flatten [bMo g o a th hi ac tp ba en at2_48 fl de iD iO tU fm fk fa fc ft ff fb fi]) := hD
            refine W.widen (k := 0) (n := 0) (Nat.le_of_ble_eq_true rfl) (Nat.le_of_ble_eq_true rfl) ?_
            refine W.eq (g2 := F0 m 103 ls [.int r_49]) rfl ?_
            obtain ⟨hq50_0, hq50_1, hq50_2⟩ := hq50
            rcases hq50_2 with ⟨rfl, hq50_k⟩ | rfl
            · skip
              refine lv_if_eq (tgt := 118) hx hb dX12_townLine_103 (by decide) (fun c51 => absurd c51 (by decide)) (fun _ => ?_)
              refine lv_aload_n hx hb dX12_townLine_106 rfl (lv_at hl 1 rfl) ?_
              refine lv_bipush (v := 7) hx hb dX12_townLine_107 (by decide) ?_
              refine lv_iconst (v := 0) hx hb dX12_townLine_109 (by decide) ?_
              refine lv_bipush (v := 100) hx hb dX12_townLine_110 (by decide) ?_
              have hL7 : (7 : Int32).toInt = 7 := by decide
              refine mcallV' (g := g) (q0 := 0) (ci := 10) (As := [.int 7, .int 0, .int 100]) (rest := []) St hK hT hA hP hD hS hl.1 [0] [] rfl rfl rfl (m_tells l g o a th hi ac tp ba en at2_48 fl de iD iO tU fm fk fa fc ft ff fb fi 7 0 100 rfm hba hen hq50_0 hfl hde (by first | assumption | omega | decide | exact Or.inl (by decide) | exact Or.inr (by decide))) (cwV 3 hts (zgL (zl4 k928 k929 k930 k839) k918) rfl rfl rfl (by decide +kernel) ⟨Nat.le_of_ble_eq_true rfl, Nat.le_of_ble_eq_true rfl⟩) rfl rfl rfl rfl (Nat.le_of_ble_eq_true rfl) dX12_townLine_112 ⟨(Nat.le_of_ble_eq_true rfl), (Nat.le_of_ble_eq_true rfl)⟩ (fun u_ H locs hq55 hP hD hS => ?_)
              obtain ⟨at2_52, fl2_53, fm2_54⟩ := u_
              replace hq55 : (rM fm2_54) ∧ (0 ≤ at2_52.toInt ∧ at2_52.toInt ≤ en.toInt + 7 - de.toInt) ∧ (at2_48.toInt ≤ at2_52.toInt) ∧ (-1 ≤ fl2_53.toInt) := hq55
              have hP : va_P g.1 vwCl (List.flatten [bMo g o a th hi ac tp ba en at2_52 fl2_53 de iD iO tU fm2_54 fk fa fc ft ff fb fi]) H := hP
              have hD : va_D A (List.flatten [bMo g o a th hi ac tp ba en at2_52 fl2_53 de iD iO tU fm2_54 fk fa fc ft ff fb fi]) := hD
              refine W.widen (k := 0) (n := 0) (Nat.le_of_ble_eq_true rfl) (Nat.le_of_ble_eq_true rfl) ?_
              refine W.eq (g2 := F0 m 115 ls []) rfl ?_
              obtain ⟨rfm2_54, hq55_1, hq55_2, hq55_3⟩ := hq55
              refine lv_goto (tgt := 197) hx hb dX12_townLine_115 (by decide) ?_
              have hP : va_P g.1 vwCl (List.flatten [bMo g o a th hi ac tp ba en at2_52 fl2_53 de iD iO tU fm2_54 fk fa fc ft ff fb fi]) H := hP
              have hD : va_D A (List.flatten [bMo g o a th hi ac tp ba en at2_52 fl2_53 de iD iO tU fm2_54 fk fa fc ft ff fb fi]) := hD
              exact mret_v hx hb hr hlocks hS (Nat.le_of_ble_eq_true rfl) (Nat.le_of_ble_eq_true rfl) dX12_townLine_197 (at2_52, fl2_53, fm2_54) rfl (show (rM fm2_54) ∧ (0 ≤ at2_52.toInt ∧ at2_52.toInt ≤ en.toInt + 7 - de.toInt) ∧ (tA.toInt ≤ at2_52.toInt) ∧ (-1 ≤ fl2_53.toInt) from ⟨rfm2_54, hq55_1, (by first | assumption | omega | decide | exact rfl | exact zb01 (by omega) | exact Or.inl (by decide) | exact Or.inr (by first | omega | decide)), hq55_3⟩) hP hD
            · skip
              refine lv_if_eq (tgt := 118) hx hb dX12_townLine_103 (by decide) (fun _ => ?_) (fun c56 => absurd (by decide) c56)
              refine lv_aload_n hx hb dX12_townLine_118 rfl (lv_at hl 1 rfl) ?_
              refine va_ldcS (q := g.2 82) hx hb hown (zra36 hT.2.1) dX12_townLine_119 ?_
              refine mcallV' (g := g) (q0 := 0) (ci := 10) (As := [.ref (g.2 82)]) (rest := []) St hK hT hA hP hD hS hl.1 [0] [] rfl rfl rfl (m_has l g o a th hi ac tp ba en at2_48 fl de iD iO tU fm fk fa fc ft ff fb fi (g.2 82) 36 zqa36 hba hen hq50_0 hfl hde rfl zla36 zna36) (cwV 1 hts (zgL (zl4 k899 k900 k901 k839) k889) rfl rfl rfl (by decide +kernel) ⟨Nat.le_of_ble_eq_true rfl, Nat.le_of_ble_eq_true rfl⟩) rfl rfl rfl rfl (Nat.le_of_ble_eq_true rfl) dX12_townLine_121 ⟨(Nat.le_of_ble_eq_true rfl), (Nat.le_of_ble_eq_true rfl)⟩ (fun u_ H locs hq59 hP hD hS => ?_)
              obtain ⟨at2_57, r_58⟩ := u_
              replace hq59 : (0 ≤ at2_57.toInt ∧ at2_57.toInt ≤ en.toInt + 7 - de.toInt) ∧ (at2_48.toInt ≤ at2_57.toInt) ∧ (r_58 = 1 ∧ at2_48.toInt < at2_57.toInt ∧ at2_57.toInt ≤ en.toInt ∨ r_58 = 0) := hq59
              have hP : va_P g.1 vwCl (List.flatten [bMo g o a th hi ac tp ba en at2_57 fl de iD iO tU fm fk fa fc ft ff fb fi]) H := hP
              have hD : va_D A (List.flatten [bMo g o a th hi ac tp ba en at2_57 fl de iD iO tU fm fk fa fc ft ff fb fi]) := hD
              refine W.widen (k := 0) (n := 0) (Nat.le_of_ble_eq_true rfl) (Nat.le_of_ble_eq_true rfl) ?_
              refine W.eq (g2 := F0 m 124 ls [.int r_58]) rfl ?_
              obtain ⟨hq59_0, hq59_1, hq59_2⟩ := hq59
              rcases hq59_2 with ⟨rfl, hq59_k⟩ | rfl
              · skip
                refine lv_if_eq (tgt := 167) hx hb dX12_townLine_124 (by decide) (fun c60 => absurd c60 (by decide)) (fun _ => ?_)
                refine lv_aload_n hx hb dX12_townLine_127 rfl (lv_at hl 1 rfl) ?_
                refine lv_iconst (v := 0) hx hb dX12_townLine_128 (by decide) ?_
                refine lv_aload_n hx hb dX12_townLine_129 rfl (lv_at hl 1 rfl) ?_
                refine va_get (D := g.1) (ci := 10) (v := .ref (a 0)) (C := RX12) (T := TX12) (N := 20) hx hb hts izRX12 hown hK hP 0 rfl rfl 1 (by decide) (hts _ k815) (fun _ h9 => h9) rfl dX12_townLine_130 ?_
                refine lv_iconst (v := 3) hx hb dX12_townLine_133 (by decide) ?_
                refine va_iald hx hb hK hP 1 0 rfl rfl (zin rfl) dX12_townLine_134 ?_
                refine zgq (r := fm 3) rfl (rM3 rfm) (fun x_61 hx_61 => ?_)
                refine lv_iconst (v := 1) hx hb dX12_townLine_135 (by decide) ?_
                refine lv_isub hx hb dX12_townLine_136 ?_
                refine zg3 (zsubK (i := x_61.toInt) (j := 1) (a' := (-1)) (b' := 7) rfl (by decide) hx_61.1 hx_61.2.1 (Int.le_refl _) (Int.le_refl _) (by decide)) (fun x_62 hx_62 => ?_)
                have hL0 : (0 : Int32).toInt = 0 := by decide
                refine mcallV' (g := g) (q0 := 0) (ci := 10) (As := [.int 0, .int x_62]) (rest := []) St hK hT hA hP hD hS hl.1 [0] [] rfl rfl rfl (m_figures l g o a th hi ac tp ba en at2_57 fl de iD iO tU fm fk fa fc ft ff fb fi 0 x_62 hba hen hq59_0 hfl hde) (cwV 2 hts (zgL (zl4 k902 k903 k904 k839) k898) rfl rfl rfl (by decide +kernel) ⟨Nat.le_of_ble_eq_true rfl, Nat.le_of_ble_eq_true rfl⟩) rfl rfl rfl rfl (Nat.le_of_ble_eq_true rfl) dX12_townLine_137 ⟨(Nat.le_of_ble_eq_true rfl), (Nat.le_of_ble_eq_true rfl)⟩ (fun u_ H locs hq66 hP hD hS => ?_)
                obtain ⟨at2_63, fl2_64, r_65⟩ := u_
                replace hq66 : (0 ≤ at2_63.toInt ∧ at2_63.toInt ≤ en.toInt + 7 - de.toInt) ∧ (at2_57.toInt ≤ at2_63.toInt) ∧ (-1 ≤ fl2_64.toInt) ∧ (zImp (fl2_64.toInt = -1) (fl.toInt = -1 ∧ (0 : Int32).toInt ≤ r_65.toInt ∧ r_65.toInt ≤ x_62.toInt)) := hq66
                have hP : va_P g.1 vwCl (List.flatten [bMo g o a th hi ac tp ba en at2_63 fl2_64 de iD iO tU fm fk fa fc ft ff fb fi]) H := hP
                have hD : va_D A (List.flatten [bMo g o a th hi ac tp ba en at2_63 fl2_64 de iD iO tU fm fk fa fc ft ff fb fi]) := hD
                refine W.widen (k := 0) (n := 0) (Nat.le_of_ble_eq_true rfl) (Nat.le_of_ble_eq_true rfl) ?_
                refine W.eq (g2 := F0 m 140 ls [.int r_65]) rfl ?_
                obtain ⟨hq66_0, hq66_1, hq66_2, hq66_3⟩ := hq66
                refine lv_istore_n (lv' := [(2, .int r_65), (1, .int at2_1), (0, .ref o)]) hx hb dX12_townLine_140 rfl hl (by decide) rfl (fun ls hl => ?_)
                refine lv_aload_n hx hb dX12_townLine_141 rfl (lv_at hl 2 rfl) ?_
                refine va_get (D := g.1) (ci := 10) (v := .int fl2_64) (C := RX12) (T := TX12) (N := 20) hx hb hts izRX12 hown hK hP 0 rfl rfl 12 (by decide) (hts _ k820) (fun _ h9 => h9) rfl dX12_townLine_142 ?_
                refine lv_iconst (v := (-1)) hx hb dX12_townLine_145 (by decide) ?_
                refine lv_icmp_ne (tgt := 164) hx hb dX12_townLine_146 (by decide) (fun cb9 => ?_) (fun cb9 => ?_)
                · skip
                  have c67 : ¬ fl2_64.toInt = (-1) := zne cb9 rfl (by decide)
                  refine lv_goto (tgt := 197) hx hb dX12_townLine_164 (by decide) ?_
                  have hP : va_P g.1 vwCl (List.flatten [bMo g o a th hi ac tp ba en at2_63 fl2_64 de iD iO tU fm fk fa fc ft ff fb fi]) H := hP
                  have hD : va_D A (List.flatten [bMo g o a th hi ac tp ba en at2_63 fl2_64 de iD iO tU fm fk fa fc ft ff fb fi]) := hD
                  exact mret_v hx hb hr hlocks hS (Nat.le_of_ble_eq_true rfl) (Nat.le_of_ble_eq_true rfl) dX12_townLine_197 (at2_63, fl2_64, fm) rfl (show (rM fm) ∧ (0 ≤ at2_63.toInt ∧ at2_63.toInt ≤ en.toInt + 7 - de.toInt) ∧ (tA.toInt ≤ at2_63.toInt) ∧ (-1 ≤ fl2_64.toInt) from ⟨rfm, hq66_0, (by first | assumption | omega | decide | exact rfl | exact zb01 (by omega) | exact Or.inl (by decide) | exact Or.inr (by first | omega | decide)), hq66_2⟩) hP hD
                · skip
                  have c68 : fl2_64.toInt = (-1) := zeq cb9 rfl (by decide)
                  have n69 : fl2_64.toInt ≤ (-1) := Int.le_trans (Int.le_of_eq c68) (Int.le_refl _)
                  obtain ⟨e71, w70⟩ := hq66_3 c68
                  have w72 : 0 ≤ r_65.toInt ∧ r_65.toInt ≤ 7 := by omega
                  refine lv_aload_n hx hb dX12_townLine_149 rfl (lv_at hl 2 rfl) ?_
                  refine lv_bipush (v := 11) hx hb dX12_townLine_150 (by decide) ?_
                  refine lv_iconst (v := 5) hx hb dX12_townLine_152 (by decide) ?_
                  refine lv_iload_n hx hb dX12_townLine_153 rfl (lv_at hl 0 rfl) ?_
                  refine lv_imul hx hb dX12_townLine_154 ?_
                  refine zg3 (zmulKL (i := r_65.toInt) (n := 5) (a' := 0) (b' := 35) rfl (by decide) w72.1 w72.2 (by decide) (by decide)) (fun x_73 hx_73 => ?_)
                  refine lv_iadd hx hb dX12_townLine_155 ?_
                  refine zg3 (zaddK (i := 11) (j := x_73.toInt) (a' := 11) (b' := 46) (by decide) rfl (Int.le_refl _) (Int.le_refl _) hx_73.2.1 hx_73.2.2 (by decide)) (fun x_74 hx_74 => ?_)
                  refine lv_iconst (v := 2) hx hb dX12_townLine_156 (by decide) ?_
                  refine lv_iadd hx hb dX12_townLine_157 ?_
                  refine zg3 (zaddK (i := x_74.toInt) (j := 2) (a' := 13) (b' := 48) rfl (by decide) hx_74.2.1 hx_74.2.2 (Int.le_refl _) (Int.le_refl _) (by decide)) (fun x_75 hx_75 => ?_)
                  refine lv_iconst (v := 0) hx hb dX12_townLine_158 (by decide) ?_
                  refine lv_bipush (v := 99) hx hb dX12_townLine_159 (by decide) ?_
                  refine mcallV' (g := g) (q0 := 0) (ci := 10) (As := [.int x_75, .int 0, .int 99]) (rest := []) St hK hT hA hP hD hS hl.1 [0] [] rfl rfl rfl (m_tells l g o a th hi ac tp ba en at2_63 fl2_64 de iD iO tU fm fk fa fc ft ff fb fi x_75 0 99 rfm hba hen hq66_0 hq66_2 hde (by first | assumption | omega | decide | exact Or.inl (by decide) | exact Or.inr (by decide))) (cwV 3 hts (zgL (zl4 k928 k929 k930 k839) k918) rfl rfl rfl (by decide +kernel) ⟨Nat.le_of_ble_eq_true rfl, Nat.le_of_ble_eq_true rfl⟩) rfl rfl rfl rfl (Nat.le_of_ble_eq_true rfl) dX12_townLine_161 ⟨(Nat.le_of_ble_eq_true rfl), (Nat.le_of_ble_eq_true rfl)⟩ (fun u_ H locs hq79 hP hD hS => ?_)
                  obtain ⟨at2_76, fl2_77, fm2_78⟩ := u_
                  replace hq79 : (rM fm2_78) ∧ (0 ≤ at2_76.toInt ∧ at2_76.toInt ≤ en.toInt + 7 - de.toInt) ∧ (at2_63.toInt ≤ at2_76.toInt) ∧ (-1 ≤ fl2_77.toInt) := hq79
                  have hP : va_P g.1 vwCl (List.flatten [bMo g o a th hi ac tp ba en at2_76 fl2_77 de iD iO tU fm2_78 fk fa fc ft ff fb fi]) H := hP
                  have hD : va_D A (List.flatten [bMo g o a th hi ac tp ba en at2_76 fl2_77 de iD iO tU fm2_78 fk fa fc ft ff fb fi]) := hD
                  refine W.widen (k := 0) (n := 0) (Nat.le_of_ble_eq_true rfl) (Nat.le_of_ble_eq_true rfl) ?_
                  refine W.eq (g2 := F0 m 164 ls []) rfl ?_
                  obtain ⟨rfm2_78, hq79_1, hq79_2, hq79_3⟩ := hq79
                  refine lv_goto (tgt := 197) hx hb dX12_townLine_164 (by decide) ?_
                  have hP : va_P g.1 vwCl (List.flatten [bMo g o a th hi ac tp ba en at2_76 fl2_77 de iD iO tU fm2_78 fk fa fc ft ff fb fi]) H := hP
                  have hD : va_D A (List.flatten [bMo g o a th hi ac tp ba en at2_76 fl2_77 de iD iO tU fm2_78 fk fa fc ft ff fb fi]) := hD
                  exact mret_v hx hb hr hlocks hS (Nat.le_of_ble_eq_true rfl) (Nat.le_of_ble_eq_true rfl) dX12_townLine_197 (at2_76, fl2_77, fm2_78) rfl (show (rM fm2_78) ∧ (0 ≤ at2_76.toInt ∧ at2_76.toInt ≤ en.toInt + 7 - de.toInt) ∧ (tA.toInt ≤ at2_76.toInt) ∧ (-1 ≤ fl2_77.toInt) from ⟨rfm2_78, hq79_1, (by first | assumption | omega | decide | exact rfl | exact zb01 (by omega) | exact Or.inl (by decide) | exact Or.inr (by first | omega | decide)), hq79_3⟩) hP hD
              · skip
                refine lv_if_eq (tgt := 167) hx hb dX12_townLine_124 (by decide) (fun _ => ?_) (fun c80 => absurd (by decide) c80)
                refine lv_aload_n hx hb dX12_townLine_167 rfl (lv_at hl 1 rfl) ?_
                refine va_ldcS (q := g.2 84) hx hb hown (zra37 hT.2.1) dX12_townLine_168 ?_
                refine mcallV' (g := g) (q0 := 0) (ci := 10) (As := [.ref (g.2 84)]) (rest := []) St hK hT hA hP hD hS hl.1 [0] [] rfl rfl rfl (m_has l g o a th hi ac tp ba en at2_57 fl de iD iO tU fm fk fa fc ft ff fb fi (g.2 84) 37 zqa37 hba hen hq59_0 hfl hde rfl zla37 zna37) (cwV 1 hts (zgL (zl4 k899 k900 k901 k839) k889) rfl rfl rfl (by decide +kernel) ⟨Nat.le_of_ble_eq_true rfl, Nat.le_of_ble_eq_true rfl⟩) rfl rfl rfl rfl (Nat.le_of_ble_eq_true rfl) dX12_townLine_170 ⟨(Nat.le_of_ble_eq_true rfl), (Nat.le_of_ble_eq_true rfl)⟩ (fun u_ H locs hq83 hP hD hS => ?_)
                obtain ⟨at2_81, r_82⟩ := u_
                replace hq83 : (0 ≤ at2_81.toInt ∧ at2_81.toInt ≤ en.toInt + 7 - de.toInt) ∧ (at2_57.toInt ≤ at2_81.toInt) ∧ (r_82 = 1 ∧ at2_57.toInt < at2_81.toInt ∧ at2_81.toInt ≤ en.toInt ∨ r_82 = 0) := hq83
                have hP : va_P g.1 vwCl (List.flatten [bMo g o a th hi ac tp ba en at2_81 fl de iD iO tU fm fk fa fc ft ff fb fi]) H := hP
                have hD : va_D A (List.flatten [bMo g o a th hi ac tp ba en at2_81 fl de iD iO tU fm fk fa fc ft ff fb fi]) := hD
                refine W.widen (k := 0) (n := 0) (Nat.le_of_ble_eq_true rfl) (Nat.le_of_ble_eq_true rfl) ?_
                refine W.eq (g2 := F0 m 173 ls [.int r_82]) rfl ?_
                obtain ⟨hq83_0, hq83_1, hq83_2⟩ := hq83
                rcases hq83_2 with ⟨rfl, hq83_k⟩ | rfl
                · skip
                  refine lv_if_eq (tgt := 189) hx hb dX12_townLine_173 (by decide) (fun c84 => absurd c84 (by decide)) (fun _ => ?_)
                  refine lv_aload_n hx hb dX12_townLine_176 rfl (lv_at hl 1 rfl) ?_
                  refine lv_bipush (v := 8) hx hb dX12_townLine_177 (by decide) ?_
                  refine lv_iconst (v := 0) hx hb dX12_townLine_179 (by decide) ?_
                  refine lv_sipush (v := 999) hx hb dX12_townLine_180 (by decide) ?_
                  have hL8 : (8 : Int32).toInt = 8 := by decide
                  refine mcallV' (g := g) (q0 := 0) (ci := 10) (As := [.int 8, .int 0, .int 999]) (rest := []) St hK hT hA hP hD hS hl.1 [0] [] rfl rfl rfl (m_tells l g o a th hi ac tp ba en at2_81 fl de iD iO tU fm fk fa fc ft ff fb fi 8 0 999 rfm hba hen hq83_0 hfl hde (by first | assumption | omega | decide | exact Or.inl (by decide) | exact Or.inr (by decide))) (cwV 3 hts (zgL (zl4 k928 k929 k930 k839) k918) rfl rfl rfl (by decide +kernel) ⟨Nat.le_of_ble_eq_true rfl, Nat.le_of_ble_eq_true rfl⟩) rfl rfl rfl rfl (Nat.le_of_ble_eq_true rfl) dX12_townLine_183 ⟨(Nat.le_of_ble_eq_true rfl), (Nat.le_of_ble_eq_true rfl)⟩ (fun u_ H locs hq88 hP hD hS => ?_)
                  obtain ⟨at2_85, fl2_86, fm2_87⟩ := u_
                  replace hq88 : (rM fm2_87) ∧ (0 ≤ at2_85.toInt ∧ at2_85.toInt ≤ en.toInt + 7 - de.toInt) ∧ (at2_81.toInt ≤ at2_85.toInt) ∧ (-1 ≤ fl2_86.toInt) := hq88
                  have hP : va_P g.1 vwCl (List.flatten [bMo g o a th hi ac tp ba en at2_85 fl2_86 de iD iO tU fm2_87 fk fa fc ft ff fb fi]) H := hP
                  have hD : va_D A (List.flatten [bMo g o a th hi ac tp ba en at2_85 fl2_86 de iD iO tU fm2_87 fk fa fc ft ff fb fi]) := hD
                  refine W.widen (k := 0) (n := 0) (Nat.le_of_ble_eq_true rfl) (Nat.le_of_ble_eq_true rfl) ?_
                  refine W.eq (g2 := F0 m 186 ls []) rfl ?_
                  obtain ⟨rfm2_87, hq88_1, hq88_2, hq88_3⟩ := hq88
                  refine lv_goto (tgt := 197) hx hb dX12_townLine_186 (by decide) ?_
                  have hP : va_P g.1 vwCl (List.flatten [bMo g o a th hi ac tp ba en at2_85 fl2_86 de iD iO tU fm2_87 fk fa fc ft ff fb fi]) H := hP
                  have hD : va_D A (List.flatten [bMo g o a th hi ac tp ba en at2_85 fl2_86 de iD iO tU fm2_87 fk fa fc ft ff fb fi]) := hD
                  exact mret_v hx hb hr hlocks hS (Nat.le_of_ble_eq_true rfl) (Nat.le_of_ble_eq_true rfl) dX12_townLine_197 (at2_85, fl2_86, fm2_87) rfl (show (rM fm2_87) ∧ (0 ≤ at2_85.toInt ∧ at2_85.toInt ≤ en.toInt + 7 - de.toInt) ∧ (tA.toInt ≤ at2_85.toInt) ∧ (-1 ≤ fl2_86.toInt) from ⟨rfm2_87, hq88_1, (by first | assumption | omega | decide | exact rfl | exact zb01 (by omega) | exact Or.inl (by decide) | exact Or.inr (by first | omega | decide)), hq88_3⟩) hP hD
                · skip
                  refine lv_if_eq (tgt := 189) hx hb dX12_townLine_173 (by decide) (fun _ => ?_) (fun c89 => absurd (by decide) c89)
                  refine lv_aload_n hx hb dX12_townLine_189 rfl (lv_at hl 1 rfl) ?_
                  refine lv_aload_n hx hb dX12_townLine_190 rfl (lv_at hl 1 rfl) ?_
                  refine va_get (D := g.1) (ci := 10) (v := .int at2_81) (C := RX12) (T := TX12) (N := 20) hx hb hts izRX12 hown hK hP 0 rfl rfl 11 (by decide) (hts _ k878) (fun _ h9 => h9) rfl dX12_townLine_191 ?_
                  refine mcallV' (g := g) (q0 := 0) (ci := 10) (As := [.int at2_81]) (rest := []) St hK hT hA hP hD hS hl.1 [0] [] rfl rfl rfl (m_wrong l g o a th hi ac tp ba en at2_81 fl de iD iO tU fm fk fa fc ft ff fb fi at2_81 (by first | assumption | omega | decide | exact Or.inl (by decide) | exact Or.inr (by decide)) hfl) (cwV 1 hts (zgL (zl4 k895 k896 k897 k839) k890) rfl rfl rfl (by decide +kernel) ⟨Nat.le_of_ble_eq_true rfl, Nat.le_of_ble_eq_true rfl⟩) rfl rfl rfl rfl (Nat.le_of_ble_eq_true rfl) dX12_townLine_194 ⟨(Nat.le_of_ble_eq_true rfl), (Nat.le_of_ble_eq_true rfl)⟩ (fun fl2_90 H locs hq91 hP hD hS => ?_)
                  replace hq91 : (0 ≤ fl2_90.toInt) := hq91
                  have hP : va_P g.1 vwCl (List.flatten [bMo g o a th hi ac tp ba en at2_81 fl2_90 de iD iO tU fm fk fa fc ft ff fb fi]) H := hP
                  have hD : va_D A (List.flatten [bMo g o a th hi ac tp ba en at2_81 fl2_90 de iD iO tU fm fk fa fc ft ff fb fi]) := hD
                  refine W.widen (k := 0) (n := 0) (Nat.le_of_ble_eq_true rfl) (Nat.le_of_ble_eq_true rfl) ?_
                  refine W.eq (g2 := F0 m 197 ls []) rfl ?_
                  have hP : va_P g.1 vwCl (List.flatten [bMo g o a th hi ac tp ba en at2_81 fl2_90 de iD iO tU fm fk fa fc ft ff fb fi]) H := hP
                  have hD : va_D A (List.flatten [bMo g o a th hi ac tp ba en at2_81 fl2_90 de iD iO tU fm fk fa fc ft ff fb fi]) := hD
                  exact mret_v hx hb hr hlocks hS (Nat.le_of_ble_eq_true rfl) (Nat.le_of_ble_eq_true rfl) dX12_townLine_197 (at2_81, fl2_90, fm) rfl (show (rM fm) ∧ (0 ≤ at2_81.toInt ∧ at2_81.toInt ≤ en.toInt + 7 - de.toInt) ∧ (tA.toInt ≤ at2_81.toInt) ∧ (-1 ≤ fl2_90.toInt) from ⟨rfm, hq83_0, (by first | assumption | omega | decide | exact rfl | exact zb01 (by omega) | exact Or.inl (by decide) | exact Or.inr (by first | omega | decide)), (by first | assumption | omega | decide | exact rfl | exact zb01 (by omega) | exact Or.inl (by decide) | exact Or.inr (by first | omega | decide))⟩) hP hD
set_option maxRecDepth 100000 in
set_option maxHeartbeats 4000000 in
theorem m_part (l : Launch) (g : zG) (o : Nat) (a : Nat → Nat) (th : Int32) (hi : Int32) (ac : Int32) (tp : Int32) (ba : Int32) (en : Int32) (tA : Int32) (fl : Int32) (de : Int32) (iD : Int32) (iO : Int32) (tU : Int32) (fm : Nat → Int32) (fk : Nat → Int32) (fa : Nat → Int32) (fc : Nat → Int32) (ft : Nat → Int32) (ff : Nat → Int32) (fb : Nat → Int32) (fi : Nat → Int32) (hba : zBa ba.toInt) (hen : 0 ≤ en.toInt ∧ en.toInt ≤ 400) (htA : 0 ≤ tA.toInt ∧ tA.toInt ≤ en.toInt + 7 - de.toInt) (hfl : -1 ≤ fl.toInt) (hde : 0 ≤ de.toInt ∧ de.toInt ≤ 6) : zM' g l yX12_part (Cond.code yX12_part cX12_part 2 (some .int) :: zB) ({ frames := 5, cells := 0, slots := 0, locals := 108 } : Room) [.ref o] [bMo g o a th hi ac tp ba en tA fl de iD iO tU fm fk fa fc ft ff fb fi] (fun u : Int32 × Int32 × Int32 => (fun (at2 : Int32) (fl2 : Int32) (q : Int32) => some (.int q)) (u.1) (u.2.1) (u.2.2)) (fun u : Int32 × Int32 × Int32 => (fun (at2 : Int32) (fl2 : Int32) (q : Int32) => (0 ≤ at2.toInt ∧ at2.toInt ≤ en.toInt + 7 - de.toInt) ∧ (tA.toInt ≤ at2.toInt) ∧ (-1 ≤ fl2.toInt)) (u.1) (u.2.1) (u.2.2)) (fun u : Int32 × Int32 × Int32 => (fun (at2 : Int32) (fl2 : Int32) (q : Int32) => [bMo g o a th hi ac tp ba en at2 fl2 de iD iO tU fm fk fa fc ft ff fb fi]) (u.1) (u.2.1) (u.2.2)) := by
  refine zM'.of (cc := cX12_part) (maxL := 2) (rt := (some .int)) (by decide) rfl (Nat.le_of_ble_eq_true rfl) ?_
  intro p e s m args below meth c A ls St hr hlocks hin hK hT hA hP hD hS hl
  obtain ⟨hx, hb, hml, hown, hts⟩ := id St
  have hl : lv_has ls 2 [(0, .ref o)] := hl
  refine lv_aload_n hx hb dX12_part_0 rfl (lv_at hl 0 rfl) ?_
  refine va_get (D := g.1) (ci := 10) (v := .int fl) (C := RX12) (T := TX12) (N := 20) hx hb hts izRX12 hown hK hP 0 rfl rfl 12 (by decide) (hts _ k820) (fun _ h9 => h9) rfl dX12_part_1 ?_
  refine lv_iconst (v := (-1)) hx hb dX12_part_4 (by decide) ?_
  refine lv_icmp_eq (tgt := 10) hx hb dX12_part_5 (by decide) (fun cb9 => ?_) (fun cb9 => ?_)
  · skip
    have c1 : fl.toInt = (-1) := zeq cb9 rfl (by decide)
    have n2 : fl.toInt ≤ (-1) := Int.le_trans (Int.le_of_eq c1) (Int.le_refl _)
    refine lv_aload_n hx hb dX12_part_10 rfl (lv_at hl 0 rfl) ?_
    refine mcallV' (g := g) (q0 := 0) (ci := 10) (As := []) (rest := []) St hK hT hA hP hD hS hl.1 [0] [] rfl rfl rfl (m_skip l g o a th hi ac tp ba en tA fl de iD iO tU fm fk fa fc ft ff fb fi hba hen htA hfl hde) (cwV 0 hts (zgL (zl4 k884 k885 k886 k839) k877) rfl rfl rfl (by decide +kernel) ⟨Nat.le_of_ble_eq_true rfl, Nat.le_of_ble_eq_true rfl⟩) rfl rfl rfl rfl (Nat.le_of_ble_eq_true rfl) dX12_part_11 ⟨(Nat.le_of_ble_eq_true rfl), (Nat.le_of_ble_eq_true rfl)⟩ (fun at2_3 H locs hq4 hP hD hS => ?_)
    replace hq4 : (0 ≤ at2_3.toInt ∧ at2_3.toInt ≤ en.toInt + 7 - de.toInt) ∧ (tA.toInt ≤ at2_3.toInt) := hq4
    have hP : va_P g.1 vwCl (List.flatten [bMo g o a th hi ac tp ba en at2_3 fl de iD iO tU fm fk fa fc ft ff fb fi]) H := hP
    have hD : va_D A (List.flatten [bMo g o a th hi ac tp ba en at2_3 fl de iD iO tU fm fk fa fc ft ff fb fi]) := hD
    refine W.widen (k := 0) (n := 0) (Nat.le_of_ble_eq_true rfl) (Nat.le_of_ble_eq_true rfl) ?_
    refine W.eq (g2 := F0 m 14 ls []) rfl ?_
    obtain ⟨hq4_0, hq4_1⟩ := hq4
    refine lv_aload_n hx hb dX12_part_14 rfl (lv_at hl 0 rfl) ?_
    refine va_get (D := g.1) (ci := 10) (v := .int at2_3) (C := RX12) (T := TX12) (N := 20) hx hb hts izRX12 hown hK hP 0 rfl rfl 11 (by decide) (hts _ k878) (fun _ h9 => h9) rfl dX12_part_15 ?_
    refine lv_aload_n hx hb dX12_part_18 rfl (lv_at hl 0 rfl) ?_
    refine va_get (D := g.1) (ci := 10) (v := .int en) (C := RX12) (T := TX12) (N := 20) hx hb hts izRX12 hown hK hP 0 rfl rfl 10 (by decide) (hts _ k879) (fun _ h9 => h9) rfl dX12_part_19 ?_
    refine lv_icmp_ge (tgt := 52) hx hb dX12_part_22 (by decide) (fun cb9 => ?_) (fun cb9 => ?_)
    · skip
      have c5 : en.toInt ≤ at2_3.toInt := zle cb9 rfl rfl
      refine lv_aload_n hx hb dX12_part_52 rfl (lv_at hl 0 rfl) ?_
      refine va_ldcS (q := g.2 86) hx hb hown (zra38 hT.2.1) dX12_part_53 ?_
      refine mcallV' (g := g) (q0 := 0) (ci := 10) (As := [.ref (g.2 86)]) (rest := []) St hK hT hA hP hD hS hl.1 [0] [] rfl rfl rfl (m_has l g o a th hi ac tp ba en at2_3 fl de iD iO tU fm fk fa fc ft ff fb fi (g.2 86) 38 zqa38 hba hen hq4_0 hfl hde rfl zla38 zna38) (cwV 1 hts (zgL (zl4 k899 k900 k901 k839) k889) rfl rfl rfl (by decide +kernel) ⟨Nat.le_of_ble_eq_true rfl, Nat.le_of_ble_eq_true rfl⟩) rfl rfl rfl rfl (Nat.le_of_ble_eq_true rfl) dX12_part_55 ⟨(Nat.le_of_ble_eq_true rfl), (Nat.le_of_ble_eq_true rfl)⟩ (fun u_ H locs hq8 hP hD hS => ?_)
      obtain ⟨at2_6, r_7⟩ := u_
      replace hq8 : (0 ≤ at2_6.toInt ∧ at2_6.toInt ≤ en.toInt + 7 - de.toInt) ∧ (at2_3.toInt ≤ at2_6.toInt) ∧ (r_7 = 1 ∧ at2_3.toInt < at2_6.toInt ∧ at2_6.toInt ≤ en.toInt ∨ r_7 = 0) := hq8
      have hP : va_P g.1 vwCl (List.flatten [bMo g o a th hi ac tp ba en at2_6 fl de iD iO tU fm fk fa fc ft ff fb fi]) H := hP
      have hD : va_D A (List.flatten [bMo g o a th hi ac tp ba en at2_6 fl de iD iO tU fm fk fa fc ft ff fb fi]) := hD
      refine W.widen (k := 0) (n := 0) (Nat.le_of_ble_eq_true rfl) (Nat.le_of_ble_eq_true rfl) ?_
      refine W.eq (g2 := F0 m 58 ls [.int r_7]) rfl ?_
      obtain ⟨hq8_0, hq8_1, hq8_2⟩ := hq8
      rcases hq8_2 with ⟨rfl, hq8_k⟩ | rfl
      · skip
        refine lv_if_eq (tgt := 65) hx hb dX12_part_58 (by decide) (fun c9 => absurd c9 (by decide)) (fun _ => ?_)
        refine lv_iconst (v := 0) hx hb dX12_part_61 (by decide) ?_
        refine lv_goto (tgt := 131) hx hb dX12_part_62 (by decide) ?_
        refine lv_istore_n (lv' := [(1, .int 0), (0, .ref o)]) hx hb dX12_part_131 rfl hl (by decide) rfl (fun ls hl => ?_)
        refine lv_iload_n hx hb dX12_part_132 rfl (lv_at hl 0 rfl) ?_
        refine lv_iconst (v := (-1)) hx hb dX12_part_133 (by decide) ?_
        refine lv_icmp_ne (tgt := 147) hx hb dX12_part_134 (by decide) (fun _ => ?_) (fun c10 => absurd c10 (by decide))
        refine lv_aload_n hx hb dX12_part_147 rfl (lv_at hl 1 rfl) ?_
        refine va_get (D := g.1) (ci := 10) (v := .ref (a 5)) (C := RX12) (T := TX12) (N := 20) hx hb hts izRX12 hown hK hP 0 rfl rfl 14 (by decide) (hts _ k821) (fun _ h9 => h9) rfl dX12_part_148 ?_
        refine lv_iload_n hx hb dX12_part_151 rfl (lv_at hl 0 rfl) ?_
        refine va_iald hx hb hK hP 6 0 rfl rfl (zin rfl) dX12_part_152 ?_
        refine zg (fun x_11 => ?_)
        have hP : va_P g.1 vwCl (List.flatten [bMo g o a th hi ac tp ba en at2_6 fl de iD iO tU fm fk fa fc ft ff fb fi]) H := hP
        have hD : va_D A (List.flatten [bMo g o a th hi ac tp ba en at2_6 fl de iD iO tU fm fk fa fc ft ff fb fi]) := hD
        exact mret_i hx hb hr hlocks hS (Nat.le_of_ble_eq_true rfl) (Nat.le_of_ble_eq_true rfl) dX12_part_153 (at2_6, fl, x_11) rfl (show (0 ≤ at2_6.toInt ∧ at2_6.toInt ≤ en.toInt + 7 - de.toInt) ∧ (tA.toInt ≤ at2_6.toInt) ∧ (-1 ≤ fl.toInt) from ⟨hq8_0, (by first | assumption | omega | decide | exact rfl | exact zb01 (by omega) | exact Or.inl (by decide) | exact Or.inr (by first | omega | decide)), hfl⟩) hP hD
      · skip
        refine lv_if_eq (tgt := 65) hx hb dX12_part_58 (by decide) (fun _ => ?_) (fun c12 => absurd (by decide) c12)
        refine lv_aload_n hx hb dX12_part_65 rfl (lv_at hl 0 rfl) ?_
        refine va_ldcS (q := g.2 88) hx hb hown (zra39 hT.2.1) dX12_part_66 ?_
        refine mcallV' (g := g) (q0 := 0) (ci := 10) (As := [.ref (g.2 88)]) (rest := []) St hK hT hA hP hD hS hl.1 [0] [] rfl rfl rfl (m_has l g o a th hi ac tp ba en at2_6 fl de iD iO tU fm fk fa fc ft ff fb fi (g.2 88) 39 zqa39 hba hen hq8_0 hfl hde rfl zla39 zna39) (cwV 1 hts (zgL (zl4 k899 k900 k901 k839) k889) rfl rfl rfl (by decide +kernel) ⟨Nat.le_of_ble_eq_true rfl, Nat.le_of_ble_eq_true rfl⟩) rfl rfl rfl rfl (Nat.le_of_ble_eq_true rfl) dX12_part_68 ⟨(Nat.le_of_ble_eq_true rfl), (Nat.le_of_ble_eq_true rfl)⟩ (fun u_ H locs hq15 hP hD hS => ?_)
        obtain ⟨at2_13, r_14⟩ := u_
        replace hq15 : (0 ≤ at2_13.toInt ∧ at2_13.toInt ≤ en.toInt + 7 - de.toInt) ∧ (at2_6.toInt ≤ at2_13.toInt) ∧ (r_14 = 1 ∧ at2_6.toInt < at2_13.toInt ∧ at2_13.toInt ≤ en.toInt ∨ r_14 = 0) := hq15
        have hP : va_P g.1 vwCl (List.flatten [bMo g o a th hi ac tp ba en at2_13 fl de iD iO tU fm fk fa fc ft ff fb fi]) H := hP
        have hD : va_D A (List.flatten [bMo g o a th hi ac tp ba en at2_13 fl de iD iO tU fm fk fa fc ft ff fb fi]) := hD
        refine W.widen (k := 0) (n := 0) (Nat.le_of_ble_eq_true rfl) (Nat.le_of_ble_eq_true rfl) ?_
        refine W.eq (g2 := F0 m 71 ls [.int r_14]) rfl ?_
        obtain ⟨hq15_0, hq15_1, hq15_2⟩ := hq15
        rcases hq15_2 with ⟨rfl, hq15_k⟩ | rfl
        · skip
          refine lv_if_eq (tgt := 78) hx hb dX12_part_71 (by decide) (fun c16 => absurd c16 (by decide)) (fun _ => ?_)
          refine lv_iconst (v := 1) hx hb dX12_part_74 (by decide) ?_
          refine lv_goto (tgt := 131) hx hb dX12_part_75 (by decide) ?_
          refine lv_istore_n (lv' := [(1, .int 1), (0, .ref o)]) hx hb dX12_part_131 rfl hl (by decide) rfl (fun ls hl => ?_)
          refine lv_iload_n hx hb dX12_part_132 rfl (lv_at hl 0 rfl) ?_
          refine lv_iconst (v := (-1)) hx hb dX12_part_133 (by decide) ?_
          refine lv_icmp_ne (tgt := 147) hx hb dX12_part_134 (by decide) (fun _ => ?_) (fun c17 => absurd c17 (by decide))
          refine lv_aload_n hx hb dX12_part_147 rfl (lv_at hl 1 rfl) ?_
          refine va_get (D := g.1) (ci := 10) (v := .ref (a 5)) (C := RX12) (T := TX12) (N := 20) hx hb hts izRX12 hown hK hP 0 rfl rfl 14 (by decide) (hts _ k821) (fun _ h9 => h9) rfl dX12_part_148 ?_
          refine lv_iload_n hx hb dX12_part_151 rfl (lv_at hl 0 rfl) ?_
          refine va_iald hx hb hK hP 6 0 rfl rfl (zin rfl) dX12_part_152 ?_
          refine zg (fun x_18 => ?_)
          have hP : va_P g.1 vwCl (List.flatten [bMo g o a th hi ac tp ba en at2_13 fl de iD iO tU fm fk fa fc ft ff fb fi]) H := hP
          have hD : va_D A (List.flatten [bMo g o a th hi ac tp ba en at2_13 fl de iD iO tU fm fk fa fc ft ff fb fi]) := hD
          exact mret_i hx hb hr hlocks hS (Nat.le_of_ble_eq_true rfl) (Nat.le_of_ble_eq_true rfl) dX12_part_153 (at2_13, fl, x_18) rfl (show (0 ≤ at2_13.toInt ∧ at2_13.toInt ≤ en.toInt + 7 - de.toInt) ∧ (tA.toInt ≤ at2_13.toInt) ∧ (-1 ≤ fl.toInt) from ⟨hq15_0, (by first | assumption | omega | decide | exact rfl | exact zb01 (by omega) | exact Or.inl (by decide) | exact Or.inr (by first | omega | decide)), hfl⟩) hP hD
        · skip
          refine lv_if_eq (tgt := 78) hx hb dX12_part_71 (by decide) (fun _ => ?_) (fun c19 => absurd (by decide) c19)
          refine lv_aload_n hx hb dX12_part_78 rfl (lv_at hl 0 rfl) ?_
          refine va_ldcS (q := g.2 90) hx hb hown (zra40 hT.2.1) dX12_part_79 ?_
          refine mcallV' (g := g) (q0 := 0) (ci := 10) (As := [.ref (g.2 90)]) (rest := []) St hK hT hA hP hD hS hl.1 [0] [] rfl rfl rfl (m_has l g o a th hi ac tp ba en at2_13 fl de iD iO tU fm fk fa fc ft ff fb fi (g.2 90) 40 zqa40 hba hen hq15_0 hfl hde rfl zla40 zna40) (cwV 1 hts (zgL (zl4 k899 k900 k901 k839) k889) rfl rfl rfl (by decide +kernel) ⟨Nat.le_of_ble_eq_true rfl, Nat.le_of_ble_eq_true rfl⟩) rfl rfl rfl rfl (Nat.le_of_ble_eq_true rfl) dX12_part_81 ⟨(Nat.le_of_ble_eq_true rfl), (Nat.le_of_ble_eq_true rfl)⟩ (fun u_ H locs hq22 hP hD hS => ?_)
          obtain ⟨at2_20, r_21⟩ := u_
          replace hq22 : (0 ≤ at2_20.toInt ∧ at2_20.toInt ≤ en.toInt + 7 - de.toInt) ∧ (at2_13.toInt ≤ at2_20.toInt) ∧ (r_21 = 1 ∧ at2_13.toInt < at2_20.toInt ∧ at2_20.toInt ≤ en.toInt ∨ r_21 = 0) := hq22
          have hP : va_P g.1 vwCl (List.flatten [bMo g o a th hi ac tp ba en at2_20 fl de iD iO tU fm fk fa fc ft ff fb fi]) H := hP
          have hD : va_D A (List.flatten [bMo g o a th hi ac tp ba en at2_20 fl de iD iO tU fm fk fa fc ft ff fb fi]) := hD
          refine W.widen (k := 0) (n := 0) (Nat.le_of_ble_eq_true rfl) (Nat.le_of_ble_eq_true rfl) ?_
          refine W.eq (g2 := F0 m 84 ls [.int r_21]) rfl ?_
          obtain ⟨hq22_0, hq22_1, hq22_2⟩ := hq22
          rcases hq22_2 with ⟨rfl, hq22_k⟩ | rfl
          · skip
            refine lv_if_eq (tgt := 91) hx hb dX12_part_84 (by decide) (fun c23 => absurd c23 (by decide)) (fun _ => ?_)
            refine lv_iconst (v := 2) hx hb dX12_part_87 (by decide) ?_
            refine lv_goto (tgt := 131) hx hb dX12_part_88 (by decide) ?_
            refine lv_istore_n (lv' := [(1, .int 2), (0, .ref o)]) hx hb dX12_part_131 rfl hl (by decide) rfl (fun ls hl => ?_)
            refine lv_iload_n hx hb dX12_part_132 rfl (lv_at hl 0 rfl) ?_
            refine lv_iconst (v := (-1)) hx hb dX12_part_133 (by decide) ?_
            refine lv_icmp_ne (tgt := 147) hx hb dX12_part_134 (by decide) (fun _ => ?_) (fun c24 => absurd c24 (by decide))
            refine lv_aload_n hx hb dX12_part_147 rfl (lv_at hl 1 rfl) ?_
            refine va_get (D := g.1) (ci := 10) (v := .ref (a 5)) (C := RX12) (T := TX12) (N := 20) hx hb hts izRX12 hown hK hP 0 rfl rfl 14 (by decide) (hts _ k821) (fun _ h9 => h9) rfl dX12_part_148 ?_
            refine lv_iload_n hx hb dX12_part_151 rfl (lv_at hl 0 rfl) ?_
            refine va_iald hx hb hK hP 6 0 rfl rfl (zin rfl) dX12_part_152 ?_
            refine zg (fun x_25 => ?_)
            have hP : va_P g.1 vwCl (List.flatten [bMo g o a th hi ac tp ba en at2_20 fl de iD iO tU fm fk fa fc ft ff fb fi]) H := hP
            have hD : va_D A (List.flatten [bMo g o a th hi ac tp ba en at2_20 fl de iD iO tU fm fk fa fc ft ff fb fi]) := hD
            exact mret_i hx hb hr hlocks hS (Nat.le_of_ble_eq_true rfl) (Nat.le_of_ble_eq_true rfl) dX12_part_153 (at2_20, fl, x_25) rfl (show (0 ≤ at2_20.toInt ∧ at2_20.toInt ≤ en.toInt + 7 - de.toInt) ∧ (tA.toInt ≤ at2_20.toInt) ∧ (-1 ≤ fl.toInt) from ⟨hq22_0, (by first | assumption | omega | decide | exact rfl | exact zb01 (by omega) | exact Or.inl (by decide) | exact Or.inr (by first | omega | decide)), hfl⟩) hP hD
          · skip
            refine lv_if_eq (tgt := 91) hx hb dX12_part_84 (by decide) (fun _ => ?_) (fun c26 => absurd (by decide) c26)
            refine lv_aload_n hx hb dX12_part_91 rfl (lv_at hl 0 rfl) ?_
            refine va_ldcS (q := g.2 92) hx hb hown (zra41 hT.2.1) dX12_part_92 ?_
            refine mcallV' (g := g) (q0 := 0) (ci := 10) (As := [.ref (g.2 92)]) (rest := []) St hK hT hA hP hD hS hl.1 [0] [] rfl rfl rfl (m_has l g o a th hi ac tp ba en at2_20 fl de iD iO tU fm fk fa fc ft ff fb fi (g.2 92) 41 zqa41 hba hen hq22_0 hfl hde rfl zla41 zna41) (cwV 1 hts (zgL (zl4 k899 k900 k901 k839) k889) rfl rfl rfl (by decide +kernel) ⟨Nat.le_of_ble_eq_true rfl, Nat.le_of_ble_eq_true rfl⟩) rfl rfl rfl rfl (Nat.le_of_ble_eq_true rfl) dX12_part_94 ⟨(Nat.le_of_ble_eq_true rfl), (Nat.le_of_ble_eq_true rfl)⟩ (fun u_ H locs hq29 hP hD hS => ?_)
            obtain ⟨at2_27, r_28⟩ := u_
            replace hq29 : (0 ≤ at2_27.toInt ∧ at2_27.toInt ≤ en.toInt + 7 - de.toInt) ∧ (at2_20.toInt ≤ at2_27.toInt) ∧ (r_28 = 1 ∧ at2_20.toInt < at2_27.toInt ∧ at2_27.toInt ≤ en.toInt ∨ r_28 = 0) := hq29
            have hP : va_P g.1 vwCl (List.flatten [bMo g o a th hi ac tp ba en at2_27 fl de iD iO tU fm fk fa fc ft ff fb fi]) H := hP
            have hD : va_D A (List.flatten [bMo g o a th hi ac tp ba en at2_27 fl de iD iO tU fm fk fa fc ft ff fb fi]) := hD
            refine W.widen (k := 0) (n := 0) (Nat.le_of_ble_eq_true rfl) (Nat.le_of_ble_eq_true rfl) ?_
            refine W.eq (g2 := F0 m 97 ls [.int r_28]) rfl ?_
            obtain ⟨hq29_0, hq29_1, hq29_2⟩ := hq29
            rcases hq29_2 with ⟨rfl, hq29_k⟩ | rfl
            · skip
              refine lv_if_eq (tgt := 104) hx hb dX12_part_97 (by decide) (fun c30 => absurd c30 (by decide)) (fun _ => ?_)
              refine lv_iconst (v := 3) hx hb dX12_part_100 (by decide) ?_
              refine lv_goto (tgt := 131) hx hb dX12_part_101 (by decide) ?_
              refine lv_istore_n (lv' := [(1, .int 3), (0, .ref o)]) hx hb dX12_part_131 rfl hl (by decide) rfl (fun ls hl => ?_)
              refine lv_iload_n hx hb dX12_part_132 rfl (lv_at hl 0 rfl) ?_
              refine lv_iconst (v := (-1)) hx hb dX12_part_133 (by decide) ?_
              refine lv_icmp_ne (tgt := 147) hx hb dX12_part_134 (by decide) (fun _ => ?_) (fun c31 => absurd c31 (by decide))
              refine lv_aload_n hx hb dX12_part_147 rfl (lv_at hl 1 rfl) ?_
              refine va_get (D := g.1) (ci := 10) (v := .ref (a 5)) (C := RX12) (T := TX12) (N := 20) hx hb hts izRX12 hown hK hP 0 rfl rfl 14 (by decide) (hts _ k821) (fun _ h9 => h9) rfl dX12_part_148 ?_
              refine lv_iload_n hx hb dX12_part_151 rfl (lv_at hl 0 rfl) ?_
              refine va_iald hx hb hK hP 6 0 rfl rfl (zin rfl) dX12_part_152 ?_
              refine zg (fun x_32 => ?_)
              have hP : va_P g.1 vwCl (List.flatten [bMo g o a th hi ac tp ba en at2_27 fl de iD iO tU fm fk fa fc ft ff fb fi]) H := hP
              have hD : va_D A (List.flatten [bMo g o a th hi ac tp ba en at2_27 fl de iD iO tU fm fk fa fc ft ff fb fi]) := hD
              exact mret_i hx hb hr hlocks hS (Nat.le_of_ble_eq_true rfl) (Nat.le_of_ble_eq_true rfl) dX12_part_153 (at2_27, fl, x_32) rfl (show (0 ≤ at2_27.toInt ∧ at2_27.toInt ≤ en.toInt + 7 - de.toInt) ∧ (tA.toInt ≤ at2_27.toInt) ∧ (-1 ≤ fl.toInt) from ⟨hq29_0, (by first | assumption | omega | decide | exact rfl | exact zb01 (by omega) | exact Or.inl (by decide) | exact Or.inr (by first | omega | decide)), hfl⟩) hP hD
            · skip
              refine lv_if_eq (tgt := 104) hx hb dX12_part_97 (by decide) (fun _ => ?_) (fun c33 => absurd (by decide) c33)
              refine lv_aload_n hx hb dX12_part_104 rfl (lv_at hl 0 rfl) ?_
              refine va_ldcS (q := g.2 94) hx hb hown (zra42 hT.2.1) dX12_part_105 ?_
              refine mcallV' (g := g) (q0 := 0) (ci := 10) (As := [.ref (g.2 94)]) (rest := []) St hK hT hA hP hD hS hl.1 [0] [] rfl rfl rfl (m_has l g o a th hi ac tp ba en at2_27 fl de iD iO tU fm fk fa fc ft ff fb fi (g.2 94) 42 zqa42 hba hen hq29_0 hfl hde rfl zla42 zna42) (cwV 1 hts (zgL (zl4 k899 k900 k901 k839) k889) rfl rfl rfl (by decide +kernel) ⟨Nat.le_of_ble_eq_true rfl, Nat.le_of_ble_eq_true rfl⟩) rfl rfl rfl rfl (Nat.le_of_ble_eq_true rfl) dX12_part_107 ⟨(Nat.le_of_ble_eq_true rfl), (Nat.le_of_ble_eq_true rfl)⟩ (fun u_ H locs hq36 hP hD hS => ?_)
              obtain ⟨at2_34, r_35⟩ := u_
              replace hq36 : (0 ≤ at2_34.toInt ∧ at2_34.toInt ≤ en.toInt + 7 - de.toInt) ∧ (at2_27.toInt ≤ at2_34.toInt) ∧ (r_35 = 1 ∧ at2_27.toInt < at2_34.toInt ∧ at2_34.toInt ≤ en.toInt ∨ r_35 = 0) := hq36
              have hP : va_P g.1 vwCl (List.flatten [bMo g o a th hi ac tp ba en at2_34 fl de iD iO tU fm fk fa fc ft ff fb fi]) H := hP
              have hD : va_D A (List.flatten [bMo g o a th hi ac tp ba en at2_34 fl de iD iO tU fm fk fa fc ft ff fb fi]) := hD
              refine W.widen (k := 0) (n := 0) (Nat.le_of_ble_eq_true rfl) (Nat.le_of_ble_eq_true rfl) ?_
              refine W.eq (g2 := F0 m 110 ls [.int r_35]) rfl ?_
              obtain ⟨hq36_0, hq36_1, hq36_2⟩ := hq36
              rcases hq36_2 with ⟨rfl, hq36_k⟩ | rfl
              · skip
                refine lv_if_eq (tgt := 117) hx hb dX12_part_110 (by decide) (fun c37 => absurd c37 (by decide)) (fun _ => ?_)
                refine lv_iconst (v := 4) hx hb dX12_part_113 (by decide) ?_
                refine lv_goto (tgt := 131) hx hb dX12_part_114 (by decide) ?_
                refine lv_istore_n (lv' := [(1, .int 4), (0, .ref o)]) hx hb dX12_part_131 rfl hl (by decide) rfl (fun ls hl => ?_)
                refine lv_iload_n hx hb dX12_part_132 rfl (lv_at hl 0 rfl) ?_
                refine lv_iconst (v := (-1)) hx hb dX12_part_133 (by decide) ?_
                refine lv_icmp_ne (tgt := 147) hx hb dX12_part_134 (by decide) (fun _ => ?_) (fun c38 => absurd c38 (by decide))
                refine lv_aload_n hx hb dX12_part_147 rfl (lv_at hl 1 rfl) ?_
                refine va_get (D := g.1) (ci := 10) (v := .ref (a 5)) (C := RX12) (T := TX12) (N := 20) hx hb hts izRX12 hown hK hP 0 rfl rfl 14 (by decide) (hts _ k821) (fun _ h9 => h9) rfl dX12_part_148 ?_
                refine lv_iload_n hx hb dX12_part_151 rfl (lv_at hl 0 rfl) ?_
                refine va_iald hx hb hK hP 6 0 rfl rfl (zin rfl) dX12_part_152 ?_
                refine zg (fun x_39 => ?_)
                have hP : va_P g.1 vwCl (List.flatten [bMo g o a th hi ac tp ba en at2_34 fl de iD iO tU fm fk fa fc ft ff fb fi]) H := hP
                have hD : va_D A (List.flatten [bMo g o a th hi ac tp ba en at2_34 fl de iD iO tU fm fk fa fc ft ff fb fi]) := hD
                exact mret_i hx hb hr hlocks hS (Nat.le_of_ble_eq_true rfl) (Nat.le_of_ble_eq_true rfl) dX12_part_153 (at2_34, fl, x_39) rfl (show (0 ≤ at2_34.toInt ∧ at2_34.toInt ≤ en.toInt + 7 - de.toInt) ∧ (tA.toInt ≤ at2_34.toInt) ∧ (-1 ≤ fl.toInt) from ⟨hq36_0, (by first | assumption | omega | decide | exact rfl | exact zb01 (by omega) | exact Or.inl (by decide) | exact Or.inr (by first | omega | decide)), hfl⟩) hP hD
              · skip
                refine lv_if_eq (tgt := 117) hx hb dX12_part_110 (by decide) (fun _ => ?_) (fun c40 => absurd (by decide) c40)
                refine lv_aload_n hx hb dX12_part_117 rfl (lv_at hl 0 rfl) ?_
                refine va_ldcS (q := g.2 84) hx hb hown (zra37 hT.2.1) dX12_part_118 ?_
                refine mcallV' (g := g) (q0 := 0) (ci := 10) (As := [.ref (g.2 84)]) (rest := []) St hK hT hA hP hD hS hl.1 [0] [] rfl rfl rfl (m_has l g o a th hi ac tp ba en at2_34 fl de iD iO tU fm fk fa fc ft ff fb fi (g.2 84) 37 zqa37 hba hen hq36_0 hfl hde rfl zla37 zna37) (cwV 1 hts (zgL (zl4 k899 k900 k901 k839) k889) rfl rfl rfl (by decide +kernel) ⟨Nat.le_of_ble_eq_true rfl, Nat.le_of_ble_eq_true rfl⟩) rfl rfl rfl rfl (Nat.le_of_ble_eq_true rfl) dX12_part_120 ⟨(Nat.le_of_ble_eq_true rfl), (Nat.le_of_ble_eq_true rfl)⟩ (fun u_ H locs hq43 hP hD hS => ?_)
                obtain ⟨at2_41, r_42⟩ := u_
                replace hq43 : (0 ≤ at2_41.toInt ∧ at2_41.toInt ≤ en.toInt + 7 - de.toInt) ∧ (at2_34.toInt ≤ at2_41.toInt) ∧ (r_42 = 1 ∧ at2_34.toInt < at2_41.toInt ∧ at2_41.toInt ≤ en.toInt ∨ r_42 = 0) := hq43
                have hP : va_P g.1 vwCl (List.flatten [bMo g o a th hi ac tp ba en at2_41 fl de iD iO tU fm fk fa fc ft ff fb fi]) H := hP
                have hD : va_D A (List.flatten [bMo g o a th hi ac tp ba en at2_41 fl de iD iO tU fm fk fa fc ft ff fb fi]) := hD
                refine W.widen (k := 0) (n := 0) (Nat.le_of_ble_eq_true rfl) (Nat.le_of_ble_eq_true rfl) ?_
                refine W.eq (g2 := F0 m 123 ls [.int r_42]) rfl ?_
                obtain ⟨hq43_0, hq43_1, hq43_2⟩ := hq43
                rcases hq43_2 with ⟨rfl, hq43_k⟩ | rfl
                · skip
                  refine lv_if_eq (tgt := 130) hx hb dX12_part_123 (by decide) (fun c44 => absurd c44 (by decide)) (fun _ => ?_)
                  refine lv_iconst (v := 5) hx hb dX12_part_126 (by decide) ?_
                  refine lv_goto (tgt := 131) hx hb dX12_part_127 (by decide) ?_
                  refine lv_istore_n (lv' := [(1, .int 5), (0, .ref o)]) hx hb dX12_part_131 rfl hl (by decide) rfl (fun ls hl => ?_)
                  refine lv_iload_n hx hb dX12_part_132 rfl (lv_at hl 0 rfl) ?_
                  refine lv_iconst (v := (-1)) hx hb dX12_part_133 (by decide) ?_
                  refine lv_icmp_ne (tgt := 147) hx hb dX12_part_134 (by decide) (fun _ => ?_) (fun c45 => absurd c45 (by decide))
                  refine lv_aload_n hx hb dX12_part_147 rfl (lv_at hl 1 rfl) ?_
                  refine va_get (D := g.1) (ci := 10) (v := .ref (a 5)) (C := RX12) (T := TX12) (N := 20) hx hb hts izRX12 hown hK hP 0 rfl rfl 14 (by decide) (hts _ k821) (fun _ h9 => h9) rfl dX12_part_148 ?_
                  refine lv_iload_n hx hb dX12_part_151 rfl (lv_at hl 0 rfl) ?_
                  refine va_iald hx hb hK hP 6 0 rfl rfl (zin rfl) dX12_part_152 ?_
                  refine zg (fun x_46 => ?_)
                  have hP : va_P g.1 vwCl (List.flatten [bMo g o a th hi ac tp ba en at2_41 fl de iD iO tU fm fk fa fc ft ff fb fi]) H := hP
                  have hD : va_D A (List.flatten [bMo g o a th hi ac tp ba en at2_41 fl de iD iO tU fm fk fa fc ft ff fb fi]) := hD
                  exact mret_i hx hb hr hlocks hS (Nat.le_of_ble_eq_true rfl) (Nat.le_of_ble_eq_true rfl) dX12_part_153 (at2_41, fl, x_46) rfl (show (0 ≤ at2_41.toInt ∧ at2_41.toInt ≤ en.toInt + 7 - de.toInt) ∧ (tA.toInt ≤ at2_41.toInt) ∧ (-1 ≤ fl.toInt) from ⟨hq43_0, (by first | assumption | omega | decide | exact rfl | exact zb01 (by omega) | exact Or.inl (by decide) | exact Or.inr (by first | omega | decide)), hfl⟩) hP hD
                · skip
                  refine lv_if_eq (tgt := 130) hx hb dX12_part_123 (by decide) (fun _ => ?_) (fun c47 => absurd (by decide) c47)
                  refine lv_iconst (v := (-1)) hx hb dX12_part_130 (by decide) ?_
                  refine lv_istore_n (lv' := [(1, .int (-1)), (0, .ref o)]) hx hb dX12_part_131 rfl hl (by decide) rfl (fun ls hl => ?_)
                  refine lv_iload_n hx hb dX12_part_132 rfl (lv_at hl 0 rfl) ?_
                  refine lv_iconst (v := (-1)) hx hb dX12_part_133 (by decide) ?_
                  refine lv_icmp_ne (tgt := 147) hx hb dX12_part_134 (by decide) (fun c48 => absurd (by decide) c48) (fun _ => ?_)
                  refine lv_aload_n hx hb dX12_part_137 rfl (lv_at hl 1 rfl) ?_
                  refine lv_aload_n hx hb dX12_part_138 rfl (lv_at hl 1 rfl) ?_
                  refine va_get (D := g.1) (ci := 10) (v := .int at2_41) (C := RX12) (T := TX12) (N := 20) hx hb hts izRX12 hown hK hP 0 rfl rfl 11 (by decide) (hts _ k878) (fun _ h9 => h9) rfl dX12_part_139 ?_
                  refine mcallV' (g := g) (q0 := 0) (ci := 10) (As := [.int at2_41]) (rest := []) St hK hT hA hP hD hS hl.1 [0] [] rfl rfl rfl (m_wrong l g o a th hi ac tp ba en at2_41 fl de iD iO tU fm fk fa fc ft ff fb fi at2_41 (by first | assumption | omega | decide | exact Or.inl (by decide) | exact Or.inr (by decide)) hfl) (cwV 1 hts (zgL (zl4 k895 k896 k897 k839) k890) rfl rfl rfl (by decide +kernel) ⟨Nat.le_of_ble_eq_true rfl, Nat.le_of_ble_eq_true rfl⟩) rfl rfl rfl rfl (Nat.le_of_ble_eq_true rfl) dX12_part_142 ⟨(Nat.le_of_ble_eq_true rfl), (Nat.le_of_ble_eq_true rfl)⟩ (fun fl2_49 H locs hq50 hP hD hS => ?_)
                  replace hq50 : (0 ≤ fl2_49.toInt) := hq50
                  have hP : va_P g.1 vwCl (List.flatten [bMo g o a th hi ac tp ba en at2_41 fl2_49 de iD iO tU fm fk fa fc ft ff fb fi]) H := hP
                  have hD : va_D A (List.flatten [bMo g o a th hi ac tp ba en at2_41 fl2_49 de iD iO tU fm fk fa fc ft ff fb fi]) := hD
                  refine W.widen (k := 0) (n := 0) (Nat.le_of_ble_eq_true rfl) (Nat.le_of_ble_eq_true rfl) ?_
                  refine W.eq (g2 := F0 m 145 ls []) rfl ?_
                  refine lv_iconst (v := 0) hx hb dX12_part_145 (by decide) ?_
                  have hP : va_P g.1 vwCl (List.flatten [bMo g o a th hi ac tp ba en at2_41 fl2_49 de iD iO tU fm fk fa fc ft ff fb fi]) H := hP
                  have hD : va_D A (List.flatten [bMo g o a th hi ac tp ba en at2_41 fl2_49 de iD iO tU fm fk fa fc ft ff fb fi]) := hD
                  exact mret_i hx hb hr hlocks hS (Nat.le_of_ble_eq_true rfl) (Nat.le_of_ble_eq_true rfl) dX12_part_146 (at2_41, fl2_49, (0 : Int32)) rfl (show (0 ≤ at2_41.toInt ∧ at2_41.toInt ≤ en.toInt + 7 - de.toInt) ∧ (tA.toInt ≤ at2_41.toInt) ∧ (-1 ≤ fl2_49.toInt) from ⟨hq43_0, (by first | assumption | omega | decide | exact rfl | exact zb01 (by omega) | exact Or.inl (by decide) | exact Or.inr (by first | omega | decide)), (by first | assumption | omega | decide | exact rfl | exact zb01 (by omega) | exact Or.inl (by decide) | exact Or.inr (by first | omega | decide))⟩) hP hD
    · skip
      have c51 : at2_3.toInt < en.toInt := zlti (Int32.not_le.mp cb9) rfl rfl
      have n52 : at2_3.toInt ≤ 399 := zL1 (b := 400) c51 hen.2 (by decide)
      refine lv_aload_n hx hb dX12_part_25 rfl (lv_at hl 0 rfl) ?_
      refine lv_aload_n hx hb dX12_part_26 rfl (lv_at hl 0 rfl) ?_
      refine va_get (D := g.1) (ci := 10) (v := .int at2_3) (C := RX12) (T := TX12) (N := 20) hx hb hts izRX12 hown hK hP 0 rfl rfl 11 (by decide) (hts _ k878) (fun _ h9 => h9) rfl dX12_part_27 ?_
      refine mcallV' (g := g) (q0 := 0) (ci := 10) (As := [.int at2_3]) (rest := []) St hK hT hA hP hD hS hl.1 [0] [] rfl rfl rfl (m_letter l g o a th hi ac tp ba en at2_3 fl de iD iO tU fm fk fa fc ft ff fb fi at2_3 (by first | assumption | omega | decide | exact Or.inl (by decide) | exact Or.inr (by decide)) hba) (cwV 1 hts (zgL (zl4 k880 k881 k882 k839) k875) rfl rfl rfl (by decide +kernel) ⟨Nat.le_of_ble_eq_true rfl, Nat.le_of_ble_eq_true rfl⟩) rfl rfl rfl rfl (Nat.le_of_ble_eq_true rfl) dX12_part_30 ⟨(Nat.le_of_ble_eq_true rfl), (Nat.le_of_ble_eq_true rfl)⟩ (fun q_53 H locs hq54 hP hD hS => ?_)
      have hP : va_P g.1 vwCl (List.flatten [bMo g o a th hi ac tp ba en at2_3 fl de iD iO tU fm fk fa fc ft ff fb fi]) H := hP
      have hD : va_D A (List.flatten [bMo g o a th hi ac tp ba en at2_3 fl de iD iO tU fm fk fa fc ft ff fb fi]) := hD
      refine W.widen (k := 0) (n := 0) (Nat.le_of_ble_eq_true rfl) (Nat.le_of_ble_eq_true rfl) ?_
      refine W.eq (g2 := F0 m 33 ls [.int q_53]) rfl ?_
      refine lv_bipush (v := 48) hx hb dX12_part_33 (by decide) ?_
      refine lv_bipush (v := 57) hx hb dX12_part_35 (by decide) ?_
      have hL48 : (48 : Int32).toInt = 48 := by decide
      have hL57 : (57 : Int32).toInt = 57 := by decide
      refine mcallS' (g := g) (As := [.int q_53, .int 48, .int 57]) (rest := []) St hK hT hA hP hD hS hl.1 [] [0] rfl rfl rfl (m_isIn l g q_53 48 57 ) (va_cwS 3 hts (zgL (zl3 k837 k838 k839) k826) rfl rfl rfl (by decide +kernel) ⟨Nat.le_of_ble_eq_true rfl, Nat.le_of_ble_eq_true rfl⟩) rfl rfl (Nat.le_of_ble_eq_true rfl) dX12_part_37 ⟨(Nat.le_of_ble_eq_true rfl), (Nat.le_of_ble_eq_true rfl)⟩ (fun q_55 H locs hq56 hP hD hS => ?_)
      replace hq56 : (q_55 = 1 ∧ (48 : Int32).toInt ≤ q_53.toInt ∧ q_53.toInt ≤ (57 : Int32).toInt ∨ q_55 = 0 ∧ (q_53.toInt < (48 : Int32).toInt ∨ (57 : Int32).toInt < q_53.toInt)) := hq56
      have hP : va_P g.1 vwCl (List.flatten [bMo g o a th hi ac tp ba en at2_3 fl de iD iO tU fm fk fa fc ft ff fb fi]) H := hP
      have hD : va_D A (List.flatten [bMo g o a th hi ac tp ba en at2_3 fl de iD iO tU fm fk fa fc ft ff fb fi]) := hD
      refine W.widen (k := 0) (n := 0) (Nat.le_of_ble_eq_true rfl) (Nat.le_of_ble_eq_true rfl) ?_
      refine W.eq (g2 := F0 m 40 ls [.int q_55]) rfl ?_
      rcases hq56 with ⟨rfl, hq56_k⟩ | ⟨rfl, hq56_k⟩
      · skip
        refine lv_if_eq (tgt := 52) hx hb dX12_part_40 (by decide) (fun c57 => absurd c57 (by decide)) (fun _ => ?_)
        refine lv_aload_n hx hb dX12_part_43 rfl (lv_at hl 0 rfl) ?_
        refine lv_iconst (v := 0) hx hb dX12_part_44 (by decide) ?_
        refine lv_sipush (v := 999) hx hb dX12_part_45 (by decide) ?_
        have hL0 : (0 : Int32).toInt = 0 := by decide
        have hL999 : (999 : Int32).toInt = 999 := by decide
        refine mcallV' (g := g) (q0 := 0) (ci := 10) (As := [.int 0, .int 999]) (rest := []) St hK hT hA hP hD hS hl.1 [0] [] rfl rfl rfl (m_figures l g o a th hi ac tp ba en at2_3 fl de iD iO tU fm fk fa fc ft ff fb fi 0 999 hba hen hq4_0 hfl hde) (cwV 2 hts (zgL (zl4 k902 k903 k904 k839) k898) rfl rfl rfl (by decide +kernel) ⟨Nat.le_of_ble_eq_true rfl, Nat.le_of_ble_eq_true rfl⟩) rfl rfl rfl rfl (Nat.le_of_ble_eq_true rfl) dX12_part_48 ⟨(Nat.le_of_ble_eq_true rfl), (Nat.le_of_ble_eq_true rfl)⟩ (fun u_ H locs hq61 hP hD hS => ?_)
        obtain ⟨at2_58, fl2_59, r_60⟩ := u_
        replace hq61 : (0 ≤ at2_58.toInt ∧ at2_58.toInt ≤ en.toInt + 7 - de.toInt) ∧ (at2_3.toInt ≤ at2_58.toInt) ∧ (-1 ≤ fl2_59.toInt) ∧ (zImp (fl2_59.toInt = -1) (fl.toInt = -1 ∧ (0 : Int32).toInt ≤ r_60.toInt ∧ r_60.toInt ≤ (999 : Int32).toInt)) := hq61
        have hP : va_P g.1 vwCl (List.flatten [bMo g o a th hi ac tp ba en at2_58 fl2_59 de iD iO tU fm fk fa fc ft ff fb fi]) H := hP
        have hD : va_D A (List.flatten [bMo g o a th hi ac tp ba en at2_58 fl2_59 de iD iO tU fm fk fa fc ft ff fb fi]) := hD
        refine W.widen (k := 0) (n := 0) (Nat.le_of_ble_eq_true rfl) (Nat.le_of_ble_eq_true rfl) ?_
        refine W.eq (g2 := F0 m 51 ls [.int r_60]) rfl ?_
        obtain ⟨hq61_0, hq61_1, hq61_2, hq61_3⟩ := hq61
        have hP : va_P g.1 vwCl (List.flatten [bMo g o a th hi ac tp ba en at2_58 fl2_59 de iD iO tU fm fk fa fc ft ff fb fi]) H := hP
        have hD : va_D A (List.flatten [bMo g o a th hi ac tp ba en at2_58 fl2_59 de iD iO tU fm fk fa fc ft ff fb fi]) := hD
        exact mret_i hx hb hr hlocks hS (Nat.le_of_ble_eq_true rfl) (Nat.le_of_ble_eq_true rfl) dX12_part_51 (at2_58, fl2_59, r_60) rfl (show (0 ≤ at2_58.toInt ∧ at2_58.toInt ≤ en.toInt + 7 - de.toInt) ∧ (tA.toInt ≤ at2_58.toInt) ∧ (-1 ≤ fl2_59.toInt) from ⟨hq61_0, (by first | assumption | omega | decide | exact rfl | exact zb01 (by omega) | exact Or.inl (by decide) | exact Or.inr (by first | omega | decide)), hq61_2⟩) hP hD
      · skip
        refine lv_if_eq (tgt := 52) hx hb dX12_part_40 (by decide) (fun _ => ?_) (fun c62 => absurd (by decide) c62)
        refine lv_aload_n hx hb dX12_part_52 rfl (lv_at hl 0 rfl) ?_
        refine va_ldcS (q := g.2 86) hx hb hown (zra38 hT.2.1) dX12_part_53 ?_
        refine mcallV' (g := g) (q0 := 0) (ci := 10) (As := [.ref (g.2 86)]) (rest := []) St hK hT hA hP hD hS hl.1 [0] [] rfl rfl rfl (m_has l g o a th hi ac tp ba en at2_3 fl de iD iO tU fm fk fa fc ft ff fb fi (g.2 86) 38 zqa38 hba hen hq4_0 hfl hde rfl zla38 zna38) (cwV 1 hts (zgL (zl4 k899 k900 k901 k839) k889) rfl rfl rfl (by decide +kernel) ⟨Nat.le_of_ble_eq_true rfl, Nat.le_of_ble_eq_true rfl⟩) rfl rfl rfl rfl (Nat.le_of_ble_eq_true rfl) dX12_part_55 ⟨(Nat.le_of_ble_eq_true rfl), (Nat.le_of_ble_eq_true rfl)⟩ (fun u_ H locs hq65 hP hD hS => ?_)
        obtain ⟨at2_63, r_64⟩ := u_
        replace hq65 : (0 ≤ at2_63.toInt ∧ at2_63.toInt ≤ en.toInt + 7 - de.toInt) ∧ (at2_3.toInt ≤ at2_63.toInt) ∧ (r_64 = 1 ∧ at2_3.toInt < at2_63.toInt ∧ at2_63.toInt ≤ en.toInt ∨ r_64 = 0) := hq65
        have hP : va_P g.1 vwCl (List.flatten [bMo g o a th hi ac tp ba en at2_63 fl de iD iO tU fm fk fa fc ft ff fb fi]) H := hP
        have hD : va_D A (List.flatten [bMo g o a th hi ac tp ba en at2_63 fl de iD iO tU fm fk fa fc ft ff fb fi]) := hD
        refine W.widen (k := 0) (n := 0) (Nat.le_of_ble_eq_true rfl) (Nat.le_of_ble_eq_true rfl) ?_
        refine W.eq (g2 := F0 m 58 ls [.int r_64]) rfl ?_
        obtain ⟨hq65_0, hq65_1, hq65_2⟩ := hq65
        rcases hq65_2 with ⟨rfl, hq65_k⟩ | rfl
        · skip
          refine lv_if_eq (tgt := 65) hx hb dX12_part_58 (by decide) (fun c66 => absurd c66 (by decide)) (fun _ => ?_)
          refine lv_iconst (v := 0) hx hb dX12_part_61 (by decide) ?_
          refine lv_goto (tgt := 131) hx hb dX12_part_62 (by decide) ?_
          refine lv_istore_n (lv' := [(1, .int 0), (0, .ref o)]) hx hb dX12_part_131 rfl hl (by decide) rfl (fun ls hl => ?_)
          refine lv_iload_n hx hb dX12_part_132 rfl (lv_at hl 0 rfl) ?_
          refine lv_iconst (v := (-1)) hx hb dX12_part_133 (by decide) ?_
          refine lv_icmp_ne (tgt := 147) hx hb dX12_part_134 (by decide) (fun _ => ?_) (fun c67 => absurd c67 (by decide))
          refine lv_aload_n hx hb dX12_part_147 rfl (lv_at hl 1 rfl) ?_
          refine va_get (D := g.1) (ci := 10) (v := .ref (a 5)) (C := RX12) (T := TX12) (N := 20) hx hb hts izRX12 hown hK hP 0 rfl rfl 14 (by decide) (hts _ k821) (fun _ h9 => h9) rfl dX12_part_148 ?_
          refine lv_iload_n hx hb dX12_part_151 rfl (lv_at hl 0 rfl) ?_
          refine va_iald hx hb hK hP 6 0 rfl rfl (zin rfl) dX12_part_152 ?_
          refine zg (fun x_68 => ?_)
          have hP : va_P g.1 vwCl (List.flatten [bMo g o a th hi ac tp ba en at2_63 fl de iD iO tU fm fk fa fc ft ff fb fi]) H := hP
          have hD : va_D A (List.flatten [bMo g o a th hi ac tp ba en at2_63 fl de iD iO tU fm fk fa fc ft ff fb fi]) := hD
          exact mret_i hx hb hr hlocks hS (Nat.le_of_ble_eq_true rfl) (Nat.le_of_ble_eq_true rfl) dX12_part_153 (at2_63, fl, x_68) rfl (show (0 ≤ at2_63.toInt ∧ at2_63.toInt ≤ en.toInt + 7 - de.toInt) ∧ (tA.toInt ≤ at2_63.toInt) ∧ (-1 ≤ fl.toInt) from ⟨hq65_0, (by first | assumption | omega | decide | exact rfl | exact zb01 (by omega) | exact Or.inl (by decide) | exact Or.inr (by first | omega | decide)), hfl⟩) hP hD
        · skip
          refine lv_if_eq (tgt := 65) hx hb dX12_part_58 (by decide) (fun _ => ?_) (fun c69 => absurd (by decide) c69)
          refine lv_aload_n hx hb dX12_part_65 rfl (lv_at hl 0 rfl) ?_
          refine va_ldcS (q := g.2 88) hx hb hown (zra39 hT.2.1) dX12_part_66 ?_
          refine mcallV' (g := g) (q0 := 0) (ci := 10) (As := [.ref (g.2 88)]) (rest := []) St hK hT hA hP hD hS hl.1 [0] [] rfl rfl rfl (m_has l g o a th hi ac tp ba en at2_63 fl de iD iO tU fm fk fa fc ft ff fb fi (g.2 88) 39 zqa39 hba hen hq65_0 hfl hde rfl zla39 zna39) (cwV 1 hts (zgL (zl4 k899 k900 k901 k839) k889) rfl rfl rfl (by decide +kernel) ⟨Nat.le_of_ble_eq_true rfl, Nat.le_of_ble_eq_true rfl⟩) rfl rfl rfl rfl (Nat.le_of_ble_eq_true rfl) dX12_part_68 ⟨(Nat.le_of_ble_eq_true rfl), (Nat.le_of_ble_eq_true rfl)⟩ (fun u_ H locs hq72 hP hD hS => ?_)
          obtain ⟨at2_70, r_71⟩ := u_
          replace hq72 : (0 ≤ at2_70.toInt ∧ at2_70.toInt ≤ en.toInt + 7 - de.toInt) ∧ (at2_63.toInt ≤ at2_70.toInt) ∧ (r_71 = 1 ∧ at2_63.toInt < at2_70.toInt ∧ at2_70.toInt ≤ en.toInt ∨ r_71 = 0) := hq72
          have hP : va_P g.1 vwCl (List.flatten [bMo g o a th hi ac tp ba en at2_70 fl de iD iO tU fm fk fa fc ft ff fb fi]) H := hP
          have hD : va_D A (List.flatten [bMo g o a th hi ac tp ba en at2_70 fl de iD iO tU fm fk fa fc ft ff fb fi]) := hD
          refine W.widen (k := 0) (n := 0) (Nat.le_of_ble_eq_true rfl) (Nat.le_of_ble_eq_true rfl) ?_
          refine W.eq (g2 := F0 m 71 ls [.int r_71]) rfl ?_
          obtain ⟨hq72_0, hq72_1, hq72_2⟩ := hq72
          rcases hq72_2 with ⟨rfl, hq72_k⟩ | rfl
          · skip
            refine lv_if_eq (tgt := 78) hx hb dX12_part_71 (by decide) (fun c73 => absurd c73 (by decide)) (fun _ => ?_)
            refine lv_iconst (v := 1) hx hb dX12_part_74 (by decide) ?_
            refine lv_goto (tgt := 131) hx hb dX12_part_75 (by decide) ?_
            refine lv_istore_n (lv' := [(1, .int 1), (0, .ref o)]) hx hb dX12_part_131 rfl hl (by decide) rfl (fun ls hl => ?_)
            refine lv_iload_n hx hb dX12_part_132 rfl (lv_at hl 0 rfl) ?_
            refine lv_iconst (v := (-1)) hx hb dX12_part_133 (by decide) ?_
            refine lv_icmp_ne (tgt := 147) hx hb dX12_part_134 (by decide) (fun _ => ?_) (fun c74 => absurd c74 (by decide))
            refine lv_aload_n hx hb dX12_part_147 rfl (lv_at hl 1 rfl) ?_
            refine va_get (D := g.1) (ci := 10) (v := .ref (a 5)) (C := RX12) (T := TX12) (N := 20) hx hb hts izRX12 hown hK hP 0 rfl rfl 14 (by decide) (hts _ k821) (fun _ h9 => h9) rfl dX12_part_148 ?_
            refine lv_iload_n hx hb dX12_part_151 rfl (lv_at hl 0 rfl) ?_
            refine va_iald hx hb hK hP 6 0 rfl rfl (zin rfl) dX12_part_152 ?_
            refine zg (fun x_75 => ?_)
            have hP : va_P g.1 vwCl (List.flatten [bMo g o a th hi ac tp ba en at2_70 fl de iD iO tU fm fk fa fc ft ff fb fi]) H := hP
            have hD : va_D A (List.flatten [bMo g o a th hi ac tp ba en at2_70 fl de iD iO tU fm fk fa fc ft ff fb fi]) := hD
            exact mret_i hx hb hr hlocks hS (Nat.le_of_ble_eq_true rfl) (Nat.le_of_ble_eq_true rfl) dX12_part_153 (at2_70, fl, x_75) rfl (show (0 ≤ at2_70.toInt ∧ at2_70.toInt ≤ en.toInt + 7 - de.toInt) ∧ (tA.toInt ≤ at2_70.toInt) ∧ (-1 ≤ fl.toInt) from ⟨hq72_0, (by first | assumption | omega | decide | exact rfl | exact zb01 (by omega) | exact Or.inl (by decide) | exact Or.inr (by first | omega | decide)), hfl⟩) hP hD
          · skip
            refine lv_if_eq (tgt := 78) hx hb dX12_part_71 (by decide) (fun _ => ?_) (fun c76 => absurd (by decide) c76)
            refine lv_aload_n hx hb dX12_part_78 rfl (lv_at hl 0 rfl) ?_
            refine va_ldcS (q := g.2 90) hx hb hown (zra40 hT.2.1) dX12_part_79 ?_
            refine mcallV' (g := g) (q0 := 0) (ci := 10) (As := [.ref (g.2 90)]) (rest := []) St hK hT hA hP hD hS hl.1 [0] [] rfl rfl rfl (m_has l g o a th hi ac tp ba en at2_70 fl de iD iO tU fm fk fa fc ft ff fb fi (g.2 90) 40 zqa40 hba hen hq72_0 hfl hde rfl zla40 zna40) (cwV 1 hts (zgL (zl4 k899 k900 k901 k839) k889) rfl rfl rfl (by decide +kernel) ⟨Nat.le_of_ble_eq_true rfl, Nat.le_of_ble_eq_true rfl⟩) rfl rfl rfl rfl (Nat.le_of_ble_eq_true rfl) dX12_part_81 ⟨(Nat.le_of_ble_eq_true rfl), (Nat.le_of_ble_eq_true rfl)⟩ (fun u_ H locs hq79 hP hD hS => ?_)
            obtain ⟨at2_77, r_78⟩ := u_
            replace hq79 : (0 ≤ at2_77.toInt ∧ at2_77.toInt ≤ en.toInt + 7 - de.toInt) ∧ (at2_70.toInt ≤ at2_77.toInt) ∧ (r_78 = 1 ∧ at2_70.toInt < at2_77.toInt ∧ at2_77.toInt ≤ en.toInt ∨ r_78 = 0) := hq79
            have hP : va_P g.1 vwCl (List.flatten [bMo g o a th hi ac tp ba en at2_77 fl de iD iO tU fm fk fa fc ft ff fb fi]) H := hP
            have hD : va_D A (List.flatten [bMo g o a th hi ac tp ba en at2_77 fl de iD iO tU fm fk fa fc ft ff fb fi]) := hD
            refine W.widen (k := 0) (n := 0) (Nat.le_of_ble_eq_true rfl) (Nat.le_of_ble_eq_true rfl) ?_
            refine W.eq (g2 := F0 m 84 ls [.int r_78]) rfl ?_
            obtain ⟨hq79_0, hq79_1, hq79_2⟩ := hq79
            rcases hq79_2 with ⟨rfl, hq79_k⟩ | rfl
            · skip
              refine lv_if_eq (tgt := 91) hx hb dX12_part_84 (by decide) (fun c80 => absurd c80 (by decide)) (fun _ => ?_)
              refine lv_iconst (v := 2) hx hb dX12_part_87 (by decide) ?_
              refine lv_goto (tgt := 131) hx hb dX12_part_88 (by decide) ?_
              refine lv_istore_n (lv' := [(1, .int 2), (0, .ref o)]) hx hb dX12_part_131 rfl hl (by decide) rfl (fun ls hl => ?_)
              refine lv_iload_n hx hb dX12_part_132 rfl (lv_at hl 0 rfl) ?_
              refine lv_iconst (v := (-1)) hx hb dX12_part_133 (by decide) ?_
              refine lv_icmp_ne (tgt := 147) hx hb dX12_part_134 (by decide) (fun _ => ?_) (fun c81 => absurd c81 (by decide))
              refine lv_aload_n hx hb dX12_part_147 rfl (lv_at hl 1 rfl) ?_
              refine va_get (D := g.1) (ci := 10) (v := .ref (a 5)) (C := RX12) (T := TX12) (N := 20) hx hb hts izRX12 hown hK hP 0 rfl rfl 14 (by decide) (hts _ k821) (fun _ h9 => h9) rfl dX12_part_148 ?_
              refine lv_iload_n hx hb dX12_part_151 rfl (lv_at hl 0 rfl) ?_
              refine va_iald hx hb hK hP 6 0 rfl rfl (zin rfl) dX12_part_152 ?_
              refine zg (fun x_82 => ?_)
              have hP : va_P g.1 vwCl (List.flatten [bMo g o a th hi ac tp ba en at2_77 fl de iD iO tU fm fk fa fc ft ff fb fi]) H := hP
              have hD : va_D A (List.flatten [bMo g o a th hi ac tp ba en at2_77 fl de iD iO tU fm fk fa fc ft ff fb fi]) := hD
              exact mret_i hx hb hr hlocks hS (Nat.le_of_ble_eq_true rfl) (Nat.le_of_ble_eq_true rfl) dX12_part_153 (at2_77, fl, x_82) rfl (show (0 ≤ at2_77.toInt ∧ at2_77.toInt ≤ en.toInt + 7 - de.toInt) ∧ (tA.toInt ≤ at2_77.toInt) ∧ (-1 ≤ fl.toInt) from ⟨hq79_0, (by first | assumption | omega | decide | exact rfl | exact zb01 (by omega) | exact Or.inl (by decide) | exact Or.inr (by first | omega | decide)), hfl⟩) hP hD
            · skip
              refine lv_if_eq (tgt := 91) hx hb dX12_part_84 (by decide) (fun _ => ?_) (fun c83 => absurd (by decide) c83)
              refine lv_aload_n hx hb dX12_part_91 rfl (lv_at hl 0 rfl) ?_
              refine va_ldcS (q := g.2 92) hx hb hown (zra41 hT.2.1) dX12_part_92 ?_
              refine mcallV' (g := g) (q0 := 0) (ci := 10) (As := [.ref (g.2 92)]) (rest := []) St hK hT hA hP hD hS hl.1 [0] [] rfl rfl rfl (m_has l g o a th hi ac tp ba en at2_77 fl de iD iO tU fm fk fa fc ft ff fb fi (g.2 92) 41 zqa41 hba hen hq79_0 hfl hde rfl zla41 zna41) (cwV 1 hts (zgL (zl4 k899 k900 k901 k839) k889) rfl rfl rfl (by decide +kernel) ⟨Nat.le_of_ble_eq_true rfl, Nat.le_of_ble_eq_true rfl⟩) rfl rfl rfl rfl (Nat.le_of_ble_eq_true rfl) dX12_part_94 ⟨(Nat.le_of_ble_eq_true rfl), (Nat.le_of_ble_eq_true rfl)⟩ (fun u_ H locs hq86 hP hD hS => ?_)
              obtain ⟨at2_84, r_85⟩ := u_
              replace hq86 : (0 ≤ at2_84.toInt ∧ at2_84.toInt ≤ en.toInt + 7 - de.toInt) ∧ (at2_77.toInt ≤ at2_84.toInt) ∧ (r_85 = 1 ∧ at2_77.toInt < at2_84.toInt ∧ at2_84.toInt ≤ en.toInt ∨ r_85 = 0) := hq86
              have hP : va_P g.1 vwCl (List.flatten [bMo g o a th hi ac tp ba en at2_84 fl de iD iO tU fm fk fa fc ft ff fb fi]) H := hP
              have hD : va_D A (List.flatten [bMo g o a th hi ac tp ba en at2_84 fl de iD iO tU fm fk fa fc ft ff fb fi]) := hD
              refine W.widen (k := 0) (n := 0) (Nat.le_of_ble_eq_true rfl) (Nat.le_of_ble_eq_true rfl) ?_
              refine W.eq (g2 := F0 m 97 ls [.int r_85]) rfl ?_
              obtain ⟨hq86_0, hq86_1, hq86_2⟩ := hq86
              rcases hq86_2 with ⟨rfl, hq86_k⟩ | rfl
              · skip
                refine lv_if_eq (tgt := 104) hx hb dX12_part_97 (by decide) (fun c87 => absurd c87 (by decide)) (fun _ => ?_)
                refine lv_iconst (v := 3) hx hb dX12_part_100 (by decide) ?_
                refine lv_goto (tgt := 131) hx hb dX12_part_101 (by decide) ?_
                refine lv_istore_n (lv' := [(1, .int 3), (0, .ref o)]) hx hb dX12_part_131 rfl hl (by decide) rfl (fun ls hl => ?_)
                refine lv_iload_n hx hb dX12_part_132 rfl (lv_at hl 0 rfl) ?_
                refine lv_iconst (v := (-1)) hx hb dX12_part_133 (by decide) ?_
                refine lv_icmp_ne (tgt := 147) hx hb dX12_part_134 (by decide) (fun _ => ?_) (fun c88 => absurd c88 (by decide))
                refine lv_aload_n hx hb dX12_part_147 rfl (lv_at hl 1 rfl) ?_
                refine va_get (D := g.1) (ci := 10) (v := .ref (a 5)) (C := RX12) (T := TX12) (N := 20) hx hb hts izRX12 hown hK hP 0 rfl rfl 14 (by decide) (hts _ k821) (fun _ h9 => h9) rfl dX12_part_148 ?_
                refine lv_iload_n hx hb dX12_part_151 rfl (lv_at hl 0 rfl) ?_
                refine va_iald hx hb hK hP 6 0 rfl rfl (zin rfl) dX12_part_152 ?_
                refine zg (fun x_89 => ?_)
                have hP : va_P g.1 vwCl (List.flatten [bMo g o a th hi ac tp ba en at2_84 fl de iD iO tU fm fk fa fc ft ff fb fi]) H := hP
                have hD : va_D A (List.flatten [bMo g o a th hi ac tp ba en at2_84 fl de iD iO tU fm fk fa fc ft ff fb fi]) := hD
                exact mret_i hx hb hr hlocks hS (Nat.le_of_ble_eq_true rfl) (Nat.le_of_ble_eq_true rfl) dX12_part_153 (at2_84, fl, x_89) rfl (show (0 ≤ at2_84.toInt ∧ at2_84.toInt ≤ en.toInt + 7 - de.toInt) ∧ (tA.toInt ≤ at2_84.toInt) ∧ (-1 ≤ fl.toInt) from ⟨hq86_0, (by first | assumption | omega | decide | exact rfl | exact zb01 (by omega) | exact Or.inl (by decide) | exact Or.inr (by first | omega | decide)), hfl⟩) hP hD
              · skip
                refine lv_if_eq (tgt := 104) hx hb dX12_part_97 (by decide) (fun _ => ?_) (fun c90 => absurd (by decide) c90)
                refine lv_aload_n hx hb dX12_part_104 rfl (lv_at hl 0 rfl) ?_
                refine va_ldcS (q := g.2 94) hx hb hown (zra42 hT.2.1) dX12_part_105 ?_
                refine mcallV' (g := g) (q0 := 0) (ci := 10) (As := [.ref (g.2 94)]) (rest := []) St hK hT hA hP hD hS hl.1 [0] [] rfl rfl rfl (m_has l g o a th hi ac tp ba en at2_84 fl de iD iO tU fm fk fa fc ft ff fb fi (g.2 94) 42 zqa42 hba hen hq86_0 hfl hde rfl zla42 zna42) (cwV 1 hts (zgL (zl4 k899 k900 k901 k839) k889) rfl rfl rfl (by decide +kernel) ⟨Nat.le_of_ble_eq_true rfl, Nat.le_of_ble_eq_true rfl⟩) rfl rfl rfl rfl (Nat.le_of_ble_eq_true rfl) dX12_part_107 ⟨(Nat.le_of_ble_eq_true rfl), (Nat.le_of_ble_eq_true rfl)⟩ (fun u_ H locs hq93 hP hD hS => ?_)
                obtain ⟨at2_91, r_92⟩ := u_
                replace hq93 : (0 ≤ at2_91.toInt ∧ at2_91.toInt ≤ en.toInt + 7 - de.toInt) ∧ (at2_84.toInt ≤ at2_91.toInt) ∧ (r_92 = 1 ∧ at2_84.toInt < at2_91.toInt ∧ at2_91.toInt ≤ en.toInt ∨ r_92 = 0) := hq93
                have hP : va_P g.1 vwCl (List.flatten [bMo g o a th hi ac tp ba en at2_91 fl de iD iO tU fm fk fa fc ft ff fb fi]) H := hP
                have hD : va_D A (List.flatten [bMo g o a th hi ac tp ba en at2_91 fl de iD iO tU fm fk fa fc ft ff fb fi]) := hD
                refine W.widen (k := 0) (n := 0) (Nat.le_of_ble_eq_true rfl) (Nat.le_of_ble_eq_true rfl) ?_
                refine W.eq (g2 := F0 m 110 ls [.int r_92]) rfl ?_
                obtain ⟨hq93_0, hq93_1, hq93_2⟩ := hq93
                rcases hq93_2 with ⟨rfl, hq93_k⟩ | rfl
                · skip
                  refine lv_if_eq (tgt := 117) hx hb dX12_part_110 (by decide) (fun c94 => absurd c94 (by decide)) (fun _ => ?_)
                  refine lv_iconst (v := 4) hx hb dX12_part_113 (by decide) ?_
                  refine lv_goto (tgt := 131) hx hb dX12_part_114 (by decide) ?_
                  refine lv_istore_n (lv' := [(1, .int 4), (0, .ref o)]) hx hb dX12_part_131 rfl hl (by decide) rfl (fun ls hl => ?_)
                  refine lv_iload_n hx hb dX12_part_132 rfl (lv_at hl 0 rfl) ?_
                  refine lv_iconst (v := (-1)) hx hb dX12_part_133 (by decide) ?_
                  refine lv_icmp_ne (tgt := 147) hx hb dX12_part_134 (by decide) (fun _ => ?_) (fun c95 => absurd c95 (by decide))
                  refine lv_aload_n hx hb dX12_part_147 rfl (lv_at hl 1 rfl) ?_
                  refine va_get (D := g.1) (ci := 10) (v := .ref (a 5)) (C := RX12) (T := TX12) (N := 20) hx hb hts izRX12 hown hK hP 0 rfl rfl 14 (by decide) (hts _ k821) (fun _ h9 => h9) rfl dX12_part_148 ?_
                  refine lv_iload_n hx hb dX12_part_151 rfl (lv_at hl 0 rfl) ?_
                  refine va_iald hx hb hK hP 6 0 rfl rfl (zin rfl) dX12_part_152 ?_
                  refine zg (fun x_96 => ?_)
                  have hP : va_P g.1 vwCl (List.flatten [bMo g o a th hi ac tp ba en at2_91 fl de iD iO tU fm fk fa fc ft ff fb fi]) H := hP
                  have hD : va_D A (List.flatten [bMo g o a th hi ac tp ba en at2_91 fl de iD iO tU fm fk fa fc ft ff fb fi]) := hD
                  exact mret_i hx hb hr hlocks hS (Nat.le_of_ble_eq_true rfl) (Nat.le_of_ble_eq_true rfl) dX12_part_153 (at2_91, fl, x_96) rfl (show (0 ≤ at2_91.toInt ∧ at2_91.toInt ≤ en.toInt + 7 - de.toInt) ∧ (tA.toInt ≤ at2_91.toInt) ∧ (-1 ≤ fl.toInt) from ⟨hq93_0, (by first | assumption | omega | decide | exact rfl | exact zb01 (by omega) | exact Or.inl (by decide) | exact Or.inr (by first | omega | decide)), hfl⟩) hP hD
                · skip
                  refine lv_if_eq (tgt := 117) hx hb dX12_part_110 (by decide) (fun _ => ?_) (fun c97 => absurd (by decide) c97)
                  refine lv_aload_n hx hb dX12_part_117 rfl (lv_at hl 0 rfl) ?_
                  refine va_ldcS (q := g.2 84) hx hb hown (zra37 hT.2.1) dX12_part_118 ?_
                  refine mcallV' (g := g) (q0 := 0) (ci := 10) (As := [.ref (g.2 84)]) (rest := []) St hK hT hA hP hD hS hl.1 [0] [] rfl rfl rfl (m_has l g o a th hi ac tp ba en at2_91 fl de iD iO tU fm fk fa fc ft ff fb fi (g.2 84) 37 zqa37 hba hen hq93_0 hfl hde rfl zla37 zna37) (cwV 1 hts (zgL (zl4 k899 k900 k901 k839) k889) rfl rfl rfl (by decide +kernel) ⟨Nat.le_of_ble_eq_true rfl, Nat.le_of_ble_eq_true rfl⟩) rfl rfl rfl rfl (Nat.le_of_ble_eq_true rfl) dX12_part_120 ⟨(Nat.le_of_ble_eq_true rfl), (Nat.le_of_ble_eq_true rfl)⟩ (fun u_ H locs hq100 hP hD hS => ?_)
                  obtain ⟨at2_98, r_99⟩ := u_
                  replace hq100 : (0 ≤ at2_98.toInt ∧ at2_98.toInt ≤ en.toInt + 7 - de.toInt) ∧ (at2_91.toInt ≤ at2_98.toInt) ∧ (r_99 = 1 ∧ at2_91.toInt < at2_98.toInt ∧ at2_98.toInt ≤ en.toInt ∨ r_99 = 0) := hq100
                  have hP : va_P g.1 vwCl (List.flatten [bMo g o a th hi ac tp ba en at2_98 fl de iD iO tU fm fk fa fc ft ff fb fi]) H := hP
                  have hD : va_D A (List.flatten [bMo g o a th hi ac tp ba en at2_98 fl de iD iO tU fm fk fa fc ft ff fb fi]) := hD
                  refine W.widen (k := 0) (n := 0) (Nat.le_of_ble_eq_true rfl) (Nat.le_of_ble_eq_true rfl) ?_
                  refine W.eq (g2 := F0 m 123 ls [.int r_99]) rfl ?_
                  obtain ⟨hq100_0, hq100_1, hq100_2⟩ := hq100
                  rcases hq100_2 with ⟨rfl, hq100_k⟩ | rfl
                  · skip
                    refine lv_if_eq (tgt := 130) hx hb dX12_part_123 (by decide) (fun c101 => absurd c101 (by decide)) (fun _ => ?_)
                    refine lv_iconst (v := 5) hx hb dX12_part_126 (by decide) ?_
                    refine lv_goto (tgt := 131) hx hb dX12_part_127 (by decide) ?_
                    refine lv_istore_n (lv' := [(1, .int 5), (0, .ref o)]) hx hb dX12_part_131 rfl hl (by decide) rfl (fun ls hl => ?_)
                    refine lv_iload_n hx hb dX12_part_132 rfl (lv_at hl 0 rfl) ?_
                    refine lv_iconst (v := (-1)) hx hb dX12_part_133 (by decide) ?_
                    refine lv_icmp_ne (tgt := 147) hx hb dX12_part_134 (by decide) (fun _ => ?_) (fun c102 => absurd c102 (by decide))
                    refine lv_aload_n hx hb dX12_part_147 rfl (lv_at hl 1 rfl) ?_
                    refine va_get (D := g.1) (ci := 10) (v := .ref (a 5)) (C := RX12) (T := TX12) (N := 20) hx hb hts izRX12 hown hK hP 0 rfl rfl 14 (by decide) (hts _ k821) (fun _ h9 => h9) rfl dX12_part_148 ?_
                    refine lv_iload_n hx hb dX12_part_151 rfl (lv_at hl 0 rfl) ?_
                    refine va_iald hx hb hK hP 6 0 rfl rfl (zin rfl) dX12_part_152 ?_
                    refine zg (fun x_103 => ?_)
                    have hP : va_P g.1 vwCl (List.flatten [bMo g o a th hi ac tp ba en at2_98 fl de iD iO tU fm fk fa fc ft ff fb fi]) H := hP
                    have hD : va_D A (List.flatten [bMo g o a th hi ac tp ba en at2_98 fl de iD iO tU fm fk fa fc ft ff fb fi]) := hD
                    exact mret_i hx hb hr hlocks hS (Nat.le_of_ble_eq_true rfl) (Nat.le_of_ble_eq_true rfl) dX12_part_153 (at2_98, fl, x_103) rfl (show (0 ≤ at2_98.toInt ∧ at2_98.toInt ≤ en.toInt + 7 - de.toInt) ∧ (tA.toInt ≤ at2_98.toInt) ∧ (-1 ≤ fl.toInt) from ⟨hq100_0, (by first | assumption | omega | decide | exact rfl | exact zb01 (by omega) | exact Or.inl (by decide) | exact Or.inr (by first | omega | decide)), hfl⟩) hP hD
                  · skip
                    refine lv_if_eq (tgt := 130) hx hb dX12_part_123 (by decide) (fun _ => ?_) (fun c104 => absurd (by decide) c104)
                    refine lv_iconst (v := (-1)) hx hb dX12_part_130 (by decide) ?_
                    refine lv_istore_n (lv' := [(1, .int (-1)), (0, .ref o)]) hx hb dX12_part_131 rfl hl (by decide) rfl (fun ls hl => ?_)
                    refine lv_iload_n hx hb dX12_part_132 rfl (lv_at hl 0 rfl) ?_
                    refine lv_iconst (v := (-1)) hx hb dX12_part_133 (by decide) ?_
                    refine lv_icmp_ne (tgt := 147) hx hb dX12_part_134 (by decide) (fun c105 => absurd (by decide) c105) (fun _ => ?_)
                    refine lv_aload_n hx hb dX12_part_137 rfl (lv_at hl 1 rfl) ?_
                    refine lv_aload_n hx hb dX12_part_138 rfl (lv_at hl 1 rfl) ?_
                    refine va_get (D := g.1) (ci := 10) (v := .int at2_98) (C := RX12) (T := TX12) (N := 20) hx hb hts izRX12 hown hK hP 0 rfl rfl 11 (by decide) (hts _ k878) (fun _ h9 => h9) rfl dX12_part_139 ?_
                    refine mcallV' (g := g) (q0 := 0) (ci := 10) (As := [.int at2_98]) (rest := []) St hK hT hA hP hD hS hl.1 [0] [] rfl rfl rfl (m_wrong l g o a th hi ac tp ba en at2_98 fl de iD iO tU fm fk fa fc ft ff fb fi at2_98 (by first | assumption | omega | decide | exact Or.inl (by decide) | exact Or.inr (by decide)) hfl) (cwV 1 hts (zgL (zl4 k895 k896 k897 k839) k890) rfl rfl rfl (by decide +kernel) ⟨Nat.le_of_ble_eq_true rfl, Nat.le_of_ble_eq_true rfl⟩) rfl rfl rfl rfl (Nat.le_of_ble_eq_true rfl) dX12_part_142 ⟨(Nat.le_of_ble_eq_true rfl), (Nat.le_of_ble_eq_true rfl)⟩ (fun fl2_106 H locs hq107 hP hD hS => ?_)
                    replace hq107 : (0 ≤ fl2_106.toInt) := hq107
                    have hP : va_P g.1 vwCl (List.flatten [bMo g o a th hi ac tp ba en at2_98 fl2_106 de iD iO tU fm fk fa fc ft ff fb fi]) H := hP
                    have hD : va_D A (List.flatten [bMo g o a th hi ac tp ba en at2_98 fl2_106 de iD iO tU fm fk fa fc ft ff fb fi]) := hD
                    refine W.widen (k := 0) (n := 0) (Nat.le_of_ble_eq_true rfl) (Nat.le_of_ble_eq_true rfl) ?_
                    refine W.eq (g2 := F0 m 145 ls []) rfl ?_
                    refine lv_iconst (v := 0) hx hb dX12_part_145 (by decide) ?_
                    have hP : va_P g.1 vwCl (List.flatten [bMo g o a th hi ac tp ba en at2_98 fl2_106 de iD iO tU fm fk fa fc ft ff fb fi]) H := hP
                    have hD : va_D A (List.flatten [bMo g o a th hi ac tp ba en at2_98 fl2_106 de iD iO tU fm fk fa fc ft ff fb fi]) := hD
                    exact mret_i hx hb hr hlocks hS (Nat.le_of_ble_eq_true rfl) (Nat.le_of_ble_eq_true rfl) dX12_part_146 (at2_98, fl2_106, (0 : Int32)) rfl (show (0 ≤ at2_98.toInt ∧ at2_98.toInt ≤ en.toInt + 7 - de.toInt) ∧ (tA.toInt ≤ at2_98.toInt) ∧ (-1 ≤ fl2_106.toInt) from ⟨hq100_0, (by first | assumption | omega | decide | exact rfl | exact zb01 (by omega) | exact Or.inl (by decide) | exact Or.inr (by first | omega | decide)), (by first | assumption | omega | decide | exact rfl | exact zb01 (by omega) | exact Or.inl (by decide) | exact Or.inr (by first | omega | decide))⟩) hP hD
  · skip
    have c108 : ¬ fl.toInt = (-1) := zne cb9 rfl (by decide)
    refine lv_iconst (v := 0) hx hb dX12_part_8 (by decide) ?_
    have hP : va_P g.1 vwCl (List.flatten [bMo g o a th hi ac tp ba en tA fl de iD iO tU fm fk fa fc ft ff fb fi]) s.heap := hP
    have hD : va_D A (List.flatten [bMo g o a th hi ac tp ba en tA fl de iD iO tU fm fk fa fc ft ff fb fi]) := hD
    exact mret_i hx hb hr hlocks hS (Nat.le_of_ble_eq_true rfl) (Nat.le_of_ble_eq_true rfl) dX12_part_9 (tA, fl, (0 : Int32)) rfl (show (0 ≤ tA.toInt ∧ tA.toInt ≤ en.toInt + 7 - de.toInt) ∧ (tA.toInt ≤ tA.toInt) ∧ (-1 ≤ fl.toInt) from ⟨htA, (by first | assumption | omega | decide | exact rfl | exact zb01 (by omega) | exact Or.inl (by decide) | exact Or.inr (by first | omega | decide)), hfl⟩) hP hD
