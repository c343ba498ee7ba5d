set_option maxRecDepth 100000 in
set_option maxHeartbeats 4000000 in
theorem m_lawLine (l : Launch) (g : zG) (o : Nat) (a : Nat → Nat) (th : Int32) (hi : Int32) (ac : Int32) (tp : Int32) (ba : Int32) (en : Int32) (tA : Int32) (fl : Int32) (iD : Int32) (iO : Int32) (tU : Int32) (fm : Nat → Int32) (fk : Nat → Int32) (fa : Nat → Int32) (fc : Nat → Int32) (ft : Nat → Int32) (ff : Nat → Int32) (fb : Nat → Int32) (fi : Nat → Int32) (hiD : 0 ≤ iD.toInt ∧ iD.toInt ≤ 1) (hiO : 0 ≤ iO.toInt ∧ iO.toInt ≤ 1) (hba : zBa ba.toInt) (hen : 0 ≤ en.toInt ∧ en.toInt ≤ 400) (htA : 0 ≤ tA.toInt ∧ tA.toInt ≤ en.toInt + 7 - 0) (hfl : -1 ≤ fl.toInt) (hde : 0 ≤ 0 ∧ 0 ≤ 6) : zM' g l yX12_lawLine (Cond.code yX12_lawLine cX12_lawLine 4 none :: zB) ({ frames := 29, cells := 0, slots := 0, locals := 642 } : Room) [.ref o] [bMo g o a th hi ac tp ba en tA fl 0 iD iO tU fm fk fa fc ft ff fb fi] (fun u : Int32 × Int32 × Int32 => (fun (at2 : Int32) (fl2 : Int32) (tU2 : Int32) => none) (u.1) (u.2.1) (u.2.2)) (fun u : Int32 × Int32 × Int32 => (fun (at2 : Int32) (fl2 : Int32) (tU2 : Int32) => (0 ≤ at2.toInt ∧ at2.toInt ≤ en.toInt + 7 - 0) ∧ (tA.toInt ≤ at2.toInt) ∧ (-1 ≤ fl2.toInt)) (u.1) (u.2.1) (u.2.2)) (fun u : Int32 × Int32 × Int32 => (fun (at2 : Int32) (fl2 : Int32) (tU2 : Int32) => [bMo g o a th hi ac tp ba en at2 fl2 0 iD iO tU2 fm fk fa fc ft ff fb fi]) (u.1) (u.2.1) (u.2.2)) := by
  refine zM'.of (cc := cX12_lawLine) (maxL := 4) (rt := none) (by decide) rfl (Nat.le_of_ble_eq_true rfl) ?_
  intro p e s m args below meth c A ls St hr hlocks hin hK hT hA hP hD hS hl
  obtain ⟨hx, hb, hml, hown, hts⟩ := id St
  have hl : lv_has ls 4 [(0, .ref o)] := hl
  refine lv_aload_n hx hb dX12_lawLine_0 rfl (lv_at hl 0 rfl) ?_
  refine va_ldcS (q := g.2 104) hx hb hown (zra47 hT.2.1) dX12_lawLine_1 ?_
  have hL0 : (0 : Int32).toInt = 0 := by decide
  refine mcallV' (g := g) (q0 := 0) (ci := 10) (As := [.ref (g.2 104)]) (rest := []) St hK hT hA hP hD hS hl.1 [0] [] rfl rfl rfl (m_has l g o a th hi ac tp ba en tA fl 0 iD iO tU fm fk fa fc ft ff fb fi (g.2 104) 47 zqa47 (by first | assumption | omega | decide | exact Or.inl (by decide) | exact Or.inr (by decide)) (⟨hen.1, hen.2⟩) (by first | assumption | omega | decide | exact Or.inl (by decide) | exact Or.inr (by decide)) (by first | assumption | omega | decide | exact Or.inl (by decide) | exact Or.inr (by decide)) (by decide) rfl zla47 zna47) (cwV 1 hts (zgL (zl4 k898 k899 k900 k837) k888) rfl rfl rfl (by decide +kernel) ⟨Nat.le_of_ble_eq_true rfl, Nat.le_of_ble_eq_true rfl⟩) rfl rfl rfl rfl (Nat.le_of_ble_eq_true rfl) dX12_lawLine_3 ⟨(Nat.le_of_ble_eq_true rfl), (Nat.le_of_ble_eq_true rfl)⟩ (fun u_ H locs hq3 hP hD hS => ?_)
  obtain ⟨at2_1, r_2⟩ := u_
  replace hq3 : (0 ≤ at2_1.toInt ∧ at2_1.toInt ≤ en.toInt + 7 - (0 : Int32).toInt) ∧ (tA.toInt ≤ at2_1.toInt) ∧ (r_2 = 1 ∧ tA.toInt < at2_1.toInt ∧ at2_1.toInt ≤ en.toInt ∨ r_2 = 0) := hq3
  have hP : va_P g.1 vwCl (List.flatten [bMo g o a th hi ac tp ba en at2_1 fl 0 iD iO tU fm fk fa fc ft ff fb fi]) H := hP
  have hD : va_D A (List.flatten [bMo g o a th hi ac tp ba en at2_1 fl 0 iD iO tU fm fk fa fc ft ff fb fi]) := hD
  refine W.widen (k := 0) (n := 0) (Nat.le_of_ble_eq_true rfl) (Nat.le_of_ble_eq_true rfl) ?_
  refine W.eq (g2 := F0 m 6 ls [.int r_2]) rfl ?_
  obtain ⟨hq3_0, hq3_1, hq3_2⟩ := hq3
  rcases hq3_2 with ⟨rfl, hq3_k⟩ | rfl
  · skip
    refine lv_istore_n (lv' := [(1, .int 1), (0, .ref o)]) hx hb dX12_lawLine_6 rfl hl (by decide) rfl (fun ls hl => ?_)
    refine lv_iload_n hx hb dX12_lawLine_7 rfl (lv_at hl 0 rfl) ?_
    refine lv_if_ne (tgt := 29) hx hb dX12_lawLine_8 (by decide) (fun _ => ?_) (fun c4 => absurd c4 (by decide))
    refine lv_aload_n hx hb dX12_lawLine_29 rfl (lv_at hl 1 rfl) ?_
    refine lv_iconst (v := 0) hx hb dX12_lawLine_30 (by decide) ?_
    refine lv_bipush (v := 30) hx hb dX12_lawLine_31 (by decide) ?_
    have hL30 : (30 : Int32).toInt = 30 := by decide
    refine mcallV' (g := g) (q0 := 0) (ci := 10) (As := [.int 0, .int 30]) (rest := []) St hK hT hA hP hD hS hl.1 [0] [] rfl rfl rfl (m_figures l g o a th hi ac tp ba en at2_1 fl 0 iD iO tU fm fk fa fc ft ff fb fi 0 30 (by first | assumption | omega | decide | exact Or.inl (by decide) | exact Or.inr (by decide)) (⟨hen.1, hen.2⟩) (by first | assumption | omega | decide | exact Or.inl (by decide) | exact Or.inr (by decide)) (by first | assumption | omega | decide | exact Or.inl (by decide) | exact Or.inr (by decide)) (by decide)) (cwV 2 hts (zgL (zl4 k901 k902 k903 k837) k897) rfl rfl rfl (by decide +kernel) ⟨Nat.le_of_ble_eq_true rfl, Nat.le_of_ble_eq_true rfl⟩) rfl rfl rfl rfl (Nat.le_of_ble_eq_true rfl) dX12_lawLine_33 ⟨(Nat.le_of_ble_eq_true rfl), (Nat.le_of_ble_eq_true rfl)⟩ (fun u_ H locs hq8 hP hD hS => ?_)
    obtain ⟨at2_5, fl2_6, r_7⟩ := u_
    replace hq8 : (0 ≤ at2_5.toInt ∧ at2_5.toInt ≤ en.toInt + 7 - (0 : Int32).toInt) ∧ (at2_1.toInt ≤ at2_5.toInt) ∧ (-1 ≤ fl2_6.toInt) ∧ (zImp (fl2_6.toInt = -1) (fl.toInt = -1 ∧ (0 : Int32).toInt ≤ r_7.toInt ∧ r_7.toInt ≤ (30 : Int32).toInt)) := hq8
    have hP : va_P g.1 vwCl (List.flatten [bMo g o a th hi ac tp ba en at2_5 fl2_6 0 iD iO tU fm fk fa fc ft ff fb fi]) H := hP
    have hD : va_D A (List.flatten [bMo g o a th hi ac tp ba en at2_5 fl2_6 0 iD iO tU fm fk fa fc ft ff fb fi]) := hD
    refine W.widen (k := 0) (n := 0) (Nat.le_of_ble_eq_true rfl) (Nat.le_of_ble_eq_true rfl) ?_
    refine W.eq (g2 := F0 m 36 ls [.int r_7]) rfl ?_
    obtain ⟨hq8_0, hq8_1, hq8_2, hq8_3⟩ := hq8
    refine lv_istore_n (lv' := [(2, .int r_7), (1, .int 1), (0, .ref o)]) hx hb dX12_lawLine_36 rfl hl (by decide) rfl (fun ls hl => ?_)
    refine lv_aload_n hx hb dX12_lawLine_37 rfl (lv_at hl 2 rfl) ?_
    refine va_get (D := g.1) (ci := 10) (v := .int fl2_6) (C := RX12) (T := TX12) (N := 20) hx hb hts izRX12 hown hK hP 0 rfl rfl 12 (by decide) (hts _ k820) (fun _ h9 => h9) rfl dX12_lawLine_38 ?_
    refine lv_iconst (v := (-1)) hx hb dX12_lawLine_41 (by decide) ?_
    refine lv_icmp_eq (tgt := 46) hx hb dX12_lawLine_42 (by decide) (fun cb9 => ?_) (fun cb9 => ?_)
    · skip
      have c9 : fl2_6.toInt = (-1) := zeq cb9 rfl (by decide)
      have n10 : fl2_6.toInt ≤ (-1) := Int.le_trans (Int.le_of_eq c9) (Int.le_refl _)
      obtain ⟨e12, w11⟩ := hq8_3 c9
      have w13 : 0 ≤ r_7.toInt ∧ r_7.toInt ≤ 30 := by first | exact w11 | omega
      refine lv_aload_n hx hb dX12_lawLine_46 rfl (lv_at hl 2 rfl) ?_
      refine va_ldcS (q := g.2 108) hx hb hown (zra49 hT.2.1) dX12_lawLine_47 ?_
      refine mcallV' (g := g) (q0 := 0) (ci := 10) (As := [.ref (g.2 108)]) (rest := []) St hK hT hA hP hD hS hl.1 [0] [] rfl rfl rfl (m_has l g o a th hi ac tp ba en at2_5 fl2_6 0 iD iO tU fm fk fa fc ft ff fb fi (g.2 108) 49 zqa49 (by first | assumption | omega | decide | exact Or.inl (by decide) | exact Or.inr (by decide)) (⟨hen.1, hen.2⟩) (by first | assumption | omega | decide | exact Or.inl (by decide) | exact Or.inr (by decide)) (by first | assumption | omega | decide | exact Or.inl (by decide) | exact Or.inr (by decide)) (by decide) rfl zla49 zna49) (cwV 1 hts (zgL (zl4 k898 k899 k900 k837) k888) rfl rfl rfl (by decide +kernel) ⟨Nat.le_of_ble_eq_true rfl, Nat.le_of_ble_eq_true rfl⟩) rfl rfl rfl rfl (Nat.le_of_ble_eq_true rfl) dX12_lawLine_49 ⟨(Nat.le_of_ble_eq_true rfl), (Nat.le_of_ble_eq_true rfl)⟩ (fun u_ H locs hq16 hP hD hS => ?_)
      obtain ⟨at2_14, r_15⟩ := u_
      replace hq16 : (0 ≤ at2_14.toInt ∧ at2_14.toInt ≤ en.toInt + 7 - (0 : Int32).toInt) ∧ (at2_5.toInt ≤ at2_14.toInt) ∧ (r_15 = 1 ∧ at2_5.toInt < at2_14.toInt ∧ at2_14.toInt ≤ en.toInt ∨ r_15 = 0) := hq16
      have hP : va_P g.1 vwCl (List.flatten [bMo g o a th hi ac tp ba en at2_14 fl2_6 0 iD iO tU fm fk fa fc ft ff fb fi]) H := hP
      have hD : va_D A (List.flatten [bMo g o a th hi ac tp ba en at2_14 fl2_6 0 iD iO tU fm fk fa fc ft ff fb fi]) := hD
      refine W.widen (k := 0) (n := 0) (Nat.le_of_ble_eq_true rfl) (Nat.le_of_ble_eq_true rfl) ?_
      refine W.eq (g2 := F0 m 52 ls [.int r_15]) rfl ?_
      obtain ⟨hq16_0, hq16_1, hq16_2⟩ := hq16
      rcases hq16_2 with ⟨rfl, hq16_k⟩ | rfl
      · skip
        refine lv_if_eq (tgt := 62) hx hb dX12_lawLine_52 (by decide) (fun c17 => absurd c17 (by decide)) (fun _ => ?_)
        refine lv_aload_n hx hb dX12_lawLine_55 rfl (lv_at hl 2 rfl) ?_
        refine mcallV' (g := g) (q0 := 0) (ci := 10) (As := []) (rest := []) St hK hT hA hP hD hS hl.1 [0] [] rfl rfl rfl (m_some0 l g o a th hi ac tp ba en at2_14 fl2_6 iD iO tU fm fk fa fc ft ff fb fi (⟨hiD.1, hiD.2⟩) (⟨hiO.1, hiO.2⟩) (by first | assumption | omega | decide | exact Or.inl (by decide) | exact Or.inr (by decide)) (⟨hen.1, hen.2⟩) (by first | assumption | omega | decide | exact Or.inl (by decide) | exact Or.inr (by decide)) (by first | assumption | omega | decide | exact Or.inl (by decide) | exact Or.inr (by decide)) (by first | assumption | omega | decide | exact Or.inl (by decide) | exact Or.inr (by decide))) (cwV 0 hts (zgL (zl4 k953 k954 k955 k837) k957) rfl rfl rfl (by decide +kernel) ⟨Nat.le_of_ble_eq_true rfl, Nat.le_of_ble_eq_true rfl⟩) rfl rfl rfl rfl (Nat.le_of_ble_eq_true rfl) dX12_lawLine_56 ⟨(Nat.le_of_ble_eq_true rfl), (Nat.le_of_ble_eq_true rfl)⟩ (fun u_ H locs hq21 hP hD hS => ?_)
        obtain ⟨at2_18, fl2_19, q_20⟩ := u_
        replace hq21 : (0 ≤ at2_18.toInt ∧ at2_18.toInt ≤ en.toInt + 7 - 0) ∧ (at2_14.toInt ≤ at2_18.toInt) ∧ (-1 ≤ fl2_19.toInt) ∧ (q_20 = 0 ∨ q_20 = 1) := hq21
        have hP : va_P g.1 vwCl (List.flatten [bMo g o a th hi ac tp ba en at2_18 fl2_19 0 iD iO tU fm fk fa fc ft ff fb fi]) H := hP
        have hD : va_D A (List.flatten [bMo g o a th hi ac tp ba en at2_18 fl2_19 0 iD iO tU fm fk fa fc ft ff fb fi]) := hD
        refine W.widen (k := 0) (n := 0) (Nat.le_of_ble_eq_true rfl) (Nat.le_of_ble_eq_true rfl) ?_
        refine W.eq (g2 := F0 m 59 ls [.int q_20]) rfl ?_
        obtain ⟨hq21_0, hq21_1, hq21_2, hq21_3⟩ := hq21
        rcases hq21_3 with rfl | rfl
        · skip
          refine lv_if_eq (tgt := 66) hx hb dX12_lawLine_59 (by decide) (fun _ => ?_) (fun c22 => absurd (by decide) c22)
          refine lv_iconst (v := 0) hx hb dX12_lawLine_66 (by decide) ?_
          refine lv_istore_n (lv' := [(3, .int 0), (2, .int r_7), (1, .int 1), (0, .ref o)]) hx hb dX12_lawLine_67 rfl hl (by decide) rfl (fun ls hl => ?_)
          refine lv_aload_n hx hb dX12_lawLine_68 rfl (lv_at hl 3 rfl) ?_
          refine va_get (D := g.1) (ci := 10) (v := .int fl2_19) (C := RX12) (T := TX12) (N := 20) hx hb hts izRX12 hown hK hP 0 rfl rfl 12 (by decide) (hts _ k820) (fun _ h9 => h9) rfl dX12_lawLine_69 ?_
          refine lv_iconst (v := (-1)) hx hb dX12_lawLine_72 (by decide) ?_
          refine lv_icmp_ne (tgt := 99) hx hb dX12_lawLine_73 (by decide) (fun cb9 => ?_) (fun cb9 => ?_)
          · skip
            have c23 : ¬ fl2_19.toInt = (-1) := zne cb9 rfl (by decide)
            have hP : va_P g.1 vwCl (List.flatten [bMo g o a th hi ac tp ba en at2_18 fl2_19 0 iD iO tU fm fk fa fc ft ff fb fi]) H := hP
            have hD : va_D A (List.flatten [bMo g o a th hi ac tp ba en at2_18 fl2_19 0 iD iO tU fm fk fa fc ft ff fb fi]) := hD
            exact mret_v hx hb hr hlocks hS (Nat.le_of_ble_eq_true rfl) (Nat.le_of_ble_eq_true rfl) dX12_lawLine_99 (at2_18, fl2_19, tU) rfl (show (0 ≤ at2_18.toInt ∧ at2_18.toInt ≤ en.toInt + 7 - 0) ∧ (tA.toInt ≤ at2_18.toInt) ∧ (-1 ≤ fl2_19.toInt) from ⟨(by first | assumption | omega | decide | exact rfl | exact zb01 (by omega) | exact Or.inl (by decide) | exact Or.inr (by first | omega | decide)), (by first | assumption | omega | decide | exact rfl | exact zb01 (by omega) | exact Or.inl (by decide) | exact Or.inr (by first | omega | decide)), (by first | assumption | omega | decide | exact rfl | exact zb01 (by omega) | exact Or.inl (by decide) | exact Or.inr (by first | omega | decide))⟩) hP hD
          · skip
            have c24 : fl2_19.toInt = (-1) := zeq cb9 rfl (by decide)
            have n25 : fl2_19.toInt ≤ (-1) := Int.le_trans (Int.le_of_eq c24) (Int.le_refl _)
            refine lv_iload_n hx hb dX12_lawLine_76 rfl (lv_at hl 0 rfl) ?_
            refine lv_if_eq (tgt := 99) hx hb dX12_lawLine_77 (by decide) (fun _ => ?_) (fun c26 => absurd (by decide) c26)
            have hP : va_P g.1 vwCl (List.flatten [bMo g o a th hi ac tp ba en at2_18 fl2_19 0 iD iO tU fm fk fa fc ft ff fb fi]) H := hP
            have hD : va_D A (List.flatten [bMo g o a th hi ac tp ba en at2_18 fl2_19 0 iD iO tU fm fk fa fc ft ff fb fi]) := hD
            exact mret_v hx hb hr hlocks hS (Nat.le_of_ble_eq_true rfl) (Nat.le_of_ble_eq_true rfl) dX12_lawLine_99 (at2_18, fl2_19, tU) rfl (show (0 ≤ at2_18.toInt ∧ at2_18.toInt ≤ en.toInt + 7 - 0) ∧ (tA.toInt ≤ at2_18.toInt) ∧ (-1 ≤ fl2_19.toInt) from ⟨(by first | assumption | omega | decide | exact rfl | exact zb01 (by omega) | exact Or.inl (by decide) | exact Or.inr (by first | omega | decide)), (by first | assumption | omega | decide | exact rfl | exact zb01 (by omega) | exact Or.inl (by decide) | exact Or.inr (by first | omega | decide)), (by first | assumption | omega | decide | exact rfl | exact zb01 (by omega) | exact Or.inl (by decide) | exact Or.inr (by first | omega | decide))⟩) hP hD
        · skip
          refine lv_if_eq (tgt := 66) hx hb dX12_lawLine_59 (by decide) (fun c27 => absurd c27 (by decide)) (fun _ => ?_)
          refine lv_iconst (v := 1) hx hb dX12_lawLine_62 (by decide) ?_
          refine lv_goto (tgt := 67) hx hb dX12_lawLine_63 (by decide) ?_
          refine lv_istore_n (lv' := [(3, .int 1), (2, .int r_7), (1, .int 1), (0, .ref o)]) hx hb dX12_lawLine_67 rfl hl (by decide) rfl (fun ls hl => ?_)
          refine lv_aload_n hx hb dX12_lawLine_68 rfl (lv_at hl 3 rfl) ?_
          refine va_get (D := g.1) (ci := 10) (v := .int fl2_19) (C := RX12) (T := TX12) (N := 20) hx hb hts izRX12 hown hK hP 0 rfl rfl 12 (by decide) (hts _ k820) (fun _ h9 => h9) rfl dX12_lawLine_69 ?_
          refine lv_iconst (v := (-1)) hx hb dX12_lawLine_72 (by decide) ?_
          refine lv_icmp_ne (tgt := 99) hx hb dX12_lawLine_73 (by decide) (fun cb9 => ?_) (fun cb9 => ?_)
          · skip
            have c28 : ¬ fl2_19.toInt = (-1) := zne cb9 rfl (by decide)
            have hP : va_P g.1 vwCl (List.flatten [bMo g o a th hi ac tp ba en at2_18 fl2_19 0 iD iO tU fm fk fa fc ft ff fb fi]) H := hP
            have hD : va_D A (List.flatten [bMo g o a th hi ac tp ba en at2_18 fl2_19 0 iD iO tU fm fk fa fc ft ff fb fi]) := hD
            exact mret_v hx hb hr hlocks hS (Nat.le_of_ble_eq_true rfl) (Nat.le_of_ble_eq_true rfl) dX12_lawLine_99 (at2_18, fl2_19, tU) rfl (show (0 ≤ at2_18.toInt ∧ at2_18.toInt ≤ en.toInt + 7 - 0) ∧ (tA.toInt ≤ at2_18.toInt) ∧ (-1 ≤ fl2_19.toInt) from ⟨(by first | assumption | omega | decide | exact rfl | exact zb01 (by omega) | exact Or.inl (by decide) | exact Or.inr (by first | omega | decide)), (by first | assumption | omega | decide | exact rfl | exact zb01 (by omega) | exact Or.inl (by decide) | exact Or.inr (by first | omega | decide)), (by first | assumption | omega | decide | exact rfl | exact zb01 (by omega) | exact Or.inl (by decide) | exact Or.inr (by first | omega | decide))⟩) hP hD
          · skip
            have c29 : fl2_19.toInt = (-1) := zeq cb9 rfl (by decide)
            have n30 : fl2_19.toInt ≤ (-1) := Int.le_trans (Int.le_of_eq c29) (Int.le_refl _)
            refine lv_iload_n hx hb dX12_lawLine_76 rfl (lv_at hl 0 rfl) ?_
            refine lv_if_eq (tgt := 99) hx hb dX12_lawLine_77 (by decide) (fun c31 => absurd c31 (by decide)) (fun _ => ?_)
            refine lv_aload_n hx hb dX12_lawLine_80 rfl (lv_at hl 3 rfl) ?_
            refine lv_dup hx hb dX12_lawLine_81 rfl ?_
            refine va_get (D := g.1) (ci := 10) (v := .int tU) (C := RX12) (T := TX12) (N := 20) hx hb hts izRX12 hown hK hP 0 rfl rfl 17 (by decide) (hts _ k962) (fun _ h9 => h9) rfl dX12_lawLine_82 ?_
            refine lv_iload_n hx hb dX12_lawLine_85 rfl (lv_at hl 2 rfl) ?_
            refine lv_if_eq (tgt := 93) hx hb dX12_lawLine_86 (by decide) (fun c32 => absurd c32 (by decide)) (fun _ => ?_)
            refine lv_iload_n hx hb dX12_lawLine_89 rfl (lv_at hl 1 rfl) ?_
            refine lv_goto (tgt := 95) hx hb dX12_lawLine_90 (by decide) ?_
            refine lv_iadd hx hb dX12_lawLine_95 ?_
            refine zg (fun x_33 => ?_)
            refine va_put (D := g.1) (ci := 10) (v := .int x_33) (ty := .int) (C := RX12) (T := TX12) (N := 20) hx hb hts izRX12 tyX12 tyX12_ok nmX12 hown hK hP hD hS 0 rfl rfl 17 (by decide) (hts _ k962) (fun _ h9 => h9) rfl (by decide +kernel) rfl rfl (Nat.le_of_ble_eq_true rfl) dX12_lawLine_96 (fun H locs hP hD hS => ?_)
            have hP : va_P g.1 vwCl (List.flatten [bMo g o a th hi ac tp ba en at2_18 fl2_19 0 iD iO x_33 fm fk fa fc ft ff fb fi]) H := hP
            have hD : va_D A (List.flatten [bMo g o a th hi ac tp ba en at2_18 fl2_19 0 iD iO x_33 fm fk fa fc ft ff fb fi]) := hD
            have hP : va_P g.1 vwCl (List.flatten [bMo g o a th hi ac tp ba en at2_18 fl2_19 0 iD iO x_33 fm fk fa fc ft ff fb fi]) H := hP
            have hD : va_D A (List.flatten [bMo g o a th hi ac tp ba en at2_18 fl2_19 0 iD iO x_33 fm fk fa fc ft ff fb fi]) := hD
            exact mret_v hx hb hr hlocks hS (Nat.le_of_ble_eq_true rfl) (Nat.le_of_ble_eq_true rfl) dX12_lawLine_99 (at2_18, fl2_19, x_33) rfl (show (0 ≤ at2_18.toInt ∧ at2_18.toInt ≤ en.toInt + 7 - 0) ∧ (tA.toInt ≤ at2_18.toInt) ∧ (-1 ≤ fl2_19.toInt) from ⟨(by first | assumption | omega | decide | exact rfl | exact zb01 (by omega) | exact Or.inl (by decide) | exact Or.inr (by first | omega | decide)), (by first | assumption | omega | decide | exact rfl | exact zb01 (by omega) | exact Or.inl (by decide) | exact Or.inr (by first | omega | decide)), (by first | assumption | omega | decide | exact rfl | exact zb01 (by omega) | exact Or.inl (by decide) | exact Or.inr (by first | omega | decide))⟩) hP hD
      · skip
        refine lv_if_eq (tgt := 62) hx hb dX12_lawLine_52 (by decide) (fun _ => ?_) (fun c34 => absurd (by decide) c34)
        refine lv_iconst (v := 1) hx hb dX12_lawLine_62 (by decide) ?_
        refine lv_goto (tgt := 67) hx hb dX12_lawLine_63 (by decide) ?_
        refine lv_istore_n (lv' := [(3, .int 1), (2, .int r_7), (1, .int 1), (0, .ref o)]) hx hb dX12_lawLine_67 rfl hl (by decide) rfl (fun ls hl => ?_)
        refine lv_aload_n hx hb dX12_lawLine_68 rfl (lv_at hl 3 rfl) ?_
        refine va_get (D := g.1) (ci := 10) (v := .int fl2_6) (C := RX12) (T := TX12) (N := 20) hx hb hts izRX12 hown hK hP 0 rfl rfl 12 (by decide) (hts _ k820) (fun _ h9 => h9) rfl dX12_lawLine_69 ?_
        refine lv_iconst (v := (-1)) hx hb dX12_lawLine_72 (by decide) ?_
        refine lv_icmp_ne (tgt := 99) hx hb dX12_lawLine_73 (by decide) (fun cb9 => ?_) (fun cb9 => ?_)
        · skip
          exact absurd (show ¬ fl2_6.toInt = (-1) from zne cb9 rfl (by decide)) (by omega)
        · skip
          have c36 : fl2_6.toInt = (-1) := zeq cb9 rfl (by decide)
          obtain ⟨e38, w37⟩ := hq8_3 c36
          have w39 : 0 ≤ r_7.toInt ∧ r_7.toInt ≤ 30 := by first | exact w37 | omega
          refine lv_iload_n hx hb dX12_lawLine_76 rfl (lv_at hl 0 rfl) ?_
          refine lv_if_eq (tgt := 99) hx hb dX12_lawLine_77 (by decide) (fun c40 => absurd c40 (by decide)) (fun _ => ?_)
          refine lv_aload_n hx hb dX12_lawLine_80 rfl (lv_at hl 3 rfl) ?_
          refine lv_dup hx hb dX12_lawLine_81 rfl ?_
          refine va_get (D := g.1) (ci := 10) (v := .int tU) (C := RX12) (T := TX12) (N := 20) hx hb hts izRX12 hown hK hP 0 rfl rfl 17 (by decide) (hts _ k962) (fun _ h9 => h9) rfl dX12_lawLine_82 ?_
          refine lv_iload_n hx hb dX12_lawLine_85 rfl (lv_at hl 2 rfl) ?_
          refine lv_if_eq (tgt := 93) hx hb dX12_lawLine_86 (by decide) (fun c41 => absurd c41 (by decide)) (fun _ => ?_)
          refine lv_iload_n hx hb dX12_lawLine_89 rfl (lv_at hl 1 rfl) ?_
          refine lv_goto (tgt := 95) hx hb dX12_lawLine_90 (by decide) ?_
          refine lv_iadd hx hb dX12_lawLine_95 ?_
          refine zg (fun x_42 => ?_)
          refine va_put (D := g.1) (ci := 10) (v := .int x_42) (ty := .int) (C := RX12) (T := TX12) (N := 20) hx hb hts izRX12 tyX12 tyX12_ok nmX12 hown hK hP hD hS 0 rfl rfl 17 (by decide) (hts _ k962) (fun _ h9 => h9) rfl (by decide +kernel) rfl rfl (Nat.le_of_ble_eq_true rfl) dX12_lawLine_96 (fun H locs hP hD hS => ?_)
          have hP : va_P g.1 vwCl (List.flatten [bMo g o a th hi ac tp ba en at2_14 fl2_6 0 iD iO x_42 fm fk fa fc ft ff fb fi]) H := hP
          have hD : va_D A (List.flatten [bMo g o a th hi ac tp ba en at2_14 fl2_6 0 iD iO x_42 fm fk fa fc ft ff fb fi]) := hD
          have hP : va_P g.1 vwCl (List.flatten [bMo g o a th hi ac tp ba en at2_14 fl2_6 0 iD iO x_42 fm fk fa fc ft ff fb fi]) H := hP
          have hD : va_D A (List.flatten [bMo g o a th hi ac tp ba en at2_14 fl2_6 0 iD iO x_42 fm fk fa fc ft ff fb fi]) := hD
          exact mret_v hx hb hr hlocks hS (Nat.le_of_ble_eq_true rfl) (Nat.le_of_ble_eq_true rfl) dX12_lawLine_99 (at2_14, fl2_6, x_42) rfl (show (0 ≤ at2_14.toInt ∧ at2_14.toInt ≤ en.toInt + 7 - 0) ∧ (tA.toInt ≤ at2_14.toInt) ∧ (-1 ≤ fl2_6.toInt) from ⟨(by first | assumption | omega | decide | exact rfl | exact zb01 (by omega) | exact Or.inl (by decide) | exact Or.inr (by first | omega | decide)), (by first | assumption | omega | decide | exact rfl | exact zb01 (by omega) | exact Or.inl (by decide) | exact Or.inr (by first | omega | decide)), (by first | assumption | omega | decide | exact rfl | exact zb01 (by omega) | exact Or.inl (by decide) | exact Or.inr (by first | omega | decide))⟩) hP hD
    · skip
      have c43 : ¬ fl2_6.toInt = (-1) := zne cb9 rfl (by decide)
      have hP : va_P g.1 vwCl (List.flatten [bMo g o a th hi ac tp ba en at2_5 fl2_6 0 iD iO tU fm fk fa fc ft ff fb fi]) H := hP
      have hD : va_D A (List.flatten [bMo g o a th hi ac tp ba en at2_5 fl2_6 0 iD iO tU fm fk fa fc ft ff fb fi]) := hD
      exact mret_v hx hb hr hlocks hS (Nat.le_of_ble_eq_true rfl) (Nat.le_of_ble_eq_true rfl) dX12_lawLine_45 (at2_5, fl2_6, tU) rfl (show (0 ≤ at2_5.toInt ∧ at2_5.toInt ≤ en.toInt + 7 - 0) ∧ (tA.toInt ≤ at2_5.toInt) ∧ (-1 ≤ fl2_6.toInt) from ⟨(by first | assumption | omega | decide | exact rfl | exact zb01 (by omega) | exact Or.inl (by decide) | exact Or.inr (by first | omega | decide)), (by first | assumption | omega | decide | exact rfl | exact zb01 (by omega) | exact Or.inl (by decide) | exact Or.inr (by first | omega | decide)), (by first | assumption | omega | decide | exact rfl | exact zb01 (by omega) | exact Or.inl (by decide) | exact Or.inr (by first | omega | decide))⟩) hP hD
  · skip
    refine lv_istore_n (lv' := [(1, .int 0), (0, .ref o)]) hx hb dX12_lawLine_6 rfl hl (by decide) rfl (fun ls hl => ?_)
    refine lv_iload_n hx hb dX12_lawLine_7 rfl (lv_at hl 0 rfl) ?_
    refine lv_if_ne (tgt := 29) hx hb dX12_lawLine_8 (by decide) (fun c44 => absurd (by decide) c44) (fun _ => ?_)
    refine lv_aload_n hx hb dX12_lawLine_11 rfl (lv_at hl 1 rfl) ?_
    refine va_ldcS (q := g.2 106) hx hb hown (zra48 hT.2.1) dX12_lawLine_12 ?_
    refine mcallV' (g := g) (q0 := 0) (ci := 10) (As := [.ref (g.2 106)]) (rest := []) St hK hT hA hP hD hS hl.1 [0] [] rfl rfl rfl (m_has l g o a th hi ac tp ba en at2_1 fl 0 iD iO tU fm fk fa fc ft ff fb fi (g.2 106) 48 zqa48 (by first | assumption | omega | decide | exact Or.inl (by decide) | exact Or.inr (by decide)) (⟨hen.1, hen.2⟩) (by first | assumption | omega | decide | exact Or.inl (by decide) | exact Or.inr (by decide)) (by first | assumption | omega | decide | exact Or.inl (by decide) | exact Or.inr (by decide)) (by decide) rfl zla48 zna48) (cwV 1 hts (zgL (zl4 k898 k899 k900 k837) k888) rfl rfl rfl (by decide +kernel) ⟨Nat.le_of_ble_eq_true rfl, Nat.le_of_ble_eq_true rfl⟩) rfl rfl rfl rfl (Nat.le_of_ble_eq_true rfl) dX12_lawLine_14 ⟨(Nat.le_of_ble_eq_true rfl), (Nat.le_of_ble_eq_true rfl)⟩ (fun u_ H locs hq47 hP hD hS => ?_)
    obtain ⟨at2_45, r_46⟩ := u_
    replace hq47 : (0 ≤ at2_45.toInt ∧ at2_45.toInt ≤ en.toInt + 7 - (0 : Int32).toInt) ∧ (at2_1.toInt ≤ at2_45.toInt) ∧ (r_46 = 1 ∧ at2_1.toInt < at2_45.toInt ∧ at2_45.toInt ≤ en.toInt ∨ r_46 = 0) := hq47
    have hP : va_P g.1 vwCl (List.flatten [bMo g o a th hi ac tp ba en at2_45 fl 0 iD iO tU fm fk fa fc ft ff fb fi]) H := hP
    have hD : va_D A (List.flatten [bMo g o a th hi ac tp ba en at2_45 fl 0 iD iO tU fm fk fa fc ft ff fb fi]) := hD
    refine W.widen (k := 0) (n := 0) (Nat.le_of_ble_eq_true rfl) (Nat.le_of_ble_eq_true rfl) ?_
    refine W.eq (g2 := F0 m 17 ls [.int r_46]) rfl ?_
    obtain ⟨hq47_0, hq47_1, hq47_2⟩ := hq47
    rcases hq47_2 with ⟨rfl, hq47_k⟩ | rfl
    · skip
      refine lv_if_ne (tgt := 29) hx hb dX12_lawLine_17 (by decide) (fun _ => ?_) (fun c48 => absurd c48 (by decide))
      refine lv_aload_n hx hb dX12_lawLine_29 rfl (lv_at hl 1 rfl) ?_
      refine lv_iconst (v := 0) hx hb dX12_lawLine_30 (by decide) ?_
      refine lv_bipush (v := 30) hx hb dX12_lawLine_31 (by decide) ?_
      have hL30 : (30 : Int32).toInt = 30 := by decide
      refine mcallV' (g := g) (q0 := 0) (ci := 10) (As := [.int 0, .int 30]) (rest := []) St hK hT hA hP hD hS hl.1 [0] [] rfl rfl rfl (m_figures l g o a th hi ac tp ba en at2_45 fl 0 iD iO tU fm fk fa fc ft ff fb fi 0 30 (by first | assumption | omega | decide | exact Or.inl (by decide) | exact Or.inr (by decide)) (⟨hen.1, hen.2⟩) (by first | assumption | omega | decide | exact Or.inl (by decide) | exact Or.inr (by decide)) (by first | assumption | omega | decide | exact Or.inl (by decide) | exact Or.inr (by decide)) (by decide)) (cwV 2 hts (zgL (zl4 k901 k902 k903 k837) k897) rfl rfl rfl (by decide +kernel) ⟨Nat.le_of_ble_eq_true rfl, Nat.le_of_ble_eq_true rfl⟩) rfl rfl rfl rfl (Nat.le_of_ble_eq_true rfl) dX12_lawLine_33 ⟨(Nat.le_of_ble_eq_true rfl), (Nat.le_of_ble_eq_true rfl)⟩ (fun u_ H locs hq52 hP hD hS => ?_)
      obtain ⟨at2_49, fl2_50, r_51⟩ := u_
      replace hq52 : (0 ≤ at2_49.toInt ∧ at2_49.toInt ≤ en.toInt + 7 - (0 : Int32).toInt) ∧ (at2_45.toInt ≤ at2_49.toInt) ∧ (-1 ≤ fl2_50.toInt) ∧ (zImp (fl2_50.toInt = -1) (fl.toInt = -1 ∧ (0 : Int32).toInt ≤ r_51.toInt ∧ r_51.toInt ≤ (30 : Int32).toInt)) := hq52
      have hP : va_P g.1 vwCl (List.flatten [bMo g o a th hi ac tp ba en at2_49 fl2_50 0 iD iO tU fm fk fa fc ft ff fb fi]) H := hP
      have hD : va_D A (List.flatten [bMo g o a th hi ac tp ba en at2_49 fl2_50 0 iD iO tU fm fk fa fc ft ff fb fi]) := hD
      refine W.widen (k := 0) (n := 0) (Nat.le_of_ble_eq_true rfl) (Nat.le_of_ble_eq_true rfl) ?_
      refine W.eq (g2 := F0 m 36 ls [.int r_51]) rfl ?_
      obtain ⟨hq52_0, hq52_1, hq52_2, hq52_3⟩ := hq52
      refine lv_istore_n (lv' := [(2, .int r_51), (1, .int 0), (0, .ref o)]) hx hb dX12_lawLine_36 rfl hl (by decide) rfl (fun ls hl => ?_)
      refine lv_aload_n hx hb dX12_lawLine_37 rfl (lv_at hl 2 rfl) ?_
      refine va_get (D := g.1) (ci := 10) (v := .int fl2_50) (C := RX12) (T := TX12) (N := 20) hx hb hts izRX12 hown hK hP 0 rfl rfl 12 (by decide) (hts _ k820) (fun _ h9 => h9) rfl dX12_lawLine_38 ?_
      refine lv_iconst (v := (-1)) hx hb dX12_lawLine_41 (by decide) ?_
      refine lv_icmp_eq (tgt := 46) hx hb dX12_lawLine_42 (by decide) (fun cb9 => ?_) (fun cb9 => ?_)
      · skip
        have c53 : fl2_50.toInt = (-1) := zeq cb9 rfl (by decide)
        have n54 : fl2_50.toInt ≤ (-1) := Int.le_trans (Int.le_of_eq c53) (Int.le_refl _)
        obtain ⟨e56, w55⟩ := hq52_3 c53
        have w57 : 0 ≤ r_51.toInt ∧ r_51.toInt ≤ 30 := by first | exact w55 | omega
        refine lv_aload_n hx hb dX12_lawLine_46 rfl (lv_at hl 2 rfl) ?_
        refine va_ldcS (q := g.2 108) hx hb hown (zra49 hT.2.1) dX12_lawLine_47 ?_
        refine mcallV' (g := g) (q0 := 0) (ci := 10) (As := [.ref (g.2 108)]) (rest := []) St hK hT hA hP hD hS hl.1 [0] [] rfl rfl rfl (m_has l g o a th hi ac tp ba en at2_49 fl2_50 0 iD iO tU fm fk fa fc ft ff fb fi (g.2 108) 49 zqa49 (by first | assumption | omega | decide | exact Or.inl (by decide) | exact Or.inr (by decide)) (⟨hen.1, hen.2⟩) (by first | assumption | omega | decide | exact Or.inl (by decide) | exact Or.inr (by decide)) (by first | assumption | omega | decide | exact Or.inl (by decide) | exact Or.inr (by decide)) (by decide) rfl zla49 zna49) (cwV 1 hts (zgL (zl4 k898 k899 k900 k837) k888) rfl rfl rfl (by decide +kernel) ⟨Nat.le_of_ble_eq_true rfl, Nat.le_of_ble_eq_true rfl⟩) rfl rfl rfl rfl (Nat.le_of_ble_eq_true rfl) dX12_lawLine_49 ⟨(Nat.le_of_ble_eq_true rfl), (Nat.le_of_ble_eq_true rfl)⟩ (fun u_ H locs hq60 hP hD hS => ?_)
        obtain ⟨at2_58, r_59⟩ := u_
        replace hq60 : (0 ≤ at2_58.toInt ∧ at2_58.toInt ≤ en.toInt + 7 - (0 : Int32).toInt) ∧ (at2_49.toInt ≤ at2_58.toInt) ∧ (r_59 = 1 ∧ at2_49.toInt < at2_58.toInt ∧ at2_58.toInt ≤ en.toInt ∨ r_59 = 0) := hq60
        have hP : va_P g.1 vwCl (List.flatten [bMo g o a th hi ac tp ba en at2_58 fl2_50 0 iD iO tU fm fk fa fc ft ff fb fi]) H := hP
        have hD : va_D A (List.flatten [bMo g o a th hi ac tp ba en at2_58 fl2_50 0 iD iO tU fm fk fa fc ft ff fb fi]) := hD
        refine W.widen (k := 0) (n := 0) (Nat.le_of_ble_eq_true rfl) (Nat.le_of_ble_eq_true rfl) ?_
        refine W.eq (g2 := F0 m 52 ls [.int r_59]) rfl ?_
        obtain ⟨hq60_0, hq60_1, hq60_2⟩ := hq60
        rcases hq60_2 with ⟨rfl, hq60_k⟩ | rfl
        · skip
          refine lv_if_eq (tgt := 62) hx hb dX12_lawLine_52 (by decide) (fun c61 => absurd c61 (by decide)) (fun _ => ?_)
          refine lv_aload_n hx hb dX12_lawLine_55 rfl (lv_at hl 2 rfl) ?_
          refine mcallV' (g := g) (q0 := 0) (ci := 10) (As := []) (rest := []) St hK hT hA hP hD hS hl.1 [0] [] rfl rfl rfl (m_some0 l g o a th hi ac tp ba en at2_58 fl2_50 iD iO tU fm fk fa fc ft ff fb fi (⟨hiD.1, hiD.2⟩) (⟨hiO.1, hiO.2⟩) (by first | assumption | omega | decide | exact Or.inl (by decide) | exact Or.inr (by decide)) (⟨hen.1, hen.2⟩) (by first | assumption | omega | decide | exact Or.inl (by decide) | exact Or.inr (by decide)) (by first | assumption | omega | decide | exact Or.inl (by decide) | exact Or.inr (by decide)) (by first | assumption | omega | decide | exact Or.inl (by decide) | exact Or.inr (by decide))) (cwV 0 hts (zgL (zl4 k953 k954 k955 k837) k957) rfl rfl rfl (by decide +kernel) ⟨Nat.le_of_ble_eq_true rfl, Nat.le_of_ble_eq_true rfl⟩) rfl rfl rfl rfl (Nat.le_of_ble_eq_true rfl) dX12_lawLine_56 ⟨(Nat.le_of_ble_eq_true rfl), (Nat.le_of_ble_eq_true rfl)⟩ (fun u_ H locs hq65 hP hD hS => ?_)
          obtain ⟨at2_62, fl2_63, q_64⟩ := u_
          replace hq65 : (0 ≤ at2_62.toInt ∧ at2_62.toInt ≤ en.toInt + 7 - 0) ∧ (at2_58.toInt ≤ at2_62.toInt) ∧ (-1 ≤ fl2_63.toInt) ∧ (q_64 = 0 ∨ q_64 = 1) := hq65
          have hP : va_P g.1 vwCl (List.flatten [bMo g o a th hi ac tp ba en at2_62 fl2_63 0 iD iO tU fm fk fa fc ft ff fb fi]) H := hP
          have hD : va_D A (List.flatten [bMo g o a th hi ac tp ba en at2_62 fl2_63 0 iD iO tU fm fk fa fc ft ff fb fi]) := hD
          refine W.widen (k := 0) (n := 0) (Nat.le_of_ble_eq_true rfl) (Nat.le_of_ble_eq_true rfl) ?_
          refine W.eq (g2 := F0 m 59 ls [.int q_64]) rfl ?_
          obtain ⟨hq65_0, hq65_1, hq65_2, hq65_3⟩ := hq65
          rcases hq65_3 with rfl | rfl
          · skip
            refine lv_if_eq (tgt := 66) hx hb dX12_lawLine_59 (by decide) (fun _ => ?_) (fun c66 => absurd (by decide) c66)
            refine lv_iconst (v := 0) hx hb dX12_lawLine_66 (by decide) ?_
            refine lv_istore_n (lv' := [(3, .int 0), (2, .int r_51), (1, .int 0), (0, .ref o)]) hx hb dX12_lawLine_67 rfl hl (by decide) rfl (fun ls hl => ?_)
            refine lv_aload_n hx hb dX12_lawLine_68 rfl (lv_at hl 3 rfl) ?_
            refine va_get (D := g.1) (ci := 10) (v := .int fl2_63) (C := RX12) (T := TX12) (N := 20) hx hb hts izRX12 hown hK hP 0 rfl rfl 12 (by decide) (hts _ k820) (fun _ h9 => h9) rfl dX12_lawLine_69 ?_
            refine lv_iconst (v := (-1)) hx hb dX12_lawLine_72 (by decide) ?_
            refine lv_icmp_ne (tgt := 99) hx hb dX12_lawLine_73 (by decide) (fun cb9 => ?_) (fun cb9 => ?_)
            · skip
              have c67 : ¬ fl2_63.toInt = (-1) := zne cb9 rfl (by decide)
              have hP : va_P g.1 vwCl (List.flatten [bMo g o a th hi ac tp ba en at2_62 fl2_63 0 iD iO tU fm fk fa fc ft ff fb fi]) H := hP
              have hD : va_D A (List.flatten [bMo g o a th hi ac tp ba en at2_62 fl2_63 0 iD iO tU fm fk fa fc ft ff fb fi]) := hD
              exact mret_v hx hb hr hlocks hS (Nat.le_of_ble_eq_true rfl) (Nat.le_of_ble_eq_true rfl) dX12_lawLine_99 (at2_62, fl2_63, tU) rfl (show (0 ≤ at2_62.toInt ∧ at2_62.toInt ≤ en.toInt + 7 - 0) ∧ (tA.toInt ≤ at2_62.toInt) ∧ (-1 ≤ fl2_63.toInt) from ⟨(by first | assumption | omega | decide | exact rfl | exact zb01 (by omega) | exact Or.inl (by decide) | exact Or.inr (by first | omega | decide)), (by first | assumption | omega | decide | exact rfl | exact zb01 (by omega) | exact Or.inl (by decide) | exact Or.inr (by first | omega | decide)), (by first | assumption | omega | decide | exact rfl | exact zb01 (by omega) | exact Or.inl (by decide) | exact Or.inr (by first | omega | decide))⟩) hP hD
            · skip
              have c68 : fl2_63.toInt = (-1) := zeq cb9 rfl (by decide)
              have n69 : fl2_63.toInt ≤ (-1) := Int.le_trans (Int.le_of_eq c68) (Int.le_refl _)
              refine lv_iload_n hx hb dX12_lawLine_76 rfl (lv_at hl 0 rfl) ?_
              refine lv_if_eq (tgt := 99) hx hb dX12_lawLine_77 (by decide) (fun _ => ?_) (fun c70 => absurd (by decide) c70)
              have hP : va_P g.1 vwCl (List.flatten [bMo g o a th hi ac tp ba en at2_62 fl2_63 0 iD iO tU fm fk fa fc ft ff fb fi]) H := hP
              have hD : va_D A (List.flatten [bMo g o a th hi ac tp ba en at2_62 fl2_63 0 iD iO tU fm fk fa fc ft ff fb fi]) := hD
              exact mret_v hx hb hr hlocks hS (Nat.le_of_ble_eq_true rfl) (Nat.le_of_ble_eq_true rfl) dX12_lawLine_99 (at2_62, fl2_63, tU) rfl (show (0 ≤ at2_62.toInt ∧ at2_62.toInt ≤ en.toInt + 7 - 0) ∧ (tA.toInt ≤ at2_62.toInt) ∧ (-1 ≤ fl2_63.toInt) from ⟨(by first | assumption | omega | decide | exact rfl | exact zb01 (by omega) | exact Or.inl (by decide) | exact Or.inr (by first | omega | decide)), (by first | assumption | omega | decide | exact rfl | exact zb01 (by omega) | exact Or.inl (by decide) | exact Or.inr (by first | omega | decide)), (by first | assumption | omega | decide | exact rfl | exact zb01 (by omega) | exact Or.inl (by decide) | exact Or.inr (by first | omega | decide))⟩) hP hD
          · skip
            refine lv_if_eq (tgt := 66) hx hb dX12_lawLine_59 (by decide) (fun c71 => absurd c71 (by decide)) (fun _ => ?_)
            refine lv_iconst (v := 1) hx hb dX12_lawLine_62 (by decide) ?_
            refine lv_goto (tgt := 67) hx hb dX12_lawLine_63 (by decide) ?_
            refine lv_istore_n (lv' := [(3, .int 1), (2, .int r_51), (1, .int 0), (0, .ref o)]) hx hb dX12_lawLine_67 rfl hl (by decide) rfl (fun ls hl => ?_)
            refine lv_aload_n hx hb dX12_lawLine_68 rfl (lv_at hl 3 rfl) ?_
            refine va_get (D := g.1) (ci := 10) (v := .int fl2_63) (C := RX12) (T := TX12) (N := 20) hx hb hts izRX12 hown hK hP 0 rfl rfl 12 (by decide) (hts _ k820) (fun _ h9 => h9) rfl dX12_lawLine_69 ?_
            refine lv_iconst (v := (-1)) hx hb dX12_lawLine_72 (by decide) ?_
            refine lv_icmp_ne (tgt := 99) hx hb dX12_lawLine_73 (by decide) (fun cb9 => ?_) (fun cb9 => ?_)
            · skip
              have c72 : ¬ fl2_63.toInt = (-1) := zne cb9 rfl (by decide)
              have hP : va_P g.1 vwCl (List.flatten [bMo g o a th hi ac tp ba en at2_62 fl2_63 0 iD iO tU fm fk fa fc ft ff fb fi]) H := hP
              have hD : va_D A (List.flatten [bMo g o a th hi ac tp ba en at2_62 fl2_63 0 iD iO tU fm fk fa fc ft ff fb fi]) := hD
              exact mret_v hx hb hr hlocks hS (Nat.le_of_ble_eq_true rfl) (Nat.le_of_ble_eq_true rfl) dX12_lawLine_99 (at2_62, fl2_63, tU) rfl (show (0 ≤ at2_62.toInt ∧ at2_62.toInt ≤ en.toInt + 7 - 0) ∧ (tA.toInt ≤ at2_62.toInt) ∧ (-1 ≤ fl2_63.toInt) from ⟨(by first | assumption | omega | decide | exact rfl | exact zb01 (by omega) | exact Or.inl (by decide) | exact Or.inr (by first | omega | decide)), (by first | assumption | omega | decide | exact rfl | exact zb01 (by omega) | exact Or.inl (by decide) | exact Or.inr (by first | omega | decide)), (by first | assumption | omega | decide | exact rfl | exact zb01 (by omega) | exact Or.inl (by decide) | exact Or.inr (by first | omega | decide))⟩) hP hD
            · skip
              have c73 : fl2_63.toInt = (-1) := zeq cb9 rfl (by decide)
              have n74 : fl2_63.toInt ≤ (-1) := Int.le_trans (Int.le_of_eq c73) (Int.le_refl _)
              refine lv_iload_n hx hb dX12_lawLine_76 rfl (lv_at hl 0 rfl) ?_
              refine lv_if_eq (tgt := 99) hx hb dX12_lawLine_77 (by decide) (fun c75 => absurd c75 (by decide)) (fun _ => ?_)
              refine lv_aload_n hx hb dX12_lawLine_80 rfl (lv_at hl 3 rfl) ?_
              refine lv_dup hx hb dX12_lawLine_81 rfl ?_
              refine va_get (D := g.1) (ci := 10) (v := .int tU) (C := RX12) (T := TX12) (N := 20) hx hb hts izRX12 hown hK hP 0 rfl rfl 17 (by decide) (hts _ k962) (fun _ h9 => h9) rfl dX12_lawLine_82 ?_
              refine lv_iload_n hx hb dX12_lawLine_85 rfl (lv_at hl 2 rfl) ?_
              refine lv_if_eq (tgt := 93) hx hb dX12_lawLine_86 (by decide) (fun _ => ?_) (fun c76 => absurd (by decide) c76)
              refine lv_iload_n hx hb dX12_lawLine_93 rfl (lv_at hl 1 rfl) ?_
              refine lv_ineg hx hb dX12_lawLine_94 ?_
              refine zgv (zneg (i := r_51.toInt) rfl (by omega)) (fun x_77 hx_77 => ?_)
              refine lv_iadd hx hb dX12_lawLine_95 ?_
              refine zg (fun x_78 => ?_)
              refine va_put (D := g.1) (ci := 10) (v := .int x_78) (ty := .int) (C := RX12) (T := TX12) (N := 20) hx hb hts izRX12 tyX12 tyX12_ok nmX12 hown hK hP hD hS 0 rfl rfl 17 (by decide) (hts _ k962) (fun _ h9 => h9) rfl (by decide +kernel) rfl rfl (Nat.le_of_ble_eq_true rfl) dX12_lawLine_96 (fun H locs hP hD hS => ?_)
              have hP : va_P g.1 vwCl (List.flatten [bMo g o a th hi ac tp ba en at2_62 fl2_63 0 iD iO x_78 fm fk fa fc ft ff fb fi]) H := hP
              have hD : va_D A (List.flatten [bMo g o a th hi ac tp ba en at2_62 fl2_63 0 iD iO x_78 fm fk fa fc ft ff fb fi]) := hD
              have hP : va_P g.1 vwCl (List.flatten [bMo g o a th hi ac tp ba en at2_62 fl2_63 0 iD iO x_78 fm fk fa fc ft ff fb fi]) H := hP
              have hD : va_D A (List.flatten [bMo g o a th hi ac tp ba en at2_62 fl2_63 0 iD iO x_78 fm fk fa fc ft ff fb fi]) := hD
              exact mret_v hx hb hr hlocks hS (Nat.le_of_ble_eq_true rfl) (Nat.le_of_ble_eq_true rfl) dX12_lawLine_99 (at2_62, fl2_63, x_78) rfl (show (0 ≤ at2_62.toInt ∧ at2_62.toInt ≤ en.toInt + 7 - 0) ∧ (tA.toInt ≤ at2_62.toInt) ∧ (-1 ≤ fl2_63.toInt) from ⟨(by first | assumption | omega | decide | exact rfl | exact zb01 (by omega) | exact Or.inl (by decide) | exact Or.inr (by first | omega | decide)), (by first | assumption | omega | decide | exact rfl | exact zb01 (by omega) | exact Or.inl (by decide) | exact Or.inr (by first | omega | decide)), (by first | assumption | omega | decide | exact rfl | exact zb01 (by omega) | exact Or.inl (by decide) | exact Or.inr (by first | omega | decide))⟩) hP hD
        · skip
          refine lv_if_eq (tgt := 62) hx hb dX12_lawLine_52 (by decide) (fun _ => ?_) (fun c79 => absurd (by decide) c79)
          refine lv_iconst (v := 1) hx hb dX12_lawLine_62 (by decide) ?_
          refine lv_goto (tgt := 67) hx hb dX12_lawLine_63 (by decide) ?_
          refine lv_istore_n (lv' := [(3, .int 1), (2, .int r_51), (1, .int 0), (0, .ref o)]) hx hb dX12_lawLine_67 rfl hl (by decide) rfl (fun ls hl => ?_)
          refine lv_aload_n hx hb dX12_lawLine_68 rfl (lv_at hl 3 rfl) ?_
          refine va_get (D := g.1) (ci := 10) (v := .int fl2_50) (C := RX12) (T := TX12) (N := 20) hx hb hts izRX12 hown hK hP 0 rfl rfl 12 (by decide) (hts _ k820) (fun _ h9 => h9) rfl dX12_lawLine_69 ?_
          refine lv_iconst (v := (-1)) hx hb dX12_lawLine_72 (by decide) ?_
          refine lv_icmp_ne (tgt := 99) hx hb dX12_lawLine_73 (by decide) (fun cb9 => ?_) (fun cb9 => ?_)
          · skip
            exact absurd (show ¬ fl2_50.toInt = (-1) from zne cb9 rfl (by decide)) (by omega)
          · skip
            have c81 : fl2_50.toInt = (-1) := zeq cb9 rfl (by decide)
            obtain ⟨e83, w82⟩ := hq52_3 c81
            have w84 : 0 ≤ r_51.toInt ∧ r_51.toInt ≤ 30 := by first | exact w82 | omega
            refine lv_iload_n hx hb dX12_lawLine_76 rfl (lv_at hl 0 rfl) ?_
            refine lv_if_eq (tgt := 99) hx hb dX12_lawLine_77 (by decide) (fun c85 => absurd c85 (by decide)) (fun _ => ?_)
            refine lv_aload_n hx hb dX12_lawLine_80 rfl (lv_at hl 3 rfl) ?_
            refine lv_dup hx hb dX12_lawLine_81 rfl ?_
            refine va_get (D := g.1) (ci := 10) (v := .int tU) (C := RX12) (T := TX12) (N := 20) hx hb hts izRX12 hown hK hP 0 rfl rfl 17 (by decide) (hts _ k962) (fun _ h9 => h9) rfl dX12_lawLine_82 ?_
            refine lv_iload_n hx hb dX12_lawLine_85 rfl (lv_at hl 2 rfl) ?_
            refine lv_if_eq (tgt := 93) hx hb dX12_lawLine_86 (by decide) (fun _ => ?_) (fun c86 => absurd (by decide) c86)
            refine lv_iload_n hx hb dX12_lawLine_93 rfl (lv_at hl 1 rfl) ?_
            refine lv_ineg hx hb dX12_lawLine_94 ?_
            refine zgv (zneg (i := r_51.toInt) rfl (by omega)) (fun x_87 hx_87 => ?_)
            refine lv_iadd hx hb dX12_lawLine_95 ?_
            refine zg (fun x_88 => ?_)
            refine va_put (D := g.1) (ci := 10) (v := .int x_88) (ty := .int) (C := RX12) (T := TX12) (N := 20) hx hb hts izRX12 tyX12 tyX12_ok nmX12 hown hK hP hD hS 0 rfl rfl 17 (by decide) (hts _ k962) (fun _ h9 => h9) rfl (by decide +kernel) rfl rfl (Nat.le_of_ble_eq_true rfl) dX12_lawLine_96 (fun H locs hP hD hS => ?_)
            have hP : va_P g.1 vwCl (List.flatten [bMo g o a th hi ac tp ba en at2_58 fl2_50 0 iD iO x_88 fm fk fa fc ft ff fb fi]) H := hP
            have hD : va_D A (List.flatten [bMo g o a th hi ac tp ba en at2_58 fl2_50 0 iD iO x_88 fm fk fa fc ft ff fb fi]) := hD
            have hP : va_P g.1 vwCl (List.flatten [bMo g o a th hi ac tp ba en at2_58 fl2_50 0 iD iO x_88 fm fk fa fc ft ff fb fi]) H := hP
            have hD : va_D A (List.flatten [bMo g o a th hi ac tp ba en at2_58 fl2_50 0 iD iO x_88 fm fk fa fc ft ff fb fi]) := hD
            exact mret_v hx hb hr hlocks hS (Nat.le_of_ble_eq_true rfl) (Nat.le_of_ble_eq_true rfl) dX12_lawLine_99 (at2_58, fl2_50, x_88) rfl (show (0 ≤ at2_58.toInt ∧ at2_58.toInt ≤ en.toInt + 7 - 0) ∧ (tA.toInt ≤ at2_58.toInt) ∧ (-1 ≤ fl2_50.toInt) from ⟨(by first | assumption | omega | decide | exact rfl | exact zb01 (by omega) | exact Or.inl (by decide) | exact Or.inr (by first | omega | decide)), (by first | assumption | omega | decide | exact rfl | exact zb01 (by omega) | exact Or.inl (by decide) | exact Or.inr (by first | omega | decide)), (by first | assumption | omega | decide | exact rfl | exact zb01 (by omega) | exact Or.inl (by decide) | exact Or.inr (by first | omega | decide))⟩) hP hD
      · skip
        have c89 : ¬ fl2_50.toInt = (-1) := zne cb9 rfl (by decide)
        have hP : va_P g.1 vwCl (List.flatten [bMo g o a th hi ac tp ba en at2_49 fl2_50 0 iD iO tU fm fk fa fc ft ff fb fi]) H := hP
        have hD : va_D A (List.flatten [bMo g o a th hi ac tp ba en at2_49 fl2_50 0 iD iO tU fm fk fa fc ft ff fb fi]) := hD
        exact mret_v hx hb hr hlocks hS (Nat.le_of_ble_eq_true rfl) (Nat.le_of_ble_eq_true rfl) dX12_lawLine_45 (at2_49, fl2_50, tU) rfl (show (0 ≤ at2_49.toInt ∧ at2_49.toInt ≤ en.toInt + 7 - 0) ∧ (tA.toInt ≤ at2_49.toInt) ∧ (-1 ≤ fl2_50.toInt) from ⟨(by first | assumption | omega | decide | exact rfl | exact zb01 (by omega) | exact Or.inl (by decide) | exact Or.inr (by first | omega | decide)), (by first | assumption | omega | decide | exact rfl | exact zb01 (by omega) | exact Or.inl (by decide) | exact Or.inr (by first | omega | decide)), (by first | assumption | omega | decide | exact rfl | exact zb01 (by omega) | exact Or.inl (by decide) | exact Or.inr (by first | omega | decide))⟩) hP hD
    · skip
      refine lv_if_ne (tgt := 29) hx hb dX12_lawLine_17 (by decide) (fun c90 => absurd (by decide) c90) (fun _ => ?_)
      refine lv_aload_n hx hb dX12_lawLine_20 rfl (lv_at hl 1 rfl) ?_
      refine lv_aload_n hx hb dX12_lawLine_21 rfl (lv_at hl 1 rfl) ?_
      refine va_get (D := g.1) (ci := 10) (v := .int at2_45) (C := RX12) (T := TX12) (N := 20) hx hb hts izRX12 hown hK hP 0 rfl rfl 11 (by decide) (hts _ k877) (fun _ h9 => h9) rfl dX12_lawLine_22 ?_
      refine mcallV' (g := g) (q0 := 0) (ci := 10) (As := [.int at2_45]) (rest := []) St hK hT hA hP hD hS hl.1 [0] [] rfl rfl rfl (m_wrong l g o a th hi ac tp ba en at2_45 fl 0 iD iO tU fm fk fa fc ft ff fb fi at2_45 (by first | assumption | omega | decide | exact Or.inl (by decide) | exact Or.inr (by decide)) (by first | assumption | omega | decide | exact Or.inl (by decide) | exact Or.inr (by decide))) (cwV 1 hts (zgL (zl4 k894 k895 k896 k837) k889) rfl rfl rfl (by decide +kernel) ⟨Nat.le_of_ble_eq_true rfl, Nat.le_of_ble_eq_true rfl⟩) rfl rfl rfl rfl (Nat.le_of_ble_eq_true rfl) dX12_lawLine_25 ⟨(Nat.le_of_ble_eq_true rfl), (Nat.le_of_ble_eq_true rfl)⟩ (fun fl2_91 H locs hq92 hP hD hS => ?_)
      replace hq92 : (0 ≤ fl2_91.toInt) := hq92
      have hP : va_P g.1 vwCl (List.flatten [bMo g o a th hi ac tp ba en at2_45 fl2_91 0 iD iO tU fm fk fa fc ft ff fb fi]) H := hP
      have hD : va_D A (List.flatten [bMo g o a th hi ac tp ba en at2_45 fl2_91 0 iD iO tU fm fk fa fc ft ff fb fi]) := hD
      refine W.widen (k := 0) (n := 0) (Nat.le_of_ble_eq_true rfl) (Nat.le_of_ble_eq_true rfl) ?_
      refine W.eq (g2 := F0 m 28 ls []) rfl ?_
      have hP : va_P g.1 vwCl (List.flatten [bMo g o a th hi ac tp ba en at2_45 fl2_91 0 iD iO tU fm fk fa fc ft ff fb fi]) H := hP
      have hD : va_D A (List.flatten [bMo g o a th hi ac tp ba en at2_45 fl2_91 0 iD iO tU fm fk fa fc ft ff fb fi]) := hD
      exact mret_v hx hb hr hlocks hS (Nat.le_of_ble_eq_true rfl) (Nat.le_of_ble_eq_true rfl) dX12_lawLine_28 (at2_45, fl2_91, tU) rfl (show (0 ≤ at2_45.toInt ∧ at2_45.toInt ≤ en.toInt + 7 - 0) ∧ (tA.toInt ≤ at2_45.toInt) ∧ (-1 ≤ fl2_91.toInt) from ⟨(by first | assumption | omega | decide | exact rfl | exact zb01 (by omega) | exact Or.inl (by decide) | exact Or.inr (by first | omega | decide)), (by first | assumption | omega | decide | exact rfl | exact zb01 (by omega) | exact Or.inl (by decide) | exact Or.inr (by first | omega | decide)), (by first | assumption | omega | decide | exact rfl | exact zb01 (by omega) | exact Or.inl (by decide) | exact Or.inr (by first | omega | decide))⟩) hP hD
