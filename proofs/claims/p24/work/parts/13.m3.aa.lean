set_option maxRecDepth 100000 in
set_option maxHeartbeats 4000000 in
theorem m_part (l : Launch) (g : zG) (o : Nat) (a : Nat → Nat) (th : Int32) (hi : Int32) (ac : Int32) (tp : Int32) (ba : Int32) (en : Int32) (tA : Int32) (fl : Int32) (de : Int32) (iD : Int32) (iO : Int32) (tU : Int32) (fm : Nat → Int32) (fk : Nat → Int32) (fa : Nat → Int32) (fc : Nat → Int32) (ft : Nat → Int32) (ff : Nat → Int32) (fb : Nat → Int32) (fi : Nat → Int32) (hba : zBa ba.toInt) (hen : 0 ≤ en.toInt ∧ en.toInt ≤ 400) (htA : 0 ≤ tA.toInt ∧ tA.toInt ≤ en.toInt + 7 - de.toInt) (hfl : -1 ≤ fl.toInt) (hde : 0 ≤ de.toInt ∧ de.toInt ≤ 6) : zM' g l yX12_part (Cond.code yX12_part cX12_part 2 (some .int) :: zB) ({ frames := 5, cells := 0, slots := 0, locals := 108 } : Room) [.ref o] [bMo g o a th hi ac tp ba en tA fl de iD iO tU fm fk fa fc ft ff fb fi] (fun u : Int32 × Int32 × Int32 => (fun (at2 : Int32) (fl2 : Int32) (q : Int32) => some (.int q)) (u.1) (u.2.1) (u.2.2)) (fun u : Int32 × Int32 × Int32 => (fun (at2 : Int32) (fl2 : Int32) (q : Int32) => (0 ≤ at2.toInt ∧ at2.toInt ≤ en.toInt + 7 - de.toInt) ∧ (tA.toInt ≤ at2.toInt) ∧ (-1 ≤ fl2.toInt)) (u.1) (u.2.1) (u.2.2)) (fun u : Int32 × Int32 × Int32 => (fun (at2 : Int32) (fl2 : Int32) (q : Int32) => [bMo g o a th hi ac tp ba en at2 fl2 de iD iO tU fm fk fa fc ft ff fb fi]) (u.1) (u.2.1) (u.2.2)) := by
  refine zM'.of (cc := cX12_part) (maxL := 2) (rt := (some .int)) (by decide) rfl (Nat.le_of_ble_eq_true rfl) ?_
  intro p e s m args below meth c A ls St hr hlocks hin hK hT hA hP hD hS hl
  obtain ⟨hx, hb, hml, hown, hts⟩ := id St
  have hl : lv_has ls 2 [(0, .ref o)] := hl
  refine lv_aload_n hx hb dX12_part_0 rfl (lv_at hl 0 rfl) ?_
  refine va_get (D := g.1) (ci := 10) (v := .int fl) (C := RX12) (T := TX12) (N := 20) hx hb hts izRX12 hown hK hP 0 rfl rfl 12 (by decide) (hts _ k820) (fun _ h9 => h9) rfl dX12_part_1 ?_
  refine lv_iconst (v := (-1)) hx hb dX12_part_4 (by decide) ?_
  refine lv_icmp_eq (tgt := 10) hx hb dX12_part_5 (by decide) (fun cb9 => ?_) (fun cb9 => ?_)
  · skip
    have c1 : fl.toInt = (-1) := zeq cb9 rfl (by decide)
    have n2 : fl.toInt ≤ (-1) := Int.le_trans (Int.le_of_eq c1) (Int.le_refl _)
    refine lv_aload_n hx hb dX12_part_10 rfl (lv_at hl 0 rfl) ?_
    refine mcallV' (g := g) (q0 := 0) (ci := 10) (As := []) (rest := []) St hK hT hA hP hD hS hl.1 [0] [] rfl rfl rfl (m_skip l g o a th hi ac tp ba en tA fl de iD iO tU fm fk fa fc ft ff fb fi hba hen htA hfl hde) (cwV 0 hts (zgL (zl4 k884 k885 k886 k839) k877) rfl rfl rfl (by decide +kernel) ⟨Nat.le_of_ble_eq_true rfl, Nat.le_of_ble_eq_true rfl⟩) rfl rfl rfl rfl (Nat.le_of_ble_eq_true rfl) dX12_part_11 ⟨(Nat.le_of_ble_eq_true rfl), (Nat.le_of_ble_eq_true rfl)⟩ (fun at2_3 H locs hq4 hP hD hS => ?_)
    replace hq4 : (0 ≤ at2_3.toInt ∧ at2_3.toInt ≤ en.toInt + 7 - de.toInt) ∧ (tA.toInt ≤ at2_3.toInt) := hq4
    have hP : va_P g.1 vwCl (List.flatten [bMo g o a th hi ac tp ba en at2_3 fl de iD iO tU fm fk fa fc ft ff fb fi]) H := hP
    have hD : va_D A (List.flatten [bMo g o a th hi ac tp ba en at2_3 fl de iD iO tU fm fk fa fc ft ff fb fi]) := hD
    refine W.widen (k := 0) (n := 0) (Nat.le_of_ble_eq_true rfl) (Nat.le_of_ble_eq_true rfl) ?_
    refine W.eq (g2 := F0 m 14 ls []) rfl ?_
    obtain ⟨hq4_0, hq4_1⟩ := hq4
    refine lv_aload_n hx hb dX12_part_14 rfl (lv_at hl 0 rfl) ?_
    refine va_get (D := g.1) (ci := 10) (v := .int at2_3) (C := RX12) (T := TX12) (N := 20) hx hb hts izRX12 hown hK hP 0 rfl rfl 11 (by decide) (hts _ k878) (fun _ h9 => h9) rfl dX12_part_15 ?_
    refine lv_aload_n hx hb dX12_part_18 rfl (lv_at hl 0 rfl) ?_
    refine va_get (D := g.1) (ci := 10) (v := .int en) (C := RX12) (T := TX12) (N := 20) hx hb hts izRX12 hown hK hP 0 rfl rfl 10 (by decide) (hts _ k879) (fun _ h9 => h9) rfl dX12_part_19 ?_
    refine lv_icmp_ge (tgt := 52) hx hb dX12_part_22 (by decide) (fun cb9 => ?_) (fun cb9 => ?_)
    · skip
      have c5 : en.toInt ≤ at2_3.toInt := zle cb9 rfl rfl
      refine lv_aload_n hx hb dX12_part_52 rfl (lv_at hl 0 rfl) ?_
      refine va_ldcS (q := g.2 86) hx hb hown (zra38 hT.2.1) dX12_part_53 ?_
      refine mcallV' (g := g) (q0 := 0) (ci := 10) (As := [.ref (g.2 86)]) (rest := []) St hK hT hA hP hD hS hl.1 [0] [] rfl rfl rfl (m_has l g o a th hi ac tp ba en at2_3 fl de iD iO tU fm fk fa fc ft ff fb fi (g.2 86) 38 zqa38 hba hen hq4_0 hfl hde rfl zla38 zna38) (cwV 1 hts (zgL (zl4 k899 k900 k901 k839) k889) rfl rfl rfl (by decide +kernel) ⟨Nat.le_of_ble_eq_true rfl, Nat.le_of_ble_eq_true rfl⟩) rfl rfl rfl rfl (Nat.le_of_ble_eq_true rfl) dX12_part_55 ⟨(Nat.le_of_ble_eq_true rfl), (Nat.le_of_ble_eq_true rfl)⟩ (fun u_ H locs hq8 hP hD hS => ?_)
      obtain ⟨at2_6, r_7⟩ := u_
      replace hq8 : (0 ≤ at2_6.toInt ∧ at2_6.toInt ≤ en.toInt + 7 - de.toInt) ∧ (at2_3.toInt ≤ at2_6.toInt) ∧ (r_7 = 1 ∧ at2_3.toInt < at2_6.toInt ∧ at2_6.toInt ≤ en.toInt ∨ r_7 = 0) := hq8
      have hP : va_P g.1 vwCl (List.flatten [bMo g o a th hi ac tp ba en at2_6 fl de iD iO tU fm fk fa fc ft ff fb fi]) H := hP
      have hD : va_D A (List.flatten [bMo g o a th hi ac tp ba en at2_6 fl de iD iO tU fm fk fa fc ft ff fb fi]) := hD
      refine W.widen (k := 0) (n := 0) (Nat.le_of_ble_eq_true rfl) (Nat.le_of_ble_eq_true rfl) ?_
      refine W.eq (g2 := F0 m 58 ls [.int r_7]) rfl ?_
      obtain ⟨hq8_0, hq8_1, hq8_2⟩ := hq8
      rcases hq8_2 with ⟨rfl, hq8_k⟩ | rfl
      · skip
        refine lv_if_eq (tgt := 65) hx hb dX12_part_58 (by decide) (fun c9 => absurd c9 (by decide)) (fun _ => ?_)
        refine lv_iconst (v := 0) hx hb dX12_part_61 (by decide) ?_
        refine lv_goto (tgt := 131) hx hb dX12_part_62 (by decide) ?_
        refine lv_istore_n (lv' := [(1, .int 0), (0, .ref o)]) hx hb dX12_part_131 rfl hl (by decide) rfl (fun ls hl => ?_)
        refine lv_iload_n hx hb dX12_part_132 rfl (lv_at hl 0 rfl) ?_
        refine lv_iconst (v := (-1)) hx hb dX12_part_133 (by decide) ?_
        refine lv_icmp_ne (tgt := 147) hx hb dX12_part_134 (by decide) (fun _ => ?_) (fun c10 => absurd c10 (by decide))
        refine lv_aload_n hx hb dX12_part_147 rfl (lv_at hl 1 rfl) ?_
        refine va_get (D := g.1) (ci := 10) (v := .ref (a 5)) (C := RX12) (T := TX12) (N := 20) hx hb hts izRX12 hown hK hP 0 rfl rfl 14 (by decide) (hts _ k821) (fun _ h9 => h9) rfl dX12_part_148 ?_
        refine lv_iload_n hx hb dX12_part_151 rfl (lv_at hl 0 rfl) ?_
        refine va_iald hx hb hK hP 6 0 rfl rfl (zin rfl) dX12_part_152 ?_
        refine zg (fun x_11 => ?_)
        have hP : va_P g.1 vwCl (List.flatten [bMo g o a th hi ac tp ba en at2_6 fl de iD iO tU fm fk fa fc ft ff fb fi]) H := hP
        have hD : va_D A (List.flatten [bMo g o a th hi ac tp ba en at2_6 fl de iD iO tU fm fk fa fc ft ff fb fi]) := hD
        exact mret_i hx hb hr hlocks hS (Nat.le_of_ble_eq_true rfl) (Nat.le_of_ble_eq_true rfl) dX12_part_153 (at2_6, fl, x_11) rfl (show (0 ≤ at2_6.toInt ∧ at2_6.toInt ≤ en.toInt + 7 - de.toInt) ∧ (tA.toInt ≤ at2_6.toInt) ∧ (-1 ≤ fl.toInt) from ⟨hq8_0, (by first | assumption | omega | decide | exact rfl | exact zb01 (by omega) | exact Or.inl (by decide) | exact Or.inr (by first | omega | decide)), hfl⟩) hP hD
      · skip
        refine lv_if_eq (tgt := 65) hx hb dX12_part_58 (by decide) (fun _ => ?_) (fun c12 => absurd (by decide) c12)
        refine lv_aload_n hx hb dX12_part_65 rfl (lv_at hl 0 rfl) ?_
        refine va_ldcS (q := g.2 88) hx hb hown (zra39 hT.2.1) dX12_part_66 ?_
        refine mcallV' (g := g) (q0 := 0) (ci := 10) (As := [.ref (g.2 88)]) (rest := []) St hK hT hA hP hD hS hl.1 [0] [] rfl rfl rfl (m_has l g o a th hi ac tp ba en at2_6 fl de iD iO tU fm fk fa fc ft ff fb fi (g.2 88) 39 zqa39 hba hen hq8_0 hfl hde rfl zla39 zna39) (cwV 1 hts (zgL (zl4 k899 k900 k901 k839) k889) rfl rfl rfl (by decide +kernel) ⟨Nat.le_of_ble_eq_true rfl, Nat.le_of_ble_eq_true rfl⟩) rfl rfl rfl rfl (Nat.le_of_ble_eq_true rfl) dX12_part_68 ⟨(Nat.le_of_ble_eq_true rfl), (Nat.le_of_ble_eq_true rfl)⟩ (fun u_ H locs hq15 hP hD hS => ?_)
        obtain ⟨at2_13, r_14⟩ := u_
        replace hq15 : (0 ≤ at2_13.toInt ∧ at2_13.toInt ≤ en.toInt + 7 - de.toInt) ∧ (at2_6.toInt ≤ at2_13.toInt) ∧ (r_14 = 1 ∧ at2_6.toInt < at2_13.toInt ∧ at2_13.toInt ≤ en.toInt ∨ r_14 = 0) := hq15
        have hP : va_P g.1 vwCl (List.flatten [bMo g o a th hi ac tp ba en at2_13 fl de iD iO tU fm fk fa fc ft ff fb fi]) H := hP
        have hD : va_D A (List.flatten [bMo g o a th hi ac tp ba en at2_13 fl de iD iO tU fm fk fa fc ft ff fb fi]) := hD
        refine W.widen (k := 0) (n := 0) (Nat.le_of_ble_eq_true rfl) (Nat.le_of_ble_eq_true rfl) ?_
        refine W.eq (g2 := F0 m 71 ls [.int r_14]) rfl ?_
        obtain ⟨hq15_0, hq15_1, hq15_2⟩ := hq15
        rcases hq15_2 with ⟨rfl, hq15_k⟩ | rfl
        · skip
          refine lv_if_eq (tgt := 78) hx hb dX12_part_71 (by decide) (fun c16 => absurd c16 (by decide)) (fun _ => ?_)
          refine lv_iconst (v := 1) hx hb dX12_part_74 (by decide) ?_
          refine lv_goto (tgt := 131) hx hb dX12_part_75 (by decide) ?_
          refine lv_istore_n (lv' := [(1, .int 1), (0, .ref o)]) hx hb dX12_part_131 rfl hl (by decide) rfl (fun ls hl => ?_)
          refine lv_iload_n hx hb dX12_part_132 rfl (lv_at hl 0 rfl) ?_
          refine lv_iconst (v := (-1)) hx hb dX12_part_133 (by decide) ?_
          refine lv_icmp_ne (tgt := 147) hx hb dX12_part_134 (by decide) (fun _ => ?_) (fun c17 => absurd c17 (by decide))
          refine lv_aload_n hx hb dX12_part_147 rfl (lv_at hl 1 rfl) ?_
          refine va_get (D := g.1) (ci := 10) (v := .ref (a 5)) (C := RX12) (T := TX12) (N := 20) hx hb hts izRX12 hown hK hP 0 rfl rfl 14 (by decide) (hts _ k821) (fun _ h9 => h9) rfl dX12_part_148 ?_
          refine lv_iload_n hx hb dX12_part_151 rfl (lv_at hl 0 rfl) ?_
          refine va_iald hx hb hK hP 6 0 rfl rfl (zin rfl) dX12_part_152 ?_
          refine zg (fun x_18 => ?_)
          have hP : va_P g.1 vwCl (List.flatten [bMo g o a th hi ac tp ba en at2_13 fl de iD iO tU fm fk fa fc ft ff fb fi]) H := hP
          have hD : va_D A (List.flatten [bMo g o a th hi ac tp ba en at2_13 fl de iD iO tU fm fk fa fc ft ff fb fi]) := hD
          exact mret_i hx hb hr hlocks hS (Nat.le_of_ble_eq_true rfl) (Nat.le_of_ble_eq_true rfl) dX12_part_153 (at2_13, fl, x_18) rfl (show (0 ≤ at2_13.toInt ∧ at2_13.toInt ≤ en.toInt + 7 - de.toInt) ∧ (tA.toInt ≤ at2_13.toInt) ∧ (-1 ≤ fl.toInt) from ⟨hq15_0, (by first | assumption | omega | decide | exact rfl | exact zb01 (by omega) | exact Or.inl (by decide) | exact Or.inr (by first | omega | decide)), hfl⟩) hP hD
        · skip
          refine lv_if_eq (tgt := 78) hx hb dX12_part_71 (by decide) (fun _ => ?_) (fun c19 => absurd (by decide) c19)
          refine lv_aload_n hx hb dX12_part_78 rfl (lv_at hl 0 rfl) ?_
          refine va_ldcS (q := g.2 90) hx hb hown (zra40 hT.2.1) dX12_part_79 ?_
          refine mcallV' (g := g) (q0 := 0) (ci := 10) (As := [.ref (g.2 90)]) (rest := []) St hK hT hA hP hD hS hl.1 [0] [] rfl rfl rfl (m_has l g o a th hi ac tp ba en at2_13 fl de iD iO tU fm fk fa fc ft ff fb fi (g.2 90) 40 zqa40 hba hen hq15_0 hfl hde rfl zla40 zna40) (cwV 1 hts (zgL (zl4 k899 k900 k901 k839) k889) rfl rfl rfl (by decide +kernel) ⟨Nat.le_of_ble_eq_true rfl, Nat.le_of_ble_eq_true rfl⟩) rfl rfl rfl rfl (Nat.le_of_ble_eq_true rfl) dX12_part_81 ⟨(Nat.le_of_ble_eq_true rfl), (Nat.le_of_ble_eq_true rfl)⟩ (fun u_ H locs hq22 hP hD hS => ?_)
          obtain ⟨at2_20, r_21⟩ := u_
          replace hq22 : (0 ≤ at2_20.toInt ∧ at2_20.toInt ≤ en.toInt + 7 - de.toInt) ∧ (at2_13.toInt ≤ at2_20.toInt) ∧ (r_21 = 1 ∧ at2_13.toInt < at2_20.toInt ∧ at2_20.toInt ≤ en.toInt ∨ r_21 = 0) := hq22
          have hP : va_P g.1 vwCl (List.flatten [bMo g o a th hi ac tp ba en at2_20 fl de iD iO tU fm fk fa fc ft ff fb fi]) H := hP
          have hD : va_D A (List.flatten [bMo g o a th hi ac tp ba en at2_20 fl de iD iO tU fm fk fa fc ft ff fb fi]) := hD
          refine W.widen (k := 0) (n := 0) (Nat.le_of_ble_eq_true rfl) (Nat.le_of_ble_eq_true rfl) ?_
          refine W.eq (g2 := F0 m 84 ls [.int r_21]) rfl ?_
          obtain ⟨hq22_0, hq22_1, hq22_2⟩ := hq22
          rcases hq22_2 with ⟨rfl, hq22_k⟩ | rfl
          · skip
            refine lv_if_eq (tgt := 91) hx hb dX12_part_84 (by decide) (fun c23 => absurd c23 (by decide)) (fun _ => ?_)
            refine lv_iconst (v := 2) hx hb dX12_part_87 (by decide) ?_
            refine lv_goto (tgt := 131) hx hb dX12_part_88 (by decide) ?_
            refine lv_istore_n (lv' := [(1, .int 2), (0, .ref o)]) hx hb dX12_part_131 rfl hl (by decide) rfl (fun ls hl => ?_)
            refine lv_iload_n hx hb dX12_part_132 rfl (lv_at hl 0 rfl) ?_
            refine lv_iconst (v := (-1)) hx hb dX12_part_133 (by decide) ?_
            refine lv_icmp_ne (tgt := 147) hx hb dX12_part_134 (by decide) (fun _ => ?_) (fun c24 => absurd c24 (by decide))
            refine lv_aload_n hx hb dX12_part_147 rfl (lv_at hl 1 rfl) ?_
            refine va_get (D := g.1) (ci := 10) (v := .ref (a 5)) (C := RX12) (T := TX12) (N := 20) hx hb hts izRX12 hown hK hP 0 rfl rfl 14 (by decide) (hts _ k821) (fun _ h9 => h9) rfl dX12_part_148 ?_
            refine lv_iload_n hx hb dX12_part_151 rfl (lv_at hl 0 rfl) ?_
            refine va_iald hx hb hK hP 6 0 rfl rfl (zin rfl) dX12_part_152 ?_
            refine zg (fun x_25 => ?_)
            have hP : va_P g.1 vwCl (List.flatten [bMo g o a th hi ac tp ba en at2_20 fl de iD iO tU fm fk fa fc ft ff fb fi]) H := hP
            have hD : va_D A (List.flatten [bMo g o a th hi ac tp ba en at2_20 fl de iD iO tU fm fk fa fc ft ff fb fi]) := hD
            exact mret_i hx hb hr hlocks hS (Nat.le_of_ble_eq_true rfl) (Nat.le_of_ble_eq_true rfl) dX12_part_153 (at2_20, fl, x_25) rfl (show (0 ≤ at2_20.toInt ∧ at2_20.toInt ≤ en.toInt + 7 - de.toInt) ∧ (tA.toInt ≤ at2_20.toInt) ∧ (-1 ≤ fl.toInt) from ⟨hq22_0, (by first | assumption | omega | decide | exact rfl | exact zb01 (by omega) | exact Or.inl (by decide) | exact Or.inr (by first | omega | decide)), hfl⟩) hP hD
          · skip
            refine lv_if_eq (tgt := 91) hx hb dX12_part_84 (by decide) (fun _ => ?_) (fun c26 => absurd (by decide) c26)
            refine lv_aload_n hx hb dX12_part_91 rfl (lv_at hl 0 rfl) ?_
            refine va_ldcS (q := g.2 92) hx hb hown (zra41 hT.2.1) dX12_part_92 ?_
            refine mcallV' (g := g) (q0 := 0) (ci := 10) (As := [.ref (g.2 92)]) (rest := []) St hK hT hA hP hD hS hl.1 [0] [] rfl rfl rfl (m_has l g o a th hi ac tp ba en at2_20 fl de iD iO tU fm fk fa fc ft ff fb fi (g.2 92) 41 zqa41 hba hen hq22_0 hfl hde rfl zla41 zna41) (cwV 1 hts (zgL (zl4 k899 k900 k901 k839) k889) rfl rfl rfl (by decide +kernel) ⟨Nat.le_of_ble_eq_true rfl, Nat.le_of_ble_eq_true rfl⟩) rfl rfl rfl rfl (Nat.le_of_ble_eq_true rfl) dX12_part_94 ⟨(Nat.le_of_ble_eq_true rfl), (Nat.le_of_ble_eq_true rfl)⟩ (fun u_ H locs hq29 hP hD hS => ?_)
            obtain ⟨at2_27, r_28⟩ := u_
            replace hq29 : (0 ≤ at2_27.toInt ∧ at2_27.toInt ≤ en.toInt + 7 - de.toInt) ∧ (at2_20.toInt ≤ at2_27.toInt) ∧ (r_28 = 1 ∧ at2_20.toInt < at2_27.toInt ∧ at2_27.toInt ≤ en.toInt ∨ r_28 = 0) := hq29
            have hP : va_P g.1 vwCl (List.flatten [bMo g o a th hi ac tp ba en at2_27 fl de iD iO tU fm fk fa fc ft ff fb fi]) H := hP
            have hD : va_D A (List.flatten [bMo g o a th hi ac tp ba en at2_27 fl de iD iO tU fm fk fa fc ft ff fb fi]) := hD
            refine W.widen (k := 0) (n := 0) (Nat.le_of_ble_eq_true rfl) (Nat.le_of_ble_eq_true rfl) ?_
            refine W.eq (g2 := F0 m 97 ls [.int r_28]) rfl ?_
            obtain ⟨hq29_0, hq29_1, hq29_2⟩ := hq29
            rcases hq29_2 with ⟨rfl, hq29_k⟩ | rfl
            · skip
              refine lv_if_eq (tgt := 104) hx hb dX12_part_97 (by decide) (fun c30 => absurd c30 (by decide)) (fun _ => ?_)
              refine lv_iconst (v := 3) hx hb dX12_part_100 (by decide) ?_
              refine lv_goto (tgt := 131) hx hb dX12_part_101 (by decide) ?_
              refine lv_istore_n (lv' := [(1, .int 3), (0, .ref o)]) hx hb dX12_part_131 rfl hl (by decide) rfl (fun ls hl => ?_)
              refine lv_iload_n hx hb dX12_part_132 rfl (lv_at hl 0 rfl) ?_
              refine lv_iconst (v := (-1)) hx hb dX12_part_133 (by decide) ?_
              refine lv_icmp_ne (tgt := 147) hx hb dX12_part_134 (by decide) (fun _ => ?_) (fun c31 => absurd c31 (by decide))
              refine lv_aload_n hx hb dX12_part_147 rfl (lv_at hl 1 rfl) ?_
              refine va_get (D := g.1) (ci := 10) (v := .ref (a 5)) (C := RX12) (T := TX12) (N := 20) hx hb hts izRX12 hown hK hP 0 rfl rfl 14 (by decide) (hts _ k821) (fun _ h9 => h9) rfl dX12_part_148 ?_
              refine lv_iload_n hx hb dX12_part_151 rfl (lv_at hl 0 rfl) ?_
              refine va_iald hx hb hK hP 6 0 rfl rfl (zin rfl) dX12_part_152 ?_
              refine zg (fun x_32 => ?_)
              have hP : va_P g.1 vwCl (List.flatten [bMo g o a th hi ac tp ba en at2_27 fl de iD iO tU fm fk fa fc ft ff fb fi]) H := hP
              have hD : va_D A (List.flatten [bMo g o a th hi ac tp ba en at2_27 fl de iD iO tU fm fk fa fc ft ff fb fi]) := hD
              exact mret_i hx hb hr hlocks hS (Nat.le_of_ble_eq_true rfl) (Nat.le_of_ble_eq_true rfl) dX12_part_153 (at2_27, fl, x_32) rfl (show (0 ≤ at2_27.toInt ∧ at2_27.toInt ≤ en.toInt + 7 - de.toInt) ∧ (tA.toInt ≤ at2_27.toInt) ∧ (-1 ≤ fl.toInt) from ⟨hq29_0, (by first | assumption | omega | decide | exact rfl | exact zb01 (by omega) | exact Or.inl (by decide) | exact Or.inr (by first | omega | decide)), hfl⟩) hP hD
            · skip
              refine lv_if_eq (tgt := 104) hx hb dX12_part_97 (by decide) (fun _ => ?_) (fun c33 => absurd (by decide) c33)
              refine lv_aload_n hx hb dX12_part_104 rfl (lv_at hl 0 rfl) ?_
              refine va_ldcS (q := g.2 94) hx hb hown (zra42 hT.2.1) dX12_part_105 ?_
              refine mcallV' (g := g) (q0 := 0) (ci := 10) (As := [.ref (g.2 94)]) (rest := []) St hK hT hA hP hD hS hl.1 [0] [] rfl rfl rfl (m_has l g o a th hi ac tp ba en at2_27 fl de iD iO tU fm fk fa fc ft ff fb fi (g.2 94) 42 zqa42 hba hen hq29_0 hfl hde rfl zla42 zna42) (cwV 1 hts (zgL (zl4 k899 k900 k901 k839) k889) rfl rfl rfl (by decide +kernel) ⟨Nat.le_of_ble_eq_true rfl, Nat.le_of_ble_eq_true rfl⟩) rfl rfl rfl rfl (Nat.le_of_ble_eq_true rfl) dX12_part_107 ⟨(Nat.le_of_ble_eq_true rfl), (Nat.le_of_ble_eq_true rfl)⟩ (fun u_ H locs hq36 hP hD hS => ?_)
              obtain ⟨at2_34, r_35⟩ := u_
              replace hq36 : (0 ≤ at2_34.toInt ∧ at2_34.toInt ≤ en.toInt + 7 - de.toInt) ∧ (at2_27.toInt ≤ at2_34.toInt) ∧ (r_35 = 1 ∧ at2_27.toInt < at2_34.toInt ∧ at2_34.toInt ≤ en.toInt ∨ r_35 = 0) := hq36
              have hP : va_P g.1 vwCl (List.flatten [bMo g o a th hi ac tp ba en at2_34 fl de iD iO tU fm fk fa fc ft ff fb fi]) H := hP
              have hD : va_D A (List.flatten [bMo g o a th hi ac tp ba en at2_34 fl de iD iO tU fm fk fa fc ft ff fb fi]) := hD
              refine W.widen (k := 0) (n := 0) (Nat.le_of_ble_eq_true rfl) (Nat.le_of_ble_eq_true rfl) ?_
              refine W.eq (g2 := F0 m 110 ls [.int r_35]) rfl ?_
              obtain ⟨hq36_0, hq36_1, hq36_2⟩ := hq36
              rcases hq36_2 with ⟨rfl, hq36_k⟩ | rfl
              · skip
                refine lv_if_eq (tgt := 117) hx hb dX12_part_110 (by decide) (fun c37 => absurd c37 (by decide)) (fun _ => ?_)
                refine lv_iconst (v := 4) hx hb dX12_part_113 (by decide) ?_
                refine lv_goto (tgt := 131) hx hb dX12_part_114 (by decide) ?_
                refine lv_istore_n (lv' := [(1, .int 4), (0, .ref o)]) hx hb dX12_part_131 rfl hl (by decide) rfl (fun ls hl => ?_)
                refine lv_iload_n hx hb dX12_part_132 rfl (lv_at hl 0 rfl) ?_
                refine lv_iconst (v := (-1)) hx hb dX12_part_133 (by decide) ?_
                refine lv_icmp_ne (tgt := 147) hx hb dX12_part_134 (by decide) (fun _ => ?_) (fun c38 => absurd c38 (by decide))
                refine lv_aload_n hx hb dX12_part_147 rfl (lv_at hl 1 rfl) ?_
                refine va_get (D := g.1) (ci := 10) (v := .ref (a 5)) (C := RX12) (T := TX12) (N := 20) hx hb hts izRX12 hown hK hP 0 rfl rfl 14 (by decide) (hts _ k821) (fun _ h9 => h9) rfl dX12_part_148 ?_
                refine lv_iload_n hx hb dX12_part_151 rfl (lv_at hl 0 rfl) ?_
                refine va_iald hx hb hK hP 6 0 rfl rfl (zin rfl) dX12_part_152 ?_
                refine zg (fun x_39 => ?_)
                have hP : va_P g.1 vwCl (List.flatten [bMo g o a th hi ac tp ba en at2_34 fl de iD iO tU fm fk fa fc ft ff fb fi]) H := hP
                have hD : va_D A (List.flatten [bMo g o a th hi ac tp ba en at2_34 fl de iD iO tU fm fk fa fc ft ff fb fi]) := hD
                exact mret_i hx hb hr hlocks hS (Nat.le_of_ble_eq_true rfl) (Nat.le_of_ble_eq_true rfl) dX12_part_153 (at2_34, fl, x_39) rfl (show (0 ≤ at2_34.toInt ∧ at2_34.toInt ≤ en.toInt + 7 - de.toInt) ∧ (tA.toInt ≤ at2_34.toInt) ∧ (-1 ≤ fl.toInt) from ⟨hq36_0, (by first | assumption | omega | decide | exact rfl | exact zb01 (by omega) | exact Or.inl (by decide) | exact Or.inr (by first | omega | decide)), hfl⟩) hP hD
              · skip
                refine lv_if_eq (tgt := 117) hx hb dX12_part_110 (by decide) (fun _ => ?_) (fun c40 => absurd (by decide) c40)
                refine lv_aload_n hx hb dX12_part_117 rfl (lv_at hl 0 rfl) ?_
                refine va_ldcS (q := g.2 84) hx hb hown (zra37 hT.2.1) dX12_part_118 ?_
                refine mcallV' (g := g) (q0 := 0) (ci := 10) (As := [.ref (g.2 84)]) (rest := []) St hK hT hA hP hD hS hl.1 [0] [] rfl rfl rfl (m_has l g o a th hi ac tp ba en at2_34 fl de iD iO tU fm fk fa fc ft ff fb fi (g.2 84) 37 zqa37 hba hen hq36_0 hfl hde rfl zla37 zna37) (cwV 1 hts (zgL (zl4 k899 k900 k901 k839) k889) rfl rfl rfl (by decide +kernel) ⟨Nat.le_of_ble_eq_true rfl, Nat.le_of_ble_eq_true rfl⟩) rfl rfl rfl rfl (Nat.le_of_ble_eq_true rfl) dX12_part_120 ⟨(Nat.le_of_ble_eq_true rfl), (Nat.le_of_ble_eq_true rfl)⟩ (fun u_ H locs hq43 hP hD hS => ?_)
                obtain ⟨at2_41, r_42⟩ := u_
                replace hq43 : (0 ≤ at2_41.toInt ∧ at2_41.toInt ≤ en.toInt + 7 - de.toInt) ∧ (at2_34.toInt ≤ at2_41.toInt) ∧ (r_42 = 1 ∧ at2_34.toInt < at2_41.toInt ∧ at2_41.toInt ≤ en.toInt ∨ r_42 = 0) := hq43
                have hP : va_P g.1 vwCl (List.flatten [bMo g o a th hi ac tp ba en at2_41 fl de iD iO tU fm fk fa fc ft ff fb fi]) H := hP
                have hD : va_D A (List.flatten [bMo g o a th hi ac tp ba en at2_41 fl de iD iO tU fm fk fa fc ft ff fb fi]) := hD
                refine W.widen (k := 0) (n := 0) (Nat.le_of_ble_eq_true rfl) (Nat.le_of_ble_eq_true rfl) ?_
                refine W.eq (g2 := F0 m 123 ls [.int r_42]) rfl ?_
                obtain ⟨hq43_0, hq43_1, hq43_2⟩ := hq43
                rcases hq43_2 with ⟨rfl, hq43_k⟩ | rfl
                · skip
                  refine lv_if_eq (tgt := 130) hx hb dX12_part_123 (by decide) (fun c44 => absurd c44 (by decide)) (fun _ => ?_)
                  refine lv_iconst (v := 5) hx hb dX12_part_126 (by decide) ?_
                  refine lv_goto (tgt := 131) hx hb dX12_part_127 (by decide) ?_
                  refine lv_istore_n (lv' := [(1, .int 5), (0, .ref o)]) hx hb dX12_part_131 rfl hl (by decide) rfl (fun ls hl => ?_)
                  refine lv_iload_n hx hb dX12_part_132 rfl (lv_at hl 0 rfl) ?_
                  refine lv_iconst (v := (-1)) hx hb dX12_part_133 (by decide) ?_
                  refine lv_icmp_ne (tgt := 147) hx hb dX12_part_134 (by decide) (fun _ => ?_) (fun c45 => absurd c45 (by decide))
                  refine lv_aload_n hx hb dX12_part_147 rfl (lv_at hl 1 rfl) ?_
                  refine va_get (D := g.1) (ci := 10) (v := .ref (a 5)) (C := RX12) (T := TX12) (N := 20) hx hb hts izRX12 hown hK hP 0 rfl rfl 14 (by decide) (hts _ k821) (fun _ h9 => h9) rfl dX12_part_148 ?_
                  refine lv_iload_n hx hb dX12_part_151 rfl (lv_at hl 0 rfl) ?_
                  refine va_iald hx hb hK hP 6 0 rfl rfl (zin rfl) dX12_part_152 ?_
                  refine zg (fun x_46 => ?_)
                  have hP : va_P g.1 vwCl (List.flatten [bMo g o a th hi ac tp ba en at2_41 fl de iD iO tU fm fk fa fc ft ff fb fi]) H := hP
                  have hD : va_D A (List.flatten [bMo g o a th hi ac tp ba en at2_41 fl de iD iO tU fm fk fa fc ft ff fb fi]) := hD
                  exact mret_i hx hb hr hlocks hS (Nat.le_of_ble_eq_true rfl) (Nat.le_of_ble_eq_true rfl) dX12_part_153 (at2_41, fl, x_46) rfl (show (0 ≤ at2_41.toInt ∧ at2_41.toInt ≤ en.toInt + 7 - de.toInt) ∧ (tA.toInt ≤ at2_41.toInt) ∧ (-1 ≤ fl.toInt) from ⟨hq43_0, (by first | assumption | omega | decide | exact rfl | exact zb01 (by omega) | exact Or.inl (by decide) | exact Or.inr (by first | omega | decide)), hfl⟩) hP hD
                · skip
                  refine lv_if_eq (tgt := 130) hx hb dX12_part_123 (by decide) (fun _ => ?_) (fun c47 => absurd (by decide) c47)
                  refine lv_iconst (v := (-1)) hx hb dX12_part_130 (by decide) ?_
                  refine lv_istore_n (lv' := [(1, .int (-1)), (0, .ref o)]) hx hb dX12_part_131 rfl hl (by decide) rfl (fun ls hl => ?_)
                  refine lv_iload_n hx hb dX12_part_132 rfl (lv_at hl 0 rfl) ?_
                  refine lv_iconst (v := (-1)) hx hb dX12_part_133 (by decide) ?_
                  refine lv_icmp_ne (tgt := 147) hx hb dX12_part_134 (by decide) (fun c48 => absurd (by decide) c48) (fun _ => ?_)
                  refine lv_aload_n hx hb dX12_part_137 rfl (lv_at hl 1 rfl) ?_
                  refine lv_aload_n hx hb dX12_part_138 rfl (lv_at hl 1 rfl) ?_
                  refine va_get (D := g.1) (ci := 10) (v := .int at2_41) (C := RX12) (T := TX12) (N := 20) hx hb hts izRX12 hown hK hP 0 rfl rfl 11 (by decide) (hts _ k878) (fun _ h9 => h9) rfl dX12_part_139 ?_
                  refine mcallV' (g := g) (q0 := 0) (ci := 10) (As := [.int at2_41]) (rest := []) St hK hT hA hP hD hS hl.1 [0] [] rfl rfl rfl (m_wrong l g o a th hi ac tp ba en at2_41 fl de iD iO tU fm fk fa fc ft ff fb fi at2_41 (by first | assumption | omega | decide | exact Or.inl (by decide) | exact Or.inr (by decide)) hfl) (cwV 1 hts (zgL (zl4 k895 k896 k897 k839) k890) rfl rfl rfl (by decide +kernel) ⟨Nat.le_of_ble_eq_true rfl, Nat.le_of_ble_eq_true rfl⟩) rfl rfl rfl rfl (Nat.le_of_ble_eq_true rfl) dX12_part_142 ⟨(Nat.le_of_ble_eq_true rfl), (Nat.le_of_ble_eq_true rfl)⟩ (fun fl2_49 H locs hq50 hP hD hS => ?_)
                  replace hq50 : (0 ≤ fl2_49.toInt) := hq50
                  have hP : va_P g.1 vwCl (List.flatten [bMo g o a th hi ac tp ba en at2_41 fl2_49 de iD iO tU fm fk fa fc ft ff fb fi]) H := hP
                  have hD : va_D A (List.flatten [bMo g o a th hi ac tp ba en at2_41 fl2_49 de iD iO tU fm fk fa fc ft ff fb fi]) := hD
                  refine W.widen (k := 0) (n := 0) (Nat.le_of_ble_eq_true rfl) (Nat.le_of_ble_eq_true rfl) ?_
                  refine W.eq (g2 := F0 m 145 ls []) rfl ?_
                  refine lv_iconst (v := 0) hx hb dX12_part_145 (by decide) ?_
                  have hP : va_P g.1 vwCl (List.flatten [bMo g o a th hi ac tp ba en at2_41 fl2_49 de iD iO tU fm fk fa fc ft ff fb fi]) H := hP
                  have hD : va_D A (List.flatten [bMo g o a th hi ac tp ba en at2_41 fl2_49 de iD iO tU fm fk fa fc ft ff fb fi]) := hD
                  exact mret_i hx hb hr hlocks hS (Nat.le_of_ble_eq_true rfl) (Nat.le_of_ble_eq_true rfl) dX12_part_146 (at2_41, fl2_49, (0 : Int32)) rfl (show (0 ≤ at2_41.toInt ∧ at2_41.toInt ≤ en.toInt + 7 - de.toInt) ∧ (tA.toInt ≤ at2_41.toInt) ∧ (-1 ≤ fl2_49.toInt) from ⟨hq43_0, (by first | assumption | omega | decide | exact rfl | exact zb01 (by omega) | exact Or.inl (by decide) | exact Or.inr (by first | omega | decide)), (by first | assumption | omega | decide | exact rfl | exact zb01 (by omega) | exact Or.inl (by decide) | exact Or.inr (by first | omega | decide))⟩) hP hD
    · skip
      have c51 : at2_3.toInt < en.toInt := zlti (Int32.not_le.mp cb9) rfl rfl
      have n52 : at2_3.toInt ≤ 399 := zL1 (b := 400) c51 hen.2 (by decide)
      refine lv_aload_n hx hb dX12_part_25 rfl (lv_at hl 0 rfl) ?_
      refine lv_aload_n hx hb dX12_part_26 rfl (lv_at hl 0 rfl) ?_
      refine va_get (D := g.1) (ci := 10) (v := .int at2_3) (C := RX12) (T := TX12) (N := 20) hx hb hts izRX12 hown hK hP 0 rfl rfl 11 (by decide) (hts _ k878) (fun _ h9 => h9) rfl dX12_part_27 ?_
      refine mcallV' (g := g) (q0 := 0) (ci := 10) (As := [.int at2_3]) (rest := []) St hK hT hA hP hD hS hl.1 [0] [] rfl rfl rfl (m_letter l g o a th hi ac tp ba en at2_3 fl de iD iO tU fm fk fa fc ft ff fb fi at2_3 (by first | assumption | omega | decide | exact Or.inl (by decide) | exact Or.inr (by decide)) hba) (cwV 1 hts (zgL (zl4 k880 k881 k882 k839) k875) rfl rfl rfl (by decide +kernel) ⟨Nat.le_of_ble_eq_true rfl, Nat.le_of_ble_eq_true rfl⟩) rfl rfl rfl rfl (Nat.le_of_ble_eq_true rfl) dX12_part_30 ⟨(Nat.le_of_ble_eq_true rfl), (Nat.le_of_ble_eq_true rfl)⟩ (fun q_53 H locs hq54 hP hD hS => ?_)
      have hP : va_P g.1 vwCl (List.flatten [bMo g o a th hi ac tp ba en at2_3 fl de iD iO tU fm fk fa fc ft ff fb fi]) H := hP
      have hD : va_D A (List.flatten [bMo g o a th hi ac tp ba en at2_3 fl de iD iO tU fm fk fa fc ft ff fb fi]) := hD
      refine W.widen (k := 0) (n := 0) (Nat.le_of_ble_eq_true rfl) (Nat.le_of_ble_eq_true rfl) ?_
      refine W.eq (g2 := F0 m 33 ls [.int q_53]) rfl ?_
      refine lv_bipush (v := 48) hx hb dX12_part_33 (by decide) ?_
      refine lv_bipush (v := 57) hx hb dX12_part_35 (by decide) ?_
      have hL48 : (48 : Int32).toInt = 48 := by decide
      have hL57 : (57 : Int32).toInt = 57 := by decide
      refine mcallS' (g := g) (As := [.int q_53, .int 48, .int 57]) (rest := []) St hK hT hA hP hD hS hl.1 [] [0] rfl rfl rfl (m_isIn l g q_53 48 57 ) (va_cwS 3 hts (zgL (zl3 k837 k838 k839) k826) rfl rfl rfl (by decide +kernel) ⟨Nat.le_of_ble_eq_true rfl, Nat.le_of_ble_eq_true rfl⟩) rfl rfl (Nat.le_of_ble_eq_true rfl) dX12_part_37 ⟨(Nat.le_of_ble_eq_true rfl), (Nat.le_of_ble_eq_true rfl)⟩ (fun q_55 H locs hq56 hP hD hS => ?_)
      replace hq56 : (q_55 = 1 ∧ (48 : Int32).toInt ≤ q_53.toInt ∧ q_53.toInt ≤ (57 : Int32).toInt ∨ q_55 = 0 ∧ (q_53.toInt < (48 : Int32).toInt ∨ (57 : Int32).toInt < q_53.toInt)) := hq56
      have hP : va_P g.1 vwCl (List.flatten [bMo g o a th hi ac tp ba en at2_3 fl de iD iO tU fm fk fa fc ft ff fb fi]) H := hP
      have hD : va_D A (List.flatten [bMo g o a th hi ac tp ba en at2_3 fl de iD iO tU fm fk fa fc ft ff fb fi]) := hD
      refine W.widen (k := 0) (n := 0) (Nat.le_of_ble_eq_true rfl) (Nat.le_of_ble_eq_true rfl) ?_
      refine W.eq (g2 := F0 m 40 ls [.int q_55]) rfl ?_
      rcases hq56 with ⟨rfl, hq56_k⟩ | ⟨rfl, hq56_k⟩
      · skip
        refine lv_if_eq (tgt := 52) hx hb dX12_part_40 (by decide) (fun c57 => absurd c57 (by decide)) (fun _ => ?_)
        refine lv_aload_n hx hb dX12_part_43 rfl (lv_at hl 0 rfl) ?_
        refine lv_iconst (v := 0) hx hb dX12_part_44 (by decide) ?_
        refine lv_sipush (v := 999) hx hb dX12_part_45 (by decide) ?_
        have hL0 : (0 : Int32).toInt = 0 := by decide
        have hL999 : (999 : Int32).toInt = 999 := by decide
        refine mcallV' (g := g) (q0 := 0) (ci := 10) (As := [.int 0, .int 999]) (rest := []) St hK hT hA hP hD hS hl.1 [0] [] rfl rfl rfl (m_figures l g o a th hi ac tp ba en at2_3 fl de iD iO tU fm fk fa fc ft ff fb fi 0 999 hba hen hq4_0 hfl hde) (cwV 2 hts (zgL (zl4 k902 k903 k904 k839) k898) rfl rfl rfl (by decide +kernel) ⟨Nat.le_of_ble_eq_true rfl, Nat.le_of_ble_eq_true rfl⟩) rfl rfl rfl rfl (Nat.le_of_ble_eq_true rfl) dX12_part_48 ⟨(Nat.le_of_ble_eq_true rfl), (Nat.le_of_ble_eq_true rfl)⟩ (fun u_ H locs hq61 hP hD hS => ?_)
        obtain ⟨at2_58, fl2_59, r_60⟩ := u_
        replace hq61 : (0 ≤ at2_58.toInt ∧ at2_58.toInt ≤ en.toInt + 7 - de.toInt) ∧ (at2_3.toInt ≤ at2_58.toInt) ∧ (-1 ≤ fl2_59.toInt) ∧ (zImp (fl2_59.toInt = -1) (fl.toInt = -1 ∧ (0 : Int32).toInt ≤ r_60.toInt ∧ r_60.toInt ≤ (999 : Int32).toInt)) := hq61
        have hP : va_P g.1 vwCl (List.flatten [bMo g o a th hi ac tp ba en at2_58 fl2_59 de iD iO tU fm fk fa fc ft ff fb fi]) H := hP
        have hD : va_D A (List.flatten [bMo g o a th hi ac tp ba en at2_58 fl2_59 de iD iO tU fm fk fa fc ft ff fb fi]) := hD
        refine W.widen (k := 0) (n := 0) (Nat.le_of_ble_eq_true rfl) (Nat.le_of_ble_eq_true rfl) ?_
        refine W.eq (g2 := F0 m 51 ls [.int r_60]) rfl ?_
        obtain ⟨hq61_0, hq61_1, hq61_2, hq61_3⟩ := hq61
        have hP : va_P g.1 vwCl (List.flatten [bMo g o a th hi ac tp ba en at2_58 fl2_59 de iD iO tU fm fk fa fc ft ff fb fi]) H := hP
        have hD : va_D A (List.flatten [bMo g o a th hi ac tp ba en at2_58 fl2_59 de iD iO tU fm fk fa fc ft ff fb fi]) := hD
        exact mret_i hx hb hr hlocks hS (Nat.le_of_ble_eq_true rfl) (Nat.le_of_ble_eq_true rfl) dX12_part_51 (at2_58, fl2_59, r_60) rfl (show (0 ≤ at2_58.toInt ∧ at2_58.toInt ≤ en.toInt + 7 - de.toInt) ∧ (tA.toInt ≤ at2_58.toInt) ∧ (-1 ≤ fl2_59.toInt) from ⟨hq61_0, (by first | assumption | omega | decide | exact rfl | exact zb01 (by omega) | exact Or.inl (by decide) | exact Or.inr (by first | omega | decide)), hq61_2⟩) hP hD
      · skip
        refine lv_if_eq (tgt := 52) hx hb dX12_part_40 (by decide) (fun _ => ?_) (fun c62 => absurd (by decide) c62)
        refine lv_aload_n hx hb dX12_part_52 rfl (lv_at hl 0 rfl) ?_
        refine va_ldcS (q := g.2 86) hx hb hown (zra38 hT.2.1) dX12_part_53 ?_
        refine mcallV' (g := g) (q0 := 0) (ci := 10) (As := [.ref (g.2 86)]) (rest := []) St hK hT hA hP hD hS hl.1 [0] [] rfl rfl rfl (m_has l g o a th hi ac tp ba en at2_3 fl de iD iO tU fm fk fa fc ft ff fb fi (g.2 86) 38 zqa38 hba hen hq4_0 hfl hde rfl zla38 zna38) (cwV 1 hts (zgL (zl4 k899 k900 k901 k839) k889) rfl rfl rfl (by decide +kernel) ⟨Nat.le_of_ble_eq_true rfl, Nat.le_of_ble_eq_true rfl⟩) rfl rfl rfl rfl (Nat.le_of_ble_eq_true rfl) dX12_part_55 ⟨(Nat.le_of_ble_eq_true rfl), (Nat.le_of_ble_eq_true rfl)⟩ (fun u_ H locs hq65 hP hD hS => ?_)
        obtain ⟨at2_63, r_64⟩ := u_
        replace hq65 : (0 ≤ at2_63.toInt ∧ at2_63.toInt ≤ en.toInt + 7 - de.toInt) ∧ (at2_3.toInt ≤ at2_63.toInt) ∧ (r_64 = 1 ∧ at2_3.toInt < at2_63.toInt ∧ at2_63.toInt ≤ en.toInt ∨ r_64 = 0) := hq65
        have hP : va_P g.1 vwCl (List.flatten [bMo g o a th hi ac tp ba en at2_63 fl de iD iO tU fm fk fa fc ft ff fb fi]) H := hP
        have hD : va_D A (List.flatten [bMo g o a th hi ac tp ba en at2_63 fl de iD iO tU fm fk fa fc ft ff fb fi]) := hD
        refine W.widen (k := 0) (n := 0) (Nat.le_of_ble_eq_true rfl) (Nat.le_of_ble_eq_true rfl) ?_
        refine W.eq (g2 := F0 m 58 ls [.int r_64]) rfl ?_
        obtain ⟨hq65_0, hq65_1, hq65_2⟩ := hq65
        rcases hq65_2 with ⟨rfl, hq65_k⟩ | rfl
        · skip
          refine lv_if_eq (tgt := 65) hx hb dX12_part_58 (by decide) (fun c66 => absurd c66 (by decide)) (fun _ => ?_)
          refine lv_iconst (v := 0) hx hb dX12_part_61 (by decide) ?_
          refine lv_goto (tgt := 131) hx hb dX12_part_62 (by decide) ?_
          refine lv_istore_n (lv' := [(1, .int 0), (0, .ref o)]) hx hb dX12_part_131 rfl hl (by decide) rfl (fun ls hl => ?_)
          refine lv_iload_n hx hb dX12_part_132 rfl (lv_at hl 0 rfl) ?_
          refine lv_iconst (v := (-1)) hx hb dX12_part_133 (by decide) ?_
          refine lv_icmp_ne (tgt := 147) hx hb dX12_part_134 (by decide) (fun _ => ?_) (fun c67 => absurd c67 (by decide))
          refine lv_aload_n hx hb dX12_part_147 rfl (lv_at hl 1 rfl) ?_
          refine va_get (D := g.1) (ci := 10) (v := .ref (a 5)) (C := RX12) (T := TX12) (N := 20) hx hb hts izRX12 hown hK hP 0 rfl rfl 14 (by decide) (hts _ k821) (fun _ h9 => h9) rfl dX12_part_148 ?_
          refine lv_iload_n hx hb dX12_part_151 rfl (lv_at hl 0 rfl) ?_
          refine va_iald hx hb hK hP 6 0 rfl rfl (zin rfl) dX12_part_152 ?_
          refine zg (fun x_68 => ?_)
          have hP : va_P g.1 vwCl (List.flatten [bMo g o a th hi ac tp ba en at2_63 fl de iD iO tU fm fk fa fc ft ff fb fi]) H := hP
          have hD : va_D A (List.flatten [bMo g o a th hi ac tp ba en at2_63 fl de iD iO tU fm fk fa fc ft ff fb fi]) := hD
          exact mret_i hx hb hr hlocks hS (Nat.le_of_ble_eq_true rfl) (Nat.le_of_ble_eq_true rfl) dX12_part_153 (at2_63, fl, x_68) rfl (show (0 ≤ at2_63.toInt ∧ at2_63.toInt ≤ en.toInt + 7 - de.toInt) ∧ (tA.toInt ≤ at2_63.toInt) ∧ (-1 ≤ fl.toInt) from ⟨hq65_0, (by first | assumption | omega | decide | exact rfl | exact zb01 (by omega) | exact Or.inl (by decide) | exact Or.inr (by first | omega | decide)), hfl⟩) hP hD
        · skip
          refine lv_if_eq (tgt := 65) hx hb dX12_part_58 (by decide) (fun _ => ?_) (fun c69 => absurd (by decide) c69)
          refine lv_aload_n hx hb dX12_part_65 rfl (lv_at hl 0 rfl) ?_
          refine va_ldcS (q := g.2 88) hx hb hown (zra39 hT.2.1) dX12_part_66 ?_
          refine mcallV' (g := g) (q0 := 0) (ci := 10) (As := [.ref (g.2 88)]) (rest := []) St hK hT hA hP hD hS hl.1 [0] [] rfl rfl rfl (m_has l g o a th hi ac tp ba en at2_63 fl de iD iO tU fm fk fa fc ft ff fb fi (g.2 88) 39 zqa39 hba hen hq65_0 hfl hde rfl zla39 zna39) (cwV 1 hts (zgL (zl4 k899 k900 k901 k839) k889) rfl rfl rfl (by decide +kernel) ⟨Nat.le_of_ble_eq_true rfl, Nat.le_of_ble_eq_true rfl⟩) rfl rfl rfl rfl (Nat.le_of_ble_eq_true rfl) dX12_part_68 ⟨(Nat.le_of_ble_eq_true rfl), (Nat.le_of_ble_eq_true rfl)⟩ (fun u_ H locs hq72 hP hD hS => ?_)
          obtain ⟨at2_70, r_71⟩ := u_
          replace hq72 : (0 ≤ at2_70.toInt ∧ at2_70.toInt ≤ en.toInt + 7 - de.toInt) ∧ (at2_63.toInt ≤ at2_70.toInt) ∧ (r_71 = 1 ∧ at2_63.toInt < at2_70.toInt ∧ at2_70.toInt ≤ en.toInt ∨ r_71 = 0) := hq72
          have hP : va_P g.1 vwCl (List.flatten [bMo g o a th hi ac tp ba en at2_70 fl de iD iO tU fm fk fa fc ft ff fb fi]) H := hP
          have hD : va_D A (List.flatten [bMo g o a th hi ac tp ba en at2_70 fl de iD iO tU fm fk fa fc ft ff fb fi]) := hD
          refine W.widen (k := 0) (n := 0) (Nat.le_of_ble_eq_true rfl) (Nat.le_of_ble_eq_true rfl) ?_
          refine W.eq (g2 := F0 m 71 ls [.int r_71]) rfl ?_
          obtain ⟨hq72_0, hq72_1, hq72_2⟩ := hq72
          rcases hq72_2 with ⟨rfl, hq72_k⟩ | rfl
          · skip
            refine lv_if_eq (tgt := 78) hx hb dX12_part_71 (by decide) (fun c73 => absurd c73 (by decide)) (fun _ => ?_)
            refine lv_iconst (v := 1) hx hb dX12_part_74 (by decide) ?_
            refine lv_goto (tgt := 131) hx hb dX12_part_75 (by decide) ?_
            refine lv_istore_n (lv' := [(1, .int 1), (0, .ref o)]) hx hb dX12_part_131 rfl hl (by decide) rfl (fun ls hl => ?_)
            refine lv_iload_n hx hb dX12_part_132 rfl (lv_at hl 0 rfl) ?_
            refine lv_iconst (v := (-1)) hx hb dX12_part_133 (by decide) ?_
            refine lv_icmp_ne (tgt := 147) hx hb dX12_part_134 (by decide) (fun _ => ?_) (fun c74 => absurd c74 (by decide))
            refine lv_aload_n hx hb dX12_part_147 rfl (lv_at hl 1 rfl) ?_
            refine va_get (D := g.1) (ci := 10) (v := .ref (a 5)) (C := RX12) (T := TX12) (N := 20) hx hb hts izRX12 hown hK hP 0 rfl rfl 14 (by decide) (hts _ k821) (fun _ h9 => h9) rfl dX12_part_148 ?_
            refine lv_iload_n hx hb dX12_part_151 rfl (lv_at hl 0 rfl) ?_
            refine va_iald hx hb hK hP 6 0 rfl rfl (zin rfl) dX12_part_152 ?_
            refine zg (fun x_75 => ?_)
            have hP : va_P g.1 vwCl (List.flatten [bMo g o a th hi ac tp ba en at2_70 fl de iD iO tU fm fk fa fc ft ff fb fi]) H := hP
            have hD : va_D A (List.flatten [bMo g o a th hi ac tp ba en at2_70 fl de iD iO tU fm fk fa fc ft ff fb fi]) := hD
            exact mret_i hx hb hr hlocks hS (Nat.le_of_ble_eq_true rfl) (Nat.le_of_ble_eq_true rfl) dX12_part_153 (at2_70, fl, x_75) rfl (show (0 ≤ at2_70.toInt ∧ at2_70.toInt ≤ en.toInt + 7 - de.toInt) ∧ (tA.toInt ≤ at2_70.toInt) ∧ (-1 ≤ fl.toInt) from ⟨hq72_0, (by first | assumption | omega | decide | exact rfl | exact zb01 (by omega) | exact Or.inl (by decide) | exact Or.inr (by first | omega | decide)), hfl⟩) hP hD
          · skip
            refine lv_if_eq (tgt := 78) hx hb dX12_part_71 (by decide) (fun _ => ?_) (fun c76 => absurd (by decide) c76)
            refine lv_aload_n hx hb dX12_part_78 rfl (lv_at hl 0 rfl) ?_
            refine va_ldcS (q := g.2 90) hx hb hown (zra40 hT.2.1) dX12_part_79 ?_
            refine mcallV' (g := g) (q0 := 0) (ci := 10) (As := [.ref (g.2 90)]) (rest := []) St hK hT hA hP hD hS hl.1 [0] [] rfl rfl rfl (m_has l g o a th hi ac tp ba en at2_70 fl de iD iO tU fm fk fa fc ft ff fb fi (g.2 90) 40 zqa40 hba hen hq72_0 hfl hde rfl zla40 zna40) (cwV 1 hts (zgL (zl4 k899 k900 k901 k839) k889) rfl rfl rfl (by decide +kernel) ⟨Nat.le_of_ble_eq_true rfl, Nat.le_of_ble_eq_true rfl⟩) rfl rfl rfl rfl (Nat.le_of_ble_eq_true rfl) dX12_part_81 ⟨(Nat.le_of_ble_eq_true rfl), (Nat.le_of_ble_eq_true rfl)⟩ (fun u_ H locs hq79 hP hD hS => ?_)
            obtain ⟨at2_77, r_78⟩ := u_
            replace hq79 : (0 ≤ at2_77.toInt ∧ at2_77.toInt ≤ en.toInt + 7 - de.toInt) ∧ (at2_70.toInt ≤ at2_77.toInt) ∧ (r_78 = 1 ∧ at2_70.toInt < at2_77.toInt ∧ at2_77.toInt ≤ en.toInt ∨ r_78 = 0) := hq79
            have hP : va_P g.1 vwCl (List.flatten [bMo g o a th hi ac tp ba en at2_77 fl de iD iO tU fm fk fa fc ft ff fb fi]) H := hP
            have hD : va_D A (List.flatten [bMo g o a th hi ac tp ba en at2_77 fl de iD iO tU fm fk fa fc ft ff fb fi]) := hD
            refine W.widen (k := 0) (n := 0) (Nat.le_of_ble_eq_true rfl) (Nat.le_of_ble_eq_true rfl) ?_
            refine W.eq (g2 := F0 m 84 ls [.int r_78]) rfl ?_
            obtain ⟨hq79_0, hq79_1, hq79_2⟩ := hq79
            rcases hq79_2 with ⟨rfl, hq79_k⟩ | rfl
            · skip
              refine lv_if_eq (tgt := 91) hx hb dX12_part_84 (by decide) (fun c80 => absurd c80 (by decide)) (fun _ => ?_)
              refine lv_iconst (v := 2) hx hb dX12_part_87 (by decide) ?_
              refine lv_goto (tgt := 131) hx hb dX12_part_88 (by decide) ?_
              refine lv_istore_n (lv' := [(1, .int 2), (0, .ref o)]) hx hb dX12_part_131 rfl hl (by decide) rfl (fun ls hl => ?_)
              refine lv_iload_n hx hb dX12_part_132 rfl (lv_at hl 0 rfl) ?_
              refine lv_iconst (v := (-1)) hx hb dX12_part_133 (by decide) ?_
              refine lv_icmp_ne (tgt := 147) hx hb dX12_part_134 (by decide) (fun _ => ?_) (fun c81 => absurd c81 (by decide))
              refine lv_aload_n hx hb dX12_part_147 rfl (lv_at hl 1 rfl) ?_
              refine va_get (D := g.1) (ci := 10) (v := .ref (a 5)) (C := RX12) (T := TX12) (N := 20) hx hb hts izRX12 hown hK hP 0 rfl rfl 14 (by decide) (hts _ k821) (fun _ h9 => h9) rfl dX12_part_148 ?_
              refine lv_iload_n hx hb dX12_part_151 rfl (lv_at hl 0 rfl) ?_
              refine va_iald hx hb hK hP 6 0 rfl rfl (zin rfl) dX12_part_152 ?_
              refine zg (fun x_82 => ?_)
              have hP : va_P g.1 vwCl (List.flatten [bMo g o a th hi ac tp ba en at2_77 fl de iD iO tU fm fk fa fc ft ff fb fi]) H := hP
              have hD : va_D A (List.flatten [bMo g o a th hi ac tp ba en at2_77 fl de iD iO tU fm fk fa fc ft ff fb fi]) := hD
              exact mret_i hx hb hr hlocks hS (Nat.le_of_ble_eq_true rfl) (Nat.le_of_ble_eq_true rfl) dX12_part_153 (at2_77, fl, x_82) rfl (show (0 ≤ at2_77.toInt ∧ at2_77.toInt ≤ en.toInt + 7 - de.toInt) ∧ (tA.toInt ≤ at2_77.toInt) ∧ (-1 ≤ fl.toInt) from ⟨hq79_0, (by first | assumption | omega | decide | exact rfl | exact zb01 (by omega) | exact Or.inl (by decide) | exact Or.inr (by first | omega | decide)), hfl⟩) hP hD
            · skip
              refine lv_if_eq (tgt := 91) hx hb dX12_part_84 (by decide) (fun _ => ?_) (fun c83 => absurd (by decide) c83)
              refine lv_aload_n hx hb dX12_part_91 rfl (lv_at hl 0 rfl) ?_
              refine va_ldcS (q := g.2 92) hx hb hown (zra41 hT.2.1) dX12_part_92 ?_
              refine mcallV' (g := g) (q0 := 0) (ci := 10) (As := [.ref (g.2 92)]) (rest := []) St hK hT hA hP hD hS hl.1 [0] [] rfl rfl rfl (m_has l g o a th hi ac tp ba en at2_77 fl de iD iO tU fm fk fa fc ft ff fb fi (g.2 92) 41 zqa41 hba hen hq79_0 hfl hde rfl zla41 zna41) (cwV 1 hts (zgL (zl4 k899 k900 k901 k839) k889) rfl rfl rfl (by decide +kernel) ⟨Nat.le_of_ble_eq_true rfl, Nat.le_of_ble_eq_true rfl⟩) rfl rfl rfl rfl (Nat.le_of_ble_eq_true rfl) dX12_part_94 ⟨(Nat.le_of_ble_eq_true rfl), (Nat.le_of_ble_eq_true rfl)⟩ (fun u_ H locs hq86 hP hD hS => ?_)
              obtain ⟨at2_84, r_85⟩ := u_
              replace hq86 : (0 ≤ at2_84.toInt ∧ at2_84.toInt ≤ en.toInt + 7 - de.toInt) ∧ (at2_77.toInt ≤ at2_84.toInt) ∧ (r_85 = 1 ∧ at2_77.toInt < at2_84.toInt ∧ at2_84.toInt ≤ en.toInt ∨ r_85 = 0) := hq86
              have hP : va_P g.1 vwCl (List.flatten [bMo g o a th hi ac tp ba en at2_84 fl de iD iO tU fm fk fa fc ft ff fb fi]) H := hP
              have hD : va_D A (List.flatten [bMo g o a th hi ac tp ba en at2_84 fl de iD iO tU fm fk fa fc ft ff fb fi]) := hD
              refine W.widen (k := 0) (n := 0) (Nat.le_of_ble_eq_true rfl) (Nat.le_of_ble_eq_true rfl) ?_
              refine W.eq (g2 := F0 m 97 ls [.int r_85]) rfl ?_
              obtain ⟨hq86_0, hq86_1, hq86_2⟩ := hq86
              rcases hq86_2 with ⟨rfl, hq86_k⟩ | rfl
              · skip
                refine lv_if_eq (tgt := 104) hx hb dX12_part_97 (by decide) (fun c87 => absurd c87 (by decide)) (fun _ => ?_)
                refine lv_iconst (v := 3) hx hb dX12_part_100 (by decide) ?_
                refine lv_goto (tgt := 131) hx hb dX12_part_101 (by decide) ?_
                refine lv_istore_n (lv' := [(1, .int 3), (0, .ref o)]) hx hb dX12_part_131 rfl hl (by decide) rfl (fun ls hl => ?_)
                refine lv_iload_n hx hb dX12_part_132 rfl (lv_at hl 0 rfl) ?_
                refine lv_iconst (v := (-1)) hx hb dX12_part_133 (by decide) ?_
                refine lv_icmp_ne (tgt := 147) hx hb dX12_part_134 (by decide) (fun _ => ?_) (fun c88 => absurd c88 (by decide))
                refine lv_aload_n hx hb dX12_part_147 rfl (lv_at hl 1 rfl) ?_
                refine va_get (D := g.1) (ci := 10) (v := .ref (a 5)) (C := RX12) (T := TX12) (N := 20) hx hb hts izRX12 hown hK hP 0 rfl rfl 14 (by decide) (hts _ k821) (fun _ h9 => h9) rfl dX12_part_148 ?_
                refine lv_iload_n hx hb dX12_part_151 rfl (lv_at hl 0 rfl) ?_
                refine va_iald hx hb hK hP 6 0 rfl rfl (zin rfl) dX12_part_152 ?_
                refine zg (fun x_89 => ?_)
                have hP : va_P g.1 vwCl (List.flatten [bMo g o a th hi ac tp ba en at2_84 fl de iD iO tU fm fk fa fc ft ff fb fi]) H := hP
                have hD : va_D A (List.flatten [bMo g o a th hi ac tp ba en at2_84 fl de iD iO tU fm fk fa fc ft ff fb fi]) := hD
                exact mret_i hx hb hr hlocks hS (Nat.le_of_ble_eq_true rfl) (Nat.le_of_ble_eq_true rfl) dX12_part_153 (at2_84, fl, x_89) rfl (show (0 ≤ at2_84.toInt ∧ at2_84.toInt ≤ en.toInt + 7 - de.toInt) ∧ (tA.toInt ≤ at2_84.toInt) ∧ (-1 ≤ fl.toInt) from ⟨hq86_0, (by first | assumption | omega | decide | exact rfl | exact zb01 (by omega) | exact Or.inl (by decide) | exact Or.inr (by first | omega | decide)), hfl⟩) hP hD
              · skip
                refine lv_if_eq (tgt := 104) hx hb dX12_part_97 (by decide) (fun _ => ?_) (fun c90 => absurd (by decide) c90)
                refine lv_aload_n hx hb dX12_part_104 rfl (lv_at hl 0 rfl) ?_
                refine va_ldcS (q := g.2 94) hx hb hown (zra42 hT.2.1) dX12_part_105 ?_
                refine mcallV' (g := g) (q0 := 0) (ci := 10) (As := [.ref (g.2 94)]) (rest := []) St hK hT hA hP hD hS hl.1 [0] [] rfl rfl rfl (m_has l g o a th hi ac tp ba en at2_84 fl de iD iO tU fm fk fa fc ft ff fb fi (g.2 94) 42 zqa42 hba hen hq86_0 hfl hde rfl zla42 zna42) (cwV 1 hts (zgL (zl4 k899 k900 k901 k839) k889) rfl rfl rfl (by decide +kernel) ⟨Nat.le_of_ble_eq_true rfl, Nat.le_of_ble_eq_true rfl⟩) rfl rfl rfl rfl (Nat.le_of_ble_eq_true rfl) dX12_part_107 ⟨(Nat.le_of_ble_eq_true rfl), (Nat.le_of_ble_eq_true rfl)⟩ (fun u_ H locs hq93 hP hD hS => ?_)
                obtain ⟨at2_91, r_92⟩ := u_
                replace hq93 : (0 ≤ at2_91.toInt ∧ at2_91.toInt ≤ en.toInt + 7 - de.toInt) ∧ (at2_84.toInt ≤ at2_91.toInt) ∧ (r_92 = 1 ∧ at2_84.toInt < at2_91.toInt ∧ at2_91.toInt ≤ en.toInt ∨ r_92 = 0) := hq93
                have hP : va_P g.1 vwCl (List.flatten [bMo g o a th hi ac tp ba en at2_91 fl de iD iO tU fm fk fa fc ft ff fb fi]) H := hP
                have hD : va_D A (List.flatten [bMo g o a th hi ac tp ba en at2_91 fl de iD iO tU fm fk fa fc ft ff fb fi]) := hD
                refine W.widen (k := 0) (n := 0) (Nat.le_of_ble_eq_true rfl) (Nat.le_of_ble_eq_true rfl) ?_
                refine W.eq (g2 := F0 m 110 ls [.int r_92]) rfl ?_
                obtain ⟨hq93_0, hq93_1, hq93_2⟩ := hq93
                rcases hq93_2 with ⟨rfl, hq93_k⟩ | rfl
                · skip
                  refine lv_if_eq (tgt := 117) hx hb dX12_part_110 (by decide) (fun c94 => absurd c94 (by decide)) (fun _ => ?_)
                  refine lv_iconst (v := 4) hx hb dX12_part_113 (by decide) ?_
                  refine lv_goto (tgt := 131) hx hb dX12_part_114 (by decide) ?_
                  refine lv_istore_n (lv' := [(1, .int 4), (0, .ref o)]) hx hb dX12_part_131 rfl hl (by decide) rfl (fun ls hl => ?_)
                  refine lv_iload_n hx hb dX12_part_132 rfl (lv_at hl 0 rfl) ?_
                  refine lv_iconst (v := (-1)) hx hb dX12_part_133 (by decide) ?_
                  refine lv_icmp_ne (tgt := 147) hx hb dX12_part_134 (by decide) (fun _ => ?_) (fun c95 => absurd c95 (by decide))
                  refine lv_aload_n hx hb dX12_part_147 rfl (lv_at hl 1 rfl) ?_
                  refine va_get (D := g.1) (ci := 10) (v := .ref (a 5)) (C := RX12) (T := TX12) (N := 20) hx hb hts izRX12 hown hK hP 0 rfl rfl 14 (by decide) (hts _ k821) (fun _ h9 => h9) rfl dX12_part_148 ?_
                  refine lv_iload_n hx hb dX12_part_151 rfl (lv_at hl 0 rfl) ?_
                  refine va_iald hx hb hK hP 6 0 rfl rfl (zin rfl) dX12_part_152 ?_
                  refine zg (fun x_96 => ?_)
                  have hP : va_P g.1 vwCl (List.flatten [bMo g o a th hi ac tp ba en at2_91 fl de iD iO tU fm fk fa fc ft ff fb fi]) H := hP
                  have hD : va_D A (List.flatten [bMo g o a th hi ac tp ba en at2_91 fl de iD iO tU fm fk fa fc ft ff fb fi]) := hD
                  exact mret_i hx hb hr hlocks hS (Nat.le_of_ble_eq_true rfl) (Nat.le_of_ble_eq_true rfl) dX12_part_153 (at2_91, fl, x_96) rfl (show (0 ≤ at2_91.toInt ∧ at2_91.toInt ≤ en.toInt + 7 - de.toInt) ∧ (tA.toInt ≤ at2_91.toInt) ∧ (-1 ≤ fl.toInt) from ⟨hq93_0, (by first | assumption | omega | decide | exact rfl | exact zb01 (by omega) | exact Or.inl (by decide) | exact Or.inr (by first | omega | decide)), hfl⟩) hP hD
                · skip
                  refine lv_if_eq (tgt := 117) hx hb dX12_part_110 (by decide) (fun _ => ?_) (fun c97 => absurd (by decide) c97)
                  refine lv_aload_n hx hb dX12_part_117 rfl (lv_at hl 0 rfl) ?_
                  refine va_ldcS (q := g.2 84) hx hb hown (zra37 hT.2.1) dX12_part_118 ?_
                  refine mcallV' (g := g) (q0 := 0) (ci := 10) (As := [.ref (g.2 84)]) (rest := []) St hK hT hA hP hD hS hl.1 [0] [] rfl rfl rfl (m_has l g o a th hi ac tp ba en at2_91 fl de iD iO tU fm fk fa fc ft ff fb fi (g.2 84) 37 zqa37 hba hen hq93_0 hfl hde rfl zla37 zna37) (cwV 1 hts (zgL (zl4 k899 k900 k901 k839) k889) rfl rfl rfl (by decide +kernel) ⟨Nat.le_of_ble_eq_true rfl, Nat.le_of_ble_eq_true rfl⟩) rfl rfl rfl rfl (Nat.le_of_ble_eq_true rfl) dX12_part_120 ⟨(Nat.le_of_ble_eq_true rfl), (Nat.le_of_ble_eq_true rfl)⟩ (fun u_ H locs hq100 hP hD hS => ?_)
                  obtain ⟨at2_98, r_99⟩ := u_
                  replace hq100 : (0 ≤ at2_98.toInt ∧ at2_98.toInt ≤ en.toInt + 7 - de.toInt) ∧ (at2_91.toInt ≤ at2_98.toInt) ∧ (r_99 = 1 ∧ at2_91.toInt < at2_98.toInt ∧ at2_98.toInt ≤ en.toInt ∨ r_99 = 0) := hq100
                  have hP : va_P g.1 vwCl (List.flatten [bMo g o a th hi ac tp ba en at2_98 fl de iD iO tU fm fk fa fc ft ff fb fi]) H := hP
                  have hD : va_D A (List.flatten [bMo g o a th hi ac tp ba en at2_98 fl de iD iO tU fm fk fa fc ft ff fb fi]) := hD
                  refine W.widen (k := 0) (n := 0) (Nat.le_of_ble_eq_true rfl) (Nat.le_of_ble_eq_true rfl) ?_
                  refine W.eq (g2 := F0 m 123 ls [.int r_99]) rfl ?_
                  obtain ⟨hq100_0, hq100_1, hq100_2⟩ := hq100
                  rcases hq100_2 with ⟨rfl, hq100_k⟩ | rfl
                  · skip
                    refine lv_if_eq (tgt := 130) hx hb dX12_part_123 (by decide) (fun c101 => absurd c101 (by decide)) (fun _ => ?_)
                    refine lv_iconst (v := 5) hx hb dX12_part_126 (by decide) ?_
                    refine lv_goto (tgt := 131) hx hb dX12_part_127 (by decide) ?_
                    refine lv_istore_n (lv' := [(1, .int 5), (0, .ref o)]) hx hb dX12_part_131 rfl hl (by decide) rfl (fun ls hl => ?_)
                    refine lv_iload_n hx hb dX12_part_132 rfl (lv_at hl 0 rfl) ?_
                    refine lv_iconst (v := (-1)) hx hb dX12_part_133 (by decide) ?_
                    refine lv_icmp_ne (tgt := 147) hx hb dX12_part_134 (by decide) (fun _ => ?_) (fun c102 => absurd c102 (by decide))
                    refine lv_aload_n hx hb dX12_part_147 rfl (lv_at hl 1 rfl) ?_
                    refine va_get (D := g.1) (ci := 10) (v := .ref (a 5)) (C := RX12) (T := TX12) (N := 20) hx hb hts izRX12 hown hK hP 0 rfl rfl 14 (by decide) (hts _ k821) (fun _ h9 => h9) rfl dX12_part_148 ?_
                    refine lv_iload_n hx hb dX12_part_151 rfl (lv_at hl 0 rfl) ?_
                    refine va_iald hx hb hK hP 6 0 rfl rfl (zin rfl) dX12_part_152 ?_
                    refine zg (fun x_103 => ?_)
                    have hP : va_P g.1 vwCl (List.flatten [bMo g o a th hi ac tp ba en at2_98 fl de iD iO tU fm fk fa fc ft ff fb fi]) H := hP
                    have hD : va_D A (List.flatten [bMo g o a th hi ac tp ba en at2_98 fl de iD iO tU fm fk fa fc ft ff fb fi]) := hD
                    exact mret_i hx hb hr hlocks hS (Nat.le_of_ble_eq_true rfl) (Nat.le_of_ble_eq_true rfl) dX12_part_153 (at2_98, fl, x_103) rfl (show (0 ≤ at2_98.toInt ∧ at2_98.toInt ≤ en.toInt + 7 - de.toInt) ∧ (tA.toInt ≤ at2_98.toInt) ∧ (-1 ≤ fl.toInt) from ⟨hq100_0, (by first | assumption | omega | decide | exact rfl | exact zb01 (by omega) | exact Or.inl (by decide) | exact Or.inr (by first | omega | decide)), hfl⟩) hP hD
                  · skip
                    refine lv_if_eq (tgt := 130) hx hb dX12_part_123 (by decide) (fun _ => ?_) (fun c104 => absurd (by decide) c104)
                    refine lv_iconst (v := (-1)) hx hb dX12_part_130 (by decide) ?_
                    refine lv_istore_n (lv' := [(1, .int (-1)), (0, .ref o)]) hx hb dX12_part_131 rfl hl (by decide) rfl (fun ls hl => ?_)
                    refine lv_iload_n hx hb dX12_part_132 rfl (lv_at hl 0 rfl) ?_
                    refine lv_iconst (v := (-1)) hx hb dX12_part_133 (by decide) ?_
                    refine lv_icmp_ne (tgt := 147) hx hb dX12_part_134 (by decide) (fun c105 => absurd (by decide) c105) (fun _ => ?_)
                    refine lv_aload_n hx hb dX12_part_137 rfl (lv_at hl 1 rfl) ?_
                    refine lv_aload_n hx hb dX12_part_138 rfl (lv_at hl 1 rfl) ?_
                    refine va_get (D := g.1) (ci := 10) (v := .int at2_98) (C := RX12) (T := TX12) (N := 20) hx hb hts izRX12 hown hK hP 0 rfl rfl 11 (by decide) (hts _ k878) (fun _ h9 => h9) rfl dX12_part_139 ?_
                    refine mcallV' (g := g) (q0 := 0) (ci := 10) (As := [.int at2_98]) (rest := []) St hK hT hA hP hD hS hl.1 [0] [] rfl rfl rfl (m_wrong l g o a th hi ac tp ba en at2_98 fl de iD iO tU fm fk fa fc ft ff fb fi at2_98 (by first | assumption | omega | decide | exact Or.inl (by decide) | exact Or.inr (by decide)) hfl) (cwV 1 hts (zgL (zl4 k895 k896 k897 k839) k890) rfl rfl rfl (by decide +kernel) ⟨Nat.le_of_ble_eq_true rfl, Nat.le_of_ble_eq_true rfl⟩) rfl rfl rfl rfl (Nat.le_of_ble_eq_true rfl) dX12_part_142 ⟨(Nat.le_of_ble_eq_true rfl), (Nat.le_of_ble_eq_true rfl)⟩ (fun fl2_106 H locs hq107 hP hD hS => ?_)
                    replace hq107 : (0 ≤ fl2_106.toInt) := hq107
                    have hP : va_P g.1 vwCl (List.flatten [bMo g o a th hi ac tp ba en at2_98 fl2_106 de iD iO tU fm fk fa fc ft ff fb fi]) H := hP
                    have hD : va_D A (List.flatten [bMo g o a th hi ac tp ba en at2_98 fl2_106 de iD iO tU fm fk fa fc ft ff fb fi]) := hD
                    refine W.widen (k := 0) (n := 0) (Nat.le_of_ble_eq_true rfl) (Nat.le_of_ble_eq_true rfl) ?_
                    refine W.eq (g2 := F0 m 145 ls []) rfl ?_
                    refine lv_iconst (v := 0) hx hb dX12_part_145 (by decide) ?_
                    have hP : va_P g.1 vwCl (List.flatten [bMo g o a th hi ac tp ba en at2_98 fl2_106 de iD iO tU fm fk fa fc ft ff fb fi]) H := hP
                    have hD : va_D A (List.flatten [bMo g o a th hi ac tp ba en at2_98 fl2_106 de iD iO tU fm fk fa fc ft ff fb fi]) := hD
                    exact mret_i hx hb hr hlocks hS (Nat.le_of_ble_eq_true rfl) (Nat.le_of_ble_eq_true rfl) dX12_part_146 (at2_98, fl2_106, (0 : Int32)) rfl (show (0 ≤ at2_98.toInt ∧ at2_98.toInt ≤ en.toInt + 7 - de.toInt) ∧ (tA.toInt ≤ at2_98.toInt) ∧ (-1 ≤ fl2_106.toInt) from ⟨hq100_0, (by first | assumption | omega | decide | exact rfl | exact zb01 (by omega) | exact Or.inl (by decide) | exact Or.inr (by first | omega | decide)), (by first | assumption | omega | decide | exact rfl | exact zb01 (by omega) | exact Or.inl (by decide) | exact Or.inr (by first | omega | decide))⟩) hP hD
  · skip
    have c108 : ¬ fl.toInt = (-1) := zne cb9 rfl (by decide)
    refine lv_iconst (v := 0) hx hb dX12_part_8 (by decide) ?_
    have hP : va_P g.1 vwCl (List.flatten [bMo g o a th hi ac tp ba en tA fl de iD iO tU fm fk fa fc ft ff fb fi]) s.heap := hP
    have hD : va_D A (List.flatten [bMo g o a th hi ac tp ba en tA fl de iD iO tU fm fk fa fc ft ff fb fi]) := hD
    exact mret_i hx hb hr hlocks hS (Nat.le_of_ble_eq_true rfl) (Nat.le_of_ble_eq_true rfl) dX12_part_9 (tA, fl, (0 : Int32)) rfl (show (0 ≤ tA.toInt ∧ tA.toInt ≤ en.toInt + 7 - de.toInt) ∧ (tA.toInt ≤ tA.toInt) ∧ (-1 ≤ fl.toInt) from ⟨htA, (by first | assumption | omega | decide | exact rfl | exact zb01 (by omega) | exact Or.inl (by decide) | exact Or.inr (by first | omega | decide)), hfl⟩) hP hD
set_option maxRecDepth 100000 in
set_option maxHeartbeats 4000000 in
theorem m_sum (l : Launch) (g : zG) (o : Nat) (a : Nat → Nat) (th : Int32) (hi : Int32) (ac : Int32) (tp : Int32) (ba : Int32) (en : Int32) (tA : Int32) (fl : Int32) (de : Int32) (iD : Int32) (iO : Int32) (tU : Int32) (fm : Nat → Int32) (fk : Nat → Int32) (fa : Nat → Int32) (fc : Nat → Int32) (ft : Nat → Int32) (ff : Nat → Int32) (fb : Nat → Int32) (fi : Nat → Int32) (hba : zBa ba.toInt) (hen : 0 ≤ en.toInt ∧ en.toInt ≤ 400) (htA : 0 ≤ tA.toInt ∧ tA.toInt ≤ en.toInt + 7 - de.toInt) (hfl : -1 ≤ fl.toInt) (hde : 0 ≤ de.toInt ∧ de.toInt ≤ 6) : zM' g l yX12_sum (Cond.code yX12_sum cX12_sum 2 (some .int) :: zB) ({ frames := 6, cells := 0, slots := 0, locals := 129 } : Room) [.ref o] [bMo g o a th hi ac tp ba en tA fl de iD iO tU fm fk fa fc ft ff fb fi] (fun u : Int32 × Int32 × Int32 => (fun (at2 : Int32) (fl2 : Int32) (q : Int32) => some (.int q)) (u.1) (u.2.1) (u.2.2)) (fun u : Int32 × Int32 × Int32 => (fun (at2 : Int32) (fl2 : Int32) (q : Int32) => (0 ≤ at2.toInt ∧ at2.toInt ≤ en.toInt + 7 - de.toInt) ∧ (tA.toInt ≤ at2.toInt) ∧ (-1 ≤ fl2.toInt)) (u.1) (u.2.1) (u.2.2)) (fun u : Int32 × Int32 × Int32 => (fun (at2 : Int32) (fl2 : Int32) (q : Int32) => [bMo g o a th hi ac tp ba en at2 fl2 de iD iO tU fm fk fa fc ft ff fb fi]) (u.1) (u.2.1) (u.2.2)) := by
  refine zM'.of (cc := cX12_sum) (maxL := 2) (rt := (some .int)) (by decide) rfl (Nat.le_of_ble_eq_true rfl) ?_
  intro p e s m args below meth c A ls St hr hlocks hin hK hT hA hP hD hS hl
  obtain ⟨hx, hb, hml, hown, hts⟩ := id St
  have hl : lv_has ls 2 [(0, .ref o)] := hl
  refine lv_aload_n hx hb dX12_sum_0 rfl (lv_at hl 0 rfl) ?_
  refine mcallV' (g := g) (q0 := 0) (ci := 10) (As := []) (rest := []) St hK hT hA hP hD hS hl.1 [0] [] rfl rfl rfl (m_part l g o a th hi ac tp ba en tA fl de iD iO tU fm fk fa fc ft ff fb fi hba hen htA hfl hde) (cwV 0 hts (zgL (zl4 k935 k936 k937 k839) k934) rfl rfl rfl (by decide +kernel) ⟨Nat.le_of_ble_eq_true rfl, Nat.le_of_ble_eq_true rfl⟩) rfl rfl rfl rfl (Nat.le_of_ble_eq_true rfl) dX12_sum_1 ⟨(Nat.le_of_ble_eq_true rfl), (Nat.le_of_ble_eq_true rfl)⟩ (fun u_ H locs hq4 hP hD hS => ?_)
  obtain ⟨at2_1, fl2_2, q_3⟩ := u_
  replace hq4 : (0 ≤ at2_1.toInt ∧ at2_1.toInt ≤ en.toInt + 7 - de.toInt) ∧ (tA.toInt ≤ at2_1.toInt) ∧ (-1 ≤ fl2_2.toInt) := hq4
  have hP : va_P g.1 vwCl (List.flatten [bMo g o a th hi ac tp ba en at2_1 fl2_2 de iD iO tU fm fk fa fc ft ff fb fi]) H := hP
  have hD : va_D A (List.flatten [bMo g o a th hi ac tp ba en at2_1 fl2_2 de iD iO tU fm fk fa fc ft ff fb fi]) := hD
  refine W.widen (k := 0) (n := 0) (Nat.le_of_ble_eq_true rfl) (Nat.le_of_ble_eq_true rfl) ?_
  refine W.eq (g2 := F0 m 4 ls [.int q_3]) rfl ?_
  obtain ⟨hq4_0, hq4_1, hq4_2⟩ := hq4
  refine lv_istore_n (lv' := [(1, .int q_3), (0, .ref o)]) hx hb dX12_sum_4 rfl hl (by decide) rfl (fun ls hl => ?_)
  have hl := lv_sub (l' := [(0, .ref o), (1, .int q_3)]) hl [1, 0] rfl
  have LP5_13 : ∀ (kf : Nat) (x_5 : Int32) (x_6 : Int32) (x_7 : Int32), (0 ≤ x_6.toInt ∧ x_6.toInt ≤ 407) → ((-1) ≤ x_7.toInt) → (tA.toInt ≤ x_6.toInt) → (x_6.toInt ≤ en.toInt + 7 - de.toInt) → (-1 ≤ x_7.toInt) → ∀ (H : Heap) (locs : List Loc) (ls : Array Slot), ((en.toInt + 8 - x_6.toInt).toNat) < kf → va_P g.1 vwCl (List.flatten [bMo g o a th hi ac tp ba en x_6 x_7 de iD iO tU fm fk fa fc ft ff fb fi]) H → va_D A (List.flatten [bMo g o a th hi ac tp ba en x_6 x_7 de iD iO tU fm fk fa fc ft ff fb fi]) → va_S A s.heap H locs → lv_has ls 2 [(0, .ref o), (1, .int x_5)] → W p l e ({ frames := 6, cells := 0, slots := 0, locals := 129 } : Room) s m args below meth c H locs (0) (0) (zF g (fun u : Int32 × Int32 × Int32 => (fun (at2 : Int32) (fl2 : Int32) (q : Int32) => some (.int q)) (u.1) (u.2.1) (u.2.2)) (fun u : Int32 × Int32 × Int32 => (fun (at2 : Int32) (fl2 : Int32) (q : Int32) => (0 ≤ at2.toInt ∧ at2.toInt ≤ en.toInt + 7 - de.toInt) ∧ (tA.toInt ≤ at2.toInt) ∧ (-1 ≤ fl2.toInt)) (u.1) (u.2.1) (u.2.2)) (fun u : Int32 × Int32 × Int32 => (fun (at2 : Int32) (fl2 : Int32) (q : Int32) => [bMo g o a th hi ac tp ba en at2 fl2 de iD iO tU fm fk fa fc ft ff fb fi]) (u.1) (u.2.1) (u.2.2)) ({ frames := 6, cells := 0, slots := 0, locals := 129 } : Room) below args s A) (F0 m 5 ls []) := by
    intro kf
    induction kf with
    | zero => intro x_5 x_6 x_7 i8 i9 i10 i11 i12 H locs ls hk; exact absurd hk (Nat.not_lt_zero _)
    | succ kf ih5_14 =>
      intro x_5 x_6 x_7 i8 i9 i10 i11 i12 H locs ls hk5_14 hP hD hS hl
      refine lv_aload_n hx hb dX12_sum_5 rfl (lv_at hl 0 rfl) ?_
      refine va_get (D := g.1) (ci := 10) (v := .int x_7) (C := RX12) (T := TX12) (N := 20) hx hb hts izRX12 hown hK hP 0 rfl rfl 12 (by decide) (hts _ k820) (fun _ h9 => h9) rfl dX12_sum_6 ?_
      refine lv_iconst (v := (-1)) hx hb dX12_sum_9 (by decide) ?_
      refine lv_icmp_ne (tgt := 42) hx hb dX12_sum_10 (by decide) (fun cb9 => ?_) (fun cb9 => ?_)
      · skip
        have c15 : ¬ x_7.toInt = (-1) := zne cb9 rfl (by decide)
        have n16 : 0 ≤ x_7.toInt := zN1 c15 i9 (by decide)
        refine lv_iload_n hx hb dX12_sum_42 rfl (lv_at hl 1 rfl) ?_
        have hP : va_P g.1 vwCl (List.flatten [bMo g o a th hi ac tp ba en x_6 x_7 de iD iO tU fm fk fa fc ft ff fb fi]) H := hP
        have hD : va_D A (List.flatten [bMo g o a th hi ac tp ba en x_6 x_7 de iD iO tU fm fk fa fc ft ff fb fi]) := hD
        exact mret_i hx hb hr hlocks hS (Nat.le_of_ble_eq_true rfl) (Nat.le_of_ble_eq_true rfl) dX12_sum_43 (x_6, x_7, x_5) rfl (show (0 ≤ x_6.toInt ∧ x_6.toInt ≤ en.toInt + 7 - de.toInt) ∧ (tA.toInt ≤ x_6.toInt) ∧ (-1 ≤ x_7.toInt) from ⟨(by first | assumption | omega | decide | exact rfl | exact zb01 (by omega) | exact Or.inl (by decide) | exact Or.inr (by first | omega | decide)), i10, i12⟩) hP hD
      · skip
        have c17 : x_7.toInt = (-1) := zeq cb9 rfl (by decide)
        have n18 : x_7.toInt ≤ (-1) := Int.le_trans (Int.le_of_eq c17) (Int.le_refl _)
        refine lv_aload_n hx hb dX12_sum_13 rfl (lv_at hl 0 rfl) ?_
        refine lv_bipush (v := 43) hx hb dX12_sum_14 (by decide) ?_
        refine mcallV' (g := g) (q0 := 0) (ci := 10) (As := [.int 43]) (rest := []) St hK hT hA hP hD hS hl.1 [0] [] rfl rfl rfl (m_isSign l g o a th hi ac tp ba en x_6 x_7 de iD iO tU fm fk fa fc ft ff fb fi 43 hba hen (by first | assumption | omega | decide | exact Or.inl (by decide) | exact Or.inr (by decide)) i12 hde) (cwV 1 hts (zgL (zl4 k938 k939 k940 k839) k883) rfl rfl rfl (by decide +kernel) ⟨Nat.le_of_ble_eq_true rfl, Nat.le_of_ble_eq_true rfl⟩) rfl rfl rfl rfl (Nat.le_of_ble_eq_true rfl) dX12_sum_16 ⟨(Nat.le_of_ble_eq_true rfl), (Nat.le_of_ble_eq_true rfl)⟩ (fun u_ H locs hq21 hP hD hS => ?_)
        obtain ⟨at2_19, q_20⟩ := u_
        replace hq21 : (0 ≤ at2_19.toInt ∧ at2_19.toInt ≤ en.toInt + 7 - de.toInt) ∧ (x_6.toInt ≤ at2_19.toInt) ∧ (q_20 = 1 ∧ at2_19.toInt < en.toInt ∨ q_20 = 0) := hq21
        have hP : va_P g.1 vwCl (List.flatten [bMo g o a th hi ac tp ba en at2_19 x_7 de iD iO tU fm fk fa fc ft ff fb fi]) H := hP
        have hD : va_D A (List.flatten [bMo g o a th hi ac tp ba en at2_19 x_7 de iD iO tU fm fk fa fc ft ff fb fi]) := hD
        refine W.widen (k := 0) (n := 0) (Nat.le_of_ble_eq_true rfl) (Nat.le_of_ble_eq_true rfl) ?_
        refine W.eq (g2 := F0 m 19 ls [.int q_20]) rfl ?_
        obtain ⟨hq21_0, hq21_1, hq21_2⟩ := hq21
        rcases hq21_2 with ⟨rfl, hq21_k⟩ | rfl
        · skip
          refine lv_if_eq (tgt := 42) hx hb dX12_sum_19 (by decide) (fun c22 => absurd c22 (by decide)) (fun _ => ?_)
          refine lv_aload_n hx hb dX12_sum_22 rfl (lv_at hl 0 rfl) ?_
          refine lv_dup hx hb dX12_sum_23 rfl ?_
          refine va_get (D := g.1) (ci := 10) (v := .int at2_19) (C := RX12) (T := TX12) (N := 20) hx hb hts izRX12 hown hK hP 0 rfl rfl 11 (by decide) (hts _ k878) (fun _ h9 => h9) rfl dX12_sum_24 ?_
          refine lv_iconst (v := 1) hx hb dX12_sum_27 (by decide) ?_
          refine lv_iadd hx hb dX12_sum_28 ?_
          refine zgv (zadd (i := at2_19.toInt) (j := 1) rfl (by decide) (by omega)) (fun x_23 hx_23 => ?_)
          refine va_put (D := g.1) (ci := 10) (v := .int x_23) (ty := .int) (C := RX12) (T := TX12) (N := 20) hx hb hts izRX12 tyX12 tyX12_ok nmX12 hown hK hP hD hS 0 rfl rfl 11 (by decide) (hts _ k878) (fun _ h9 => h9) rfl (by decide +kernel) rfl rfl (Nat.le_of_ble_eq_true rfl) dX12_sum_29 (fun H locs hP hD hS => ?_)
          have hP : va_P g.1 vwCl (List.flatten [bMo g o a th hi ac tp ba en x_23 x_7 de iD iO tU fm fk fa fc ft ff fb fi]) H := hP
          have hD : va_D A (List.flatten [bMo g o a th hi ac tp ba en x_23 x_7 de iD iO tU fm fk fa fc ft ff fb fi]) := hD
          refine lv_iload_n hx hb dX12_sum_32 rfl (lv_at hl 1 rfl) ?_
          refine lv_aload_n hx hb dX12_sum_33 rfl (lv_at hl 0 rfl) ?_
          refine mcallV' (g := g) (q0 := 0) (ci := 10) (As := []) (rest := [.int x_5]) St hK hT hA hP hD hS hl.1 [0] [] rfl rfl rfl (m_part l g o a th hi ac tp ba en x_23 x_7 de iD iO tU fm fk fa fc ft ff fb fi hba hen (by first | assumption | omega | decide | exact Or.inl (by decide) | exact Or.inr (by decide)) i12 hde) (cwV 0 hts (zgL (zl4 k935 k936 k937 k839) k934) rfl rfl rfl (by decide +kernel) ⟨Nat.le_of_ble_eq_true rfl, Nat.le_of_ble_eq_true rfl⟩) rfl rfl rfl rfl (Nat.le_of_ble_eq_true rfl) dX12_sum_34 ⟨(Nat.le_of_ble_eq_true rfl), (Nat.le_of_ble_eq_true rfl)⟩ (fun u_ H locs hq27 hP hD hS => ?_)
          obtain ⟨at2_24, fl2_25, q_26⟩ := u_
          replace hq27 : (0 ≤ at2_24.toInt ∧ at2_24.toInt ≤ en.toInt + 7 - de.toInt) ∧ (x_23.toInt ≤ at2_24.toInt) ∧ (-1 ≤ fl2_25.toInt) := hq27
          have hP : va_P g.1 vwCl (List.flatten [bMo g o a th hi ac tp ba en at2_24 fl2_25 de iD iO tU fm fk fa fc ft ff fb fi]) H := hP
          have hD : va_D A (List.flatten [bMo g o a th hi ac tp ba en at2_24 fl2_25 de iD iO tU fm fk fa fc ft ff fb fi]) := hD
          refine W.widen (k := 0) (n := 0) (Nat.le_of_ble_eq_true rfl) (Nat.le_of_ble_eq_true rfl) ?_
          refine W.eq (g2 := F0 m 37 ls [.int q_26, .int x_5]) rfl ?_
          obtain ⟨hq27_0, hq27_1, hq27_2⟩ := hq27
          refine lv_iadd hx hb dX12_sum_37 ?_
          refine zg (fun x_28 => ?_)
          refine lv_istore_n (lv' := [(1, .int x_28), (0, .ref o)]) hx hb dX12_sum_38 rfl hl (by decide) rfl (fun ls hl => ?_)
          refine lv_goto (tgt := 5) hx hb dX12_sum_39 (by decide) ?_
          have hl := lv_sub (l' := [(0, .ref o), (1, .int x_28)]) hl [1, 0] rfl
          have hP : va_P g.1 vwCl (List.flatten [bMo g o a th hi ac tp ba en at2_24 fl2_25 de iD iO tU fm fk fa fc ft ff fb fi]) H := hP
          have hD : va_D A (List.flatten [bMo g o a th hi ac tp ba en at2_24 fl2_25 de iD iO tU fm fk fa fc ft ff fb fi]) := hD
          exact ih5_14 x_28 at2_24 fl2_25 (by first | omega | assumption | decide) (by first | omega | assumption | decide) (by first | omega | assumption | decide) (by first | omega | assumption | decide) hq27_2 H _ ls (by omega)  hP hD hS (lv_sub hl [0, 1] rfl)
        · skip
          refine lv_if_eq (tgt := 42) hx hb dX12_sum_19 (by decide) (fun _ => ?_) (fun c29 => absurd (by decide) c29)
          refine lv_iload_n hx hb dX12_sum_42 rfl (lv_at hl 1 rfl) ?_
          have hP : va_P g.1 vwCl (List.flatten [bMo g o a th hi ac tp ba en at2_19 x_7 de iD iO tU fm fk fa fc ft ff fb fi]) H := hP
          have hD : va_D A (List.flatten [bMo g o a th hi ac tp ba en at2_19 x_7 de iD iO tU fm fk fa fc ft ff fb fi]) := hD
          exact mret_i hx hb hr hlocks hS (Nat.le_of_ble_eq_true rfl) (Nat.le_of_ble_eq_true rfl) dX12_sum_43 (at2_19, x_7, x_5) rfl (show (0 ≤ at2_19.toInt ∧ at2_19.toInt ≤ en.toInt + 7 - de.toInt) ∧ (tA.toInt ≤ at2_19.toInt) ∧ (-1 ≤ x_7.toInt) from ⟨hq21_0, (by first | assumption | omega | decide | exact rfl | exact zb01 (by omega) | exact Or.inl (by decide) | exact Or.inr (by first | omega | decide)), i12⟩) hP hD
  have hP : va_P g.1 vwCl (List.flatten [bMo g o a th hi ac tp ba en at2_1 fl2_2 de iD iO tU fm fk fa fc ft ff fb fi]) H := hP
  have hD : va_D A (List.flatten [bMo g o a th hi ac tp ba en at2_1 fl2_2 de iD iO tU fm fk fa fc ft ff fb fi]) := hD
  exact LP5_13 _ q_3 at2_1 fl2_2 (by first | omega | assumption | decide) (by first | omega | assumption | decide) hq4_1 (by first | omega | assumption | decide) hq4_2 H _ ls (Nat.lt_succ_self _)  hP hD hS (lv_sub hl [0, 1] rfl)
set_option maxRecDepth 100000 in
set_option maxHeartbeats 4000000 in
theorem m_plain (l : Launch) (g : zG) (o : Nat) (a : Nat → Nat) (th : Int32) (hi : Int32) (ac : Int32) (tp : Int32) (ba : Int32) (en : Int32) (tA : Int32) (fl : Int32) (de : Int32) (iD : Int32) (iO : Int32) (tU : Int32) (fm : Nat → Int32) (fk : Nat → Int32) (fa : Nat → Int32) (fc : Nat → Int32) (ft : Nat → Int32) (ff : Nat → Int32) (fb : Nat → Int32) (fi : Nat → Int32) (hiD : 0 ≤ iD.toInt ∧ iD.toInt ≤ 1) (hiO : 0 ≤ iO.toInt ∧ iO.toInt ≤ 1) (hba : zBa ba.toInt) (hen : 0 ≤ en.toInt ∧ en.toInt ≤ 400) (htA : 0 ≤ tA.toInt ∧ tA.toInt ≤ en.toInt + 7 - de.toInt) (hfl : -1 ≤ fl.toInt) (hde : 0 ≤ de.toInt ∧ de.toInt ≤ 6) : zM' g l yX12_plain (Cond.code yX12_plain cX12_plain 4 (some .boolean) :: zB) ({ frames := 7, cells := 0, slots := 0, locals := 150 } : Room) [.ref o] [bMo g o a th hi ac tp ba en tA fl de iD iO tU fm fk fa fc ft ff fb fi] (fun u : Int32 × Int32 × Int32 => (fun (at2 : Int32) (fl2 : Int32) (q : Int32) => some (.int q)) (u.1) (u.2.1) (u.2.2)) (fun u : Int32 × Int32 × Int32 => (fun (at2 : Int32) (fl2 : Int32) (q : Int32) => (0 ≤ at2.toInt ∧ at2.toInt ≤ en.toInt + 7 - de.toInt) ∧ (tA.toInt ≤ at2.toInt) ∧ (-1 ≤ fl2.toInt) ∧ (q = 0 ∨ q = 1)) (u.1) (u.2.1) (u.2.2)) (fun u : Int32 × Int32 × Int32 => (fun (at2 : Int32) (fl2 : Int32) (q : Int32) => [bMo g o a th hi ac tp ba en at2 fl2 de iD iO tU fm fk fa fc ft ff fb fi]) (u.1) (u.2.1) (u.2.2)) := by
  refine zM'.of (cc := cX12_plain) (maxL := 4) (rt := (some .boolean)) (by decide) rfl (Nat.le_of_ble_eq_true rfl) ?_
  intro p e s m args below meth c A ls St hr hlocks hin hK hT hA hP hD hS hl
  obtain ⟨hx, hb, hml, hown, hts⟩ := id St
  have hl : lv_has ls 4 [(0, .ref o)] := hl
  refine lv_aload_n hx hb dX12_plain_0 rfl (lv_at hl 0 rfl) ?_
  refine va_ldcS (q := g.2 64) hx hb hown (zra27 hT.2.1) dX12_plain_1 ?_
  refine mcallV' (g := g) (q0 := 0) (ci := 10) (As := [.ref (g.2 64)]) (rest := []) St hK hT hA hP hD hS hl.1 [0] [] rfl rfl rfl (m_has l g o a th hi ac tp ba en tA fl de iD iO tU fm fk fa fc ft ff fb fi (g.2 64) 27 zqa27 hba hen htA hfl hde rfl zla27 zna27) (cwV 1 hts (zgL (zl4 k899 k900 k901 k839) k889) rfl rfl rfl (by decide +kernel) ⟨Nat.le_of_ble_eq_true rfl, Nat.le_of_ble_eq_true rfl⟩) rfl rfl rfl rfl (Nat.le_of_ble_eq_true rfl) dX12_plain_3 ⟨(Nat.le_of_ble_eq_true rfl), (Nat.le_of_ble_eq_true rfl)⟩ (fun u_ H locs hq3 hP hD hS => ?_)
  obtain ⟨at2_1, r_2⟩ := u_
  replace hq3 : (0 ≤ at2_1.toInt ∧ at2_1.toInt ≤ en.toInt + 7 - de.toInt) ∧ (tA.toInt ≤ at2_1.toInt) ∧ (r_2 = 1 ∧ tA.toInt < at2_1.toInt ∧ at2_1.toInt ≤ en.toInt ∨ r_2 = 0) := hq3
  have hP : va_P g.1 vwCl (List.flatten [bMo g o a th hi ac tp ba en at2_1 fl de iD iO tU fm fk fa fc ft ff fb fi]) H := hP
  have hD : va_D A (List.flatten [bMo g o a th hi ac tp ba en at2_1 fl de iD iO tU fm fk fa fc ft ff fb fi]) := hD
  refine W.widen (k := 0) (n := 0) (Nat.le_of_ble_eq_true rfl) (Nat.le_of_ble_eq_true rfl) ?_
  refine W.eq (g2 := F0 m 6 ls [.int r_2]) rfl ?_
  obtain ⟨hq3_0, hq3_1, hq3_2⟩ := hq3
  rcases hq3_2 with ⟨rfl, hq3_k⟩ | rfl
  · skip
    refine lv_if_eq (tgt := 14) hx hb dX12_plain_6 (by decide) (fun c4 => absurd c4 (by decide)) (fun _ => ?_)
    refine lv_aload_n hx hb dX12_plain_9 rfl (lv_at hl 0 rfl) ?_
    refine va_get (D := g.1) (ci := 10) (v := .int iD) (C := RX12) (T := TX12) (N := 20) hx hb hts izRX12 hown hK hP 0 rfl rfl 15 (by decide) (hts _ k942) (fun _ h9 => h9) rfl dX12_plain_10 ?_
    have hP : va_P g.1 vwCl (List.flatten [bMo g o a th hi ac tp ba en at2_1 fl de iD iO tU fm fk fa fc ft ff fb fi]) H := hP
    have hD : va_D A (List.flatten [bMo g o a th hi ac tp ba en at2_1 fl de iD iO tU fm fk fa fc ft ff fb fi]) := hD
    exact mret_z hx hb hr hlocks hS (Nat.le_of_ble_eq_true rfl) (Nat.le_of_ble_eq_true rfl) dX12_plain_13 (at2_1, fl, iD) rfl (by first | assumption | exact zb01 (by omega)) (show (0 ≤ at2_1.toInt ∧ at2_1.toInt ≤ en.toInt + 7 - de.toInt) ∧ (tA.toInt ≤ at2_1.toInt) ∧ (-1 ≤ fl.toInt) ∧ (iD = 0 ∨ iD = 1) from ⟨hq3_0, hq3_1, hfl, (by first | assumption | omega | decide | exact rfl | exact zb01 (by omega) | exact Or.inl (by decide) | exact Or.inr (by first | omega | decide))⟩) hP hD
  · skip
    refine lv_if_eq (tgt := 14) hx hb dX12_plain_6 (by decide) (fun _ => ?_) (fun c5 => absurd (by decide) c5)
    refine lv_aload_n hx hb dX12_plain_14 rfl (lv_at hl 0 rfl) ?_
    refine va_ldcS (q := g.2 96) hx hb hown (zra43 hT.2.1) dX12_plain_15 ?_
    refine mcallV' (g := g) (q0 := 0) (ci := 10) (As := [.ref (g.2 96)]) (rest := []) St hK hT hA hP hD hS hl.1 [0] [] rfl rfl rfl (m_has l g o a th hi ac tp ba en at2_1 fl de iD iO tU fm fk fa fc ft ff fb fi (g.2 96) 43 zqa43 hba hen hq3_0 hfl hde rfl zla43 zna43) (cwV 1 hts (zgL (zl4 k899 k900 k901 k839) k889) rfl rfl rfl (by decide +kernel) ⟨Nat.le_of_ble_eq_true rfl, Nat.le_of_ble_eq_true rfl⟩) rfl rfl rfl rfl (Nat.le_of_ble_eq_true rfl) dX12_plain_17 ⟨(Nat.le_of_ble_eq_true rfl), (Nat.le_of_ble_eq_true rfl)⟩ (fun u_ H locs hq8 hP hD hS => ?_)
    obtain ⟨at2_6, r_7⟩ := u_
    replace hq8 : (0 ≤ at2_6.toInt ∧ at2_6.toInt ≤ en.toInt + 7 - de.toInt) ∧ (at2_1.toInt ≤ at2_6.toInt) ∧ (r_7 = 1 ∧ at2_1.toInt < at2_6.toInt ∧ at2_6.toInt ≤ en.toInt ∨ r_7 = 0) := hq8
    have hP : va_P g.1 vwCl (List.flatten [bMo g o a th hi ac tp ba en at2_6 fl de iD iO tU fm fk fa fc ft ff fb fi]) H := hP
    have hD : va_D A (List.flatten [bMo g o a th hi ac tp ba en at2_6 fl de iD iO tU fm fk fa fc ft ff fb fi]) := hD
    refine W.widen (k := 0) (n := 0) (Nat.le_of_ble_eq_true rfl) (Nat.le_of_ble_eq_true rfl) ?_
    refine W.eq (g2 := F0 m 20 ls [.int r_7]) rfl ?_
    obtain ⟨hq8_0, hq8_1, hq8_2⟩ := hq8
    rcases hq8_2 with ⟨rfl, hq8_k⟩ | rfl
    · skip
      refine lv_if_eq (tgt := 28) hx hb dX12_plain_20 (by decide) (fun c9 => absurd c9 (by decide)) (fun _ => ?_)
      refine lv_aload_n hx hb dX12_plain_23 rfl (lv_at hl 0 rfl) ?_
      refine va_get (D := g.1) (ci := 10) (v := .int iO) (C := RX12) (T := TX12) (N := 20) hx hb hts izRX12 hown hK hP 0 rfl rfl 16 (by decide) (hts _ k943) (fun _ h9 => h9) rfl dX12_plain_24 ?_
      have hP : va_P g.1 vwCl (List.flatten [bMo g o a th hi ac tp ba en at2_6 fl de iD iO tU fm fk fa fc ft ff fb fi]) H := hP
      have hD : va_D A (List.flatten [bMo g o a th hi ac tp ba en at2_6 fl de iD iO tU fm fk fa fc ft ff fb fi]) := hD
      exact mret_z hx hb hr hlocks hS (Nat.le_of_ble_eq_true rfl) (Nat.le_of_ble_eq_true rfl) dX12_plain_27 (at2_6, fl, iO) rfl (by first | assumption | exact zb01 (by omega)) (show (0 ≤ at2_6.toInt ∧ at2_6.toInt ≤ en.toInt + 7 - de.toInt) ∧ (tA.toInt ≤ at2_6.toInt) ∧ (-1 ≤ fl.toInt) ∧ (iO = 0 ∨ iO = 1) from ⟨hq8_0, (by first | assumption | omega | decide | exact rfl | exact zb01 (by omega) | exact Or.inl (by decide) | exact Or.inr (by first | omega | decide)), hfl, (by first | assumption | omega | decide | exact rfl | exact zb01 (by omega) | exact Or.inl (by decide) | exact Or.inr (by first | omega | decide))⟩) hP hD
    · skip
      refine lv_if_eq (tgt := 28) hx hb dX12_plain_20 (by decide) (fun _ => ?_) (fun c10 => absurd (by decide) c10)
      refine lv_aload_n hx hb dX12_plain_28 rfl (lv_at hl 0 rfl) ?_
      refine mcallV' (g := g) (q0 := 0) (ci := 10) (As := []) (rest := []) St hK hT hA hP hD hS hl.1 [0] [] rfl rfl rfl (m_sum l g o a th hi ac tp ba en at2_6 fl de iD iO tU fm fk fa fc ft ff fb fi hba hen hq8_0 hfl hde) (cwV 0 hts (zgL (zl4 k944 k945 k946 k839) k941) rfl rfl rfl (by decide +kernel) ⟨Nat.le_of_ble_eq_true rfl, Nat.le_of_ble_eq_true rfl⟩) rfl rfl rfl rfl (Nat.le_of_ble_eq_true rfl) dX12_plain_29 ⟨(Nat.le_of_ble_eq_true rfl), (Nat.le_of_ble_eq_true rfl)⟩ (fun u_ H locs hq14 hP hD hS => ?_)
      obtain ⟨at2_11, fl2_12, q_13⟩ := u_
      replace hq14 : (0 ≤ at2_11.toInt ∧ at2_11.toInt ≤ en.toInt + 7 - de.toInt) ∧ (at2_6.toInt ≤ at2_11.toInt) ∧ (-1 ≤ fl2_12.toInt) := hq14
      have hP : va_P g.1 vwCl (List.flatten [bMo g o a th hi ac tp ba en at2_11 fl2_12 de iD iO tU fm fk fa fc ft ff fb fi]) H := hP
      have hD : va_D A (List.flatten [bMo g o a th hi ac tp ba en at2_11 fl2_12 de iD iO tU fm fk fa fc ft ff fb fi]) := hD
      refine W.widen (k := 0) (n := 0) (Nat.le_of_ble_eq_true rfl) (Nat.le_of_ble_eq_true rfl) ?_
      refine W.eq (g2 := F0 m 32 ls [.int q_13]) rfl ?_
      obtain ⟨hq14_0, hq14_1, hq14_2⟩ := hq14
      refine lv_istore_n (lv' := [(1, .int q_13), (0, .ref o)]) hx hb dX12_plain_32 rfl hl (by decide) rfl (fun ls hl => ?_)
      refine lv_aload_n hx hb dX12_plain_33 rfl (lv_at hl 1 rfl) ?_
      refine va_get (D := g.1) (ci := 10) (v := .int fl2_12) (C := RX12) (T := TX12) (N := 20) hx hb hts izRX12 hown hK hP 0 rfl rfl 12 (by decide) (hts _ k820) (fun _ h9 => h9) rfl dX12_plain_34 ?_
      refine lv_iconst (v := (-1)) hx hb dX12_plain_37 (by decide) ?_
      refine lv_icmp_eq (tgt := 43) hx hb dX12_plain_38 (by decide) (fun cb9 => ?_) (fun cb9 => ?_)
      · skip
        have c15 : fl2_12.toInt = (-1) := zeq cb9 rfl (by decide)
        have n16 : fl2_12.toInt ≤ (-1) := Int.le_trans (Int.le_of_eq c15) (Int.le_refl _)
        refine lv_aload_n hx hb dX12_plain_43 rfl (lv_at hl 1 rfl) ?_
        refine lv_bipush (v := 60) hx hb dX12_plain_44 (by decide) ?_
        refine mcallV' (g := g) (q0 := 0) (ci := 10) (As := [.int 60]) (rest := []) St hK hT hA hP hD hS hl.1 [0] [] rfl rfl rfl (m_isSign l g o a th hi ac tp ba en at2_11 fl2_12 de iD iO tU fm fk fa fc ft ff fb fi 60 hba hen hq14_0 hq14_2 hde) (cwV 1 hts (zgL (zl4 k938 k939 k940 k839) k883) rfl rfl rfl (by decide +kernel) ⟨Nat.le_of_ble_eq_true rfl, Nat.le_of_ble_eq_true rfl⟩) rfl rfl rfl rfl (Nat.le_of_ble_eq_true rfl) dX12_plain_46 ⟨(Nat.le_of_ble_eq_true rfl), (Nat.le_of_ble_eq_true rfl)⟩ (fun u_ H locs hq19 hP hD hS => ?_)
        obtain ⟨at2_17, q_18⟩ := u_
        replace hq19 : (0 ≤ at2_17.toInt ∧ at2_17.toInt ≤ en.toInt + 7 - de.toInt) ∧ (at2_11.toInt ≤ at2_17.toInt) ∧ (q_18 = 1 ∧ at2_17.toInt < en.toInt ∨ q_18 = 0) := hq19
        have hP : va_P g.1 vwCl (List.flatten [bMo g o a th hi ac tp ba en at2_17 fl2_12 de iD iO tU fm fk fa fc ft ff fb fi]) H := hP
        have hD : va_D A (List.flatten [bMo g o a th hi ac tp ba en at2_17 fl2_12 de iD iO tU fm fk fa fc ft ff fb fi]) := hD
        refine W.widen (k := 0) (n := 0) (Nat.le_of_ble_eq_true rfl) (Nat.le_of_ble_eq_true rfl) ?_
        refine W.eq (g2 := F0 m 49 ls [.int q_18]) rfl ?_
        obtain ⟨hq19_0, hq19_1, hq19_2⟩ := hq19
        rcases hq19_2 with ⟨rfl, hq19_k⟩ | rfl
        · skip
          refine lv_istore_n (lv' := [(2, .int 1), (1, .int q_13), (0, .ref o)]) hx hb dX12_plain_49 rfl hl (by decide) rfl (fun ls hl => ?_)
          refine lv_iload_n hx hb dX12_plain_50 rfl (lv_at hl 0 rfl) ?_
          refine lv_if_ne (tgt := 73) hx hb dX12_plain_51 (by decide) (fun _ => ?_) (fun c20 => absurd c20 (by decide))
          refine lv_aload_n hx hb dX12_plain_73 rfl (lv_at hl 2 rfl) ?_
          refine lv_dup hx hb dX12_plain_74 rfl ?_
          refine va_get (D := g.1) (ci := 10) (v := .int at2_17) (C := RX12) (T := TX12) (N := 20) hx hb hts izRX12 hown hK hP 0 rfl rfl 11 (by decide) (hts _ k878) (fun _ h9 => h9) rfl dX12_plain_75 ?_
          refine lv_iconst (v := 1) hx hb dX12_plain_78 (by decide) ?_
          refine lv_iadd hx hb dX12_plain_79 ?_
          refine zgv (zadd (i := at2_17.toInt) (j := 1) rfl (by decide) (by omega)) (fun x_21 hx_21 => ?_)
          refine va_put (D := g.1) (ci := 10) (v := .int x_21) (ty := .int) (C := RX12) (T := TX12) (N := 20) hx hb hts izRX12 tyX12 tyX12_ok nmX12 hown hK hP hD hS 0 rfl rfl 11 (by decide) (hts _ k878) (fun _ h9 => h9) rfl (by decide +kernel) rfl rfl (Nat.le_of_ble_eq_true rfl) dX12_plain_80 (fun H locs hP hD hS => ?_)
          have hP : va_P g.1 vwCl (List.flatten [bMo g o a th hi ac tp ba en x_21 fl2_12 de iD iO tU fm fk fa fc ft ff fb fi]) H := hP
          have hD : va_D A (List.flatten [bMo g o a th hi ac tp ba en x_21 fl2_12 de iD iO tU fm fk fa fc ft ff fb fi]) := hD
          refine lv_aload_n hx hb dX12_plain_83 rfl (lv_at hl 2 rfl) ?_
          refine mcallV' (g := g) (q0 := 0) (ci := 10) (As := []) (rest := []) St hK hT hA hP hD hS hl.1 [0] [] rfl rfl rfl (m_sum l g o a th hi ac tp ba en x_21 fl2_12 de iD iO tU fm fk fa fc ft ff fb fi hba hen (by first | assumption | omega | decide | exact Or.inl (by decide) | exact Or.inr (by decide)) hq14_2 hde) (cwV 0 hts (zgL (zl4 k944 k945 k946 k839) k941) rfl rfl rfl (by decide +kernel) ⟨Nat.le_of_ble_eq_true rfl, Nat.le_of_ble_eq_true rfl⟩) rfl rfl rfl rfl (Nat.le_of_ble_eq_true rfl) dX12_plain_84 ⟨(Nat.le_of_ble_eq_true rfl), (Nat.le_of_ble_eq_true rfl)⟩ (fun u_ H locs hq25 hP hD hS => ?_)
          obtain ⟨at2_22, fl2_23, q_24⟩ := u_
          replace hq25 : (0 ≤ at2_22.toInt ∧ at2_22.toInt ≤ en.toInt + 7 - de.toInt) ∧ (x_21.toInt ≤ at2_22.toInt) ∧ (-1 ≤ fl2_23.toInt) := hq25
          have hP : va_P g.1 vwCl (List.flatten [bMo g o a th hi ac tp ba en at2_22 fl2_23 de iD iO tU fm fk fa fc ft ff fb fi]) H := hP
          have hD : va_D A (List.flatten [bMo g o a th hi ac tp ba en at2_22 fl2_23 de iD iO tU fm fk fa fc ft ff fb fi]) := hD
          refine W.widen (k := 0) (n := 0) (Nat.le_of_ble_eq_true rfl) (Nat.le_of_ble_eq_true rfl) ?_
          refine W.eq (g2 := F0 m 87 ls [.int q_24]) rfl ?_
          obtain ⟨hq25_0, hq25_1, hq25_2⟩ := hq25
          refine lv_istore_n (lv' := [(3, .int q_24), (2, .int 1), (1, .int q_13), (0, .ref o)]) hx hb dX12_plain_87 rfl hl (by decide) rfl (fun ls hl => ?_)
          refine lv_iload_n hx hb dX12_plain_88 rfl (lv_at hl 1 rfl) ?_
          refine lv_if_eq (tgt := 105) hx hb dX12_plain_89 (by decide) (fun c26 => absurd c26 (by decide)) (fun _ => ?_)
          refine lv_iload_n hx hb dX12_plain_92 rfl (lv_at hl 2 rfl) ?_
          refine lv_iload_n hx hb dX12_plain_93 rfl (lv_at hl 0 rfl) ?_
          refine lv_icmp_ge (tgt := 101) hx hb dX12_plain_94 (by decide) (fun cb9 => ?_) (fun cb9 => ?_)
          · skip
            have c27 : q_24.toInt ≤ q_13.toInt := zle cb9 rfl rfl
            refine lv_iconst (v := 0) hx hb dX12_plain_101 (by decide) ?_
            refine lv_goto (tgt := 115) hx hb dX12_plain_102 (by decide) ?_
            have hP : va_P g.1 vwCl (List.flatten [bMo g o a th hi ac tp ba en at2_22 fl2_23 de iD iO tU fm fk fa fc ft ff fb fi]) H := hP
            have hD : va_D A (List.flatten [bMo g o a th hi ac tp ba en at2_22 fl2_23 de iD iO tU fm fk fa fc ft ff fb fi]) := hD
            exact mret_z hx hb hr hlocks hS (Nat.le_of_ble_eq_true rfl) (Nat.le_of_ble_eq_true rfl) dX12_plain_115 (at2_22, fl2_23, (0 : Int32)) rfl (by decide) (show (0 ≤ at2_22.toInt ∧ at2_22.toInt ≤ en.toInt + 7 - de.toInt) ∧ (tA.toInt ≤ at2_22.toInt) ∧ (-1 ≤ fl2_23.toInt) ∧ (0 = 0 ∨ 0 = 1) from ⟨hq25_0, (by first | assumption | omega | decide | exact rfl | exact zb01 (by omega) | exact Or.inl (by decide) | exact Or.inr (by first | omega | decide)), hq25_2, (by decide)⟩) hP hD
          · skip
            have c28 : q_13.toInt < q_24.toInt := zlti (Int32.not_le.mp cb9) rfl rfl
            refine lv_iconst (v := 1) hx hb dX12_plain_97 (by decide) ?_
            refine lv_goto (tgt := 115) hx hb dX12_plain_98 (by decide) ?_
            have hP : va_P g.1 vwCl (List.flatten [bMo g o a th hi ac tp ba en at2_22 fl2_23 de iD iO tU fm fk fa fc ft ff fb fi]) H := hP
            have hD : va_D A (List.flatten [bMo g o a th hi ac tp ba en at2_22 fl2_23 de iD iO tU fm fk fa fc ft ff fb fi]) := hD
            exact mret_z hx hb hr hlocks hS (Nat.le_of_ble_eq_true rfl) (Nat.le_of_ble_eq_true rfl) dX12_plain_115 (at2_22, fl2_23, (1 : Int32)) rfl (by decide) (show (0 ≤ at2_22.toInt ∧ at2_22.toInt ≤ en.toInt + 7 - de.toInt) ∧ (tA.toInt ≤ at2_22.toInt) ∧ (-1 ≤ fl2_23.toInt) ∧ (1 = 0 ∨ 1 = 1) from ⟨hq25_0, (by first | assumption | omega | decide | exact rfl | exact zb01 (by omega) | exact Or.inl (by decide) | exact Or.inr (by first | omega | decide)), hq25_2, (by decide)⟩) hP hD
        · skip
          refine lv_istore_n (lv' := [(2, .int 0), (1, .int q_13), (0, .ref o)]) hx hb dX12_plain_49 rfl hl (by decide) rfl (fun ls hl => ?_)
          refine lv_iload_n hx hb dX12_plain_50 rfl (lv_at hl 0 rfl) ?_
          refine lv_if_ne (tgt := 73) hx hb dX12_plain_51 (by decide) (fun c29 => absurd (by decide) c29) (fun _ => ?_)
          refine lv_aload_n hx hb dX12_plain_54 rfl (lv_at hl 2 rfl) ?_
          refine lv_bipush (v := 62) hx hb dX12_plain_55 (by decide) ?_
          refine mcallV' (g := g) (q0 := 0) (ci := 10) (As := [.int 62]) (rest := []) St hK hT hA hP hD hS hl.1 [0] [] rfl rfl rfl (m_isSign l g o a th hi ac tp ba en at2_17 fl2_12 de iD iO tU fm fk fa fc ft ff fb fi 62 hba hen hq19_0 hq14_2 hde) (cwV 1 hts (zgL (zl4 k938 k939 k940 k839) k883) rfl rfl rfl (by decide +kernel) ⟨Nat.le_of_ble_eq_true rfl, Nat.le_of_ble_eq_true rfl⟩) rfl rfl rfl rfl (Nat.le_of_ble_eq_true rfl) dX12_plain_57 ⟨(Nat.le_of_ble_eq_true rfl), (Nat.le_of_ble_eq_true rfl)⟩ (fun u_ H locs hq32 hP hD hS => ?_)
          obtain ⟨at2_30, q_31⟩ := u_
          replace hq32 : (0 ≤ at2_30.toInt ∧ at2_30.toInt ≤ en.toInt + 7 - de.toInt) ∧ (at2_17.toInt ≤ at2_30.toInt) ∧ (q_31 = 1 ∧ at2_30.toInt < en.toInt ∨ q_31 = 0) := hq32
          have hP : va_P g.1 vwCl (List.flatten [bMo g o a th hi ac tp ba en at2_30 fl2_12 de iD iO tU fm fk fa fc ft ff fb fi]) H := hP
          have hD : va_D A (List.flatten [bMo g o a th hi ac tp ba en at2_30 fl2_12 de iD iO tU fm fk fa fc ft ff fb fi]) := hD
          refine W.widen (k := 0) (n := 0) (Nat.le_of_ble_eq_true rfl) (Nat.le_of_ble_eq_true rfl) ?_
          refine W.eq (g2 := F0 m 60 ls [.int q_31]) rfl ?_
          obtain ⟨hq32_0, hq32_1, hq32_2⟩ := hq32
          rcases hq32_2 with ⟨rfl, hq32_k⟩ | rfl
          · skip
            refine lv_if_ne (tgt := 73) hx hb dX12_plain_60 (by decide) (fun _ => ?_) (fun c33 => absurd c33 (by decide))
            refine lv_aload_n hx hb dX12_plain_73 rfl (lv_at hl 2 rfl) ?_
            refine lv_dup hx hb dX12_plain_74 rfl ?_
            refine va_get (D := g.1) (ci := 10) (v := .int at2_30) (C := RX12) (T := TX12) (N := 20) hx hb hts izRX12 hown hK hP 0 rfl rfl 11 (by decide) (hts _ k878) (fun _ h9 => h9) rfl dX12_plain_75 ?_
            refine lv_iconst (v := 1) hx hb dX12_plain_78 (by decide) ?_
            refine lv_iadd hx hb dX12_plain_79 ?_
            refine zgv (zadd (i := at2_30.toInt) (j := 1) rfl (by decide) (by omega)) (fun x_34 hx_34 => ?_)
            refine va_put (D := g.1) (ci := 10) (v := .int x_34) (ty := .int) (C := RX12) (T := TX12) (N := 20) hx hb hts izRX12 tyX12 tyX12_ok nmX12 hown hK hP hD hS 0 rfl rfl 11 (by decide) (hts _ k878) (fun _ h9 => h9) rfl (by decide +kernel) rfl rfl (Nat.le_of_ble_eq_true rfl) dX12_plain_80 (fun H locs hP hD hS => ?_)
            have hP : va_P g.1 vwCl (List.flatten [bMo g o a th hi ac tp ba en x_34 fl2_12 de iD iO tU fm fk fa fc ft ff fb fi]) H := hP
            have hD : va_D A (List.flatten [bMo g o a th hi ac tp ba en x_34 fl2_12 de iD iO tU fm fk fa fc ft ff fb fi]) := hD
            refine lv_aload_n hx hb dX12_plain_83 rfl (lv_at hl 2 rfl) ?_
            refine mcallV' (g := g) (q0 := 0) (ci := 10) (As := []) (rest := []) St hK hT hA hP hD hS hl.1 [0] [] rfl rfl rfl (m_sum l g o a th hi ac tp ba en x_34 fl2_12 de iD iO tU fm fk fa fc ft ff fb fi hba hen (by first | assumption | omega | decide | exact Or.inl (by decide) | exact Or.inr (by decide)) hq14_2 hde) (cwV 0 hts (zgL (zl4 k944 k945 k946 k839) k941) rfl rfl rfl (by decide +kernel) ⟨Nat.le_of_ble_eq_true rfl, Nat.le_of_ble_eq_true rfl⟩) rfl rfl rfl rfl (Nat.le_of_ble_eq_true rfl) dX12_plain_84 ⟨(Nat.le_of_ble_eq_true rfl), (Nat.le_of_ble_eq_true rfl)⟩ (fun u_ H locs hq38 hP hD hS => ?_)
            obtain ⟨at2_35, fl2_36, q_37⟩ := u_
            replace hq38 : (0 ≤ at2_35.toInt ∧ at2_35.toInt ≤ en.toInt + 7 - de.toInt) ∧ (x_34.toInt ≤ at2_35.toInt) ∧ (-1 ≤ fl2_36.toInt) := hq38
            have hP : va_P g.1 vwCl (List.flatten [bMo g o a th hi ac tp ba en at2_35 fl2_36 de iD iO tU fm fk fa fc ft ff fb fi]) H := hP
            have hD : va_D A (List.flatten [bMo g o a th hi ac tp ba en at2_35 fl2_36 de iD iO tU fm fk fa fc ft ff fb fi]) := hD
            refine W.widen (k := 0) (n := 0) (Nat.le_of_ble_eq_true rfl) (Nat.le_of_ble_eq_true rfl) ?_
            refine W.eq (g2 := F0 m 87 ls [.int q_37]) rfl ?_
            obtain ⟨hq38_0, hq38_1, hq38_2⟩ := hq38
            refine lv_istore_n (lv' := [(3, .int q_37), (2, .int 0), (1, .int q_13), (0, .ref o)]) hx hb dX12_plain_87 rfl hl (by decide) rfl (fun ls hl => ?_)
            refine lv_iload_n hx hb dX12_plain_88 rfl (lv_at hl 1 rfl) ?_
            refine lv_if_eq (tgt := 105) hx hb dX12_plain_89 (by decide) (fun _ => ?_) (fun c39 => absurd (by decide) c39)
            refine lv_iload_n hx hb dX12_plain_105 rfl (lv_at hl 2 rfl) ?_
            refine lv_iload_n hx hb dX12_plain_106 rfl (lv_at hl 0 rfl) ?_
            refine lv_icmp_le (tgt := 114) hx hb dX12_plain_107 (by decide) (fun cb9 => ?_) (fun cb9 => ?_)
            · skip
              have c40 : q_13.toInt ≤ q_37.toInt := zle cb9 rfl rfl
              refine lv_iconst (v := 0) hx hb dX12_plain_114 (by decide) ?_
              have hP : va_P g.1 vwCl (List.flatten [bMo g o a th hi ac tp ba en at2_35 fl2_36 de iD iO tU fm fk fa fc ft ff fb fi]) H := hP
              have hD : va_D A (List.flatten [bMo g o a th hi ac tp ba en at2_35 fl2_36 de iD iO tU fm fk fa fc ft ff fb fi]) := hD
              exact mret_z hx hb hr hlocks hS (Nat.le_of_ble_eq_true rfl) (Nat.le_of_ble_eq_true rfl) dX12_plain_115 (at2_35, fl2_36, (0 : Int32)) rfl (by decide) (show (0 ≤ at2_35.toInt ∧ at2_35.toInt ≤ en.toInt + 7 - de.toInt) ∧ (tA.toInt ≤ at2_35.toInt) ∧ (-1 ≤ fl2_36.toInt) ∧ (0 = 0 ∨ 0 = 1) from ⟨hq38_0, (by first | assumption | omega | decide | exact rfl | exact zb01 (by omega) | exact Or.inl (by decide) | exact Or.inr (by first | omega | decide)), hq38_2, (by decide)⟩) hP hD
            · skip
              have c41 : q_37.toInt < q_13.toInt := zlti (Int32.not_le.mp cb9) rfl rfl
              refine lv_iconst (v := 1) hx hb dX12_plain_110 (by decide) ?_
              refine lv_goto (tgt := 115) hx hb dX12_plain_111 (by decide) ?_
              have hP : va_P g.1 vwCl (List.flatten [bMo g o a th hi ac tp ba en at2_35 fl2_36 de iD iO tU fm fk fa fc ft ff fb fi]) H := hP
              have hD : va_D A (List.flatten [bMo g o a th hi ac tp ba en at2_35 fl2_36 de iD iO tU fm fk fa fc ft ff fb fi]) := hD
              exact mret_z hx hb hr hlocks hS (Nat.le_of_ble_eq_true rfl) (Nat.le_of_ble_eq_true rfl) dX12_plain_115 (at2_35, fl2_36, (1 : Int32)) rfl (by decide) (show (0 ≤ at2_35.toInt ∧ at2_35.toInt ≤ en.toInt + 7 - de.toInt) ∧ (tA.toInt ≤ at2_35.toInt) ∧ (-1 ≤ fl2_36.toInt) ∧ (1 = 0 ∨ 1 = 1) from ⟨hq38_0, (by first | assumption | omega | decide | exact rfl | exact zb01 (by omega) | exact Or.inl (by decide) | exact Or.inr (by first | omega | decide)), hq38_2, (by decide)⟩) hP hD
          · skip
            refine lv_if_ne (tgt := 73) hx hb dX12_plain_60 (by decide) (fun c42 => absurd (by decide) c42) (fun _ => ?_)
            refine lv_aload_n hx hb dX12_plain_63 rfl (lv_at hl 2 rfl) ?_
            refine lv_aload_n hx hb dX12_plain_64 rfl (lv_at hl 2 rfl) ?_
            refine va_get (D := g.1) (ci := 10) (v := .int at2_30) (C := RX12) (T := TX12) (N := 20) hx hb hts izRX12 hown hK hP 0 rfl rfl 11 (by decide) (hts _ k878) (fun _ h9 => h9) rfl dX12_plain_65 ?_
            refine mcallV' (g := g) (q0 := 0) (ci := 10) (As := [.int at2_30]) (rest := []) St hK hT hA hP hD hS hl.1 [0] [] rfl rfl rfl (m_wrong l g o a th hi ac tp ba en at2_30 fl2_12 de iD iO tU fm fk fa fc ft ff fb fi at2_30 (by first | assumption | omega | decide | exact Or.inl (by decide) | exact Or.inr (by decide)) hq14_2) (cwV 1 hts (zgL (zl4 k895 k896 k897 k839) k890) rfl rfl rfl (by decide +kernel) ⟨Nat.le_of_ble_eq_true rfl, Nat.le_of_ble_eq_true rfl⟩) rfl rfl rfl rfl (Nat.le_of_ble_eq_true rfl) dX12_plain_68 ⟨(Nat.le_of_ble_eq_true rfl), (Nat.le_of_ble_eq_true rfl)⟩ (fun fl2_43 H locs hq44 hP hD hS => ?_)
            replace hq44 : (0 ≤ fl2_43.toInt) := hq44
            have hP : va_P g.1 vwCl (List.flatten [bMo g o a th hi ac tp ba en at2_30 fl2_43 de iD iO tU fm fk fa fc ft ff fb fi]) H := hP
            have hD : va_D A (List.flatten [bMo g o a th hi ac tp ba en at2_30 fl2_43 de iD iO tU fm fk fa fc ft ff fb fi]) := hD
            refine W.widen (k := 0) (n := 0) (Nat.le_of_ble_eq_true rfl) (Nat.le_of_ble_eq_true rfl) ?_
            refine W.eq (g2 := F0 m 71 ls []) rfl ?_
            refine lv_iconst (v := 0) hx hb dX12_plain_71 (by decide) ?_
            have hP : va_P g.1 vwCl (List.flatten [bMo g o a th hi ac tp ba en at2_30 fl2_43 de iD iO tU fm fk fa fc ft ff fb fi]) H := hP
            have hD : va_D A (List.flatten [bMo g o a th hi ac tp ba en at2_30 fl2_43 de iD iO tU fm fk fa fc ft ff fb fi]) := hD
            exact mret_z hx hb hr hlocks hS (Nat.le_of_ble_eq_true rfl) (Nat.le_of_ble_eq_true rfl) dX12_plain_72 (at2_30, fl2_43, (0 : Int32)) rfl (by decide) (show (0 ≤ at2_30.toInt ∧ at2_30.toInt ≤ en.toInt + 7 - de.toInt) ∧ (tA.toInt ≤ at2_30.toInt) ∧ (-1 ≤ fl2_43.toInt) ∧ (0 = 0 ∨ 0 = 1) from ⟨hq32_0, (by first | assumption | omega | decide | exact rfl | exact zb01 (by omega) | exact Or.inl (by decide) | exact Or.inr (by first | omega | decide)), (by first | assumption | omega | decide | exact rfl | exact zb01 (by omega) | exact Or.inl (by decide) | exact Or.inr (by first | omega | decide)), (by decide)⟩) hP hD
      · skip
        have c45 : ¬ fl2_12.toInt = (-1) := zne cb9 rfl (by decide)
        refine lv_iconst (v := 0) hx hb dX12_plain_41 (by decide) ?_
        have hP : va_P g.1 vwCl (List.flatten [bMo g o a th hi ac tp ba en at2_11 fl2_12 de iD iO tU fm fk fa fc ft ff fb fi]) H := hP
        have hD : va_D A (List.flatten [bMo g o a th hi ac tp ba en at2_11 fl2_12 de iD iO tU fm fk fa fc ft ff fb fi]) := hD
        exact mret_z hx hb hr hlocks hS (Nat.le_of_ble_eq_true rfl) (Nat.le_of_ble_eq_true rfl) dX12_plain_42 (at2_11, fl2_12, (0 : Int32)) rfl (by decide) (show (0 ≤ at2_11.toInt ∧ at2_11.toInt ≤ en.toInt + 7 - de.toInt) ∧ (tA.toInt ≤ at2_11.toInt) ∧ (-1 ≤ fl2_12.toInt) ∧ (0 = 0 ∨ 0 = 1) from ⟨hq14_0, (by first | assumption | omega | decide | exact rfl | exact zb01 (by omega) | exact Or.inl (by decide) | exact Or.inr (by first | omega | decide)), hq14_2, (by decide)⟩) hP hD
set_option maxRecDepth 100000 in
set_option maxHeartbeats 4000000 in
theorem m_atom6 (l : Launch) (g : zG) (o : Nat) (a : Nat → Nat) (th : Int32) (hi : Int32) (ac : Int32) (tp : Int32) (ba : Int32) (en : Int32) (tA : Int32) (fl : Int32) (iD : Int32) (iO : Int32) (tU : Int32) (fm : Nat → Int32) (fk : Nat → Int32) (fa : Nat → Int32) (fc : Nat → Int32) (ft : Nat → Int32) (ff : Nat → Int32) (fb : Nat → Int32) (fi : Nat → Int32) (hiD : 0 ≤ iD.toInt ∧ iD.toInt ≤ 1) (hiO : 0 ≤ iO.toInt ∧ iO.toInt ≤ 1) (hba : zBa ba.toInt) (hen : 0 ≤ en.toInt ∧ en.toInt ≤ 400) (htA : 0 ≤ tA.toInt ∧ tA.toInt ≤ en.toInt + 7 - 6) (hfl : -1 ≤ fl.toInt) (hde : 0 ≤ 6 ∧ 6 ≤ 6) : zM' g l yX12_atom (Cond.code yX12_atom cX12_atom 4 (some .boolean) :: zB) ({ frames := 8, cells := 0, slots := 0, locals := 173 } : Room) [.ref o] [bMo g o a th hi ac tp ba en tA fl 6 iD iO tU fm fk fa fc ft ff fb fi] (fun u : Int32 × Int32 × Int32 => (fun (at2 : Int32) (fl2 : Int32) (q : Int32) => some (.int q)) (u.1) (u.2.1) (u.2.2)) (fun u : Int32 × Int32 × Int32 => (fun (at2 : Int32) (fl2 : Int32) (q : Int32) => (0 ≤ at2.toInt ∧ at2.toInt ≤ en.toInt + 7 - 6) ∧ (tA.toInt ≤ at2.toInt) ∧ (-1 ≤ fl2.toInt) ∧ (q = 0 ∨ q = 1)) (u.1) (u.2.1) (u.2.2)) (fun u : Int32 × Int32 × Int32 => (fun (at2 : Int32) (fl2 : Int32) (q : Int32) => [bMo g o a th hi ac tp ba en at2 fl2 6 iD iO tU fm fk fa fc ft ff fb fi]) (u.1) (u.2.1) (u.2.2)) := by
  refine zM'.of (cc := cX12_atom) (maxL := 4) (rt := (some .boolean)) (by decide) rfl (Nat.le_of_ble_eq_true rfl) ?_
  intro p e s m args below meth c A ls St hr hlocks hin hK hT hA hP hD hS hl
  obtain ⟨hx, hb, hml, hown, hts⟩ := id St
  have hl : lv_has ls 4 [(0, .ref o)] := hl
  refine lv_aload_n hx hb dX12_atom_0 rfl (lv_at hl 0 rfl) ?_
  refine va_get (D := g.1) (ci := 10) (v := .int fl) (C := RX12) (T := TX12) (N := 20) hx hb hts izRX12 hown hK hP 0 rfl rfl 12 (by decide) (hts _ k820) (fun _ h9 => h9) rfl dX12_atom_1 ?_
  refine lv_iconst (v := (-1)) hx hb dX12_atom_4 (by decide) ?_
  refine lv_icmp_eq (tgt := 10) hx hb dX12_atom_5 (by decide) (fun cb9 => ?_) (fun cb9 => ?_)
  · skip
    have c1 : fl.toInt = (-1) := zeq cb9 rfl (by decide)
    have n2 : fl.toInt ≤ (-1) := Int.le_trans (Int.le_of_eq c1) (Int.le_refl _)
    refine lv_aload_n hx hb dX12_atom_10 rfl (lv_at hl 0 rfl) ?_
    have hL6 : (6 : Int32).toInt = 6 := by decide
    refine mcallV' (g := g) (q0 := 0) (ci := 10) (As := []) (rest := []) St hK hT hA hP hD hS hl.1 [0] [] rfl rfl rfl (m_here l g o a th hi ac tp ba en tA fl 6 iD iO tU fm fk fa fc ft ff fb fi hba hen (by first | assumption | omega | decide | exact Or.inl (by decide) | exact Or.inr (by decide)) hfl (by decide)) (cwV 0 hts (zgL (zl4 k892 k893 k894 k839) k891) rfl rfl rfl (by decide +kernel) ⟨Nat.le_of_ble_eq_true rfl, Nat.le_of_ble_eq_true rfl⟩) rfl rfl rfl rfl (Nat.le_of_ble_eq_true rfl) dX12_atom_11 ⟨(Nat.le_of_ble_eq_true rfl), (Nat.le_of_ble_eq_true rfl)⟩ (fun at2_3 H locs hq4 hP hD hS => ?_)
    replace hq4 : (0 ≤ at2_3.toInt ∧ at2_3.toInt ≤ en.toInt + 7 - (6 : Int32).toInt) ∧ (tA.toInt ≤ at2_3.toInt) := hq4
    have hP : va_P g.1 vwCl (List.flatten [bMo g o a th hi ac tp ba en at2_3 fl 6 iD iO tU fm fk fa fc ft ff fb fi]) H := hP
    have hD : va_D A (List.flatten [bMo g o a th hi ac tp ba en at2_3 fl 6 iD iO tU fm fk fa fc ft ff fb fi]) := hD
    refine W.widen (k := 0) (n := 0) (Nat.le_of_ble_eq_true rfl) (Nat.le_of_ble_eq_true rfl) ?_
    refine W.eq (g2 := F0 m 14 ls [.int at2_3]) rfl ?_
    obtain ⟨hq4_0, hq4_1⟩ := hq4
    refine lv_istore_n (lv' := [(1, .int at2_3), (0, .ref o)]) hx hb dX12_atom_14 rfl hl (by decide) rfl (fun ls hl => ?_)
    refine lv_aload_n hx hb dX12_atom_15 rfl (lv_at hl 1 rfl) ?_
    refine va_ldcS (q := g.2 98) hx hb hown (zra44 hT.2.1) dX12_atom_16 ?_
    refine mcallV' (g := g) (q0 := 0) (ci := 10) (As := [.ref (g.2 98)]) (rest := []) St hK hT hA hP hD hS hl.1 [0] [] rfl rfl rfl (m_has l g o a th hi ac tp ba en at2_3 fl 6 iD iO tU fm fk fa fc ft ff fb fi (g.2 98) 44 zqa44 hba hen hq4_0 hfl (by decide) rfl zla44 zna44) (cwV 1 hts (zgL (zl4 k899 k900 k901 k839) k889) rfl rfl rfl (by decide +kernel) ⟨Nat.le_of_ble_eq_true rfl, Nat.le_of_ble_eq_true rfl⟩) rfl rfl rfl rfl (Nat.le_of_ble_eq_true rfl) dX12_atom_18 ⟨(Nat.le_of_ble_eq_true rfl), (Nat.le_of_ble_eq_true rfl)⟩ (fun u_ H locs hq7 hP hD hS => ?_)
    obtain ⟨at2_5, r_6⟩ := u_
    replace hq7 : (0 ≤ at2_5.toInt ∧ at2_5.toInt ≤ en.toInt + 7 - (6 : Int32).toInt) ∧ (at2_3.toInt ≤ at2_5.toInt) ∧ (r_6 = 1 ∧ at2_3.toInt < at2_5.toInt ∧ at2_5.toInt ≤ en.toInt ∨ r_6 = 0) := hq7
    have hP : va_P g.1 vwCl (List.flatten [bMo g o a th hi ac tp ba en at2_5 fl 6 iD iO tU fm fk fa fc ft ff fb fi]) H := hP
    have hD : va_D A (List.flatten [bMo g o a th hi ac tp ba en at2_5 fl 6 iD iO tU fm fk fa fc ft ff fb fi]) := hD
    refine W.widen (k := 0) (n := 0) (Nat.le_of_ble_eq_true rfl) (Nat.le_of_ble_eq_true rfl) ?_
    refine W.eq (g2 := F0 m 21 ls [.int r_6]) rfl ?_
    obtain ⟨hq7_0, hq7_1, hq7_2⟩ := hq7
    rcases hq7_2 with ⟨rfl, hq7_k⟩ | rfl
    · skip
      refine lv_istore_n (lv' := [(2, .int 1), (1, .int at2_3), (0, .ref o)]) hx hb dX12_atom_21 rfl hl (by decide) rfl (fun ls hl => ?_)
      refine lv_iload_n hx hb dX12_atom_22 rfl (lv_at hl 0 rfl) ?_
      refine lv_if_ne (tgt := 40) hx hb dX12_atom_23 (by decide) (fun _ => ?_) (fun c8 => absurd c8 (by decide))
      refine lv_aload_n hx hb dX12_atom_40 rfl (lv_at hl 2 rfl) ?_
      refine va_get (D := g.1) (ci := 10) (v := .int 6) (C := RX12) (T := TX12) (N := 20) hx hb hts izRX12 hown hK hP 0 rfl rfl 13 (by decide) (hts _ k933) (fun _ h9 => h9) rfl dX12_atom_41 ?_
      refine lv_bipush (v := 6) hx hb dX12_atom_44 (by decide) ?_
      refine lv_icmp_ne (tgt := 56) hx hb dX12_atom_46 (by decide) (fun c9 => absurd (by decide) c9) (fun _ => ?_)
      refine lv_aload_n hx hb dX12_atom_49 rfl (lv_at hl 2 rfl) ?_
      refine lv_iload_n hx hb dX12_atom_50 rfl (lv_at hl 1 rfl) ?_
      refine mcallV' (g := g) (q0 := 0) (ci := 10) (As := [.int at2_3]) (rest := []) St hK hT hA hP hD hS hl.1 [0] [] rfl rfl rfl (m_wrong l g o a th hi ac tp ba en at2_5 fl 6 iD iO tU fm fk fa fc ft ff fb fi at2_3 (by first | assumption | omega | decide | exact Or.inl (by decide) | exact Or.inr (by decide)) hfl) (cwV 1 hts (zgL (zl4 k895 k896 k897 k839) k890) rfl rfl rfl (by decide +kernel) ⟨Nat.le_of_ble_eq_true rfl, Nat.le_of_ble_eq_true rfl⟩) rfl rfl rfl rfl (Nat.le_of_ble_eq_true rfl) dX12_atom_51 ⟨(Nat.le_of_ble_eq_true rfl), (Nat.le_of_ble_eq_true rfl)⟩ (fun fl2_10 H locs hq11 hP hD hS => ?_)
      replace hq11 : (0 ≤ fl2_10.toInt) := hq11
      have hP : va_P g.1 vwCl (List.flatten [bMo g o a th hi ac tp ba en at2_5 fl2_10 6 iD iO tU fm fk fa fc ft ff fb fi]) H := hP
      have hD : va_D A (List.flatten [bMo g o a th hi ac tp ba en at2_5 fl2_10 6 iD iO tU fm fk fa fc ft ff fb fi]) := hD
      refine W.widen (k := 0) (n := 0) (Nat.le_of_ble_eq_true rfl) (Nat.le_of_ble_eq_true rfl) ?_
      refine W.eq (g2 := F0 m 54 ls []) rfl ?_
      refine lv_iconst (v := 0) hx hb dX12_atom_54 (by decide) ?_
      have hP : va_P g.1 vwCl (List.flatten [bMo g o a th hi ac tp ba en at2_5 fl2_10 6 iD iO tU fm fk fa fc ft ff fb fi]) H := hP
      have hD : va_D A (List.flatten [bMo g o a th hi ac tp ba en at2_5 fl2_10 6 iD iO tU fm fk fa fc ft ff fb fi]) := hD
      exact mret_z hx hb hr hlocks hS (Nat.le_of_ble_eq_true rfl) (Nat.le_of_ble_eq_true rfl) dX12_atom_55 (at2_5, fl2_10, (0 : Int32)) rfl (by decide) (show (0 ≤ at2_5.toInt ∧ at2_5.toInt ≤ en.toInt + 7 - 6) ∧ (tA.toInt ≤ at2_5.toInt) ∧ (-1 ≤ fl2_10.toInt) ∧ (0 = 0 ∨ 0 = 1) from ⟨(by first | assumption | omega | decide | exact rfl | exact zb01 (by omega) | exact Or.inl (by decide) | exact Or.inr (by first | omega | decide)), (by first | assumption | omega | decide | exact rfl | exact zb01 (by omega) | exact Or.inl (by decide) | exact Or.inr (by first | omega | decide)), (by first | assumption | omega | decide | exact rfl | exact zb01 (by omega) | exact Or.inl (by decide) | exact Or.inr (by first | omega | decide)), (by decide)⟩) hP hD
    · skip
      refine lv_istore_n (lv' := [(2, .int 0), (1, .int at2_3), (0, .ref o)]) hx hb dX12_atom_21 rfl hl (by decide) rfl (fun ls hl => ?_)
      refine lv_iload_n hx hb dX12_atom_22 rfl (lv_at hl 0 rfl) ?_
      refine lv_if_ne (tgt := 40) hx hb dX12_atom_23 (by decide) (fun c12 => absurd (by decide) c12) (fun _ => ?_)
      refine lv_aload_n hx hb dX12_atom_26 rfl (lv_at hl 2 rfl) ?_
      refine lv_bipush (v := 40) hx hb dX12_atom_27 (by decide) ?_
      refine mcallV' (g := g) (q0 := 0) (ci := 10) (As := [.int 40]) (rest := []) St hK hT hA hP hD hS hl.1 [0] [] rfl rfl rfl (m_isSign l g o a th hi ac tp ba en at2_5 fl 6 iD iO tU fm fk fa fc ft ff fb fi 40 hba hen hq7_0 hfl (by decide)) (cwV 1 hts (zgL (zl4 k938 k939 k940 k839) k883) rfl rfl rfl (by decide +kernel) ⟨Nat.le_of_ble_eq_true rfl, Nat.le_of_ble_eq_true rfl⟩) rfl rfl rfl rfl (Nat.le_of_ble_eq_true rfl) dX12_atom_29 ⟨(Nat.le_of_ble_eq_true rfl), (Nat.le_of_ble_eq_true rfl)⟩ (fun u_ H locs hq15 hP hD hS => ?_)
      obtain ⟨at2_13, q_14⟩ := u_
      replace hq15 : (0 ≤ at2_13.toInt ∧ at2_13.toInt ≤ en.toInt + 7 - (6 : Int32).toInt) ∧ (at2_5.toInt ≤ at2_13.toInt) ∧ (q_14 = 1 ∧ at2_13.toInt < en.toInt ∨ q_14 = 0) := hq15
      have hP : va_P g.1 vwCl (List.flatten [bMo g o a th hi ac tp ba en at2_13 fl 6 iD iO tU fm fk fa fc ft ff fb fi]) H := hP
      have hD : va_D A (List.flatten [bMo g o a th hi ac tp ba en at2_13 fl 6 iD iO tU fm fk fa fc ft ff fb fi]) := hD
      refine W.widen (k := 0) (n := 0) (Nat.le_of_ble_eq_true rfl) (Nat.le_of_ble_eq_true rfl) ?_
      refine W.eq (g2 := F0 m 32 ls [.int q_14]) rfl ?_
      obtain ⟨hq15_0, hq15_1, hq15_2⟩ := hq15
      rcases hq15_2 with ⟨rfl, hq15_k⟩ | rfl
      · skip
        refine lv_if_ne (tgt := 40) hx hb dX12_atom_32 (by decide) (fun _ => ?_) (fun c16 => absurd c16 (by decide))
        refine lv_aload_n hx hb dX12_atom_40 rfl (lv_at hl 2 rfl) ?_
        refine va_get (D := g.1) (ci := 10) (v := .int 6) (C := RX12) (T := TX12) (N := 20) hx hb hts izRX12 hown hK hP 0 rfl rfl 13 (by decide) (hts _ k933) (fun _ h9 => h9) rfl dX12_atom_41 ?_
        refine lv_bipush (v := 6) hx hb dX12_atom_44 (by decide) ?_
        refine lv_icmp_ne (tgt := 56) hx hb dX12_atom_46 (by decide) (fun c17 => absurd (by decide) c17) (fun _ => ?_)
        refine lv_aload_n hx hb dX12_atom_49 rfl (lv_at hl 2 rfl) ?_
        refine lv_iload_n hx hb dX12_atom_50 rfl (lv_at hl 1 rfl) ?_
        refine mcallV' (g := g) (q0 := 0) (ci := 10) (As := [.int at2_3]) (rest := []) St hK hT hA hP hD hS hl.1 [0] [] rfl rfl rfl (m_wrong l g o a th hi ac tp ba en at2_13 fl 6 iD iO tU fm fk fa fc ft ff fb fi at2_3 (by first | assumption | omega | decide | exact Or.inl (by decide) | exact Or.inr (by decide)) hfl) (cwV 1 hts (zgL (zl4 k895 k896 k897 k839) k890) rfl rfl rfl (by decide +kernel) ⟨Nat.le_of_ble_eq_true rfl, Nat.le_of_ble_eq_true rfl⟩) rfl rfl rfl rfl (Nat.le_of_ble_eq_true rfl) dX12_atom_51 ⟨(Nat.le_of_ble_eq_true rfl), (Nat.le_of_ble_eq_true rfl)⟩ (fun fl2_18 H locs hq19 hP hD hS => ?_)
        replace hq19 : (0 ≤ fl2_18.toInt) := hq19
        have hP : va_P g.1 vwCl (List.flatten [bMo g o a th hi ac tp ba en at2_13 fl2_18 6 iD iO tU fm fk fa fc ft ff fb fi]) H := hP
        have hD : va_D A (List.flatten [bMo g o a th hi ac tp ba en at2_13 fl2_18 6 iD iO tU fm fk fa fc ft ff fb fi]) := hD
        refine W.widen (k := 0) (n := 0) (Nat.le_of_ble_eq_true rfl) (Nat.le_of_ble_eq_true rfl) ?_
        refine W.eq (g2 := F0 m 54 ls []) rfl ?_
        refine lv_iconst (v := 0) hx hb dX12_atom_54 (by decide) ?_
        have hP : va_P g.1 vwCl (List.flatten [bMo g o a th hi ac tp ba en at2_13 fl2_18 6 iD iO tU fm fk fa fc ft ff fb fi]) H := hP
        have hD : va_D A (List.flatten [bMo g o a th hi ac tp ba en at2_13 fl2_18 6 iD iO tU fm fk fa fc ft ff fb fi]) := hD
        exact mret_z hx hb hr hlocks hS (Nat.le_of_ble_eq_true rfl) (Nat.le_of_ble_eq_true rfl) dX12_atom_55 (at2_13, fl2_18, (0 : Int32)) rfl (by decide) (show (0 ≤ at2_13.toInt ∧ at2_13.toInt ≤ en.toInt + 7 - 6) ∧ (tA.toInt ≤ at2_13.toInt) ∧ (-1 ≤ fl2_18.toInt) ∧ (0 = 0 ∨ 0 = 1) from ⟨(by first | assumption | omega | decide | exact rfl | exact zb01 (by omega) | exact Or.inl (by decide) | exact Or.inr (by first | omega | decide)), (by first | assumption | omega | decide | exact rfl | exact zb01 (by omega) | exact Or.inl (by decide) | exact Or.inr (by first | omega | decide)), (by first | assumption | omega | decide | exact rfl | exact zb01 (by omega) | exact Or.inl (by decide) | exact Or.inr (by first | omega | decide)), (by decide)⟩) hP hD
      · skip
        refine lv_if_ne (tgt := 40) hx hb dX12_atom_32 (by decide) (fun c20 => absurd (by decide) c20) (fun _ => ?_)
        refine lv_aload_n hx hb dX12_atom_35 rfl (lv_at hl 2 rfl) ?_
        refine mcallV' (g := g) (q0 := 0) (ci := 10) (As := []) (rest := []) St hK hT hA hP hD hS hl.1 [0] [] rfl rfl rfl (m_plain l g o a th hi ac tp ba en at2_13 fl 6 iD iO tU fm fk fa fc ft ff fb fi hiD hiO hba hen hq15_0 hfl (by decide)) (cwV 0 hts (zgL (zl4 k948 k949 k950 k839) k947) rfl rfl rfl (by decide +kernel) ⟨Nat.le_of_ble_eq_true rfl, Nat.le_of_ble_eq_true rfl⟩) rfl rfl rfl rfl (Nat.le_of_ble_eq_true rfl) dX12_atom_36 ⟨(Nat.le_of_ble_eq_true rfl), (Nat.le_of_ble_eq_true rfl)⟩ (fun u_ H locs hq24 hP hD hS => ?_)
        obtain ⟨at2_21, fl2_22, q_23⟩ := u_
        replace hq24 : (0 ≤ at2_21.toInt ∧ at2_21.toInt ≤ en.toInt + 7 - (6 : Int32).toInt) ∧ (at2_13.toInt ≤ at2_21.toInt) ∧ (-1 ≤ fl2_22.toInt) ∧ (q_23 = 0 ∨ q_23 = 1) := hq24
        have hP : va_P g.1 vwCl (List.flatten [bMo g o a th hi ac tp ba en at2_21 fl2_22 6 iD iO tU fm fk fa fc ft ff fb fi]) H := hP
        have hD : va_D A (List.flatten [bMo g o a th hi ac tp ba en at2_21 fl2_22 6 iD iO tU fm fk fa fc ft ff fb fi]) := hD
        refine W.widen (k := 0) (n := 0) (Nat.le_of_ble_eq_true rfl) (Nat.le_of_ble_eq_true rfl) ?_
        refine W.eq (g2 := F0 m 39 ls [.int q_23]) rfl ?_
        obtain ⟨hq24_0, hq24_1, hq24_2, hq24_3⟩ := hq24
        rcases hq24_3 with rfl | rfl
        · skip
          have hP : va_P g.1 vwCl (List.flatten [bMo g o a th hi ac tp ba en at2_21 fl2_22 6 iD iO tU fm fk fa fc ft ff fb fi]) H := hP
          have hD : va_D A (List.flatten [bMo g o a th hi ac tp ba en at2_21 fl2_22 6 iD iO tU fm fk fa fc ft ff fb fi]) := hD
          exact mret_z hx hb hr hlocks hS (Nat.le_of_ble_eq_true rfl) (Nat.le_of_ble_eq_true rfl) dX12_atom_39 (at2_21, fl2_22, (0 : Int32)) rfl (by decide) (show (0 ≤ at2_21.toInt ∧ at2_21.toInt ≤ en.toInt + 7 - 6) ∧ (tA.toInt ≤ at2_21.toInt) ∧ (-1 ≤ fl2_22.toInt) ∧ (0 = 0 ∨ 0 = 1) from ⟨(by first | assumption | omega | decide | exact rfl | exact zb01 (by omega) | exact Or.inl (by decide) | exact Or.inr (by first | omega | decide)), (by first | assumption | omega | decide | exact rfl | exact zb01 (by omega) | exact Or.inl (by decide) | exact Or.inr (by first | omega | decide)), hq24_2, (by decide)⟩) hP hD
        · skip
          have hP : va_P g.1 vwCl (List.flatten [bMo g o a th hi ac tp ba en at2_21 fl2_22 6 iD iO tU fm fk fa fc ft ff fb fi]) H := hP
          have hD : va_D A (List.flatten [bMo g o a th hi ac tp ba en at2_21 fl2_22 6 iD iO tU fm fk fa fc ft ff fb fi]) := hD
          exact mret_z hx hb hr hlocks hS (Nat.le_of_ble_eq_true rfl) (Nat.le_of_ble_eq_true rfl) dX12_atom_39 (at2_21, fl2_22, (1 : Int32)) rfl (by decide) (show (0 ≤ at2_21.toInt ∧ at2_21.toInt ≤ en.toInt + 7 - 6) ∧ (tA.toInt ≤ at2_21.toInt) ∧ (-1 ≤ fl2_22.toInt) ∧ (1 = 0 ∨ 1 = 1) from ⟨(by first | assumption | omega | decide | exact rfl | exact zb01 (by omega) | exact Or.inl (by decide) | exact Or.inr (by first | omega | decide)), (by first | assumption | omega | decide | exact rfl | exact zb01 (by omega) | exact Or.inl (by decide) | exact Or.inr (by first | omega | decide)), hq24_2, (by decide)⟩) hP hD
  · skip
    have c25 : ¬ fl.toInt = (-1) := zne cb9 rfl (by decide)
    refine lv_iconst (v := 0) hx hb dX12_atom_8 (by decide) ?_
    have hP : va_P g.1 vwCl (List.flatten [bMo g o a th hi ac tp ba en tA fl 6 iD iO tU fm fk fa fc ft ff fb fi]) s.heap := hP
    have hD : va_D A (List.flatten [bMo g o a th hi ac tp ba en tA fl 6 iD iO tU fm fk fa fc ft ff fb fi]) := hD
    exact mret_z hx hb hr hlocks hS (Nat.le_of_ble_eq_true rfl) (Nat.le_of_ble_eq_true rfl) dX12_atom_9 (tA, fl, (0 : Int32)) rfl (by decide) (show (0 ≤ tA.toInt ∧ tA.toInt ≤ en.toInt + 7 - 6) ∧ (tA.toInt ≤ tA.toInt) ∧ (-1 ≤ fl.toInt) ∧ (0 = 0 ∨ 0 = 1) from ⟨htA, (by first | assumption | omega | decide | exact rfl | exact zb01 (by omega) | exact Or.inl (by decide) | exact Or.inr (by first | omega | decide)), hfl, (by decide)⟩) hP hD
set_option maxRecDepth 100000 in
set_option maxHeartbeats 4000000 in
theorem m_every6 (l : Launch) (g : zG) (o : Nat) (a : Nat → Nat) (th : Int32) (hi : Int32) (ac : Int32) (tp : Int32) (ba : Int32) (en : Int32) (tA : Int32) (fl : Int32) (iD : Int32) (iO : Int32) (tU : Int32) (fm : Nat → Int32) (fk : Nat → Int32) (fa : Nat → Int32) (fc : Nat → Int32) (ft : Nat → Int32) (ff : Nat → Int32) (fb : Nat → Int32) (fi : Nat → Int32) (hiD : 0 ≤ iD.toInt ∧ iD.toInt ≤ 1) (hiO : 0 ≤ iO.toInt ∧ iO.toInt ≤ 1) (hba : zBa ba.toInt) (hen : 0 ≤ en.toInt ∧ en.toInt ≤ 400) (htA : 0 ≤ tA.toInt ∧ tA.toInt ≤ en.toInt + 7 - 6) (hfl : -1 ≤ fl.toInt) (hde : 0 ≤ 6 ∧ 6 ≤ 6) : zM' g l yX12_every (Cond.code yX12_every cX12_every 3 (some .boolean) :: zB) ({ frames := 9, cells := 0, slots := 0, locals := 196 } : Room) [.ref o] [bMo g o a th hi ac tp ba en tA fl 6 iD iO tU fm fk fa fc ft ff fb fi] (fun u : Int32 × Int32 × Int32 => (fun (at2 : Int32) (fl2 : Int32) (q : Int32) => some (.int q)) (u.1) (u.2.1) (u.2.2)) (fun u : Int32 × Int32 × Int32 => (fun (at2 : Int32) (fl2 : Int32) (q : Int32) => (0 ≤ at2.toInt ∧ at2.toInt ≤ en.toInt + 7 - 6) ∧ (tA.toInt ≤ at2.toInt) ∧ (-1 ≤ fl2.toInt) ∧ (q = 0 ∨ q = 1)) (u.1) (u.2.1) (u.2.2)) (fun u : Int32 × Int32 × Int32 => (fun (at2 : Int32) (fl2 : Int32) (q : Int32) => [bMo g o a th hi ac tp ba en at2 fl2 6 iD iO tU fm fk fa fc ft ff fb fi]) (u.1) (u.2.1) (u.2.2)) := by
  refine zM'.of (cc := cX12_every) (maxL := 3) (rt := (some .boolean)) (by decide) rfl (Nat.le_of_ble_eq_true rfl) ?_
  intro p e s m args below meth c A ls St hr hlocks hin hK hT hA hP hD hS hl
  obtain ⟨hx, hb, hml, hown, hts⟩ := id St
  have hl : lv_has ls 3 [(0, .ref o)] := hl
  refine lv_aload_n hx hb dX12_every_0 rfl (lv_at hl 0 rfl) ?_
  refine mcallV' (g := g) (q0 := 0) (ci := 10) (As := []) (rest := []) St hK hT hA hP hD hS hl.1 [0] [] rfl rfl rfl (m_atom6 l g o a th hi ac tp ba en tA fl iD iO tU fm fk fa fc ft ff fb fi hiD hiO hba hen htA hfl hde) (cwV 0 hts (zgL (zl4 k951 k952 k953 k839) k962) rfl rfl rfl (by decide +kernel) ⟨Nat.le_of_ble_eq_true rfl, Nat.le_of_ble_eq_true rfl⟩) rfl rfl rfl rfl (Nat.le_of_ble_eq_true rfl) dX12_every_1 ⟨(Nat.le_of_ble_eq_true rfl), (Nat.le_of_ble_eq_true rfl)⟩ (fun u_ H locs hq4 hP hD hS => ?_)
  obtain ⟨at2_1, fl2_2, q_3⟩ := u_
  replace hq4 : (0 ≤ at2_1.toInt ∧ at2_1.toInt ≤ en.toInt + 7 - 6) ∧ (tA.toInt ≤ at2_1.toInt) ∧ (-1 ≤ fl2_2.toInt) ∧ (q_3 = 0 ∨ q_3 = 1) := hq4
  have hP : va_P g.1 vwCl (List.flatten [bMo g o a th hi ac tp ba en at2_1 fl2_2 6 iD iO tU fm fk fa fc ft ff fb fi]) H := hP
  have hD : va_D A (List.flatten [bMo g o a th hi ac tp ba en at2_1 fl2_2 6 iD iO tU fm fk fa fc ft ff fb fi]) := hD
  refine W.widen (k := 0) (n := 0) (Nat.le_of_ble_eq_true rfl) (Nat.le_of_ble_eq_true rfl) ?_
  refine W.eq (g2 := F0 m 4 ls [.int q_3]) rfl ?_
  obtain ⟨hq4_0, hq4_1, hq4_2, hq4_3⟩ := hq4
  rcases hq4_3 with rfl | rfl
  · skip
    refine lv_istore_n (lv' := [(1, .int 0), (0, .ref o)]) hx hb dX12_every_4 rfl hl (by decide) rfl (fun ls hl => ?_)
    have hl := lv_sub (l' := [(0, .ref o), (1, .int 0)]) hl [1, 0] rfl
    have LP5_14 : ∀ (kf : Nat) (x_5 : Int32) (x_6 : Int32) (x_7 : Int32), (0 ≤ x_5.toInt ∧ x_5.toInt ≤ 1) → (0 ≤ x_6.toInt ∧ x_6.toInt ≤ 407) → ((-1) ≤ x_7.toInt) → (tA.toInt ≤ x_6.toInt) → (x_6.toInt ≤ en.toInt + 7 - 6) → (-1 ≤ x_7.toInt) → ∀ (H : Heap) (locs : List Loc) (ls : Array Slot), ((en.toInt + 8 - x_6.toInt).toNat) < kf → va_P g.1 vwCl (List.flatten [bMo g o a th hi ac tp ba en x_6 x_7 6 iD iO tU fm fk fa fc ft ff fb fi]) H → va_D A (List.flatten [bMo g o a th hi ac tp ba en x_6 x_7 6 iD iO tU fm fk fa fc ft ff fb fi]) → va_S A s.heap H locs → lv_has ls 3 [(0, .ref o), (1, .int x_5)] → W p l e ({ frames := 9, cells := 0, slots := 0, locals := 196 } : Room) s m args below meth c H locs (0) (0) (zF g (fun u : Int32 × Int32 × Int32 => (fun (at2 : Int32) (fl2 : Int32) (q : Int32) => some (.int q)) (u.1) (u.2.1) (u.2.2)) (fun u : Int32 × Int32 × Int32 => (fun (at2 : Int32) (fl2 : Int32) (q : Int32) => (0 ≤ at2.toInt ∧ at2.toInt ≤ en.toInt + 7 - 6) ∧ (tA.toInt ≤ at2.toInt) ∧ (-1 ≤ fl2.toInt) ∧ (q = 0 ∨ q = 1)) (u.1) (u.2.1) (u.2.2)) (fun u : Int32 × Int32 × Int32 => (fun (at2 : Int32) (fl2 : Int32) (q : Int32) => [bMo g o a th hi ac tp ba en at2 fl2 6 iD iO tU fm fk fa fc ft ff fb fi]) (u.1) (u.2.1) (u.2.2)) ({ frames := 9, cells := 0, slots := 0, locals := 196 } : Room) below args s A) (F0 m 5 ls []) := by
      intro kf
      induction kf with
      | zero => intro x_5 x_6 x_7 i8 i9 i10 i11 i12 i13 H locs ls hk; exact absurd hk (Nat.not_lt_zero _)
      | succ kf ih5_15 =>
        intro x_5 x_6 x_7 i8 i9 i10 i11 i12 i13 H locs ls hk5_15 hP hD hS hl
        refine lv_aload_n hx hb dX12_every_5 rfl (lv_at hl 0 rfl) ?_
        refine va_get (D := g.1) (ci := 10) (v := .int x_7) (C := RX12) (T := TX12) (N := 20) hx hb hts izRX12 hown hK hP 0 rfl rfl 12 (by decide) (hts _ k820) (fun _ h9 => h9) rfl dX12_every_6 ?_
        refine lv_iconst (v := (-1)) hx hb dX12_every_9 (by decide) ?_
        refine lv_icmp_ne (tgt := 44) hx hb dX12_every_10 (by decide) (fun cb9 => ?_) (fun cb9 => ?_)
        · skip
          have c16 : ¬ x_7.toInt = (-1) := zne cb9 rfl (by decide)
          have n17 : 0 ≤ x_7.toInt := zN1 c16 i10 (by decide)
          refine lv_iload_n hx hb dX12_every_44 rfl (lv_at hl 1 rfl) ?_
          have hP : va_P g.1 vwCl (List.flatten [bMo g o a th hi ac tp ba en x_6 x_7 6 iD iO tU fm fk fa fc ft ff fb fi]) H := hP
          have hD : va_D A (List.flatten [bMo g o a th hi ac tp ba en x_6 x_7 6 iD iO tU fm fk fa fc ft ff fb fi]) := hD
          exact mret_z hx hb hr hlocks hS (Nat.le_of_ble_eq_true rfl) (Nat.le_of_ble_eq_true rfl) dX12_every_45 (x_6, x_7, x_5) rfl (by first | assumption | exact zb01 (by omega)) (show (0 ≤ x_6.toInt ∧ x_6.toInt ≤ en.toInt + 7 - 6) ∧ (tA.toInt ≤ x_6.toInt) ∧ (-1 ≤ x_7.toInt) ∧ (x_5 = 0 ∨ x_5 = 1) from ⟨(by first | assumption | omega | decide | exact rfl | exact zb01 (by omega) | exact Or.inl (by decide) | exact Or.inr (by first | omega | decide)), i11, i13, (by first | assumption | omega | decide | exact rfl | exact zb01 (by omega) | exact Or.inl (by decide) | exact Or.inr (by first | omega | decide))⟩) hP hD
        · skip
          have c18 : x_7.toInt = (-1) := zeq cb9 rfl (by decide)
          have n19 : x_7.toInt ≤ (-1) := Int.le_trans (Int.le_of_eq c18) (Int.le_refl _)
          refine lv_aload_n hx hb dX12_every_13 rfl (lv_at hl 0 rfl) ?_
          refine va_ldcS (q := g.2 100) hx hb hown (zra45 hT.2.1) dX12_every_14 ?_
          have hL6 : (6 : Int32).toInt = 6 := by decide
          refine mcallV' (g := g) (q0 := 0) (ci := 10) (As := [.ref (g.2 100)]) (rest := []) St hK hT hA hP hD hS hl.1 [0] [] rfl rfl rfl (m_has l g o a th hi ac tp ba en x_6 x_7 6 iD iO tU fm fk fa fc ft ff fb fi (g.2 100) 45 zqa45 hba hen (by first | assumption | omega | decide | exact Or.inl (by decide) | exact Or.inr (by decide)) i13 (by decide) rfl zla45 zna45) (cwV 1 hts (zgL (zl4 k899 k900 k901 k839) k889) rfl rfl rfl (by decide +kernel) ⟨Nat.le_of_ble_eq_true rfl, Nat.le_of_ble_eq_true rfl⟩) rfl rfl rfl rfl (Nat.le_of_ble_eq_true rfl) dX12_every_16 ⟨(Nat.le_of_ble_eq_true rfl), (Nat.le_of_ble_eq_true rfl)⟩ (fun u_ H locs hq22 hP hD hS => ?_)
          obtain ⟨at2_20, r_21⟩ := u_
          replace hq22 : (0 ≤ at2_20.toInt ∧ at2_20.toInt ≤ en.toInt + 7 - (6 : Int32).toInt) ∧ (x_6.toInt ≤ at2_20.toInt) ∧ (r_21 = 1 ∧ x_6.toInt < at2_20.toInt ∧ at2_20.toInt ≤ en.toInt ∨ r_21 = 0) := hq22
          have hP : va_P g.1 vwCl (List.flatten [bMo g o a th hi ac tp ba en at2_20 x_7 6 iD iO tU fm fk fa fc ft ff fb fi]) H := hP
          have hD : va_D A (List.flatten [bMo g o a th hi ac tp ba en at2_20 x_7 6 iD iO tU fm fk fa fc ft ff fb fi]) := hD
          refine W.widen (k := 0) (n := 0) (Nat.le_of_ble_eq_true rfl) (Nat.le_of_ble_eq_true rfl) ?_
          refine W.eq (g2 := F0 m 19 ls [.int r_21]) rfl ?_
          obtain ⟨hq22_0, hq22_1, hq22_2⟩ := hq22
          rcases hq22_2 with ⟨rfl, hq22_k⟩ | rfl
          · skip
            refine lv_if_eq (tgt := 44) hx hb dX12_every_19 (by decide) (fun c23 => absurd c23 (by decide)) (fun _ => ?_)
            refine lv_aload_n hx hb dX12_every_22 rfl (lv_at hl 0 rfl) ?_
            refine mcallV' (g := g) (q0 := 0) (ci := 10) (As := []) (rest := []) St hK hT hA hP hD hS hl.1 [0] [] rfl rfl rfl (m_atom6 l g o a th hi ac tp ba en at2_20 x_7 iD iO tU fm fk fa fc ft ff fb fi hiD hiO hba hen (by first | assumption | omega | decide | exact Or.inl (by decide) | exact Or.inr (by decide)) i13 hde) (cwV 0 hts (zgL (zl4 k951 k952 k953 k839) k962) rfl rfl rfl (by decide +kernel) ⟨Nat.le_of_ble_eq_true rfl, Nat.le_of_ble_eq_true rfl⟩) rfl rfl rfl rfl (Nat.le_of_ble_eq_true rfl) dX12_every_23 ⟨(Nat.le_of_ble_eq_true rfl), (Nat.le_of_ble_eq_true rfl)⟩ (fun u_ H locs hq27 hP hD hS => ?_)
            obtain ⟨at2_24, fl2_25, q_26⟩ := u_
            replace hq27 : (0 ≤ at2_24.toInt ∧ at2_24.toInt ≤ en.toInt + 7 - 6) ∧ (at2_20.toInt ≤ at2_24.toInt) ∧ (-1 ≤ fl2_25.toInt) ∧ (q_26 = 0 ∨ q_26 = 1) := hq27
            have hP : va_P g.1 vwCl (List.flatten [bMo g o a th hi ac tp ba en at2_24 fl2_25 6 iD iO tU fm fk fa fc ft ff fb fi]) H := hP
            have hD : va_D A (List.flatten [bMo g o a th hi ac tp ba en at2_24 fl2_25 6 iD iO tU fm fk fa fc ft ff fb fi]) := hD
            refine W.widen (k := 0) (n := 0) (Nat.le_of_ble_eq_true rfl) (Nat.le_of_ble_eq_true rfl) ?_
            refine W.eq (g2 := F0 m 26 ls [.int q_26]) rfl ?_
            obtain ⟨hq27_0, hq27_1, hq27_2, hq27_3⟩ := hq27
            rcases hq27_3 with rfl | rfl
            · skip
              refine lv_istore_n (lv' := [(2, .int 0), (0, .ref o), (1, .int x_5)]) hx hb dX12_every_26 rfl hl (by decide) rfl (fun ls hl => ?_)
              refine lv_iload_n hx hb dX12_every_27 rfl (lv_at hl 2 rfl) ?_
              refine lv_if_eq (tgt := 39) hx hb dX12_every_28 (by decide) (fun cb9 => ?_) (fun cb9 => ?_)
              · skip
                have c28 : x_5.toInt = 0 := zeq cb9 rfl (by decide)
                have n29 : x_5.toInt ≤ 0 := Int.le_trans (Int.le_of_eq c28) (Int.le_refl _)
                refine lv_iconst (v := 0) hx hb dX12_every_39 (by decide) ?_
                refine lv_istore_n (lv' := [(1, .int 0), (2, .int 0), (0, .ref o)]) hx hb dX12_every_40 rfl hl (by decide) rfl (fun ls hl => ?_)
                refine lv_goto (tgt := 5) hx hb dX12_every_41 (by decide) ?_
                have hl := lv_sub (l' := [(0, .ref o), (1, .int 0), (2, .int 0)]) hl [2, 0, 1] rfl
                have hL0 : (0 : Int32).toInt = 0 := by decide
                have hP : va_P g.1 vwCl (List.flatten [bMo g o a th hi ac tp ba en at2_24 fl2_25 6 iD iO tU fm fk fa fc ft ff fb fi]) H := hP
                have hD : va_D A (List.flatten [bMo g o a th hi ac tp ba en at2_24 fl2_25 6 iD iO tU fm fk fa fc ft ff fb fi]) := hD
                exact ih5_15 0 at2_24 fl2_25 (by decide) (by first | omega | assumption | decide) (by first | omega | assumption | decide) (by first | omega | assumption | decide) (by first | omega | assumption | decide) hq27_2 H _ ls (by omega)  hP hD hS (lv_sub hl [0, 1] rfl)
              · skip
                have c30 : ¬ x_5.toInt = 0 := zne cb9 rfl (by decide)
                have n31 : 1 ≤ x_5.toInt := zN1 c30 i8.1 (by decide)
                refine lv_iload_n hx hb dX12_every_31 rfl (lv_at hl 0 rfl) ?_
                refine lv_if_eq (tgt := 39) hx hb dX12_every_32 (by decide) (fun _ => ?_) (fun c32 => absurd (by decide) c32)
                refine lv_iconst (v := 0) hx hb dX12_every_39 (by decide) ?_
                refine lv_istore_n (lv' := [(1, .int 0), (2, .int 0), (0, .ref o)]) hx hb dX12_every_40 rfl hl (by decide) rfl (fun ls hl => ?_)
                refine lv_goto (tgt := 5) hx hb dX12_every_41 (by decide) ?_
                have hl := lv_sub (l' := [(0, .ref o), (1, .int 0), (2, .int 0)]) hl [2, 0, 1] rfl
                have hL0 : (0 : Int32).toInt = 0 := by decide
                have hP : va_P g.1 vwCl (List.flatten [bMo g o a th hi ac tp ba en at2_24 fl2_25 6 iD iO tU fm fk fa fc ft ff fb fi]) H := hP
                have hD : va_D A (List.flatten [bMo g o a th hi ac tp ba en at2_24 fl2_25 6 iD iO tU fm fk fa fc ft ff fb fi]) := hD
                exact ih5_15 0 at2_24 fl2_25 (by decide) (by first | omega | assumption | decide) (by first | omega | assumption | decide) (by first | omega | assumption | decide) (by first | omega | assumption | decide) hq27_2 H _ ls (by omega)  hP hD hS (lv_sub hl [0, 1] rfl)
            · skip
              refine lv_istore_n (lv' := [(2, .int 1), (0, .ref o), (1, .int x_5)]) hx hb dX12_every_26 rfl hl (by decide) rfl (fun ls hl => ?_)
              refine lv_iload_n hx hb dX12_every_27 rfl (lv_at hl 2 rfl) ?_
              refine lv_if_eq (tgt := 39) hx hb dX12_every_28 (by decide) (fun cb9 => ?_) (fun cb9 => ?_)
              · skip
                have c33 : x_5.toInt = 0 := zeq cb9 rfl (by decide)
                have n34 : x_5.toInt ≤ 0 := Int.le_trans (Int.le_of_eq c33) (Int.le_refl _)
                refine lv_iconst (v := 0) hx hb dX12_every_39 (by decide) ?_
                refine lv_istore_n (lv' := [(1, .int 0), (2, .int 1), (0, .ref o)]) hx hb dX12_every_40 rfl hl (by decide) rfl (fun ls hl => ?_)
                refine lv_goto (tgt := 5) hx hb dX12_every_41 (by decide) ?_
                have hl := lv_sub (l' := [(0, .ref o), (1, .int 0), (2, .int 1)]) hl [2, 0, 1] rfl
                have hL0 : (0 : Int32).toInt = 0 := by decide
                have hP : va_P g.1 vwCl (List.flatten [bMo g o a th hi ac tp ba en at2_24 fl2_25 6 iD iO tU fm fk fa fc ft ff fb fi]) H := hP
                have hD : va_D A (List.flatten [bMo g o a th hi ac tp ba en at2_24 fl2_25 6 iD iO tU fm fk fa fc ft ff fb fi]) := hD
                exact ih5_15 0 at2_24 fl2_25 (by decide) (by first | omega | assumption | decide) (by first | omega | assumption | decide) (by first | omega | assumption | decide) (by first | omega | assumption | decide) hq27_2 H _ ls (by omega)  hP hD hS (lv_sub hl [0, 1] rfl)
              · skip
                have c35 : ¬ x_5.toInt = 0 := zne cb9 rfl (by decide)
                have n36 : 1 ≤ x_5.toInt := zN1 c35 i8.1 (by decide)
                refine lv_iload_n hx hb dX12_every_31 rfl (lv_at hl 0 rfl) ?_
                refine lv_if_eq (tgt := 39) hx hb dX12_every_32 (by decide) (fun c37 => absurd c37 (by decide)) (fun _ => ?_)
                refine lv_iconst (v := 1) hx hb dX12_every_35 (by decide) ?_
                refine lv_goto (tgt := 40) hx hb dX12_every_36 (by decide) ?_
                refine lv_istore_n (lv' := [(1, .int 1), (2, .int 1), (0, .ref o)]) hx hb dX12_every_40 rfl hl (by decide) rfl (fun ls hl => ?_)
                refine lv_goto (tgt := 5) hx hb dX12_every_41 (by decide) ?_
                have hl := lv_sub (l' := [(0, .ref o), (1, .int 1), (2, .int 1)]) hl [2, 0, 1] rfl
                have hL1 : (1 : Int32).toInt = 1 := by decide
                have hP : va_P g.1 vwCl (List.flatten [bMo g o a th hi ac tp ba en at2_24 fl2_25 6 iD iO tU fm fk fa fc ft ff fb fi]) H := hP
                have hD : va_D A (List.flatten [bMo g o a th hi ac tp ba en at2_24 fl2_25 6 iD iO tU fm fk fa fc ft ff fb fi]) := hD
                exact ih5_15 1 at2_24 fl2_25 (by decide) (by first | omega | assumption | decide) (by first | omega | assumption | decide) (by first | omega | assumption | decide) (by first | omega | assumption | decide) hq27_2 H _ ls (by omega)  hP hD hS (lv_sub hl [0, 1] rfl)
          · skip
            refine lv_if_eq (tgt := 44) hx hb dX12_every_19 (by decide) (fun _ => ?_) (fun c38 => absurd (by decide) c38)
            refine lv_iload_n hx hb dX12_every_44 rfl (lv_at hl 1 rfl) ?_
            have hP : va_P g.1 vwCl (List.flatten [bMo g o a th hi ac tp ba en at2_20 x_7 6 iD iO tU fm fk fa fc ft ff fb fi]) H := hP
            have hD : va_D A (List.flatten [bMo g o a th hi ac tp ba en at2_20 x_7 6 iD iO tU fm fk fa fc ft ff fb fi]) := hD
            exact mret_z hx hb hr hlocks hS (Nat.le_of_ble_eq_true rfl) (Nat.le_of_ble_eq_true rfl) dX12_every_45 (at2_20, x_7, x_5) rfl (by first | assumption | exact zb01 (by omega)) (show (0 ≤ at2_20.toInt ∧ at2_20.toInt ≤ en.toInt + 7 - 6) ∧ (tA.toInt ≤ at2_20.toInt) ∧ (-1 ≤ x_7.toInt) ∧ (x_5 = 0 ∨ x_5 = 1) from ⟨(by first | assumption | omega | decide | exact rfl | exact zb01 (by omega) | exact Or.inl (by decide) | exact Or.inr (by first | omega | decide)), (by first | assumption | omega | decide | exact rfl | exact zb01 (by omega) | exact Or.inl (by decide) | exact Or.inr (by first | omega | decide)), i13, (by first | assumption | omega | decide | exact rfl | exact zb01 (by omega) | exact Or.inl (by decide) | exact Or.inr (by first | omega | decide))⟩) hP hD
    have hL0 : (0 : Int32).toInt = 0 := by decide
    have hP : va_P g.1 vwCl (List.flatten [bMo g o a th hi ac tp ba en at2_1 fl2_2 6 iD iO tU fm fk fa fc ft ff fb fi]) H := hP
    have hD : va_D A (List.flatten [bMo g o a th hi ac tp ba en at2_1 fl2_2 6 iD iO tU fm fk fa fc ft ff fb fi]) := hD
    exact LP5_14 _ 0 at2_1 fl2_2 (by decide) (by first | omega | assumption | decide) (by first | omega | assumption | decide) hq4_1 (by first | omega | assumption | decide) hq4_2 H _ ls (Nat.lt_succ_self _)  hP hD hS (lv_sub hl [0, 1] rfl)
  · skip
    refine lv_istore_n (lv' := [(1, .int 1), (0, .ref o)]) hx hb dX12_every_4 rfl hl (by decide) rfl (fun ls hl => ?_)
    have hl := lv_sub (l' := [(0, .ref o), (1, .int 1)]) hl [1, 0] rfl
    have LP5_48 : ∀ (kf : Nat) (x_39 : Int32) (x_40 : Int32) (x_41 : Int32), (0 ≤ x_39.toInt ∧ x_39.toInt ≤ 1) → (0 ≤ x_40.toInt ∧ x_40.toInt ≤ 407) → ((-1) ≤ x_41.toInt) → (tA.toInt ≤ x_40.toInt) → (x_40.toInt ≤ en.toInt + 7 - 6) → (-1 ≤ x_41.toInt) → ∀ (H : Heap) (locs : List Loc) (ls : Array Slot), ((en.toInt + 8 - x_40.toInt).toNat) < kf → va_P g.1 vwCl (List.flatten [bMo g o a th hi ac tp ba en x_40 x_41 6 iD iO tU fm fk fa fc ft ff fb fi]) H → va_D A (List.flatten [bMo g o a th hi ac tp ba en x_40 x_41 6 iD iO tU fm fk fa fc ft ff fb fi]) → va_S A s.heap H locs → lv_has ls 3 [(0, .ref o), (1, .int x_39)] → W p l e ({ frames := 9, cells := 0, slots := 0, locals := 196 } : Room) s m args below meth c H locs (0) (0) (zF g (fun u : Int32 × Int32 × Int32 => (fun (at2 : Int32) (fl2 : Int32) (q : Int32) => some (.int q)) (u.1) (u.2.1) (u.2.2)) (fun u : Int32 × Int32 × Int32 => (fun (at2 : Int32) (fl2 : Int32) (q : Int32) => (0 ≤ at2.toInt ∧ at2.toInt ≤ en.toInt + 7 - 6) ∧ (tA.toInt ≤ at2.toInt) ∧ (-1 ≤ fl2.toInt) ∧ (q = 0 ∨ q = 1)) (u.1) (u.2.1) (u.2.2)) (fun u : Int32 × Int32 × Int32 => (fun (at2 : Int32) (fl2 : Int32) (q : Int32) => [bMo g o a th hi ac tp ba en at2 fl2 6 iD iO tU fm fk fa fc ft ff fb fi]) (u.1) (u.2.1) (u.2.2)) ({ frames := 9, cells := 0, slots := 0, locals := 196 } : Room) below args s A) (F0 m 5 ls []) := by
      intro kf
      induction kf with
      | zero => intro x_39 x_40 x_41 i42 i43 i44 i45 i46 i47 H locs ls hk; exact absurd hk (Nat.not_lt_zero _)
      | succ kf ih5_49 =>
        intro x_39 x_40 x_41 i42 i43 i44 i45 i46 i47 H locs ls hk5_49 hP hD hS hl
        refine lv_aload_n hx hb dX12_every_5 rfl (lv_at hl 0 rfl) ?_
        refine va_get (D := g.1) (ci := 10) (v := .int x_41) (C := RX12) (T := TX12) (N := 20) hx hb hts izRX12 hown hK hP 0 rfl rfl 12 (by decide) (hts _ k820) (fun _ h9 => h9) rfl dX12_every_6 ?_
        refine lv_iconst (v := (-1)) hx hb dX12_every_9 (by decide) ?_
        refine lv_icmp_ne (tgt := 44) hx hb dX12_every_10 (by decide) (fun cb9 => ?_) (fun cb9 => ?_)
        · skip
          have c50 : ¬ x_41.toInt = (-1) := zne cb9 rfl (by decide)
          have n51 : 0 ≤ x_41.toInt := zN1 c50 i44 (by decide)
          refine lv_iload_n hx hb dX12_every_44 rfl (lv_at hl 1 rfl) ?_
          have hP : va_P g.1 vwCl (List.flatten [bMo g o a th hi ac tp ba en x_40 x_41 6 iD iO tU fm fk fa fc ft ff fb fi]) H := hP
          have hD : va_D A (List.flatten [bMo g o a th hi ac tp ba en x_40 x_41 6 iD iO tU fm fk fa fc ft ff fb fi]) := hD
          exact mret_z hx hb hr hlocks hS (Nat.le_of_ble_eq_true rfl) (Nat.le_of_ble_eq_true rfl) dX12_every_45 (x_40, x_41, x_39) rfl (by first | assumption | exact zb01 (by omega)) (show (0 ≤ x_40.toInt ∧ x_40.toInt ≤ en.toInt + 7 - 6) ∧ (tA.toInt ≤ x_40.toInt) ∧ (-1 ≤ x_41.toInt) ∧ (x_39 = 0 ∨ x_39 = 1) from ⟨(by first | assumption | omega | decide | exact rfl | exact zb01 (by omega) | exact Or.inl (by decide) | exact Or.inr (by first | omega | decide)), i45, i47, (by first | assumption | omega | decide | exact rfl | exact zb01 (by omega) | exact Or.inl (by decide) | exact Or.inr (by first | omega | decide))⟩) hP hD
        · skip
          have c52 : x_41.toInt = (-1) := zeq cb9 rfl (by decide)
          have n53 : x_41.toInt ≤ (-1) := Int.le_trans (Int.le_of_eq c52) (Int.le_refl _)
          refine lv_aload_n hx hb dX12_every_13 rfl (lv_at hl 0 rfl) ?_
          refine va_ldcS (q := g.2 100) hx hb hown (zra45 hT.2.1) dX12_every_14 ?_
          have hL6 : (6 : Int32).toInt = 6 := by decide
          refine mcallV' (g := g) (q0 := 0) (ci := 10) (As := [.ref (g.2 100)]) (rest := []) St hK hT hA hP hD hS hl.1 [0] [] rfl rfl rfl (m_has l g o a th hi ac tp ba en x_40 x_41 6 iD iO tU fm fk fa fc ft ff fb fi (g.2 100) 45 zqa45 hba hen (by first | assumption | omega | decide | exact Or.inl (by decide) | exact Or.inr (by decide)) i47 (by decide) rfl zla45 zna45) (cwV 1 hts (zgL (zl4 k899 k900 k901 k839) k889) rfl rfl rfl (by decide +kernel) ⟨Nat.le_of_ble_eq_true rfl, Nat.le_of_ble_eq_true rfl⟩) rfl rfl rfl rfl (Nat.le_of_ble_eq_true rfl) dX12_every_16 ⟨(Nat.le_of_ble_eq_true rfl), (Nat.le_of_ble_eq_true rfl)⟩ (fun u_ H locs hq56 hP hD hS => ?_)
          obtain ⟨at2_54, r_55⟩ := u_
          replace hq56 : (0 ≤ at2_54.toInt ∧ at2_54.toInt ≤ en.toInt + 7 - (6 : Int32).toInt) ∧ (x_40.toInt ≤ at2_54.toInt) ∧ (r_55 = 1 ∧ x_40.toInt < at2_54.toInt ∧ at2_54.toInt ≤ en.toInt ∨ r_55 = 0) := hq56
          have hP : va_P g.1 vwCl (List.flatten [bMo g o a th hi ac tp ba en at2_54 x_41 6 iD iO tU fm fk fa fc ft ff fb fi]) H := hP
          have hD : va_D A (List.flatten [bMo g o a th hi ac tp ba en at2_54 x_41 6 iD iO tU fm fk fa fc ft ff fb fi]) := hD
          refine W.widen (k := 0) (n := 0) (Nat.le_of_ble_eq_true rfl) (Nat.le_of_ble_eq_true rfl) ?_
          refine W.eq (g2 := F0 m 19 ls [.int r_55]) rfl ?_
          obtain ⟨hq56_0, hq56_1, hq56_2⟩ := hq56
          rcases hq56_2 with ⟨rfl, hq56_k⟩ | rfl
          · skip
            refine lv_if_eq (tgt := 44) hx hb dX12_every_19 (by decide) (fun c57 => absurd c57 (by decide)) (fun _ => ?_)
            refine lv_aload_n hx hb dX12_every_22 rfl (lv_at hl 0 rfl) ?_
            refine mcallV' (g := g) (q0 := 0) (ci := 10) (As := []) (rest := []) St hK hT hA hP hD hS hl.1 [0] [] rfl rfl rfl (m_atom6 l g o a th hi ac tp ba en at2_54 x_41 iD iO tU fm fk fa fc ft ff fb fi hiD hiO hba hen (by first | assumption | omega | decide | exact Or.inl (by decide) | exact Or.inr (by decide)) i47 hde) (cwV 0 hts (zgL (zl4 k951 k952 k953 k839) k962) rfl rfl rfl (by decide +kernel) ⟨Nat.le_of_ble_eq_true rfl, Nat.le_of_ble_eq_true rfl⟩) rfl rfl rfl rfl (Nat.le_of_ble_eq_true rfl) dX12_every_23 ⟨(Nat.le_of_ble_eq_true rfl), (Nat.le_of_ble_eq_true rfl)⟩ (fun u_ H locs hq61 hP hD hS => ?_)
            obtain ⟨at2_58, fl2_59, q_60⟩ := u_
            replace hq61 : (0 ≤ at2_58.toInt ∧ at2_58.toInt ≤ en.toInt + 7 - 6) ∧ (at2_54.toInt ≤ at2_58.toInt) ∧ (-1 ≤ fl2_59.toInt) ∧ (q_60 = 0 ∨ q_60 = 1) := hq61
            have hP : va_P g.1 vwCl (List.flatten [bMo g o a th hi ac tp ba en at2_58 fl2_59 6 iD iO tU fm fk fa fc ft ff fb fi]) H := hP
            have hD : va_D A (List.flatten [bMo g o a th hi ac tp ba en at2_58 fl2_59 6 iD iO tU fm fk fa fc ft ff fb fi]) := hD
            refine W.widen (k := 0) (n := 0) (Nat.le_of_ble_eq_true rfl) (Nat.le_of_ble_eq_true rfl) ?_
            refine W.eq (g2 := F0 m 26 ls [.int q_60]) rfl ?_
            obtain ⟨hq61_0, hq61_1, hq61_2, hq61_3⟩ := hq61
            rcases hq61_3 with rfl | rfl
            · skip
              refine lv_istore_n (lv' := [(2, .int 0), (0, .ref o), (1, .int x_39)]) hx hb dX12_every_26 rfl hl (by decide) rfl (fun ls hl => ?_)
              refine lv_iload_n hx hb dX12_every_27 rfl (lv_at hl 2 rfl) ?_
              refine lv_if_eq (tgt := 39) hx hb dX12_every_28 (by decide) (fun cb9 => ?_) (fun cb9 => ?_)
              · skip
                have c62 : x_39.toInt = 0 := zeq cb9 rfl (by decide)
                have n63 : x_39.toInt ≤ 0 := Int.le_trans (Int.le_of_eq c62) (Int.le_refl _)
                refine lv_iconst (v := 0) hx hb dX12_every_39 (by decide) ?_
                refine lv_istore_n (lv' := [(1, .int 0), (2, .int 0), (0, .ref o)]) hx hb dX12_every_40 rfl hl (by decide) rfl (fun ls hl => ?_)
                refine lv_goto (tgt := 5) hx hb dX12_every_41 (by decide) ?_
                have hl := lv_sub (l' := [(0, .ref o), (1, .int 0), (2, .int 0)]) hl [2, 0, 1] rfl
                have hL0 : (0 : Int32).toInt = 0 := by decide
                have hP : va_P g.1 vwCl (List.flatten [bMo g o a th hi ac tp ba en at2_58 fl2_59 6 iD iO tU fm fk fa fc ft ff fb fi]) H := hP
                have hD : va_D A (List.flatten [bMo g o a th hi ac tp ba en at2_58 fl2_59 6 iD iO tU fm fk fa fc ft ff fb fi]) := hD
                exact ih5_49 0 at2_58 fl2_59 (by decide) (by first | omega | assumption | decide) (by first | omega | assumption | decide) (by first | omega | assumption | decide) (by first | omega | assumption | decide) hq61_2 H _ ls (by omega)  hP hD hS (lv_sub hl [0, 1] rfl)
              · skip
                have c64 : ¬ x_39.toInt = 0 := zne cb9 rfl (by decide)
                have n65 : 1 ≤ x_39.toInt := zN1 c64 i42.1 (by decide)
                refine lv_iload_n hx hb dX12_every_31 rfl (lv_at hl 0 rfl) ?_
                refine lv_if_eq (tgt := 39) hx hb dX12_every_32 (by decide) (fun _ => ?_) (fun c66 => absurd (by decide) c66)
                refine lv_iconst (v := 0) hx hb dX12_every_39 (by decide) ?_
                refine lv_istore_n (lv' := [(1, .int 0), (2, .int 0), (0, .ref o)]) hx hb dX12_every_40 rfl hl (by decide) rfl (fun ls hl => ?_)
                refine lv_goto (tgt := 5) hx hb dX12_every_41 (by decide) ?_
                have hl := lv_sub (l' := [(0, .ref o), (1, .int 0), (2, .int 0)]) hl [2, 0, 1] rfl
                have hL0 : (0 : Int32).toInt = 0 := by decide
                have hP : va_P g.1 vwCl (List.flatten [bMo g o a th hi ac tp ba en at2_58 fl2_59 6 iD iO tU fm fk fa fc ft ff fb fi]) H := hP
                have hD : va_D A (List.flatten [bMo g o a th hi ac tp ba en at2_58 fl2_59 6 iD iO tU fm fk fa fc ft ff fb fi]) := hD
                exact ih5_49 0 at2_58 fl2_59 (by decide) (by first | omega | assumption | decide) (by first | omega | assumption | decide) (by first | omega | assumption | decide) (by first | omega | assumption | decide) hq61_2 H _ ls (by omega)  hP hD hS (lv_sub hl [0, 1] rfl)
            · skip
              refine lv_istore_n (lv' := [(2, .int 1), (0, .ref o), (1, .int x_39)]) hx hb dX12_every_26 rfl hl (by decide) rfl (fun ls hl => ?_)
              refine lv_iload_n hx hb dX12_every_27 rfl (lv_at hl 2 rfl) ?_
              refine lv_if_eq (tgt := 39) hx hb dX12_every_28 (by decide) (fun cb9 => ?_) (fun cb9 => ?_)
              · skip
                have c67 : x_39.toInt = 0 := zeq cb9 rfl (by decide)
                have n68 : x_39.toInt ≤ 0 := Int.le_trans (Int.le_of_eq c67) (Int.le_refl _)
                refine lv_iconst (v := 0) hx hb dX12_every_39 (by decide) ?_
                refine lv_istore_n (lv' := [(1, .int 0), (2, .int 1), (0, .ref o)]) hx hb dX12_every_40 rfl hl (by decide) rfl (fun ls hl => ?_)
                refine lv_goto (tgt := 5) hx hb dX12_every_41 (by decide) ?_
                have hl := lv_sub (l' := [(0, .ref o), (1, .int 0), (2, .int 1)]) hl [2, 0, 1] rfl
                have hL0 : (0 : Int32).toInt = 0 := by decide
                have hP : va_P g.1 vwCl (List.flatten [bMo g o a th hi ac tp ba en at2_58 fl2_59 6 iD iO tU fm fk fa fc ft ff fb fi]) H := hP
                have hD : va_D A (List.flatten [bMo g o a th hi ac tp ba en at2_58 fl2_59 6 iD iO tU fm fk fa fc ft ff fb fi]) := hD
                exact ih5_49 0 at2_58 fl2_59 (by decide) (by first | omega | assumption | decide) (by first | omega | assumption | decide) (by first | omega | assumption | decide) (by first | omega | assumption | decide) hq61_2 H _ ls (by omega)  hP hD hS (lv_sub hl [0, 1] rfl)
              · skip
                have c69 : ¬ x_39.toInt = 0 := zne cb9 rfl (by decide)
                have n70 : 1 ≤ x_39.toInt := zN1 c69 i42.1 (by decide)
                refine lv_iload_n hx hb dX12_every_31 rfl (lv_at hl 0 rfl) ?_
                refine lv_if_eq (tgt := 39) hx hb dX12_every_32 (by decide) (fun c71 => absurd c71 (by decide)) (fun _ => ?_)
                refine lv_iconst (v := 1) hx hb dX12_every_35 (by decide) ?_
                refine lv_goto (tgt := 40) hx hb dX12_every_36 (by decide) ?_
                refine lv_istore_n (lv' := [(1, .int 1), (2, .int 1), (0, .ref o)]) hx hb dX12_every_40 rfl hl (by decide) rfl (fun ls hl => ?_)
                refine lv_goto (tgt := 5) hx hb dX12_every_41 (by decide) ?_
                have hl := lv_sub (l' := [(0, .ref o), (1, .int 1), (2, .int 1)]) hl [2, 0, 1] rfl
                have hL1 : (1 : Int32).toInt = 1 := by decide
                have hP : va_P g.1 vwCl (List.flatten [bMo g o a th hi ac tp ba en at2_58 fl2_59 6 iD iO tU fm fk fa fc ft ff fb fi]) H := hP
                have hD : va_D A (List.flatten [bMo g o a th hi ac tp ba en at2_58 fl2_59 6 iD iO tU fm fk fa fc ft ff fb fi]) := hD
                exact ih5_49 1 at2_58 fl2_59 (by decide) (by first | omega | assumption | decide) (by first | omega | assumption | decide) (by first | omega | assumption | decide) (by first | omega | assumption | decide) hq61_2 H _ ls (by omega)  hP hD hS (lv_sub hl [0, 1] rfl)
          · skip
            refine lv_if_eq (tgt := 44) hx hb dX12_every_19 (by decide) (fun _ => ?_) (fun c72 => absurd (by decide) c72)
            refine lv_iload_n hx hb dX12_every_44 rfl (lv_at hl 1 rfl) ?_
            have hP : va_P g.1 vwCl (List.flatten [bMo g o a th hi ac tp ba en at2_54 x_41 6 iD iO tU fm fk fa fc ft ff fb fi]) H := hP
            have hD : va_D A (List.flatten [bMo g o a th hi ac tp ba en at2_54 x_41 6 iD iO tU fm fk fa fc ft ff fb fi]) := hD
            exact mret_z hx hb hr hlocks hS (Nat.le_of_ble_eq_true rfl) (Nat.le_of_ble_eq_true rfl) dX12_every_45 (at2_54, x_41, x_39) rfl (by first | assumption | exact zb01 (by omega)) (show (0 ≤ at2_54.toInt ∧ at2_54.toInt ≤ en.toInt + 7 - 6) ∧ (tA.toInt ≤ at2_54.toInt) ∧ (-1 ≤ x_41.toInt) ∧ (x_39 = 0 ∨ x_39 = 1) from ⟨(by first | assumption | omega | decide | exact rfl | exact zb01 (by omega) | exact Or.inl (by decide) | exact Or.inr (by first | omega | decide)), (by first | assumption | omega | decide | exact rfl | exact zb01 (by omega) | exact Or.inl (by decide) | exact Or.inr (by first | omega | decide)), i47, (by first | assumption | omega | decide | exact rfl | exact zb01 (by omega) | exact Or.inl (by decide) | exact Or.inr (by first | omega | decide))⟩) hP hD
    have hL1 : (1 : Int32).toInt = 1 := by decide
    have hP : va_P g.1 vwCl (List.flatten [bMo g o a th hi ac tp ba en at2_1 fl2_2 6 iD iO tU fm fk fa fc ft ff fb fi]) H := hP
    have hD : va_D A (List.flatten [bMo g o a th hi ac tp ba en at2_1 fl2_2 6 iD iO tU fm fk fa fc ft ff fb fi]) := hD
    exact LP5_48 _ 1 at2_1 fl2_2 (by decide) (by first | omega | assumption | decide) (by first | omega | assumption | decide) hq4_1 (by first | omega | assumption | decide) hq4_2 H _ ls (Nat.lt_succ_self _)  hP hD hS (lv_sub hl [0, 1] rfl)
set_option maxRecDepth 100000 in
set_option maxHeartbeats 4000000 in
theorem m_some6 (l : Launch) (g : zG) (o : Nat) (a : Nat → Nat) (th : Int32) (hi : Int32) (ac : Int32) (tp : Int32) (ba : Int32) (en : Int32) (tA : Int32) (fl : Int32) (iD : Int32) (iO : Int32) (tU : Int32) (fm : Nat → Int32) (fk : Nat → Int32) (fa : Nat → Int32) (fc : Nat → Int32) (ft : Nat → Int32) (ff : Nat → Int32) (fb : Nat → Int32) (fi : Nat → Int32) (hiD : 0 ≤ iD.toInt ∧ iD.toInt ≤ 1) (hiO : 0 ≤ iO.toInt ∧ iO.toInt ≤ 1) (hba : zBa ba.toInt) (hen : 0 ≤ en.toInt ∧ en.toInt ≤ 400) (htA : 0 ≤ tA.toInt ∧ tA.toInt ≤ en.toInt + 7 - 6) (hfl : -1 ≤ fl.toInt) (hde : 0 ≤ 6 ∧ 6 ≤ 6) : zM' g l yX12_some (Cond.code yX12_some cX12_some 3 (some .boolean) :: zB) ({ frames := 10, cells := 0, slots := 0, locals := 218 } : Room) [.ref o] [bMo g o a th hi ac tp ba en tA fl 6 iD iO tU fm fk fa fc ft ff fb fi] (fun u : Int32 × Int32 × Int32 => (fun (at2 : Int32) (fl2 : Int32) (q : Int32) => some (.int q)) (u.1) (u.2.1) (u.2.2)) (fun u : Int32 × Int32 × Int32 => (fun (at2 : Int32) (fl2 : Int32) (q : Int32) => (0 ≤ at2.toInt ∧ at2.toInt ≤ en.toInt + 7 - 6) ∧ (tA.toInt ≤ at2.toInt) ∧ (-1 ≤ fl2.toInt) ∧ (q = 0 ∨ q = 1)) (u.1) (u.2.1) (u.2.2)) (fun u : Int32 × Int32 × Int32 => (fun (at2 : Int32) (fl2 : Int32) (q : Int32) => [bMo g o a th hi ac tp ba en at2 fl2 6 iD iO tU fm fk fa fc ft ff fb fi]) (u.1) (u.2.1) (u.2.2)) := by
  refine zM'.of (cc := cX12_some) (maxL := 3) (rt := (some .boolean)) (by decide) rfl (Nat.le_of_ble_eq_true rfl) ?_
  intro p e s m args below meth c A ls St hr hlocks hin hK hT hA hP hD hS hl
  obtain ⟨hx, hb, hml, hown, hts⟩ := id St
  have hl : lv_has ls 3 [(0, .ref o)] := hl
  refine lv_aload_n hx hb dX12_some_0 rfl (lv_at hl 0 rfl) ?_
  refine mcallV' (g := g) (q0 := 0) (ci := 10) (As := []) (rest := []) St hK hT hA hP hD hS hl.1 [0] [] rfl rfl rfl (m_every6 l g o a th hi ac tp ba en tA fl iD iO tU fm fk fa fc ft ff fb fi hiD hiO hba hen htA hfl hde) (cwV 0 hts (zgL (zl4 k959 k960 k961 k839) k957) rfl rfl rfl (by decide +kernel) ⟨Nat.le_of_ble_eq_true rfl, Nat.le_of_ble_eq_true rfl⟩) rfl rfl rfl rfl (Nat.le_of_ble_eq_true rfl) dX12_some_1 ⟨(Nat.le_of_ble_eq_true rfl), (Nat.le_of_ble_eq_true rfl)⟩ (fun u_ H locs hq4 hP hD hS => ?_)
  obtain ⟨at2_1, fl2_2, q_3⟩ := u_
  replace hq4 : (0 ≤ at2_1.toInt ∧ at2_1.toInt ≤ en.toInt + 7 - 6) ∧ (tA.toInt ≤ at2_1.toInt) ∧ (-1 ≤ fl2_2.toInt) ∧ (q_3 = 0 ∨ q_3 = 1) := hq4
  have hP : va_P g.1 vwCl (List.flatten [bMo g o a th hi ac tp ba en at2_1 fl2_2 6 iD iO tU fm fk fa fc ft ff fb fi]) H := hP
  have hD : va_D A (List.flatten [bMo g o a th hi ac tp ba en at2_1 fl2_2 6 iD iO tU fm fk fa fc ft ff fb fi]) := hD
  refine W.widen (k := 0) (n := 0) (Nat.le_of_ble_eq_true rfl) (Nat.le_of_ble_eq_true rfl) ?_
  refine W.eq (g2 := F0 m 4 ls [.int q_3]) rfl ?_
  obtain ⟨hq4_0, hq4_1, hq4_2, hq4_3⟩ := hq4
  rcases hq4_3 with rfl | rfl
  · skip
    refine lv_istore_n (lv' := [(1, .int 0), (0, .ref o)]) hx hb dX12_some_4 rfl hl (by decide) rfl (fun ls hl => ?_)
    have hl := lv_sub (l' := [(0, .ref o), (1, .int 0)]) hl [1, 0] rfl
    have LP5_14 : ∀ (kf : Nat) (x_5 : Int32) (x_6 : Int32) (x_7 : Int32), (0 ≤ x_5.toInt ∧ x_5.toInt ≤ 1) → (0 ≤ x_6.toInt ∧ x_6.toInt ≤ 407) → ((-1) ≤ x_7.toInt) → (tA.toInt ≤ x_6.toInt) → (x_6.toInt ≤ en.toInt + 7 - 6) → (-1 ≤ x_7.toInt) → ∀ (H : Heap) (locs : List Loc) (ls : Array Slot), ((en.toInt + 8 - x_6.toInt).toNat) < kf → va_P g.1 vwCl (List.flatten [bMo g o a th hi ac tp ba en x_6 x_7 6 iD iO tU fm fk fa fc ft ff fb fi]) H → va_D A (List.flatten [bMo g o a th hi ac tp ba en x_6 x_7 6 iD iO tU fm fk fa fc ft ff fb fi]) → va_S A s.heap H locs → lv_has ls 3 [(0, .ref o), (1, .int x_5)] → W p l e ({ frames := 10, cells := 0, slots := 0, locals := 218 } : Room) s m args below meth c H locs (0) (0) (zF g (fun u : Int32 × Int32 × Int32 => (fun (at2 : Int32) (fl2 : Int32) (q : Int32) => some (.int q)) (u.1) (u.2.1) (u.2.2)) (fun u : Int32 × Int32 × Int32 => (fun (at2 : Int32) (fl2 : Int32) (q : Int32) => (0 ≤ at2.toInt ∧ at2.toInt ≤ en.toInt + 7 - 6) ∧ (tA.toInt ≤ at2.toInt) ∧ (-1 ≤ fl2.toInt) ∧ (q = 0 ∨ q = 1)) (u.1) (u.2.1) (u.2.2)) (fun u : Int32 × Int32 × Int32 => (fun (at2 : Int32) (fl2 : Int32) (q : Int32) => [bMo g o a th hi ac tp ba en at2 fl2 6 iD iO tU fm fk fa fc ft ff fb fi]) (u.1) (u.2.1) (u.2.2)) ({ frames := 10, cells := 0, slots := 0, locals := 218 } : Room) below args s A) (F0 m 5 ls []) := by
      intro kf
      induction kf with
      | zero => intro x_5 x_6 x_7 i8 i9 i10 i11 i12 i13 H locs ls hk; exact absurd hk (Nat.not_lt_zero _)
      | succ kf ih5_15 =>
        intro x_5 x_6 x_7 i8 i9 i10 i11 i12 i13 H locs ls hk5_15 hP hD hS hl
        refine lv_aload_n hx hb dX12_some_5 rfl (lv_at hl 0 rfl) ?_
        refine va_get (D := g.1) (ci := 10) (v := .int x_7) (C := RX12) (T := TX12) (N := 20) hx hb hts izRX12 hown hK hP 0 rfl rfl 12 (by decide) (hts _ k820) (fun _ h9 => h9) rfl dX12_some_6 ?_
        refine lv_iconst (v := (-1)) hx hb dX12_some_9 (by decide) ?_
        refine lv_icmp_ne (tgt := 44) hx hb dX12_some_10 (by decide) (fun cb9 => ?_) (fun cb9 => ?_)
        · skip
          have c16 : ¬ x_7.toInt = (-1) := zne cb9 rfl (by decide)
          have n17 : 0 ≤ x_7.toInt := zN1 c16 i10 (by decide)
          refine lv_iload_n hx hb dX12_some_44 rfl (lv_at hl 1 rfl) ?_
          have hP : va_P g.1 vwCl (List.flatten [bMo g o a th hi ac tp ba en x_6 x_7 6 iD iO tU fm fk fa fc ft ff fb fi]) H := hP
          have hD : va_D A (List.flatten [bMo g o a th hi ac tp ba en x_6 x_7 6 iD iO tU fm fk fa fc ft ff fb fi]) := hD
          exact mret_z hx hb hr hlocks hS (Nat.le_of_ble_eq_true rfl) (Nat.le_of_ble_eq_true rfl) dX12_some_45 (x_6, x_7, x_5) rfl (by first | assumption | exact zb01 (by omega)) (show (0 ≤ x_6.toInt ∧ x_6.toInt ≤ en.toInt + 7 - 6) ∧ (tA.toInt ≤ x_6.toInt) ∧ (-1 ≤ x_7.toInt) ∧ (x_5 = 0 ∨ x_5 = 1) from ⟨(by first | assumption | omega | decide | exact rfl | exact zb01 (by omega) | exact Or.inl (by decide) | exact Or.inr (by first | omega | decide)), i11, i13, (by first | assumption | omega | decide | exact rfl | exact zb01 (by omega) | exact Or.inl (by decide) | exact Or.inr (by first | omega | decide))⟩) hP hD
        · skip
          have c18 : x_7.toInt = (-1) := zeq cb9 rfl (by decide)
          have n19 : x_7.toInt ≤ (-1) := Int.le_trans (Int.le_of_eq c18) (Int.le_refl _)
          refine lv_aload_n hx hb dX12_some_13 rfl (lv_at hl 0 rfl) ?_
          refine va_ldcS (q := g.2 102) hx hb hown (zra46 hT.2.1) dX12_some_14 ?_
          have hL6 : (6 : Int32).toInt = 6 := by decide
          refine mcallV' (g := g) (q0 := 0) (ci := 10) (As := [.ref (g.2 102)]) (rest := []) St hK hT hA hP hD hS hl.1 [0] [] rfl rfl rfl (m_has l g o a th hi ac tp ba en x_6 x_7 6 iD iO tU fm fk fa fc ft ff fb fi (g.2 102) 46 zqa46 hba hen (by first | assumption | omega | decide | exact Or.inl (by decide) | exact Or.inr (by decide)) i13 (by decide) rfl zla46 zna46) (cwV 1 hts (zgL (zl4 k899 k900 k901 k839) k889) rfl rfl rfl (by decide +kernel) ⟨Nat.le_of_ble_eq_true rfl, Nat.le_of_ble_eq_true rfl⟩) rfl rfl rfl rfl (Nat.le_of_ble_eq_true rfl) dX12_some_16 ⟨(Nat.le_of_ble_eq_true rfl), (Nat.le_of_ble_eq_true rfl)⟩ (fun u_ H locs hq22 hP hD hS => ?_)
          obtain ⟨at2_20, r_21⟩ := u_
          replace hq22 : (0 ≤ at2_20.toInt ∧ at2_20.toInt ≤ en.toInt + 7 - (6 : Int32).toInt) ∧ (x_6.toInt ≤ at2_20.toInt) ∧ (r_21 = 1 ∧ x_6.toInt < at2_20.toInt ∧ at2_20.toInt ≤ en.toInt ∨ r_21 = 0) := hq22
          have hP : va_P g.1 vwCl (List.flatten [bMo g o a th hi ac tp ba en at2_20 x_7 6 iD iO tU fm fk fa fc ft ff fb fi]) H := hP
          have hD : va_D A (List.flatten [bMo g o a th hi ac tp ba en at2_20 x_7 6 iD iO tU fm fk fa fc ft ff fb fi]) := hD
          refine W.widen (k := 0) (n := 0) (Nat.le_of_ble_eq_true rfl) (Nat.le_of_ble_eq_true rfl) ?_
          refine W.eq (g2 := F0 m 19 ls [.int r_21]) rfl ?_
          obtain ⟨hq22_0, hq22_1, hq22_2⟩ := hq22
          rcases hq22_2 with ⟨rfl, hq22_k⟩ | rfl
          · skip
            refine lv_if_eq (tgt := 44) hx hb dX12_some_19 (by decide) (fun c23 => absurd c23 (by decide)) (fun _ => ?_)
            refine lv_aload_n hx hb dX12_some_22 rfl (lv_at hl 0 rfl) ?_
            refine mcallV' (g := g) (q0 := 0) (ci := 10) (As := []) (rest := []) St hK hT hA hP hD hS hl.1 [0] [] rfl rfl rfl (m_every6 l g o a th hi ac tp ba en at2_20 x_7 iD iO tU fm fk fa fc ft ff fb fi hiD hiO hba hen (by first | assumption | omega | decide | exact Or.inl (by decide) | exact Or.inr (by decide)) i13 hde) (cwV 0 hts (zgL (zl4 k959 k960 k961 k839) k957) rfl rfl rfl (by decide +kernel) ⟨Nat.le_of_ble_eq_true rfl, Nat.le_of_ble_eq_true rfl⟩) rfl rfl rfl rfl (Nat.le_of_ble_eq_true rfl) dX12_some_23 ⟨(Nat.le_of_ble_eq_true rfl), (Nat.le_of_ble_eq_true rfl)⟩ (fun u_ H locs hq27 hP hD hS => ?_)
            obtain ⟨at2_24, fl2_25, q_26⟩ := u_
            replace hq27 : (0 ≤ at2_24.toInt ∧ at2_24.toInt ≤ en.toInt + 7 - 6) ∧ (at2_20.toInt ≤ at2_24.toInt) ∧ (-1 ≤ fl2_25.toInt) ∧ (q_26 = 0 ∨ q_26 = 1) := hq27
            have hP : va_P g.1 vwCl (List.flatten [bMo g o a th hi ac tp ba en at2_24 fl2_25 6 iD iO tU fm fk fa fc ft ff fb fi]) H := hP
            have hD : va_D A (List.flatten [bMo g o a th hi ac tp ba en at2_24 fl2_25 6 iD iO tU fm fk fa fc ft ff fb fi]) := hD
            refine W.widen (k := 0) (n := 0) (Nat.le_of_ble_eq_true rfl) (Nat.le_of_ble_eq_true rfl) ?_
            refine W.eq (g2 := F0 m 26 ls [.int q_26]) rfl ?_
            obtain ⟨hq27_0, hq27_1, hq27_2, hq27_3⟩ := hq27
            rcases hq27_3 with rfl | rfl
            · skip
              refine lv_istore_n (lv' := [(2, .int 0), (0, .ref o), (1, .int x_5)]) hx hb dX12_some_26 rfl hl (by decide) rfl (fun ls hl => ?_)
              refine lv_iload_n hx hb dX12_some_27 rfl (lv_at hl 2 rfl) ?_
              refine lv_if_ne (tgt := 35) hx hb dX12_some_28 (by decide) (fun cb9 => ?_) (fun cb9 => ?_)
              · skip
                have c28 : ¬ x_5.toInt = 0 := zne cb9 rfl (by decide)
                have n29 : 1 ≤ x_5.toInt := zN1 c28 i8.1 (by decide)
                refine lv_iconst (v := 1) hx hb dX12_some_35 (by decide) ?_
                refine lv_goto (tgt := 40) hx hb dX12_some_36 (by decide) ?_
                refine lv_istore_n (lv' := [(1, .int 1), (2, .int 0), (0, .ref o)]) hx hb dX12_some_40 rfl hl (by decide) rfl (fun ls hl => ?_)
                refine lv_goto (tgt := 5) hx hb dX12_some_41 (by decide) ?_
                have hl := lv_sub (l' := [(0, .ref o), (1, .int 1), (2, .int 0)]) hl [2, 0, 1] rfl
                have hL1 : (1 : Int32).toInt = 1 := by decide
                have hP : va_P g.1 vwCl (List.flatten [bMo g o a th hi ac tp ba en at2_24 fl2_25 6 iD iO tU fm fk fa fc ft ff fb fi]) H := hP
                have hD : va_D A (List.flatten [bMo g o a th hi ac tp ba en at2_24 fl2_25 6 iD iO tU fm fk fa fc ft ff fb fi]) := hD
                exact ih5_15 1 at2_24 fl2_25 (by decide) (by first | omega | assumption | decide) (by first | omega | assumption | decide) (by first | omega | assumption | decide) (by first | omega | assumption | decide) hq27_2 H _ ls (by omega)  hP hD hS (lv_sub hl [0, 1] rfl)
              · skip
                have c30 : x_5.toInt = 0 := zeq cb9 rfl (by decide)
                have n31 : x_5.toInt ≤ 0 := Int.le_trans (Int.le_of_eq c30) (Int.le_refl _)
                refine lv_iload_n hx hb dX12_some_31 rfl (lv_at hl 0 rfl) ?_
                refine lv_if_eq (tgt := 39) hx hb dX12_some_32 (by decide) (fun _ => ?_) (fun c32 => absurd (by decide) c32)
                refine lv_iconst (v := 0) hx hb dX12_some_39 (by decide) ?_
                refine lv_istore_n (lv' := [(1, .int 0), (2, .int 0), (0, .ref o)]) hx hb dX12_some_40 rfl hl (by decide) rfl (fun ls hl => ?_)
                refine lv_goto (tgt := 5) hx hb dX12_some_41 (by decide) ?_
                have hl := lv_sub (l' := [(0, .ref o), (1, .int 0), (2, .int 0)]) hl [2, 0, 1] rfl
                have hL0 : (0 : Int32).toInt = 0 := by decide
                have hP : va_P g.1 vwCl (List.flatten [bMo g o a th hi ac tp ba en at2_24 fl2_25 6 iD iO tU fm fk fa fc ft ff fb fi]) H := hP
                have hD : va_D A (List.flatten [bMo g o a th hi ac tp ba en at2_24 fl2_25 6 iD iO tU fm fk fa fc ft ff fb fi]) := hD
                exact ih5_15 0 at2_24 fl2_25 (by decide) (by first | omega | assumption | decide) (by first | omega | assumption | decide) (by first | omega | assumption | decide) (by first | omega | assumption | decide) hq27_2 H _ ls (by omega)  hP hD hS (lv_sub hl [0, 1] rfl)
            · skip
              refine lv_istore_n (lv' := [(2, .int 1), (0, .ref o), (1, .int x_5)]) hx hb dX12_some_26 rfl hl (by decide) rfl (fun ls hl => ?_)
              refine lv_iload_n hx hb dX12_some_27 rfl (lv_at hl 2 rfl) ?_
              refine lv_if_ne (tgt := 35) hx hb dX12_some_28 (by decide) (fun cb9 => ?_) (fun cb9 => ?_)
              · skip
                have c33 : ¬ x_5.toInt = 0 := zne cb9 rfl (by decide)
                have n34 : 1 ≤ x_5.toInt := zN1 c33 i8.1 (by decide)
                refine lv_iconst (v := 1) hx hb dX12_some_35 (by decide) ?_
                refine lv_goto (tgt := 40) hx hb dX12_some_36 (by decide) ?_
                refine lv_istore_n (lv' := [(1, .int 1), (2, .int 1), (0, .ref o)]) hx hb dX12_some_40 rfl hl (by decide) rfl (fun ls hl => ?_)
                refine lv_goto (tgt := 5) hx hb dX12_some_41 (by decide) ?_
                have hl := lv_sub (l' := [(0, .ref o), (1, .int 1), (2, .int 1)]) hl [2, 0, 1] rfl
                have hL1 : (1 : Int32).toInt = 1 := by decide
                have hP : va_P g.1 vwCl (List.flatten [bMo g o a th hi ac tp ba en at2_24 fl2_25 6 iD iO tU fm fk fa fc ft ff fb fi]) H := hP
                have hD : va_D A (List.flatten [bMo g o a th hi ac tp ba en at2_24 fl2_25 6 iD iO tU fm fk fa fc ft ff fb fi]) := hD
                exact ih5_15 1 at2_24 fl2_25 (by decide) (by first | omega | assumption | decide) (by first | omega | assumption | decide) (by first | omega | assumption | decide) (by first | omega | assumption | decide) hq27_2 H _ ls (by omega)  hP hD hS (lv_sub hl [0, 1] rfl)
              · skip
                have c35 : x_5.toInt = 0 := zeq cb9 rfl (by decide)
                have n36 : x_5.toInt ≤ 0 := Int.le_trans (Int.le_of_eq c35) (Int.le_refl _)
                refine lv_iload_n hx hb dX12_some_31 rfl (lv_at hl 0 rfl) ?_
                refine lv_if_eq (tgt := 39) hx hb dX12_some_32 (by decide) (fun c37 => absurd c37 (by decide)) (fun _ => ?_)
                refine lv_iconst (v := 1) hx hb dX12_some_35 (by decide) ?_
                refine lv_goto (tgt := 40) hx hb dX12_some_36 (by decide) ?_
                refine lv_istore_n (lv' := [(1, .int 1), (2, .int 1), (0, .ref o)]) hx hb dX12_some_40 rfl hl (by decide) rfl (fun ls hl => ?_)
                refine lv_goto (tgt := 5) hx hb dX12_some_41 (by decide) ?_
                have hl := lv_sub (l' := [(0, .ref o), (1, .int 1), (2, .int 1)]) hl [2, 0, 1] rfl
                have hL1 : (1 : Int32).toInt = 1 := by decide
                have hP : va_P g.1 vwCl (List.flatten [bMo g o a th hi ac tp ba en at2_24 fl2_25 6 iD iO tU fm fk fa fc ft ff fb fi]) H := hP
                have hD : va_D A (List.flatten [bMo g o a th hi ac tp ba en at2_24 fl2_25 6 iD iO tU fm fk fa fc ft ff fb fi]) := hD
                exact ih5_15 1 at2_24 fl2_25 (by decide) (by first | omega | assumption | decide) (by first | omega | assumption | decide) (by first | omega | assumption | decide) (by first | omega | assumption | decide) hq27_2 H _ ls (by omega)  hP hD hS (lv_sub hl [0, 1] rfl)
          · skip
            refine lv_if_eq (tgt := 44) hx hb dX12_some_19 (by decide) (fun _ => ?_) (fun c38 => absurd (by decide) c38)
            refine lv_iload_n hx hb dX12_some_44 rfl (lv_at hl 1 rfl) ?_
            have hP : va_P g.1 vwCl (List.flatten [bMo g o a th hi ac tp ba en at2_20 x_7 6 iD iO tU fm fk fa fc ft ff fb fi]) H := hP
            have hD : va_D A (List.flatten [bMo g o a th hi ac tp ba en at2_20 x_7 6 iD iO tU fm fk fa fc ft ff fb fi]) := hD
            exact mret_z hx hb hr hlocks hS (Nat.le_of_ble_eq_true rfl) (Nat.le_of_ble_eq_true rfl) dX12_some_45 (at2_20, x_7, x_5) rfl (by first | assumption | exact zb01 (by omega)) (show (0 ≤ at2_20.toInt ∧ at2_20.toInt ≤ en.toInt + 7 - 6) ∧ (tA.toInt ≤ at2_20.toInt) ∧ (-1 ≤ x_7.toInt) ∧ (x_5 = 0 ∨ x_5 = 1) from ⟨(by first | assumption | omega | decide | exact rfl | exact zb01 (by omega) | exact Or.inl (by decide) | exact Or.inr (by first | omega | decide)), (by first | assumption | omega | decide | exact rfl | exact zb01 (by omega) | exact Or.inl (by decide) | exact Or.inr (by first | omega | decide)), i13, (by first | assumption | omega | decide | exact rfl | exact zb01 (by omega) | exact Or.inl (by decide) | exact Or.inr (by first | omega | decide))⟩) hP hD
    have hL0 : (0 : Int32).toInt = 0 := by decide
    have hP : va_P g.1 vwCl (List.flatten [bMo g o a th hi ac tp ba en at2_1 fl2_2 6 iD iO tU fm fk fa fc ft ff fb fi]) H := hP
    have hD : va_D A (List.flatten [bMo g o a th hi ac tp ba en at2_1 fl2_2 6 iD iO tU fm fk fa fc ft ff fb fi]) := hD
    exact LP5_14 _ 0 at2_1 fl2_2 (by decide) (by first | omega | assumption | decide) (by first | omega | assumption | decide) hq4_1 (by first | omega | assumption | decide) hq4_2 H _ ls (Nat.lt_succ_self _)  hP hD hS (lv_sub hl [0, 1] rfl)
  · skip
    refine lv_istore_n (lv' := [(1, .int 1), (0, .ref o)]) hx hb dX12_some_4 rfl hl (by decide) rfl (fun ls hl => ?_)
    have hl := lv_sub (l' := [(0, .ref o), (1, .int 1)]) hl [1, 0] rfl
    have LP5_48 : ∀ (kf : Nat) (x_39 : Int32) (x_40 : Int32) (x_41 : Int32), (0 ≤ x_39.toInt ∧ x_39.toInt ≤ 1) → (0 ≤ x_40.toInt ∧ x_40.toInt ≤ 407) → ((-1) ≤ x_41.toInt) → (tA.toInt ≤ x_40.toInt) → (x_40.toInt ≤ en.toInt + 7 - 6) → (-1 ≤ x_41.toInt) → ∀ (H : Heap) (locs : List Loc) (ls : Array Slot), ((en.toInt + 8 - x_40.toInt).toNat) < kf → va_P g.1 vwCl (List.flatten [bMo g o a th hi ac tp ba en x_40 x_41 6 iD iO tU fm fk fa fc ft ff fb fi]) H → va_D A (List.flatten [bMo g o a th hi ac tp ba en x_40 x_41 6 iD iO tU fm fk fa fc ft ff fb fi]) → va_S A s.heap H locs → lv_has ls 3 [(0, .ref o), (1, .int x_39)] → W p l e ({ frames := 10, cells := 0, slots := 0, locals := 218 } : Room) s m args below meth c H locs (0) (0) (zF g (fun u : Int32 × Int32 × Int32 => (fun (at2 : Int32) (fl2 : Int32) (q : Int32) => some (.int q)) (u.1) (u.2.1) (u.2.2)) (fun u : Int32 × Int32 × Int32 => (fun (at2 : Int32) (fl2 : Int32) (q : Int32) => (0 ≤ at2.toInt ∧ at2.toInt ≤ en.toInt + 7 - 6) ∧ (tA.toInt ≤ at2.toInt) ∧ (-1 ≤ fl2.toInt) ∧ (q = 0 ∨ q = 1)) (u.1) (u.2.1) (u.2.2)) (fun u : Int32 × Int32 × Int32 => (fun (at2 : Int32) (fl2 : Int32) (q : Int32) => [bMo g o a th hi ac tp ba en at2 fl2 6 iD iO tU fm fk fa fc ft ff fb fi]) (u.1) (u.2.1) (u.2.2)) ({ frames := 10, cells := 0, slots := 0, locals := 218 } : Room) below args s A) (F0 m 5 ls []) := by
      intro kf
      induction kf with
      | zero => intro x_39 x_40 x_41 i42 i43 i44 i45 i46 i47 H locs ls hk; exact absurd hk (Nat.not_lt_zero _)
      | succ kf ih5_49 =>
        intro x_39 x_40 x_41 i42 i43 i44 i45 i46 i47 H locs ls hk5_49 hP hD hS hl
        refine lv_aload_n hx hb dX12_some_5 rfl (lv_at hl 0 rfl) ?_
        refine va_get (D := g.1) (ci := 10) (v := .int x_41) (C := RX12) (T := TX12) (N := 20) hx hb hts izRX12 hown hK hP 0 rfl rfl 12 (by decide) (hts _ k820) (fun _ h9 => h9) rfl dX12_some_6 ?_
        refine lv_iconst (v := (-1)) hx hb dX12_some_9 (by decide) ?_
        refine lv_icmp_ne (tgt := 44) hx hb dX12_some_10 (by decide) (fun cb9 => ?_) (fun cb9 => ?_)
        · skip
          have c50 : ¬ x_41.toInt = (-1) := zne cb9 rfl (by decide)
          have n51 : 0 ≤ x_41.toInt := zN1 c50 i44 (by decide)
          refine lv_iload_n hx hb dX12_some_44 rfl (lv_at hl 1 rfl) ?_
          have hP : va_P g.1 vwCl (List.flatten [bMo g o a th hi ac tp ba en x_40 x_41 6 iD iO tU fm fk fa fc ft ff fb fi]) H := hP
          have hD : va_D A (List.flatten [bMo g o a th hi ac tp ba en x_40 x_41 6 iD iO tU fm fk fa fc ft ff fb fi]) := hD
          exact mret_z hx hb hr hlocks hS (Nat.le_of_ble_eq_true rfl) (Nat.le_of_ble_eq_true rfl) dX12_some_45 (x_40, x_41, x_39) rfl (by first | assumption | exact zb01 (by omega)) (show (0 ≤ x_40.toInt ∧ x_40.toInt ≤ en.toInt + 7 - 6) ∧ (tA.toInt ≤ x_40.toInt) ∧ (-1 ≤ x_41.toInt) ∧ (x_39 = 0 ∨ x_39 = 1) from ⟨(by first | assumption | omega | decide | exact rfl | exact zb01 (by omega) | exact Or.inl (by decide) | exact Or.inr (by first | omega | decide)), i45, i47, (by first | assumption | omega | decide | exact rfl | exact zb01 (by omega) | exact Or.inl (by decide) | exact Or.inr (by first | omega | decide))⟩) hP hD
        · skip
          have c52 : x_41.toInt = (-1) := zeq cb9 rfl (by decide)
          have n53 : x_41.toInt ≤ (-1) := Int.le_trans (Int.le_of_eq c52) (Int.le_refl _)
          refine lv_aload_n hx hb dX12_some_13 rfl (lv_at hl 0 rfl) ?_
          refine va_ldcS (q := g.2 102) hx hb hown (zra46 hT.2.1) dX12_some_14 ?_
          have hL6 : (6 : Int32).toInt = 6 := by decide
          refine mcallV' (g := g) (q0 := 0) (ci := 10) (As := [.ref (g.2 102)]) (rest := []) St hK hT hA hP hD hS hl.1 [0] [] rfl rfl rfl (m_has l g o a th hi ac tp ba en x_40 x_41 6 iD iO tU fm fk fa fc ft ff fb fi (g.2 102) 46 zqa46 hba hen (by first | assumption | omega | decide | exact Or.inl (by decide) | exact Or.inr (by decide)) i47 (by decide) rfl zla46 zna46) (cwV 1 hts (zgL (zl4 k899 k900 k901 k839) k889) rfl rfl rfl (by decide +kernel) ⟨Nat.le_of_ble_eq_true rfl, Nat.le_of_ble_eq_true rfl⟩) rfl rfl rfl rfl (Nat.le_of_ble_eq_true rfl) dX12_some_16 ⟨(Nat.le_of_ble_eq_true rfl), (Nat.le_of_ble_eq_true rfl)⟩ (fun u_ H locs hq56 hP hD hS => ?_)
          obtain ⟨at2_54, r_55⟩ := u_
          replace hq56 : (0 ≤ at2_54.toInt ∧ at2_54.toInt ≤ en.toInt + 7 - (6 : Int32).toInt) ∧ (x_40.toInt ≤ at2_54.toInt) ∧ (r_55 = 1 ∧ x_40.toInt < at2_54.toInt ∧ at2_54.toInt ≤ en.toInt ∨ r_55 = 0) := hq56
          have hP : va_P g.1 vwCl (List.flatten [bMo g o a th hi ac tp ba en at2_54 x_41 6 iD iO tU fm fk fa fc ft ff fb fi]) H := hP
          have hD : va_D A (List.flatten [bMo g o a th hi ac tp ba en at2_54 x_41 6 iD iO tU fm fk fa fc ft ff fb fi]) := hD
          refine W.widen (k := 0) (n := 0) (Nat.le_of_ble_eq_true rfl) (Nat.le_of_ble_eq_true rfl) ?_
          refine W.eq (g2 := F0 m 19 ls [.int r_55]) rfl ?_
          obtain ⟨hq56_0, hq56_1, hq56_2⟩ := hq56
          rcases hq56_2 with ⟨rfl, hq56_k⟩ | rfl
          · skip
            refine lv_if_eq (tgt := 44) hx hb dX12_some_19 (by decide) (fun c57 => absurd c57 (by decide)) (fun _ => ?_)
            refine lv_aload_n hx hb dX12_some_22 rfl (lv_at hl 0 rfl) ?_
            refine mcallV' (g := g) (q0 := 0) (ci := 10) (As := []) (rest := []) St hK hT hA hP hD hS hl.1 [0] [] rfl rfl rfl (m_every6 l g o a th hi ac tp ba en at2_54 x_41 iD iO tU fm fk fa fc ft ff fb fi hiD hiO hba hen (by first | assumption | omega | decide | exact Or.inl (by decide) | exact Or.inr (by decide)) i47 hde) (cwV 0 hts (zgL (zl4 k959 k960 k961 k839) k957) rfl rfl rfl (by decide +kernel) ⟨Nat.le_of_ble_eq_true rfl, Nat.le_of_ble_eq_true rfl⟩) rfl rfl rfl rfl (Nat.le_of_ble_eq_true rfl) dX12_some_23 ⟨(Nat.le_of_ble_eq_true rfl), (Nat.le_of_ble_eq_true rfl)⟩ (fun u_ H locs hq61 hP hD hS => ?_)
            obtain ⟨at2_58, fl2_59, q_60⟩ := u_
            replace hq61 : (0 ≤ at2_58.toInt ∧ at2_58.toInt ≤ en.toInt + 7 - 6) ∧ (at2_54.toInt ≤ at2_58.toInt) ∧ (-1 ≤ fl2_59.toInt) ∧ (q_60 = 0 ∨ q_60 = 1) := hq61
            have hP : va_P g.1 vwCl (List.flatten [bMo g o a th hi ac tp ba en at2_58 fl2_59 6 iD iO tU fm fk fa fc ft ff fb fi]) H := hP
            have hD : va_D A (List.flatten [bMo g o a th hi ac tp ba en at2_58 fl2_59 6 iD iO tU fm fk fa fc ft ff fb fi]) := hD
            refine W.widen (k := 0) (n := 0) (Nat.le_of_ble_eq_true rfl) (Nat.le_of_ble_eq_true rfl) ?_
            refine W.eq (g2 := F0 m 26 ls [.int q_60]) rfl ?_
            obtain ⟨hq61_0, hq61_1, hq61_2, hq61_3⟩ := hq61
            rcases hq61_3 with rfl | rfl
            · skip
              refine lv_istore_n (lv' := [(2, .int 0), (0, .ref o), (1, .int x_39)]) hx hb dX12_some_26 rfl hl (by decide) rfl (fun ls hl => ?_)
              refine lv_iload_n hx hb dX12_some_27 rfl (lv_at hl 2 rfl) ?_
              refine lv_if_ne (tgt := 35) hx hb dX12_some_28 (by decide) (fun cb9 => ?_) (fun cb9 => ?_)
              · skip
                have c62 : ¬ x_39.toInt = 0 := zne cb9 rfl (by decide)
                have n63 : 1 ≤ x_39.toInt := zN1 c62 i42.1 (by decide)
                refine lv_iconst (v := 1) hx hb dX12_some_35 (by decide) ?_
                refine lv_goto (tgt := 40) hx hb dX12_some_36 (by decide) ?_
                refine lv_istore_n (lv' := [(1, .int 1), (2, .int 0), (0, .ref o)]) hx hb dX12_some_40 rfl hl (by decide) rfl (fun ls hl => ?_)
                refine lv_goto (tgt := 5) hx hb dX12_some_41 (by decide) ?_
                have hl := lv_sub (l' := [(0, .ref o), (1, .int 1), (2, .int 0)]) hl [2, 0, 1] rfl
                have hL1 : (1 : Int32).toInt = 1 := by decide
                have hP : va_P g.1 vwCl (List.flatten [bMo g o a th hi ac tp ba en at2_58 fl2_59 6 iD iO tU fm fk fa fc ft ff fb fi]) H := hP
                have hD : va_D A (List.flatten [bMo g o a th hi ac tp ba en at2_58 fl2_59 6 iD iO tU fm fk fa fc ft ff fb fi]) := hD
                exact ih5_49 1 at2_58 fl2_59 (by decide) (by first | omega | assumption | decide) (by first | omega | assumption | decide) (by first | omega | assumption | decide) (by first | omega | assumption | decide) hq61_2 H _ ls (by omega)  hP hD hS (lv_sub hl [0, 1] rfl)
              · skip
                have c64 : x_39.toInt = 0 := zeq cb9 rfl (by decide)
                have n65 : x_39.toInt ≤ 0 := Int.le_trans (Int.le_of_eq c64) (Int.le_refl _)
                refine lv_iload_n hx hb dX12_some_31 rfl (lv_at hl 0 rfl) ?_
                refine lv_if_eq (tgt := 39) hx hb dX12_some_32 (by decide) (fun _ => ?_) (fun c66 => absurd (by decide) c66)
                refine lv_iconst (v := 0) hx hb dX12_some_39 (by decide) ?_
                refine lv_istore_n (lv' := [(1, .int 0), (2, .int 0), (0, .ref o)]) hx hb dX12_some_40 rfl hl (by decide) rfl (fun ls hl => ?_)
                refine lv_goto (tgt := 5) hx hb dX12_some_41 (by decide) ?_
                have hl := lv_sub (l' := [(0, .ref o), (1, .int 0), (2, .int 0)]) hl [2, 0, 1] rfl
                have hL0 : (0 : Int32).toInt = 0 := by decide
                have hP : va_P g.1 vwCl (List.flatten [bMo g o a th hi ac tp ba en at2_58 fl2_59 6 iD iO tU fm fk fa fc ft ff fb fi]) H := hP
                have hD : va_D A (List.flatten [bMo g o a th hi ac tp ba en at2_58 fl2_59 6 iD iO tU fm fk fa fc ft ff fb fi]) := hD
                exact ih5_49 0 at2_58 fl2_59 (by decide) (by first | omega | assumption | decide) (by first | omega | assumption | decide) (by first | omega | assumption | decide) (by first | omega | assumption | decide) hq61_2 H _ ls (by omega)  hP hD hS (lv_sub hl [0, 1] rfl)
            · skip
              refine lv_istore_n (lv' := [(2, .int 1), (0, .ref o), (1, .int x_39)]) hx hb dX12_some_26 rfl hl (by decide) rfl (fun ls hl => ?_)
              refine lv_iload_n hx hb dX12_some_27 rfl (lv_at hl 2 rfl) ?_
              refine lv_if_ne (tgt := 35) hx hb dX12_some_28 (by decide) (fun cb9 => ?_) (fun cb9 => ?_)
              · skip
                have c67 : ¬ x_39.toInt = 0 := zne cb9 rfl (by decide)
                have n68 : 1 ≤ x_39.toInt := zN1 c67 i42.1 (by decide)
                refine lv_iconst (v := 1) hx hb dX12_some_35 (by decide) ?_
                refine lv_goto (tgt := 40) hx hb dX12_some_36 (by decide) ?_
                refine lv_istore_n (lv' := [(1, .int 1), (2, .int 1), (0, .ref o)]) hx hb dX12_some_40 rfl hl (by decide) rfl (fun ls hl => ?_)
                refine lv_goto (tgt := 5) hx hb dX12_some_41 (by decide) ?_
                have hl := lv_sub (l' := [(0, .ref o), (1, .int 1), (2, .int 1)]) hl [2, 0, 1] rfl
                have hL1 : (1 : Int32).toInt = 1 := by decide
                have hP : va_P g.1 vwCl (List.flatten [bMo g o a th hi ac tp ba en at2_58 fl2_59 6 iD iO tU fm fk fa fc ft ff fb fi]) H := hP
                have hD : va_D A (List.flatten [bMo g o a th hi ac tp ba en at2_58 fl2_59 6 iD iO tU fm fk fa fc ft ff fb fi]) := hD
                exact ih5_49 1 at2_58 fl2_59 (by decide) (by first | omega | assumption | decide) (by first | omega | assumption | decide) (by first | omega | assumption | decide) (by first | omega | assumption | decide) hq61_2 H _ ls (by omega)  hP hD hS (lv_sub hl [0, 1] rfl)
              · skip
                have c69 : x_39.toInt = 0 := zeq cb9 rfl (by decide)
                have n70 : x_39.toInt ≤ 0 := Int.le_trans (Int.le_of_eq c69) (Int.le_refl _)
                refine lv_iload_n hx hb dX12_some_31 rfl (lv_at hl 0 rfl) ?_
                refine lv_if_eq (tgt := 39) hx hb dX12_some_32 (by decide) (fun c71 => absurd c71 (by decide)) (fun _ => ?_)
                refine lv_iconst (v := 1) hx hb dX12_some_35 (by decide) ?_
                refine lv_goto (tgt := 40) hx hb dX12_some_36 (by decide) ?_
                refine lv_istore_n (lv' := [(1, .int 1), (2, .int 1), (0, .ref o)]) hx hb dX12_some_40 rfl hl (by decide) rfl (fun ls hl => ?_)
                refine lv_goto (tgt := 5) hx hb dX12_some_41 (by decide) ?_
                have hl := lv_sub (l' := [(0, .ref o), (1, .int 1), (2, .int 1)]) hl [2, 0, 1] rfl
                have hL1 : (1 : Int32).toInt = 1 := by decide
                have hP : va_P g.1 vwCl (List.flatten [bMo g o a th hi ac tp ba en at2_58 fl2_59 6 iD iO tU fm fk fa fc ft ff fb fi]) H := hP
                have hD : va_D A (List.flatten [bMo g o a th hi ac tp ba en at2_58 fl2_59 6 iD iO tU fm fk fa fc ft ff fb fi]) := hD
                exact ih5_49 1 at2_58 fl2_59 (by decide) (by first | omega | assumption | decide) (by first | omega | assumption | decide) (by first | omega | assumption | decide) (by first | omega | assumption | decide) hq61_2 H _ ls (by omega)  hP hD hS (lv_sub hl [0, 1] rfl)
          · skip
            refine lv_if_eq (tgt := 44) hx hb dX12_some_19 (by decide) (fun _ => ?_) (fun c72 => absurd (by decide) c72)
            refine lv_iload_n hx hb dX12_some_44 rfl (lv_at hl 1 rfl) ?_
            have hP : va_P g.1 vwCl (List.flatten [bMo g o a th hi ac tp ba en at2_54 x_41 6 iD iO tU fm fk fa fc ft ff fb fi]) H := hP
            have hD : va_D A (List.flatten [bMo g o a th hi ac tp ba en at2_54 x_41 6 iD iO tU fm fk fa fc ft ff fb fi]) := hD
            exact mret_z hx hb hr hlocks hS (Nat.le_of_ble_eq_true rfl) (Nat.le_of_ble_eq_true rfl) dX12_some_45 (at2_54, x_41, x_39) rfl (by first | assumption | exact zb01 (by omega)) (show (0 ≤ at2_54.toInt ∧ at2_54.toInt ≤ en.toInt + 7 - 6) ∧ (tA.toInt ≤ at2_54.toInt) ∧ (-1 ≤ x_41.toInt) ∧ (x_39 = 0 ∨ x_39 = 1) from ⟨(by first | assumption | omega | decide | exact rfl | exact zb01 (by omega) | exact Or.inl (by decide) | exact Or.inr (by first | omega | decide)), (by first | assumption | omega | decide | exact rfl | exact zb01 (by omega) | exact Or.inl (by decide) | exact Or.inr (by first | omega | decide)), i47, (by first | assumption | omega | decide | exact rfl | exact zb01 (by omega) | exact Or.inl (by decide) | exact Or.inr (by first | omega | decide))⟩) hP hD
    have hL1 : (1 : Int32).toInt = 1 := by decide
    have hP : va_P g.1 vwCl (List.flatten [bMo g o a th hi ac tp ba en at2_1 fl2_2 6 iD iO tU fm fk fa fc ft ff fb fi]) H := hP
    have hD : va_D A (List.flatten [bMo g o a th hi ac tp ba en at2_1 fl2_2 6 iD iO tU fm fk fa fc ft ff fb fi]) := hD
    exact LP5_48 _ 1 at2_1 fl2_2 (by decide) (by first | omega | assumption | decide) (by first | omega | assumption | decide) hq4_1 (by first | omega | assumption | decide) hq4_2 H _ ls (Nat.lt_succ_self _)  hP hD hS (lv_sub hl [0, 1] rfl)
