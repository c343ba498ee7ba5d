set_option maxRecDepth 100000 in
set_option maxHeartbeats 4000000 in
theorem m_part (l : Launch) (g : zG) (o : Nat) (a : Nat → Nat) (th : Int32) (hi : Int32) (ac : Int32) (tp : Int32) (ba : Int32) (en : Int32) (tA : Int32) (fl : Int32) (de : Int32) (iD : Int32) (iO : Int32) (tU : Int32) (fm : Nat → Int32) (fk : Nat → Int32) (fa : Nat → Int32) (fc : Nat → Int32) (ft : Nat → Int32) (ff : Nat → Int32) (fb : Nat → Int32) (fi : Nat → Int32) (hba : zBa ba.toInt) (hen : 0 ≤ en.toInt ∧ en.toInt ≤ 400) (htA : 0 ≤ tA.toInt ∧ tA.toInt ≤ en.toInt + 7 - de.toInt) (hfl : -1 ≤ fl.toInt) (hde : 0 ≤ de.toInt ∧ de.toInt ≤ 6) : zM' g l yX12_part (Cond.code yX12_part cX12_part 2 (some .int) :: zB) ({ frames := 5, cells := 0, slots := 0, locals := 108 } : Room) [.ref o] [bMo g o a th hi ac tp ba en tA fl de iD iO tU fm fk fa fc ft ff fb fi] (fun u : Int32 × Int32 × Int32 => (fun (at2 : Int32) (fl2 : Int32) (q : Int32) => some (.int q)) (u.1) (u.2.1) (u.2.2)) (fun u : Int32 × Int32 × Int32 => (fun (at2 : Int32) (fl2 : Int32) (q : Int32) => (0 ≤ at2.toInt ∧ at2.toInt ≤ en.toInt + 7 - de.toInt) ∧ (tA.toInt ≤ at2.toInt) ∧ (-1 ≤ fl2.toInt)) (u.1) (u.2.1) (u.2.2)) (fun u : Int32 × Int32 × Int32 => (fun (at2 : Int32) (fl2 : Int32) (q : Int32) => [bMo g o a th hi ac tp ba en at2 fl2 de iD iO tU fm fk fa fc ft ff fb fi]) (u.1) (u.2.1) (u.2.2)) := by
  refine zM'.of (cc := cX12_part) (maxL := 2) (rt := (some .int)) (by decide) rfl (Nat.le_of_ble_eq_true rfl) ?_
  intro p e s m args below meth c A ls St hr hlocks hin hK hT hA hP hD hS hl
  obtain ⟨hx, hb, hml, hown, hts⟩ := id St
  have hl : lv_has ls 2 [(0, .ref o)] := hl
  refine lv_aload_n hx hb dX12_part_0 rfl (lv_at hl 0 rfl) ?_
  refine va_get (D := g.1) (ci := 10) (v := .int fl) (C := RX12) (T := TX12) (N := 20) hx hb hts izRX12 hown hK hP 0 rfl rfl 12 (by decide) (hts _ k820) (fun _ h9 => h9) rfl dX12_part_1 ?_
  refine lv_iconst (v := (-1)) hx hb dX12_part_4 (by decide) ?_
  refine lv_icmp_eq (tgt := 10) hx hb dX12_part_5 (by decide) (fun cb9 => ?_) (fun cb9 => ?_)
  · skip
    have c1 : fl.toInt = (-1) := zeq cb9 rfl (by decide)
    have n2 : fl.toInt ≤ (-1) := Int.le_trans (Int.le_of_eq c1) (Int.le_refl _)
    refine lv_aload_n hx hb dX12_part_10 rfl (lv_at hl 0 rfl) ?_
    refine mcallV' (g := g) (q0 := 0) (ci := 10) (As := []) (rest := []) St hK hT hA hP hD hS hl.1 [0] [] rfl rfl rfl (m_skip l g o a th hi ac tp ba en tA fl de iD iO tU fm fk fa fc ft ff fb fi (by first | assumption | omega | decide | exact Or.inl (by decide) | exact Or.inr (by decide)) (⟨hen.1, hen.2⟩) (by first | assumption | omega | decide | exact Or.inl (by decide) | exact Or.inr (by decide)) (by first | assumption | omega | decide | exact Or.inl (by decide) | exact Or.inr (by decide)) (⟨hde.1, hde.2⟩)) (cwV 0 hts (zgL (zl4 k883 k884 k885 k837) k876) rfl rfl rfl (by decide +kernel) ⟨Nat.le_of_ble_eq_true rfl, Nat.le_of_ble_eq_true rfl⟩) rfl rfl rfl rfl (Nat.le_of_ble_eq_true rfl) dX12_part_11 ⟨(Nat.le_of_ble_eq_true rfl), (Nat.le_of_ble_eq_true rfl)⟩ (fun at2_3 H locs hq4 hP hD hS => ?_)
    replace hq4 : (0 ≤ at2_3.toInt ∧ at2_3.toInt ≤ en.toInt + 7 - de.toInt) ∧ (tA.toInt ≤ at2_3.toInt) := hq4
    have hP : va_P g.1 vwCl (List.flatten [bMo g o a th hi ac tp ba en at2_3 fl de iD iO tU fm fk fa fc ft ff fb fi]) H := hP
    have hD : va_D A (List.flatten [bMo g o a th hi ac tp ba en at2_3 fl de iD iO tU fm fk fa fc ft ff fb fi]) := hD
    refine W.widen (k := 0) (n := 0) (Nat.le_of_ble_eq_true rfl) (Nat.le_of_ble_eq_true rfl) ?_
    refine W.eq (g2 := F0 m 14 ls []) rfl ?_
    obtain ⟨hq4_0, hq4_1⟩ := hq4
    refine lv_aload_n hx hb dX12_part_14 rfl (lv_at hl 0 rfl) ?_
    refine va_get (D := g.1) (ci := 10) (v := .int at2_3) (C := RX12) (T := TX12) (N := 20) hx hb hts izRX12 hown hK hP 0 rfl rfl 11 (by decide) (hts _ k877) (fun _ h9 => h9) rfl dX12_part_15 ?_
    refine lv_aload_n hx hb dX12_part_18 rfl (lv_at hl 0 rfl) ?_
    refine va_get (D := g.1) (ci := 10) (v := .int en) (C := RX12) (T := TX12) (N := 20) hx hb hts izRX12 hown hK hP 0 rfl rfl 10 (by decide) (hts _ k878) (fun _ h9 => h9) rfl dX12_part_19 ?_
    refine lv_icmp_ge (tgt := 52) hx hb dX12_part_22 (by decide) (fun cb9 => ?_) (fun cb9 => ?_)
    · skip
      have c5 : en.toInt ≤ at2_3.toInt := zle cb9 rfl rfl
      refine lv_aload_n hx hb dX12_part_52 rfl (lv_at hl 0 rfl) ?_
      refine va_ldcS (q := g.2 86) hx hb hown (zra38 hT.2.1) dX12_part_53 ?_
      refine mcallV' (g := g) (q0 := 0) (ci := 10) (As := [.ref (g.2 86)]) (rest := []) St hK hT hA hP hD hS hl.1 [0] [] rfl rfl rfl (m_has l g o a th hi ac tp ba en at2_3 fl de iD iO tU fm fk fa fc ft ff fb fi (g.2 86) 38 zqa38 (by first | assumption | omega | decide | exact Or.inl (by decide) | exact Or.inr (by decide)) (⟨hen.1, hen.2⟩) (by first | assumption | omega | decide | exact Or.inl (by decide) | exact Or.inr (by decide)) (by first | assumption | omega | decide | exact Or.inl (by decide) | exact Or.inr (by decide)) (⟨hde.1, hde.2⟩) rfl zla38 zna38) (cwV 1 hts (zgL (zl4 k898 k899 k900 k837) k888) rfl rfl rfl (by decide +kernel) ⟨Nat.le_of_ble_eq_true rfl, Nat.le_of_ble_eq_true rfl⟩) rfl rfl rfl rfl (Nat.le_of_ble_eq_true rfl) dX12_part_55 ⟨(Nat.le_of_ble_eq_true rfl), (Nat.le_of_ble_eq_true rfl)⟩ (fun u_ H locs hq8 hP hD hS => ?_)
      obtain ⟨at2_6, r_7⟩ := u_
      replace hq8 : (0 ≤ at2_6.toInt ∧ at2_6.toInt ≤ en.toInt + 7 - de.toInt) ∧ (at2_3.toInt ≤ at2_6.toInt) ∧ (r_7 = 1 ∧ at2_3.toInt < at2_6.toInt ∧ at2_6.toInt ≤ en.toInt ∨ r_7 = 0) := hq8
      have hP : va_P g.1 vwCl (List.flatten [bMo g o a th hi ac tp ba en at2_6 fl de iD iO tU fm fk fa fc ft ff fb fi]) H := hP
      have hD : va_D A (List.flatten [bMo g o a th hi ac tp ba en at2_6 fl de iD iO tU fm fk fa fc ft ff fb fi]) := hD
      refine W.widen (k := 0) (n := 0) (Nat.le_of_ble_eq_true rfl) (Nat.le_of_ble_eq_true rfl) ?_
      refine W.eq (g2 := F0 m 58 ls [.int r_7]) rfl ?_
      obtain ⟨hq8_0, hq8_1, hq8_2⟩ := hq8
      rcases hq8_2 with ⟨rfl, hq8_k⟩ | rfl
      · skip
        refine lv_if_eq (tgt := 65) hx hb dX12_part_58 (by decide) (fun c9 => absurd c9 (by decide)) (fun _ => ?_)
        refine lv_iconst (v := 0) hx hb dX12_part_61 (by decide) ?_
        refine lv_goto (tgt := 131) hx hb dX12_part_62 (by decide) ?_
        refine lv_istore_n (lv' := [(1, .int 0), (0, .ref o)]) hx hb dX12_part_131 rfl hl (by decide) rfl (fun ls hl => ?_)
        refine lv_iload_n hx hb dX12_part_132 rfl (lv_at hl 0 rfl) ?_
        refine lv_iconst (v := (-1)) hx hb dX12_part_133 (by decide) ?_
        refine lv_icmp_ne (tgt := 147) hx hb dX12_part_134 (by decide) (fun _ => ?_) (fun c10 => absurd c10 (by decide))
        refine lv_aload_n hx hb dX12_part_147 rfl (lv_at hl 1 rfl) ?_
        refine va_get (D := g.1) (ci := 10) (v := .ref (a 5)) (C := RX12) (T := TX12) (N := 20) hx hb hts izRX12 hown hK hP 0 rfl rfl 14 (by decide) (hts _ k821) (fun _ h9 => h9) rfl dX12_part_148 ?_
        refine lv_iload_n hx hb dX12_part_151 rfl (lv_at hl 0 rfl) ?_
        refine va_iald hx hb hK hP 6 0 rfl rfl (zin rfl) dX12_part_152 ?_
        refine zg (fun x_11 => ?_)
        have hP : va_P g.1 vwCl (List.flatten [bMo g o a th hi ac tp ba en at2_6 fl de iD iO tU fm fk fa fc ft ff fb fi]) H := hP
        have hD : va_D A (List.flatten [bMo g o a th hi ac tp ba en at2_6 fl de iD iO tU fm fk fa fc ft ff fb fi]) := hD
        exact mret_i hx hb hr hlocks hS (Nat.le_of_ble_eq_true rfl) (Nat.le_of_ble_eq_true rfl) dX12_part_153 (at2_6, fl, x_11) rfl (show (0 ≤ at2_6.toInt ∧ at2_6.toInt ≤ en.toInt + 7 - de.toInt) ∧ (tA.toInt ≤ at2_6.toInt) ∧ (-1 ≤ fl.toInt) from ⟨(by first | assumption | omega | decide | exact rfl | exact zb01 (by omega) | exact Or.inl (by decide) | exact Or.inr (by first | omega | decide)), (by first | assumption | omega | decide | exact rfl | exact zb01 (by omega) | exact Or.inl (by decide) | exact Or.inr (by first | omega | decide)), (by first | assumption | omega | decide | exact rfl | exact zb01 (by omega) | exact Or.inl (by decide) | exact Or.inr (by first | omega | decide))⟩) hP hD
      · skip
        refine lv_if_eq (tgt := 65) hx hb dX12_part_58 (by decide) (fun _ => ?_) (fun c12 => absurd (by decide) c12)
        refine lv_aload_n hx hb dX12_part_65 rfl (lv_at hl 0 rfl) ?_
        refine va_ldcS (q := g.2 88) hx hb hown (zra39 hT.2.1) dX12_part_66 ?_
        refine mcallV' (g := g) (q0 := 0) (ci := 10) (As := [.ref (g.2 88)]) (rest := []) St hK hT hA hP hD hS hl.1 [0] [] rfl rfl rfl (m_has l g o a th hi ac tp ba en at2_6 fl de iD iO tU fm fk fa fc ft ff fb fi (g.2 88) 39 zqa39 (by first | assumption | omega | decide | exact Or.inl (by decide) | exact Or.inr (by decide)) (⟨hen.1, hen.2⟩) (by first | assumption | omega | decide | exact Or.inl (by decide) | exact Or.inr (by decide)) (by first | assumption | omega | decide | exact Or.inl (by decide) | exact Or.inr (by decide)) (⟨hde.1, hde.2⟩) rfl zla39 zna39) (cwV 1 hts (zgL (zl4 k898 k899 k900 k837) k888) rfl rfl rfl (by decide +kernel) ⟨Nat.le_of_ble_eq_true rfl, Nat.le_of_ble_eq_true rfl⟩) rfl rfl rfl rfl (Nat.le_of_ble_eq_true rfl) dX12_part_68 ⟨(Nat.le_of_ble_eq_true rfl), (Nat.le_of_ble_eq_true rfl)⟩ (fun u_ H locs hq15 hP hD hS => ?_)
        obtain ⟨at2_13, r_14⟩ := u_
        replace hq15 : (0 ≤ at2_13.toInt ∧ at2_13.toInt ≤ en.toInt + 7 - de.toInt) ∧ (at2_6.toInt ≤ at2_13.toInt) ∧ (r_14 = 1 ∧ at2_6.toInt < at2_13.toInt ∧ at2_13.toInt ≤ en.toInt ∨ r_14 = 0) := hq15
        have hP : va_P g.1 vwCl (List.flatten [bMo g o a th hi ac tp ba en at2_13 fl de iD iO tU fm fk fa fc ft ff fb fi]) H := hP
        have hD : va_D A (List.flatten [bMo g o a th hi ac tp ba en at2_13 fl de iD iO tU fm fk fa fc ft ff fb fi]) := hD
        refine W.widen (k := 0) (n := 0) (Nat.le_of_ble_eq_true rfl) (Nat.le_of_ble_eq_true rfl) ?_
        refine W.eq (g2 := F0 m 71 ls [.int r_14]) rfl ?_
        obtain ⟨hq15_0, hq15_1, hq15_2⟩ := hq15
        rcases hq15_2 with ⟨rfl, hq15_k⟩ | rfl
        · skip
          refine lv_if_eq (tgt := 78) hx hb dX12_part_71 (by decide) (fun c16 => absurd c16 (by decide)) (fun _ => ?_)
          refine lv_iconst (v := 1) hx hb dX12_part_74 (by decide) ?_
          refine lv_goto (tgt := 131) hx hb dX12_part_75 (by decide) ?_
          refine lv_istore_n (lv' := [(1, .int 1), (0, .ref o)]) hx hb dX12_part_131 rfl hl (by decide) rfl (fun ls hl => ?_)
          refine lv_iload_n hx hb dX12_part_132 rfl (lv_at hl 0 rfl) ?_
          refine lv_iconst (v := (-1)) hx hb dX12_part_133 (by decide) ?_
          refine lv_icmp_ne (tgt := 147) hx hb dX12_part_134 (by decide) (fun _ => ?_) (fun c17 => absurd c17 (by decide))
          refine lv_aload_n hx hb dX12_part_147 rfl (lv_at hl 1 rfl) ?_
          refine va_get (D := g.1) (ci := 10) (v := .ref (a 5)) (C := RX12) (T := TX12) (N := 20) hx hb hts izRX12 hown hK hP 0 rfl rfl 14 (by decide) (hts _ k821) (fun _ h9 => h9) rfl dX12_part_148 ?_
          refine lv_iload_n hx hb dX12_part_151 rfl (lv_at hl 0 rfl) ?_
          refine va_iald hx hb hK hP 6 0 rfl rfl (zin rfl) dX12_part_152 ?_
          refine zg (fun x_18 => ?_)
          have hP : va_P g.1 vwCl (List.flatten [bMo g o a th hi ac tp ba en at2_13 fl de iD iO tU fm fk fa fc ft ff fb fi]) H := hP
          have hD : va_D A (List.flatten [bMo g o a th hi ac tp ba en at2_13 fl de iD iO tU fm fk fa fc ft ff fb fi]) := hD
          exact mret_i hx hb hr hlocks hS (Nat.le_of_ble_eq_true rfl) (Nat.le_of_ble_eq_true rfl) dX12_part_153 (at2_13, fl, x_18) rfl (show (0 ≤ at2_13.toInt ∧ at2_13.toInt ≤ en.toInt + 7 - de.toInt) ∧ (tA.toInt ≤ at2_13.toInt) ∧ (-1 ≤ fl.toInt) from ⟨(by first | assumption | omega | decide | exact rfl | exact zb01 (by omega) | exact Or.inl (by decide) | exact Or.inr (by first | omega | decide)), (by first | assumption | omega | decide | exact rfl | exact zb01 (by omega) | exact Or.inl (by decide) | exact Or.inr (by first | omega | decide)), (by first | assumption | omega | decide | exact rfl | exact zb01 (by omega) | exact Or.inl (by decide) | exact Or.inr (by first | omega | decide))⟩) hP hD
        · skip
          refine lv_if_eq (tgt := 78) hx hb dX12_part_71 (by decide) (fun _ => ?_) (fun c19 => absurd (by decide) c19)
          refine lv_aload_n hx hb dX12_part_78 rfl (lv_at hl 0 rfl) ?_
          refine va_ldcS (q := g.2 90) hx hb hown (zra40 hT.2.1) dX12_part_79 ?_
          refine mcallV' (g := g) (q0 := 0) (ci := 10) (As := [.ref (g.2 90)]) (rest := []) St hK hT hA hP hD hS hl.1 [0] [] rfl rfl rfl (m_has l g o a th hi ac tp ba en at2_13 fl de iD iO tU fm fk fa fc ft ff fb fi (g.2 90) 40 zqa40 (by first | assumption | omega | decide | exact Or.inl (by decide) | exact Or.inr (by decide)) (⟨hen.1, hen.2⟩) (by first | assumption | omega | decide | exact Or.inl (by decide) | exact Or.inr (by decide)) (by first | assumption | omega | decide | exact Or.inl (by decide) | exact Or.inr (by decide)) (⟨hde.1, hde.2⟩) rfl zla40 zna40) (cwV 1 hts (zgL (zl4 k898 k899 k900 k837) k888) rfl rfl rfl (by decide +kernel) ⟨Nat.le_of_ble_eq_true rfl, Nat.le_of_ble_eq_true rfl⟩) rfl rfl rfl rfl (Nat.le_of_ble_eq_true rfl) dX12_part_81 ⟨(Nat.le_of_ble_eq_true rfl), (Nat.le_of_ble_eq_true rfl)⟩ (fun u_ H locs hq22 hP hD hS => ?_)
          obtain ⟨at2_20, r_21⟩ := u_
          replace hq22 : (0 ≤ at2_20.toInt ∧ at2_20.toInt ≤ en.toInt + 7 - de.toInt) ∧ (at2_13.toInt ≤ at2_20.toInt) ∧ (r_21 = 1 ∧ at2_13.toInt < at2_20.toInt ∧ at2_20.toInt ≤ en.toInt ∨ r_21 = 0) := hq22
          have hP : va_P g.1 vwCl (List.flatten [bMo g o a th hi ac tp ba en at2_20 fl de iD iO tU fm fk fa fc ft ff fb fi]) H := hP
          have hD : va_D A (List.flatten [bMo g o a th hi ac tp ba en at2_20 fl de iD iO tU fm fk fa fc ft ff fb fi]) := hD
          refine W.widen (k := 0) (n := 0) (Nat.le_of_ble_eq_true rfl) (Nat.le_of_ble_eq_true rfl) ?_
          refine W.eq (g2 := F0 m 84 ls [.int r_21]) rfl ?_
          obtain ⟨hq22_0, hq22_1, hq22_2⟩ := hq22
          rcases hq22_2 with ⟨rfl, hq22_k⟩ | rfl
          · skip
            refine lv_if_eq (tgt := 91) hx hb dX12_part_84 (by decide) (fun c23 => absurd c23 (by decide)) (fun _ => ?_)
            refine lv_iconst (v := 2) hx hb dX12_part_87 (by decide) ?_
            refine lv_goto (tgt := 131) hx hb dX12_part_88 (by decide) ?_
            refine lv_istore_n (lv' := [(1, .int 2), (0, .ref o)]) hx hb dX12_part_131 rfl hl (by decide) rfl (fun ls hl => ?_)
            refine lv_iload_n hx hb dX12_part_132 rfl (lv_at hl 0 rfl) ?_
            refine lv_iconst (v := (-1)) hx hb dX12_part_133 (by decide) ?_
            refine lv_icmp_ne (tgt := 147) hx hb dX12_part_134 (by decide) (fun _ => ?_) (fun c24 => absurd c24 (by decide))
            refine lv_aload_n hx hb dX12_part_147 rfl (lv_at hl 1 rfl) ?_
            refine va_get (D := g.1) (ci := 10) (v := .ref (a 5)) (C := RX12) (T := TX12) (N := 20) hx hb hts izRX12 hown hK hP 0 rfl rfl 14 (by decide) (hts _ k821) (fun _ h9 => h9) rfl dX12_part_148 ?_
            refine lv_iload_n hx hb dX12_part_151 rfl (lv_at hl 0 rfl) ?_
            refine va_iald hx hb hK hP 6 0 rfl rfl (zin rfl) dX12_part_152 ?_
            refine zg (fun x_25 => ?_)
            have hP : va_P g.1 vwCl (List.flatten [bMo g o a th hi ac tp ba en at2_20 fl de iD iO tU fm fk fa fc ft ff fb fi]) H := hP
            have hD : va_D A (List.flatten [bMo g o a th hi ac tp ba en at2_20 fl de iD iO tU fm fk fa fc ft ff fb fi]) := hD
            exact mret_i hx hb hr hlocks hS (Nat.le_of_ble_eq_true rfl) (Nat.le_of_ble_eq_true rfl) dX12_part_153 (at2_20, fl, x_25) rfl (show (0 ≤ at2_20.toInt ∧ at2_20.toInt ≤ en.toInt + 7 - de.toInt) ∧ (tA.toInt ≤ at2_20.toInt) ∧ (-1 ≤ fl.toInt) from ⟨(by first | assumption | omega | decide | exact rfl | exact zb01 (by omega) | exact Or.inl (by decide) | exact Or.inr (by first | omega | decide)), (by first | assumption | omega | decide | exact rfl | exact zb01 (by omega) | exact Or.inl (by decide) | exact Or.inr (by first | omega | decide)), (by first | assumption | omega | decide | exact rfl | exact zb01 (by omega) | exact Or.inl (by decide) | exact Or.inr (by first | omega | decide))⟩) hP hD
          · skip
            refine lv_if_eq (tgt := 91) hx hb dX12_part_84 (by decide) (fun _ => ?_) (fun c26 => absurd (by decide) c26)
            refine lv_aload_n hx hb dX12_part_91 rfl (lv_at hl 0 rfl) ?_
            refine va_ldcS (q := g.2 92) hx hb hown (zra41 hT.2.1) dX12_part_92 ?_
            refine mcallV' (g := g) (q0 := 0) (ci := 10) (As := [.ref (g.2 92)]) (rest := []) St hK hT hA hP hD hS hl.1 [0] [] rfl rfl rfl (m_has l g o a th hi ac tp ba en at2_20 fl de iD iO tU fm fk fa fc ft ff fb fi (g.2 92) 41 zqa41 (by first | assumption | omega | decide | exact Or.inl (by decide) | exact Or.inr (by decide)) (⟨hen.1, hen.2⟩) (by first | assumption | omega | decide | exact Or.inl (by decide) | exact Or.inr (by decide)) (by first | assumption | omega | decide | exact Or.inl (by decide) | exact Or.inr (by decide)) (⟨hde.1, hde.2⟩) rfl zla41 zna41) (cwV 1 hts (zgL (zl4 k898 k899 k900 k837) k888) rfl rfl rfl (by decide +kernel) ⟨Nat.le_of_ble_eq_true rfl, Nat.le_of_ble_eq_true rfl⟩) rfl rfl rfl rfl (Nat.le_of_ble_eq_true rfl) dX12_part_94 ⟨(Nat.le_of_ble_eq_true rfl), (Nat.le_of_ble_eq_true rfl)⟩ (fun u_ H locs hq29 hP hD hS => ?_)
            obtain ⟨at2_27, r_28⟩ := u_
            replace hq29 : (0 ≤ at2_27.toInt ∧ at2_27.toInt ≤ en.toInt + 7 - de.toInt) ∧ (at2_20.toInt ≤ at2_27.toInt) ∧ (r_28 = 1 ∧ at2_20.toInt < at2_27.toInt ∧ at2_27.toInt ≤ en.toInt ∨ r_28 = 0) := hq29
            have hP : va_P g.1 vwCl (List.flatten [bMo g o a th hi ac tp ba en at2_27 fl de iD iO tU fm fk fa fc ft ff fb fi]) H := hP
            have hD : va_D A (List.flatten [bMo g o a th hi ac tp ba en at2_27 fl de iD iO tU fm fk fa fc ft ff fb fi]) := hD
            refine W.widen (k := 0) (n := 0) (Nat.le_of_ble_eq_true rfl) (Nat.le_of_ble_eq_true rfl) ?_
            refine W.eq (g2 := F0 m 97 ls [.int r_28]) rfl ?_
            obtain ⟨hq29_0, hq29_1, hq29_2⟩ := hq29
            rcases hq29_2 with ⟨rfl, hq29_k⟩ | rfl
            · skip
              refine lv_if_eq (tgt := 104) hx hb dX12_part_97 (by decide) (fun c30 => absurd c30 (by decide)) (fun _ => ?_)
              refine lv_iconst (v := 3) hx hb dX12_part_100 (by decide) ?_
              refine lv_goto (tgt := 131) hx hb dX12_part_101 (by decide) ?_
              refine lv_istore_n (lv' := [(1, .int 3), (0, .ref o)]) hx hb dX12_part_131 rfl hl (by decide) rfl (fun ls hl => ?_)
              refine lv_iload_n hx hb dX12_part_132 rfl (lv_at hl 0 rfl) ?_
              refine lv_iconst (v := (-1)) hx hb dX12_part_133 (by decide) ?_
              refine lv_icmp_ne (tgt := 147) hx hb dX12_part_134 (by decide) (fun _ => ?_) (fun c31 => absurd c31 (by decide))
              refine lv_aload_n hx hb dX12_part_147 rfl (lv_at hl 1 rfl) ?_
              refine va_get (D := g.1) (ci := 10) (v := .ref (a 5)) (C := RX12) (T := TX12) (N := 20) hx hb hts izRX12 hown hK hP 0 rfl rfl 14 (by decide) (hts _ k821) (fun _ h9 => h9) rfl dX12_part_148 ?_
              refine lv_iload_n hx hb dX12_part_151 rfl (lv_at hl 0 rfl) ?_
              refine va_iald hx hb hK hP 6 0 rfl rfl (zin rfl) dX12_part_152 ?_
              refine zg (fun x_32 => ?_)
              have hP : va_P g.1 vwCl (List.flatten [bMo g o a th hi ac tp ba en at2_27 fl de iD iO tU fm fk fa fc ft ff fb fi]) H := hP
              have hD : va_D A (List.flatten [bMo g o a th hi ac tp ba en at2_27 fl de iD iO tU fm fk fa fc ft ff fb fi]) := hD
              exact mret_i hx hb hr hlocks hS (Nat.le_of_ble_eq_true rfl) (Nat.le_of_ble_eq_true rfl) dX12_part_153 (at2_27, fl, x_32) rfl (show (0 ≤ at2_27.toInt ∧ at2_27.toInt ≤ en.toInt + 7 - de.toInt) ∧ (tA.toInt ≤ at2_27.toInt) ∧ (-1 ≤ fl.toInt) from ⟨(by first | assumption | omega | decide | exact rfl | exact zb01 (by omega) | exact Or.inl (by decide) | exact Or.inr (by first | omega | decide)), (by first | assumption | omega | decide | exact rfl | exact zb01 (by omega) | exact Or.inl (by decide) | exact Or.inr (by first | omega | decide)), (by first | assumption | omega | decide | exact rfl | exact zb01 (by omega) | exact Or.inl (by decide) | exact Or.inr (by first | omega | decide))⟩) hP hD
            · skip
              refine lv_if_eq (tgt := 104) hx hb dX12_part_97 (by decide) (fun _ => ?_) (fun c33 => absurd (by decide) c33)
              refine lv_aload_n hx hb dX12_part_104 rfl (lv_at hl 0 rfl) ?_
              refine va_ldcS (q := g.2 94) hx hb hown (zra42 hT.2.1) dX12_part_105 ?_
              refine mcallV' (g := g) (q0 := 0) (ci := 10) (As := [.ref (g.2 94)]) (rest := []) St hK hT hA hP hD hS hl.1 [0] [] rfl rfl rfl (m_has l g o a th hi ac tp ba en at2_27 fl de iD iO tU fm fk fa fc ft ff fb fi (g.2 94) 42 zqa42 (by first | assumption | omega | decide | exact Or.inl (by decide) | exact Or.inr (by decide)) (⟨hen.1, hen.2⟩) (by first | assumption | omega | decide | exact Or.inl (by decide) | exact Or.inr (by decide)) (by first | assumption | omega | decide | exact Or.inl (by decide) | exact Or.inr (by decide)) (⟨hde.1, hde.2⟩) rfl zla42 zna42) (cwV 1 hts (zgL (zl4 k898 k899 k900 k837) k888) rfl rfl rfl (by decide +kernel) ⟨Nat.le_of_ble_eq_true rfl, Nat.le_of_ble_eq_true rfl⟩) rfl rfl rfl rfl (Nat.le_of_ble_eq_true rfl) dX12_part_107 ⟨(Nat.le_of_ble_eq_true rfl), (Nat.le_of_ble_eq_true rfl)⟩ (fun u_ H locs hq36 hP hD hS => ?_)
              obtain ⟨at2_34, r_35⟩ := u_
              replace hq36 : (0 ≤ at2_34.toInt ∧ at2_34.toInt ≤ en.toInt + 7 - de.toInt) ∧ (at2_27.toInt ≤ at2_34.toInt) ∧ (r_35 = 1 ∧ at2_27.toInt < at2_34.toInt ∧ at2_34.toInt ≤ en.toInt ∨ r_35 = 0) := hq36
              have hP : va_P g.1 vwCl (List.flatten [bMo g o a th hi ac tp ba en at2_34 fl de iD iO tU fm fk fa fc ft ff fb fi]) H := hP
              have hD : va_D A (List.flatten [bMo g o a th hi ac tp ba en at2_34 fl de iD iO tU fm fk fa fc ft ff fb fi]) := hD
              refine W.widen (k := 0) (n := 0) (Nat.le_of_ble_eq_true rfl) (Nat.le_of_ble_eq_true rfl) ?_
              refine W.eq (g2 := F0 m 110 ls [.int r_35]) rfl ?_
              obtain ⟨hq36_0, hq36_1, hq36_2⟩ := hq36
              rcases hq36_2 with ⟨rfl, hq36_k⟩ | rfl
              · skip
                refine lv_if_eq (tgt := 117) hx hb dX12_part_110 (by decide) (fun c37 => absurd c37 (by decide)) (fun _ => ?_)
                refine lv_iconst (v := 4) hx hb dX12_part_113 (by decide) ?_
                refine lv_goto (tgt := 131) hx hb dX12_part_114 (by decide) ?_
                refine lv_istore_n (lv' := [(1, .int 4), (0, .ref o)]) hx hb dX12_part_131 rfl hl (by decide) rfl (fun ls hl => ?_)
                refine lv_iload_n hx hb dX12_part_132 rfl (lv_at hl 0 rfl) ?_
                refine lv_iconst (v := (-1)) hx hb dX12_part_133 (by decide) ?_
                refine lv_icmp_ne (tgt := 147) hx hb dX12_part_134 (by decide) (fun _ => ?_) (fun c38 => absurd c38 (by decide))
                refine lv_aload_n hx hb dX12_part_147 rfl (lv_at hl 1 rfl) ?_
                refine va_get (D := g.1) (ci := 10) (v := .ref (a 5)) (C := RX12) (T := TX12) (N := 20) hx hb hts izRX12 hown hK hP 0 rfl rfl 14 (by decide) (hts _ k821) (fun _ h9 => h9) rfl dX12_part_148 ?_
                refine lv_iload_n hx hb dX12_part_151 rfl (lv_at hl 0 rfl) ?_
                refine va_iald hx hb hK hP 6 0 rfl rfl (zin rfl) dX12_part_152 ?_
                refine zg (fun x_39 => ?_)
                have hP : va_P g.1 vwCl (List.flatten [bMo g o a th hi ac tp ba en at2_34 fl de iD iO tU fm fk fa fc ft ff fb fi]) H := hP
                have hD : va_D A (List.flatten [bMo g o a th hi ac tp ba en at2_34 fl de iD iO tU fm fk fa fc ft ff fb fi]) := hD
                exact mret_i hx hb hr hlocks hS (Nat.le_of_ble_eq_true rfl) (Nat.le_of_ble_eq_true rfl) dX12_part_153 (at2_34, fl, x_39) rfl (show (0 ≤ at2_34.toInt ∧ at2_34.toInt ≤ en.toInt + 7 - de.toInt) ∧ (tA.toInt ≤ at2_34.toInt) ∧ (-1 ≤ fl.toInt) from ⟨(by first | assumption | omega | decide | exact rfl | exact zb01 (by omega) | exact Or.inl (by decide) | exact Or.inr (by first | omega | decide)), (by first | assumption | omega | decide | exact rfl | exact zb01 (by omega) | exact Or.inl (by decide) | exact Or.inr (by first | omega | decide)), (by first | assumption | omega | decide | exact rfl | exact zb01 (by omega) | exact Or.inl (by decide) | exact Or.inr (by first | omega | decide))⟩) hP hD
              · skip
                refine lv_if_eq (tgt := 117) hx hb dX12_part_110 (by decide) (fun _ => ?_) (fun c40 => absurd (by decide) c40)
                refine lv_aload_n hx hb dX12_part_117 rfl (lv_at hl 0 rfl) ?_
                refine va_ldcS (q := g.2 84) hx hb hown (zra37 hT.2.1) dX12_part_118 ?_
                refine mcallV' (g := g) (q0 := 0) (ci := 10) (As := [.ref (g.2 84)]) (rest := []) St hK hT hA hP hD hS hl.1 [0] [] rfl rfl rfl (m_has l g o a th hi ac tp ba en at2_34 fl de iD iO tU fm fk fa fc ft ff fb fi (g.2 84) 37 zqa37 (by first | assumption | omega | decide | exact Or.inl (by decide) | exact Or.inr (by decide)) (⟨hen.1, hen.2⟩) (by first | assumption | omega | decide | exact Or.inl (by decide) | exact Or.inr (by decide)) (by first | assumption | omega | decide | exact Or.inl (by decide) | exact Or.inr (by decide)) (⟨hde.1, hde.2⟩) rfl zla37 zna37) (cwV 1 hts (zgL (zl4 k898 k899 k900 k837) k888) rfl rfl rfl (by decide +kernel) ⟨Nat.le_of_ble_eq_true rfl, Nat.le_of_ble_eq_true rfl⟩) rfl rfl rfl rfl (Nat.le_of_ble_eq_true rfl) dX12_part_120 ⟨(Nat.le_of_ble_eq_true rfl), (Nat.le_of_ble_eq_true rfl)⟩ (fun u_ H locs hq43 hP hD hS => ?_)
                obtain ⟨at2_41, r_42⟩ := u_
                replace hq43 : (0 ≤ at2_41.toInt ∧ at2_41.toInt ≤ en.toInt + 7 - de.toInt) ∧ (at2_34.toInt ≤ at2_41.toInt) ∧ (r_42 = 1 ∧ at2_34.toInt < at2_41.toInt ∧ at2_41.toInt ≤ en.toInt ∨ r_42 = 0) := hq43
                have hP : va_P g.1 vwCl (List.flatten [bMo g o a th hi ac tp ba en at2_41 fl de iD iO tU fm fk fa fc ft ff fb fi]) H := hP
                have hD : va_D A (List.flatten [bMo g o a th hi ac tp ba en at2_41 fl de iD iO tU fm fk fa fc ft ff fb fi]) := hD
                refine W.widen (k := 0) (n := 0) (Nat.le_of_ble_eq_true rfl) (Nat.le_of_ble_eq_true rfl) ?_
                refine W.eq (g2 := F0 m 123 ls [.int r_42]) rfl ?_
                obtain ⟨hq43_0, hq43_1, hq43_2⟩ := hq43
                rcases hq43_2 with ⟨rfl, hq43_k⟩ | rfl
                · skip
                  refine lv_if_eq (tgt := 130) hx hb dX12_part_123 (by decide) (fun c44 => absurd c44 (by decide)) (fun _ => ?_)
                  refine lv_iconst (v := 5) hx hb dX12_part_126 (by decide) ?_
                  refine lv_goto (tgt := 131) hx hb dX12_part_127 (by decide) ?_
                  refine lv_istore_n (lv' := [(1, .int 5), (0, .ref o)]) hx hb dX12_part_131 rfl hl (by decide) rfl (fun ls hl => ?_)
                  refine lv_iload_n hx hb dX12_part_132 rfl (lv_at hl 0 rfl) ?_
                  refine lv_iconst (v := (-1)) hx hb dX12_part_133 (by decide) ?_
                  refine lv_icmp_ne (tgt := 147) hx hb dX12_part_134 (by decide) (fun _ => ?_) (fun c45 => absurd c45 (by decide))
                  refine lv_aload_n hx hb dX12_part_147 rfl (lv_at hl 1 rfl) ?_
                  refine va_get (D := g.1) (ci := 10) (v := .ref (a 5)) (C := RX12) (T := TX12) (N := 20) hx hb hts izRX12 hown hK hP 0 rfl rfl 14 (by decide) (hts _ k821) (fun _ h9 => h9) rfl dX12_part_148 ?_
                  refine lv_iload_n hx hb dX12_part_151 rfl (lv_at hl 0 rfl) ?_
                  refine va_iald hx hb hK hP 6 0 rfl rfl (zin rfl) dX12_part_152 ?_
                  refine zg (fun x_46 => ?_)
                  have hP : va_P g.1 vwCl (List.flatten [bMo g o a th hi ac tp ba en at2_41 fl de iD iO tU fm fk fa fc ft ff fb fi]) H := hP
                  have hD : va_D A (List.flatten [bMo g o a th hi ac tp ba en at2_41 fl de iD iO tU fm fk fa fc ft ff fb fi]) := hD
                  exact mret_i hx hb hr hlocks hS (Nat.le_of_ble_eq_true rfl) (Nat.le_of_ble_eq_true rfl) dX12_part_153 (at2_41, fl, x_46) rfl (show (0 ≤ at2_41.toInt ∧ at2_41.toInt ≤ en.toInt + 7 - de.toInt) ∧ (tA.toInt ≤ at2_41.toInt) ∧ (-1 ≤ fl.toInt) from ⟨(by first | assumption | omega | decide | exact rfl | exact zb01 (by omega) | exact Or.inl (by decide) | exact Or.inr (by first | omega | decide)), (by first | assumption | omega | decide | exact rfl | exact zb01 (by omega) | exact Or.inl (by decide) | exact Or.inr (by first | omega | decide)), (by first | assumption | omega | decide | exact rfl | exact zb01 (by omega) | exact Or.inl (by decide) | exact Or.inr (by first | omega | decide))⟩) hP hD
                · skip
                  refine lv_if_eq (tgt := 130) hx hb dX12_part_123 (by decide) (fun _ => ?_) (fun c47 => absurd (by decide) c47)
                  refine lv_iconst (v := (-1)) hx hb dX12_part_130 (by decide) ?_
                  refine lv_istore_n (lv' := [(1, .int (-1)), (0, .ref o)]) hx hb dX12_part_131 rfl hl (by decide) rfl (fun ls hl => ?_)
                  refine lv_iload_n hx hb dX12_part_132 rfl (lv_at hl 0 rfl) ?_
                  refine lv_iconst (v := (-1)) hx hb dX12_part_133 (by decide) ?_
                  refine lv_icmp_ne (tgt := 147) hx hb dX12_part_134 (by decide) (fun c48 => absurd (by decide) c48) (fun _ => ?_)
                  refine lv_aload_n hx hb dX12_part_137 rfl (lv_at hl 1 rfl) ?_
                  refine lv_aload_n hx hb dX12_part_138 rfl (lv_at hl 1 rfl) ?_
                  refine va_get (D := g.1) (ci := 10) (v := .int at2_41) (C := RX12) (T := TX12) (N := 20) hx hb hts izRX12 hown hK hP 0 rfl rfl 11 (by decide) (hts _ k877) (fun _ h9 => h9) rfl dX12_part_139 ?_
                  refine mcallV' (g := g) (q0 := 0) (ci := 10) (As := [.int at2_41]) (rest := []) St hK hT hA hP hD hS hl.1 [0] [] rfl rfl rfl (m_wrong l g o a th hi ac tp ba en at2_41 fl de iD iO tU fm fk fa fc ft ff fb fi at2_41 (by first | assumption | omega | decide | exact Or.inl (by decide) | exact Or.inr (by decide)) (by first | assumption | omega | decide | exact Or.inl (by decide) | exact Or.inr (by decide))) (cwV 1 hts (zgL (zl4 k894 k895 k896 k837) k889) rfl rfl rfl (by decide +kernel) ⟨Nat.le_of_ble_eq_true rfl, Nat.le_of_ble_eq_true rfl⟩) rfl rfl rfl rfl (Nat.le_of_ble_eq_true rfl) dX12_part_142 ⟨(Nat.le_of_ble_eq_true rfl), (Nat.le_of_ble_eq_true rfl)⟩ (fun fl2_49 H locs hq50 hP hD hS => ?_)
                  replace hq50 : (0 ≤ fl2_49.toInt) := hq50
                  have hP : va_P g.1 vwCl (List.flatten [bMo g o a th hi ac tp ba en at2_41 fl2_49 de iD iO tU fm fk fa fc ft ff fb fi]) H := hP
                  have hD : va_D A (List.flatten [bMo g o a th hi ac tp ba en at2_41 fl2_49 de iD iO tU fm fk fa fc ft ff fb fi]) := hD
                  refine W.widen (k := 0) (n := 0) (Nat.le_of_ble_eq_true rfl) (Nat.le_of_ble_eq_true rfl) ?_
                  refine W.eq (g2 := F0 m 145 ls []) rfl ?_
                  refine lv_iconst (v := 0) hx hb dX12_part_145 (by decide) ?_
                  have hP : va_P g.1 vwCl (List.flatten [bMo g o a th hi ac tp ba en at2_41 fl2_49 de iD iO tU fm fk fa fc ft ff fb fi]) H := hP
                  have hD : va_D A (List.flatten [bMo g o a th hi ac tp ba en at2_41 fl2_49 de iD iO tU fm fk fa fc ft ff fb fi]) := hD
                  exact mret_i hx hb hr hlocks hS (Nat.le_of_ble_eq_true rfl) (Nat.le_of_ble_eq_true rfl) dX12_part_146 (at2_41, fl2_49, (0 : Int32)) rfl (show (0 ≤ at2_41.toInt ∧ at2_41.toInt ≤ en.toInt + 7 - de.toInt) ∧ (tA.toInt ≤ at2_41.toInt) ∧ (-1 ≤ fl2_49.toInt) from ⟨(by first | assumption | omega | decide | exact rfl | exact zb01 (by omega) | exact Or.inl (by decide) | exact Or.inr (by first | omega | decide)), (by first | assumption | omega | decide | exact rfl | exact zb01 (by omega) | exact Or.inl (by decide) | exact Or.inr (by first | omega | decide)), (by first | assumption | omega | decide | exact rfl | exact zb01 (by omega) | exact Or.inl (by decide) | exact Or.inr (by first | omega | decide))⟩) hP hD
    · skip
      have c51 : at2_3.toInt < en.toInt := zlti (Int32.not_le.mp cb9) rfl rfl
      have n52 : at2_3.toInt ≤ 399 := zL1 (b := 400) c51 hen.2 (by decide)
      refine lv_aload_n hx hb dX12_part_25 rfl (lv_at hl 0 rfl) ?_
      refine lv_aload_n hx hb dX12_part_26 rfl (lv_at hl 0 rfl) ?_
      refine va_get (D := g.1) (ci := 10) (v := .int at2_3) (C := RX12) (T := TX12) (N := 20) hx hb hts izRX12 hown hK hP 0 rfl rfl 11 (by decide) (hts _ k877) (fun _ h9 => h9) rfl dX12_part_27 ?_
      refine mcallV' (g := g) (q0 := 0) (ci := 10) (As := [.int at2_3]) (rest := []) St hK hT hA hP hD hS hl.1 [0] [] rfl rfl rfl (m_letter l g o a th hi ac tp ba en at2_3 fl de iD iO tU fm fk fa fc ft ff fb fi at2_3 (by first | assumption | omega | decide | exact Or.inl (by decide) | exact Or.inr (by decide)) (by first | assumption | omega | decide | exact Or.inl (by decide) | exact Or.inr (by decide))) (cwV 1 hts (zgL (zl4 k879 k880 k881 k837) k874) rfl rfl rfl (by decide +kernel) ⟨Nat.le_of_ble_eq_true rfl, Nat.le_of_ble_eq_true rfl⟩) rfl rfl rfl rfl (Nat.le_of_ble_eq_true rfl) dX12_part_30 ⟨(Nat.le_of_ble_eq_true rfl), (Nat.le_of_ble_eq_true rfl)⟩ (fun q_53 H locs hq54 hP hD hS => ?_)
      have hP : va_P g.1 vwCl (List.flatten [bMo g o a th hi ac tp ba en at2_3 fl de iD iO tU fm fk fa fc ft ff fb fi]) H := hP
      have hD : va_D A (List.flatten [bMo g o a th hi ac tp ba en at2_3 fl de iD iO tU fm fk fa fc ft ff fb fi]) := hD
      refine W.widen (k := 0) (n := 0) (Nat.le_of_ble_eq_true rfl) (Nat.le_of_ble_eq_true rfl) ?_
      refine W.eq (g2 := F0 m 33 ls [.int q_53]) rfl ?_
      refine lv_bipush (v := 48) hx hb dX12_part_33 (by decide) ?_
      refine lv_bipush (v := 57) hx hb dX12_part_35 (by decide) ?_
      have hL48 : (48 : Int32).toInt = 48 := by decide
      have hL57 : (57 : Int32).toInt = 57 := by decide
      refine mcallS' (g := g) (As := [.int q_53, .int 48, .int 57]) (rest := []) St hK hT hA hP hD hS hl.1 [] [0] rfl rfl rfl (m_isIn l g q_53 48 57 ) (va_cwS 3 hts (zgL (zl3 k835 k836 k837) k824) rfl rfl rfl (by decide +kernel) ⟨Nat.le_of_ble_eq_true rfl, Nat.le_of_ble_eq_true rfl⟩) rfl rfl (Nat.le_of_ble_eq_true rfl) dX12_part_37 ⟨(Nat.le_of_ble_eq_true rfl), (Nat.le_of_ble_eq_true rfl)⟩ (fun q_55 H locs hq56 hP hD hS => ?_)
      replace hq56 : (q_55 = 1 ∧ (48 : Int32).toInt ≤ q_53.toInt ∧ q_53.toInt ≤ (57 : Int32).toInt ∨ q_55 = 0 ∧ (q_53.toInt < (48 : Int32).toInt ∨ (57 : Int32).toInt < q_53.toInt)) := hq56
      have hP : va_P g.1 vwCl (List.flatten [bMo g o a th hi ac tp ba en at2_3 fl de iD iO tU fm fk fa fc ft ff fb fi]) H := hP
      have hD : va_D A (List.flatten [bMo g o a th hi ac tp ba en at2_3 fl de iD iO tU fm fk fa fc ft ff fb fi]) := hD
      refine W.widen (k := 0) (n := 0) (Nat.le_of_ble_eq_true rfl) (Nat.le_of_ble_eq_true rfl) ?_
      refine W.eq (g2 := F0 m 40 ls [.int q_55]) rfl ?_
      rcases hq56 with ⟨rfl, hq56_k⟩ | ⟨rfl, hq56_k⟩
      · skip
        refine lv_if_eq (tgt := 52) hx hb dX12_part_40 (by decide) (fun c57 => absurd c57 (by decide)) (fun _ => ?_)
        refine lv_aload_n hx hb dX12_part_43 rfl (lv_at hl 0 rfl) ?_
        refine lv_iconst (v := 0) hx hb dX12_part_44 (by decide) ?_
        refine lv_sipush (v := 999) hx hb dX12_part_45 (by decide) ?_
        have hL0 : (0 : Int32).toInt = 0 := by decide
        have hL999 : (999 : Int32).toInt = 999 := by decide
        refine mcallV' (g := g) (q0 := 0) (ci := 10) (As := [.int 0, .int 999]) (rest := []) St hK hT hA hP hD hS hl.1 [0] [] rfl rfl rfl (m_figures l g o a th hi ac tp ba en at2_3 fl de iD iO tU fm fk fa fc ft ff fb fi 0 999 (by first | assumption | omega | decide | exact Or.inl (by decide) | exact Or.inr (by decide)) (by first | assumption | omega | decide | exact Or.inl (by decide) | exact Or.inr (by decide)) (by first | assumption | omega | decide | exact Or.inl (by decide) | exact Or.inr (by decide)) (by first | assumption | omega | decide | exact Or.inl (by decide) | exact Or.inr (by decide)) (⟨hde.1, hde.2⟩)) (cwV 2 hts (zgL (zl4 k901 k902 k903 k837) k897) rfl rfl rfl (by decide +kernel) ⟨Nat.le_of_ble_eq_true rfl, Nat.le_of_ble_eq_true rfl⟩) rfl rfl rfl rfl (Nat.le_of_ble_eq_true rfl) dX12_part_48 ⟨(Nat.le_of_ble_eq_true rfl), (Nat.le_of_ble_eq_true rfl)⟩ (fun u_ H locs hq61 hP hD hS => ?_)
        obtain ⟨at2_58, fl2_59, r_60⟩ := u_
        replace hq61 : (0 ≤ at2_58.toInt ∧ at2_58.toInt ≤ en.toInt + 7 - de.toInt) ∧ (at2_3.toInt ≤ at2_58.toInt) ∧ (-1 ≤ fl2_59.toInt) ∧ (zImp (fl2_59.toInt = -1) (fl.toInt = -1 ∧ (0 : Int32).toInt ≤ r_60.toInt ∧ r_60.toInt ≤ (999 : Int32).toInt)) := hq61
        have hP : va_P g.1 vwCl (List.flatten [bMo g o a th hi ac tp ba en at2_58 fl2_59 de iD iO tU fm fk fa fc ft ff fb fi]) H := hP
        have hD : va_D A (List.flatten [bMo g o a th hi ac tp ba en at2_58 fl2_59 de iD iO tU fm fk fa fc ft ff fb fi]) := hD
        refine W.widen (k := 0) (n := 0) (Nat.le_of_ble_eq_true rfl) (Nat.le_of_ble_eq_true rfl) ?_
        refine W.eq (g2 := F0 m 51 ls [.int r_60]) rfl ?_
        obtain ⟨hq61_0, hq61_1, hq61_2, hq61_3⟩ := hq61
        have hP : va_P g.1 vwCl (List.flatten [bMo g o a th hi ac tp ba en at2_58 fl2_59 de iD iO tU fm fk fa fc ft ff fb fi]) H := hP
        have hD : va_D A (List.flatten [bMo g o a th hi ac tp ba en at2_58 fl2_59 de iD iO tU fm fk fa fc ft ff fb fi]) := hD
        exact mret_i hx hb hr hlocks hS (Nat.le_of_ble_eq_true rfl) (Nat.le_of_ble_eq_true rfl) dX12_part_51 (at2_58, fl2_59, r_60) rfl (show (0 ≤ at2_58.toInt ∧ at2_58.toInt ≤ en.toInt + 7 - de.toInt) ∧ (tA.toInt ≤ at2_58.toInt) ∧ (-1 ≤ fl2_59.toInt) from ⟨(by first | assumption | omega | decide | exact rfl | exact zb01 (by omega) | exact Or.inl (by decide) | exact Or.inr (by first | omega | decide)), (by first | assumption | omega | decide | exact rfl | exact zb01 (by omega) | exact Or.inl (by decide) | exact Or.inr (by first | omega | decide)), (by first | assumption | omega | decide | exact rfl | exact zb01 (by omega) | exact Or.inl (by decide) | exact Or.inr (by first | omega | decide))⟩) hP hD
      · skip
        refine lv_if_eq (tgt := 52) hx hb dX12_part_40 (by decide) (fun _ => ?_) (fun c62 => absurd (by decide) c62)
        refine lv_aload_n hx hb dX12_part_52 rfl (lv_at hl 0 rfl) ?_
        refine va_ldcS (q := g.2 86) hx hb hown (zra38 hT.2.1) dX12_part_53 ?_
        refine mcallV' (g := g) (q0 := 0) (ci := 10) (As := [.ref (g.2 86)]) (rest := []) St hK hT hA hP hD hS hl.1 [0] [] rfl rfl rfl (m_has l g o a th hi ac tp ba en at2_3 fl de iD iO tU fm fk fa fc ft ff fb fi (g.2 86) 38 zqa38 (by first | assumption | omega | decide | exact Or.inl (by decide) | exact Or.inr (by decide)) (by first | assumption | omega | decide | exact Or.inl (by decide) | exact Or.inr (by decide)) (by first | assumption | omega | decide | exact Or.inl (by decide) | exact Or.inr (by decide)) (by first | assumption | omega | decide | exact Or.inl (by decide) | exact Or.inr (by decide)) (⟨hde.1, hde.2⟩) rfl zla38 zna38) (cwV 1 hts (zgL (zl4 k898 k899 k900 k837) k888) rfl rfl rfl (by decide +kernel) ⟨Nat.le_of_ble_eq_true rfl, Nat.le_of_ble_eq_true rfl⟩) rfl rfl rfl rfl (Nat.le_of_ble_eq_true rfl) dX12_part_55 ⟨(Nat.le_of_ble_eq_true rfl), (Nat.le_of_ble_eq_true rfl)⟩ (fun u_ H locs hq65 hP hD hS => ?_)
        obtain ⟨at2_63, r_64⟩ := u_
        replace hq65 : (0 ≤ at2_63.toInt ∧ at2_63.toInt ≤ en.toInt + 7 - de.toInt) ∧ (at2_3.toInt ≤ at2_63.toInt) ∧ (r_64 = 1 ∧ at2_3.toInt < at2_63.toInt ∧ at2_63.toInt ≤ en.toInt ∨ r_64 = 0) := hq65
        have hP : va_P g.1 vwCl (List.flatten [bMo g o a th hi ac tp ba en at2_63 fl de iD iO tU fm fk fa fc ft ff fb fi]) H := hP
        have hD : va_D A (List.flatten [bMo g o a th hi ac tp ba en at2_63 fl de iD iO tU fm fk fa fc ft ff fb fi]) := hD
        refine W.widen (k := 0) (n := 0) (Nat.le_of_ble_eq_true rfl) (Nat.le_of_ble_eq_true rfl) ?_
        refine W.eq (g2 := F0 m 58 ls [.int r_64]) rfl ?_
        obtain ⟨hq65_0, hq65_1, hq65_2⟩ := hq65
        rcases hq65_2 with ⟨rfl, hq65_k⟩ | rfl
        · skip
          refine lv_if_eq (tgt := 65) hx hb dX12_part_58 (by decide) (fun c66 => absurd c66 (by decide)) (fun _ => ?_)
          refine lv_iconst (v := 0) hx hb dX12_part_61 (by decide) ?_
          refine lv_goto (tgt := 131) hx hb dX12_part_62 (by decide) ?_
          refine lv_istore_n (lv' := [(1, .int 0), (0, .ref o)]) hx hb dX12_part_131 rfl hl (by decide) rfl (fun ls hl => ?_)
          refine lv_iload_n hx hb dX12_part_132 rfl (lv_at hl 0 rfl) ?_
          refine lv_iconst (v := (-1)) hx hb dX12_part_133 (by decide) ?_
          refine lv_icmp_ne (tgt := 147) hx hb dX12_part_134 (by decide) (fun _ => ?_) (fun c67 => absurd c67 (by decide))
          refine lv_aload_n hx hb dX12_part_147 rfl (lv_at hl 1 rfl) ?_
          refine va_get (D := g.1) (ci := 10) (v := .ref (a 5)) (C := RX12) (T := TX12) (N := 20) hx hb hts izRX12 hown hK hP 0 rfl rfl 14 (by decide) (hts _ k821) (fun _ h9 => h9) rfl dX12_part_148 ?_
          refine lv_iload_n hx hb dX12_part_151 rfl (lv_at hl 0 rfl) ?_
          refine va_iald hx hb hK hP 6 0 rfl rfl (zin rfl) dX12_part_152 ?_
          refine zg (fun x_68 => ?_)
          have hP : va_P g.1 vwCl (List.flatten [bMo g o a th hi ac tp ba en at2_63 fl de iD iO tU fm fk fa fc ft ff fb fi]) H := hP
          have hD : va_D A (List.flatten [bMo g o a th hi ac tp ba en at2_63 fl de iD iO tU fm fk fa fc ft ff fb fi]) := hD
          exact mret_i hx hb hr hlocks hS (Nat.le_of_ble_eq_true rfl) (Nat.le_of_ble_eq_true rfl) dX12_part_153 (at2_63, fl, x_68) rfl (show (0 ≤ at2_63.toInt ∧ at2_63.toInt ≤ en.toInt + 7 - de.toInt) ∧ (tA.toInt ≤ at2_63.toInt) ∧ (-1 ≤ fl.toInt) from ⟨(by first | assumption | omega | decide | exact rfl | exact zb01 (by omega) | exact Or.inl (by decide) | exact Or.inr (by first | omega | decide)), (by first | assumption | omega | decide | exact rfl | exact zb01 (by omega) | exact Or.inl (by decide) | exact Or.inr (by first | omega | decide)), (by first | assumption | omega | decide | exact rfl | exact zb01 (by omega) | exact Or.inl (by decide) | exact Or.inr (by first | omega | decide))⟩) hP hD
        · skip
          refine lv_if_eq (tgt := 65) hx hb dX12_part_58 (by decide) (fun _ => ?_) (fun c69 => absurd (by decide) c69)
          refine lv_aload_n hx hb dX12_part_65 rfl (lv_at hl 0 rfl) ?_
          refine va_ldcS (q := g.2 88) hx hb hown (zra39 hT.2.1) dX12_part_66 ?_
          refine mcallV' (g := g) (q0 := 0) (ci := 10) (As := [.ref (g.2 88)]) (rest := []) St hK hT hA hP hD hS hl.1 [0] [] rfl rfl rfl (m_has l g o a th hi ac tp ba en at2_63 fl de iD iO tU fm fk fa fc ft ff fb fi (g.2 88) 39 zqa39 (by first | assumption | omega | decide | exact Or.inl (by decide) | exact Or.inr (by decide)) (by first | assumption | omega | decide | exact Or.inl (by decide) | exact Or.inr (by decide)) (by first | assumption | omega | decide | exact Or.inl (by decide) | exact Or.inr (by decide)) (by first | assumption | omega | decide | exact Or.inl (by decide) | exact Or.inr (by decide)) (⟨hde.1, hde.2⟩) rfl zla39 zna39) (cwV 1 hts (zgL (zl4 k898 k899 k900 k837) k888) rfl rfl rfl (by decide +kernel) ⟨Nat.le_of_ble_eq_true rfl, Nat.le_of_ble_eq_true rfl⟩) rfl rfl rfl rfl (Nat.le_of_ble_eq_true rfl) dX12_part_68 ⟨(Nat.le_of_ble_eq_true rfl), (Nat.le_of_ble_eq_true rfl)⟩ (fun u_ H locs hq72 hP hD hS => ?_)
          obtain ⟨at2_70, r_71⟩ := u_
          replace hq72 : (0 ≤ at2_70.toInt ∧ at2_70.toInt ≤ en.toInt + 7 - de.toInt) ∧ (at2_63.toInt ≤ at2_70.toInt) ∧ (r_71 = 1 ∧ at2_63.toInt < at2_70.toInt ∧ at2_70.toInt ≤ en.toInt ∨ r_71 = 0) := hq72
          have hP : va_P g.1 vwCl (List.flatten [bMo g o a th hi ac tp ba en at2_70 fl de iD iO tU fm fk fa fc ft ff fb fi]) H := hP
          have hD : va_D A (List.flatten [bMo g o a th hi ac tp ba en at2_70 fl de iD iO tU fm fk fa fc ft ff fb fi]) := hD
          refine W.widen (k := 0) (n := 0) (Nat.le_of_ble_eq_true rfl) (Nat.le_of_ble_eq_true rfl) ?_
          refine W.eq (g2 := F0 m 71 ls [.int r_71]) rfl ?_
          obtain ⟨hq72_0, hq72_1, hq72_2⟩ := hq72
          rcases hq72_2 with ⟨rfl, hq72_k⟩ | rfl
          · skip
            refine lv_if_eq (tgt := 78) hx hb dX12_part_71 (by decide) (fun c73 => absurd c73 (by decide)) (fun _ => ?_)
            refine lv_iconst (v := 1) hx hb dX12_part_74 (by decide) ?_
            refine lv_goto (tgt := 131) hx hb dX12_part_75 (by decide) ?_
            refine lv_istore_n (lv' := [(1, .int 1), (0, .ref o)]) hx hb dX12_part_131 rfl hl (by decide) rfl (fun ls hl => ?_)
            refine lv_iload_n hx hb dX12_part_132 rfl (lv_at hl 0 rfl) ?_
            refine lv_iconst (v := (-1)) hx hb dX12_part_133 (by decide) ?_
            refine lv_icmp_ne (tgt := 147) hx hb dX12_part_134 (by decide) (fun _ => ?_) (fun c74 => absurd c74 (by decide))
            refine lv_aload_n hx hb dX12_part_147 rfl (lv_at hl 1 rfl) ?_
            refine va_get (D := g.1) (ci := 10) (v := .ref (a 5)) (C := RX12) (T := TX12) (N := 20) hx hb hts izRX12 hown hK hP 0 rfl rfl 14 (by decide) (hts _ k821) (fun _ h9 => h9) rfl dX12_part_148 ?_
            refine lv_iload_n hx hb dX12_part_151 rfl (lv_at hl 0 rfl) ?_
            refine va_iald hx hb hK hP 6 0 rfl rfl (zin rfl) dX12_part_152 ?_
            refine zg (fun x_75 => ?_)
            have hP : va_P g.1 vwCl (List.flatten [bMo g o a th hi ac tp ba en at2_70 fl de iD iO tU fm fk fa fc ft ff fb fi]) H := hP
            have hD : va_D A (List.flatten [bMo g o a th hi ac tp ba en at2_70 fl de iD iO tU fm fk fa fc ft ff fb fi]) := hD
            exact mret_i hx hb hr hlocks hS (Nat.le_of_ble_eq_true rfl) (Nat.le_of_ble_eq_true rfl) dX12_part_153 (at2_70, fl, x_75) rfl (show (0 ≤ at2_70.toInt ∧ at2_70.toInt ≤ en.toInt + 7 - de.toInt) ∧ (tA.toInt ≤ at2_70.toInt) ∧ (-1 ≤ fl.toInt) from ⟨(by first | assumption | omega | decide | exact rfl | exact zb01 (by omega) | exact Or.inl (by decide) | exact Or.inr (by first | omega | decide)), (by first | assumption | omega | decide | exact rfl | exact zb01 (by omega) | exact Or.inl (by decide) | exact Or.inr (by first | omega | decide)), (by first | assumption | omega | decide | exact rfl | exact zb01 (by omega) | exact Or.inl (by decide) | exact Or.inr (by first | omega | decide))⟩) hP hD
          · skip
            refine lv_if_eq (tgt := 78) hx hb dX12_part_71 (by decide) (fun _ => ?_) (fun c76 => absurd (by decide) c76)
            refine lv_aload_n hx hb dX12_part_78 rfl (lv_at hl 0 rfl) ?_
            refine va_ldcS (q := g.2 90) hx hb hown (zra40 hT.2.1) dX12_part_79 ?_
            refine mcallV' (g := g) (q0 := 0) (ci := 10) (As := [.ref (g.2 90)]) (rest := []) St hK hT hA hP hD hS hl.1 [0] [] rfl rfl rfl (m_has l g o a th hi ac tp ba en at2_70 fl de iD iO tU fm fk fa fc ft ff fb fi (g.2 90) 40 zqa40 (by first | assumption | omega | decide | exact Or.inl (by decide) | exact Or.inr (by decide)) (by first | assumption | omega | decide | exact Or.inl (by decide) | exact Or.inr (by decide)) (by first | assumption | omega | decide | exact Or.inl (by decide) | exact Or.inr (by decide)) (by first | assumption | omega | decide | exact Or.inl (by decide) | exact Or.inr (by decide)) (⟨hde.1, hde.2⟩) rfl zla40 zna40) (cwV 1 hts (zgL (zl4 k898 k899 k900 k837) k888) rfl rfl rfl (by decide +kernel) ⟨Nat.le_of_ble_eq_true rfl, Nat.le_of_ble_eq_true rfl⟩) rfl rfl rfl rfl (Nat.le_of_ble_eq_true rfl) dX12_part_81 ⟨(Nat.le_of_ble_eq_true rfl), (Nat.le_of_ble_eq_true rfl)⟩ (fun u_ H locs hq79 hP hD hS => ?_)
            obtain ⟨at2_77, r_78⟩ := u_
            replace hq79 : (0 ≤ at2_77.toInt ∧ at2_77.toInt ≤ en.toInt + 7 - de.toInt) ∧ (at2_70.toInt ≤ at2_77.toInt) ∧ (r_78 = 1 ∧ at2_70.toInt < at2_77.toInt ∧ at2_77.toInt ≤ en.toInt ∨ r_78 = 0) := hq79
            have hP : va_P g.1 vwCl (List.flatten [bMo g o a th hi ac tp ba en at2_77 fl de iD iO tU fm fk fa fc ft ff fb fi]) H := hP
            have hD : va_D A (List.flatten [bMo g o a th hi ac tp ba en at2_77 fl de iD iO tU fm fk fa fc ft ff fb fi]) := hD
            refine W.widen (k := 0) (n := 0) (Nat.le_of_ble_eq_true rfl) (Nat.le_of_ble_eq_true rfl) ?_
            refine W.eq (g2 := F0 m 84 ls [.int r_78]) rfl ?_
            obtain ⟨hq79_0, hq79_1, hq79_2⟩ := hq79
            rcases hq79_2 with ⟨rfl, hq79_k⟩ | rfl
            · skip
              refine lv_if_eq (tgt := 91) hx hb dX12_part_84 (by decide) (fun c80 => absurd c80 (by decide)) (fun _ => ?_)
              refine lv_iconst (v := 2) hx hb dX12_part_87 (by decide) ?_
              refine lv_goto (tgt := 131) hx hb dX12_part_88 (by decide) ?_
              refine lv_istore_n (lv' := [(1, .int 2), (0, .ref o)]) hx hb dX12_part_131 rfl hl (by decide) rfl (fun ls hl => ?_)
              refine lv_iload_n hx hb dX12_part_132 rfl (lv_at hl 0 rfl) ?_
              refine lv_iconst (v := (-1)) hx hb dX12_part_133 (by decide) ?_
              refine lv_icmp_ne (tgt := 147) hx hb dX12_part_134 (by decide) (fun _ => ?_) (fun c81 => absurd c81 (by decide))
              refine lv_aload_n hx hb dX12_part_147 rfl (lv_at hl 1 rfl) ?_
              refine va_get (D := g.1) (ci := 10) (v := .ref (a 5)) (C := RX12) (T := TX12) (N := 20) hx hb hts izRX12 hown hK hP 0 rfl rfl 14 (by decide) (hts _ k821) (fun _ h9 => h9) rfl dX12_part_148 ?_
              refine lv_iload_n hx hb dX12_part_151 rfl (lv_at hl 0 rfl) ?_
              refine va_iald hx hb hK hP 6 0 rfl rfl (zin rfl) dX12_part_152 ?_
              refine zg (fun x_82 => ?_)
              have hP : va_P g.1 vwCl (List.flatten [bMo g o a th hi ac tp ba en at2_77 fl de iD iO tU fm fk fa fc ft ff fb fi]) H := hP
              have hD : va_D A (List.flatten [bMo g o a th hi ac tp ba en at2_77 fl de iD iO tU fm fk fa fc ft ff fb fi]) := hD
              exact mret_i hx hb hr hlocks hS (Nat.le_of_ble_eq_true rfl) (Nat.le_of_ble_eq_true rfl) dX12_part_153 (at2_77, fl, x_82) rfl (show (0 ≤ at2_77.toInt ∧ at2_77.toInt ≤ en.toInt + 7 - de.toInt) ∧ (tA.toInt ≤ at2_77.toInt) ∧ (-1 ≤ fl.toInt) from ⟨(by first | assumption | omega | decide | exact rfl | exact zb01 (by omega) | exact Or.inl (by decide) | exact Or.inr (by first | omega | decide)), (by first | assumption | omega | decide | exact rfl | exact zb01 (by omega) | exact Or.inl (by decide) | exact Or.inr (by first | omega | decide)), (by first | assumption | omega | decide | exact rfl | exact zb01 (by omega) | exact Or.inl (by decide) | exact Or.inr (by first | omega | decide))⟩) hP hD
            · skip
              refine lv_if_eq (tgt := 91) hx hb dX12_part_84 (by decide) (fun _ => ?_) (fun c83 => absurd (by decide) c83)
              refine lv_aload_n hx hb dX12_part_91 rfl (lv_at hl 0 rfl) ?_
              refine va_ldcS (q := g.2 92) hx hb hown (zra41 hT.2.1) dX12_part_92 ?_
              refine mcallV' (g := g) (q0 := 0) (ci := 10) (As := [.ref (g.2 92)]) (rest := []) St hK hT hA hP hD hS hl.1 [0] [] rfl rfl rfl (m_has l g o a th hi ac tp ba en at2_77 fl de iD iO tU fm fk fa fc ft ff fb fi (g.2 92) 41 zqa41 (by first | assumption | omega | decide | exact Or.inl (by decide) | exact Or.inr (by decide)) (by first | assumption | omega | decide | exact Or.inl (by decide) | exact Or.inr (by decide)) (by first | assumption | omega | decide | exact Or.inl (by decide) | exact Or.inr (by decide)) (by first | assumption | omega | decide | exact Or.inl (by decide) | exact Or.inr (by decide)) (⟨hde.1, hde.2⟩) rfl zla41 zna41) (cwV 1 hts (zgL (zl4 k898 k899 k900 k837) k888) rfl rfl rfl (by decide +kernel) ⟨Nat.le_of_ble_eq_true rfl, Nat.le_of_ble_eq_true rfl⟩) rfl rfl rfl rfl (Nat.le_of_ble_eq_true rfl) dX12_part_94 ⟨(Nat.le_of_ble_eq_true rfl), (Nat.le_of_ble_eq_true rfl)⟩ (fun u_ H locs hq86 hP hD hS => ?_)
              obtain ⟨at2_84, r_85⟩ := u_
              replace hq86 : (0 ≤ at2_84.toInt ∧ at2_84.toInt ≤ en.toInt + 7 - de.toInt) ∧ (at2_77.toInt ≤ at2_84.toInt) ∧ (r_85 = 1 ∧ at2_77.toInt < at2_84.toInt ∧ at2_84.toInt ≤ en.toInt ∨ r_85 = 0) := hq86
              have hP : va_P g.1 vwCl (List.flatten [bMo g o a th hi ac tp ba en at2_84 fl de iD iO tU fm fk fa fc ft ff fb fi]) H := hP
              have hD : va_D A (List.flatten [bMo g o a th hi ac tp ba en at2_84 fl de iD iO tU fm fk fa fc ft ff fb fi]) := hD
              refine W.widen (k := 0) (n := 0) (Nat.le_of_ble_eq_true rfl) (Nat.le_of_ble_eq_true rfl) ?_
              refine W.eq (g2 := F0 m 97 ls [.int r_85]) rfl ?_
              obtain ⟨hq86_0, hq86_1, hq86_2⟩ := hq86
              rcases hq86_2 with ⟨rfl, hq86_k⟩ | rfl
              · skip
                refine lv_if_eq (tgt := 104) hx hb dX12_part_97 (by decide) (fun c87 => absurd c87 (by decide)) (fun _ => ?_)
                refine lv_iconst (v := 3) hx hb dX12_part_100 (by decide) ?_
                refine lv_goto (tgt := 131) hx hb dX12_part_101 (by decide) ?_
                refine lv_istore_n (lv' := [(1, .int 3), (0, .ref o)]) hx hb dX12_part_131 rfl hl (by decide) rfl (fun ls hl => ?_)
                refine lv_iload_n hx hb dX12_part_132 rfl (lv_at hl 0 rfl) ?_
                refine lv_iconst (v := (-1)) hx hb dX12_part_133 (by decide) ?_
                refine lv_icmp_ne (tgt := 147) hx hb dX12_part_134 (by decide) (fun _ => ?_) (fun c88 => absurd c88 (by decide))
                refine lv_aload_n hx hb dX12_part_147 rfl (lv_at hl 1 rfl) ?_
                refine va_get (D := g.1) (ci := 10) (v := .ref (a 5)) (C := RX12) (T := TX12) (N := 20) hx hb hts izRX12 hown hK hP 0 rfl rfl 14 (by decide) (hts _ k821) (fun _ h9 => h9) rfl dX12_part_148 ?_
                refine lv_iload_n hx hb dX12_part_151 rfl (lv_at hl 0 rfl) ?_
                refine va_iald hx hb hK hP 6 0 rfl rfl (zin rfl) dX12_part_152 ?_
                refine zg (fun x_89 => ?_)
                have hP : va_P g.1 vwCl (List.flatten [bMo g o a th hi ac tp ba en at2_84 fl de iD iO tU fm fk fa fc ft ff fb fi]) H := hP
                have hD : va_D A (List.flatten [bMo g o a th hi ac tp ba en at2_84 fl de iD iO tU fm fk fa fc ft ff fb fi]) := hD
                exact mret_i hx hb hr hlocks hS (Nat.le_of_ble_eq_true rfl) (Nat.le_of_ble_eq_true rfl) dX12_part_153 (at2_84, fl, x_89) rfl (show (0 ≤ at2_84.toInt ∧ at2_84.toInt ≤ en.toInt + 7 - de.toInt) ∧ (tA.toInt ≤ at2_84.toInt) ∧ (-1 ≤ fl.toInt) from ⟨(by first | assumption | omega | decide | exact rfl | exact zb01 (by omega) | exact Or.inl (by decide) | exact Or.inr (by first | omega | decide)), (by first | assumption | omega | decide | exact rfl | exact zb01 (by omega) | exact Or.inl (by decide) | exact Or.inr (by first | omega | decide)), (by first | assumption | omega | decide | exact rfl | exact zb01 (by omega) | exact Or.inl (by decide) | exact Or.inr (by first | omega | decide))⟩) hP hD
              · skip
                refine lv_if_eq (tgt := 104) hx hb dX12_part_97 (by decide) (fun _ => ?_) (fun c90 => absurd (by decide) c90)
                refine lv_aload_n hx hb dX12_part_104 rfl (lv_at hl 0 rfl) ?_
                refine va_ldcS (q := g.2 94) hx hb hown (zra42 hT.2.1) dX12_part_105 ?_
                refine mcallV' (g := g) (q0 := 0) (ci := 10) (As := [.ref (g.2 94)]) (rest := []) St hK hT hA hP hD hS hl.1 [0] [] rfl rfl rfl (m_has l g o a th hi ac tp ba en at2_84 fl de iD iO tU fm fk fa fc ft ff fb fi (g.2 94) 42 zqa42 (by first | assumption | omega | decide | exact Or.inl (by decide) | exact Or.inr (by decide)) (by first | assumption | omega | decide | exact Or.inl (by decide) | exact Or.inr (by decide)) (by first | assumption | omega | decide | exact Or.inl (by decide) | exact Or.inr (by decide)) (by first | assumption | omega | decide | exact Or.inl (by decide) | exact Or.inr (by decide)) (⟨hde.1, hde.2⟩) rfl zla42 zna42) (cwV 1 hts (zgL (zl4 k898 k899 k900 k837) k888) rfl rfl rfl (by decide +kernel) ⟨Nat.le_of_ble_eq_true rfl, Nat.le_of_ble_eq_true rfl⟩) rfl rfl rfl rfl (Nat.le_of_ble_eq_true rfl) dX12_part_107 ⟨(Nat.le_of_ble_eq_true rfl), (Nat.le_of_ble_eq_true rfl)⟩ (fun u_ H locs hq93 hP hD hS => ?_)
                obtain ⟨at2_91, r_92⟩ := u_
                replace hq93 : (0 ≤ at2_91.toInt ∧ at2_91.toInt ≤ en.toInt + 7 - de.toInt) ∧ (at2_84.toInt ≤ at2_91.toInt) ∧ (r_92 = 1 ∧ at2_84.toInt < at2_91.toInt ∧ at2_91.toInt ≤ en.toInt ∨ r_92 = 0) := hq93
                have hP : va_P g.1 vwCl (List.flatten [bMo g o a th hi ac tp ba en at2_91 fl de iD iO tU fm fk fa fc ft ff fb fi]) H := hP
                have hD : va_D A (List.flatten [bMo g o a th hi ac tp ba en at2_91 fl de iD iO tU fm fk fa fc ft ff fb fi]) := hD
                refine W.widen (k := 0) (n := 0) (Nat.le_of_ble_eq_true rfl) (Nat.le_of_ble_eq_true rfl) ?_
                refine W.eq (g2 := F0 m 110 ls [.int r_92]) rfl ?_
                obtain ⟨hq93_0, hq93_1, hq93_2⟩ := hq93
                rcases hq93_2 with ⟨rfl, hq93_k⟩ | rfl
                · skip
                  refine lv_if_eq (tgt := 117) hx hb dX12_part_110 (by decide) (fun c94 => absurd c94 (by decide)) (fun _ => ?_)
                  refine lv_iconst (v := 4) hx hb dX12_part_113 (by decide) ?_
                  refine lv_goto (tgt := 131) hx hb dX12_part_114 (by decide) ?_
                  refine lv_istore_n (lv' := [(1, .int 4), (0, .ref o)]) hx hb dX12_part_131 rfl hl (by decide) rfl (fun ls hl => ?_)
                  refine lv_iload_n hx hb dX12_part_132 rfl (lv_at hl 0 rfl) ?_
                  refine lv_iconst (v := (-1)) hx hb dX12_part_133 (by decide) ?_
                  refine lv_icmp_ne (tgt := 147) hx hb dX12_part_134 (by decide) (fun _ => ?_) (fun c95 => absurd c95 (by decide))
                  refine lv_aload_n hx hb dX12_part_147 rfl (lv_at hl 1 rfl) ?_
                  refine va_get (D := g.1) (ci := 10) (v := .ref (a 5)) (C := RX12) (T := TX12) (N := 20) hx hb hts izRX12 hown hK hP 0 rfl rfl 14 (by decide) (hts _ k821) (fun _ h9 => h9) rfl dX12_part_148 ?_
                  refine lv_iload_n hx hb dX12_part_151 rfl (lv_at hl 0 rfl) ?_
                  refine va_iald hx hb hK hP 6 0 rfl rfl (zin rfl) dX12_part_152 ?_
                  refine zg (fun x_96 => ?_)
                  have hP : va_P g.1 vwCl (List.flatten [bMo g o a th hi ac tp ba en at2_91 fl de iD iO tU fm fk fa fc ft ff fb fi]) H := hP
                  have hD : va_D A (List.flatten [bMo g o a th hi ac tp ba en at2_91 fl de iD iO tU fm fk fa fc ft ff fb fi]) := hD
                  exact mret_i hx hb hr hlocks hS (Nat.le_of_ble_eq_true rfl) (Nat.le_of_ble_eq_true rfl) dX12_part_153 (at2_91, fl, x_96) rfl (show (0 ≤ at2_91.toInt ∧ at2_91.toInt ≤ en.toInt + 7 - de.toInt) ∧ (tA.toInt ≤ at2_91.toInt) ∧ (-1 ≤ fl.toInt) from ⟨(by first | assumption | omega | decide | exact rfl | exact zb01 (by omega) | exact Or.inl (by decide) | exact Or.inr (by first | omega | decide)), (by first | assumption | omega | decide | exact rfl | exact zb01 (by omega) | exact Or.inl (by decide) | exact Or.inr (by first | omega | decide)), (by first | assumption | omega | decide | exact rfl | exact zb01 (by omega) | exact Or.inl (by decide) | exact Or.inr (by first | omega | decide))⟩) hP hD
                · skip
                  refine lv_if_eq (tgt := 117) hx hb dX12_part_110 (by decide) (fun _ => ?_) (fun c97 => absurd (by decide) c97)
                  refine lv_aload_n hx hb dX12_part_117 rfl (lv_at hl 0 rfl) ?_
                  refine va_ldcS (q := g.2 84) hx hb hown (zra37 hT.2.1) dX12_part_118 ?_
                  refine mcallV' (g := g) (q0 := 0) (ci := 10) (As := [.ref (g.2 84)]) (rest := []) St hK hT hA hP hD hS hl.1 [0] [] rfl rfl rfl (m_has l g o a th hi ac tp ba en at2_91 fl de iD iO tU fm fk fa fc ft ff fb fi (g.2 84) 37 zqa37 (by first | assumption | omega | decide | exact Or.inl (by decide) | exact Or.inr (by decide)) (by first | assumption | omega | decide | exact Or.inl (by decide) | exact Or.inr (by decide)) (by first | assumption | omega | decide | exact Or.inl (by decide) | exact Or.inr (by decide)) (by first | assumption | omega | decide | exact Or.inl (by decide) | exact Or.inr (by decide)) (⟨hde.1, hde.2⟩) rfl zla37 zna37) (cwV 1 hts (zgL (zl4 k898 k899 k900 k837) k888) rfl rfl rfl (by decide +kernel) ⟨Nat.le_of_ble_eq_true rfl, Nat.le_of_ble_eq_true rfl⟩) rfl rfl rfl rfl (Nat.le_of_ble_eq_true rfl) dX12_part_120 ⟨(Nat.le_of_ble_eq_true rfl), (Nat.le_of_ble_eq_true rfl)⟩ (fun u_ H locs hq100 hP hD hS => ?_)
                  obtain ⟨at2_98, r_99⟩ := u_
                  replace hq100 : (0 ≤ at2_98.toInt ∧ at2_98.toInt ≤ en.toInt + 7 - de.toInt) ∧ (at2_91.toInt ≤ at2_98.toInt) ∧ (r_99 = 1 ∧ at2_91.toInt < at2_98.toInt ∧ at2_98.toInt ≤ en.toInt ∨ r_99 = 0) := hq100
                  have hP : va_P g.1 vwCl (List.flatten [bMo g o a th hi ac tp ba en at2_98 fl de iD iO tU fm fk fa fc ft ff fb fi]) H := hP
                  have hD : va_D A (List.flatten [bMo g o a th hi ac tp ba en at2_98 fl de iD iO tU fm fk fa fc ft ff fb fi]) := hD
                  refine W.widen (k := 0) (n := 0) (Nat.le_of_ble_eq_true rfl) (Nat.le_of_ble_eq_true rfl) ?_
                  refine W.eq (g2 := F0 m 123 ls [.int r_99]) rfl ?_
                  obtain ⟨hq100_0, hq100_1, hq100_2⟩ := hq100
                  rcases hq100_2 with ⟨rfl, hq100_k⟩ | rfl
                  · skip
                    refine lv_if_eq (tgt := 130) hx hb dX12_part_123 (by decide) (fun c101 => absurd c101 (by decide)) (fun _ => ?_)
                    refine lv_iconst (v := 5) hx hb dX12_part_126 (by decide) ?_
                    refine lv_goto (tgt := 131) hx hb dX12_part_127 (by decide) ?_
                    refine lv_istore_n (lv' := [(1, .int 5), (0, .ref o)]) hx hb dX12_part_131 rfl hl (by decide) rfl (fun ls hl => ?_)
                    refine lv_iload_n hx hb dX12_part_132 rfl (lv_at hl 0 rfl) ?_
                    refine lv_iconst (v := (-1)) hx hb dX12_part_133 (by decide) ?_
                    refine lv_icmp_ne (tgt := 147) hx hb dX12_part_134 (by decide) (fun _ => ?_) (fun c102 => absurd c102 (by decide))
                    refine lv_aload_n hx hb dX12_part_147 rfl (lv_at hl 1 rfl) ?_
                    refine va_get (D := g.1) (ci := 10) (v := .ref (a 5)) (C := RX12) (T := TX12) (N := 20) hx hb hts izRX12 hown hK hP 0 rfl rfl 14 (by decide) (hts _ k821) (fun _ h9 => h9) rfl dX12_part_148 ?_
                    refine lv_iload_n hx hb dX12_part_151 rfl (lv_at hl 0 rfl) ?_
                    refine va_iald hx hb hK hP 6 0 rfl rfl (zin rfl) dX12_part_152 ?_
                    refine zg (fun x_103 => ?_)
                    have hP : va_P g.1 vwCl (List.flatten [bMo g o a th hi ac tp ba en at2_98 fl de iD iO tU fm fk fa fc ft ff fb fi]) H := hP
                    have hD : va_D A (List.flatten [bMo g o a th hi ac tp ba en at2_98 fl de iD iO tU fm fk fa fc ft ff fb fi]) := hD
                    exact mret_i hx hb hr hlocks hS (Nat.le_of_ble_eq_true rfl) (Nat.le_of_ble_eq_true rfl) dX12_part_153 (at2_98, fl, x_103) rfl (show (0 ≤ at2_98.toInt ∧ at2_98.toInt ≤ en.toInt + 7 - de.toInt) ∧ (tA.toInt ≤ at2_98.toInt) ∧ (-1 ≤ fl.toInt) from ⟨(by first | assumption | omega | decide | exact rfl | exact zb01 (by omega) | exact Or.inl (by decide) | exact Or.inr (by first | omega | decide)), (by first | assumption | omega | decide | exact rfl | exact zb01 (by omega) | exact Or.inl (by decide) | exact Or.inr (by first | omega | decide)), (by first | assumption | omega | decide | exact rfl | exact zb01 (by omega) | exact Or.inl (by decide) | exact Or.inr (by first | omega | decide))⟩) hP hD
                  · skip
                    refine lv_if_eq (tgt := 130) hx hb dX12_part_123 (by decide) (fun _ => ?_) (fun c104 => absurd (by decide) c104)
                    refine lv_iconst (v := (-1)) hx hb dX12_part_130 (by decide) ?_
                    refine lv_istore_n (lv' := [(1, .int (-1)), (0, .ref o)]) hx hb dX12_part_131 rfl hl (by decide) rfl (fun ls hl => ?_)
                    refine lv_iload_n hx hb dX12_part_132 rfl (lv_at hl 0 rfl) ?_
                    refine lv_iconst (v := (-1)) hx hb dX12_part_133 (by decide) ?_
                    refine lv_icmp_ne (tgt := 147) hx hb dX12_part_134 (by decide) (fun c105 => absurd (by decide) c105) (fun _ => ?_)
                    refine lv_aload_n hx hb dX12_part_137 rfl (lv_at hl 1 rfl) ?_
                    refine lv_aload_n hx hb dX12_part_138 rfl (lv_at hl 1 rfl) ?_
                    refine va_get (D := g.1) (ci := 10) (v := .int at2_98) (C := RX12) (T := TX12) (N := 20) hx hb hts izRX12 hown hK hP 0 rfl rfl 11 (by decide) (hts _ k877) (fun _ h9 => h9) rfl dX12_part_139 ?_
                    refine mcallV' (g := g) (q0 := 0) (ci := 10) (As := [.int at2_98]) (rest := []) St hK hT hA hP hD hS hl.1 [0] [] rfl rfl rfl (m_wrong l g o a th hi ac tp ba en at2_98 fl de iD iO tU fm fk fa fc ft ff fb fi at2_98 (by first | assumption | omega | decide | exact Or.inl (by decide) | exact Or.inr (by decide)) (by first | assumption | omega | decide | exact Or.inl (by decide) | exact Or.inr (by decide))) (cwV 1 hts (zgL (zl4 k894 k895 k896 k837) k889) rfl rfl rfl (by decide +kernel) ⟨Nat.le_of_ble_eq_true rfl, Nat.le_of_ble_eq_true rfl⟩) rfl rfl rfl rfl (Nat.le_of_ble_eq_true rfl) dX12_part_142 ⟨(Nat.le_of_ble_eq_true rfl), (Nat.le_of_ble_eq_true rfl)⟩ (fun fl2_106 H locs hq107 hP hD hS => ?_)
                    replace hq107 : (0 ≤ fl2_106.toInt) := hq107
                    have hP : va_P g.1 vwCl (List.flatten [bMo g o a th hi ac tp ba en at2_98 fl2_106 de iD iO tU fm fk fa fc ft ff fb fi]) H := hP
                    have hD : va_D A (List.flatten [bMo g o a th hi ac tp ba en at2_98 fl2_106 de iD iO tU fm fk fa fc ft ff fb fi]) := hD
                    refine W.widen (k := 0) (n := 0) (Nat.le_of_ble_eq_true rfl) (Nat.le_of_ble_eq_true rfl) ?_
                    refine W.eq (g2 := F0 m 145 ls []) rfl ?_
                    refine lv_iconst (v := 0) hx hb dX12_part_145 (by decide) ?_
                    have hP : va_P g.1 vwCl (List.flatten [bMo g o a th hi ac tp ba en at2_98 fl2_106 de iD iO tU fm fk fa fc ft ff fb fi]) H := hP
                    have hD : va_D A (List.flatten [bMo g o a th hi ac tp ba en at2_98 fl2_106 de iD iO tU fm fk fa fc ft ff fb fi]) := hD
                    exact mret_i hx hb hr hlocks hS (Nat.le_of_ble_eq_true rfl) (Nat.le_of_ble_eq_true rfl) dX12_part_146 (at2_98, fl2_106, (0 : Int32)) rfl (show (0 ≤ at2_98.toInt ∧ at2_98.toInt ≤ en.toInt + 7 - de.toInt) ∧ (tA.toInt ≤ at2_98.toInt) ∧ (-1 ≤ fl2_106.toInt) from ⟨(by first | assumption | omega | decide | exact rfl | exact zb01 (by omega) | exact Or.inl (by decide) | exact Or.inr (by first | omega | decide)), (by first | assumption | omega | decide | exact rfl | exact zb01 (by omega) | exact Or.inl (by decide) | exact Or.inr (by first | omega | decide)), (by first | assumption | omega | decide | exact rfl | exact zb01 (by omega) | exact Or.inl (by decide) | exact Or.inr (by first | omega | decide))⟩) hP hD
  · skip
    have c108 : ¬ fl.toInt = (-1) := zne cb9 rfl (by decide)
    refine lv_iconst (v := 0) hx hb dX12_part_8 (by decide) ?_
    have hP : va_P g.1 vwCl (List.flatten [bMo g o a th hi ac tp ba en tA fl de iD iO tU fm fk fa fc ft ff fb fi]) s.heap := hP
    have hD : va_D A (List.flatten [bMo g o a th hi ac tp ba en tA fl de iD iO tU fm fk fa fc ft ff fb fi]) := hD
    exact mret_i hx hb hr hlocks hS (Nat.le_of_ble_eq_true rfl) (Nat.le_of_ble_eq_true rfl) dX12_part_9 (tA, fl, (0 : Int32)) rfl (show (0 ≤ tA.toInt ∧ tA.toInt ≤ en.toInt + 7 - de.toInt) ∧ (tA.toInt ≤ tA.toInt) ∧ (-1 ≤ fl.toInt) from ⟨(by first | assumption | omega | decide | exact rfl | exact zb01 (by omega) | exact Or.inl (by decide) | exact Or.inr (by first | omega | decide)), (by first | assumption | omega | decide | exact rfl | exact zb01 (by omega) | exact Or.inl (by decide) | exact Or.inr (by first | omega | decide)), (by first | assumption | omega | decide | exact rfl | exact zb01 (by omega) | exact Or.inl (by decide) | exact Or.inr (by first | omega | decide))⟩) hP hD
