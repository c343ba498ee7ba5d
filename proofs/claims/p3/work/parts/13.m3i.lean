set_option maxRecDepth 100000 in
set_option maxHeartbeats 4000000 in
theorem m_atom6 (l : Launch) (g : zG) (o : Nat) (a : Nat → Nat) (th : Int32) (hi : Int32) (ac : Int32) (tp : Int32) (ba : Int32) (en : Int32) (tA : Int32) (fl : Int32) (iD : Int32) (iO : Int32) (tU : Int32) (fm : Nat → Int32) (fk : Nat → Int32) (fa : Nat → Int32) (fc : Nat → Int32) (ft : Nat → Int32) (ff : Nat → Int32) (fb : Nat → Int32) (fi : Nat → Int32) (hiD : 0 ≤ iD.toInt ∧ iD.toInt ≤ 1) (hiO : 0 ≤ iO.toInt ∧ iO.toInt ≤ 1) (hba : zBa ba.toInt) (hen : 0 ≤ en.toInt ∧ en.toInt ≤ 400) (htA : 0 ≤ tA.toInt ∧ tA.toInt ≤ en.toInt + 7 - 6) (hfl : -1 ≤ fl.toInt) (hde : 0 ≤ 6 ∧ 6 ≤ 6) : zM' g l yX12_atom (Cond.code yX12_atom cX12_atom 4 (some .boolean) :: zB) ({ frames := 8, cells := 0, slots := 0, locals := 173 } : Room) [.ref o] [bMo g o a th hi ac tp ba en tA fl 6 iD iO tU fm fk fa fc ft ff fb fi] (fun u : Int32 × Int32 × Int32 => (fun (at2 : Int32) (fl2 : Int32) (q : Int32) => some (.int q)) (u.1) (u.2.1) (u.2.2)) (fun u : Int32 × Int32 × Int32 => (fun (at2 : Int32) (fl2 : Int32) (q : Int32) => (0 ≤ at2.toInt ∧ at2.toInt ≤ en.toInt + 7 - 6) ∧ (tA.toInt ≤ at2.toInt) ∧ (-1 ≤ fl2.toInt) ∧ (q = 0 ∨ q = 1)) (u.1) (u.2.1) (u.2.2)) (fun u : Int32 × Int32 × Int32 => (fun (at2 : Int32) (fl2 : Int32) (q : Int32) => [bMo g o a th hi ac tp ba en at2 fl2 6 iD iO tU fm fk fa fc ft ff fb fi]) (u.1) (u.2.1) (u.2.2)) := by
  refine zM'.of (cc := cX12_atom) (maxL := 4) (rt := (some .boolean)) (by decide) rfl (Nat.le_of_ble_eq_true rfl) ?_
  intro p e s m args below meth c A ls St hr hlocks hin hK hT hA hP hD hS hl
  obtain ⟨hx, hb, hml, hown, hts⟩ := id St
  have hl : lv_has ls 4 [(0, .ref o)] := hl
  refine lv_aload_n hx hb dX12_atom_0 rfl (lv_at hl 0 rfl) ?_
  refine va_get (D := g.1) (ci := 10) (v := .int fl) (C := RX12) (T := TX12) (N := 20) hx hb hts izRX12 hown hK hP 0 rfl rfl 12 (by decide) (hts _ k820) (fun _ h9 => h9) rfl dX12_atom_1 ?_
  refine lv_iconst (v := (-1)) hx hb dX12_atom_4 (by decide) ?_
  refine lv_icmp_eq (tgt := 10) hx hb dX12_atom_5 (by decide) (fun cb9 => ?_) (fun cb9 => ?_)
  · skip
    have c1 : fl.toInt = (-1) := zeq cb9 rfl (by decide)
    have n2 : fl.toInt ≤ (-1) := Int.le_trans (Int.le_of_eq c1) (Int.le_refl _)
    refine lv_aload_n hx hb dX12_atom_10 rfl (lv_at hl 0 rfl) ?_
    have hL6 : (6 : Int32).toInt = 6 := by decide
    refine mcallV' (g := g) (q0 := 0) (ci := 10) (As := []) (rest := []) St hK hT hA hP hD hS hl.1 [0] [] rfl rfl rfl (m_here l g o a th hi ac tp ba en tA fl 6 iD iO tU fm fk fa fc ft ff fb fi (by first | assumption | omega | decide | exact Or.inl (by decide) | exact Or.inr (by decide)) (⟨hen.1, hen.2⟩) (by first | assumption | omega | decide | exact Or.inl (by decide) | exact Or.inr (by decide)) (by first | assumption | omega | decide | exact Or.inl (by decide) | exact Or.inr (by decide)) (by decide)) (cwV 0 hts (zgL (zl4 k891 k892 k893 k837) k890) rfl rfl rfl (by decide +kernel) ⟨Nat.le_of_ble_eq_true rfl, Nat.le_of_ble_eq_true rfl⟩) rfl rfl rfl rfl (Nat.le_of_ble_eq_true rfl) dX12_atom_11 ⟨(Nat.le_of_ble_eq_true rfl), (Nat.le_of_ble_eq_true rfl)⟩ (fun at2_3 H locs hq4 hP hD hS => ?_)
    replace hq4 : (0 ≤ at2_3.toInt ∧ at2_3.toInt ≤ en.toInt + 7 - (6 : Int32).toInt) ∧ (tA.toInt ≤ at2_3.toInt) := hq4
    have hP : va_P g.1 vwCl (List.flatten [bMo g o a th hi ac tp ba en at2_3 fl 6 iD iO tU fm fk fa fc ft ff fb fi]) H := hP
    have hD : va_D A (List.flatten [bMo g o a th hi ac tp ba en at2_3 fl 6 iD iO tU fm fk fa fc ft ff fb fi]) := hD
    refine W.widen (k := 0) (n := 0) (Nat.le_of_ble_eq_true rfl) (Nat.le_of_ble_eq_true rfl) ?_
    refine W.eq (g2 := F0 m 14 ls [.int at2_3]) rfl ?_
    obtain ⟨hq4_0, hq4_1⟩ := hq4
    refine lv_istore_n (lv' := [(1, .int at2_3), (0, .ref o)]) hx hb dX12_atom_14 rfl hl (by decide) rfl (fun ls hl => ?_)
    refine lv_aload_n hx hb dX12_atom_15 rfl (lv_at hl 1 rfl) ?_
    refine va_ldcS (q := g.2 98) hx hb hown (zra44 hT.2.1) dX12_atom_16 ?_
    refine mcallV' (g := g) (q0 := 0) (ci := 10) (As := [.ref (g.2 98)]) (rest := []) St hK hT hA hP hD hS hl.1 [0] [] rfl rfl rfl (m_has l g o a th hi ac tp ba en at2_3 fl 6 iD iO tU fm fk fa fc ft ff fb fi (g.2 98) 44 zqa44 (by first | assumption | omega | decide | exact Or.inl (by decide) | exact Or.inr (by decide)) (⟨hen.1, hen.2⟩) (by first | assumption | omega | decide | exact Or.inl (by decide) | exact Or.inr (by decide)) (by first | assumption | omega | decide | exact Or.inl (by decide) | exact Or.inr (by decide)) (by decide) rfl zla44 zna44) (cwV 1 hts (zgL (zl4 k898 k899 k900 k837) k888) rfl rfl rfl (by decide +kernel) ⟨Nat.le_of_ble_eq_true rfl, Nat.le_of_ble_eq_true rfl⟩) rfl rfl rfl rfl (Nat.le_of_ble_eq_true rfl) dX12_atom_18 ⟨(Nat.le_of_ble_eq_true rfl), (Nat.le_of_ble_eq_true rfl)⟩ (fun u_ H locs hq7 hP hD hS => ?_)
    obtain ⟨at2_5, r_6⟩ := u_
    replace hq7 : (0 ≤ at2_5.toInt ∧ at2_5.toInt ≤ en.toInt + 7 - (6 : Int32).toInt) ∧ (at2_3.toInt ≤ at2_5.toInt) ∧ (r_6 = 1 ∧ at2_3.toInt < at2_5.toInt ∧ at2_5.toInt ≤ en.toInt ∨ r_6 = 0) := hq7
    have hP : va_P g.1 vwCl (List.flatten [bMo g o a th hi ac tp ba en at2_5 fl 6 iD iO tU fm fk fa fc ft ff fb fi]) H := hP
    have hD : va_D A (List.flatten [bMo g o a th hi ac tp ba en at2_5 fl 6 iD iO tU fm fk fa fc ft ff fb fi]) := hD
    refine W.widen (k := 0) (n := 0) (Nat.le_of_ble_eq_true rfl) (Nat.le_of_ble_eq_true rfl) ?_
    refine W.eq (g2 := F0 m 21 ls [.int r_6]) rfl ?_
    obtain ⟨hq7_0, hq7_1, hq7_2⟩ := hq7
    rcases hq7_2 with ⟨rfl, hq7_k⟩ | rfl
    · skip
      refine lv_istore_n (lv' := [(2, .int 1), (1, .int at2_3), (0, .ref o)]) hx hb dX12_atom_21 rfl hl (by decide) rfl (fun ls hl => ?_)
      refine lv_iload_n hx hb dX12_atom_22 rfl (lv_at hl 0 rfl) ?_
      refine lv_if_ne (tgt := 40) hx hb dX12_atom_23 (by decide) (fun _ => ?_) (fun c8 => absurd c8 (by decide))
      refine lv_aload_n hx hb dX12_atom_40 rfl (lv_at hl 2 rfl) ?_
      refine va_get (D := g.1) (ci := 10) (v := .int 6) (C := RX12) (T := TX12) (N := 20) hx hb hts izRX12 hown hK hP 0 rfl rfl 13 (by decide) (hts _ k932) (fun _ h9 => h9) rfl dX12_atom_41 ?_
      refine lv_bipush (v := 6) hx hb dX12_atom_44 (by decide) ?_
      refine lv_icmp_ne (tgt := 56) hx hb dX12_atom_46 (by decide) (fun c9 => absurd (by decide) c9) (fun _ => ?_)
      refine lv_aload_n hx hb dX12_atom_49 rfl (lv_at hl 2 rfl) ?_
      refine lv_iload_n hx hb dX12_atom_50 rfl (lv_at hl 1 rfl) ?_
      refine mcallV' (g := g) (q0 := 0) (ci := 10) (As := [.int at2_3]) (rest := []) St hK hT hA hP hD hS hl.1 [0] [] rfl rfl rfl (m_wrong l g o a th hi ac tp ba en at2_5 fl 6 iD iO tU fm fk fa fc ft ff fb fi at2_3 (by first | assumption | omega | decide | exact Or.inl (by decide) | exact Or.inr (by decide)) (by first | assumption | omega | decide | exact Or.inl (by decide) | exact Or.inr (by decide))) (cwV 1 hts (zgL (zl4 k894 k895 k896 k837) k889) rfl rfl rfl (by decide +kernel) ⟨Nat.le_of_ble_eq_true rfl, Nat.le_of_ble_eq_true rfl⟩) rfl rfl rfl rfl (Nat.le_of_ble_eq_true rfl) dX12_atom_51 ⟨(Nat.le_of_ble_eq_true rfl), (Nat.le_of_ble_eq_true rfl)⟩ (fun fl2_10 H locs hq11 hP hD hS => ?_)
      replace hq11 : (0 ≤ fl2_10.toInt) := hq11
      have hP : va_P g.1 vwCl (List.flatten [bMo g o a th hi ac tp ba en at2_5 fl2_10 6 iD iO tU fm fk fa fc ft ff fb fi]) H := hP
      have hD : va_D A (List.flatten [bMo g o a th hi ac tp ba en at2_5 fl2_10 6 iD iO tU fm fk fa fc ft ff fb fi]) := hD
      refine W.widen (k := 0) (n := 0) (Nat.le_of_ble_eq_true rfl) (Nat.le_of_ble_eq_true rfl) ?_
      refine W.eq (g2 := F0 m 54 ls []) rfl ?_
      refine lv_iconst (v := 0) hx hb dX12_atom_54 (by decide) ?_
      have hP : va_P g.1 vwCl (List.flatten [bMo g o a th hi ac tp ba en at2_5 fl2_10 6 iD iO tU fm fk fa fc ft ff fb fi]) H := hP
      have hD : va_D A (List.flatten [bMo g o a th hi ac tp ba en at2_5 fl2_10 6 iD iO tU fm fk fa fc ft ff fb fi]) := hD
      exact mret_z hx hb hr hlocks hS (Nat.le_of_ble_eq_true rfl) (Nat.le_of_ble_eq_true rfl) dX12_atom_55 (at2_5, fl2_10, (0 : Int32)) rfl (by decide) (show (0 ≤ at2_5.toInt ∧ at2_5.toInt ≤ en.toInt + 7 - 6) ∧ (tA.toInt ≤ at2_5.toInt) ∧ (-1 ≤ fl2_10.toInt) ∧ (0 = 0 ∨ 0 = 1) from ⟨(by first | assumption | omega | decide | exact rfl | exact zb01 (by omega) | exact Or.inl (by decide) | exact Or.inr (by first | omega | decide)), (by first | assumption | omega | decide | exact rfl | exact zb01 (by omega) | exact Or.inl (by decide) | exact Or.inr (by first | omega | decide)), (by first | assumption | omega | decide | exact rfl | exact zb01 (by omega) | exact Or.inl (by decide) | exact Or.inr (by first | omega | decide)), (by first | assumption | omega | decide | exact rfl | exact zb01 (by omega) | exact Or.inl (by decide) | exact Or.inr (by first | omega | decide))⟩) hP hD
    · skip
      refine lv_istore_n (lv' := [(2, .int 0), (1, .int at2_3), (0, .ref o)]) hx hb dX12_atom_21 rfl hl (by decide) rfl (fun ls hl => ?_)
      refine lv_iload_n hx hb dX12_atom_22 rfl (lv_at hl 0 rfl) ?_
      refine lv_if_ne (tgt := 40) hx hb dX12_atom_23 (by decide) (fun c12 => absurd (by decide) c12) (fun _ => ?_)
      refine lv_aload_n hx hb dX12_atom_26 rfl (lv_at hl 2 rfl) ?_
      refine lv_bipush (v := 40) hx hb dX12_atom_27 (by decide) ?_
      refine mcallV' (g := g) (q0 := 0) (ci := 10) (As := [.int 40]) (rest := []) St hK hT hA hP hD hS hl.1 [0] [] rfl rfl rfl (m_isSign l g o a th hi ac tp ba en at2_5 fl 6 iD iO tU fm fk fa fc ft ff fb fi 40 (by first | assumption | omega | decide | exact Or.inl (by decide) | exact Or.inr (by decide)) (⟨hen.1, hen.2⟩) (by first | assumption | omega | decide | exact Or.inl (by decide) | exact Or.inr (by decide)) (by first | assumption | omega | decide | exact Or.inl (by decide) | exact Or.inr (by decide)) (by decide)) (cwV 1 hts (zgL (zl4 k937 k938 k939 k837) k882) rfl rfl rfl (by decide +kernel) ⟨Nat.le_of_ble_eq_true rfl, Nat.le_of_ble_eq_true rfl⟩) rfl rfl rfl rfl (Nat.le_of_ble_eq_true rfl) dX12_atom_29 ⟨(Nat.le_of_ble_eq_true rfl), (Nat.le_of_ble_eq_true rfl)⟩ (fun u_ H locs hq15 hP hD hS => ?_)
      obtain ⟨at2_13, q_14⟩ := u_
      replace hq15 : (0 ≤ at2_13.toInt ∧ at2_13.toInt ≤ en.toInt + 7 - (6 : Int32).toInt) ∧ (at2_5.toInt ≤ at2_13.toInt) ∧ (q_14 = 1 ∧ at2_13.toInt < en.toInt ∨ q_14 = 0) := hq15
      have hP : va_P g.1 vwCl (List.flatten [bMo g o a th hi ac tp ba en at2_13 fl 6 iD iO tU fm fk fa fc ft ff fb fi]) H := hP
      have hD : va_D A (List.flatten [bMo g o a th hi ac tp ba en at2_13 fl 6 iD iO tU fm fk fa fc ft ff fb fi]) := hD
      refine W.widen (k := 0) (n := 0) (Nat.le_of_ble_eq_true rfl) (Nat.le_of_ble_eq_true rfl) ?_
      refine W.eq (g2 := F0 m 32 ls [.int q_14]) rfl ?_
      obtain ⟨hq15_0, hq15_1, hq15_2⟩ := hq15
      rcases hq15_2 with ⟨rfl, hq15_k⟩ | rfl
      · skip
        refine lv_if_ne (tgt := 40) hx hb dX12_atom_32 (by decide) (fun _ => ?_) (fun c16 => absurd c16 (by decide))
        refine lv_aload_n hx hb dX12_atom_40 rfl (lv_at hl 2 rfl) ?_
        refine va_get (D := g.1) (ci := 10) (v := .int 6) (C := RX12) (T := TX12) (N := 20) hx hb hts izRX12 hown hK hP 0 rfl rfl 13 (by decide) (hts _ k932) (fun _ h9 => h9) rfl dX12_atom_41 ?_
        refine lv_bipush (v := 6) hx hb dX12_atom_44 (by decide) ?_
        refine lv_icmp_ne (tgt := 56) hx hb dX12_atom_46 (by decide) (fun c17 => absurd (by decide) c17) (fun _ => ?_)
        refine lv_aload_n hx hb dX12_atom_49 rfl (lv_at hl 2 rfl) ?_
        refine lv_iload_n hx hb dX12_atom_50 rfl (lv_at hl 1 rfl) ?_
        refine mcallV' (g := g) (q0 := 0) (ci := 10) (As := [.int at2_3]) (rest := []) St hK hT hA hP hD hS hl.1 [0] [] rfl rfl rfl (m_wrong l g o a th hi ac tp ba en at2_13 fl 6 iD iO tU fm fk fa fc ft ff fb fi at2_3 (by first | assumption | omega | decide | exact Or.inl (by decide) | exact Or.inr (by decide)) (by first | assumption | omega | decide | exact Or.inl (by decide) | exact Or.inr (by decide))) (cwV 1 hts (zgL (zl4 k894 k895 k896 k837) k889) rfl rfl rfl (by decide +kernel) ⟨Nat.le_of_ble_eq_true rfl, Nat.le_of_ble_eq_true rfl⟩) rfl rfl rfl rfl (Nat.le_of_ble_eq_true rfl) dX12_atom_51 ⟨(Nat.le_of_ble_eq_true rfl), (Nat.le_of_ble_eq_true rfl)⟩ (fun fl2_18 H locs hq19 hP hD hS => ?_)
        replace hq19 : (0 ≤ fl2_18.toInt) := hq19
        have hP : va_P g.1 vwCl (List.flatten [bMo g o a th hi ac tp ba en at2_13 fl2_18 6 iD iO tU fm fk fa fc ft ff fb fi]) H := hP
        have hD : va_D A (List.flatten [bMo g o a th hi ac tp ba en at2_13 fl2_18 6 iD iO tU fm fk fa fc ft ff fb fi]) := hD
        refine W.widen (k := 0) (n := 0) (Nat.le_of_ble_eq_true rfl) (Nat.le_of_ble_eq_true rfl) ?_
        refine W.eq (g2 := F0 m 54 ls []) rfl ?_
        refine lv_iconst (v := 0) hx hb dX12_atom_54 (by decide) ?_
        have hP : va_P g.1 vwCl (List.flatten [bMo g o a th hi ac tp ba en at2_13 fl2_18 6 iD iO tU fm fk fa fc ft ff fb fi]) H := hP
        have hD : va_D A (List.flatten [bMo g o a th hi ac tp ba en at2_13 fl2_18 6 iD iO tU fm fk fa fc ft ff fb fi]) := hD
        exact mret_z hx hb hr hlocks hS (Nat.le_of_ble_eq_true rfl) (Nat.le_of_ble_eq_true rfl) dX12_atom_55 (at2_13, fl2_18, (0 : Int32)) rfl (by decide) (show (0 ≤ at2_13.toInt ∧ at2_13.toInt ≤ en.toInt + 7 - 6) ∧ (tA.toInt ≤ at2_13.toInt) ∧ (-1 ≤ fl2_18.toInt) ∧ (0 = 0 ∨ 0 = 1) from ⟨(by first | assumption | omega | decide | exact rfl | exact zb01 (by omega) | exact Or.inl (by decide) | exact Or.inr (by first | omega | decide)), (by first | assumption | omega | decide | exact rfl | exact zb01 (by omega) | exact Or.inl (by decide) | exact Or.inr (by first | omega | decide)), (by first | assumption | omega | decide | exact rfl | exact zb01 (by omega) | exact Or.inl (by decide) | exact Or.inr (by first | omega | decide)), (by first | assumption | omega | decide | exact rfl | exact zb01 (by omega) | exact Or.inl (by decide) | exact Or.inr (by first | omega | decide))⟩) hP hD
      · skip
        refine lv_if_ne (tgt := 40) hx hb dX12_atom_32 (by decide) (fun c20 => absurd (by decide) c20) (fun _ => ?_)
        refine lv_aload_n hx hb dX12_atom_35 rfl (lv_at hl 2 rfl) ?_
        refine mcallV' (g := g) (q0 := 0) (ci := 10) (As := []) (rest := []) St hK hT hA hP hD hS hl.1 [0] [] rfl rfl rfl (m_plain l g o a th hi ac tp ba en at2_13 fl 6 iD iO tU fm fk fa fc ft ff fb fi (⟨hiD.1, hiD.2⟩) (⟨hiO.1, hiO.2⟩) (by first | assumption | omega | decide | exact Or.inl (by decide) | exact Or.inr (by decide)) (⟨hen.1, hen.2⟩) (by first | assumption | omega | decide | exact Or.inl (by decide) | exact Or.inr (by decide)) (by first | assumption | omega | decide | exact Or.inl (by decide) | exact Or.inr (by decide)) (by decide)) (cwV 0 hts (zgL (zl4 k947 k948 k949 k837) k946) rfl rfl rfl (by decide +kernel) ⟨Nat.le_of_ble_eq_true rfl, Nat.le_of_ble_eq_true rfl⟩) rfl rfl rfl rfl (Nat.le_of_ble_eq_true rfl) dX12_atom_36 ⟨(Nat.le_of_ble_eq_true rfl), (Nat.le_of_ble_eq_true rfl)⟩ (fun u_ H locs hq24 hP hD hS => ?_)
        obtain ⟨at2_21, fl2_22, q_23⟩ := u_
        replace hq24 : (0 ≤ at2_21.toInt ∧ at2_21.toInt ≤ en.toInt + 7 - (6 : Int32).toInt) ∧ (at2_13.toInt ≤ at2_21.toInt) ∧ (-1 ≤ fl2_22.toInt) ∧ (q_23 = 0 ∨ q_23 = 1) := hq24
        have hP : va_P g.1 vwCl (List.flatten [bMo g o a th hi ac tp ba en at2_21 fl2_22 6 iD iO tU fm fk fa fc ft ff fb fi]) H := hP
        have hD : va_D A (List.flatten [bMo g o a th hi ac tp ba en at2_21 fl2_22 6 iD iO tU fm fk fa fc ft ff fb fi]) := hD
        refine W.widen (k := 0) (n := 0) (Nat.le_of_ble_eq_true rfl) (Nat.le_of_ble_eq_true rfl) ?_
        refine W.eq (g2 := F0 m 39 ls [.int q_23]) rfl ?_
        obtain ⟨hq24_0, hq24_1, hq24_2, hq24_3⟩ := hq24
        rcases hq24_3 with rfl | rfl
        · skip
          have hP : va_P g.1 vwCl (List.flatten [bMo g o a th hi ac tp ba en at2_21 fl2_22 6 iD iO tU fm fk fa fc ft ff fb fi]) H := hP
          have hD : va_D A (List.flatten [bMo g o a th hi ac tp ba en at2_21 fl2_22 6 iD iO tU fm fk fa fc ft ff fb fi]) := hD
          exact mret_z hx hb hr hlocks hS (Nat.le_of_ble_eq_true rfl) (Nat.le_of_ble_eq_true rfl) dX12_atom_39 (at2_21, fl2_22, (0 : Int32)) rfl (by decide) (show (0 ≤ at2_21.toInt ∧ at2_21.toInt ≤ en.toInt + 7 - 6) ∧ (tA.toInt ≤ at2_21.toInt) ∧ (-1 ≤ fl2_22.toInt) ∧ (0 = 0 ∨ 0 = 1) from ⟨(by first | assumption | omega | decide | exact rfl | exact zb01 (by omega) | exact Or.inl (by decide) | exact Or.inr (by first | omega | decide)), (by first | assumption | omega | decide | exact rfl | exact zb01 (by omega) | exact Or.inl (by decide) | exact Or.inr (by first | omega | decide)), (by first | assumption | omega | decide | exact rfl | exact zb01 (by omega) | exact Or.inl (by decide) | exact Or.inr (by first | omega | decide)), (by first | assumption | omega | decide | exact rfl | exact zb01 (by omega) | exact Or.inl (by decide) | exact Or.inr (by first | omega | decide))⟩) hP hD
        · skip
          have hP : va_P g.1 vwCl (List.flatten [bMo g o a th hi ac tp ba en at2_21 fl2_22 6 iD iO tU fm fk fa fc ft ff fb fi]) H := hP
          have hD : va_D A (List.flatten [bMo g o a th hi ac tp ba en at2_21 fl2_22 6 iD iO tU fm fk fa fc ft ff fb fi]) := hD
          exact mret_z hx hb hr hlocks hS (Nat.le_of_ble_eq_true rfl) (Nat.le_of_ble_eq_true rfl) dX12_atom_39 (at2_21, fl2_22, (1 : Int32)) rfl (by decide) (show (0 ≤ at2_21.toInt ∧ at2_21.toInt ≤ en.toInt + 7 - 6) ∧ (tA.toInt ≤ at2_21.toInt) ∧ (-1 ≤ fl2_22.toInt) ∧ (1 = 0 ∨ 1 = 1) from ⟨(by first | assumption | omega | decide | exact rfl | exact zb01 (by omega) | exact Or.inl (by decide) | exact Or.inr (by first | omega | decide)), (by first | assumption | omega | decide | exact rfl | exact zb01 (by omega) | exact Or.inl (by decide) | exact Or.inr (by first | omega | decide)), (by first | assumption | omega | decide | exact rfl | exact zb01 (by omega) | exact Or.inl (by decide) | exact Or.inr (by first | omega | decide)), (by first | assumption | omega | decide | exact rfl | exact zb01 (by omega) | exact Or.inl (by decide) | exact Or.inr (by first | omega | decide))⟩) hP hD
  · skip
    have c25 : ¬ fl.toInt = (-1) := zne cb9 rfl (by decide)
    refine lv_iconst (v := 0) hx hb dX12_atom_8 (by decide) ?_
    have hP : va_P g.1 vwCl (List.flatten [bMo g o a th hi ac tp ba en tA fl 6 iD iO tU fm fk fa fc ft ff fb fi]) s.heap := hP
    have hD : va_D A (List.flatten [bMo g o a th hi ac tp ba en tA fl 6 iD iO tU fm fk fa fc ft ff fb fi]) := hD
    exact mret_z hx hb hr hlocks hS (Nat.le_of_ble_eq_true rfl) (Nat.le_of_ble_eq_true rfl) dX12_atom_9 (tA, fl, (0 : Int32)) rfl (by decide) (show (0 ≤ tA.toInt ∧ tA.toInt ≤ en.toInt + 7 - 6) ∧ (tA.toInt ≤ tA.toInt) ∧ (-1 ≤ fl.toInt) ∧ (0 = 0 ∨ 0 = 1) from ⟨(by first | assumption | omega | decide | exact rfl | exact zb01 (by omega) | exact Or.inl (by decide) | exact Or.inr (by first | omega | decide)), (by first | assumption | omega | decide | exact rfl | exact zb01 (by omega) | exact Or.inl (by decide) | exact Or.inr (by first | omega | decide)), (by first | assumption | omega | decide | exact rfl | exact zb01 (by omega) | exact Or.inl (by decide) | exact Or.inr (by first | omega | decide)), (by first | assumption | omega | decide | exact rfl | exact zb01 (by omega) | exact Or.inl (by decide) | exact Or.inr (by first | omega | decide))⟩) hP hD
