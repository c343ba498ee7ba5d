set_option maxRecDepth 100000 in
set_option maxHeartbeats 4000000 in
theorem m_atom0 (l : Launch) (g : zG) (o : Nat) (a : Nat → Nat) (th : Int32) (hi : Int32) (ac : Int32) (tp : Int32) (ba : Int32) (en : Int32) (tA : Int32) (fl : Int32) (iD : Int32) (iO : Int32) (tU : Int32) (fm : Nat → Int32) (fk : Nat → Int32) (fa : Nat → Int32) (fc : Nat → Int32) (ft : Nat → Int32) (ff : Nat → Int32) (fb : Nat → Int32) (fi : Nat → Int32) (hiD : 0 ≤ iD.toInt ∧ iD.toInt ≤ 1) (hiO : 0 ≤ iO.toInt ∧ iO.toInt ≤ 1) (hba : zBa ba.toInt) (hen : 0 ≤ en.toInt ∧ en.toInt ≤ 400) (htA : 0 ≤ tA.toInt ∧ tA.toInt ≤ en.toInt + 7 - 0) (hfl : -1 ≤ fl.toInt) (hde : 0 ≤ 0 ∧ 0 ≤ 6) : zM' g l yX12_atom (Cond.code yX12_atom cX12_atom 4 (some .boolean) :: zB) ({ frames := 26, cells := 0, slots := 0, locals := 575 } : Room) [.ref o] [bMo g o a th hi ac tp ba en tA fl 0 iD iO tU fm fk fa fc ft ff fb fi] (fun u : Int32 × Int32 × Int32 => (fun (at2 : Int32) (fl2 : Int32) (q : Int32) => some (.int q)) (u.1) (u.2.1) (u.2.2)) (fun u : Int32 × Int32 × Int32 => (fun (at2 : Int32) (fl2 : Int32) (q : Int32) => (0 ≤ at2.toInt ∧ at2.toInt ≤ en.toInt + 7 - 0) ∧ (tA.toInt ≤ at2.toInt) ∧ (-1 ≤ fl2.toInt) ∧ (q = 0 ∨ q = 1)) (u.1) (u.2.1) (u.2.2)) (fun u : Int32 × Int32 × Int32 => (fun (at2 : Int32) (fl2 : Int32) (q : Int32) => [bMo g o a th hi ac tp ba en at2 fl2 0 iD iO tU fm fk fa fc ft ff fb fi]) (u.1) (u.2.1) (u.2.2)) := by
  refine zM'.of (cc := cX12_atom) (maxL := 4) (rt := (some .boolean)) (by decide) rfl (Nat.le_of_ble_eq_true rfl) ?_
  intro p e s m args below meth c A ls St hr hlocks hin hK hT hA hP hD hS hl
  obtain ⟨hx, hb, hml, hown, hts⟩ := id St
  have hl : lv_has ls 4 [(0, .ref o)] := hl
  refine lv_aload_n hx hb dX12_atom_0 rfl (lv_at hl 0 rfl) ?_
  refine va_get (D := g.1) (ci := 10) (v := .int fl) (C := RX12) (T := TX12) (N := 20) hx hb hts izRX12 hown hK hP 0 rfl rfl 12 (by decide) (hts _ k820) (fun _ h9 => h9) rfl dX12_atom_1 ?_
  refine lv_iconst (v := (-1)) hx hb dX12_atom_4 (by decide) ?_
  refine lv_icmp_eq (tgt := 10) hx hb dX12_atom_5 (by decide) (fun cb9 => ?_) (fun cb9 => ?_)
  · skip
    have c1 : fl.toInt = (-1) := zeq cb9 rfl (by decide)
    have n2 : fl.toInt ≤ (-1) := Int.le_trans (Int.le_of_eq c1) (Int.le_refl _)
    refine lv_aload_n hx hb dX12_atom_10 rfl (lv_at hl 0 rfl) ?_
    have hL0 : (0 : Int32).toInt = 0 := by decide
    refine mcallV' (g := g) (q0 := 0) (ci := 10) (As := []) (rest := []) St hK hT hA hP hD hS hl.1 [0] [] rfl rfl rfl (m_here l g o a th hi ac tp ba en tA fl 0 iD iO tU fm fk fa fc ft ff fb fi hba hen (by first | assumption | omega | decide | exact Or.inl (by decide) | exact Or.inr (by decide)) hfl (by decide)) (cwV 0 hts (zgL (zl4 k892 k893 k894 k839) k891) rfl rfl rfl (by decide +kernel) ⟨Nat.le_of_ble_eq_true rfl, Nat.le_of_ble_eq_true rfl⟩) rfl rfl rfl rfl (Nat.le_of_ble_eq_true rfl) dX12_atom_11 ⟨(Nat.le_of_ble_eq_true rfl), (Nat.le_of_ble_eq_true rfl)⟩ (fun at2_3 H locs hq4 hP hD hS => ?_)
    replace hq4 : (0 ≤ at2_3.toInt ∧ at2_3.toInt ≤ en.toInt + 7 - (0 : Int32).toInt) ∧ (tA.toInt ≤ at2_3.toInt) := hq4
    have hP : va_P g.1 vwCl (List.flatten [bMo g o a th hi ac tp ba en at2_3 fl 0 iD iO tU fm fk fa fc ft ff fb fi]) H := hP
    have hD : va_D A (List.flatten [bMo g o a th hi ac tp ba en at2_3 fl 0 iD iO tU fm fk fa fc ft ff fb fi]) := hD
    refine W.widen (k := 0) (n := 0) (Nat.le_of_ble_eq_true rfl) (Nat.le_of_ble_eq_true rfl) ?_
    refine W.eq (g2 := F0 m 14 ls [.int at2_3]) rfl ?_
    obtain ⟨hq4_0, hq4_1⟩ := hq4
    refine lv_istore_n (lv' := [(1, .int at2_3), (0, .ref o)]) hx hb dX12_atom_14 rfl hl (by decide) rfl (fun ls hl => ?_)
    refine lv_aload_n hx hb dX12_atom_15 rfl (lv_at hl 1 rfl) ?_
    refine va_ldcS (q := g.2 98) hx hb hown (zra44 hT.2.1) dX12_atom_16 ?_
    refine mcallV' (g := g) (q0 := 0) (ci := 10) (As := [.ref (g.2 98)]) (rest := []) St hK hT hA hP hD hS hl.1 [0] [] rfl rfl rfl (m_has l g o a th hi ac tp ba en at2_3 fl 0 iD iO tU fm fk fa fc ft ff fb fi (g.2 98) 44 zqa44 hba hen hq4_0 hfl (by decide) rfl zla44 zna44) (cwV 1 hts (zgL (zl4 k899 k900 k901 k839) k889) rfl rfl rfl (by decide +kernel) ⟨Nat.le_of_ble_eq_true rfl, Nat.le_of_ble_eq_true rfl⟩) rfl rfl rfl rfl (Nat.le_of_ble_eq_true rfl) dX12_atom_18 ⟨(Nat.le_of_ble_eq_true rfl), (Nat.le_of_ble_eq_true rfl)⟩ (fun u_ H locs hq7 hP hD hS => ?_)
    obtain ⟨at2_5, r_6⟩ := u_
    replace hq7 : (0 ≤ at2_5.toInt ∧ at2_5.toInt ≤ en.toInt + 7 - (0 : Int32).toInt) ∧ (at2_3.toInt ≤ at2_5.toInt) ∧ (r_6 = 1 ∧ at2_3.toInt < at2_5.toInt ∧ at2_5.toInt ≤ en.toInt ∨ r_6 = 0) := hq7
    have hP : va_P g.1 vwCl (List.flatten [bMo g o a th hi ac tp ba en at2_5 fl 0 iD iO tU fm fk fa fc ft ff fb fi]) H := hP
    have hD : va_D A (List.flatten [bMo g o a th hi ac tp ba en at2_5 fl 0 iD iO tU fm fk fa fc ft ff fb fi]) := hD
    refine W.widen (k := 0) (n := 0) (Nat.le_of_ble_eq_true rfl) (Nat.le_of_ble_eq_true rfl) ?_
    refine W.eq (g2 := F0 m 21 ls [.int r_6]) rfl ?_
    obtain ⟨hq7_0, hq7_1, hq7_2⟩ := hq7
    rcases hq7_2 with ⟨rfl, hq7_k⟩ | rfl
    · skip
      refine lv_istore_n (lv' := [(2, .int 1), (1, .int at2_3), (0, .ref o)]) hx hb dX12_atom_21 rfl hl (by decide) rfl (fun ls hl => ?_)
      refine lv_iload_n hx hb dX12_atom_22 rfl (lv_at hl 0 rfl) ?_
      refine lv_if_ne (tgt := 40) hx hb dX12_atom_23 (by decide) (fun _ => ?_) (fun c8 => absurd c8 (by decide))
      refine lv_aload_n hx hb dX12_atom_40 rfl (lv_at hl 2 rfl) ?_
      refine va_get (D := g.1) (ci := 10) (v := .int 0) (C := RX12) (T := TX12) (N := 20) hx hb hts izRX12 hown hK hP 0 rfl rfl 13 (by decide) (hts _ k933) (fun _ h9 => h9) rfl dX12_atom_41 ?_
      refine lv_bipush (v := 6) hx hb dX12_atom_44 (by decide) ?_
      refine lv_icmp_ne (tgt := 56) hx hb dX12_atom_46 (by decide) (fun _ => ?_) (fun c9 => absurd c9 (by decide))
      refine lv_aload_n hx hb dX12_atom_56 rfl (lv_at hl 2 rfl) ?_
      refine lv_dup hx hb dX12_atom_57 rfl ?_
      refine va_get (D := g.1) (ci := 10) (v := .int 0) (C := RX12) (T := TX12) (N := 20) hx hb hts izRX12 hown hK hP 0 rfl rfl 13 (by decide) (hts _ k933) (fun _ h9 => h9) rfl dX12_atom_58 ?_
      refine lv_iconst (v := 1) hx hb dX12_atom_61 (by decide) ?_
      refine lv_iadd hx hb dX12_atom_62 ?_
      refine ztop (r := 1) (by decide) ?_
      refine va_put (D := g.1) (ci := 10) (v := .int 1) (ty := .int) (C := RX12) (T := TX12) (N := 20) hx hb hts izRX12 tyX12 tyX12_ok nmX12 hown hK hP hD hS 0 rfl rfl 13 (by decide) (hts _ k933) (fun _ h9 => h9) rfl (by decide +kernel) rfl rfl (Nat.le_of_ble_eq_true rfl) dX12_atom_63 (fun H locs hP hD hS => ?_)
      have hP : va_P g.1 vwCl (List.flatten [bMo g o a th hi ac tp ba en at2_5 fl 1 iD iO tU fm fk fa fc ft ff fb fi]) H := hP
      have hD : va_D A (List.flatten [bMo g o a th hi ac tp ba en at2_5 fl 1 iD iO tU fm fk fa fc ft ff fb fi]) := hD
      refine lv_iconst (v := 0) hx hb dX12_atom_66 (by decide) ?_
      refine lv_istore_n (lv' := [(3, .int 0), (2, .int 1), (1, .int at2_3), (0, .ref o)]) hx hb dX12_atom_67 rfl hl (by decide) rfl (fun ls hl => ?_)
      refine lv_iload_n hx hb dX12_atom_68 rfl (lv_at hl 1 rfl) ?_
      refine lv_if_eq (tgt := 88) hx hb dX12_atom_69 (by decide) (fun c10 => absurd c10 (by decide)) (fun _ => ?_)
      refine lv_aload_n hx hb dX12_atom_72 rfl (lv_at hl 3 rfl) ?_
      refine mcallV' (g := g) (q0 := 0) (ci := 10) (As := []) (rest := []) St hK hT hA hP hD hS hl.1 [0] [] rfl rfl rfl (m_atom1 l g o a th hi ac tp ba en at2_5 fl iD iO tU fm fk fa fc ft ff fb fi hiD hiO hba hen (by first | assumption | omega | decide | exact Or.inl (by decide) | exact Or.inr (by decide)) hfl (by first | assumption | omega | decide | exact Or.inl (by decide) | exact Or.inr (by decide))) (cwV 0 hts (zgL (zl4 k951 k952 k953 k839) k962) rfl rfl rfl (by decide +kernel) ⟨Nat.le_of_ble_eq_true rfl, Nat.le_of_ble_eq_true rfl⟩) rfl rfl rfl rfl (Nat.le_of_ble_eq_true rfl) dX12_atom_73 ⟨(Nat.le_of_ble_eq_true rfl), (Nat.le_of_ble_eq_true rfl)⟩ (fun u_ H locs hq14 hP hD hS => ?_)
      obtain ⟨at2_11, fl2_12, q_13⟩ := u_
      replace hq14 : (0 ≤ at2_11.toInt ∧ at2_11.toInt ≤ en.toInt + 7 - 1) ∧ (at2_5.toInt ≤ at2_11.toInt) ∧ (-1 ≤ fl2_12.toInt) ∧ (q_13 = 0 ∨ q_13 = 1) := hq14
      have hP : va_P g.1 vwCl (List.flatten [bMo g o a th hi ac tp ba en at2_11 fl2_12 1 iD iO tU fm fk fa fc ft ff fb fi]) H := hP
      have hD : va_D A (List.flatten [bMo g o a th hi ac tp ba en at2_11 fl2_12 1 iD iO tU fm fk fa fc ft ff fb fi]) := hD
      refine W.widen (k := 0) (n := 0) (Nat.le_of_ble_eq_true rfl) (Nat.le_of_ble_eq_true rfl) ?_
      refine W.eq (g2 := F0 m 76 ls [.int q_13]) rfl ?_
      obtain ⟨hq14_0, hq14_1, hq14_2, hq14_3⟩ := hq14
      rcases hq14_3 with rfl | rfl
      · skip
        refine lv_if_ne (tgt := 83) hx hb dX12_atom_76 (by decide) (fun c15 => absurd (by decide) c15) (fun _ => ?_)
        refine lv_iconst (v := 1) hx hb dX12_atom_79 (by decide) ?_
        refine lv_goto (tgt := 84) hx hb dX12_atom_80 (by decide) ?_
        refine lv_istore_n (lv' := [(3, .int 1), (2, .int 1), (1, .int at2_3), (0, .ref o)]) hx hb dX12_atom_84 rfl hl (by decide) rfl (fun ls hl => ?_)
        refine lv_goto (tgt := 138) hx hb dX12_atom_85 (by decide) ?_
        refine lv_aload_n hx hb dX12_atom_138 rfl (lv_at hl 3 rfl) ?_
        refine lv_dup hx hb dX12_atom_139 rfl ?_
        refine va_get (D := g.1) (ci := 10) (v := .int 1) (C := RX12) (T := TX12) (N := 20) hx hb hts izRX12 hown hK hP 0 rfl rfl 13 (by decide) (hts _ k933) (fun _ h9 => h9) rfl dX12_atom_140 ?_
        refine lv_iconst (v := 1) hx hb dX12_atom_143 (by decide) ?_
        refine lv_isub hx hb dX12_atom_144 ?_
        refine ztop (r := 0) (by decide) ?_
        refine va_put (D := g.1) (ci := 10) (v := .int 0) (ty := .int) (C := RX12) (T := TX12) (N := 20) hx hb hts izRX12 tyX12 tyX12_ok nmX12 hown hK hP hD hS 0 rfl rfl 13 (by decide) (hts _ k933) (fun _ h9 => h9) rfl (by decide +kernel) rfl rfl (Nat.le_of_ble_eq_true rfl) dX12_atom_145 (fun H locs hP hD hS => ?_)
        have hP : va_P g.1 vwCl (List.flatten [bMo g o a th hi ac tp ba en at2_11 fl2_12 0 iD iO tU fm fk fa fc ft ff fb fi]) H := hP
        have hD : va_D A (List.flatten [bMo g o a th hi ac tp ba en at2_11 fl2_12 0 iD iO tU fm fk fa fc ft ff fb fi]) := hD
        refine lv_iload_n hx hb dX12_atom_148 rfl (lv_at hl 0 rfl) ?_
        have hP : va_P g.1 vwCl (List.flatten [bMo g o a th hi ac tp ba en at2_11 fl2_12 0 iD iO tU fm fk fa fc ft ff fb fi]) H := hP
        have hD : va_D A (List.flatten [bMo g o a th hi ac tp ba en at2_11 fl2_12 0 iD iO tU fm fk fa fc ft ff fb fi]) := hD
        exact mret_z hx hb hr hlocks hS (Nat.le_of_ble_eq_true rfl) (Nat.le_of_ble_eq_true rfl) dX12_atom_149 (at2_11, fl2_12, (1 : Int32)) rfl (by decide) (show (0 ≤ at2_11.toInt ∧ at2_11.toInt ≤ en.toInt + 7 - 0) ∧ (tA.toInt ≤ at2_11.toInt) ∧ (-1 ≤ fl2_12.toInt) ∧ (1 = 0 ∨ 1 = 1) from ⟨(by first | assumption | omega | decide | exact rfl | exact zb01 (by omega) | exact Or.inl (by decide) | exact Or.inr (by first | omega | decide)), (by first | assumption | omega | decide | exact rfl | exact zb01 (by omega) | exact Or.inl (by decide) | exact Or.inr (by first | omega | decide)), hq14_2, (by decide)⟩) hP hD
      · skip
        refine lv_if_ne (tgt := 83) hx hb dX12_atom_76 (by decide) (fun _ => ?_) (fun c16 => absurd c16 (by decide))
        refine lv_iconst (v := 0) hx hb dX12_atom_83 (by decide) ?_
        refine lv_istore_n (lv' := [(3, .int 0), (2, .int 1), (1, .int at2_3), (0, .ref o)]) hx hb dX12_atom_84 rfl hl (by decide) rfl (fun ls hl => ?_)
        refine lv_goto (tgt := 138) hx hb dX12_atom_85 (by decide) ?_
        refine lv_aload_n hx hb dX12_atom_138 rfl (lv_at hl 3 rfl) ?_
        refine lv_dup hx hb dX12_atom_139 rfl ?_
        refine va_get (D := g.1) (ci := 10) (v := .int 1) (C := RX12) (T := TX12) (N := 20) hx hb hts izRX12 hown hK hP 0 rfl rfl 13 (by decide) (hts _ k933) (fun _ h9 => h9) rfl dX12_atom_140 ?_
        refine lv_iconst (v := 1) hx hb dX12_atom_143 (by decide) ?_
        refine lv_isub hx hb dX12_atom_144 ?_
        refine ztop (r := 0) (by decide) ?_
        refine va_put (D := g.1) (ci := 10) (v := .int 0) (ty := .int) (C := RX12) (T := TX12) (N := 20) hx hb hts izRX12 tyX12 tyX12_ok nmX12 hown hK hP hD hS 0 rfl rfl 13 (by decide) (hts _ k933) (fun _ h9 => h9) rfl (by decide +kernel) rfl rfl (Nat.le_of_ble_eq_true rfl) dX12_atom_145 (fun H locs hP hD hS => ?_)
        have hP : va_P g.1 vwCl (List.flatten [bMo g o a th hi ac tp ba en at2_11 fl2_12 0 iD iO tU fm fk fa fc ft ff fb fi]) H := hP
        have hD : va_D A (List.flatten [bMo g o a th hi ac tp ba en at2_11 fl2_12 0 iD iO tU fm fk fa fc ft ff fb fi]) := hD
        refine lv_iload_n hx hb dX12_atom_148 rfl (lv_at hl 0 rfl) ?_
        have hP : va_P g.1 vwCl (List.flatten [bMo g o a th hi ac tp ba en at2_11 fl2_12 0 iD iO tU fm fk fa fc ft ff fb fi]) H := hP
        have hD : va_D A (List.flatten [bMo g o a th hi ac tp ba en at2_11 fl2_12 0 iD iO tU fm fk fa fc ft ff fb fi]) := hD
        exact mret_z hx hb hr hlocks hS (Nat.le_of_ble_eq_true rfl) (Nat.le_of_ble_eq_true rfl) dX12_atom_149 (at2_11, fl2_12, (0 : Int32)) rfl (by decide) (show (0 ≤ at2_11.toInt ∧ at2_11.toInt ≤ en.toInt + 7 - 0) ∧ (tA.toInt ≤ at2_11.toInt) ∧ (-1 ≤ fl2_12.toInt) ∧ (0 = 0 ∨ 0 = 1) from ⟨(by first | assumption | omega | decide | exact rfl | exact zb01 (by omega) | exact Or.inl (by decide) | exact Or.inr (by first | omega | decide)), (by first | assumption | omega | decide | exact rfl | exact zb01 (by omega) | exact Or.inl (by decide) | exact Or.inr (by first | omega | decide)), hq14_2, (by decide)⟩) hP hD
    · skip
      refine lv_istore_n (lv' := [(2, .int 0), (1, .int at2_3), (0, .ref o)]) hx hb dX12_atom_21 rfl hl (by decide) rfl (fun ls hl => ?_)
      refine lv_iload_n hx hb dX12_atom_22 rfl (lv_at hl 0 rfl) ?_
      refine lv_if_ne (tgt := 40) hx hb dX12_atom_23 (by decide) (fun c17 => absurd (by decide) c17) (fun _ => ?_)
      refine lv_aload_n hx hb dX12_atom_26 rfl (lv_at hl 2 rfl) ?_
      refine lv_bipush (v := 40) hx hb dX12_atom_27 (by decide) ?_
      refine mcallV' (g := g) (q0 := 0) (ci := 10) (As := [.int 40]) (rest := []) St hK hT hA hP hD hS hl.1 [0] [] rfl rfl rfl (m_isSign l g o a th hi ac tp ba en at2_5 fl 0 iD iO tU fm fk fa fc ft ff fb fi 40 hba hen hq7_0 hfl (by decide)) (cwV 1 hts (zgL (zl4 k938 k939 k940 k839) k883) rfl rfl rfl (by decide +kernel) ⟨Nat.le_of_ble_eq_true rfl, Nat.le_of_ble_eq_true rfl⟩) rfl rfl rfl rfl (Nat.le_of_ble_eq_true rfl) dX12_atom_29 ⟨(Nat.le_of_ble_eq_true rfl), (Nat.le_of_ble_eq_true rfl)⟩ (fun u_ H locs hq20 hP hD hS => ?_)
      obtain ⟨at2_18, q_19⟩ := u_
      replace hq20 : (0 ≤ at2_18.toInt ∧ at2_18.toInt ≤ en.toInt + 7 - (0 : Int32).toInt) ∧ (at2_5.toInt ≤ at2_18.toInt) ∧ (q_19 = 1 ∧ at2_18.toInt < en.toInt ∨ q_19 = 0) := hq20
      have hP : va_P g.1 vwCl (List.flatten [bMo g o a th hi ac tp ba en at2_18 fl 0 iD iO tU fm fk fa fc ft ff fb fi]) H := hP
      have hD : va_D A (List.flatten [bMo g o a th hi ac tp ba en at2_18 fl 0 iD iO tU fm fk fa fc ft ff fb fi]) := hD
      refine W.widen (k := 0) (n := 0) (Nat.le_of_ble_eq_true rfl) (Nat.le_of_ble_eq_true rfl) ?_
      refine W.eq (g2 := F0 m 32 ls [.int q_19]) rfl ?_
      obtain ⟨hq20_0, hq20_1, hq20_2⟩ := hq20
      rcases hq20_2 with ⟨rfl, hq20_k⟩ | rfl
      · skip
        refine lv_if_ne (tgt := 40) hx hb dX12_atom_32 (by decide) (fun _ => ?_) (fun c21 => absurd c21 (by decide))
        refine lv_aload_n hx hb dX12_atom_40 rfl (lv_at hl 2 rfl) ?_
        refine va_get (D := g.1) (ci := 10) (v := .int 0) (C := RX12) (T := TX12) (N := 20) hx hb hts izRX12 hown hK hP 0 rfl rfl 13 (by decide) (hts _ k933) (fun _ h9 => h9) rfl dX12_atom_41 ?_
        refine lv_bipush (v := 6) hx hb dX12_atom_44 (by decide) ?_
        refine lv_icmp_ne (tgt := 56) hx hb dX12_atom_46 (by decide) (fun _ => ?_) (fun c22 => absurd c22 (by decide))
        refine lv_aload_n hx hb dX12_atom_56 rfl (lv_at hl 2 rfl) ?_
        refine lv_dup hx hb dX12_atom_57 rfl ?_
        refine va_get (D := g.1) (ci := 10) (v := .int 0) (C := RX12) (T := TX12) (N := 20) hx hb hts izRX12 hown hK hP 0 rfl rfl 13 (by decide) (hts _ k933) (fun _ h9 => h9) rfl dX12_atom_58 ?_
        refine lv_iconst (v := 1) hx hb dX12_atom_61 (by decide) ?_
        refine lv_iadd hx hb dX12_atom_62 ?_
        refine ztop (r := 1) (by decide) ?_
        refine va_put (D := g.1) (ci := 10) (v := .int 1) (ty := .int) (C := RX12) (T := TX12) (N := 20) hx hb hts izRX12 tyX12 tyX12_ok nmX12 hown hK hP hD hS 0 rfl rfl 13 (by decide) (hts _ k933) (fun _ h9 => h9) rfl (by decide +kernel) rfl rfl (Nat.le_of_ble_eq_true rfl) dX12_atom_63 (fun H locs hP hD hS => ?_)
        have hP : va_P g.1 vwCl (List.flatten [bMo g o a th hi ac tp ba en at2_18 fl 1 iD iO tU fm fk fa fc ft ff fb fi]) H := hP
        have hD : va_D A (List.flatten [bMo g o a th hi ac tp ba en at2_18 fl 1 iD iO tU fm fk fa fc ft ff fb fi]) := hD
        refine lv_iconst (v := 0) hx hb dX12_atom_66 (by decide) ?_
        refine lv_istore_n (lv' := [(3, .int 0), (2, .int 0), (1, .int at2_3), (0, .ref o)]) hx hb dX12_atom_67 rfl hl (by decide) rfl (fun ls hl => ?_)
        refine lv_iload_n hx hb dX12_atom_68 rfl (lv_at hl 1 rfl) ?_
        refine lv_if_eq (tgt := 88) hx hb dX12_atom_69 (by decide) (fun _ => ?_) (fun c23 => absurd (by decide) c23)
        refine lv_aload_n hx hb dX12_atom_88 rfl (lv_at hl 3 rfl) ?_
        refine lv_dup hx hb dX12_atom_89 rfl ?_
        refine va_get (D := g.1) (ci := 10) (v := .int at2_18) (C := RX12) (T := TX12) (N := 20) hx hb hts izRX12 hown hK hP 0 rfl rfl 11 (by decide) (hts _ k878) (fun _ h9 => h9) rfl dX12_atom_90 ?_
        refine lv_iconst (v := 1) hx hb dX12_atom_93 (by decide) ?_
        refine lv_iadd hx hb dX12_atom_94 ?_
        refine zgv (zadd (i := at2_18.toInt) (j := 1) rfl (by decide) (by omega)) (fun x_24 hx_24 => ?_)
        refine va_put (D := g.1) (ci := 10) (v := .int x_24) (ty := .int) (C := RX12) (T := TX12) (N := 20) hx hb hts izRX12 tyX12 tyX12_ok nmX12 hown hK hP hD hS 0 rfl rfl 11 (by decide) (hts _ k878) (fun _ h9 => h9) rfl (by decide +kernel) rfl rfl (Nat.le_of_ble_eq_true rfl) dX12_atom_95 (fun H locs hP hD hS => ?_)
        have hP : va_P g.1 vwCl (List.flatten [bMo g o a th hi ac tp ba en x_24 fl 1 iD iO tU fm fk fa fc ft ff fb fi]) H := hP
        have hD : va_D A (List.flatten [bMo g o a th hi ac tp ba en x_24 fl 1 iD iO tU fm fk fa fc ft ff fb fi]) := hD
        refine lv_aload_n hx hb dX12_atom_98 rfl (lv_at hl 3 rfl) ?_
        refine mcallV' (g := g) (q0 := 0) (ci := 10) (As := []) (rest := []) St hK hT hA hP hD hS hl.1 [0] [] rfl rfl rfl (m_some1 l g o a th hi ac tp ba en x_24 fl iD iO tU fm fk fa fc ft ff fb fi hiD hiO hba hen (by first | assumption | omega | decide | exact Or.inl (by decide) | exact Or.inr (by decide)) hfl (by first | assumption | omega | decide | exact Or.inl (by decide) | exact Or.inr (by decide))) (cwV 0 hts (zgL (zl4 k954 k955 k956 k839) k958) rfl rfl rfl (by decide +kernel) ⟨Nat.le_of_ble_eq_true rfl, Nat.le_of_ble_eq_true rfl⟩) rfl rfl rfl rfl (Nat.le_of_ble_eq_true rfl) dX12_atom_99 ⟨(Nat.le_of_ble_eq_true rfl), (Nat.le_of_ble_eq_true rfl)⟩ (fun u_ H locs hq28 hP hD hS => ?_)
        obtain ⟨at2_25, fl2_26, q_27⟩ := u_
        replace hq28 : (0 ≤ at2_25.toInt ∧ at2_25.toInt ≤ en.toInt + 7 - 1) ∧ (x_24.toInt ≤ at2_25.toInt) ∧ (-1 ≤ fl2_26.toInt) ∧ (q_27 = 0 ∨ q_27 = 1) := hq28
        have hP : va_P g.1 vwCl (List.flatten [bMo g o a th hi ac tp ba en at2_25 fl2_26 1 iD iO tU fm fk fa fc ft ff fb fi]) H := hP
        have hD : va_D A (List.flatten [bMo g o a th hi ac tp ba en at2_25 fl2_26 1 iD iO tU fm fk fa fc ft ff fb fi]) := hD
        refine W.widen (k := 0) (n := 0) (Nat.le_of_ble_eq_true rfl) (Nat.le_of_ble_eq_true rfl) ?_
        refine W.eq (g2 := F0 m 102 ls [.int q_27]) rfl ?_
        obtain ⟨hq28_0, hq28_1, hq28_2, hq28_3⟩ := hq28
        rcases hq28_3 with rfl | rfl
        · skip
          refine lv_istore_n (lv' := [(3, .int 0), (2, .int 0), (1, .int at2_3), (0, .ref o)]) hx hb dX12_atom_102 rfl hl (by decide) rfl (fun ls hl => ?_)
          refine lv_aload_n hx hb dX12_atom_103 rfl (lv_at hl 3 rfl) ?_
          refine va_get (D := g.1) (ci := 10) (v := .int fl2_26) (C := RX12) (T := TX12) (N := 20) hx hb hts izRX12 hown hK hP 0 rfl rfl 12 (by decide) (hts _ k820) (fun _ h9 => h9) rfl dX12_atom_104 ?_
          refine lv_iconst (v := (-1)) hx hb dX12_atom_107 (by decide) ?_
          refine lv_icmp_ne (tgt := 128) hx hb dX12_atom_108 (by decide) (fun cb9 => ?_) (fun cb9 => ?_)
          · skip
            have c29 : ¬ fl2_26.toInt = (-1) := zne cb9 rfl (by decide)
            refine lv_aload_n hx hb dX12_atom_128 rfl (lv_at hl 3 rfl) ?_
            refine lv_dup hx hb dX12_atom_129 rfl ?_
            refine va_get (D := g.1) (ci := 10) (v := .int at2_25) (C := RX12) (T := TX12) (N := 20) hx hb hts izRX12 hown hK hP 0 rfl rfl 11 (by decide) (hts _ k878) (fun _ h9 => h9) rfl dX12_atom_130 ?_
            refine lv_iconst (v := 1) hx hb dX12_atom_133 (by decide) ?_
            refine lv_iadd hx hb dX12_atom_134 ?_
            refine zgv (zadd (i := at2_25.toInt) (j := 1) rfl (by decide) (by omega)) (fun x_30 hx_30 => ?_)
            refine va_put (D := g.1) (ci := 10) (v := .int x_30) (ty := .int) (C := RX12) (T := TX12) (N := 20) hx hb hts izRX12 tyX12 tyX12_ok nmX12 hown hK hP hD hS 0 rfl rfl 11 (by decide) (hts _ k878) (fun _ h9 => h9) rfl (by decide +kernel) rfl rfl (Nat.le_of_ble_eq_true rfl) dX12_atom_135 (fun H locs hP hD hS => ?_)
            have hP : va_P g.1 vwCl (List.flatten [bMo g o a th hi ac tp ba en x_30 fl2_26 1 iD iO tU fm fk fa fc ft ff fb fi]) H := hP
            have hD : va_D A (List.flatten [bMo g o a th hi ac tp ba en x_30 fl2_26 1 iD iO tU fm fk fa fc ft ff fb fi]) := hD
            refine lv_aload_n hx hb dX12_atom_138 rfl (lv_at hl 3 rfl) ?_
            refine lv_dup hx hb dX12_atom_139 rfl ?_
            refine va_get (D := g.1) (ci := 10) (v := .int 1) (C := RX12) (T := TX12) (N := 20) hx hb hts izRX12 hown hK hP 0 rfl rfl 13 (by decide) (hts _ k933) (fun _ h9 => h9) rfl dX12_atom_140 ?_
            refine lv_iconst (v := 1) hx hb dX12_atom_143 (by decide) ?_
            refine lv_isub hx hb dX12_atom_144 ?_
            refine ztop (r := 0) (by decide) ?_
            refine va_put (D := g.1) (ci := 10) (v := .int 0) (ty := .int) (C := RX12) (T := TX12) (N := 20) hx hb hts izRX12 tyX12 tyX12_ok nmX12 hown hK hP hD hS 0 rfl rfl 13 (by decide) (hts _ k933) (fun _ h9 => h9) rfl (by decide +kernel) rfl rfl (Nat.le_of_ble_eq_true rfl) dX12_atom_145 (fun H locs hP hD hS => ?_)
            have hP : va_P g.1 vwCl (List.flatten [bMo g o a th hi ac tp ba en x_30 fl2_26 0 iD iO tU fm fk fa fc ft ff fb fi]) H := hP
            have hD : va_D A (List.flatten [bMo g o a th hi ac tp ba en x_30 fl2_26 0 iD iO tU fm fk fa fc ft ff fb fi]) := hD
            refine lv_iload_n hx hb dX12_atom_148 rfl (lv_at hl 0 rfl) ?_
            have hP : va_P g.1 vwCl (List.flatten [bMo g o a th hi ac tp ba en x_30 fl2_26 0 iD iO tU fm fk fa fc ft ff fb fi]) H := hP
            have hD : va_D A (List.flatten [bMo g o a th hi ac tp ba en x_30 fl2_26 0 iD iO tU fm fk fa fc ft ff fb fi]) := hD
            exact mret_z hx hb hr hlocks hS (Nat.le_of_ble_eq_true rfl) (Nat.le_of_ble_eq_true rfl) dX12_atom_149 (x_30, fl2_26, (0 : Int32)) rfl (by decide) (show (0 ≤ x_30.toInt ∧ x_30.toInt ≤ en.toInt + 7 - 0) ∧ (tA.toInt ≤ x_30.toInt) ∧ (-1 ≤ fl2_26.toInt) ∧ (0 = 0 ∨ 0 = 1) from ⟨(by first | assumption | omega | decide | exact rfl | exact zb01 (by omega) | exact Or.inl (by decide) | exact Or.inr (by first | omega | decide)), (by first | assumption | omega | decide | exact rfl | exact zb01 (by omega) | exact Or.inl (by decide) | exact Or.inr (by first | omega | decide)), hq28_2, (by decide)⟩) hP hD
          · skip
            have c31 : fl2_26.toInt = (-1) := zeq cb9 rfl (by decide)
            have n32 : fl2_26.toInt ≤ (-1) := Int.le_trans (Int.le_of_eq c31) (Int.le_refl _)
            refine lv_aload_n hx hb dX12_atom_111 rfl (lv_at hl 3 rfl) ?_
            refine lv_bipush (v := 41) hx hb dX12_atom_112 (by decide) ?_
            have hL1 : (1 : Int32).toInt = 1 := by decide
            refine mcallV' (g := g) (q0 := 0) (ci := 10) (As := [.int 41]) (rest := []) St hK hT hA hP hD hS hl.1 [0] [] rfl rfl rfl (m_isSign l g o a th hi ac tp ba en at2_25 fl2_26 1 iD iO tU fm fk fa fc ft ff fb fi 41 hba hen (by first | assumption | omega | decide | exact Or.inl (by decide) | exact Or.inr (by decide)) hq28_2 (by decide)) (cwV 1 hts (zgL (zl4 k938 k939 k940 k839) k883) rfl rfl rfl (by decide +kernel) ⟨Nat.le_of_ble_eq_true rfl, Nat.le_of_ble_eq_true rfl⟩) rfl rfl rfl rfl (Nat.le_of_ble_eq_true rfl) dX12_atom_114 ⟨(Nat.le_of_ble_eq_true rfl), (Nat.le_of_ble_eq_true rfl)⟩ (fun u_ H locs hq35 hP hD hS => ?_)
            obtain ⟨at2_33, q_34⟩ := u_
            replace hq35 : (0 ≤ at2_33.toInt ∧ at2_33.toInt ≤ en.toInt + 7 - (1 : Int32).toInt) ∧ (at2_25.toInt ≤ at2_33.toInt) ∧ (q_34 = 1 ∧ at2_33.toInt < en.toInt ∨ q_34 = 0) := hq35
            have hP : va_P g.1 vwCl (List.flatten [bMo g o a th hi ac tp ba en at2_33 fl2_26 1 iD iO tU fm fk fa fc ft ff fb fi]) H := hP
            have hD : va_D A (List.flatten [bMo g o a th hi ac tp ba en at2_33 fl2_26 1 iD iO tU fm fk fa fc ft ff fb fi]) := hD
            refine W.widen (k := 0) (n := 0) (Nat.le_of_ble_eq_true rfl) (Nat.le_of_ble_eq_true rfl) ?_
            refine W.eq (g2 := F0 m 117 ls [.int q_34]) rfl ?_
            obtain ⟨hq35_0, hq35_1, hq35_2⟩ := hq35
            rcases hq35_2 with ⟨rfl, hq35_k⟩ | rfl
            · skip
              refine lv_if_ne (tgt := 128) hx hb dX12_atom_117 (by decide) (fun _ => ?_) (fun c36 => absurd c36 (by decide))
              refine lv_aload_n hx hb dX12_atom_128 rfl (lv_at hl 3 rfl) ?_
              refine lv_dup hx hb dX12_atom_129 rfl ?_
              refine va_get (D := g.1) (ci := 10) (v := .int at2_33) (C := RX12) (T := TX12) (N := 20) hx hb hts izRX12 hown hK hP 0 rfl rfl 11 (by decide) (hts _ k878) (fun _ h9 => h9) rfl dX12_atom_130 ?_
              refine lv_iconst (v := 1) hx hb dX12_atom_133 (by decide) ?_
              refine lv_iadd hx hb dX12_atom_134 ?_
              refine zgv (zadd (i := at2_33.toInt) (j := 1) rfl (by decide) (by omega)) (fun x_37 hx_37 => ?_)
              refine va_put (D := g.1) (ci := 10) (v := .int x_37) (ty := .int) (C := RX12) (T := TX12) (N := 20) hx hb hts izRX12 tyX12 tyX12_ok nmX12 hown hK hP hD hS 0 rfl rfl 11 (by decide) (hts _ k878) (fun _ h9 => h9) rfl (by decide +kernel) rfl rfl (Nat.le_of_ble_eq_true rfl) dX12_atom_135 (fun H locs hP hD hS => ?_)
              have hP : va_P g.1 vwCl (List.flatten [bMo g o a th hi ac tp ba en x_37 fl2_26 1 iD iO tU fm fk fa fc ft ff fb fi]) H := hP
              have hD : va_D A (List.flatten [bMo g o a th hi ac tp ba en x_37 fl2_26 1 iD iO tU fm fk fa fc ft ff fb fi]) := hD
              refine lv_aload_n hx hb dX12_atom_138 rfl (lv_at hl 3 rfl) ?_
              refine lv_dup hx hb dX12_atom_139 rfl ?_
              refine va_get (D := g.1) (ci := 10) (v := .int 1) (C := RX12) (T := TX12) (N := 20) hx hb hts izRX12 hown hK hP 0 rfl rfl 13 (by decide) (hts _ k933) (fun _ h9 => h9) rfl dX12_atom_140 ?_
              refine lv_iconst (v := 1) hx hb dX12_atom_143 (by decide) ?_
              refine lv_isub hx hb dX12_atom_144 ?_
              refine ztop (r := 0) (by decide) ?_
              refine va_put (D := g.1) (ci := 10) (v := .int 0) (ty := .int) (C := RX12) (T := TX12) (N := 20) hx hb hts izRX12 tyX12 tyX12_ok nmX12 hown hK hP hD hS 0 rfl rfl 13 (by decide) (hts _ k933) (fun _ h9 => h9) rfl (by decide +kernel) rfl rfl (Nat.le_of_ble_eq_true rfl) dX12_atom_145 (fun H locs hP hD hS => ?_)
              have hP : va_P g.1 vwCl (List.flatten [bMo g o a th hi ac tp ba en x_37 fl2_26 0 iD iO tU fm fk fa fc ft ff fb fi]) H := hP
              have hD : va_D A (List.flatten [bMo g o a th hi ac tp ba en x_37 fl2_26 0 iD iO tU fm fk fa fc ft ff fb fi]) := hD
              refine lv_iload_n hx hb dX12_atom_148 rfl (lv_at hl 0 rfl) ?_
              have hP : va_P g.1 vwCl (List.flatten [bMo g o a th hi ac tp ba en x_37 fl2_26 0 iD iO tU fm fk fa fc ft ff fb fi]) H := hP
              have hD : va_D A (List.flatten [bMo g o a th hi ac tp ba en x_37 fl2_26 0 iD iO tU fm fk fa fc ft ff fb fi]) := hD
              exact mret_z hx hb hr hlocks hS (Nat.le_of_ble_eq_true rfl) (Nat.le_of_ble_eq_true rfl) dX12_atom_149 (x_37, fl2_26, (0 : Int32)) rfl (by decide) (show (0 ≤ x_37.toInt ∧ x_37.toInt ≤ en.toInt + 7 - 0) ∧ (tA.toInt ≤ x_37.toInt) ∧ (-1 ≤ fl2_26.toInt) ∧ (0 = 0 ∨ 0 = 1) from ⟨(by first | assumption | omega | decide | exact rfl | exact zb01 (by omega) | exact Or.inl (by decide) | exact Or.inr (by first | omega | decide)), (by first | assumption | omega | decide | exact rfl | exact zb01 (by omega) | exact Or.inl (by decide) | exact Or.inr (by first | omega | decide)), hq28_2, (by decide)⟩) hP hD
            · skip
              refine lv_if_ne (tgt := 128) hx hb dX12_atom_117 (by decide) (fun c38 => absurd (by decide) c38) (fun _ => ?_)
              refine lv_aload_n hx hb dX12_atom_120 rfl (lv_at hl 3 rfl) ?_
              refine lv_aload_n hx hb dX12_atom_121 rfl (lv_at hl 3 rfl) ?_
              refine va_get (D := g.1) (ci := 10) (v := .int at2_33) (C := RX12) (T := TX12) (N := 20) hx hb hts izRX12 hown hK hP 0 rfl rfl 11 (by decide) (hts _ k878) (fun _ h9 => h9) rfl dX12_atom_122 ?_
              refine mcallV' (g := g) (q0 := 0) (ci := 10) (As := [.int at2_33]) (rest := []) St hK hT hA hP hD hS hl.1 [0] [] rfl rfl rfl (m_wrong l g o a th hi ac tp ba en at2_33 fl2_26 1 iD iO tU fm fk fa fc ft ff fb fi at2_33 (by first | assumption | omega | decide | exact Or.inl (by decide) | exact Or.inr (by decide)) hq28_2) (cwV 1 hts (zgL (zl4 k895 k896 k897 k839) k890) rfl rfl rfl (by decide +kernel) ⟨Nat.le_of_ble_eq_true rfl, Nat.le_of_ble_eq_true rfl⟩) rfl rfl rfl rfl (Nat.le_of_ble_eq_true rfl) dX12_atom_125 ⟨(Nat.le_of_ble_eq_true rfl), (Nat.le_of_ble_eq_true rfl)⟩ (fun fl2_39 H locs hq40 hP hD hS => ?_)
              replace hq40 : (0 ≤ fl2_39.toInt) := hq40
              have hP : va_P g.1 vwCl (List.flatten [bMo g o a th hi ac tp ba en at2_33 fl2_39 1 iD iO tU fm fk fa fc ft ff fb fi]) H := hP
              have hD : va_D A (List.flatten [bMo g o a th hi ac tp ba en at2_33 fl2_39 1 iD iO tU fm fk fa fc ft ff fb fi]) := hD
              refine W.widen (k := 0) (n := 0) (Nat.le_of_ble_eq_true rfl) (Nat.le_of_ble_eq_true rfl) ?_
              refine W.eq (g2 := F0 m 128 ls []) rfl ?_
              refine lv_aload_n hx hb dX12_atom_128 rfl (lv_at hl 3 rfl) ?_
              refine lv_dup hx hb dX12_atom_129 rfl ?_
              refine va_get (D := g.1) (ci := 10) (v := .int at2_33) (C := RX12) (T := TX12) (N := 20) hx hb hts izRX12 hown hK hP 0 rfl rfl 11 (by decide) (hts _ k878) (fun _ h9 => h9) rfl dX12_atom_130 ?_
              refine lv_iconst (v := 1) hx hb dX12_atom_133 (by decide) ?_
              refine lv_iadd hx hb dX12_atom_134 ?_
              refine zgv (zadd (i := at2_33.toInt) (j := 1) rfl (by decide) (by omega)) (fun x_41 hx_41 => ?_)
              refine va_put (D := g.1) (ci := 10) (v := .int x_41) (ty := .int) (C := RX12) (T := TX12) (N := 20) hx hb hts izRX12 tyX12 tyX12_ok nmX12 hown hK hP hD hS 0 rfl rfl 11 (by decide) (hts _ k878) (fun _ h9 => h9) rfl (by decide +kernel) rfl rfl (Nat.le_of_ble_eq_true rfl) dX12_atom_135 (fun H locs hP hD hS => ?_)
              have hP : va_P g.1 vwCl (List.flatten [bMo g o a th hi ac tp ba en x_41 fl2_39 1 iD iO tU fm fk fa fc ft ff fb fi]) H := hP
              have hD : va_D A (List.flatten [bMo g o a th hi ac tp ba en x_41 fl2_39 1 iD iO tU fm fk fa fc ft ff fb fi]) := hD
              refine lv_aload_n hx hb dX12_atom_138 rfl (lv_at hl 3 rfl) ?_
              refine lv_dup hx hb dX12_atom_139 rfl ?_
              refine va_get (D := g.1) (ci := 10) (v := .int 1) (C := RX12) (T := TX12) (N := 20) hx hb hts izRX12 hown hK hP 0 rfl rfl 13 (by decide) (hts _ k933) (fun _ h9 => h9) rfl dX12_atom_140 ?_
              refine lv_iconst (v := 1) hx hb dX12_atom_143 (by decide) ?_
              refine lv_isub hx hb dX12_atom_144 ?_
              refine ztop (r := 0) (by decide) ?_
              refine va_put (D := g.1) (ci := 10) (v := .int 0) (ty := .int) (C := RX12) (T := TX12) (N := 20) hx hb hts izRX12 tyX12 tyX12_ok nmX12 hown hK hP hD hS 0 rfl rfl 13 (by decide) (hts _ k933) (fun _ h9 => h9) rfl (by decide +kernel) rfl rfl (Nat.le_of_ble_eq_true rfl) dX12_atom_145 (fun H locs hP hD hS => ?_)
              have hP : va_P g.1 vwCl (List.flatten [bMo g o a th hi ac tp ba en x_41 fl2_39 0 iD iO tU fm fk fa fc ft ff fb fi]) H := hP
              have hD : va_D A (List.flatten [bMo g o a th hi ac tp ba en x_41 fl2_39 0 iD iO tU fm fk fa fc ft ff fb fi]) := hD
              refine lv_iload_n hx hb dX12_atom_148 rfl (lv_at hl 0 rfl) ?_
              have hP : va_P g.1 vwCl (List.flatten [bMo g o a th hi ac tp ba en x_41 fl2_39 0 iD iO tU fm fk fa fc ft ff fb fi]) H := hP
              have hD : va_D A (List.flatten [bMo g o a th hi ac tp ba en x_41 fl2_39 0 iD iO tU fm fk fa fc ft ff fb fi]) := hD
              exact mret_z hx hb hr hlocks hS (Nat.le_of_ble_eq_true rfl) (Nat.le_of_ble_eq_true rfl) dX12_atom_149 (x_41, fl2_39, (0 : Int32)) rfl (by decide) (show (0 ≤ x_41.toInt ∧ x_41.toInt ≤ en.toInt + 7 - 0) ∧ (tA.toInt ≤ x_41.toInt) ∧ (-1 ≤ fl2_39.toInt) ∧ (0 = 0 ∨ 0 = 1) from ⟨(by first | assumption | omega | decide | exact rfl | exact zb01 (by omega) | exact Or.inl (by decide) | exact Or.inr (by first | omega | decide)), (by first | assumption | omega | decide | exact rfl | exact zb01 (by omega) | exact Or.inl (by decide) | exact Or.inr (by first | omega | decide)), (by first | assumption | omega | decide | exact rfl | exact zb01 (by omega) | exact Or.inl (by decide) | exact Or.inr (by first | omega | decide)), (by decide)⟩) hP hD
        · skip
          refine lv_istore_n (lv' := [(3, .int 1), (2, .int 0), (1, .int at2_3), (0, .ref o)]) hx hb dX12_atom_102 rfl hl (by decide) rfl (fun ls hl => ?_)
          refine lv_aload_n hx hb dX12_atom_103 rfl (lv_at hl 3 rfl) ?_
          refine va_get (D := g.1) (ci := 10) (v := .int fl2_26) (C := RX12) (T := TX12) (N := 20) hx hb hts izRX12 hown hK hP 0 rfl rfl 12 (by decide) (hts _ k820) (fun _ h9 => h9) rfl dX12_atom_104 ?_
          refine lv_iconst (v := (-1)) hx hb dX12_atom_107 (by decide) ?_
          refine lv_icmp_ne (tgt := 128) hx hb dX12_atom_108 (by decide) (fun cb9 => ?_) (fun cb9 => ?_)
          · skip
            have c42 : ¬ fl2_26.toInt = (-1) := zne cb9 rfl (by decide)
            refine lv_aload_n hx hb dX12_atom_128 rfl (lv_at hl 3 rfl) ?_
            refine lv_dup hx hb dX12_atom_129 rfl ?_
            refine va_get (D := g.1) (ci := 10) (v := .int at2_25) (C := RX12) (T := TX12) (N := 20) hx hb hts izRX12 hown hK hP 0 rfl rfl 11 (by decide) (hts _ k878) (fun _ h9 => h9) rfl dX12_atom_130 ?_
            refine lv_iconst (v := 1) hx hb dX12_atom_133 (by decide) ?_
            refine lv_iadd hx hb dX12_atom_134 ?_
            refine zgv (zadd (i := at2_25.toInt) (j := 1) rfl (by decide) (by omega)) (fun x_43 hx_43 => ?_)
            refine va_put (D := g.1) (ci := 10) (v := .int x_43) (ty := .int) (C := RX12) (T := TX12) (N := 20) hx hb hts izRX12 tyX12 tyX12_ok nmX12 hown hK hP hD hS 0 rfl rfl 11 (by decide) (hts _ k878) (fun _ h9 => h9) rfl (by decide +kernel) rfl rfl (Nat.le_of_ble_eq_true rfl) dX12_atom_135 (fun H locs hP hD hS => ?_)
            have hP : va_P g.1 vwCl (List.flatten [bMo g o a th hi ac tp ba en x_43 fl2_26 1 iD iO tU fm fk fa fc ft ff fb fi]) H := hP
            have hD : va_D A (List.flatten [bMo g o a th hi ac tp ba en x_43 fl2_26 1 iD iO tU fm fk fa fc ft ff fb fi]) := hD
            refine lv_aload_n hx hb dX12_atom_138 rfl (lv_at hl 3 rfl) ?_
            refine lv_dup hx hb dX12_atom_139 rfl ?_
            refine va_get (D := g.1) (ci := 10) (v := .int 1) (C := RX12) (T := TX12) (N := 20) hx hb hts izRX12 hown hK hP 0 rfl rfl 13 (by decide) (hts _ k933) (fun _ h9 => h9) rfl dX12_atom_140 ?_
            refine lv_iconst (v := 1) hx hb dX12_atom_143 (by decide) ?_
            refine lv_isub hx hb dX12_atom_144 ?_
            refine ztop (r := 0) (by decide) ?_
            refine va_put (D := g.1) (ci := 10) (v := .int 0) (ty := .int) (C := RX12) (T := TX12) (N := 20) hx hb hts izRX12 tyX12 tyX12_ok nmX12 hown hK hP hD hS 0 rfl rfl 13 (by decide) (hts _ k933) (fun _ h9 => h9) rfl (by decide +kernel) rfl rfl (Nat.le_of_ble_eq_true rfl) dX12_atom_145 (fun H locs hP hD hS => ?_)
            have hP : va_P g.1 vwCl (List.flatten [bMo g o a th hi ac tp ba en x_43 fl2_26 0 iD iO tU fm fk fa fc ft ff fb fi]) H := hP
            have hD : va_D A (List.flatten [bMo g o a th hi ac tp ba en x_43 fl2_26 0 iD iO tU fm fk fa fc ft ff fb fi]) := hD
            refine lv_iload_n hx hb dX12_atom_148 rfl (lv_at hl 0 rfl) ?_
            have hP : va_P g.1 vwCl (List.flatten [bMo g o a th hi ac tp ba en x_43 fl2_26 0 iD iO tU fm fk fa fc ft ff fb fi]) H := hP
            have hD : va_D A (List.flatten [bMo g o a th hi ac tp ba en x_43 fl2_26 0 iD iO tU fm fk fa fc ft ff fb fi]) := hD
            exact mret_z hx hb hr hlocks hS (Nat.le_of_ble_eq_true rfl) (Nat.le_of_ble_eq_true rfl) dX12_atom_149 (x_43, fl2_26, (1 : Int32)) rfl (by decide) (show (0 ≤ x_43.toInt ∧ x_43.toInt ≤ en.toInt + 7 - 0) ∧ (tA.toInt ≤ x_43.toInt) ∧ (-1 ≤ fl2_26.toInt) ∧ (1 = 0 ∨ 1 = 1) from ⟨(by first | assumption | omega | decide | exact rfl | exact zb01 (by omega) | exact Or.inl (by decide) | exact Or.inr (by first | omega | decide)), (by first | assumption | omega | decide | exact rfl | exact zb01 (by omega) | exact Or.inl (by decide) | exact Or.inr (by first | omega | decide)), hq28_2, (by decide)⟩) hP hD
          · skip
            have c44 : fl2_26.toInt = (-1) := zeq cb9 rfl (by decide)
            have n45 : fl2_26.toInt ≤ (-1) := Int.le_trans (Int.le_of_eq c44) (Int.le_refl _)
            refine lv_aload_n hx hb dX12_atom_111 rfl (lv_at hl 3 rfl) ?_
            refine lv_bipush (v := 41) hx hb dX12_atom_112 (by decide) ?_
            have hL1 : (1 : Int32).toInt = 1 := by decide
            refine mcallV' (g := g) (q0 := 0) (ci := 10) (As := [.int 41]) (rest := []) St hK hT hA hP hD hS hl.1 [0] [] rfl rfl rfl (m_isSign l g o a th hi ac tp ba en at2_25 fl2_26 1 iD iO tU fm fk fa fc ft ff fb fi 41 hba hen (by first | assumption | omega | decide | exact Or.inl (by decide) | exact Or.inr (by decide)) hq28_2 (by decide)) (cwV 1 hts (zgL (zl4 k938 k939 k940 k839) k883) rfl rfl rfl (by decide +kernel) ⟨Nat.le_of_ble_eq_true rfl, Nat.le_of_ble_eq_true rfl⟩) rfl rfl rfl rfl (Nat.le_of_ble_eq_true rfl) dX12_atom_114 ⟨(Nat.le_of_ble_eq_true rfl), (Nat.le_of_ble_eq_true rfl)⟩ (fun u_ H locs hq48 hP hD hS => ?_)
            obtain ⟨at2_46, q_47⟩ := u_
            replace hq48 : (0 ≤ at2_46.toInt ∧ at2_46.toInt ≤ en.toInt + 7 - (1 : Int32).toInt) ∧ (at2_25.toInt ≤ at2_46.toInt) ∧ (q_47 = 1 ∧ at2_46.toInt < en.toInt ∨ q_47 = 0) := hq48
            have hP : va_P g.1 vwCl (List.flatten [bMo g o a th hi ac tp ba en at2_46 fl2_26 1 iD iO tU fm fk fa fc ft ff fb fi]) H := hP
            have hD : va_D A (List.flatten [bMo g o a th hi ac tp ba en at2_46 fl2_26 1 iD iO tU fm fk fa fc ft ff fb fi]) := hD
            refine W.widen (k := 0) (n := 0) (Nat.le_of_ble_eq_true rfl) (Nat.le_of_ble_eq_true rfl) ?_
            refine W.eq (g2 := F0 m 117 ls [.int q_47]) rfl ?_
            obtain ⟨hq48_0, hq48_1, hq48_2⟩ := hq48
            rcases hq48_2 with ⟨rfl, hq48_k⟩ | rfl
            · skip
              refine lv_if_ne (tgt := 128) hx hb dX12_atom_117 (by decide) (fun _ => ?_) (fun c49 => absurd c49 (by decide))
              refine lv_aload_n hx hb dX12_atom_128 rfl (lv_at hl 3 rfl) ?_
              refine lv_dup hx hb dX12_atom_129 rfl ?_
              refine va_get (D := g.1) (ci := 10) (v := .int at2_46) (C := RX12) (T := TX12) (N := 20) hx hb hts izRX12 hown hK hP 0 rfl rfl 11 (by decide) (hts _ k878) (fun _ h9 => h9) rfl dX12_atom_130 ?_
              refine lv_iconst (v := 1) hx hb dX12_atom_133 (by decide) ?_
              refine lv_iadd hx hb dX12_atom_134 ?_
              refine zgv (zadd (i := at2_46.toInt) (j := 1) rfl (by decide) (by omega)) (fun x_50 hx_50 => ?_)
              refine va_put (D := g.1) (ci := 10) (v := .int x_50) (ty := .int) (C := RX12) (T := TX12) (N := 20) hx hb hts izRX12 tyX12 tyX12_ok nmX12 hown hK hP hD hS 0 rfl rfl 11 (by decide) (hts _ k878) (fun _ h9 => h9) rfl (by decide +kernel) rfl rfl (Nat.le_of_ble_eq_true rfl) dX12_atom_135 (fun H locs hP hD hS => ?_)
              have hP : va_P g.1 vwCl (List.flatten [bMo g o a th hi ac tp ba en x_50 fl2_26 1 iD iO tU fm fk fa fc ft ff fb fi]) H := hP
              have hD : va_D A (List.flatten [bMo g o a th hi ac tp ba en x_50 fl2_26 1 iD iO tU fm fk fa fc ft ff fb fi]) := hD
              refine lv_aload_n hx hb dX12_atom_138 rfl (lv_at hl 3 rfl) ?_
              refine lv_dup hx hb dX12_atom_139 rfl ?_
              refine va_get (D := g.1) (ci := 10) (v := .int 1) (C := RX12) (T := TX12) (N := 20) hx hb hts izRX12 hown hK hP 0 rfl rfl 13 (by decide) (hts _ k933) (fun _ h9 => h9) rfl dX12_atom_140 ?_
              refine lv_iconst (v := 1) hx hb dX12_atom_143 (by decide) ?_
              refine lv_isub hx hb dX12_atom_144 ?_
              refine ztop (r := 0) (by decide) ?_
              refine va_put (D := g.1) (ci := 10) (v := .int 0) (ty := .int) (C := RX12) (T := TX12) (N := 20) hx hb hts izRX12 tyX12 tyX12_ok nmX12 hown hK hP hD hS 0 rfl rfl 13 (by decide) (hts _ k933) (fun _ h9 => h9) rfl (by decide +kernel) rfl rfl (Nat.le_of_ble_eq_true rfl) dX12_atom_145 (fun H locs hP hD hS => ?_)
              have hP : va_P g.1 vwCl (List.flatten [bMo g o a th hi ac tp ba en x_50 fl2_26 0 iD iO tU fm fk fa fc ft ff fb fi]) H := hP
              have hD : va_D A (List.flatten [bMo g o a th hi ac tp ba en x_50 fl2_26 0 iD iO tU fm fk fa fc ft ff fb fi]) := hD
              refine lv_iload_n hx hb dX12_atom_148 rfl (lv_at hl 0 rfl) ?_
              have hP : va_P g.1 vwCl (List.flatten [bMo g o a th hi ac tp ba en x_50 fl2_26 0 iD iO tU fm fk fa fc ft ff fb fi]) H := hP
              have hD : va_D A (List.flatten [bMo g o a th hi ac tp ba en x_50 fl2_26 0 iD iO tU fm fk fa fc ft ff fb fi]) := hD
              exact mret_z hx hb hr hlocks hS (Nat.le_of_ble_eq_true rfl) (Nat.le_of_ble_eq_true rfl) dX12_atom_149 (x_50, fl2_26, (1 : Int32)) rfl (by decide) (show (0 ≤ x_50.toInt ∧ x_50.toInt ≤ en.toInt + 7 - 0) ∧ (tA.toInt ≤ x_50.toInt) ∧ (-1 ≤ fl2_26.toInt) ∧ (1 = 0 ∨ 1 = 1) from ⟨(by first | assumption | omega | decide | exact rfl | exact zb01 (by omega) | exact Or.inl (by decide) | exact Or.inr (by first | omega | decide)), (by first | assumption | omega | decide | exact rfl | exact zb01 (by omega) | exact Or.inl (by decide) | exact Or.inr (by first | omega | decide)), hq28_2, (by decide)⟩) hP hD
            · skip
              refine lv_if_ne (tgt := 128) hx hb dX12_atom_117 (by decide) (fun c51 => absurd (by decide) c51) (fun _ => ?_)
              refine lv_aload_n hx hb dX12_atom_120 rfl (lv_at hl 3 rfl) ?_
              refine lv_aload_n hx hb dX12_atom_121 rfl (lv_at hl 3 rfl) ?_
              refine va_get (D := g.1) (ci := 10) (v := .int at2_46) (C := RX12) (T := TX12) (N := 20) hx hb hts izRX12 hown hK hP 0 rfl rfl 11 (by decide) (hts _ k878) (fun _ h9 => h9) rfl dX12_atom_122 ?_
              refine mcallV' (g := g) (q0 := 0) (ci := 10) (As := [.int at2_46]) (rest := []) St hK hT hA hP hD hS hl.1 [0] [] rfl rfl rfl (m_wrong l g o a th hi ac tp ba en at2_46 fl2_26 1 iD iO tU fm fk fa fc ft ff fb fi at2_46 (by first | assumption | omega | decide | exact Or.inl (by decide) | exact Or.inr (by decide)) hq28_2) (cwV 1 hts (zgL (zl4 k895 k896 k897 k839) k890) rfl rfl rfl (by decide +kernel) ⟨Nat.le_of_ble_eq_true rfl, Nat.le_of_ble_eq_true rfl⟩) rfl rfl rfl rfl (Nat.le_of_ble_eq_true rfl) dX12_atom_125 ⟨(Nat.le_of_ble_eq_true rfl), (Nat.le_of_ble_eq_true rfl)⟩ (fun fl2_52 H locs hq53 hP hD hS => ?_)
              replace hq53 : (0 ≤ fl2_52.toInt) := hq53
              have hP : va_P g.1 vwCl (List.flatten [bMo g o a th hi ac tp ba en at2_46 fl2_52 1 iD iO tU fm fk fa fc ft ff fb fi]) H := hP
              have hD : va_D A (List.flatten [bMo g o a th hi ac tp ba en at2_46 fl2_52 1 iD iO tU fm fk fa fc ft ff fb fi]) := hD
              refine W.widen (k := 0) (n := 0) (Nat.le_of_ble_eq_true rfl) (Nat.le_of_ble_eq_true rfl) ?_
              refine W.eq (g2 := F0 m 128 ls []) rfl ?_
              refine lv_aload_n hx hb dX12_atom_128 rfl (lv_at hl 3 rfl) ?_
              refine lv_dup hx hb dX12_atom_129 rfl ?_
              refine va_get (D := g.1) (ci := 10) (v := .int at2_46) (C := RX12) (T := TX12) (N := 20) hx hb hts izRX12 hown hK hP 0 rfl rfl 11 (by decide) (hts _ k878) (fun _ h9 => h9) rfl dX12_atom_130 ?_
              refine lv_iconst (v := 1) hx hb dX12_atom_133 (by decide) ?_
              refine lv_iadd hx hb dX12_atom_134 ?_
              refine zgv (zadd (i := at2_46.toInt) (j := 1) rfl (by decide) (by omega)) (fun x_54 hx_54 => ?_)
              refine va_put (D := g.1) (ci := 10) (v := .int x_54) (ty := .int) (C := RX12) (T := TX12) (N := 20) hx hb hts izRX12 tyX12 tyX12_ok nmX12 hown hK hP hD hS 0 rfl rfl 11 (by decide) (hts _ k878) (fun _ h9 => h9) rfl (by decide +kernel) rfl rfl (Nat.le_of_ble_eq_true rfl) dX12_atom_135 (fun H locs hP hD hS => ?_)
              have hP : va_P g.1 vwCl (List.flatten [bMo g o a th hi ac tp ba en x_54 fl2_52 1 iD iO tU fm fk fa fc ft ff fb fi]) H := hP
              have hD : va_D A (List.flatten [bMo g o a th hi ac tp ba en x_54 fl2_52 1 iD iO tU fm fk fa fc ft ff fb fi]) := hD
              refine lv_aload_n hx hb dX12_atom_138 rfl (lv_at hl 3 rfl) ?_
              refine lv_dup hx hb dX12_atom_139 rfl ?_
              refine va_get (D := g.1) (ci := 10) (v := .int 1) (C := RX12) (T := TX12) (N := 20) hx hb hts izRX12 hown hK hP 0 rfl rfl 13 (by decide) (hts _ k933) (fun _ h9 => h9) rfl dX12_atom_140 ?_
              refine lv_iconst (v := 1) hx hb dX12_atom_143 (by decide) ?_
              refine lv_isub hx hb dX12_atom_144 ?_
              refine ztop (r := 0) (by decide) ?_
              refine va_put (D := g.1) (ci := 10) (v := .int 0) (ty := .int) (C := RX12) (T := TX12) (N := 20) hx hb hts izRX12 tyX12 tyX12_ok nmX12 hown hK hP hD hS 0 rfl rfl 13 (by decide) (hts _ k933) (fun _ h9 => h9) rfl (by decide +kernel) rfl rfl (Nat.le_of_ble_eq_true rfl) dX12_atom_145 (fun H locs hP hD hS => ?_)
              have hP : va_P g.1 vwCl (List.flatten [bMo g o a th hi ac tp ba en x_54 fl2_52 0 iD iO tU fm fk fa fc ft ff fb fi]) H := hP
              have hD : va_D A (List.flatten [bMo g o a th hi ac tp ba en x_54 fl2_52 0 iD iO tU fm fk fa fc ft ff fb fi]) := hD
              refine lv_iload_n hx hb dX12_atom_148 rfl (lv_at hl 0 rfl) ?_
              have hP : va_P g.1 vwCl (List.flatten [bMo g o a th hi ac tp ba en x_54 fl2_52 0 iD iO tU fm fk fa fc ft ff fb fi]) H := hP
              have hD : va_D A (List.flatten [bMo g o a th hi ac tp ba en x_54 fl2_52 0 iD iO tU fm fk fa fc ft ff fb fi]) := hD
              exact mret_z hx hb hr hlocks hS (Nat.le_of_ble_eq_true rfl) (Nat.le_of_ble_eq_true rfl) dX12_atom_149 (x_54, fl2_52, (1 : Int32)) rfl (by decide) (show (0 ≤ x_54.toInt ∧ x_54.toInt ≤ en.toInt + 7 - 0) ∧ (tA.toInt ≤ x_54.toInt) ∧ (-1 ≤ fl2_52.toInt) ∧ (1 = 0 ∨ 1 = 1) from ⟨(by first | assumption | omega | decide | exact rfl | exact zb01 (by omega) | exact Or.inl (by decide) | exact Or.inr (by first | omega | decide)), (by first | assumption | omega | decide | exact rfl | exact zb01 (by omega) | exact Or.inl (by decide) | exact Or.inr (by first | omega | decide)), (by first | assumption | omega | decide | exact rfl | exact zb01 (by omega) | exact Or.inl (by decide) | exact Or.inr (by first | omega | decide)), (by decide)⟩) hP hD
      · skip
        refine lv_if_ne (tgt := 40) hx hb dX12_atom_32 (by decide) (fun c55 => absurd (by decide) c55) (fun _ => ?_)
        refine lv_aload_n hx hb dX12_atom_35 rfl (lv_at hl 2 rfl) ?_
        refine mcallV' (g := g) (q0 := 0) (ci := 10) (As := []) (rest := []) St hK hT hA hP hD hS hl.1 [0] [] rfl rfl rfl (m_plain l g o a th hi ac tp ba en at2_18 fl 0 iD iO tU fm fk fa fc ft ff fb fi hiD hiO hba hen hq20_0 hfl (by decide)) (cwV 0 hts (zgL (zl4 k948 k949 k950 k839) k947) rfl rfl rfl (by decide +kernel) ⟨Nat.le_of_ble_eq_true rfl, Nat.le_of_ble_eq_true rfl⟩) rfl rfl rfl rfl (Nat.le_of_ble_eq_true rfl) dX12_atom_36 ⟨(Nat.le_of_ble_eq_true rfl), (Nat.le_of_ble_eq_true rfl)⟩ (fun u_ H locs hq59 hP hD hS => ?_)
        obtain ⟨at2_56, fl2_57, q_58⟩ := u_
        replace hq59 : (0 ≤ at2_56.toInt ∧ at2_56.toInt ≤ en.toInt + 7 - (0 : Int32).toInt) ∧ (at2_18.toInt ≤ at2_56.toInt) ∧ (-1 ≤ fl2_57.toInt) ∧ (q_58 = 0 ∨ q_58 = 1) := hq59
        have hP : va_P g.1 vwCl (List.flatten [bMo g o a th hi ac tp ba en at2_56 fl2_57 0 iD iO tU fm fk fa fc ft ff fb fi]) H := hP
        have hD : va_D A (List.flatten [bMo g o a th hi ac tp ba en at2_56 fl2_57 0 iD iO tU fm fk fa fc ft ff fb fi]) := hD
        refine W.widen (k := 0) (n := 0) (Nat.le_of_ble_eq_true rfl) (Nat.le_of_ble_eq_true rfl) ?_
        refine W.eq (g2 := F0 m 39 ls [.int q_58]) rfl ?_
        obtain ⟨hq59_0, hq59_1, hq59_2, hq59_3⟩ := hq59
        rcases hq59_3 with rfl | rfl
        · skip
          have hP : va_P g.1 vwCl (List.flatten [bMo g o a th hi ac tp ba en at2_56 fl2_57 0 iD iO tU fm fk fa fc ft ff fb fi]) H := hP
          have hD : va_D A (List.flatten [bMo g o a th hi ac tp ba en at2_56 fl2_57 0 iD iO tU fm fk fa fc ft ff fb fi]) := hD
          exact mret_z hx hb hr hlocks hS (Nat.le_of_ble_eq_true rfl) (Nat.le_of_ble_eq_true rfl) dX12_atom_39 (at2_56, fl2_57, (0 : Int32)) rfl (by decide) (show (0 ≤ at2_56.toInt ∧ at2_56.toInt ≤ en.toInt + 7 - 0) ∧ (tA.toInt ≤ at2_56.toInt) ∧ (-1 ≤ fl2_57.toInt) ∧ (0 = 0 ∨ 0 = 1) from ⟨(by first | assumption | omega | decide | exact rfl | exact zb01 (by omega) | exact Or.inl (by decide) | exact Or.inr (by first | omega | decide)), (by first | assumption | omega | decide | exact rfl | exact zb01 (by omega) | exact Or.inl (by decide) | exact Or.inr (by first | omega | decide)), hq59_2, (by decide)⟩) hP hD
        · skip
          have hP : va_P g.1 vwCl (List.flatten [bMo g o a th hi ac tp ba en at2_56 fl2_57 0 iD iO tU fm fk fa fc ft ff fb fi]) H := hP
          have hD : va_D A (List.flatten [bMo g o a th hi ac tp ba en at2_56 fl2_57 0 iD iO tU fm fk fa fc ft ff fb fi]) := hD
          exact mret_z hx hb hr hlocks hS (Nat.le_of_ble_eq_true rfl) (Nat.le_of_ble_eq_true rfl) dX12_atom_39 (at2_56, fl2_57, (1 : Int32)) rfl (by decide) (show (0 ≤ at2_56.toInt ∧ at2_56.toInt ≤ en.toInt + 7 - 0) ∧ (tA.toInt ≤ at2_56.toInt) ∧ (-1 ≤ fl2_57.toInt) ∧ (1 = 0 ∨ 1 = 1) from ⟨(by first | assumption | omega | decide | exact rfl | exact zb01 (by omega) | exact Or.inl (by decide) | exact Or.inr (by first | omega | decide)), (by first | assumption | omega | decide | exact rfl | exact zb01 (by omega) | exact Or.inl (by decide) | exact Or.inr (by first | omega | decide)), hq59_2, (by decide)⟩) hP hD
  · skip
    have c60 : ¬ fl.toInt = (-1) := zne cb9 rfl (by decide)
    refine lv_iconst (v := 0) hx hb dX12_atom_8 (by decide) ?_
    have hP : va_P g.1 vwCl (List.flatten [bMo g o a th hi ac tp ba en tA fl 0 iD iO tU fm fk fa fc ft ff fb fi]) s.heap := hP
    have hD : va_D A (List.flatten [bMo g o a th hi ac tp ba en tA fl 0 iD iO tU fm fk fa fc ft ff fb fi]) := hD
    exact mret_z hx hb hr hlocks hS (Nat.le_of_ble_eq_true rfl) (Nat.le_of_ble_eq_true rfl) dX12_atom_9 (tA, fl, (0 : Int32)) rfl (by decide) (show (0 ≤ tA.toInt ∧ tA.toInt ≤ en.toInt + 7 - 0) ∧ (tA.toInt ≤ tA.toInt) ∧ (-1 ≤ fl.toInt) ∧ (0 = 0 ∨ 0 = 1) from ⟨htA, (by first | assumption | omega | decide | exact rfl | exact zb01 (by omega) | exact Or.inl (by decide) | exact Or.inr (by first | omega | decide)), hfl, (by decide)⟩) hP hD
set_option maxRecDepth 100000 in
set_option maxHeartbeats 4000000 in
theorem m_every0 (l : Launch) (g : zG) (o : Nat) (a : Nat → Nat) (th : Int32) (hi : Int32) (ac : Int32) (tp : Int32) (ba : Int32) (en : Int32) (tA : Int32) (fl : Int32) (iD : Int32) (iO : Int32) (tU : Int32) (fm : Nat → Int32) (fk : Nat → Int32) (fa : Nat → Int32) (fc : Nat → Int32) (ft : Nat → Int32) (ff : Nat → Int32) (fb : Nat → Int32) (fi : Nat → Int32) (hiD : 0 ≤ iD.toInt ∧ iD.toInt ≤ 1) (hiO : 0 ≤ iO.toInt ∧ iO.toInt ≤ 1) (hba : zBa ba.toInt) (hen : 0 ≤ en.toInt ∧ en.toInt ≤ 400) (htA : 0 ≤ tA.toInt ∧ tA.toInt ≤ en.toInt + 7 - 0) (hfl : -1 ≤ fl.toInt) (hde : 0 ≤ 0 ∧ 0 ≤ 6) : zM' g l yX12_every (Cond.code yX12_every cX12_every 3 (some .boolean) :: zB) ({ frames := 27, cells := 0, slots := 0, locals := 598 } : Room) [.ref o] [bMo g o a th hi ac tp ba en tA fl 0 iD iO tU fm fk fa fc ft ff fb fi] (fun u : Int32 × Int32 × Int32 => (fun (at2 : Int32) (fl2 : Int32) (q : Int32) => some (.int q)) (u.1) (u.2.1) (u.2.2)) (fun u : Int32 × Int32 × Int32 => (fun (at2 : Int32) (fl2 : Int32) (q : Int32) => (0 ≤ at2.toInt ∧ at2.toInt ≤ en.toInt + 7 - 0) ∧ (tA.toInt ≤ at2.toInt) ∧ (-1 ≤ fl2.toInt) ∧ (q = 0 ∨ q = 1)) (u.1) (u.2.1) (u.2.2)) (fun u : Int32 × Int32 × Int32 => (fun (at2 : Int32) (fl2 : Int32) (q : Int32) => [bMo g o a th hi ac tp ba en at2 fl2 0 iD iO tU fm fk fa fc ft ff fb fi]) (u.1) (u.2.1) (u.2.2)) := by
  refine zM'.of (cc := cX12_every) (maxL := 3) (rt := (some .boolean)) (by decide) rfl (Nat.le_of_ble_eq_true rfl) ?_
  intro p e s m args below meth c A ls St hr hlocks hin hK hT hA hP hD hS hl
  obtain ⟨hx, hb, hml, hown, hts⟩ := id St
  have hl : lv_has ls 3 [(0, .ref o)] := hl
  refine lv_aload_n hx hb dX12_every_0 rfl (lv_at hl 0 rfl) ?_
  refine mcallV' (g := g) (q0 := 0) (ci := 10) (As := []) (rest := []) St hK hT hA hP hD hS hl.1 [0] [] rfl rfl rfl (m_atom0 l g o a th hi ac tp ba en tA fl iD iO tU fm fk fa fc ft ff fb fi hiD hiO hba hen htA hfl hde) (cwV 0 hts (zgL (zl4 k951 k952 k953 k839) k962) rfl rfl rfl (by decide +kernel) ⟨Nat.le_of_ble_eq_true rfl, Nat.le_of_ble_eq_true rfl⟩) rfl rfl rfl rfl (Nat.le_of_ble_eq_true rfl) dX12_every_1 ⟨(Nat.le_of_ble_eq_true rfl), (Nat.le_of_ble_eq_true rfl)⟩ (fun u_ H locs hq4 hP hD hS => ?_)
  obtain ⟨at2_1, fl2_2, q_3⟩ := u_
  replace hq4 : (0 ≤ at2_1.toInt ∧ at2_1.toInt ≤ en.toInt + 7 - 0) ∧ (tA.toInt ≤ at2_1.toInt) ∧ (-1 ≤ fl2_2.toInt) ∧ (q_3 = 0 ∨ q_3 = 1) := hq4
  have hP : va_P g.1 vwCl (List.flatten [bMo g o a th hi ac tp ba en at2_1 fl2_2 0 iD iO tU fm fk fa fc ft ff fb fi]) H := hP
  have hD : va_D A (List.flatten [bMo g o a th hi ac tp ba en at2_1 fl2_2 0 iD iO tU fm fk fa fc ft ff fb fi]) := hD
  refine W.widen (k := 0) (n := 0) (Nat.le_of_ble_eq_true rfl) (Nat.le_of_ble_eq_true rfl) ?_
  refine W.eq (g2 := F0 m 4 ls [.int q_3]) rfl ?_
  obtain ⟨hq4_0, hq4_1, hq4_2, hq4_3⟩ := hq4
  rcases hq4_3 with rfl | rfl
  · skip
    refine lv_istore_n (lv' := [(1, .int 0), (0, .ref o)]) hx hb dX12_every_4 rfl hl (by decide) rfl (fun ls hl => ?_)
    have hl := lv_sub (l' := [(0, .ref o), (1, .int 0)]) hl [1, 0] rfl
    have LP5_14 : ∀ (kf : Nat) (x_5 : Int32) (x_6 : Int32) (x_7 : Int32), (0 ≤ x_5.toInt ∧ x_5.toInt ≤ 1) → (0 ≤ x_6.toInt ∧ x_6.toInt ≤ 407) → ((-1) ≤ x_7.toInt) → (tA.toInt ≤ x_6.toInt) → (x_6.toInt ≤ en.toInt + 7 - 0) → (-1 ≤ x_7.toInt) → ∀ (H : Heap) (locs : List Loc) (ls : Array Slot), ((en.toInt + 8 - x_6.toInt).toNat) < kf → va_P g.1 vwCl (List.flatten [bMo g o a th hi ac tp ba en x_6 x_7 0 iD iO tU fm fk fa fc ft ff fb fi]) H → va_D A (List.flatten [bMo g o a th hi ac tp ba en x_6 x_7 0 iD iO tU fm fk fa fc ft ff fb fi]) → va_S A s.heap H locs → lv_has ls 3 [(0, .ref o), (1, .int x_5)] → W p l e ({ frames := 27, cells := 0, slots := 0, locals := 598 } : Room) s m args below meth c H locs (0) (0) (zF g (fun u : Int32 × Int32 × Int32 => (fun (at2 : Int32) (fl2 : Int32) (q : Int32) => some (.int q)) (u.1) (u.2.1) (u.2.2)) (fun u : Int32 × Int32 × Int32 => (fun (at2 : Int32) (fl2 : Int32) (q : Int32) => (0 ≤ at2.toInt ∧ at2.toInt ≤ en.toInt + 7 - 0) ∧ (tA.toInt ≤ at2.toInt) ∧ (-1 ≤ fl2.toInt) ∧ (q = 0 ∨ q = 1)) (u.1) (u.2.1) (u.2.2)) (fun u : Int32 × Int32 × Int32 => (fun (at2 : Int32) (fl2 : Int32) (q : Int32) => [bMo g o a th hi ac tp ba en at2 fl2 0 iD iO tU fm fk fa fc ft ff fb fi]) (u.1) (u.2.1) (u.2.2)) ({ frames := 27, cells := 0, slots := 0, locals := 598 } : Room) below args s A) (F0 m 5 ls []) := by
      intro kf
      induction kf with
      | zero => intro x_5 x_6 x_7 i8 i9 i10 i11 i12 i13 H locs ls hk; exact absurd hk (Nat.not_lt_zero _)
      | succ kf ih5_15 =>
        intro x_5 x_6 x_7 i8 i9 i10 i11 i12 i13 H locs ls hk5_15 hP hD hS hl
        refine lv_aload_n hx hb dX12_every_5 rfl (lv_at hl 0 rfl) ?_
        refine va_get (D := g.1) (ci := 10) (v := .int x_7) (C := RX12) (T := TX12) (N := 20) hx hb hts izRX12 hown hK hP 0 rfl rfl 12 (by decide) (hts _ k820) (fun _ h9 => h9) rfl dX12_every_6 ?_
        refine lv_iconst (v := (-1)) hx hb dX12_every_9 (by decide) ?_
        refine lv_icmp_ne (tgt := 44) hx hb dX12_every_10 (by decide) (fun cb9 => ?_) (fun cb9 => ?_)
        · skip
          have c16 : ¬ x_7.toInt = (-1) := zne cb9 rfl (by decide)
          have n17 : 0 ≤ x_7.toInt := zN1 c16 i10 (by decide)
          refine lv_iload_n hx hb dX12_every_44 rfl (lv_at hl 1 rfl) ?_
          have hP : va_P g.1 vwCl (List.flatten [bMo g o a th hi ac tp ba en x_6 x_7 0 iD iO tU fm fk fa fc ft ff fb fi]) H := hP
          have hD : va_D A (List.flatten [bMo g o a th hi ac tp ba en x_6 x_7 0 iD iO tU fm fk fa fc ft ff fb fi]) := hD
          exact mret_z hx hb hr hlocks hS (Nat.le_of_ble_eq_true rfl) (Nat.le_of_ble_eq_true rfl) dX12_every_45 (x_6, x_7, x_5) rfl (by first | assumption | exact zb01 (by omega)) (show (0 ≤ x_6.toInt ∧ x_6.toInt ≤ en.toInt + 7 - 0) ∧ (tA.toInt ≤ x_6.toInt) ∧ (-1 ≤ x_7.toInt) ∧ (x_5 = 0 ∨ x_5 = 1) from ⟨(by first | assumption | omega | decide | exact rfl | exact zb01 (by omega) | exact Or.inl (by decide) | exact Or.inr (by first | omega | decide)), i11, i13, (by first | assumption | omega | decide | exact rfl | exact zb01 (by omega) | exact Or.inl (by decide) | exact Or.inr (by first | omega | decide))⟩) hP hD
        · skip
          have c18 : x_7.toInt = (-1) := zeq cb9 rfl (by decide)
          have n19 : x_7.toInt ≤ (-1) := Int.le_trans (Int.le_of_eq c18) (Int.le_refl _)
          refine lv_aload_n hx hb dX12_every_13 rfl (lv_at hl 0 rfl) ?_
          refine va_ldcS (q := g.2 100) hx hb hown (zra45 hT.2.1) dX12_every_14 ?_
          have hL0 : (0 : Int32).toInt = 0 := by decide
          refine mcallV' (g := g) (q0 := 0) (ci := 10) (As := [.ref (g.2 100)]) (rest := []) St hK hT hA hP hD hS hl.1 [0] [] rfl rfl rfl (m_has l g o a th hi ac tp ba en x_6 x_7 0 iD iO tU fm fk fa fc ft ff fb fi (g.2 100) 45 zqa45 hba hen (by first | assumption | omega | decide | exact Or.inl (by decide) | exact Or.inr (by decide)) i13 (by decide) rfl zla45 zna45) (cwV 1 hts (zgL (zl4 k899 k900 k901 k839) k889) rfl rfl rfl (by decide +kernel) ⟨Nat.le_of_ble_eq_true rfl, Nat.le_of_ble_eq_true rfl⟩) rfl rfl rfl rfl (Nat.le_of_ble_eq_true rfl) dX12_every_16 ⟨(Nat.le_of_ble_eq_true rfl), (Nat.le_of_ble_eq_true rfl)⟩ (fun u_ H locs hq22 hP hD hS => ?_)
          obtain ⟨at2_20, r_21⟩ := u_
          replace hq22 : (0 ≤ at2_20.toInt ∧ at2_20.toInt ≤ en.toInt + 7 - (0 : Int32).toInt) ∧ (x_6.toInt ≤ at2_20.toInt) ∧ (r_21 = 1 ∧ x_6.toInt < at2_20.toInt ∧ at2_20.toInt ≤ en.toInt ∨ r_21 = 0) := hq22
          have hP : va_P g.1 vwCl (List.flatten [bMo g o a th hi ac tp ba en at2_20 x_7 0 iD iO tU fm fk fa fc ft ff fb fi]) H := hP
          have hD : va_D A (List.flatten [bMo g o a th hi ac tp ba en at2_20 x_7 0 iD iO tU fm fk fa fc ft ff fb fi]) := hD
          refine W.widen (k := 0) (n := 0) (Nat.le_of_ble_eq_true rfl) (Nat.le_of_ble_eq_true rfl) ?_
          refine W.eq (g2 := F0 m 19 ls [.int r_21]) rfl ?_
          obtain ⟨hq22_0, hq22_1, hq22_2⟩ := hq22
          rcases hq22_2 with ⟨rfl, hq22_k⟩ | rfl
          · skip
            refine lv_if_eq (tgt := 44) hx hb dX12_every_19 (by decide) (fun c23 => absurd c23 (by decide)) (fun _ => ?_)
            refine lv_aload_n hx hb dX12_every_22 rfl (lv_at hl 0 rfl) ?_
            refine mcallV' (g := g) (q0 := 0) (ci := 10) (As := []) (rest := []) St hK hT hA hP hD hS hl.1 [0] [] rfl rfl rfl (m_atom0 l g o a th hi ac tp ba en at2_20 x_7 iD iO tU fm fk fa fc ft ff fb fi hiD hiO hba hen (by first | assumption | omega | decide | exact Or.inl (by decide) | exact Or.inr (by decide)) i13 hde) (cwV 0 hts (zgL (zl4 k951 k952 k953 k839) k962) rfl rfl rfl (by decide +kernel) ⟨Nat.le_of_ble_eq_true rfl, Nat.le_of_ble_eq_true rfl⟩) rfl rfl rfl rfl (Nat.le_of_ble_eq_true rfl) dX12_every_23 ⟨(Nat.le_of_ble_eq_true rfl), (Nat.le_of_ble_eq_true rfl)⟩ (fun u_ H locs hq27 hP hD hS => ?_)
            obtain ⟨at2_24, fl2_25, q_26⟩ := u_
            replace hq27 : (0 ≤ at2_24.toInt ∧ at2_24.toInt ≤ en.toInt + 7 - 0) ∧ (at2_20.toInt ≤ at2_24.toInt) ∧ (-1 ≤ fl2_25.toInt) ∧ (q_26 = 0 ∨ q_26 = 1) := hq27
            have hP : va_P g.1 vwCl (List.flatten [bMo g o a th hi ac tp ba en at2_24 fl2_25 0 iD iO tU fm fk fa fc ft ff fb fi]) H := hP
            have hD : va_D A (List.flatten [bMo g o a th hi ac tp ba en at2_24 fl2_25 0 iD iO tU fm fk fa fc ft ff fb fi]) := hD
            refine W.widen (k := 0) (n := 0) (Nat.le_of_ble_eq_true rfl) (Nat.le_of_ble_eq_true rfl) ?_
            refine W.eq (g2 := F0 m 26 ls [.int q_26]) rfl ?_
            obtain ⟨hq27_0, hq27_1, hq27_2, hq27_3⟩ := hq27
            rcases hq27_3 with rfl | rfl
            · skip
              refine lv_istore_n (lv' := [(2, .int 0), (0, .ref o), (1, .int x_5)]) hx hb dX12_every_26 rfl hl (by decide) rfl (fun ls hl => ?_)
              refine lv_iload_n hx hb dX12_every_27 rfl (lv_at hl 2 rfl) ?_
              refine lv_if_eq (tgt := 39) hx hb dX12_every_28 (by decide) (fun cb9 => ?_) (fun cb9 => ?_)
              · skip
                have c28 : x_5.toInt = 0 := zeq cb9 rfl (by decide)
                have n29 : x_5.toInt ≤ 0 := Int.le_trans (Int.le_of_eq c28) (Int.le_refl _)
                refine lv_iconst (v := 0) hx hb dX12_every_39 (by decide) ?_
                refine lv_istore_n (lv' := [(1, .int 0), (2, .int 0), (0, .ref o)]) hx hb dX12_every_40 rfl hl (by decide) rfl (fun ls hl => ?_)
                refine lv_goto (tgt := 5) hx hb dX12_every_41 (by decide) ?_
                have hl := lv_sub (l' := [(0, .ref o), (1, .int 0), (2, .int 0)]) hl [2, 0, 1] rfl
                have hP : va_P g.1 vwCl (List.flatten [bMo g o a th hi ac tp ba en at2_24 fl2_25 0 iD iO tU fm fk fa fc ft ff fb fi]) H := hP
                have hD : va_D A (List.flatten [bMo g o a th hi ac tp ba en at2_24 fl2_25 0 iD iO tU fm fk fa fc ft ff fb fi]) := hD
                exact ih5_15 0 at2_24 fl2_25 (by decide) (by first | omega | assumption | decide) (by first | omega | assumption | decide) (by first | omega | assumption | decide) (by first | omega | assumption | decide) hq27_2 H _ ls (by omega)  hP hD hS (lv_sub hl [0, 1] rfl)
              · skip
                have c30 : ¬ x_5.toInt = 0 := zne cb9 rfl (by decide)
                have n31 : 1 ≤ x_5.toInt := zN1 c30 i8.1 (by decide)
                refine lv_iload_n hx hb dX12_every_31 rfl (lv_at hl 0 rfl) ?_
                refine lv_if_eq (tgt := 39) hx hb dX12_every_32 (by decide) (fun _ => ?_) (fun c32 => absurd (by decide) c32)
                refine lv_iconst (v := 0) hx hb dX12_every_39 (by decide) ?_
                refine lv_istore_n (lv' := [(1, .int 0), (2, .int 0), (0, .ref o)]) hx hb dX12_every_40 rfl hl (by decide) rfl (fun ls hl => ?_)
                refine lv_goto (tgt := 5) hx hb dX12_every_41 (by decide) ?_
                have hl := lv_sub (l' := [(0, .ref o), (1, .int 0), (2, .int 0)]) hl [2, 0, 1] rfl
                have hP : va_P g.1 vwCl (List.flatten [bMo g o a th hi ac tp ba en at2_24 fl2_25 0 iD iO tU fm fk fa fc ft ff fb fi]) H := hP
                have hD : va_D A (List.flatten [bMo g o a th hi ac tp ba en at2_24 fl2_25 0 iD iO tU fm fk fa fc ft ff fb fi]) := hD
                exact ih5_15 0 at2_24 fl2_25 (by decide) (by first | omega | assumption | decide) (by first | omega | assumption | decide) (by first | omega | assumption | decide) (by first | omega | assumption | decide) hq27_2 H _ ls (by omega)  hP hD hS (lv_sub hl [0, 1] rfl)
            · skip
              refine lv_istore_n (lv' := [(2, .int 1), (0, .ref o), (1, .int x_5)]) hx hb dX12_every_26 rfl hl (by decide) rfl (fun ls hl => ?_)
              refine lv_iload_n hx hb dX12_every_27 rfl (lv_at hl 2 rfl) ?_
              refine lv_if_eq (tgt := 39) hx hb dX12_every_28 (by decide) (fun cb9 => ?_) (fun cb9 => ?_)
              · skip
                have c33 : x_5.toInt = 0 := zeq cb9 rfl (by decide)
                have n34 : x_5.toInt ≤ 0 := Int.le_trans (Int.le_of_eq c33) (Int.le_refl _)
                refine lv_iconst (v := 0) hx hb dX12_every_39 (by decide) ?_
                refine lv_istore_n (lv' := [(1, .int 0), (2, .int 1), (0, .ref o)]) hx hb dX12_every_40 rfl hl (by decide) rfl (fun ls hl => ?_)
                refine lv_goto (tgt := 5) hx hb dX12_every_41 (by decide) ?_
                have hl := lv_sub (l' := [(0, .ref o), (1, .int 0), (2, .int 1)]) hl [2, 0, 1] rfl
                have hP : va_P g.1 vwCl (List.flatten [bMo g o a th hi ac tp ba en at2_24 fl2_25 0 iD iO tU fm fk fa fc ft ff fb fi]) H := hP
                have hD : va_D A (List.flatten [bMo g o a th hi ac tp ba en at2_24 fl2_25 0 iD iO tU fm fk fa fc ft ff fb fi]) := hD
                exact ih5_15 0 at2_24 fl2_25 (by decide) (by first | omega | assumption | decide) (by first | omega | assumption | decide) (by first | omega | assumption | decide) (by first | omega | assumption | decide) hq27_2 H _ ls (by omega)  hP hD hS (lv_sub hl [0, 1] rfl)
              · skip
                have c35 : ¬ x_5.toInt = 0 := zne cb9 rfl (by decide)
                have n36 : 1 ≤ x_5.toInt := zN1 c35 i8.1 (by decide)
                refine lv_iload_n hx hb dX12_every_31 rfl (lv_at hl 0 rfl) ?_
                refine lv_if_eq (tgt := 39) hx hb dX12_every_32 (by decide) (fun c37 => absurd c37 (by decide)) (fun _ => ?_)
                refine lv_iconst (v := 1) hx hb dX12_every_35 (by decide) ?_
                refine lv_goto (tgt := 40) hx hb dX12_every_36 (by decide) ?_
                refine lv_istore_n (lv' := [(1, .int 1), (2, .int 1), (0, .ref o)]) hx hb dX12_every_40 rfl hl (by decide) rfl (fun ls hl => ?_)
                refine lv_goto (tgt := 5) hx hb dX12_every_41 (by decide) ?_
                have hl := lv_sub (l' := [(0, .ref o), (1, .int 1), (2, .int 1)]) hl [2, 0, 1] rfl
                have hL1 : (1 : Int32).toInt = 1 := by decide
                have hP : va_P g.1 vwCl (List.flatten [bMo g o a th hi ac tp ba en at2_24 fl2_25 0 iD iO tU fm fk fa fc ft ff fb fi]) H := hP
                have hD : va_D A (List.flatten [bMo g o a th hi ac tp ba en at2_24 fl2_25 0 iD iO tU fm fk fa fc ft ff fb fi]) := hD
                exact ih5_15 1 at2_24 fl2_25 (by decide) (by first | omega | assumption | decide) (by first | omega | assumption | decide) (by first | omega | assumption | decide) (by first | omega | assumption | decide) hq27_2 H _ ls (by omega)  hP hD hS (lv_sub hl [0, 1] rfl)
          · skip
            refine lv_if_eq (tgt := 44) hx hb dX12_every_19 (by decide) (fun _ => ?_) (fun c38 => absurd (by decide) c38)
            refine lv_iload_n hx hb dX12_every_44 rfl (lv_at hl 1 rfl) ?_
            have hP : va_P g.1 vwCl (List.flatten [bMo g o a th hi ac tp ba en at2_20 x_7 0 iD iO tU fm fk fa fc ft ff fb fi]) H := hP
            have hD : va_D A (List.flatten [bMo g o a th hi ac tp ba en at2_20 x_7 0 iD iO tU fm fk fa fc ft ff fb fi]) := hD
            exact mret_z hx hb hr hlocks hS (Nat.le_of_ble_eq_true rfl) (Nat.le_of_ble_eq_true rfl) dX12_every_45 (at2_20, x_7, x_5) rfl (by first | assumption | exact zb01 (by omega)) (show (0 ≤ at2_20.toInt ∧ at2_20.toInt ≤ en.toInt + 7 - 0) ∧ (tA.toInt ≤ at2_20.toInt) ∧ (-1 ≤ x_7.toInt) ∧ (x_5 = 0 ∨ x_5 = 1) from ⟨(by first | assumption | omega | decide | exact rfl | exact zb01 (by omega) | exact Or.inl (by decide) | exact Or.inr (by first | omega | decide)), (by first | assumption | omega | decide | exact rfl | exact zb01 (by omega) | exact Or.inl (by decide) | exact Or.inr (by first | omega | decide)), i13, (by first | assumption | omega | decide | exact rfl | exact zb01 (by omega) | exact Or.inl (by decide) | exact Or.inr (by first | omega | decide))⟩) hP hD
    have hL0 : (0 : Int32).toInt = 0 := by decide
    have hP : va_P g.1 vwCl (List.flatten [bMo g o a th hi ac tp ba en at2_1 fl2_2 0 iD iO tU fm fk fa fc ft ff fb fi]) H := hP
    have hD : va_D A (List.flatten [bMo g o a th hi ac tp ba en at2_1 fl2_2 0 iD iO tU fm fk fa fc ft ff fb fi]) := hD
    exact LP5_14 _ 0 at2_1 fl2_2 (by decide) (by first | omega | assumption | decide) (by first | omega | assumption | decide) hq4_1 (by first | omega | assumption | decide) hq4_2 H _ ls (Nat.lt_succ_self _)  hP hD hS (lv_sub hl [0, 1] rfl)
  · skip
    refine lv_istore_n (lv' := [(1, .int 1), (0, .ref o)]) hx hb dX12_every_4 rfl hl (by decide) rfl (fun ls hl => ?_)
    have hl := lv_sub (l' := [(0, .ref o), (1, .int 1)]) hl [1, 0] rfl
    have LP5_48 : ∀ (kf : Nat) (x_39 : Int32) (x_40 : Int32) (x_41 : Int32), (0 ≤ x_39.toInt ∧ x_39.toInt ≤ 1) → (0 ≤ x_40.toInt ∧ x_40.toInt ≤ 407) → ((-1) ≤ x_41.toInt) → (tA.toInt ≤ x_40.toInt) → (x_40.toInt ≤ en.toInt + 7 - 0) → (-1 ≤ x_41.toInt) → ∀ (H : Heap) (locs : List Loc) (ls : Array Slot), ((en.toInt + 8 - x_40.toInt).toNat) < kf → va_P g.1 vwCl (List.flatten [bMo g o a th hi ac tp ba en x_40 x_41 0 iD iO tU fm fk fa fc ft ff fb fi]) H → va_D A (List.flatten [bMo g o a th hi ac tp ba en x_40 x_41 0 iD iO tU fm fk fa fc ft ff fb fi]) → va_S A s.heap H locs → lv_has ls 3 [(0, .ref o), (1, .int x_39)] → W p l e ({ frames := 27, cells := 0, slots := 0, locals := 598 } : Room) s m args below meth c H locs (0) (0) (zF g (fun u : Int32 × Int32 × Int32 => (fun (at2 : Int32) (fl2 : Int32) (q : Int32) => some (.int q)) (u.1) (u.2.1) (u.2.2)) (fun u : Int32 × Int32 × Int32 => (fun (at2 : Int32) (fl2 : Int32) (q : Int32) => (0 ≤ at2.toInt ∧ at2.toInt ≤ en.toInt + 7 - 0) ∧ (tA.toInt ≤ at2.toInt) ∧ (-1 ≤ fl2.toInt) ∧ (q = 0 ∨ q = 1)) (u.1) (u.2.1) (u.2.2)) (fun u : Int32 × Int32 × Int32 => (fun (at2 : Int32) (fl2 : Int32) (q : Int32) => [bMo g o a th hi ac tp ba en at2 fl2 0 iD iO tU fm fk fa fc ft ff fb fi]) (u.1) (u.2.1) (u.2.2)) ({ frames := 27, cells := 0, slots := 0, locals := 598 } : Room) below args s A) (F0 m 5 ls []) := by
      intro kf
      induction kf with
      | zero => intro x_39 x_40 x_41 i42 i43 i44 i45 i46 i47 H locs ls hk; exact absurd hk (Nat.not_lt_zero _)
      | succ kf ih5_49 =>
        intro x_39 x_40 x_41 i42 i43 i44 i45 i46 i47 H locs ls hk5_49 hP hD hS hl
        refine lv_aload_n hx hb dX12_every_5 rfl (lv_at hl 0 rfl) ?_
        refine va_get (D := g.1) (ci := 10) (v := .int x_41) (C := RX12) (T := TX12) (N := 20) hx hb hts izRX12 hown hK hP 0 rfl rfl 12 (by decide) (hts _ k820) (fun _ h9 => h9) rfl dX12_every_6 ?_
        refine lv_iconst (v := (-1)) hx hb dX12_every_9 (by decide) ?_
        refine lv_icmp_ne (tgt := 44) hx hb dX12_every_10 (by decide) (fun cb9 => ?_) (fun cb9 => ?_)
        · skip
          have c50 : ¬ x_41.toInt = (-1) := zne cb9 rfl (by decide)
          have n51 : 0 ≤ x_41.toInt := zN1 c50 i44 (by decide)
          refine lv_iload_n hx hb dX12_every_44 rfl (lv_at hl 1 rfl) ?_
          have hP : va_P g.1 vwCl (List.flatten [bMo g o a th hi ac tp ba en x_40 x_41 0 iD iO tU fm fk fa fc ft ff fb fi]) H := hP
          have hD : va_D A (List.flatten [bMo g o a th hi ac tp ba en x_40 x_41 0 iD iO tU fm fk fa fc ft ff fb fi]) := hD
          exact mret_z hx hb hr hlocks hS (Nat.le_of_ble_eq_true rfl) (Nat.le_of_ble_eq_true rfl) dX12_every_45 (x_40, x_41, x_39) rfl (by first | assumption | exact zb01 (by omega)) (show (0 ≤ x_40.toInt ∧ x_40.toInt ≤ en.toInt + 7 - 0) ∧ (tA.toInt ≤ x_40.toInt) ∧ (-1 ≤ x_41.toInt) ∧ (x_39 = 0 ∨ x_39 = 1) from ⟨(by first | assumption | omega | decide | exact rfl | exact zb01 (by omega) | exact Or.inl (by decide) | exact Or.inr (by first | omega | decide)), i45, i47, (by first | assumption | omega | decide | exact rfl | exact zb01 (by omega) | exact Or.inl (by decide) | exact Or.inr (by first | omega | decide))⟩) hP hD
        · skip
          have c52 : x_41.toInt = (-1) := zeq cb9 rfl (by decide)
          have n53 : x_41.toInt ≤ (-1) := Int.le_trans (Int.le_of_eq c52) (Int.le_refl _)
          refine lv_aload_n hx hb dX12_every_13 rfl (lv_at hl 0 rfl) ?_
          refine va_ldcS (q := g.2 100) hx hb hown (zra45 hT.2.1) dX12_every_14 ?_
          have hL0 : (0 : Int32).toInt = 0 := by decide
          refine mcallV' (g := g) (q0 := 0) (ci := 10) (As := [.ref (g.2 100)]) (rest := []) St hK hT hA hP hD hS hl.1 [0] [] rfl rfl rfl (m_has l g o a th hi ac tp ba en x_40 x_41 0 iD iO tU fm fk fa fc ft ff fb fi (g.2 100) 45 zqa45 hba hen (by first | assumption | omega | decide | exact Or.inl (by decide) | exact Or.inr (by decide)) i47 (by decide) rfl zla45 zna45) (cwV 1 hts (zgL (zl4 k899 k900 k901 k839) k889) rfl rfl rfl (by decide +kernel) ⟨Nat.le_of_ble_eq_true rfl, Nat.le_of_ble_eq_true rfl⟩) rfl rfl rfl rfl (Nat.le_of_ble_eq_true rfl) dX12_every_16 ⟨(Nat.le_of_ble_eq_true rfl), (Nat.le_of_ble_eq_true rfl)⟩ (fun u_ H locs hq56 hP hD hS => ?_)
          obtain ⟨at2_54, r_55⟩ := u_
          replace hq56 : (0 ≤ at2_54.toInt ∧ at2_54.toInt ≤ en.toInt + 7 - (0 : Int32).toInt) ∧ (x_40.toInt ≤ at2_54.toInt) ∧ (r_55 = 1 ∧ x_40.toInt < at2_54.toInt ∧ at2_54.toInt ≤ en.toInt ∨ r_55 = 0) := hq56
          have hP : va_P g.1 vwCl (List.flatten [bMo g o a th hi ac tp ba en at2_54 x_41 0 iD iO tU fm fk fa fc ft ff fb fi]) H := hP
          have hD : va_D A (List.flatten [bMo g o a th hi ac tp ba en at2_54 x_41 0 iD iO tU fm fk fa fc ft ff fb fi]) := hD
          refine W.widen (k := 0) (n := 0) (Nat.le_of_ble_eq_true rfl) (Nat.le_of_ble_eq_true rfl) ?_
          refine W.eq (g2 := F0 m 19 ls [.int r_55]) rfl ?_
          obtain ⟨hq56_0, hq56_1, hq56_2⟩ := hq56
          rcases hq56_2 with ⟨rfl, hq56_k⟩ | rfl
          · skip
            refine lv_if_eq (tgt := 44) hx hb dX12_every_19 (by decide) (fun c57 => absurd c57 (by decide)) (fun _ => ?_)
            refine lv_aload_n hx hb dX12_every_22 rfl (lv_at hl 0 rfl) ?_
            refine mcallV' (g := g) (q0 := 0) (ci := 10) (As := []) (rest := []) St hK hT hA hP hD hS hl.1 [0] [] rfl rfl rfl (m_atom0 l g o a th hi ac tp ba en at2_54 x_41 iD iO tU fm fk fa fc ft ff fb fi hiD hiO hba hen (by first | assumption | omega | decide | exact Or.inl (by decide) | exact Or.inr (by decide)) i47 hde) (cwV 0 hts (zgL (zl4 k951 k952 k953 k839) k962) rfl rfl rfl (by decide +kernel) ⟨Nat.le_of_ble_eq_true rfl, Nat.le_of_ble_eq_true rfl⟩) rfl rfl rfl rfl (Nat.le_of_ble_eq_true rfl) dX12_every_23 ⟨(Nat.le_of_ble_eq_true rfl), (Nat.le_of_ble_eq_true rfl)⟩ (fun u_ H locs hq61 hP hD hS => ?_)
            obtain ⟨at2_58, fl2_59, q_60⟩ := u_
            replace hq61 : (0 ≤ at2_58.toInt ∧ at2_58.toInt ≤ en.toInt + 7 - 0) ∧ (at2_54.toInt ≤ at2_58.toInt) ∧ (-1 ≤ fl2_59.toInt) ∧ (q_60 = 0 ∨ q_60 = 1) := hq61
            have hP : va_P g.1 vwCl (List.flatten [bMo g o a th hi ac tp ba en at2_58 fl2_59 0 iD iO tU fm fk fa fc ft ff fb fi]) H := hP
            have hD : va_D A (List.flatten [bMo g o a th hi ac tp ba en at2_58 fl2_59 0 iD iO tU fm fk fa fc ft ff fb fi]) := hD
            refine W.widen (k := 0) (n := 0) (Nat.le_of_ble_eq_true rfl) (Nat.le_of_ble_eq_true rfl) ?_
            refine W.eq (g2 := F0 m 26 ls [.int q_60]) rfl ?_
            obtain ⟨hq61_0, hq61_1, hq61_2, hq61_3⟩ := hq61
            rcases hq61_3 with rfl | rfl
            · skip
              refine lv_istore_n (lv' := [(2, .int 0), (0, .ref o), (1, .int x_39)]) hx hb dX12_every_26 rfl hl (by decide) rfl (fun ls hl => ?_)
              refine lv_iload_n hx hb dX12_every_27 rfl (lv_at hl 2 rfl) ?_
              refine lv_if_eq (tgt := 39) hx hb dX12_every_28 (by decide) (fun cb9 => ?_) (fun cb9 => ?_)
              · skip
                have c62 : x_39.toInt = 0 := zeq cb9 rfl (by decide)
                have n63 : x_39.toInt ≤ 0 := Int.le_trans (Int.le_of_eq c62) (Int.le_refl _)
                refine lv_iconst (v := 0) hx hb dX12_every_39 (by decide) ?_
                refine lv_istore_n (lv' := [(1, .int 0), (2, .int 0), (0, .ref o)]) hx hb dX12_every_40 rfl hl (by decide) rfl (fun ls hl => ?_)
                refine lv_goto (tgt := 5) hx hb dX12_every_41 (by decide) ?_
                have hl := lv_sub (l' := [(0, .ref o), (1, .int 0), (2, .int 0)]) hl [2, 0, 1] rfl
                have hP : va_P g.1 vwCl (List.flatten [bMo g o a th hi ac tp ba en at2_58 fl2_59 0 iD iO tU fm fk fa fc ft ff fb fi]) H := hP
                have hD : va_D A (List.flatten [bMo g o a th hi ac tp ba en at2_58 fl2_59 0 iD iO tU fm fk fa fc ft ff fb fi]) := hD
                exact ih5_49 0 at2_58 fl2_59 (by decide) (by first | omega | assumption | decide) (by first | omega | assumption | decide) (by first | omega | assumption | decide) (by first | omega | assumption | decide) hq61_2 H _ ls (by omega)  hP hD hS (lv_sub hl [0, 1] rfl)
              · skip
                have c64 : ¬ x_39.toInt = 0 := zne cb9 rfl (by decide)
                have n65 : 1 ≤ x_39.toInt := zN1 c64 i42.1 (by decide)
                refine lv_iload_n hx hb dX12_every_31 rfl (lv_at hl 0 rfl) ?_
                refine lv_if_eq (tgt := 39) hx hb dX12_every_32 (by decide) (fun _ => ?_) (fun c66 => absurd (by decide) c66)
                refine lv_iconst (v := 0) hx hb dX12_every_39 (by decide) ?_
                refine lv_istore_n (lv' := [(1, .int 0), (2, .int 0), (0, .ref o)]) hx hb dX12_every_40 rfl hl (by decide) rfl (fun ls hl => ?_)
                refine lv_goto (tgt := 5) hx hb dX12_every_41 (by decide) ?_
                have hl := lv_sub (l' := [(0, .ref o), (1, .int 0), (2, .int 0)]) hl [2, 0, 1] rfl
                have hP : va_P g.1 vwCl (List.flatten [bMo g o a th hi ac tp ba en at2_58 fl2_59 0 iD iO tU fm fk fa fc ft ff fb fi]) H := hP
                have hD : va_D A (List.flatten [bMo g o a th hi ac tp ba en at2_58 fl2_59 0 iD iO tU fm fk fa fc ft ff fb fi]) := hD
                exact ih5_49 0 at2_58 fl2_59 (by decide) (by first | omega | assumption | decide) (by first | omega | assumption | decide) (by first | omega | assumption | decide) (by first | omega | assumption | decide) hq61_2 H _ ls (by omega)  hP hD hS (lv_sub hl [0, 1] rfl)
            · skip
              refine lv_istore_n (lv' := [(2, .int 1), (0, .ref o), (1, .int x_39)]) hx hb dX12_every_26 rfl hl (by decide) rfl (fun ls hl => ?_)
              refine lv_iload_n hx hb dX12_every_27 rfl (lv_at hl 2 rfl) ?_
              refine lv_if_eq (tgt := 39) hx hb dX12_every_28 (by decide) (fun cb9 => ?_) (fun cb9 => ?_)
              · skip
                have c67 : x_39.toInt = 0 := zeq cb9 rfl (by decide)
                have n68 : x_39.toInt ≤ 0 := Int.le_trans (Int.le_of_eq c67) (Int.le_refl _)
                refine lv_iconst (v := 0) hx hb dX12_every_39 (by decide) ?_
                refine lv_istore_n (lv' := [(1, .int 0), (2, .int 1), (0, .ref o)]) hx hb dX12_every_40 rfl hl (by decide) rfl (fun ls hl => ?_)
                refine lv_goto (tgt := 5) hx hb dX12_every_41 (by decide) ?_
                have hl := lv_sub (l' := [(0, .ref o), (1, .int 0), (2, .int 1)]) hl [2, 0, 1] rfl
                have hP : va_P g.1 vwCl (List.flatten [bMo g o a th hi ac tp ba en at2_58 fl2_59 0 iD iO tU fm fk fa fc ft ff fb fi]) H := hP
                have hD : va_D A (List.flatten [bMo g o a th hi ac tp ba en at2_58 fl2_59 0 iD iO tU fm fk fa fc ft ff fb fi]) := hD
                exact ih5_49 0 at2_58 fl2_59 (by decide) (by first | omega | assumption | decide) (by first | omega | assumption | decide) (by first | omega | assumption | decide) (by first | omega | assumption | decide) hq61_2 H _ ls (by omega)  hP hD hS (lv_sub hl [0, 1] rfl)
              · skip
                have c69 : ¬ x_39.toInt = 0 := zne cb9 rfl (by decide)
                have n70 : 1 ≤ x_39.toInt := zN1 c69 i42.1 (by decide)
                refine lv_iload_n hx hb dX12_every_31 rfl (lv_at hl 0 rfl) ?_
                refine lv_if_eq (tgt := 39) hx hb dX12_every_32 (by decide) (fun c71 => absurd c71 (by decide)) (fun _ => ?_)
                refine lv_iconst (v := 1) hx hb dX12_every_35 (by decide) ?_
                refine lv_goto (tgt := 40) hx hb dX12_every_36 (by decide) ?_
                refine lv_istore_n (lv' := [(1, .int 1), (2, .int 1), (0, .ref o)]) hx hb dX12_every_40 rfl hl (by decide) rfl (fun ls hl => ?_)
                refine lv_goto (tgt := 5) hx hb dX12_every_41 (by decide) ?_
                have hl := lv_sub (l' := [(0, .ref o), (1, .int 1), (2, .int 1)]) hl [2, 0, 1] rfl
                have hL1 : (1 : Int32).toInt = 1 := by decide
                have hP : va_P g.1 vwCl (List.flatten [bMo g o a th hi ac tp ba en at2_58 fl2_59 0 iD iO tU fm fk fa fc ft ff fb fi]) H := hP
                have hD : va_D A (List.flatten [bMo g o a th hi ac tp ba en at2_58 fl2_59 0 iD iO tU fm fk fa fc ft ff fb fi]) := hD
                exact ih5_49 1 at2_58 fl2_59 (by decide) (by first | omega | assumption | decide) (by first | omega | assumption | decide) (by first | omega | assumption | decide) (by first | omega | assumption | decide) hq61_2 H _ ls (by omega)  hP hD hS (lv_sub hl [0, 1] rfl)
          · skip
            refine lv_if_eq (tgt := 44) hx hb dX12_every_19 (by decide) (fun _ => ?_) (fun c72 => absurd (by decide) c72)
            refine lv_iload_n hx hb dX12_every_44 rfl (lv_at hl 1 rfl) ?_
            have hP : va_P g.1 vwCl (List.flatten [bMo g o a th hi ac tp ba en at2_54 x_41 0 iD iO tU fm fk fa fc ft ff fb fi]) H := hP
            have hD : va_D A (List.flatten [bMo g o a th hi ac tp ba en at2_54 x_41 0 iD iO tU fm fk fa fc ft ff fb fi]) := hD
            exact mret_z hx hb hr hlocks hS (Nat.le_of_ble_eq_true rfl) (Nat.le_of_ble_eq_true rfl) dX12_every_45 (at2_54, x_41, x_39) rfl (by first | assumption | exact zb01 (by omega)) (show (0 ≤ at2_54.toInt ∧ at2_54.toInt ≤ en.toInt + 7 - 0) ∧ (tA.toInt ≤ at2_54.toInt) ∧ (-1 ≤ x_41.toInt) ∧ (x_39 = 0 ∨ x_39 = 1) from ⟨(by first | assumption | omega | decide | exact rfl | exact zb01 (by omega) | exact Or.inl (by decide) | exact Or.inr (by first | omega | decide)), (by first | assumption | omega | decide | exact rfl | exact zb01 (by omega) | exact Or.inl (by decide) | exact Or.inr (by first | omega | decide)), i47, (by first | assumption | omega | decide | exact rfl | exact zb01 (by omega) | exact Or.inl (by decide) | exact Or.inr (by first | omega | decide))⟩) hP hD
    have hL1 : (1 : Int32).toInt = 1 := by decide
    have hP : va_P g.1 vwCl (List.flatten [bMo g o a th hi ac tp ba en at2_1 fl2_2 0 iD iO tU fm fk fa fc ft ff fb fi]) H := hP
    have hD : va_D A (List.flatten [bMo g o a th hi ac tp ba en at2_1 fl2_2 0 iD iO tU fm fk fa fc ft ff fb fi]) := hD
    exact LP5_48 _ 1 at2_1 fl2_2 (by decide) (by first | omega | assumption | decide) (by first | omega | assumption | decide) hq4_1 (by first | omega | assumption | decide) hq4_2 H _ ls (Nat.lt_succ_self _)  hP hD hS (lv_sub hl [0, 1] rfl)
set_option maxRecDepth 100000 in
set_option maxHeartbeats 4000000 in
theorem m_some0 (l : Launch) (g : zG) (o : Nat) (a : Nat → Nat) (th : Int32) (hi : Int32) (ac : Int32) (tp : Int32) (ba : Int32) (en : Int32) (tA : Int32) (fl : Int32) (iD : Int32) (iO : Int32) (tU : Int32) (fm : Nat → Int32) (fk : Nat → Int32) (fa : Nat → Int32) (fc : Nat → Int32) (ft : Nat → Int32) (ff : Nat → Int32) (fb : Nat → Int32) (fi : Nat → Int32) (hiD : 0 ≤ iD.toInt ∧ iD.toInt ≤ 1) (hiO : 0 ≤ iO.toInt ∧ iO.toInt ≤ 1) (hba : zBa ba.toInt) (hen : 0 ≤ en.toInt ∧ en.toInt ≤ 400) (htA : 0 ≤ tA.toInt ∧ tA.toInt ≤ en.toInt + 7 - 0) (hfl : -1 ≤ fl.toInt) (hde : 0 ≤ 0 ∧ 0 ≤ 6) : zM' g l yX12_some (Cond.code yX12_some cX12_some 3 (some .boolean) :: zB) ({ frames := 28, cells := 0, slots := 0, locals := 620 } : Room) [.ref o] [bMo g o a th hi ac tp ba en tA fl 0 iD iO tU fm fk fa fc ft ff fb fi] (fun u : Int32 × Int32 × Int32 => (fun (at2 : Int32) (fl2 : Int32) (q : Int32) => some (.int q)) (u.1) (u.2.1) (u.2.2)) (fun u : Int32 × Int32 × Int32 => (fun (at2 : Int32) (fl2 : Int32) (q : Int32) => (0 ≤ at2.toInt ∧ at2.toInt ≤ en.toInt + 7 - 0) ∧ (tA.toInt ≤ at2.toInt) ∧ (-1 ≤ fl2.toInt) ∧ (q = 0 ∨ q = 1)) (u.1) (u.2.1) (u.2.2)) (fun u : Int32 × Int32 × Int32 => (fun (at2 : Int32) (fl2 : Int32) (q : Int32) => [bMo g o a th hi ac tp ba en at2 fl2 0 iD iO tU fm fk fa fc ft ff fb fi]) (u.1) (u.2.1) (u.2.2)) := by
  refine zM'.of (cc := cX12_some) (maxL := 3) (rt := (some .boolean)) (by decide) rfl (Nat.le_of_ble_eq_true rfl) ?_
  intro p e s m args below meth c A ls St hr hlocks hin hK hT hA hP hD hS hl
  obtain ⟨hx, hb, hml, hown, hts⟩ := id St
  have hl : lv_has ls 3 [(0, .ref o)] := hl
  refine lv_aload_n hx hb dX12_some_0 rfl (lv_at hl 0 rfl) ?_
  refine mcallV' (g := g) (q0 := 0) (ci := 10) (As := []) (rest := []) St hK hT hA hP hD hS hl.1 [0] [] rfl rfl rfl (m_every0 l g o a th hi ac tp ba en tA fl iD iO tU fm fk fa fc ft ff fb fi hiD hiO hba hen htA hfl hde) (cwV 0 hts (zgL (zl4 k959 k960 k961 k839) k957) rfl rfl rfl (by decide +kernel) ⟨Nat.le_of_ble_eq_true rfl, Nat.le_of_ble_eq_true rfl⟩) rfl rfl rfl rfl (Nat.le_of_ble_eq_true rfl) dX12_some_1 ⟨(Nat.le_of_ble_eq_true rfl), (Nat.le_of_ble_eq_true rfl)⟩ (fun u_ H locs hq4 hP hD hS => ?_)
  obtain ⟨at2_1, fl2_2, q_3⟩ := u_
  replace hq4 : (0 ≤ at2_1.toInt ∧ at2_1.toInt ≤ en.toInt + 7 - 0) ∧ (tA.toInt ≤ at2_1.toInt) ∧ (-1 ≤ fl2_2.toInt) ∧ (q_3 = 0 ∨ q_3 = 1) := hq4
  have hP : va_P g.1 vwCl (List.flatten [bMo g o a th hi ac tp ba en at2_1 fl2_2 0 iD iO tU fm fk fa fc ft ff fb fi]) H := hP
  have hD : va_D A (List.flatten [bMo g o a th hi ac tp ba en at2_1 fl2_2 0 iD iO tU fm fk fa fc ft ff fb fi]) := hD
  refine W.widen (k := 0) (n := 0) (Nat.le_of_ble_eq_true rfl) (Nat.le_of_ble_eq_true rfl) ?_
  refine W.eq (g2 := F0 m 4 ls [.int q_3]) rfl ?_
  obtain ⟨hq4_0, hq4_1, hq4_2, hq4_3⟩ := hq4
  rcases hq4_3 with rfl | rfl
  · skip
    refine lv_istore_n (lv' := [(1, .int 0), (0, .ref o)]) hx hb dX12_some_4 rfl hl (by decide) rfl (fun ls hl => ?_)
    have hl := lv_sub (l' := [(0, .ref o), (1, .int 0)]) hl [1, 0] rfl
    have LP5_14 : ∀ (kf : Nat) (x_5 : Int32) (x_6 : Int32) (x_7 : Int32), (0 ≤ x_5.toInt ∧ x_5.toInt ≤ 1) → (0 ≤ x_6.toInt ∧ x_6.toInt ≤ 407) → ((-1) ≤ x_7.toInt) → (tA.toInt ≤ x_6.toInt) → (x_6.toInt ≤ en.toInt + 7 - 0) → (-1 ≤ x_7.toInt) → ∀ (H : Heap) (locs : List Loc) (ls : Array Slot), ((en.toInt + 8 - x_6.toInt).toNat) < kf → va_P g.1 vwCl (List.flatten [bMo g o a th hi ac tp ba en x_6 x_7 0 iD iO tU fm fk fa fc ft ff fb fi]) H → va_D A (List.flatten [bMo g o a th hi ac tp ba en x_6 x_7 0 iD iO tU fm fk fa fc ft ff fb fi]) → va_S A s.heap H locs → lv_has ls 3 [(0, .ref o), (1, .int x_5)] → W p l e ({ frames := 28, cells := 0, slots := 0, locals := 620 } : Room) s m args below meth c H locs (0) (0) (zF g (fun u : Int32 × Int32 × Int32 => (fun (at2 : Int32) (fl2 : Int32) (q : Int32) => some (.int q)) (u.1) (u.2.1) (u.2.2)) (fun u : Int32 × Int32 × Int32 => (fun (at2 : Int32) (fl2 : Int32) (q : Int32) => (0 ≤ at2.toInt ∧ at2.toInt ≤ en.toInt + 7 - 0) ∧ (tA.toInt ≤ at2.toInt) ∧ (-1 ≤ fl2.toInt) ∧ (q = 0 ∨ q = 1)) (u.1) (u.2.1) (u.2.2)) (fun u : Int32 × Int32 × Int32 => (fun (at2 : Int32) (fl2 : Int32) (q : Int32) => [bMo g o a th hi ac tp ba en at2 fl2 0 iD iO tU fm fk fa fc ft ff fb fi]) (u.1) (u.2.1) (u.2.2)) ({ frames := 28, cells := 0, slots := 0, locals := 620 } : Room) below args s A) (F0 m 5 ls []) := by
      intro kf
      induction kf with
      | zero => intro x_5 x_6 x_7 i8 i9 i10 i11 i12 i13 H locs ls hk; exact absurd hk (Nat.not_lt_zero _)
      | succ kf ih5_15 =>
        intro x_5 x_6 x_7 i8 i9 i10 i11 i12 i13 H locs ls hk5_15 hP hD hS hl
        refine lv_aload_n hx hb dX12_some_5 rfl (lv_at hl 0 rfl) ?_
        refine va_get (D := g.1) (ci := 10) (v := .int x_7) (C := RX12) (T := TX12) (N := 20) hx hb hts izRX12 hown hK hP 0 rfl rfl 12 (by decide) (hts _ k820) (fun _ h9 => h9) rfl dX12_some_6 ?_
        refine lv_iconst (v := (-1)) hx hb dX12_some_9 (by decide) ?_
        refine lv_icmp_ne (tgt := 44) hx hb dX12_some_10 (by decide) (fun cb9 => ?_) (fun cb9 => ?_)
        · skip
          have c16 : ¬ x_7.toInt = (-1) := zne cb9 rfl (by decide)
          have n17 : 0 ≤ x_7.toInt := zN1 c16 i10 (by decide)
          refine lv_iload_n hx hb dX12_some_44 rfl (lv_at hl 1 rfl) ?_
          have hP : va_P g.1 vwCl (List.flatten [bMo g o a th hi ac tp ba en x_6 x_7 0 iD iO tU fm fk fa fc ft ff fb fi]) H := hP
          have hD : va_D A (List.flatten [bMo g o a th hi ac tp ba en x_6 x_7 0 iD iO tU fm fk fa fc ft ff fb fi]) := hD
          exact mret_z hx hb hr hlocks hS (Nat.le_of_ble_eq_true rfl) (Nat.le_of_ble_eq_true rfl) dX12_some_45 (x_6, x_7, x_5) rfl (by first | assumption | exact zb01 (by omega)) (show (0 ≤ x_6.toInt ∧ x_6.toInt ≤ en.toInt + 7 - 0) ∧ (tA.toInt ≤ x_6.toInt) ∧ (-1 ≤ x_7.toInt) ∧ (x_5 = 0 ∨ x_5 = 1) from ⟨(by first | assumption | omega | decide | exact rfl | exact zb01 (by omega) | exact Or.inl (by decide) | exact Or.inr (by first | omega | decide)), i11, i13, (by first | assumption | omega | decide | exact rfl | exact zb01 (by omega) | exact Or.inl (by decide) | exact Or.inr (by first | omega | decide))⟩) hP hD
        · skip
          have c18 : x_7.toInt = (-1) := zeq cb9 rfl (by decide)
          have n19 : x_7.toInt ≤ (-1) := Int.le_trans (Int.le_of_eq c18) (Int.le_refl _)
          refine lv_aload_n hx hb dX12_some_13 rfl (lv_at hl 0 rfl) ?_
          refine va_ldcS (q := g.2 102) hx hb hown (zra46 hT.2.1) dX12_some_14 ?_
          have hL0 : (0 : Int32).toInt = 0 := by decide
          refine mcallV' (g := g) (q0 := 0) (ci := 10) (As := [.ref (g.2 102)]) (rest := []) St hK hT hA hP hD hS hl.1 [0] [] rfl rfl rfl (m_has l g o a th hi ac tp ba en x_6 x_7 0 iD iO tU fm fk fa fc ft ff fb fi (g.2 102) 46 zqa46 hba hen (by first | assumption | omega | decide | exact Or.inl (by decide) | exact Or.inr (by decide)) i13 (by decide) rfl zla46 zna46) (cwV 1 hts (zgL (zl4 k899 k900 k901 k839) k889) rfl rfl rfl (by decide +kernel) ⟨Nat.le_of_ble_eq_true rfl, Nat.le_of_ble_eq_true rfl⟩) rfl rfl rfl rfl (Nat.le_of_ble_eq_true rfl) dX12_some_16 ⟨(Nat.le_of_ble_eq_true rfl), (Nat.le_of_ble_eq_true rfl)⟩ (fun u_ H locs hq22 hP hD hS => ?_)
          obtain ⟨at2_20, r_21⟩ := u_
          replace hq22 : (0 ≤ at2_20.toInt ∧ at2_20.toInt ≤ en.toInt + 7 - (0 : Int32).toInt) ∧ (x_6.toInt ≤ at2_20.toInt) ∧ (r_21 = 1 ∧ x_6.toInt < at2_20.toInt ∧ at2_20.toInt ≤ en.toInt ∨ r_21 = 0) := hq22
          have hP : va_P g.1 vwCl (List.flatten [bMo g o a th hi ac tp ba en at2_20 x_7 0 iD iO tU fm fk fa fc ft ff fb fi]) H := hP
          have hD : va_D A (List.flatten [bMo g o a th hi ac tp ba en at2_20 x_7 0 iD iO tU fm fk fa fc ft ff fb fi]) := hD
          refine W.widen (k := 0) (n := 0) (Nat.le_of_ble_eq_true rfl) (Nat.le_of_ble_eq_true rfl) ?_
          refine W.eq (g2 := F0 m 19 ls [.int r_21]) rfl ?_
          obtain ⟨hq22_0, hq22_1, hq22_2⟩ := hq22
          rcases hq22_2 with ⟨rfl, hq22_k⟩ | rfl
          · skip
            refine lv_if_eq (tgt := 44) hx hb dX12_some_19 (by decide) (fun c23 => absurd c23 (by decide)) (fun _ => ?_)
            refine lv_aload_n hx hb dX12_some_22 rfl (lv_at hl 0 rfl) ?_
            refine mcallV' (g := g) (q0 := 0) (ci := 10) (As := []) (rest := []) St hK hT hA hP hD hS hl.1 [0] [] rfl rfl rfl (m_every0 l g o a th hi ac tp ba en at2_20 x_7 iD iO tU fm fk fa fc ft ff fb fi hiD hiO hba hen (by first | assumption | omega | decide | exact Or.inl (by decide) | exact Or.inr (by decide)) i13 hde) (cwV 0 hts (zgL (zl4 k959 k960 k961 k839) k957) rfl rfl rfl (by decide +kernel) ⟨Nat.le_of_ble_eq_true rfl, Nat.le_of_ble_eq_true rfl⟩) rfl rfl rfl rfl (Nat.le_of_ble_eq_true rfl) dX12_some_23 ⟨(Nat.le_of_ble_eq_true rfl), (Nat.le_of_ble_eq_true rfl)⟩ (fun u_ H locs hq27 hP hD hS => ?_)
            obtain ⟨at2_24, fl2_25, q_26⟩ := u_
            replace hq27 : (0 ≤ at2_24.toInt ∧ at2_24.toInt ≤ en.toInt + 7 - 0) ∧ (at2_20.toInt ≤ at2_24.toInt) ∧ (-1 ≤ fl2_25.toInt) ∧ (q_26 = 0 ∨ q_26 = 1) := hq27
            have hP : va_P g.1 vwCl (List.flatten [bMo g o a th hi ac tp ba en at2_24 fl2_25 0 iD iO tU fm fk fa fc ft ff fb fi]) H := hP
            have hD : va_D A (List.flatten [bMo g o a th hi ac tp ba en at2_24 fl2_25 0 iD iO tU fm fk fa fc ft ff fb fi]) := hD
            refine W.widen (k := 0) (n := 0) (Nat.le_of_ble_eq_true rfl) (Nat.le_of_ble_eq_true rfl) ?_
            refine W.eq (g2 := F0 m 26 ls [.int q_26]) rfl ?_
            obtain ⟨hq27_0, hq27_1, hq27_2, hq27_3⟩ := hq27
            rcases hq27_3 with rfl | rfl
            · skip
              refine lv_istore_n (lv' := [(2, .int 0), (0, .ref o), (1, .int x_5)]) hx hb dX12_some_26 rfl hl (by decide) rfl (fun ls hl => ?_)
              refine lv_iload_n hx hb dX12_some_27 rfl (lv_at hl 2 rfl) ?_
              refine lv_if_ne (tgt := 35) hx hb dX12_some_28 (by decide) (fun cb9 => ?_) (fun cb9 => ?_)
              · skip
                have c28 : ¬ x_5.toInt = 0 := zne cb9 rfl (by decide)
                have n29 : 1 ≤ x_5.toInt := zN1 c28 i8.1 (by decide)
                refine lv_iconst (v := 1) hx hb dX12_some_35 (by decide) ?_
                refine lv_goto (tgt := 40) hx hb dX12_some_36 (by decide) ?_
                refine lv_istore_n (lv' := [(1, .int 1), (2, .int 0), (0, .ref o)]) hx hb dX12_some_40 rfl hl (by decide) rfl (fun ls hl => ?_)
                refine lv_goto (tgt := 5) hx hb dX12_some_41 (by decide) ?_
                have hl := lv_sub (l' := [(0, .ref o), (1, .int 1), (2, .int 0)]) hl [2, 0, 1] rfl
                have hL1 : (1 : Int32).toInt = 1 := by decide
                have hP : va_P g.1 vwCl (List.flatten [bMo g o a th hi ac tp ba en at2_24 fl2_25 0 iD iO tU fm fk fa fc ft ff fb fi]) H := hP
                have hD : va_D A (List.flatten [bMo g o a th hi ac tp ba en at2_24 fl2_25 0 iD iO tU fm fk fa fc ft ff fb fi]) := hD
                exact ih5_15 1 at2_24 fl2_25 (by decide) (by first | omega | assumption | decide) (by first | omega | assumption | decide) (by first | omega | assumption | decide) (by first | omega | assumption | decide) hq27_2 H _ ls (by omega)  hP hD hS (lv_sub hl [0, 1] rfl)
              · skip
                have c30 : x_5.toInt = 0 := zeq cb9 rfl (by decide)
                have n31 : x_5.toInt ≤ 0 := Int.le_trans (Int.le_of_eq c30) (Int.le_refl _)
                refine lv_iload_n hx hb dX12_some_31 rfl (lv_at hl 0 rfl) ?_
                refine lv_if_eq (tgt := 39) hx hb dX12_some_32 (by decide) (fun _ => ?_) (fun c32 => absurd (by decide) c32)
                refine lv_iconst (v := 0) hx hb dX12_some_39 (by decide) ?_
                refine lv_istore_n (lv' := [(1, .int 0), (2, .int 0), (0, .ref o)]) hx hb dX12_some_40 rfl hl (by decide) rfl (fun ls hl => ?_)
                refine lv_goto (tgt := 5) hx hb dX12_some_41 (by decide) ?_
                have hl := lv_sub (l' := [(0, .ref o), (1, .int 0), (2, .int 0)]) hl [2, 0, 1] rfl
                have hP : va_P g.1 vwCl (List.flatten [bMo g o a th hi ac tp ba en at2_24 fl2_25 0 iD iO tU fm fk fa fc ft ff fb fi]) H := hP
                have hD : va_D A (List.flatten [bMo g o a th hi ac tp ba en at2_24 fl2_25 0 iD iO tU fm fk fa fc ft ff fb fi]) := hD
                exact ih5_15 0 at2_24 fl2_25 (by decide) (by first | omega | assumption | decide) (by first | omega | assumption | decide) (by first | omega | assumption | decide) (by first | omega | assumption | decide) hq27_2 H _ ls (by omega)  hP hD hS (lv_sub hl [0, 1] rfl)
            · skip
              refine lv_istore_n (lv' := [(2, .int 1), (0, .ref o), (1, .int x_5)]) hx hb dX12_some_26 rfl hl (by decide) rfl (fun ls hl => ?_)
              refine lv_iload_n hx hb dX12_some_27 rfl (lv_at hl 2 rfl) ?_
              refine lv_if_ne (tgt := 35) hx hb dX12_some_28 (by decide) (fun cb9 => ?_) (fun cb9 => ?_)
              · skip
                have c33 : ¬ x_5.toInt = 0 := zne cb9 rfl (by decide)
                have n34 : 1 ≤ x_5.toInt := zN1 c33 i8.1 (by decide)
                refine lv_iconst (v := 1) hx hb dX12_some_35 (by decide) ?_
                refine lv_goto (tgt := 40) hx hb dX12_some_36 (by decide) ?_
                refine lv_istore_n (lv' := [(1, .int 1), (2, .int 1), (0, .ref o)]) hx hb dX12_some_40 rfl hl (by decide) rfl (fun ls hl => ?_)
                refine lv_goto (tgt := 5) hx hb dX12_some_41 (by decide) ?_
                have hl := lv_sub (l' := [(0, .ref o), (1, .int 1), (2, .int 1)]) hl [2, 0, 1] rfl
                have hL1 : (1 : Int32).toInt = 1 := by decide
                have hP : va_P g.1 vwCl (List.flatten [bMo g o a th hi ac tp ba en at2_24 fl2_25 0 iD iO tU fm fk fa fc ft ff fb fi]) H := hP
                have hD : va_D A (List.flatten [bMo g o a th hi ac tp ba en at2_24 fl2_25 0 iD iO tU fm fk fa fc ft ff fb fi]) := hD
                exact ih5_15 1 at2_24 fl2_25 (by decide) (by first | omega | assumption | decide) (by first | omega | assumption | decide) (by first | omega | assumption | decide) (by first | omega | assumption | decide) hq27_2 H _ ls (by omega)  hP hD hS (lv_sub hl [0, 1] rfl)
              · skip
                have c35 : x_5.toInt = 0 := zeq cb9 rfl (by decide)
                have n36 : x_5.toInt ≤ 0 := Int.le_trans (Int.le_of_eq c35) (Int.le_refl _)
                refine lv_iload_n hx hb dX12_some_31 rfl (lv_at hl 0 rfl) ?_
                refine lv_if_eq (tgt := 39) hx hb dX12_some_32 (by decide) (fun c37 => absurd c37 (by decide)) (fun _ => ?_)
                refine lv_iconst (v := 1) hx hb dX12_some_35 (by decide) ?_
                refine lv_goto (tgt := 40) hx hb dX12_some_36 (by decide) ?_
                refine lv_istore_n (lv' := [(1, .int 1), (2, .int 1), (0, .ref o)]) hx hb dX12_some_40 rfl hl (by decide) rfl (fun ls hl => ?_)
                refine lv_goto (tgt := 5) hx hb dX12_some_41 (by decide) ?_
                have hl := lv_sub (l' := [(0, .ref o), (1, .int 1), (2, .int 1)]) hl [2, 0, 1] rfl
                have hL1 : (1 : Int32).toInt = 1 := by decide
                have hP : va_P g.1 vwCl (List.flatten [bMo g o a th hi ac tp ba en at2_24 fl2_25 0 iD iO tU fm fk fa fc ft ff fb fi]) H := hP
                have hD : va_D A (List.flatten [bMo g o a th hi ac tp ba en at2_24 fl2_25 0 iD iO tU fm fk fa fc ft ff fb fi]) := hD
                exact ih5_15 1 at2_24 fl2_25 (by decide) (by first | omega | assumption | decide) (by first | omega | assumption | decide) (by first | omega | assumption | decide) (by first | omega | assumption | decide) hq27_2 H _ ls (by omega)  hP hD hS (lv_sub hl [0, 1] rfl)
          · skip
            refine lv_if_eq (tgt := 44) hx hb dX12_some_19 (by decide) (fun _ => ?_) (fun c38 => absurd (by decide) c38)
            refine lv_iload_n hx hb dX12_some_44 rfl (lv_at hl 1 rfl) ?_
            have hP : va_P g.1 vwCl (List.flatten [bMo g o a th hi ac tp ba en at2_20 x_7 0 iD iO tU fm fk fa fc ft ff fb fi]) H := hP
            have hD : va_D A (List.flatten [bMo g o a th hi ac tp ba en at2_20 x_7 0 iD iO tU fm fk fa fc ft ff fb fi]) := hD
            exact mret_z hx hb hr hlocks hS (Nat.le_of_ble_eq_true rfl) (Nat.le_of_ble_eq_true rfl) dX12_some_45 (at2_20, x_7, x_5) rfl (by first | assumption | exact zb01 (by omega)) (show (0 ≤ at2_20.toInt ∧ at2_20.toInt ≤ en.toInt + 7 - 0) ∧ (tA.toInt ≤ at2_20.toInt) ∧ (-1 ≤ x_7.toInt) ∧ (x_5 = 0 ∨ x_5 = 1) from ⟨(by first | assumption | omega | decide | exact rfl | exact zb01 (by omega) | exact Or.inl (by decide) | exact Or.inr (by first | omega | decide)), (by first | assumption | omega | decide | exact rfl | exact zb01 (by omega) | exact Or.inl (by decide) | exact Or.inr (by first | omega | decide)), i13, (by first | assumption | omega | decide | exact rfl | exact zb01 (by omega) | exact Or.inl (by decide) | exact Or.inr (by first | omega | decide))⟩) hP hD
    have hL0 : (0 : Int32).toInt = 0 := by decide
    have hP : va_P g.1 vwCl (List.flatten [bMo g o a th hi ac tp ba en at2_1 fl2_2 0 iD iO tU fm fk fa fc ft ff fb fi]) H := hP
    have hD : va_D A (List.flatten [bMo g o a th hi ac tp ba en at2_1 fl2_2 0 iD iO tU fm fk fa fc ft ff fb fi]) := hD
    exact LP5_14 _ 0 at2_1 fl2_2 (by decide) (by first | omega | assumption | decide) (by first | omega | assumption | decide) hq4_1 (by first | omega | assumption | decide) hq4_2 H _ ls (Nat.lt_succ_self _)  hP hD hS (lv_sub hl [0, 1] rfl)
  · skip
    refine lv_istore_n (lv' := [(1, .int 1), (0, .ref o)]) hx hb dX12_some_4 rfl hl (by decide) rfl (fun ls hl => ?_)
    have hl := lv_sub (l' := [(0, .ref o), (1, .int 1)]) hl [1, 0] rfl
    have LP5_48 : ∀ (kf : Nat) (x_39 : Int32) (x_40 : Int32) (x_41 : Int32), (0 ≤ x_39.toInt ∧ x_39.toInt ≤ 1) → (0 ≤ x_40.toInt ∧ x_40.toInt ≤ 407) → ((-1) ≤ x_41.toInt) → (tA.toInt ≤ x_40.toInt) → (x_40.toInt ≤ en.toInt + 7 - 0) → (-1 ≤ x_41.toInt) → ∀ (H : Heap) (locs : List Loc) (ls : Array Slot), ((en.toInt + 8 - x_40.toInt).toNat) < kf → va_P g.1 vwCl (List.flatten [bMo g o a th hi ac tp ba en x_40 x_41 0 iD iO tU fm fk fa fc ft ff fb fi]) H → va_D A (List.flatten [bMo g o a th hi ac tp ba en x_40 x_41 0 iD iO tU fm fk fa fc ft ff fb fi]) → va_S A s.heap H locs → lv_has ls 3 [(0, .ref o), (1, .int x_39)] → W p l e ({ frames := 28, cells := 0, slots := 0, locals := 620 } : Room) s m args below meth c H locs (0) (0) (zF g (fun u : Int32 × Int32 × Int32 => (fun (at2 : Int32) (fl2 : Int32) (q : Int32) => some (.int q)) (u.1) (u.2.1) (u.2.2)) (fun u : Int32 × Int32 × Int32 => (fun (at2 : Int32) (fl2 : Int32) (q : Int32) => (0 ≤ at2.toInt ∧ at2.toInt ≤ en.toInt + 7 - 0) ∧ (tA.toInt ≤ at2.toInt) ∧ (-1 ≤ fl2.toInt) ∧ (q = 0 ∨ q = 1)) (u.1) (u.2.1) (u.2.2)) (fun u : Int32 × Int32 × Int32 => (fun (at2 : Int32) (fl2 : Int32) (q : Int32) => [bMo g o a th hi ac tp ba en at2 fl2 0 iD iO tU fm fk fa fc ft ff fb fi]) (u.1) (u.2.1) (u.2.2)) ({ frames := 28, cells := 0, slots := 0, locals := 620 } : Room) below args s A) (F0 m 5 ls []) := by
      intro kf
      induction kf with
      | zero => intro x_39 x_40 x_41 i42 i43 i44 i45 i46 i47 H locs ls hk; exact absurd hk (Nat.not_lt_zero _)
      | succ kf ih5_49 =>
        intro x_39 x_40 x_41 i42 i43 i44 i45 i46 i47 H locs ls hk5_49 hP hD hS hl
        refine lv_aload_n hx hb dX12_some_5 rfl (lv_at hl 0 rfl) ?_
        refine va_get (D := g.1) (ci := 10) (v := .int x_41) (C := RX12) (T := TX12) (N := 20) hx hb hts izRX12 hown hK hP 0 rfl rfl 12 (by decide) (hts _ k820) (fun _ h9 => h9) rfl dX12_some_6 ?_
        refine lv_iconst (v := (-1)) hx hb dX12_some_9 (by decide) ?_
        refine lv_icmp_ne (tgt := 44) hx hb dX12_some_10 (by decide) (fun cb9 => ?_) (fun cb9 => ?_)
        · skip
          have c50 : ¬ x_41.toInt = (-1) := zne cb9 rfl (by decide)
          have n51 : 0 ≤ x_41.toInt := zN1 c50 i44 (by decide)
          refine lv_iload_n hx hb dX12_some_44 rfl (lv_at hl 1 rfl) ?_
          have hP : va_P g.1 vwCl (List.flatten [bMo g o a th hi ac tp ba en x_40 x_41 0 iD iO tU fm fk fa fc ft ff fb fi]) H := hP
          have hD : va_D A (List.flatten [bMo g o a th hi ac tp ba en x_40 x_41 0 iD iO tU fm fk fa fc ft ff fb fi]) := hD
          exact mret_z hx hb hr hlocks hS (Nat.le_of_ble_eq_true rfl) (Nat.le_of_ble_eq_true rfl) dX12_some_45 (x_40, x_41, x_39) rfl (by first | assumption | exact zb01 (by omega)) (show (0 ≤ x_40.toInt ∧ x_40.toInt ≤ en.toInt + 7 - 0) ∧ (tA.toInt ≤ x_40.toInt) ∧ (-1 ≤ x_41.toInt) ∧ (x_39 = 0 ∨ x_39 = 1) from ⟨(by first | assumption | omega | decide | exact rfl | exact zb01 (by omega) | exact Or.inl (by decide) | exact Or.inr (by first | omega | decide)), i45, i47, (by first | assumption | omega | decide | exact rfl | exact zb01 (by omega) | exact Or.inl (by decide) | exact Or.inr (by first | omega | decide))⟩) hP hD
        · skip
          have c52 : x_41.toInt = (-1) := zeq cb9 rfl (by decide)
          have n53 : x_41.toInt ≤ (-1) := Int.le_trans (Int.le_of_eq c52) (Int.le_refl _)
          refine lv_aload_n hx hb dX12_some_13 rfl (lv_at hl 0 rfl) ?_
          refine va_ldcS (q := g.2 102) hx hb hown (zra46 hT.2.1) dX12_some_14 ?_
          have hL0 : (0 : Int32).toInt = 0 := by decide
          refine mcallV' (g := g) (q0 := 0) (ci := 10) (As := [.ref (g.2 102)]) (rest := []) St hK hT hA hP hD hS hl.1 [0] [] rfl rfl rfl (m_has l g o a th hi ac tp ba en x_40 x_41 0 iD iO tU fm fk fa fc ft ff fb fi (g.2 102) 46 zqa46 hba hen (by first | assumption | omega | decide | exact Or.inl (by decide) | exact Or.inr (by decide)) i47 (by decide) rfl zla46 zna46) (cwV 1 hts (zgL (zl4 k899 k900 k901 k839) k889) rfl rfl rfl (by decide +kernel) ⟨Nat.le_of_ble_eq_true rfl, Nat.le_of_ble_eq_true rfl⟩) rfl rfl rfl rfl (Nat.le_of_ble_eq_true rfl) dX12_some_16 ⟨(Nat.le_of_ble_eq_true rfl), (Nat.le_of_ble_eq_true rfl)⟩ (fun u_ H locs hq56 hP hD hS => ?_)
          obtain ⟨at2_54, r_55⟩ := u_
          replace hq56 : (0 ≤ at2_54.toInt ∧ at2_54.toInt ≤ en.toInt + 7 - (0 : Int32).toInt) ∧ (x_40.toInt ≤ at2_54.toInt) ∧ (r_55 = 1 ∧ x_40.toInt < at2_54.toInt ∧ at2_54.toInt ≤ en.toInt ∨ r_55 = 0) := hq56
          have hP : va_P g.1 vwCl (List.flatten [bMo g o a th hi ac tp ba en at2_54 x_41 0 iD iO tU fm fk fa fc ft ff fb fi]) H := hP
          have hD : va_D A (List.flatten [bMo g o a th hi ac tp ba en at2_54 x_41 0 iD iO tU fm fk fa fc ft ff fb fi]) := hD
          refine W.widen (k := 0) (n := 0) (Nat.le_of_ble_eq_true rfl) (Nat.le_of_ble_eq_true rfl) ?_
          refine W.eq (g2 := F0 m 19 ls [.int r_55]) rfl ?_
          obtain ⟨hq56_0, hq56_1, hq56_2⟩ := hq56
          rcases hq56_2 with ⟨rfl, hq56_k⟩ | rfl
          · skip
            refine lv_if_eq (tgt := 44) hx hb dX12_some_19 (by decide) (fun c57 => absurd c57 (by decide)) (fun _ => ?_)
            refine lv_aload_n hx hb dX12_some_22 rfl (lv_at hl 0 rfl) ?_
            refine mcallV' (g := g) (q0 := 0) (ci := 10) (As := []) (rest := []) St hK hT hA hP hD hS hl.1 [0] [] rfl rfl rfl (m_every0 l g o a th hi ac tp ba en at2_54 x_41 iD iO tU fm fk fa fc ft ff fb fi hiD hiO hba hen (by first | assumption | omega | decide | exact Or.inl (by decide) | exact Or.inr (by decide)) i47 hde) (cwV 0 hts (zgL (zl4 k959 k960 k961 k839) k957) rfl rfl rfl (by decide +kernel) ⟨Nat.le_of_ble_eq_true rfl, Nat.le_of_ble_eq_true rfl⟩) rfl rfl rfl rfl (Nat.le_of_ble_eq_true rfl) dX12_some_23 ⟨(Nat.le_of_ble_eq_true rfl), (Nat.le_of_ble_eq_true rfl)⟩ (fun u_ H locs hq61 hP hD hS => ?_)
            obtain ⟨at2_58, fl2_59, q_60⟩ := u_
            replace hq61 : (0 ≤ at2_58.toInt ∧ at2_58.toInt ≤ en.toInt + 7 - 0) ∧ (at2_54.toInt ≤ at2_58.toInt) ∧ (-1 ≤ fl2_59.toInt) ∧ (q_60 = 0 ∨ q_60 = 1) := hq61
            have hP : va_P g.1 vwCl (List.flatten [bMo g o a th hi ac tp ba en at2_58 fl2_59 0 iD iO tU fm fk fa fc ft ff fb fi]) H := hP
            have hD : va_D A (List.flatten [bMo g o a th hi ac tp ba en at2_58 fl2_59 0 iD iO tU fm fk fa fc ft ff fb fi]) := hD
            refine W.widen (k := 0) (n := 0) (Nat.le_of_ble_eq_true rfl) (Nat.le_of_ble_eq_true rfl) ?_
            refine W.eq (g2 := F0 m 26 ls [.int q_60]) rfl ?_
            obtain ⟨hq61_0, hq61_1, hq61_2, hq61_3⟩ := hq61
            rcases hq61_3 with rfl | rfl
            · skip
              refine lv_istore_n (lv' := [(2, .int 0), (0, .ref o), (1, .int x_39)]) hx hb dX12_some_26 rfl hl (by decide) rfl (fun ls hl => ?_)
              refine lv_iload_n hx hb dX12_some_27 rfl (lv_at hl 2 rfl) ?_
              refine lv_if_ne (tgt := 35) hx hb dX12_some_28 (by decide) (fun cb9 => ?_) (fun cb9 => ?_)
              · skip
                have c62 : ¬ x_39.toInt = 0 := zne cb9 rfl (by decide)
                have n63 : 1 ≤ x_39.toInt := zN1 c62 i42.1 (by decide)
                refine lv_iconst (v := 1) hx hb dX12_some_35 (by decide) ?_
                refine lv_goto (tgt := 40) hx hb dX12_some_36 (by decide) ?_
                refine lv_istore_n (lv' := [(1, .int 1), (2, .int 0), (0, .ref o)]) hx hb dX12_some_40 rfl hl (by decide) rfl (fun ls hl => ?_)
                refine lv_goto (tgt := 5) hx hb dX12_some_41 (by decide) ?_
                have hl := lv_sub (l' := [(0, .ref o), (1, .int 1), (2, .int 0)]) hl [2, 0, 1] rfl
                have hL1 : (1 : Int32).toInt = 1 := by decide
                have hP : va_P g.1 vwCl (List.flatten [bMo g o a th hi ac tp ba en at2_58 fl2_59 0 iD iO tU fm fk fa fc ft ff fb fi]) H := hP
                have hD : va_D A (List.flatten [bMo g o a th hi ac tp ba en at2_58 fl2_59 0 iD iO tU fm fk fa fc ft ff fb fi]) := hD
                exact ih5_49 1 at2_58 fl2_59 (by decide) (by first | omega | assumption | decide) (by first | omega | assumption | decide) (by first | omega | assumption | decide) (by first | omega | assumption | decide) hq61_2 H _ ls (by omega)  hP hD hS (lv_sub hl [0, 1] rfl)
              · skip
                have c64 : x_39.toInt = 0 := zeq cb9 rfl (by decide)
                have n65 : x_39.toInt ≤ 0 := Int.le_trans (Int.le_of_eq c64) (Int.le_refl _)
                refine lv_iload_n hx hb dX12_some_31 rfl (lv_at hl 0 rfl) ?_
                refine lv_if_eq (tgt := 39) hx hb dX12_some_32 (by decide) (fun _ => ?_) (fun c66 => absurd (by decide) c66)
                refine lv_iconst (v := 0) hx hb dX12_some_39 (by decide) ?_
                refine lv_istore_n (lv' := [(1, .int 0), (2, .int 0), (0, .ref o)]) hx hb dX12_some_40 rfl hl (by decide) rfl (fun ls hl => ?_)
                refine lv_goto (tgt := 5) hx hb dX12_some_41 (by decide) ?_
                have hl := lv_sub (l' := [(0, .ref o), (1, .int 0), (2, .int 0)]) hl [2, 0, 1] rfl
                have hP : va_P g.1 vwCl (List.flatten [bMo g o a th hi ac tp ba en at2_58 fl2_59 0 iD iO tU fm fk fa fc ft ff fb fi]) H := hP
                have hD : va_D A (List.flatten [bMo g o a th hi ac tp ba en at2_58 fl2_59 0 iD iO tU fm fk fa fc ft ff fb fi]) := hD
                exact ih5_49 0 at2_58 fl2_59 (by decide) (by first | omega | assumption | decide) (by first | omega | assumption | decide) (by first | omega | assumption | decide) (by first | omega | assumption | decide) hq61_2 H _ ls (by omega)  hP hD hS (lv_sub hl [0, 1] rfl)
            · skip
              refine lv_istore_n (lv' := [(2, .int 1), (0, .ref o), (1, .int x_39)]) hx hb dX12_some_26 rfl hl (by decide) rfl (fun ls hl => ?_)
              refine lv_iload_n hx hb dX12_some_27 rfl (lv_at hl 2 rfl) ?_
              refine lv_if_ne (tgt := 35) hx hb dX12_some_28 (by decide) (fun cb9 => ?_) (fun cb9 => ?_)
              · skip
                have c67 : ¬ x_39.toInt = 0 := zne cb9 rfl (by decide)
                have n68 : 1 ≤ x_39.toInt := zN1 c67 i42.1 (by decide)
                refine lv_iconst (v := 1) hx hb dX12_some_35 (by decide) ?_
                refine lv_goto (tgt := 40) hx hb dX12_some_36 (by decide) ?_
                refine lv_istore_n (lv' := [(1, .int 1), (2, .int 1), (0, .ref o)]) hx hb dX12_some_40 rfl hl (by decide) rfl (fun ls hl => ?_)
                refine lv_goto (tgt := 5) hx hb dX12_some_41 (by decide) ?_
                have hl := lv_sub (l' := [(0, .ref o), (1, .int 1), (2, .int 1)]) hl [2, 0, 1] rfl
                have hL1 : (1 : Int32).toInt = 1 := by decide
                have hP : va_P g.1 vwCl (List.flatten [bMo g o a th hi ac tp ba en at2_58 fl2_59 0 iD iO tU fm fk fa fc ft ff fb fi]) H := hP
                have hD : va_D A (List.flatten [bMo g o a th hi ac tp ba en at2_58 fl2_59 0 iD iO tU fm fk fa fc ft ff fb fi]) := hD
                exact ih5_49 1 at2_58 fl2_59 (by decide) (by first | omega | assumption | decide) (by first | omega | assumption | decide) (by first | omega | assumption | decide) (by first | omega | assumption | decide) hq61_2 H _ ls (by omega)  hP hD hS (lv_sub hl [0, 1] rfl)
              · skip
                have c69 : x_39.toInt = 0 := zeq cb9 rfl (by decide)
                have n70 : x_39.toInt ≤ 0 := Int.le_trans (Int.le_of_eq c69) (Int.le_refl _)
                refine lv_iload_n hx hb dX12_some_31 rfl (lv_at hl 0 rfl) ?_
                refine lv_if_eq (tgt := 39) hx hb dX12_some_32 (by decide) (fun c71 => absurd c71 (by decide)) (fun _ => ?_)
                refine lv_iconst (v := 1) hx hb dX12_some_35 (by decide) ?_
                refine lv_goto (tgt := 40) hx hb dX12_some_36 (by decide) ?_
                refine lv_istore_n (lv' := [(1, .int 1), (2, .int 1), (0, .ref o)]) hx hb dX12_some_40 rfl hl (by decide) rfl (fun ls hl => ?_)
                refine lv_goto (tgt := 5) hx hb dX12_some_41 (by decide) ?_
                have hl := lv_sub (l' := [(0, .ref o), (1, .int 1), (2, .int 1)]) hl [2, 0, 1] rfl
                have hL1 : (1 : Int32).toInt = 1 := by decide
                have hP : va_P g.1 vwCl (List.flatten [bMo g o a th hi ac tp ba en at2_58 fl2_59 0 iD iO tU fm fk fa fc ft ff fb fi]) H := hP
                have hD : va_D A (List.flatten [bMo g o a th hi ac tp ba en at2_58 fl2_59 0 iD iO tU fm fk fa fc ft ff fb fi]) := hD
                exact ih5_49 1 at2_58 fl2_59 (by decide) (by first | omega | assumption | decide) (by first | omega | assumption | decide) (by first | omega | assumption | decide) (by first | omega | assumption | decide) hq61_2 H _ ls (by omega)  hP hD hS (lv_sub hl [0, 1] rfl)
          · skip
            refine lv_if_eq (tgt := 44) hx hb dX12_some_19 (by decide) (fun _ => ?_) (fun c72 => absurd (by decide) c72)
            refine lv_iload_n hx hb dX12_some_44 rfl (lv_at hl 1 rfl) ?_
            have hP : va_P g.1 vwCl (List.flatten [bMo g o a th hi ac tp ba en at2_54 x_41 0 iD iO tU fm fk fa fc ft ff fb fi]) H := hP
            have hD : va_D A (List.flatten [bMo g o a th hi ac tp ba en at2_54 x_41 0 iD iO tU fm fk fa fc ft ff fb fi]) := hD
            exact mret_z hx hb hr hlocks hS (Nat.le_of_ble_eq_true rfl) (Nat.le_of_ble_eq_true rfl) dX12_some_45 (at2_54, x_41, x_39) rfl (by first | assumption | exact zb01 (by omega)) (show (0 ≤ at2_54.toInt ∧ at2_54.toInt ≤ en.toInt + 7 - 0) ∧ (tA.toInt ≤ at2_54.toInt) ∧ (-1 ≤ x_41.toInt) ∧ (x_39 = 0 ∨ x_39 = 1) from ⟨(by first | assumption | omega | decide | exact rfl | exact zb01 (by omega) | exact Or.inl (by decide) | exact Or.inr (by first | omega | decide)), (by first | assumption | omega | decide | exact rfl | exact zb01 (by omega) | exact Or.inl (by decide) | exact Or.inr (by first | omega | decide)), i47, (by first | assumption | omega | decide | exact rfl | exact zb01 (by omega) | exact Or.inl (by decide) | exact Or.inr (by first | omega | decide))⟩) hP hD
    have hL1 : (1 : Int32).toInt = 1 := by decide
    have hP : va_P g.1 vwCl (List.flatten [bMo g o a th hi ac tp ba en at2_1 fl2_2 0 iD iO tU fm fk fa fc ft ff fb fi]) H := hP
    have hD : va_D A (List.flatten [bMo g o a th hi ac tp ba en at2_1 fl2_2 0 iD iO tU fm fk fa fc ft ff fb fi]) := hD
    exact LP5_48 _ 1 at2_1 fl2_2 (by decide) (by first | omega | assumption | decide) (by first | omega | assumption | decide) hq4_1 (by first | omega | assumption | decide) hq4_2 H _ ls (Nat.lt_succ_self _)  hP hD hS (lv_sub hl [0, 1] rfl)
set_option maxRecDepth 100000 in
set_option maxHeartbeats 4000000 in
theorem m_lawLine (l : Launch) (g : zG) (o : Nat) (a : Nat → Nat) (th : Int32) (hi : Int32) (ac : Int32) (tp : Int32) (ba : Int32) (en : Int32) (tA : Int32) (fl : Int32) (iD : Int32) (iO : Int32) (tU : Int32) (fm : Nat → Int32) (fk : Nat → Int32) (fa : Nat → Int32) (fc : Nat → Int32) (ft : Nat → Int32) (ff : Nat → Int32) (fb : Nat → Int32) (fi : Nat → Int32) (hiD : 0 ≤ iD.toInt ∧ iD.toInt ≤ 1) (hiO : 0 ≤ iO.toInt ∧ iO.toInt ≤ 1) (hba : zBa ba.toInt) (hen : 0 ≤ en.toInt ∧ en.toInt ≤ 400) (htA : 0 ≤ tA.toInt ∧ tA.toInt ≤ en.toInt + 7 - 0) (hfl : -1 ≤ fl.toInt) (hde : 0 ≤ 0 ∧ 0 ≤ 6) : zM' g l yX12_lawLine (Cond.code yX12_lawLine cX12_lawLine 4 none :: zB) ({ frames := 29, cells := 0, slots := 0, locals := 642 } : Room) [.ref o] [bMo g o a th hi ac tp ba en tA fl 0 iD iO tU fm fk fa fc ft ff fb fi] (fun u : Int32 × Int32 × Int32 => (fun (at2 : Int32) (fl2 : Int32) (tU2 : Int32) => none) (u.1) (u.2.1) (u.2.2)) (fun u : Int32 × Int32 × Int32 => (fun (at2 : Int32) (fl2 : Int32) (tU2 : Int32) => (0 ≤ at2.toInt ∧ at2.toInt ≤ en.toInt + 7 - 0) ∧ (tA.toInt ≤ at2.toInt) ∧ (-1 ≤ fl2.toInt)) (u.1) (u.2.1) (u.2.2)) (fun u : Int32 × Int32 × Int32 => (fun (at2 : Int32) (fl2 : Int32) (tU2 : Int32) => [bMo g o a th hi ac tp ba en at2 fl2 0 iD iO tU2 fm fk fa fc ft ff fb fi]) (u.1) (u.2.1) (u.2.2)) := by
  refine zM'.of (cc := cX12_lawLine) (maxL := 4) (rt := none) (by decide) rfl (Nat.le_of_ble_eq_true rfl) ?_
  intro p e s m args below meth c A ls St hr hlocks hin hK hT hA hP hD hS hl
  obtain ⟨hx, hb, hml, hown, hts⟩ := id St
  have hl : lv_has ls 4 [(0, .ref o)] := hl
  refine lv_aload_n hx hb dX12_lawLine_0 rfl (lv_at hl 0 rfl) ?_
  refine va_ldcS (q := g.2 104) hx hb hown (zra47 hT.2.1) dX12_lawLine_1 ?_
  have hL0 : (0 : Int32).toInt = 0 := by decide
  refine mcallV' (g := g) (q0 := 0) (ci := 10) (As := [.ref (g.2 104)]) (rest := []) St hK hT hA hP hD hS hl.1 [0] [] rfl rfl rfl (m_has l g o a th hi ac tp ba en tA fl 0 iD iO tU fm fk fa fc ft ff fb fi (g.2 104) 47 zqa47 hba hen (by first | assumption | omega | decide | exact Or.inl (by decide) | exact Or.inr (by decide)) hfl (by decide) rfl zla47 zna47) (cwV 1 hts (zgL (zl4 k899 k900 k901 k839) k889) rfl rfl rfl (by decide +kernel) ⟨Nat.le_of_ble_eq_true rfl, Nat.le_of_ble_eq_true rfl⟩) rfl rfl rfl rfl (Nat.le_of_ble_eq_true rfl) dX12_lawLine_3 ⟨(Nat.le_of_ble_eq_true rfl), (Nat.le_of_ble_eq_true rfl)⟩ (fun u_ H locs hq3 hP hD hS => ?_)
  obtain ⟨at2_1, r_2⟩ := u_
  replace hq3 : (0 ≤ at2_1.toInt ∧ at2_1.toInt ≤ en.toInt + 7 - (0 : Int32).toInt) ∧ (tA.toInt ≤ at2_1.toInt) ∧ (r_2 = 1 ∧ tA.toInt < at2_1.toInt ∧ at2_1.toInt ≤ en.toInt ∨ r_2 = 0) := hq3
  have hP : va_P g.1 vwCl (List.flatten [bMo g o a th hi ac tp ba en at2_1 fl 0 iD iO tU fm fk fa fc ft ff fb fi]) H := hP
  have hD : va_D A (List.flatten [bMo g o a th hi ac tp ba en at2_1 fl 0 iD iO tU fm fk fa fc ft ff fb fi]) := hD
  refine W.widen (k := 0) (n := 0) (Nat.le_of_ble_eq_true rfl) (Nat.le_of_ble_eq_true rfl) ?_
  refine W.eq (g2 := F0 m 6 ls [.int r_2]) rfl ?_
  obtain ⟨hq3_0, hq3_1, hq3_2⟩ := hq3
  rcases hq3_2 with ⟨rfl, hq3_k⟩ | rfl
  · skip
    refine lv_istore_n (lv' := [(1, .int 1), (0, .ref o)]) hx hb dX12_lawLine_6 rfl hl (by decide) rfl (fun ls hl => ?_)
    refine lv_iload_n hx hb dX12_lawLine_7 rfl (lv_at hl 0 rfl) ?_
    refine lv_if_ne (tgt := 29) hx hb dX12_lawLine_8 (by decide) (fun _ => ?_) (fun c4 => absurd c4 (by decide))
    refine lv_aload_n hx hb dX12_lawLine_29 rfl (lv_at hl 1 rfl) ?_
    refine lv_iconst (v := 0) hx hb dX12_lawLine_30 (by decide) ?_
    refine lv_bipush (v := 30) hx hb dX12_lawLine_31 (by decide) ?_
    have hL30 : (30 : Int32).toInt = 30 := by decide
    refine mcallV' (g := g) (q0 := 0) (ci := 10) (As := [.int 0, .int 30]) (rest := []) St hK hT hA hP hD hS hl.1 [0] [] rfl rfl rfl (m_figures l g o a th hi ac tp ba en at2_1 fl 0 iD iO tU fm fk fa fc ft ff fb fi 0 30 hba hen hq3_0 hfl (by decide)) (cwV 2 hts (zgL (zl4 k902 k903 k904 k839) k898) rfl rfl rfl (by decide +kernel) ⟨Nat.le_of_ble_eq_true rfl, Nat.le_of_ble_eq_true rfl⟩) rfl rfl rfl rfl (Nat.le_of_ble_eq_true rfl) dX12_lawLine_33 ⟨(Nat.le_of_ble_eq_true rfl), (Nat.le_of_ble_eq_true rfl)⟩ (fun u_ H locs hq8 hP hD hS => ?_)
    obtain ⟨at2_5, fl2_6, r_7⟩ := u_
    replace hq8 : (0 ≤ at2_5.toInt ∧ at2_5.toInt ≤ en.toInt + 7 - (0 : Int32).toInt) ∧ (at2_1.toInt ≤ at2_5.toInt) ∧ (-1 ≤ fl2_6.toInt) ∧ (zImp (fl2_6.toInt = -1) (fl.toInt = -1 ∧ (0 : Int32).toInt ≤ r_7.toInt ∧ r_7.toInt ≤ (30 : Int32).toInt)) := hq8
    have hP : va_P g.1 vwCl (List.flatten [bMo g o a th hi ac tp ba en at2_5 fl2_6 0 iD iO tU fm fk fa fc ft ff fb fi]) H := hP
    have hD : va_D A (List.flatten [bMo g o a th hi ac tp ba en at2_5 fl2_6 0 iD iO tU fm fk fa fc ft ff fb fi]) := hD
    refine W.widen (k := 0) (n := 0) (Nat.le_of_ble_eq_true rfl) (Nat.le_of_ble_eq_true rfl) ?_
    refine W.eq (g2 := F0 m 36 ls [.int r_7]) rfl ?_
    obtain ⟨hq8_0, hq8_1, hq8_2, hq8_3⟩ := hq8
    refine lv_istore_n (lv' := [(2, .int r_7), (1, .int 1), (0, .ref o)]) hx hb dX12_lawLine_36 rfl hl (by decide) rfl (fun ls hl => ?_)
    refine lv_aload_n hx hb dX12_lawLine_37 rfl (lv_at hl 2 rfl) ?_
    refine va_get (D := g.1) (ci := 10) (v := .int fl2_6) (C := RX12) (T := TX12) (N := 20) hx hb hts izRX12 hown hK hP 0 rfl rfl 12 (by decide) (hts _ k820) (fun _ h9 => h9) rfl dX12_lawLine_38 ?_
    refine lv_iconst (v := (-1)) hx hb dX12_lawLine_41 (by decide) ?_
    refine lv_icmp_eq (tgt := 46) hx hb dX12_lawLine_42 (by decide) (fun cb9 => ?_) (fun cb9 => ?_)
    · skip
      have c9 : fl2_6.toInt = (-1) := zeq cb9 rfl (by decide)
      have n10 : fl2_6.toInt ≤ (-1) := Int.le_trans (Int.le_of_eq c9) (Int.le_refl _)
      obtain ⟨e12, w11⟩ := hq8_3 c9
      have w13 : 0 ≤ r_7.toInt ∧ r_7.toInt ≤ 30 := by omega
      refine lv_aload_n hx hb dX12_lawLine_46 rfl (lv_at hl 2 rfl) ?_
      refine va_ldcS (q := g.2 108) hx hb hown (zra49 hT.2.1) dX12_lawLine_47 ?_
      refine mcallV' (g := g) (q0 := 0) (ci := 10) (As := [.ref (g.2 108)]) (rest := []) St hK hT hA hP hD hS hl.1 [0] [] rfl rfl rfl (m_has l g o a th hi ac tp ba en at2_5 fl2_6 0 iD iO tU fm fk fa fc ft ff fb fi (g.2 108) 49 zqa49 hba hen hq8_0 hq8_2 (by decide) rfl zla49 zna49) (cwV 1 hts (zgL (zl4 k899 k900 k901 k839) k889) rfl rfl rfl (by decide +kernel) ⟨Nat.le_of_ble_eq_true rfl, Nat.le_of_ble_eq_true rfl⟩) rfl rfl rfl rfl (Nat.le_of_ble_eq_true rfl) dX12_lawLine_49 ⟨(Nat.le_of_ble_eq_true rfl), (Nat.le_of_ble_eq_true rfl)⟩ (fun u_ H locs hq16 hP hD hS => ?_)
      obtain ⟨at2_14, r_15⟩ := u_
      replace hq16 : (0 ≤ at2_14.toInt ∧ at2_14.toInt ≤ en.toInt + 7 - (0 : Int32).toInt) ∧ (at2_5.toInt ≤ at2_14.toInt) ∧ (r_15 = 1 ∧ at2_5.toInt < at2_14.toInt ∧ at2_14.toInt ≤ en.toInt ∨ r_15 = 0) := hq16
      have hP : va_P g.1 vwCl (List.flatten [bMo g o a th hi ac tp ba en at2_14 fl2_6 0 iD iO tU fm fk fa fc ft ff fb fi]) H := hP
      have hD : va_D A (List.flatten [bMo g o a th hi ac tp ba en at2_14 fl2_6 0 iD iO tU fm fk fa fc ft ff fb fi]) := hD
      refine W.widen (k := 0) (n := 0) (Nat.le_of_ble_eq_true rfl) (Nat.le_of_ble_eq_true rfl) ?_
      refine W.eq (g2 := F0 m 52 ls [.int r_15]) rfl ?_
      obtain ⟨hq16_0, hq16_1, hq16_2⟩ := hq16
      rcases hq16_2 with ⟨rfl, hq16_k⟩ | rfl
      · skip
        refine lv_if_eq (tgt := 62) hx hb dX12_lawLine_52 (by decide) (fun c17 => absurd c17 (by decide)) (fun _ => ?_)
        refine lv_aload_n hx hb dX12_lawLine_55 rfl (lv_at hl 2 rfl) ?_
        refine mcallV' (g := g) (q0 := 0) (ci := 10) (As := []) (rest := []) St hK hT hA hP hD hS hl.1 [0] [] rfl rfl rfl (m_some0 l g o a th hi ac tp ba en at2_14 fl2_6 iD iO tU fm fk fa fc ft ff fb fi hiD hiO hba hen (by first | assumption | omega | decide | exact Or.inl (by decide) | exact Or.inr (by decide)) hq8_2 hde) (cwV 0 hts (zgL (zl4 k954 k955 k956 k839) k958) rfl rfl rfl (by decide +kernel) ⟨Nat.le_of_ble_eq_true rfl, Nat.le_of_ble_eq_true rfl⟩) rfl rfl rfl rfl (Nat.le_of_ble_eq_true rfl) dX12_lawLine_56 ⟨(Nat.le_of_ble_eq_true rfl), (Nat.le_of_ble_eq_true rfl)⟩ (fun u_ H locs hq21 hP hD hS => ?_)
        obtain ⟨at2_18, fl2_19, q_20⟩ := u_
        replace hq21 : (0 ≤ at2_18.toInt ∧ at2_18.toInt ≤ en.toInt + 7 - 0) ∧ (at2_14.toInt ≤ at2_18.toInt) ∧ (-1 ≤ fl2_19.toInt) ∧ (q_20 = 0 ∨ q_20 = 1) := hq21
        have hP : va_P g.1 vwCl (List.flatten [bMo g o a th hi ac tp ba en at2_18 fl2_19 0 iD iO tU fm fk fa fc ft ff fb fi]) H := hP
        have hD : va_D A (List.flatten [bMo g o a th hi ac tp ba en at2_18 fl2_19 0 iD iO tU fm fk fa fc ft ff fb fi]) := hD
        refine W.widen (k := 0) (n := 0) (Nat.le_of_ble_eq_true rfl) (Nat.le_of_ble_eq_true rfl) ?_
        refine W.eq (g2 := F0 m 59 ls [.int q_20]) rfl ?_
        obtain ⟨hq21_0, hq21_1, hq21_2, hq21_3⟩ := hq21
        rcases hq21_3 with rfl | rfl
        · skip
          refine lv_if_eq (tgt := 66) hx hb dX12_lawLine_59 (by decide) (fun _ => ?_) (fun c22 => absurd (by decide) c22)
          refine lv_iconst (v := 0) hx hb dX12_lawLine_66 (by decide) ?_
          refine lv_istore_n (lv' := [(3, .int 0), (2, .int r_7), (1, .int 1), (0, .ref o)]) hx hb dX12_lawLine_67 rfl hl (by decide) rfl (fun ls hl => ?_)
          refine lv_aload_n hx hb dX12_lawLine_68 rfl (lv_at hl 3 rfl) ?_
          refine va_get (D := g.1) (ci := 10) (v := .int fl2_19) (C := RX12) (T := TX12) (N := 20) hx hb hts izRX12 hown hK hP 0 rfl rfl 12 (by decide) (hts _ k820) (fun _ h9 => h9) rfl dX12_lawLine_69 ?_
          refine lv_iconst (v := (-1)) hx hb dX12_lawLine_72 (by decide) ?_
          refine lv_icmp_ne (tgt := 99) hx hb dX12_lawLine_73 (by decide) (fun cb9 => ?_) (fun cb9 => ?_)
          · skip
            have c23 : ¬ fl2_19.toInt = (-1) := zne cb9 rfl (by decide)
            have hP : va_P g.1 vwCl (List.flatten [bMo g o a th hi ac tp ba en at2_18 fl2_19 0 iD iO tU fm fk fa fc ft ff fb fi]) H := hP
            have hD : va_D A (List.flatten [bMo g o a th hi ac tp ba en at2_18 fl2_19 0 iD iO tU fm fk fa fc ft ff fb fi]) := hD
            exact mret_v hx hb hr hlocks hS (Nat.le_of_ble_eq_true rfl) (Nat.le_of_ble_eq_true rfl) dX12_lawLine_99 (at2_18, fl2_19, tU) rfl (show (0 ≤ at2_18.toInt ∧ at2_18.toInt ≤ en.toInt + 7 - 0) ∧ (tA.toInt ≤ at2_18.toInt) ∧ (-1 ≤ fl2_19.toInt) from ⟨hq21_0, (by first | assumption | omega | decide | exact rfl | exact zb01 (by omega) | exact Or.inl (by decide) | exact Or.inr (by first | omega | decide)), hq21_2⟩) hP hD
          · skip
            have c24 : fl2_19.toInt = (-1) := zeq cb9 rfl (by decide)
            have n25 : fl2_19.toInt ≤ (-1) := Int.le_trans (Int.le_of_eq c24) (Int.le_refl _)
            refine lv_iload_n hx hb dX12_lawLine_76 rfl (lv_at hl 0 rfl) ?_
            refine lv_if_eq (tgt := 99) hx hb dX12_lawLine_77 (by decide) (fun _ => ?_) (fun c26 => absurd (by decide) c26)
            have hP : va_P g.1 vwCl (List.flatten [bMo g o a th hi ac tp ba en at2_18 fl2_19 0 iD iO tU fm fk fa fc ft ff fb fi]) H := hP
            have hD : va_D A (List.flatten [bMo g o a th hi ac tp ba en at2_18 fl2_19 0 iD iO tU fm fk fa fc ft ff fb fi]) := hD
            exact mret_v hx hb hr hlocks hS (Nat.le_of_ble_eq_true rfl) (Nat.le_of_ble_eq_true rfl) dX12_lawLine_99 (at2_18, fl2_19, tU) rfl (show (0 ≤ at2_18.toInt ∧ at2_18.toInt ≤ en.toInt + 7 - 0) ∧ (tA.toInt ≤ at2_18.toInt) ∧ (-1 ≤ fl2_19.toInt) from ⟨hq21_0, (by first | assumption | omega | decide | exact rfl | exact zb01 (by omega) | exact Or.inl (by decide) | exact Or.inr (by first | omega | decide)), hq21_2⟩) hP hD
        · skip
          refine lv_if_eq (tgt := 66) hx hb dX12_lawLine_59 (by decide) (fun c27 => absurd c27 (by decide)) (fun _ => ?_)
          refine lv_iconst (v := 1) hx hb dX12_lawLine_62 (by decide) ?_
          refine lv_goto (tgt := 67) hx hb dX12_lawLine_63 (by decide) ?_
          refine lv_istore_n (lv' := [(3, .int 1), (2, .int r_7), (1, .int 1), (0, .ref o)]) hx hb dX12_lawLine_67 rfl hl (by decide) rfl (fun ls hl => ?_)
          refine lv_aload_n hx hb dX12_lawLine_68 rfl (lv_at hl 3 rfl) ?_
          refine va_get (D := g.1) (ci := 10) (v := .int fl2_19) (C := RX12) (T := TX12) (N := 20) hx hb hts izRX12 hown hK hP 0 rfl rfl 12 (by decide) (hts _ k820) (fun _ h9 => h9) rfl dX12_lawLine_69 ?_
          refine lv_iconst (v := (-1)) hx hb dX12_lawLine_72 (by decide) ?_
          refine lv_icmp_ne (tgt := 99) hx hb dX12_lawLine_73 (by decide) (fun cb9 => ?_) (fun cb9 => ?_)
          · skip
            have c28 : ¬ fl2_19.toInt = (-1) := zne cb9 rfl (by decide)
            have hP : va_P g.1 vwCl (List.flatten [bMo g o a th hi ac tp ba en at2_18 fl2_19 0 iD iO tU fm fk fa fc ft ff fb fi]) H := hP
            have hD : va_D A (List.flatten [bMo g o a th hi ac tp ba en at2_18 fl2_19 0 iD iO tU fm fk fa fc ft ff fb fi]) := hD
            exact mret_v hx hb hr hlocks hS (Nat.le_of_ble_eq_true rfl) (Nat.le_of_ble_eq_true rfl) dX12_lawLine_99 (at2_18, fl2_19, tU) rfl (show (0 ≤ at2_18.toInt ∧ at2_18.toInt ≤ en.toInt + 7 - 0) ∧ (tA.toInt ≤ at2_18.toInt) ∧ (-1 ≤ fl2_19.toInt) from ⟨hq21_0, (by first | assumption | omega | decide | exact rfl | exact zb01 (by omega) | exact Or.inl (by decide) | exact Or.inr (by first | omega | decide)), hq21_2⟩) hP hD
          · skip
            have c29 : fl2_19.toInt = (-1) := zeq cb9 rfl (by decide)
            have n30 : fl2_19.toInt ≤ (-1) := Int.le_trans (Int.le_of_eq c29) (Int.le_refl _)
            refine lv_iload_n hx hb dX12_lawLine_76 rfl (lv_at hl 0 rfl) ?_
            refine lv_if_eq (tgt := 99) hx hb dX12_lawLine_77 (by decide) (fun c31 => absurd c31 (by decide)) (fun _ => ?_)
            refine lv_aload_n hx hb dX12_lawLine_80 rfl (lv_at hl 3 rfl) ?_
            refine lv_dup hx hb dX12_lawLine_81 rfl ?_
            refine va_get (D := g.1) (ci := 10) (v := .int tU) (C := RX12) (T := TX12) (N := 20) hx hb hts izRX12 hown hK hP 0 rfl rfl 17 (by decide) (hts _ k963) (fun _ h9 => h9) rfl dX12_lawLine_82 ?_
            refine lv_iload_n hx hb dX12_lawLine_85 rfl (lv_at hl 2 rfl) ?_
            refine lv_if_eq (tgt := 93) hx hb dX12_lawLine_86 (by decide) (fun c32 => absurd c32 (by decide)) (fun _ => ?_)
            refine lv_iload_n hx hb dX12_lawLine_89 rfl (lv_at hl 1 rfl) ?_
            refine lv_goto (tgt := 95) hx hb dX12_lawLine_90 (by decide) ?_
            refine lv_iadd hx hb dX12_lawLine_95 ?_
            refine zg (fun x_33 => ?_)
            refine va_put (D := g.1) (ci := 10) (v := .int x_33) (ty := .int) (C := RX12) (T := TX12) (N := 20) hx hb hts izRX12 tyX12 tyX12_ok nmX12 hown hK hP hD hS 0 rfl rfl 17 (by decide) (hts _ k963) (fun _ h9 => h9) rfl (by decide +kernel) rfl rfl (Nat.le_of_ble_eq_true rfl) dX12_lawLine_96 (fun H locs hP hD hS => ?_)
            have hP : va_P g.1 vwCl (List.flatten [bMo g o a th hi ac tp ba en at2_18 fl2_19 0 iD iO x_33 fm fk fa fc ft ff fb fi]) H := hP
            have hD : va_D A (List.flatten [bMo g o a th hi ac tp ba en at2_18 fl2_19 0 iD iO x_33 fm fk fa fc ft ff fb fi]) := hD
            have hP : va_P g.1 vwCl (List.flatten [bMo g o a th hi ac tp ba en at2_18 fl2_19 0 iD iO x_33 fm fk fa fc ft ff fb fi]) H := hP
            have hD : va_D A (List.flatten [bMo g o a th hi ac tp ba en at2_18 fl2_19 0 iD iO x_33 fm fk fa fc ft ff fb fi]) := hD
            exact mret_v hx hb hr hlocks hS (Nat.le_of_ble_eq_true rfl) (Nat.le_of_ble_eq_true rfl) dX12_lawLine_99 (at2_18, fl2_19, x_33) rfl (show (0 ≤ at2_18.toInt ∧ at2_18.toInt ≤ en.toInt + 7 - 0) ∧ (tA.toInt ≤ at2_18.toInt) ∧ (-1 ≤ fl2_19.toInt) from ⟨hq21_0, (by first | assumption | omega | decide | exact rfl | exact zb01 (by omega) | exact Or.inl (by decide) | exact Or.inr (by first | omega | decide)), hq21_2⟩) hP hD
      · skip
        refine lv_if_eq (tgt := 62) hx hb dX12_lawLine_52 (by decide) (fun _ => ?_) (fun c34 => absurd (by decide) c34)
        refine lv_iconst (v := 1) hx hb dX12_lawLine_62 (by decide) ?_
        refine lv_goto (tgt := 67) hx hb dX12_lawLine_63 (by decide) ?_
        refine lv_istore_n (lv' := [(3, .int 1), (2, .int r_7), (1, .int 1), (0, .ref o)]) hx hb dX12_lawLine_67 rfl hl (by decide) rfl (fun ls hl => ?_)
        refine lv_aload_n hx hb dX12_lawLine_68 rfl (lv_at hl 3 rfl) ?_
        refine va_get (D := g.1) (ci := 10) (v := .int fl2_6) (C := RX12) (T := TX12) (N := 20) hx hb hts izRX12 hown hK hP 0 rfl rfl 12 (by decide) (hts _ k820) (fun _ h9 => h9) rfl dX12_lawLine_69 ?_
        refine lv_iconst (v := (-1)) hx hb dX12_lawLine_72 (by decide) ?_
        refine lv_icmp_ne (tgt := 99) hx hb dX12_lawLine_73 (by decide) (fun cb9 => ?_) (fun cb9 => ?_)
        · skip
          exact absurd (show ¬ fl2_6.toInt = (-1) from zne cb9 rfl (by decide)) (by omega)
        · skip
          have c36 : fl2_6.toInt = (-1) := zeq cb9 rfl (by decide)
          obtain ⟨e38, w37⟩ := hq8_3 c36
          have w39 : 0 ≤ r_7.toInt ∧ r_7.toInt ≤ 30 := by omega
          refine lv_iload_n hx hb dX12_lawLine_76 rfl (lv_at hl 0 rfl) ?_
          refine lv_if_eq (tgt := 99) hx hb dX12_lawLine_77 (by decide) (fun c40 => absurd c40 (by decide)) (fun _ => ?_)
          refine lv_aload_n hx hb dX12_lawLine_80 rfl (lv_at hl 3 rfl) ?_
          refine lv_dup hx hb dX12_lawLine_81 rfl ?_
          refine va_get (D := g.1) (ci := 10) (v := .int tU) (C := RX12) (T := TX12) (N := 20) hx hb hts izRX12 hown hK hP 0 rfl rfl 17 (by decide) (hts _ k963) (fun _ h9 => h9) rfl dX12_lawLine_82 ?_
          refine lv_iload_n hx hb dX12_lawLine_85 rfl (lv_at hl 2 rfl) ?_
          refine lv_if_eq (tgt := 93) hx hb dX12_lawLine_86 (by decide) (fun c41 => absurd c41 (by decide)) (fun _ => ?_)
          refine lv_iload_n hx hb dX12_lawLine_89 rfl (lv_at hl 1 rfl) ?_
          refine lv_goto (tgt := 95) hx hb dX12_lawLine_90 (by decide) ?_
          refine lv_iadd hx hb dX12_lawLine_95 ?_
          refine zg (fun x_42 => ?_)
          refine va_put (D := g.1) (ci := 10) (v := .int x_42) (ty := .int) (C := RX12) (T := TX12) (N := 20) hx hb hts izRX12 tyX12 tyX12_ok nmX12 hown hK hP hD hS 0 rfl rfl 17 (by decide) (hts _ k963) (fun _ h9 => h9) rfl (by decide +kernel) rfl rfl (Nat.le_of_ble_eq_true rfl) dX12_lawLine_96 (fun H locs hP hD hS => ?_)
          have hP : va_P g.1 vwCl (List.flatten [bMo g o a th hi ac tp ba en at2_14 fl2_6 0 iD iO x_42 fm fk fa fc ft ff fb fi]) H := hP
          have hD : va_D A (List.flatten [bMo g o a th hi ac tp ba en at2_14 fl2_6 0 iD iO x_42 fm fk fa fc ft ff fb fi]) := hD
          have hP : va_P g.1 vwCl (List.flatten [bMo g o a th hi ac tp ba en at2_14 fl2_6 0 iD iO x_42 fm fk fa fc ft ff fb fi]) H := hP
          have hD : va_D A (List.flatten [bMo g o a th hi ac tp ba en at2_14 fl2_6 0 iD iO x_42 fm fk fa fc ft ff fb fi]) := hD
          exact mret_v hx hb hr hlocks hS (Nat.le_of_ble_eq_true rfl) (Nat.le_of_ble_eq_true rfl) dX12_lawLine_99 (at2_14, fl2_6, x_42) rfl (show (0 ≤ at2_14.toInt ∧ at2_14.toInt ≤ en.toInt + 7 - 0) ∧ (tA.toInt ≤ at2_14.toInt) ∧ (-1 ≤ fl2_6.toInt) from ⟨(by first | assumption | omega | decide | exact rfl | exact zb01 (by omega) | exact Or.inl (by decide) | exact Or.inr (by first | omega | decide)), (by first | assumption | omega | decide | exact rfl | exact zb01 (by omega) | exact Or.inl (by decide) | exact Or.inr (by first | omega | decide)), hq8_2⟩) hP hD
    · skip
      have c43 : ¬ fl2_6.toInt = (-1) := zne cb9 rfl (by decide)
      have hP : va_P g.1 vwCl (List.flatten [bMo g o a th hi ac tp ba en at2_5 fl2_6 0 iD iO tU fm fk fa fc ft ff fb fi]) H := hP
      have hD : va_D A (List.flatten [bMo g o a th hi ac tp ba en at2_5 fl2_6 0 iD iO tU fm fk fa fc ft ff fb fi]) := hD
      exact mret_v hx hb hr hlocks hS (Nat.le_of_ble_eq_true rfl) (Nat.le_of_ble_eq_true rfl) dX12_lawLine_45 (at2_5, fl2_6, tU) rfl (show (0 ≤ at2_5.toInt ∧ at2_5.toInt ≤ en.toInt + 7 - 0) ∧ (tA.toInt ≤ at2_5.toInt) ∧ (-1 ≤ fl2_6.toInt) from ⟨(by first | assumption | omega | decide | exact rfl | exact zb01 (by omega) | exact Or.inl (by decide) | exact Or.inr (by first | omega | decide)), (by first | assumption | omega | decide | exact rfl | exact zb01 (by omega) | exact Or.inl (by decide) | exact Or.inr (by first | omega | decide)), hq8_2⟩) hP hD
  · skip
    refine lv_istore_n (lv' := [(1, .int 0), (0, .ref o)]) hx hb dX12_lawLine_6 rfl hl (by decide) rfl (fun ls hl => ?_)
    refine lv_iload_n hx hb dX12_lawLine_7 rfl (lv_at hl 0 rfl) ?_
    refine lv_if_ne (tgt := 29) hx hb dX12_lawLine_8 (by decide) (fun c44 => absurd (by decide) c44) (fun _ => ?_)
    refine lv_aload_n hx hb dX12_lawLine_11 rfl (lv_at hl 1 rfl) ?_
    refine va_ldcS (q := g.2 106) hx hb hown (zra48 hT.2.1) dX12_lawLine_12 ?_
    refine mcallV' (g := g) (q0 := 0) (ci := 10) (As := [.ref (g.2 106)]) (rest := []) St hK hT hA hP hD hS hl.1 [0] [] rfl rfl rfl (m_has l g o a th hi ac tp ba en at2_1 fl 0 iD iO tU fm fk fa fc ft ff fb fi (g.2 106) 48 zqa48 hba hen hq3_0 hfl (by decide) rfl zla48 zna48) (cwV 1 hts (zgL (zl4 k899 k900 k901 k839) k889) rfl rfl rfl (by decide +kernel) ⟨Nat.le_of_ble_eq_true rfl, Nat.le_of_ble_eq_true rfl⟩) rfl rfl rfl rfl (Nat.le_of_ble_eq_true rfl) dX12_lawLine_14 ⟨(Nat.le_of_ble_eq_true rfl), (Nat.le_of_ble_eq_true rfl)⟩ (fun u_ H locs hq47 hP hD hS => ?_)
    obtain ⟨at2_45, r_46⟩ := u_
    replace hq47 : (0 ≤ at2_45.toInt ∧ at2_45.toInt ≤ en.toInt + 7 - (0 : Int32).toInt) ∧ (at2_1.toInt ≤ at2_45.toInt) ∧ (r_46 = 1 ∧ at2_1.toInt < at2_45.toInt ∧ at2_45.toInt ≤ en.toInt ∨ r_46 = 0) := hq47
    have hP : va_P g.1 vwCl (List.flatten [bMo g o a th hi ac tp ba en at2_45 fl 0 iD iO tU fm fk fa fc ft ff fb fi]) H := hP
    have hD : va_D A (List.flatten [bMo g o a th hi ac tp ba en at2_45 fl 0 iD iO tU fm fk fa fc ft ff fb fi]) := hD
    refine W.widen (k := 0) (n := 0) (Nat.le_of_ble_eq_true rfl) (Nat.le_of_ble_eq_true rfl) ?_
    refine W.eq (g2 := F0 m 17 ls [.int r_46]) rfl ?_
    obtain ⟨hq47_0, hq47_1, hq47_2⟩ := hq47
    rcases hq47_2 with ⟨rfl, hq47_k⟩ | rfl
    · skip
      refine lv_if_ne (tgt := 29) hx hb dX12_lawLine_17 (by decide) (fun _ => ?_) (fun c48 => absurd c48 (by decide))
      refine lv_aload_n hx hb dX12_lawLine_29 rfl (lv_at hl 1 rfl) ?_
      refine lv_iconst (v := 0) hx hb dX12_lawLine_30 (by decide) ?_
      refine lv_bipush (v := 30) hx hb dX12_lawLine_31 (by decide) ?_
      have hL30 : (30 : Int32).toInt = 30 := by decide
      refine mcallV' (g := g) (q0 := 0) (ci := 10) (As := [.int 0, .int 30]) (rest := []) St hK hT hA hP hD hS hl.1 [0] [] rfl rfl rfl (m_figures l g o a th hi ac tp ba en at2_45 fl 0 iD iO tU fm fk fa fc ft ff fb fi 0 30 hba hen hq47_0 hfl (by decide)) (cwV 2 hts (zgL (zl4 k902 k903 k904 k839) k898) rfl rfl rfl (by decide +kernel) ⟨Nat.le_of_ble_eq_true rfl, Nat.le_of_ble_eq_true rfl⟩) rfl rfl rfl rfl (Nat.le_of_ble_eq_true rfl) dX12_lawLine_33 ⟨(Nat.le_of_ble_eq_true rfl), (Nat.le_of_ble_eq_true rfl)⟩ (fun u_ H locs hq52 hP hD hS => ?_)
      obtain ⟨at2_49, fl2_50, r_51⟩ := u_
      replace hq52 : (0 ≤ at2_49.toInt ∧ at2_49.toInt ≤ en.toInt + 7 - (0 : Int32).toInt) ∧ (at2_45.toInt ≤ at2_49.toInt) ∧ (-1 ≤ fl2_50.toInt) ∧ (zImp (fl2_50.toInt = -1) (fl.toInt = -1 ∧ (0 : Int32).toInt ≤ r_51.toInt ∧ r_51.toInt ≤ (30 : Int32).toInt)) := hq52
      have hP : va_P g.1 vwCl (List.flatten [bMo g o a th hi ac tp ba en at2_49 fl2_50 0 iD iO tU fm fk fa fc ft ff fb fi]) H := hP
      have hD : va_D A (List.flatten [bMo g o a th hi ac tp ba en at2_49 fl2_50 0 iD iO tU fm fk fa fc ft ff fb fi]) := hD
      refine W.widen (k := 0) (n := 0) (Nat.le_of_ble_eq_true rfl) (Nat.le_of_ble_eq_true rfl) ?_
      refine W.eq (g2 := F0 m 36 ls [.int r_51]) rfl ?_
      obtain ⟨hq52_0, hq52_1, hq52_2, hq52_3⟩ := hq52
      refine lv_istore_n (lv' := [(2, .int r_51), (1, .int 0), (0, .ref o)]) hx hb dX12_lawLine_36 rfl hl (by decide) rfl (fun ls hl => ?_)
      refine lv_aload_n hx hb dX12_lawLine_37 rfl (lv_at hl 2 rfl) ?_
      refine va_get (D := g.1) (ci := 10) (v := .int fl2_50) (C := RX12) (T := TX12) (N := 20) hx hb hts izRX12 hown hK hP 0 rfl rfl 12 (by decide) (hts _ k820) (fun _ h9 => h9) rfl dX12_lawLine_38 ?_
      refine lv_iconst (v := (-1)) hx hb dX12_lawLine_41 (by decide) ?_
      refine lv_icmp_eq (tgt := 46) hx hb dX12_lawLine_42 (by decide) (fun cb9 => ?_) (fun cb9 => ?_)
      · skip
        have c53 : fl2_50.toInt = (-1) := zeq cb9 rfl (by decide)
        have n54 : fl2_50.toInt ≤ (-1) := Int.le_trans (Int.le_of_eq c53) (Int.le_refl _)
        obtain ⟨e56, w55⟩ := hq52_3 c53
        have w57 : 0 ≤ r_51.toInt ∧ r_51.toInt ≤ 30 := by omega
        refine lv_aload_n hx hb dX12_lawLine_46 rfl (lv_at hl 2 rfl) ?_
        refine va_ldcS (q := g.2 108) hx hb hown (zra49 hT.2.1) dX12_lawLine_47 ?_
        refine mcallV' (g := g) (q0 := 0) (ci := 10) (As := [.ref (g.2 108)]) (rest := []) St hK hT hA hP hD hS hl.1 [0] [] rfl rfl rfl (m_has l g o a th hi ac tp ba en at2_49 fl2_50 0 iD iO tU fm fk fa fc ft ff fb fi (g.2 108) 49 zqa49 hba hen hq52_0 hq52_2 (by decide) rfl zla49 zna49) (cwV 1 hts (zgL (zl4 k899 k900 k901 k839) k889) rfl rfl rfl (by decide +kernel) ⟨Nat.le_of_ble_eq_true rfl, Nat.le_of_ble_eq_true rfl⟩) rfl rfl rfl rfl (Nat.le_of_ble_eq_true rfl) dX12_lawLine_49 ⟨(Nat.le_of_ble_eq_true rfl), (Nat.le_of_ble_eq_true rfl)⟩ (fun u_ H locs hq60 hP hD hS => ?_)
        obtain ⟨at2_58, r_59⟩ := u_
        replace hq60 : (0 ≤ at2_58.toInt ∧ at2_58.toInt ≤ en.toInt + 7 - (0 : Int32).toInt) ∧ (at2_49.toInt ≤ at2_58.toInt) ∧ (r_59 = 1 ∧ at2_49.toInt < at2_58.toInt ∧ at2_58.toInt ≤ en.toInt ∨ r_59 = 0) := hq60
        have hP : va_P g.1 vwCl (List.flatten [bMo g o a th hi ac tp ba en at2_58 fl2_50 0 iD iO tU fm fk fa fc ft ff fb fi]) H := hP
        have hD : va_D A (List.flatten [bMo g o a th hi ac tp ba en at2_58 fl2_50 0 iD iO tU fm fk fa fc ft ff fb fi]) := hD
        refine W.widen (k := 0) (n := 0) (Nat.le_of_ble_eq_true rfl) (Nat.le_of_ble_eq_true rfl) ?_
        refine W.eq (g2 := F0 m 52 ls [.int r_59]) rfl ?_
        obtain ⟨hq60_0, hq60_1, hq60_2⟩ := hq60
        rcases hq60_2 with ⟨rfl, hq60_k⟩ | rfl
        · skip
          refine lv_if_eq (tgt := 62) hx hb dX12_lawLine_52 (by decide) (fun c61 => absurd c61 (by decide)) (fun _ => ?_)
          refine lv_aload_n hx hb dX12_lawLine_55 rfl (lv_at hl 2 rfl) ?_
          refine mcallV' (g := g) (q0 := 0) (ci := 10) (As := []) (rest := []) St hK hT hA hP hD hS hl.1 [0] [] rfl rfl rfl (m_some0 l g o a th hi ac tp ba en at2_58 fl2_50 iD iO tU fm fk fa fc ft ff fb fi hiD hiO hba hen (by first | assumption | omega | decide | exact Or.inl (by decide) | exact Or.inr (by decide)) hq52_2 hde) (cwV 0 hts (zgL (zl4 k954 k955 k956 k839) k958) rfl rfl rfl (by decide +kernel) ⟨Nat.le_of_ble_eq_true rfl, Nat.le_of_ble_eq_true rfl⟩) rfl rfl rfl rfl (Nat.le_of_ble_eq_true rfl) dX12_lawLine_56 ⟨(Nat.le_of_ble_eq_true rfl), (Nat.le_of_ble_eq_true rfl)⟩ (fun u_ H locs hq65 hP hD hS => ?_)
          obtain ⟨at2_62, fl2_63, q_64⟩ := u_
          replace hq65 : (0 ≤ at2_62.toInt ∧ at2_62.toInt ≤ en.toInt + 7 - 0) ∧ (at2_58.toInt ≤ at2_62.toInt) ∧ (-1 ≤ fl2_63.toInt) ∧ (q_64 = 0 ∨ q_64 = 1) := hq65
          have hP : va_P g.1 vwCl (List.flatten [bMo g o a th hi ac tp ba en at2_62 fl2_63 0 iD iO tU fm fk fa fc ft ff fb fi]) H := hP
          have hD : va_D A (List.flatten [bMo g o a th hi ac tp ba en at2_62 fl2_63 0 iD iO tU fm fk fa fc ft ff fb fi]) := hD
          refine W.widen (k := 0) (n := 0) (Nat.le_of_ble_eq_true rfl) (Nat.le_of_ble_eq_true rfl) ?_
          refine W.eq (g2 := F0 m 59 ls [.int q_64]) rfl ?_
          obtain ⟨hq65_0, hq65_1, hq65_2, hq65_3⟩ := hq65
          rcases hq65_3 with rfl | rfl
          · skip
            refine lv_if_eq (tgt := 66) hx hb dX12_lawLine_59 (by decide) (fun _ => ?_) (fun c66 => absurd (by decide) c66)
            refine lv_iconst (v := 0) hx hb dX12_lawLine_66 (by decide) ?_
            refine lv_istore_n (lv' := [(3, .int 0), (2, .int r_51), (1, .int 0), (0, .ref o)]) hx hb dX12_lawLine_67 rfl hl (by decide) rfl (fun ls hl => ?_)
            refine lv_aload_n hx hb dX12_lawLine_68 rfl (lv_at hl 3 rfl) ?_
            refine va_get (D := g.1) (ci := 10) (v := .int fl2_63) (C := RX12) (T := TX12) (N := 20) hx hb hts izRX12 hown hK hP 0 rfl rfl 12 (by decide) (hts _ k820) (fun _ h9 => h9) rfl dX12_lawLine_69 ?_
            refine lv_iconst (v := (-1)) hx hb dX12_lawLine_72 (by decide) ?_
            refine lv_icmp_ne (tgt := 99) hx hb dX12_lawLine_73 (by decide) (fun cb9 => ?_) (fun cb9 => ?_)
            · skip
              have c67 : ¬ fl2_63.toInt = (-1) := zne cb9 rfl (by decide)
              have hP : va_P g.1 vwCl (List.flatten [bMo g o a th hi ac tp ba en at2_62 fl2_63 0 iD iO tU fm fk fa fc ft ff fb fi]) H := hP
              have hD : va_D A (List.flatten [bMo g o a th hi ac tp ba en at2_62 fl2_63 0 iD iO tU fm fk fa fc ft ff fb fi]) := hD
              exact mret_v hx hb hr hlocks hS (Nat.le_of_ble_eq_true rfl) (Nat.le_of_ble_eq_true rfl) dX12_lawLine_99 (at2_62, fl2_63, tU) rfl (show (0 ≤ at2_62.toInt ∧ at2_62.toInt ≤ en.toInt + 7 - 0) ∧ (tA.toInt ≤ at2_62.toInt) ∧ (-1 ≤ fl2_63.toInt) from ⟨hq65_0, (by first | assumption | omega | decide | exact rfl | exact zb01 (by omega) | exact Or.inl (by decide) | exact Or.inr (by first | omega | decide)), hq65_2⟩) hP hD
            · skip
              have c68 : fl2_63.toInt = (-1) := zeq cb9 rfl (by decide)
              have n69 : fl2_63.toInt ≤ (-1) := Int.le_trans (Int.le_of_eq c68) (Int.le_refl _)
              refine lv_iload_n hx hb dX12_lawLine_76 rfl (lv_at hl 0 rfl) ?_
              refine lv_if_eq (tgt := 99) hx hb dX12_lawLine_77 (by decide) (fun _ => ?_) (fun c70 => absurd (by decide) c70)
              have hP : va_P g.1 vwCl (List.flatten [bMo g o a th hi ac tp ba en at2_62 fl2_63 0 iD iO tU fm fk fa fc ft ff fb fi]) H := hP
              have hD : va_D A (List.flatten [bMo g o a th hi ac tp ba en at2_62 fl2_63 0 iD iO tU fm fk fa fc ft ff fb fi]) := hD
              exact mret_v hx hb hr hlocks hS (Nat.le_of_ble_eq_true rfl) (Nat.le_of_ble_eq_true rfl) dX12_lawLine_99 (at2_62, fl2_63, tU) rfl (show (0 ≤ at2_62.toInt ∧ at2_62.toInt ≤ en.toInt + 7 - 0) ∧ (tA.toInt ≤ at2_62.toInt) ∧ (-1 ≤ fl2_63.toInt) from ⟨hq65_0, (by first | assumption | omega | decide | exact rfl | exact zb01 (by omega) | exact Or.inl (by decide) | exact Or.inr (by first | omega | decide)), hq65_2⟩) hP hD
          · skip
            refine lv_if_eq (tgt := 66) hx hb dX12_lawLine_59 (by decide) (fun c71 => absurd c71 (by decide)) (fun _ => ?_)
            refine lv_iconst (v := 1) hx hb dX12_lawLine_62 (by decide) ?_
            refine lv_goto (tgt := 67) hx hb dX12_lawLine_63 (by decide) ?_
            refine lv_istore_n (lv' := [(3, .int 1), (2, .int r_51), (1, .int 0), (0, .ref o)]) hx hb dX12_lawLine_67 rfl hl (by decide) rfl (fun ls hl => ?_)
            refine lv_aload_n hx hb dX12_lawLine_68 rfl (lv_at hl 3 rfl) ?_
            refine va_get (D := g.1) (ci := 10) (v := .int fl2_63) (C := RX12) (T := TX12) (N := 20) hx hb hts izRX12 hown hK hP 0 rfl rfl 12 (by decide) (hts _ k820) (fun _ h9 => h9) rfl dX12_lawLine_69 ?_
            refine lv_iconst (v := (-1)) hx hb dX12_lawLine_72 (by decide) ?_
            refine lv_icmp_ne (tgt := 99) hx hb dX12_lawLine_73 (by decide) (fun cb9 => ?_) (fun cb9 => ?_)
            · skip
              have c72 : ¬ fl2_63.toInt = (-1) := zne cb9 rfl (by decide)
              have hP : va_P g.1 vwCl (List.flatten [bMo g o a th hi ac tp ba en at2_62 fl2_63 0 iD iO tU fm fk fa fc ft ff fb fi]) H := hP
              have hD : va_D A (List.flatten [bMo g o a th hi ac tp ba en at2_62 fl2_63 0 iD iO tU fm fk fa fc ft ff fb fi]) := hD
              exact mret_v hx hb hr hlocks hS (Nat.le_of_ble_eq_true rfl) (Nat.le_of_ble_eq_true rfl) dX12_lawLine_99 (at2_62, fl2_63, tU) rfl (show (0 ≤ at2_62.toInt ∧ at2_62.toInt ≤ en.toInt + 7 - 0) ∧ (tA.toInt ≤ at2_62.toInt) ∧ (-1 ≤ fl2_63.toInt) from ⟨hq65_0, (by first | assumption | omega | decide | exact rfl | exact zb01 (by omega) | exact Or.inl (by decide) | exact Or.inr (by first | omega | decide)), hq65_2⟩) hP hD
            · skip
              have c73 : fl2_63.toInt = (-1) := zeq cb9 rfl (by decide)
              have n74 : fl2_63.toInt ≤ (-1) := Int.le_trans (Int.le_of_eq c73) (Int.le_refl _)
              refine lv_iload_n hx hb dX12_lawLine_76 rfl (lv_at hl 0 rfl) ?_
              refine lv_if_eq (tgt := 99) hx hb dX12_lawLine_77 (by decide) (fun c75 => absurd c75 (by decide)) (fun _ => ?_)
              refine lv_aload_n hx hb dX12_lawLine_80 rfl (lv_at hl 3 rfl) ?_
              refine lv_dup hx hb dX12_lawLine_81 rfl ?_
              refine va_get (D := g.1) (ci := 10) (v := .int tU) (C := RX12) (T := TX12) (N := 20) hx hb hts izRX12 hown hK hP 0 rfl rfl 17 (by decide) (hts _ k963) (fun _ h9 => h9) rfl dX12_lawLine_82 ?_
              refine lv_iload_n hx hb dX12_lawLine_85 rfl (lv_at hl 2 rfl) ?_
              refine lv_if_eq (tgt := 93) hx hb dX12_lawLine_86 (by decide) (fun _ => ?_) (fun c76 => absurd (by decide) c76)
              refine lv_iload_n hx hb dX12_lawLine_93 rfl (lv_at hl 1 rfl) ?_
              refine lv_ineg hx hb dX12_lawLine_94 ?_
              refine zgv (zneg (i := r_51.toInt) rfl (by omega)) (fun x_77 hx_77 => ?_)
              refine lv_iadd hx hb dX12_lawLine_95 ?_
              refine zg (fun x_78 => ?_)
              refine va_put (D := g.1) (ci := 10) (v := .int x_78) (ty := .int) (C := RX12) (T := TX12) (N := 20) hx hb hts izRX12 tyX12 tyX12_ok nmX12 hown hK hP hD hS 0 rfl rfl 17 (by decide) (hts _ k963) (fun _ h9 => h9) rfl (by decide +kernel) rfl rfl (Nat.le_of_ble_eq_true rfl) dX12_lawLine_96 (fun H locs hP hD hS => ?_)
              have hP : va_P g.1 vwCl (List.flatten [bMo g o a th hi ac tp ba en at2_62 fl2_63 0 iD iO x_78 fm fk fa fc ft ff fb fi]) H := hP
              have hD : va_D A (List.flatten [bMo g o a th hi ac tp ba en at2_62 fl2_63 0 iD iO x_78 fm fk fa fc ft ff fb fi]) := hD
              have hP : va_P g.1 vwCl (List.flatten [bMo g o a th hi ac tp ba en at2_62 fl2_63 0 iD iO x_78 fm fk fa fc ft ff fb fi]) H := hP
              have hD : va_D A (List.flatten [bMo g o a th hi ac tp ba en at2_62 fl2_63 0 iD iO x_78 fm fk fa fc ft ff fb fi]) := hD
              exact mret_v hx hb hr hlocks hS (Nat.le_of_ble_eq_true rfl) (Nat.le_of_ble_eq_true rfl) dX12_lawLine_99 (at2_62, fl2_63, x_78) rfl (show (0 ≤ at2_62.toInt ∧ at2_62.toInt ≤ en.toInt + 7 - 0) ∧ (tA.toInt ≤ at2_62.toInt) ∧ (-1 ≤ fl2_63.toInt) from ⟨hq65_0, (by first | assumption | omega | decide | exact rfl | exact zb01 (by omega) | exact Or.inl (by decide) | exact Or.inr (by first | omega | decide)), hq65_2⟩) hP hD
        · skip
          refine lv_if_eq (tgt := 62) hx hb dX12_lawLine_52 (by decide) (fun _ => ?_) (fun c79 => absurd (by decide) c79)
          refine lv_iconst (v := 1) hx hb dX12_lawLine_62 (by decide) ?_
          refine lv_goto (tgt := 67) hx hb dX12_lawLine_63 (by decide) ?_
          refine lv_istore_n (lv' := [(3, .int 1), (2, .int r_51), (1, .int 0), (0, .ref o)]) hx hb dX12_lawLine_67 rfl hl (by decide) rfl (fun ls hl => ?_)
          refine lv_aload_n hx hb dX12_lawLine_68 rfl (lv_at hl 3 rfl) ?_
          refine va_get (D := g.1) (ci := 10) (v := .int fl2_50) (C := RX12) (T := TX12) (N := 20) hx hb hts izRX12 hown hK hP 0 rfl rfl 12 (by decide) (hts _ k820) (fun _ h9 => h9) rfl dX12_lawLine_69 ?_
          refine lv_iconst (v := (-1)) hx hb dX12_lawLine_72 (by decide) ?_
          refine lv_icmp_ne (tgt := 99) hx hb dX12_lawLine_73 (by decide) (fun cb9 => ?_) (fun cb9 => ?_)
          · skip
            exact absurd (show ¬ fl2_50.toInt = (-1) from zne cb9 rfl (by decide)) (by omega)
          · skip
            have c81 : fl2_50.toInt = (-1) := zeq cb9 rfl (by decide)
            obtain ⟨e83, w82⟩ := hq52_3 c81
            have w84 : 0 ≤ r_51.toInt ∧ r_51.toInt ≤ 30 := by omega
            refine lv_iload_n hx hb dX12_lawLine_76 rfl (lv_at hl 0 rfl) ?_
            refine lv_if_eq (tgt := 99) hx hb dX12_lawLine_77 (by decide) (fun c85 => absurd c85 (by decide)) (fun _ => ?_)
            refine lv_aload_n hx hb dX12_lawLine_80 rfl (lv_at hl 3 rfl) ?_
            refine lv_dup hx hb dX12_lawLine_81 rfl ?_
            refine va_get (D := g.1) (ci := 10) (v := .int tU) (C := RX12) (T := TX12) (N := 20) hx hb hts izRX12 hown hK hP 0 rfl rfl 17 (by decide) (hts _ k963) (fun _ h9 => h9) rfl dX12_lawLine_82 ?_
            refine lv_iload_n hx hb dX12_lawLine_85 rfl (lv_at hl 2 rfl) ?_
            refine lv_if_eq (tgt := 93) hx hb dX12_lawLine_86 (by decide) (fun _ => ?_) (fun c86 => absurd (by decide) c86)
            refine lv_iload_n hx hb dX12_lawLine_93 rfl (lv_at hl 1 rfl) ?_
            refine lv_ineg hx hb dX12_lawLine_94 ?_
            refine zgv (zneg (i := r_51.toInt) rfl (by omega)) (fun x_87 hx_87 => ?_)
            refine lv_iadd hx hb dX12_lawLine_95 ?_
            refine zg (fun x_88 => ?_)
            refine va_put (D := g.1) (ci := 10) (v := .int x_88) (ty := .int) (C := RX12) (T := TX12) (N := 20) hx hb hts izRX12 tyX12 tyX12_ok nmX12 hown hK hP hD hS 0 rfl rfl 17 (by decide) (hts _ k963) (fun _ h9 => h9) rfl (by decide +kernel) rfl rfl (Nat.le_of_ble_eq_true rfl) dX12_lawLine_96 (fun H locs hP hD hS => ?_)
            have hP : va_P g.1 vwCl (List.flatten [bMo g o a th hi ac tp ba en at2_58 fl2_50 0 iD iO x_88 fm fk fa fc ft ff fb fi]) H := hP
            have hD : va_D A (List.flatten [bMo g o a th hi ac tp ba en at2_58 fl2_50 0 iD iO x_88 fm fk fa fc ft ff fb fi]) := hD
            have hP : va_P g.1 vwCl (List.flatten [bMo g o a th hi ac tp ba en at2_58 fl2_50 0 iD iO x_88 fm fk fa fc ft ff fb fi]) H := hP
            have hD : va_D A (List.flatten [bMo g o a th hi ac tp ba en at2_58 fl2_50 0 iD iO x_88 fm fk fa fc ft ff fb fi]) := hD
            exact mret_v hx hb hr hlocks hS (Nat.le_of_ble_eq_true rfl) (Nat.le_of_ble_eq_true rfl) dX12_lawLine_99 (at2_58, fl2_50, x_88) rfl (show (0 ≤ at2_58.toInt ∧ at2_58.toInt ≤ en.toInt + 7 - 0) ∧ (tA.toInt ≤ at2_58.toInt) ∧ (-1 ≤ fl2_50.toInt) from ⟨(by first | assumption | omega | decide | exact rfl | exact zb01 (by omega) | exact Or.inl (by decide) | exact Or.inr (by first | omega | decide)), (by first | assumption | omega | decide | exact rfl | exact zb01 (by omega) | exact Or.inl (by decide) | exact Or.inr (by first | omega | decide)), hq52_2⟩) hP hD
      · skip
        have c89 : ¬ fl2_50.toInt = (-1) := zne cb9 rfl (by decide)
        have hP : va_P g.1 vwCl (List.flatten [bMo g o a th hi ac tp ba en at2_49 fl2_50 0 iD iO tU fm fk fa fc ft ff fb fi]) H := hP
        have hD : va_D A (List.flatten [bMo g o a th hi ac tp ba en at2_49 fl2_50 0 iD iO tU fm fk fa fc ft ff fb fi]) := hD
        exact mret_v hx hb hr hlocks hS (Nat.le_of_ble_eq_true rfl) (Nat.le_of_ble_eq_true rfl) dX12_lawLine_45 (at2_49, fl2_50, tU) rfl (show (0 ≤ at2_49.toInt ∧ at2_49.toInt ≤ en.toInt + 7 - 0) ∧ (tA.toInt ≤ at2_49.toInt) ∧ (-1 ≤ fl2_50.toInt) from ⟨(by first | assumption | omega | decide | exact rfl | exact zb01 (by omega) | exact Or.inl (by decide) | exact Or.inr (by first | omega | decide)), (by first | assumption | omega | decide | exact rfl | exact zb01 (by omega) | exact Or.inl (by decide) | exact Or.inr (by first | omega | decide)), hq52_2⟩) hP hD
    · skip
      refine lv_if_ne (tgt := 29) hx hb dX12_lawLine_17 (by decide) (fun c90 => absurd (by decide) c90) (fun _ => ?_)
      refine lv_aload_n hx hb dX12_lawLine_20 rfl (lv_at hl 1 rfl) ?_
      refine lv_aload_n hx hb dX12_lawLine_21 rfl (lv_at hl 1 rfl) ?_
      refine va_get (D := g.1) (ci := 10) (v := .int at2_45) (C := RX12) (T := TX12) (N := 20) hx hb hts izRX12 hown hK hP 0 rfl rfl 11 (by decide) (hts _ k878) (fun _ h9 => h9) rfl dX12_lawLine_22 ?_
      refine mcallV' (g := g) (q0 := 0) (ci := 10) (As := [.int at2_45]) (rest := []) St hK hT hA hP hD hS hl.1 [0] [] rfl rfl rfl (m_wrong l g o a th hi ac tp ba en at2_45 fl 0 iD iO tU fm fk fa fc ft ff fb fi at2_45 (by first | assumption | omega | decide | exact Or.inl (by decide) | exact Or.inr (by decide)) hfl) (cwV 1 hts (zgL (zl4 k895 k896 k897 k839) k890) rfl rfl rfl (by decide +kernel) ⟨Nat.le_of_ble_eq_true rfl, Nat.le_of_ble_eq_true rfl⟩) rfl rfl rfl rfl (Nat.le_of_ble_eq_true rfl) dX12_lawLine_25 ⟨(Nat.le_of_ble_eq_true rfl), (Nat.le_of_ble_eq_true rfl)⟩ (fun fl2_91 H locs hq92 hP hD hS => ?_)
      replace hq92 : (0 ≤ fl2_91.toInt) := hq92
      have hP : va_P g.1 vwCl (List.flatten [bMo g o a th hi ac tp ba en at2_45 fl2_91 0 iD iO tU fm fk fa fc ft ff fb fi]) H := hP
      have hD : va_D A (List.flatten [bMo g o a th hi ac tp ba en at2_45 fl2_91 0 iD iO tU fm fk fa fc ft ff fb fi]) := hD
      refine W.widen (k := 0) (n := 0) (Nat.le_of_ble_eq_true rfl) (Nat.le_of_ble_eq_true rfl) ?_
      refine W.eq (g2 := F0 m 28 ls []) rfl ?_
      have hP : va_P g.1 vwCl (List.flatten [bMo g o a th hi ac tp ba en at2_45 fl2_91 0 iD iO tU fm fk fa fc ft ff fb fi]) H := hP
      have hD : va_D A (List.flatten [bMo g o a th hi ac tp ba en at2_45 fl2_91 0 iD iO tU fm fk fa fc ft ff fb fi]) := hD
      exact mret_v hx hb hr hlocks hS (Nat.le_of_ble_eq_true rfl) (Nat.le_of_ble_eq_true rfl) dX12_lawLine_28 (at2_45, fl2_91, tU) rfl (show (0 ≤ at2_45.toInt ∧ at2_45.toInt ≤ en.toInt + 7 - 0) ∧ (tA.toInt ≤ at2_45.toInt) ∧ (-1 ≤ fl2_91.toInt) from ⟨(by first | assumption | omega | decide | exact rfl | exact zb01 (by omega) | exact Or.inl (by decide) | exact Or.inr (by first | omega | decide)), (by first | assumption | omega | decide | exact rfl | exact zb01 (by omega) | exact Or.inl (by decide) | exact Or.inr (by first | omega | decide)), (by first | assumption | omega | decide | exact rfl | exact zb01 (by omega) | exact Or.inl (by decide) | exact Or.inr (by first | omega | decide))⟩) hP hD
set_option maxRecDepth 100000 in
set_option maxHeartbeats 4000000 in
theorem m_readT (l : Launch) (g : zG) (o : Nat) (a : Nat → Nat) (th : Int32) (hi : Int32) (ac : Int32) (tp : Int32) (ba : Int32) (en : Int32) (tA : Int32) (fl : Int32) (iD : Int32) (iO : Int32) (tU : Int32) (fm : Nat → Int32) (fk : Nat → Int32) (fa : Nat → Int32) (fc : Nat → Int32) (ft : Nat → Int32) (ff : Nat → Int32) (fb : Nat → Int32) (fi : Nat → Int32) (hiD : 0 ≤ iD.toInt ∧ iD.toInt ≤ 1) (hiO : 0 ≤ iO.toInt ∧ iO.toInt ≤ 1) (hba : zBa ba.toInt) (hen : 0 ≤ en.toInt ∧ en.toInt ≤ 400) (htA : 0 ≤ tA.toInt ∧ tA.toInt ≤ en.toInt + 7 - 0) (hfl : -1 ≤ fl.toInt) (hde : 0 ≤ 0 ∧ 0 ≤ 6) : zM' g l yX12_read (Cond.code yX12_read cX12_read 4 (some .int) :: zB) ({ frames := 30, cells := 0, slots := 0, locals := 665 } : Room) [.ref o, .int 1] [bMo g o a th hi ac tp ba en tA fl 0 iD iO tU fm fk fa fc ft ff fb fi] (fun u : Int32 × Int32 × Int32 × Int32 => (fun (at2 : Int32) (fl2 : Int32) (tU2 : Int32) (q : Int32) => some (.int q)) (u.1) (u.2.1) (u.2.2.1) (u.2.2.2)) (fun u : Int32 × Int32 × Int32 × Int32 => (fun (at2 : Int32) (fl2 : Int32) (tU2 : Int32) (q : Int32) => (0 ≤ at2.toInt ∧ at2.toInt ≤ en.toInt + 7 - 0) ∧ (tA.toInt ≤ at2.toInt) ∧ (-1 ≤ fl2.toInt)) (u.1) (u.2.1) (u.2.2.1) (u.2.2.2)) (fun u : Int32 × Int32 × Int32 × Int32 => (fun (at2 : Int32) (fl2 : Int32) (tU2 : Int32) (q : Int32) => [bMo g o a th hi ac tp ba en at2 fl2 0 iD iO tU2 fm fk fa fc ft ff fb fi]) (u.1) (u.2.1) (u.2.2.1) (u.2.2.2)) := by
  refine zM'.of (cc := cX12_read) (maxL := 4) (rt := (some .int)) (by decide) rfl (Nat.le_of_ble_eq_true rfl) ?_
  intro p e s m args below meth c A ls St hr hlocks hin hK hT hA hP hD hS hl
  obtain ⟨hx, hb, hml, hown, hts⟩ := id St
  have hl : lv_has ls 4 [(0, .ref o), (1, .int 1)] := hl
  refine lv_aload_n hx hb dX12_read_0 rfl (lv_at hl 0 rfl) ?_
  have hL0 : (0 : Int32).toInt = 0 := by decide
  refine mcallV' (g := g) (q0 := 0) (ci := 10) (As := []) (rest := []) St hK hT hA hP hD hS hl.1 [0] [] rfl rfl rfl (m_skip l g o a th hi ac tp ba en tA fl 0 iD iO tU fm fk fa fc ft ff fb fi hba hen (by first | assumption | omega | decide | exact Or.inl (by decide) | exact Or.inr (by decide)) hfl (by decide)) (cwV 0 hts (zgL (zl4 k884 k885 k886 k839) k877) rfl rfl rfl (by decide +kernel) ⟨Nat.le_of_ble_eq_true rfl, Nat.le_of_ble_eq_true rfl⟩) rfl rfl rfl rfl (Nat.le_of_ble_eq_true rfl) dX12_read_1 ⟨(Nat.le_of_ble_eq_true rfl), (Nat.le_of_ble_eq_true rfl)⟩ (fun at2_1 H locs hq2 hP hD hS => ?_)
  replace hq2 : (0 ≤ at2_1.toInt ∧ at2_1.toInt ≤ en.toInt + 7 - (0 : Int32).toInt) ∧ (tA.toInt ≤ at2_1.toInt) := hq2
  have hP : va_P g.1 vwCl (List.flatten [bMo g o a th hi ac tp ba en at2_1 fl 0 iD iO tU fm fk fa fc ft ff fb fi]) H := hP
  have hD : va_D A (List.flatten [bMo g o a th hi ac tp ba en at2_1 fl 0 iD iO tU fm fk fa fc ft ff fb fi]) := hD
  refine W.widen (k := 0) (n := 0) (Nat.le_of_ble_eq_true rfl) (Nat.le_of_ble_eq_true rfl) ?_
  refine W.eq (g2 := F0 m 4 ls []) rfl ?_
  obtain ⟨hq2_0, hq2_1⟩ := hq2
  refine lv_aload_n hx hb dX12_read_4 rfl (lv_at hl 0 rfl) ?_
  refine va_get (D := g.1) (ci := 10) (v := .int at2_1) (C := RX12) (T := TX12) (N := 20) hx hb hts izRX12 hown hK hP 0 rfl rfl 11 (by decide) (hts _ k878) (fun _ h9 => h9) rfl dX12_read_5 ?_
  refine lv_aload_n hx hb dX12_read_8 rfl (lv_at hl 0 rfl) ?_
  refine va_get (D := g.1) (ci := 10) (v := .int en) (C := RX12) (T := TX12) (N := 20) hx hb hts izRX12 hown hK hP 0 rfl rfl 10 (by decide) (hts _ k879) (fun _ h9 => h9) rfl dX12_read_9 ?_
  refine lv_icmp_ge (tgt := 19) hx hb dX12_read_12 (by decide) (fun cb9 => ?_) (fun cb9 => ?_)
  · skip
    have c3 : en.toInt ≤ at2_1.toInt := zle cb9 rfl rfl
    refine lv_iconst (v := 0) hx hb dX12_read_19 (by decide) ?_
    refine lv_istore_n (lv' := [(2, .int 0), (0, .ref o), (1, .int 1)]) hx hb dX12_read_20 rfl hl (by decide) rfl (fun ls hl => ?_)
    refine lv_iconst (v := 0) hx hb dX12_read_21 (by decide) ?_
    refine lv_istore_n (lv' := [(3, .int 0), (2, .int 0), (0, .ref o), (1, .int 1)]) hx hb dX12_read_22 rfl hl (by decide) rfl (fun ls hl => ?_)
    have hl := lv_sub (l' := [(0, .ref o), (1, .int 1), (2, .int 0), (3, .int 0)]) hl [2, 3, 1, 0] rfl
    have LP23_17 : ∀ (kf : Nat) (x_4 : Int32) (x_5 : Int32) (x_6 : Int32) (x_7 : Int32) (x_8 : Int32), (0 ≤ x_4.toInt ∧ x_4.toInt ≤ 1) → (0 ≤ x_5.toInt ∧ x_5.toInt ≤ 14) → (0 ≤ x_6.toInt ∧ x_6.toInt ≤ 408) → ((-1) ≤ x_7.toInt) → (x_4.toInt = 0 ∨ ¬ x_7.toInt = -1 ∨ x_5.toInt ≤ 12) → (tA.toInt ≤ x_6.toInt) → (x_6.toInt ≤ en.toInt + 7 - 0) → (-1 ≤ x_7.toInt) → ∀ (H : Heap) (locs : List Loc) (ls : Array Slot), ((15 - x_5.toInt).toNat) < kf → va_P g.1 vwCl (List.flatten [bMo g o a th hi ac tp ba en x_6 x_7 0 iD iO x_8 fm fk fa fc ft ff fb fi]) H → va_D A (List.flatten [bMo g o a th hi ac tp ba en x_6 x_7 0 iD iO x_8 fm fk fa fc ft ff fb fi]) → va_S A s.heap H locs → lv_has ls 4 [(0, .ref o), (1, .int 1), (2, .int x_4), (3, .int x_5)] → W p l e ({ frames := 30, cells := 0, slots := 0, locals := 665 } : Room) s m args below meth c H locs (0) (0) (zF g (fun u : Int32 × Int32 × Int32 × Int32 => (fun (at2 : Int32) (fl2 : Int32) (tU2 : Int32) (q : Int32) => some (.int q)) (u.1) (u.2.1) (u.2.2.1) (u.2.2.2)) (fun u : Int32 × Int32 × Int32 × Int32 => (fun (at2 : Int32) (fl2 : Int32) (tU2 : Int32) (q : Int32) => (0 ≤ at2.toInt ∧ at2.toInt ≤ en.toInt + 7 - 0) ∧ (tA.toInt ≤ at2.toInt) ∧ (-1 ≤ fl2.toInt)) (u.1) (u.2.1) (u.2.2.1) (u.2.2.2)) (fun u : Int32 × Int32 × Int32 × Int32 => (fun (at2 : Int32) (fl2 : Int32) (tU2 : Int32) (q : Int32) => [bMo g o a th hi ac tp ba en at2 fl2 0 iD iO tU2 fm fk fa fc ft ff fb fi]) (u.1) (u.2.1) (u.2.2.1) (u.2.2.2)) ({ frames := 30, cells := 0, slots := 0, locals := 665 } : Room) below args s A) (F0 m 23 ls []) := by
      intro kf
      induction kf with
      | zero => intro x_4 x_5 x_6 x_7 x_8 i9 i10 i11 i12 i13 i14 i15 i16 H locs ls hk; exact absurd hk (Nat.not_lt_zero _)
      | succ kf ih23_18 =>
        intro x_4 x_5 x_6 x_7 x_8 i9 i10 i11 i12 i13 i14 i15 i16 H locs ls hk23_18 hP hD hS hl
        refine lv_iload_n hx hb dX12_read_23 rfl (lv_at hl 2 rfl) ?_
        refine lv_if_eq (tgt := 144) hx hb dX12_read_24 (by decide) (fun cb9 => ?_) (fun cb9 => ?_)
        · skip
          have c19 : x_4.toInt = 0 := zeq cb9 rfl (by decide)
          have n20 : x_4.toInt ≤ 0 := Int.le_trans (Int.le_of_eq c19) (Int.le_refl _)
          refine lv_iload_n hx hb dX12_read_144 rfl (lv_at hl 3 rfl) ?_
          have hP : va_P g.1 vwCl (List.flatten [bMo g o a th hi ac tp ba en x_6 x_7 0 iD iO x_8 fm fk fa fc ft ff fb fi]) H := hP
          have hD : va_D A (List.flatten [bMo g o a th hi ac tp ba en x_6 x_7 0 iD iO x_8 fm fk fa fc ft ff fb fi]) := hD
          exact mret_i hx hb hr hlocks hS (Nat.le_of_ble_eq_true rfl) (Nat.le_of_ble_eq_true rfl) dX12_read_145 (x_6, x_7, x_8, x_5) rfl (show (0 ≤ x_6.toInt ∧ x_6.toInt ≤ en.toInt + 7 - 0) ∧ (tA.toInt ≤ x_6.toInt) ∧ (-1 ≤ x_7.toInt) from ⟨(by first | assumption | omega | decide | exact rfl | exact zb01 (by omega) | exact Or.inl (by decide) | exact Or.inr (by first | omega | decide)), i14, i16⟩) hP hD
        · skip
          have c21 : ¬ x_4.toInt = 0 := zne cb9 rfl (by decide)
          have n22 : 1 ≤ x_4.toInt := zN1 c21 i9.1 (by decide)
          refine lv_aload_n hx hb dX12_read_27 rfl (lv_at hl 0 rfl) ?_
          refine va_get (D := g.1) (ci := 10) (v := .int x_7) (C := RX12) (T := TX12) (N := 20) hx hb hts izRX12 hown hK hP 0 rfl rfl 12 (by decide) (hts _ k820) (fun _ h9 => h9) rfl dX12_read_28 ?_
          refine lv_iconst (v := (-1)) hx hb dX12_read_31 (by decide) ?_
          refine lv_icmp_ne (tgt := 144) hx hb dX12_read_32 (by decide) (fun cb9 => ?_) (fun cb9 => ?_)
          · skip
            have c23 : ¬ x_7.toInt = (-1) := zne cb9 rfl (by decide)
            have n24 : 0 ≤ x_7.toInt := zN1 c23 i12 (by decide)
            refine lv_iload_n hx hb dX12_read_144 rfl (lv_at hl 3 rfl) ?_
            have hP : va_P g.1 vwCl (List.flatten [bMo g o a th hi ac tp ba en x_6 x_7 0 iD iO x_8 fm fk fa fc ft ff fb fi]) H := hP
            have hD : va_D A (List.flatten [bMo g o a th hi ac tp ba en x_6 x_7 0 iD iO x_8 fm fk fa fc ft ff fb fi]) := hD
            exact mret_i hx hb hr hlocks hS (Nat.le_of_ble_eq_true rfl) (Nat.le_of_ble_eq_true rfl) dX12_read_145 (x_6, x_7, x_8, x_5) rfl (show (0 ≤ x_6.toInt ∧ x_6.toInt ≤ en.toInt + 7 - 0) ∧ (tA.toInt ≤ x_6.toInt) ∧ (-1 ≤ x_7.toInt) from ⟨(by first | assumption | omega | decide | exact rfl | exact zb01 (by omega) | exact Or.inl (by decide) | exact Or.inr (by first | omega | decide)), i14, i16⟩) hP hD
          · skip
            have c25 : x_7.toInt = (-1) := zeq cb9 rfl (by decide)
            have n26 : x_7.toInt ≤ (-1) := Int.le_trans (Int.le_of_eq c25) (Int.le_refl _)
            refine lv_aload_n hx hb dX12_read_35 rfl (lv_at hl 0 rfl) ?_
            refine mcallV' (g := g) (q0 := 0) (ci := 10) (As := []) (rest := []) St hK hT hA hP hD hS hl.1 [0] [] rfl rfl rfl (m_skip l g o a th hi ac tp ba en x_6 x_7 0 iD iO x_8 fm fk fa fc ft ff fb fi hba hen (by first | assumption | omega | decide | exact Or.inl (by decide) | exact Or.inr (by decide)) i16 (by decide)) (cwV 0 hts (zgL (zl4 k884 k885 k886 k839) k877) rfl rfl rfl (by decide +kernel) ⟨Nat.le_of_ble_eq_true rfl, Nat.le_of_ble_eq_true rfl⟩) rfl rfl rfl rfl (Nat.le_of_ble_eq_true rfl) dX12_read_36 ⟨(Nat.le_of_ble_eq_true rfl), (Nat.le_of_ble_eq_true rfl)⟩ (fun at2_27 H locs hq28 hP hD hS => ?_)
            replace hq28 : (0 ≤ at2_27.toInt ∧ at2_27.toInt ≤ en.toInt + 7 - (0 : Int32).toInt) ∧ (x_6.toInt ≤ at2_27.toInt) := hq28
            have hP : va_P g.1 vwCl (List.flatten [bMo g o a th hi ac tp ba en at2_27 x_7 0 iD iO x_8 fm fk fa fc ft ff fb fi]) H := hP
            have hD : va_D A (List.flatten [bMo g o a th hi ac tp ba en at2_27 x_7 0 iD iO x_8 fm fk fa fc ft ff fb fi]) := hD
            refine W.widen (k := 0) (n := 0) (Nat.le_of_ble_eq_true rfl) (Nat.le_of_ble_eq_true rfl) ?_
            refine W.eq (g2 := F0 m 39 ls []) rfl ?_
            obtain ⟨hq28_0, hq28_1⟩ := hq28
            refine lv_iload_n hx hb dX12_read_39 rfl (lv_at hl 3 rfl) ?_
            refine lv_iload_n hx hb dX12_read_40 rfl (lv_at hl 1 rfl) ?_
            refine lv_if_eq (tgt := 49) hx hb dX12_read_41 (by decide) (fun c29 => absurd c29 (by decide)) (fun _ => ?_)
            refine lv_bipush (v := 12) hx hb dX12_read_44 (by decide) ?_
            refine lv_goto (tgt := 51) hx hb dX12_read_46 (by decide) ?_
            refine lv_icmp_ne (tgt := 65) hx hb dX12_read_51 (by decide) (fun cb9 => ?_) (fun cb9 => ?_)
            · skip
              have c30 : ¬ x_5.toInt = 12 := zne cb9 rfl (by decide)
              refine lv_iload_n hx hb dX12_read_65 rfl (lv_at hl 1 rfl) ?_
              refine lv_if_eq (tgt := 76) hx hb dX12_read_66 (by decide) (fun c31 => absurd c31 (by decide)) (fun _ => ?_)
              refine lv_aload_n hx hb dX12_read_69 rfl (lv_at hl 0 rfl) ?_
              refine mcallV' (g := g) (q0 := 0) (ci := 10) (As := []) (rest := []) St hK hT hA hP hD hS hl.1 [0] [] rfl rfl rfl (m_lawLine l g o a th hi ac tp ba en at2_27 x_7 iD iO x_8 fm fk fa fc ft ff fb fi hiD hiO hba hen (by first | assumption | omega | decide | exact Or.inl (by decide) | exact Or.inr (by decide)) i16 hde) (cwV 0 hts (zgL (zl4 k965 k966 k967 k839) k964) rfl rfl rfl (by decide +kernel) ⟨Nat.le_of_ble_eq_true rfl, Nat.le_of_ble_eq_true rfl⟩) rfl rfl rfl rfl (Nat.le_of_ble_eq_true rfl) dX12_read_70 ⟨(Nat.le_of_ble_eq_true rfl), (Nat.le_of_ble_eq_true rfl)⟩ (fun u_ H locs hq35 hP hD hS => ?_)
              obtain ⟨at2_32, fl2_33, tU2_34⟩ := u_
              replace hq35 : (0 ≤ at2_32.toInt ∧ at2_32.toInt ≤ en.toInt + 7 - 0) ∧ (at2_27.toInt ≤ at2_32.toInt) ∧ (-1 ≤ fl2_33.toInt) := hq35
              have hP : va_P g.1 vwCl (List.flatten [bMo g o a th hi ac tp ba en at2_32 fl2_33 0 iD iO tU2_34 fm fk fa fc ft ff fb fi]) H := hP
              have hD : va_D A (List.flatten [bMo g o a th hi ac tp ba en at2_32 fl2_33 0 iD iO tU2_34 fm fk fa fc ft ff fb fi]) := hD
              refine W.widen (k := 0) (n := 0) (Nat.le_of_ble_eq_true rfl) (Nat.le_of_ble_eq_true rfl) ?_
              refine W.eq (g2 := F0 m 73 ls []) rfl ?_
              obtain ⟨hq35_0, hq35_1, hq35_2⟩ := hq35
              refine lv_goto (tgt := 80) hx hb dX12_read_73 (by decide) ?_
              refine ziinc3 (n' := 1) (a' := 1) (b' := 15) (lv' := fun v9 => [(3, .int v9), (0, .ref o), (1, .int 1), (2, .int x_4)]) hx hb dX12_read_80 hl (k := 3) rfl (by decide) (fun _ => rfl) (zaddK (i := x_5.toInt) (j := 1) rfl (by decide) i10.1 i10.2 (Int.le_refl _) (Int.le_refl _) (by decide)) (fun x_36 ls hx_36 hl => ?_)
              refine lv_aload_n hx hb dX12_read_83 rfl (lv_at hl 1 rfl) ?_
              refine mcallV' (g := g) (q0 := 0) (ci := 10) (As := []) (rest := []) St hK hT hA hP hD hS hl.1 [0] [] rfl rfl rfl (m_skip l g o a th hi ac tp ba en at2_32 fl2_33 0 iD iO tU2_34 fm fk fa fc ft ff fb fi hba hen (by first | assumption | omega | decide | exact Or.inl (by decide) | exact Or.inr (by decide)) hq35_2 (by decide)) (cwV 0 hts (zgL (zl4 k884 k885 k886 k839) k877) rfl rfl rfl (by decide +kernel) ⟨Nat.le_of_ble_eq_true rfl, Nat.le_of_ble_eq_true rfl⟩) rfl rfl rfl rfl (Nat.le_of_ble_eq_true rfl) dX12_read_84 ⟨(Nat.le_of_ble_eq_true rfl), (Nat.le_of_ble_eq_true rfl)⟩ (fun at2_37 H locs hq38 hP hD hS => ?_)
              replace hq38 : (0 ≤ at2_37.toInt ∧ at2_37.toInt ≤ en.toInt + 7 - (0 : Int32).toInt) ∧ (at2_32.toInt ≤ at2_37.toInt) := hq38
              have hP : va_P g.1 vwCl (List.flatten [bMo g o a th hi ac tp ba en at2_37 fl2_33 0 iD iO tU2_34 fm fk fa fc ft ff fb fi]) H := hP
              have hD : va_D A (List.flatten [bMo g o a th hi ac tp ba en at2_37 fl2_33 0 iD iO tU2_34 fm fk fa fc ft ff fb fi]) := hD
              refine W.widen (k := 0) (n := 0) (Nat.le_of_ble_eq_true rfl) (Nat.le_of_ble_eq_true rfl) ?_
              refine W.eq (g2 := F0 m 87 ls []) rfl ?_
              obtain ⟨hq38_0, hq38_1⟩ := hq38
              refine lv_aload_n hx hb dX12_read_87 rfl (lv_at hl 1 rfl) ?_
              refine va_get (D := g.1) (ci := 10) (v := .int fl2_33) (C := RX12) (T := TX12) (N := 20) hx hb hts izRX12 hown hK hP 0 rfl rfl 12 (by decide) (hts _ k820) (fun _ h9 => h9) rfl dX12_read_88 ?_
              refine lv_iconst (v := (-1)) hx hb dX12_read_91 (by decide) ?_
              refine lv_icmp_ne (tgt := 106) hx hb dX12_read_92 (by decide) (fun cb9 => ?_) (fun cb9 => ?_)
              · skip
                have c39 : ¬ fl2_33.toInt = (-1) := zne cb9 rfl (by decide)
                refine lv_iconst (v := 0) hx hb dX12_read_106 (by decide) ?_
                refine lv_istore_n (lv' := [(2, .int 0), (3, .int x_36), (0, .ref o), (1, .int 1)]) hx hb dX12_read_107 rfl hl (by decide) rfl (fun ls hl => ?_)
                refine lv_goto (tgt := 23) hx hb dX12_read_108 (by decide) ?_
                have hl := lv_sub (l' := [(0, .ref o), (1, .int 1), (2, .int 0), (3, .int x_36)]) hl [2, 3, 0, 1] rfl
                have hP : va_P g.1 vwCl (List.flatten [bMo g o a th hi ac tp ba en at2_37 fl2_33 0 iD iO tU2_34 fm fk fa fc ft ff fb fi]) H := hP
                have hD : va_D A (List.flatten [bMo g o a th hi ac tp ba en at2_37 fl2_33 0 iD iO tU2_34 fm fk fa fc ft ff fb fi]) := hD
                exact ih23_18 0 x_36 at2_37 fl2_33 tU2_34 (by decide) (by first | omega | assumption | decide) (by first | omega | assumption | decide) (by first | omega | assumption | decide) (by first | omega | assumption | decide) (by first | omega | assumption | decide) (by first | omega | assumption | decide) hq35_2 H _ ls (by omega)  hP hD hS (lv_sub hl [0, 1, 2, 3] rfl)
              · skip
                have c40 : fl2_33.toInt = (-1) := zeq cb9 rfl (by decide)
                have n41 : fl2_33.toInt ≤ (-1) := Int.le_trans (Int.le_of_eq c40) (Int.le_refl _)
                refine lv_aload_n hx hb dX12_read_95 rfl (lv_at hl 1 rfl) ?_
                refine va_get (D := g.1) (ci := 10) (v := .int at2_37) (C := RX12) (T := TX12) (N := 20) hx hb hts izRX12 hown hK hP 0 rfl rfl 11 (by decide) (hts _ k878) (fun _ h9 => h9) rfl dX12_read_96 ?_
                refine lv_aload_n hx hb dX12_read_99 rfl (lv_at hl 1 rfl) ?_
                refine va_get (D := g.1) (ci := 10) (v := .int en) (C := RX12) (T := TX12) (N := 20) hx hb hts izRX12 hown hK hP 0 rfl rfl 10 (by decide) (hts _ k879) (fun _ h9 => h9) rfl dX12_read_100 ?_
                refine lv_icmp_ne (tgt := 111) hx hb dX12_read_103 (by decide) (fun cb9 => ?_) (fun cb9 => ?_)
                · skip
                  have c42 : ¬ at2_37.toInt = en.toInt := zne cb9 rfl rfl
                  refine lv_aload_n hx hb dX12_read_111 rfl (lv_at hl 1 rfl) ?_
                  refine lv_bipush (v := 59) hx hb dX12_read_112 (by decide) ?_
                  refine mcallV' (g := g) (q0 := 0) (ci := 10) (As := [.int 59]) (rest := []) St hK hT hA hP hD hS hl.1 [0] [] rfl rfl rfl (m_isSign l g o a th hi ac tp ba en at2_37 fl2_33 0 iD iO tU2_34 fm fk fa fc ft ff fb fi 59 hba hen hq38_0 hq35_2 (by decide)) (cwV 1 hts (zgL (zl4 k938 k939 k940 k839) k883) rfl rfl rfl (by decide +kernel) ⟨Nat.le_of_ble_eq_true rfl, Nat.le_of_ble_eq_true rfl⟩) rfl rfl rfl rfl (Nat.le_of_ble_eq_true rfl) dX12_read_114 ⟨(Nat.le_of_ble_eq_true rfl), (Nat.le_of_ble_eq_true rfl)⟩ (fun u_ H locs hq45 hP hD hS => ?_)
                  obtain ⟨at2_43, q_44⟩ := u_
                  replace hq45 : (0 ≤ at2_43.toInt ∧ at2_43.toInt ≤ en.toInt + 7 - (0 : Int32).toInt) ∧ (at2_37.toInt ≤ at2_43.toInt) ∧ (q_44 = 1 ∧ at2_43.toInt < en.toInt ∨ q_44 = 0) := hq45
                  have hP : va_P g.1 vwCl (List.flatten [bMo g o a th hi ac tp ba en at2_43 fl2_33 0 iD iO tU2_34 fm fk fa fc ft ff fb fi]) H := hP
                  have hD : va_D A (List.flatten [bMo g o a th hi ac tp ba en at2_43 fl2_33 0 iD iO tU2_34 fm fk fa fc ft ff fb fi]) := hD
                  refine W.widen (k := 0) (n := 0) (Nat.le_of_ble_eq_true rfl) (Nat.le_of_ble_eq_true rfl) ?_
                  refine W.eq (g2 := F0 m 117 ls [.int q_44]) rfl ?_
                  obtain ⟨hq45_0, hq45_1, hq45_2⟩ := hq45
                  rcases hq45_2 with ⟨rfl, hq45_k⟩ | rfl
                  · skip
                    refine lv_if_eq (tgt := 133) hx hb dX12_read_117 (by decide) (fun c46 => absurd c46 (by decide)) (fun _ => ?_)
                    refine lv_aload_n hx hb dX12_read_120 rfl (lv_at hl 1 rfl) ?_
                    refine lv_dup hx hb dX12_read_121 rfl ?_
                    refine va_get (D := g.1) (ci := 10) (v := .int at2_43) (C := RX12) (T := TX12) (N := 20) hx hb hts izRX12 hown hK hP 0 rfl rfl 11 (by decide) (hts _ k878) (fun _ h9 => h9) rfl dX12_read_122 ?_
                    refine lv_iconst (v := 1) hx hb dX12_read_125 (by decide) ?_
                    refine lv_iadd hx hb dX12_read_126 ?_
                    refine zgv (zadd (i := at2_43.toInt) (j := 1) rfl (by decide) (by omega)) (fun x_47 hx_47 => ?_)
                    refine va_put (D := g.1) (ci := 10) (v := .int x_47) (ty := .int) (C := RX12) (T := TX12) (N := 20) hx hb hts izRX12 tyX12 tyX12_ok nmX12 hown hK hP hD hS 0 rfl rfl 11 (by decide) (hts _ k878) (fun _ h9 => h9) rfl (by decide +kernel) rfl rfl (Nat.le_of_ble_eq_true rfl) dX12_read_127 (fun H locs hP hD hS => ?_)
                    have hP : va_P g.1 vwCl (List.flatten [bMo g o a th hi ac tp ba en x_47 fl2_33 0 iD iO tU2_34 fm fk fa fc ft ff fb fi]) H := hP
                    have hD : va_D A (List.flatten [bMo g o a th hi ac tp ba en x_47 fl2_33 0 iD iO tU2_34 fm fk fa fc ft ff fb fi]) := hD
                    refine lv_goto (tgt := 23) hx hb dX12_read_130 (by decide) ?_
                    have hl := lv_sub (l' := [(0, .ref o), (1, .int 1), (2, .int x_4), (3, .int x_36)]) hl [1, 2, 3, 0] rfl
                    have hP : va_P g.1 vwCl (List.flatten [bMo g o a th hi ac tp ba en x_47 fl2_33 0 iD iO tU2_34 fm fk fa fc ft ff fb fi]) H := hP
                    have hD : va_D A (List.flatten [bMo g o a th hi ac tp ba en x_47 fl2_33 0 iD iO tU2_34 fm fk fa fc ft ff fb fi]) := hD
                    exact ih23_18 x_4 x_36 x_47 fl2_33 tU2_34 ⟨(Int.le_trans (by decide) n22), i9.2⟩ (by first | omega | assumption | decide) (by first | omega | assumption | decide) (by first | omega | assumption | decide) (by first | omega | assumption | decide) (by first | omega | assumption | decide) (by first | omega | assumption | decide) hq35_2 H _ ls (by omega)  hP hD hS (lv_sub hl [0, 1, 2, 3] rfl)
                  · skip
                    refine lv_if_eq (tgt := 133) hx hb dX12_read_117 (by decide) (fun _ => ?_) (fun c48 => absurd (by decide) c48)
                    refine lv_aload_n hx hb dX12_read_133 rfl (lv_at hl 1 rfl) ?_
                    refine lv_aload_n hx hb dX12_read_134 rfl (lv_at hl 1 rfl) ?_
                    refine va_get (D := g.1) (ci := 10) (v := .int at2_43) (C := RX12) (T := TX12) (N := 20) hx hb hts izRX12 hown hK hP 0 rfl rfl 11 (by decide) (hts _ k878) (fun _ h9 => h9) rfl dX12_read_135 ?_
                    refine mcallV' (g := g) (q0 := 0) (ci := 10) (As := [.int at2_43]) (rest := []) St hK hT hA hP hD hS hl.1 [0] [] rfl rfl rfl (m_wrong l g o a th hi ac tp ba en at2_43 fl2_33 0 iD iO tU2_34 fm fk fa fc ft ff fb fi at2_43 (by first | assumption | omega | decide | exact Or.inl (by decide) | exact Or.inr (by decide)) hq35_2) (cwV 1 hts (zgL (zl4 k895 k896 k897 k839) k890) rfl rfl rfl (by decide +kernel) ⟨Nat.le_of_ble_eq_true rfl, Nat.le_of_ble_eq_true rfl⟩) rfl rfl rfl rfl (Nat.le_of_ble_eq_true rfl) dX12_read_138 ⟨(Nat.le_of_ble_eq_true rfl), (Nat.le_of_ble_eq_true rfl)⟩ (fun fl2_49 H locs hq50 hP hD hS => ?_)
                    replace hq50 : (0 ≤ fl2_49.toInt) := hq50
                    have hP : va_P g.1 vwCl (List.flatten [bMo g o a th hi ac tp ba en at2_43 fl2_49 0 iD iO tU2_34 fm fk fa fc ft ff fb fi]) H := hP
                    have hD : va_D A (List.flatten [bMo g o a th hi ac tp ba en at2_43 fl2_49 0 iD iO tU2_34 fm fk fa fc ft ff fb fi]) := hD
                    refine W.widen (k := 0) (n := 0) (Nat.le_of_ble_eq_true rfl) (Nat.le_of_ble_eq_true rfl) ?_
                    refine W.eq (g2 := F0 m 141 ls []) rfl ?_
                    refine lv_goto (tgt := 23) hx hb dX12_read_141 (by decide) ?_
                    have hl := lv_sub (l' := [(0, .ref o), (1, .int 1), (2, .int x_4), (3, .int x_36)]) hl [1, 2, 3, 0] rfl
                    have hP : va_P g.1 vwCl (List.flatten [bMo g o a th hi ac tp ba en at2_43 fl2_49 0 iD iO tU2_34 fm fk fa fc ft ff fb fi]) H := hP
                    have hD : va_D A (List.flatten [bMo g o a th hi ac tp ba en at2_43 fl2_49 0 iD iO tU2_34 fm fk fa fc ft ff fb fi]) := hD
                    exact ih23_18 x_4 x_36 at2_43 fl2_49 tU2_34 ⟨(Int.le_trans (by decide) n22), i9.2⟩ (by first | omega | assumption | decide) (by first | omega | assumption | decide) (Int.le_trans (by decide) hq50) (by first | omega | assumption | decide) (by first | omega | assumption | decide) (by first | omega | assumption | decide) (by first | omega | assumption | decide) H _ ls (by omega)  hP hD hS (lv_sub hl [0, 1, 2, 3] rfl)
                · skip
                  have c51 : at2_37.toInt = en.toInt := zeq cb9 rfl rfl
                  have n52 : at2_37.toInt ≤ 400 := Int.le_trans (Int.le_of_eq c51) hen.2
                  refine lv_iconst (v := 0) hx hb dX12_read_106 (by decide) ?_
                  refine lv_istore_n (lv' := [(2, .int 0), (3, .int x_36), (0, .ref o), (1, .int 1)]) hx hb dX12_read_107 rfl hl (by decide) rfl (fun ls hl => ?_)
                  refine lv_goto (tgt := 23) hx hb dX12_read_108 (by decide) ?_
                  have hl := lv_sub (l' := [(0, .ref o), (1, .int 1), (2, .int 0), (3, .int x_36)]) hl [2, 3, 0, 1] rfl
                  have hP : va_P g.1 vwCl (List.flatten [bMo g o a th hi ac tp ba en at2_37 fl2_33 0 iD iO tU2_34 fm fk fa fc ft ff fb fi]) H := hP
                  have hD : va_D A (List.flatten [bMo g o a th hi ac tp ba en at2_37 fl2_33 0 iD iO tU2_34 fm fk fa fc ft ff fb fi]) := hD
                  exact ih23_18 0 x_36 at2_37 fl2_33 tU2_34 (by decide) (by first | omega | assumption | decide) (by first | omega | assumption | decide) (by first | omega | assumption | decide) (by first | omega | assumption | decide) (by first | omega | assumption | decide) (by first | omega | assumption | decide) hq35_2 H _ ls (by omega)  hP hD hS (lv_sub hl [0, 1, 2, 3] rfl)
            · skip
              have c53 : x_5.toInt = 12 := zeq cb9 rfl (by decide)
              have n54 : 12 ≤ x_5.toInt := Int.le_trans (Int.le_refl _) (Int.le_of_eq c53.symm)
              have n55 : x_5.toInt ≤ 12 := Int.le_trans (Int.le_of_eq c53) (Int.le_refl _)
              refine lv_aload_n hx hb dX12_read_54 rfl (lv_at hl 0 rfl) ?_
              refine lv_aload_n hx hb dX12_read_55 rfl (lv_at hl 0 rfl) ?_
              refine va_get (D := g.1) (ci := 10) (v := .int at2_27) (C := RX12) (T := TX12) (N := 20) hx hb hts izRX12 hown hK hP 0 rfl rfl 11 (by decide) (hts _ k878) (fun _ h9 => h9) rfl dX12_read_56 ?_
              refine mcallV' (g := g) (q0 := 0) (ci := 10) (As := [.int at2_27]) (rest := []) St hK hT hA hP hD hS hl.1 [0] [] rfl rfl rfl (m_wrong l g o a th hi ac tp ba en at2_27 x_7 0 iD iO x_8 fm fk fa fc ft ff fb fi at2_27 (by first | assumption | omega | decide | exact Or.inl (by decide) | exact Or.inr (by decide)) i16) (cwV 1 hts (zgL (zl4 k895 k896 k897 k839) k890) rfl rfl rfl (by decide +kernel) ⟨Nat.le_of_ble_eq_true rfl, Nat.le_of_ble_eq_true rfl⟩) rfl rfl rfl rfl (Nat.le_of_ble_eq_true rfl) dX12_read_59 ⟨(Nat.le_of_ble_eq_true rfl), (Nat.le_of_ble_eq_true rfl)⟩ (fun fl2_56 H locs hq57 hP hD hS => ?_)
              replace hq57 : (0 ≤ fl2_56.toInt) := hq57
              have hP : va_P g.1 vwCl (List.flatten [bMo g o a th hi ac tp ba en at2_27 fl2_56 0 iD iO x_8 fm fk fa fc ft ff fb fi]) H := hP
              have hD : va_D A (List.flatten [bMo g o a th hi ac tp ba en at2_27 fl2_56 0 iD iO x_8 fm fk fa fc ft ff fb fi]) := hD
              refine W.widen (k := 0) (n := 0) (Nat.le_of_ble_eq_true rfl) (Nat.le_of_ble_eq_true rfl) ?_
              refine W.eq (g2 := F0 m 62 ls []) rfl ?_
              refine lv_goto (tgt := 80) hx hb dX12_read_62 (by decide) ?_
              refine ziinc3 (n' := 1) (a' := 13) (b' := 13) (lv' := fun v9 => [(3, .int v9), (0, .ref o), (1, .int 1), (2, .int x_4)]) hx hb dX12_read_80 hl (k := 3) rfl (by decide) (fun _ => rfl) (zaddK (i := x_5.toInt) (j := 1) rfl (by decide) n54 n55 (Int.le_refl _) (Int.le_refl _) (by decide)) (fun x_58 ls hx_58 hl => ?_)
              refine lv_aload_n hx hb dX12_read_83 rfl (lv_at hl 1 rfl) ?_
              refine mcallV' (g := g) (q0 := 0) (ci := 10) (As := []) (rest := []) St hK hT hA hP hD hS hl.1 [0] [] rfl rfl rfl (m_skip l g o a th hi ac tp ba en at2_27 fl2_56 0 iD iO x_8 fm fk fa fc ft ff fb fi hba hen hq28_0 (Int.le_trans (by decide) hq57) (by decide)) (cwV 0 hts (zgL (zl4 k884 k885 k886 k839) k877) rfl rfl rfl (by decide +kernel) ⟨Nat.le_of_ble_eq_true rfl, Nat.le_of_ble_eq_true rfl⟩) rfl rfl rfl rfl (Nat.le_of_ble_eq_true rfl) dX12_read_84 ⟨(Nat.le_of_ble_eq_true rfl), (Nat.le_of_ble_eq_true rfl)⟩ (fun at2_59 H locs hq60 hP hD hS => ?_)
              replace hq60 : (0 ≤ at2_59.toInt ∧ at2_59.toInt ≤ en.toInt + 7 - (0 : Int32).toInt) ∧ (at2_27.toInt ≤ at2_59.toInt) := hq60
              have hP : va_P g.1 vwCl (List.flatten [bMo g o a th hi ac tp ba en at2_59 fl2_56 0 iD iO x_8 fm fk fa fc ft ff fb fi]) H := hP
              have hD : va_D A (List.flatten [bMo g o a th hi ac tp ba en at2_59 fl2_56 0 iD iO x_8 fm fk fa fc ft ff fb fi]) := hD
              refine W.widen (k := 0) (n := 0) (Nat.le_of_ble_eq_true rfl) (Nat.le_of_ble_eq_true rfl) ?_
              refine W.eq (g2 := F0 m 87 ls []) rfl ?_
              obtain ⟨hq60_0, hq60_1⟩ := hq60
              refine lv_aload_n hx hb dX12_read_87 rfl (lv_at hl 1 rfl) ?_
              refine va_get (D := g.1) (ci := 10) (v := .int fl2_56) (C := RX12) (T := TX12) (N := 20) hx hb hts izRX12 hown hK hP 0 rfl rfl 12 (by decide) (hts _ k820) (fun _ h9 => h9) rfl dX12_read_88 ?_
              refine lv_iconst (v := (-1)) hx hb dX12_read_91 (by decide) ?_
              refine lv_icmp_ne (tgt := 106) hx hb dX12_read_92 (by decide) (fun cb9 => ?_) (fun cb9 => ?_)
              · skip
                have c61 : ¬ fl2_56.toInt = (-1) := zne cb9 rfl (by decide)
                refine lv_iconst (v := 0) hx hb dX12_read_106 (by decide) ?_
                refine lv_istore_n (lv' := [(2, .int 0), (3, .int x_58), (0, .ref o), (1, .int 1)]) hx hb dX12_read_107 rfl hl (by decide) rfl (fun ls hl => ?_)
                refine lv_goto (tgt := 23) hx hb dX12_read_108 (by decide) ?_
                have hl := lv_sub (l' := [(0, .ref o), (1, .int 1), (2, .int 0), (3, .int x_58)]) hl [2, 3, 0, 1] rfl
                have hP : va_P g.1 vwCl (List.flatten [bMo g o a th hi ac tp ba en at2_59 fl2_56 0 iD iO x_8 fm fk fa fc ft ff fb fi]) H := hP
                have hD : va_D A (List.flatten [bMo g o a th hi ac tp ba en at2_59 fl2_56 0 iD iO x_8 fm fk fa fc ft ff fb fi]) := hD
                exact ih23_18 0 x_58 at2_59 fl2_56 x_8 (by decide) ⟨(Int.le_trans (by decide) hx_58.2.1), (Int.le_trans hx_58.2.2 (by decide))⟩ (by first | omega | assumption | decide) (Int.le_trans (by decide) hq57) (by first | omega | assumption | decide) (by first | omega | assumption | decide) (by first | omega | assumption | decide) (by first | omega | assumption | decide) H _ ls (by omega)  hP hD hS (lv_sub hl [0, 1, 2, 3] rfl)
              · skip
                exact absurd (show fl2_56.toInt = (-1) from zeq cb9 rfl (by decide)) (zDeq2 (a := 0) (b := (-1)) hq57 (Int.le_refl _) (by decide))
    have hP : va_P g.1 vwCl (List.flatten [bMo g o a th hi ac tp ba en at2_1 fl 0 iD iO tU fm fk fa fc ft ff fb fi]) H := hP
    have hD : va_D A (List.flatten [bMo g o a th hi ac tp ba en at2_1 fl 0 iD iO tU fm fk fa fc ft ff fb fi]) := hD
    exact LP23_17 _ 0 0 at2_1 fl tU (by decide) (by decide) (by first | omega | assumption | decide) (by first | omega | assumption | decide) (by first | omega | assumption | decide) hq2_1 (by first | omega | assumption | decide) hfl H _ ls (Nat.lt_succ_self _)  hP hD hS (lv_sub hl [0, 1, 2, 3] rfl)
  · skip
    have c63 : at2_1.toInt < en.toInt := zlti (Int32.not_le.mp cb9) rfl rfl
    have n64 : at2_1.toInt ≤ 399 := zL1 (b := 400) c63 hen.2 (by decide)
    refine lv_iconst (v := 1) hx hb dX12_read_15 (by decide) ?_
    refine lv_goto (tgt := 20) hx hb dX12_read_16 (by decide) ?_
    refine lv_istore_n (lv' := [(2, .int 1), (0, .ref o), (1, .int 1)]) hx hb dX12_read_20 rfl hl (by decide) rfl (fun ls hl => ?_)
    refine lv_iconst (v := 0) hx hb dX12_read_21 (by decide) ?_
    refine lv_istore_n (lv' := [(3, .int 0), (2, .int 1), (0, .ref o), (1, .int 1)]) hx hb dX12_read_22 rfl hl (by decide) rfl (fun ls hl => ?_)
    have hl := lv_sub (l' := [(0, .ref o), (1, .int 1), (2, .int 1), (3, .int 0)]) hl [2, 3, 1, 0] rfl
    have LP23_78 : ∀ (kf : Nat) (x_65 : Int32) (x_66 : Int32) (x_67 : Int32) (x_68 : Int32) (x_69 : Int32), (0 ≤ x_65.toInt ∧ x_65.toInt ≤ 1) → (0 ≤ x_66.toInt ∧ x_66.toInt ≤ 14) → (0 ≤ x_67.toInt ∧ x_67.toInt ≤ 408) → ((-1) ≤ x_68.toInt) → (x_65.toInt = 0 ∨ ¬ x_68.toInt = -1 ∨ x_66.toInt ≤ 12) → (tA.toInt ≤ x_67.toInt) → (x_67.toInt ≤ en.toInt + 7 - 0) → (-1 ≤ x_68.toInt) → ∀ (H : Heap) (locs : List Loc) (ls : Array Slot), ((15 - x_66.toInt).toNat) < kf → va_P g.1 vwCl (List.flatten [bMo g o a th hi ac tp ba en x_67 x_68 0 iD iO x_69 fm fk fa fc ft ff fb fi]) H → va_D A (List.flatten [bMo g o a th hi ac tp ba en x_67 x_68 0 iD iO x_69 fm fk fa fc ft ff fb fi]) → va_S A s.heap H locs → lv_has ls 4 [(0, .ref o), (1, .int 1), (2, .int x_65), (3, .int x_66)] → W p l e ({ frames := 30, cells := 0, slots := 0, locals := 665 } : Room) s m args below meth c H locs (0) (0) (zF g (fun u : Int32 × Int32 × Int32 × Int32 => (fun (at2 : Int32) (fl2 : Int32) (tU2 : Int32) (q : Int32) => some (.int q)) (u.1) (u.2.1) (u.2.2.1) (u.2.2.2)) (fun u : Int32 × Int32 × Int32 × Int32 => (fun (at2 : Int32) (fl2 : Int32) (tU2 : Int32) (q : Int32) => (0 ≤ at2.toInt ∧ at2.toInt ≤ en.toInt + 7 - 0) ∧ (tA.toInt ≤ at2.toInt) ∧ (-1 ≤ fl2.toInt)) (u.1) (u.2.1) (u.2.2.1) (u.2.2.2)) (fun u : Int32 × Int32 × Int32 × Int32 => (fun (at2 : Int32) (fl2 : Int32) (tU2 : Int32) (q : Int32) => [bMo g o a th hi ac tp ba en at2 fl2 0 iD iO tU2 fm fk fa fc ft ff fb fi]) (u.1) (u.2.1) (u.2.2.1) (u.2.2.2)) ({ frames := 30, cells := 0, slots := 0, locals := 665 } : Room) below args s A) (F0 m 23 ls []) := by
      intro kf
      induction kf with
      | zero => intro x_65 x_66 x_67 x_68 x_69 i70 i71 i72 i73 i74 i75 i76 i77 H locs ls hk; exact absurd hk (Nat.not_lt_zero _)
      | succ kf ih23_79 =>
        intro x_65 x_66 x_67 x_68 x_69 i70 i71 i72 i73 i74 i75 i76 i77 H locs ls hk23_79 hP hD hS hl
        refine lv_iload_n hx hb dX12_read_23 rfl (lv_at hl 2 rfl) ?_
        refine lv_if_eq (tgt := 144) hx hb dX12_read_24 (by decide) (fun cb9 => ?_) (fun cb9 => ?_)
        · skip
          have c80 : x_65.toInt = 0 := zeq cb9 rfl (by decide)
          have n81 : x_65.toInt ≤ 0 := Int.le_trans (Int.le_of_eq c80) (Int.le_refl _)
          refine lv_iload_n hx hb dX12_read_144 rfl (lv_at hl 3 rfl) ?_
          have hP : va_P g.1 vwCl (List.flatten [bMo g o a th hi ac tp ba en x_67 x_68 0 iD iO x_69 fm fk fa fc ft ff fb fi]) H := hP
          have hD : va_D A (List.flatten [bMo g o a th hi ac tp ba en x_67 x_68 0 iD iO x_69 fm fk fa fc ft ff fb fi]) := hD
          exact mret_i hx hb hr hlocks hS (Nat.le_of_ble_eq_true rfl) (Nat.le_of_ble_eq_true rfl) dX12_read_145 (x_67, x_68, x_69, x_66) rfl (show (0 ≤ x_67.toInt ∧ x_67.toInt ≤ en.toInt + 7 - 0) ∧ (tA.toInt ≤ x_67.toInt) ∧ (-1 ≤ x_68.toInt) from ⟨(by first | assumption | omega | decide | exact rfl | exact zb01 (by omega) | exact Or.inl (by decide) | exact Or.inr (by first | omega | decide)), i75, i77⟩) hP hD
        · skip
          have c82 : ¬ x_65.toInt = 0 := zne cb9 rfl (by decide)
          have n83 : 1 ≤ x_65.toInt := zN1 c82 i70.1 (by decide)
          refine lv_aload_n hx hb dX12_read_27 rfl (lv_at hl 0 rfl) ?_
          refine va_get (D := g.1) (ci := 10) (v := .int x_68) (C := RX12) (T := TX12) (N := 20) hx hb hts izRX12 hown hK hP 0 rfl rfl 12 (by decide) (hts _ k820) (fun _ h9 => h9) rfl dX12_read_28 ?_
          refine lv_iconst (v := (-1)) hx hb dX12_read_31 (by decide) ?_
          refine lv_icmp_ne (tgt := 144) hx hb dX12_read_32 (by decide) (fun cb9 => ?_) (fun cb9 => ?_)
          · skip
            have c84 : ¬ x_68.toInt = (-1) := zne cb9 rfl (by decide)
            have n85 : 0 ≤ x_68.toInt := zN1 c84 i73 (by decide)
            refine lv_iload_n hx hb dX12_read_144 rfl (lv_at hl 3 rfl) ?_
            have hP : va_P g.1 vwCl (List.flatten [bMo g o a th hi ac tp ba en x_67 x_68 0 iD iO x_69 fm fk fa fc ft ff fb fi]) H := hP
            have hD : va_D A (List.flatten [bMo g o a th hi ac tp ba en x_67 x_68 0 iD iO x_69 fm fk fa fc ft ff fb fi]) := hD
            exact mret_i hx hb hr hlocks hS (Nat.le_of_ble_eq_true rfl) (Nat.le_of_ble_eq_true rfl) dX12_read_145 (x_67, x_68, x_69, x_66) rfl (show (0 ≤ x_67.toInt ∧ x_67.toInt ≤ en.toInt + 7 - 0) ∧ (tA.toInt ≤ x_67.toInt) ∧ (-1 ≤ x_68.toInt) from ⟨(by first | assumption | omega | decide | exact rfl | exact zb01 (by omega) | exact Or.inl (by decide) | exact Or.inr (by first | omega | decide)), i75, i77⟩) hP hD
          · skip
            have c86 : x_68.toInt = (-1) := zeq cb9 rfl (by decide)
            have n87 : x_68.toInt ≤ (-1) := Int.le_trans (Int.le_of_eq c86) (Int.le_refl _)
            refine lv_aload_n hx hb dX12_read_35 rfl (lv_at hl 0 rfl) ?_
            refine mcallV' (g := g) (q0 := 0) (ci := 10) (As := []) (rest := []) St hK hT hA hP hD hS hl.1 [0] [] rfl rfl rfl (m_skip l g o a th hi ac tp ba en x_67 x_68 0 iD iO x_69 fm fk fa fc ft ff fb fi hba hen (by first | assumption | omega | decide | exact Or.inl (by decide) | exact Or.inr (by decide)) i77 (by decide)) (cwV 0 hts (zgL (zl4 k884 k885 k886 k839) k877) rfl rfl rfl (by decide +kernel) ⟨Nat.le_of_ble_eq_true rfl, Nat.le_of_ble_eq_true rfl⟩) rfl rfl rfl rfl (Nat.le_of_ble_eq_true rfl) dX12_read_36 ⟨(Nat.le_of_ble_eq_true rfl), (Nat.le_of_ble_eq_true rfl)⟩ (fun at2_88 H locs hq89 hP hD hS => ?_)
            replace hq89 : (0 ≤ at2_88.toInt ∧ at2_88.toInt ≤ en.toInt + 7 - (0 : Int32).toInt) ∧ (x_67.toInt ≤ at2_88.toInt) := hq89
            have hP : va_P g.1 vwCl (List.flatten [bMo g o a th hi ac tp ba en at2_88 x_68 0 iD iO x_69 fm fk fa fc ft ff fb fi]) H := hP
            have hD : va_D A (List.flatten [bMo g o a th hi ac tp ba en at2_88 x_68 0 iD iO x_69 fm fk fa fc ft ff fb fi]) := hD
            refine W.widen (k := 0) (n := 0) (Nat.le_of_ble_eq_true rfl) (Nat.le_of_ble_eq_true rfl) ?_
            refine W.eq (g2 := F0 m 39 ls []) rfl ?_
            obtain ⟨hq89_0, hq89_1⟩ := hq89
            refine lv_iload_n hx hb dX12_read_39 rfl (lv_at hl 3 rfl) ?_
            refine lv_iload_n hx hb dX12_read_40 rfl (lv_at hl 1 rfl) ?_
            refine lv_if_eq (tgt := 49) hx hb dX12_read_41 (by decide) (fun c90 => absurd c90 (by decide)) (fun _ => ?_)
            refine lv_bipush (v := 12) hx hb dX12_read_44 (by decide) ?_
            refine lv_goto (tgt := 51) hx hb dX12_read_46 (by decide) ?_
            refine lv_icmp_ne (tgt := 65) hx hb dX12_read_51 (by decide) (fun cb9 => ?_) (fun cb9 => ?_)
            · skip
              have c91 : ¬ x_66.toInt = 12 := zne cb9 rfl (by decide)
              refine lv_iload_n hx hb dX12_read_65 rfl (lv_at hl 1 rfl) ?_
              refine lv_if_eq (tgt := 76) hx hb dX12_read_66 (by decide) (fun c92 => absurd c92 (by decide)) (fun _ => ?_)
              refine lv_aload_n hx hb dX12_read_69 rfl (lv_at hl 0 rfl) ?_
              refine mcallV' (g := g) (q0 := 0) (ci := 10) (As := []) (rest := []) St hK hT hA hP hD hS hl.1 [0] [] rfl rfl rfl (m_lawLine l g o a th hi ac tp ba en at2_88 x_68 iD iO x_69 fm fk fa fc ft ff fb fi hiD hiO hba hen (by first | assumption | omega | decide | exact Or.inl (by decide) | exact Or.inr (by decide)) i77 hde) (cwV 0 hts (zgL (zl4 k965 k966 k967 k839) k964) rfl rfl rfl (by decide +kernel) ⟨Nat.le_of_ble_eq_true rfl, Nat.le_of_ble_eq_true rfl⟩) rfl rfl rfl rfl (Nat.le_of_ble_eq_true rfl) dX12_read_70 ⟨(Nat.le_of_ble_eq_true rfl), (Nat.le_of_ble_eq_true rfl)⟩ (fun u_ H locs hq96 hP hD hS => ?_)
              obtain ⟨at2_93, fl2_94, tU2_95⟩ := u_
              replace hq96 : (0 ≤ at2_93.toInt ∧ at2_93.toInt ≤ en.toInt + 7 - 0) ∧ (at2_88.toInt ≤ at2_93.toInt) ∧ (-1 ≤ fl2_94.toInt) := hq96
              have hP : va_P g.1 vwCl (List.flatten [bMo g o a th hi ac tp ba en at2_93 fl2_94 0 iD iO tU2_95 fm fk fa fc ft ff fb fi]) H := hP
              have hD : va_D A (List.flatten [bMo g o a th hi ac tp ba en at2_93 fl2_94 0 iD iO tU2_95 fm fk fa fc ft ff fb fi]) := hD
              refine W.widen (k := 0) (n := 0) (Nat.le_of_ble_eq_true rfl) (Nat.le_of_ble_eq_true rfl) ?_
              refine W.eq (g2 := F0 m 73 ls []) rfl ?_
              obtain ⟨hq96_0, hq96_1, hq96_2⟩ := hq96
              refine lv_goto (tgt := 80) hx hb dX12_read_73 (by decide) ?_
              refine ziinc3 (n' := 1) (a' := 1) (b' := 15) (lv' := fun v9 => [(3, .int v9), (0, .ref o), (1, .int 1), (2, .int x_65)]) hx hb dX12_read_80 hl (k := 3) rfl (by decide) (fun _ => rfl) (zaddK (i := x_66.toInt) (j := 1) rfl (by decide) i71.1 i71.2 (Int.le_refl _) (Int.le_refl _) (by decide)) (fun x_97 ls hx_97 hl => ?_)
              refine lv_aload_n hx hb dX12_read_83 rfl (lv_at hl 1 rfl) ?_
              refine mcallV' (g := g) (q0 := 0) (ci := 10) (As := []) (rest := []) St hK hT hA hP hD hS hl.1 [0] [] rfl rfl rfl (m_skip l g o a th hi ac tp ba en at2_93 fl2_94 0 iD iO tU2_95 fm fk fa fc ft ff fb fi hba hen (by first | assumption | omega | decide | exact Or.inl (by decide) | exact Or.inr (by decide)) hq96_2 (by decide)) (cwV 0 hts (zgL (zl4 k884 k885 k886 k839) k877) rfl rfl rfl (by decide +kernel) ⟨Nat.le_of_ble_eq_true rfl, Nat.le_of_ble_eq_true rfl⟩) rfl rfl rfl rfl (Nat.le_of_ble_eq_true rfl) dX12_read_84 ⟨(Nat.le_of_ble_eq_true rfl), (Nat.le_of_ble_eq_true rfl)⟩ (fun at2_98 H locs hq99 hP hD hS => ?_)
              replace hq99 : (0 ≤ at2_98.toInt ∧ at2_98.toInt ≤ en.toInt + 7 - (0 : Int32).toInt) ∧ (at2_93.toInt ≤ at2_98.toInt) := hq99
              have hP : va_P g.1 vwCl (List.flatten [bMo g o a th hi ac tp ba en at2_98 fl2_94 0 iD iO tU2_95 fm fk fa fc ft ff fb fi]) H := hP
              have hD : va_D A (List.flatten [bMo g o a th hi ac tp ba en at2_98 fl2_94 0 iD iO tU2_95 fm fk fa fc ft ff fb fi]) := hD
              refine W.widen (k := 0) (n := 0) (Nat.le_of_ble_eq_true rfl) (Nat.le_of_ble_eq_true rfl) ?_
              refine W.eq (g2 := F0 m 87 ls []) rfl ?_
              obtain ⟨hq99_0, hq99_1⟩ := hq99
              refine lv_aload_n hx hb dX12_read_87 rfl (lv_at hl 1 rfl) ?_
              refine va_get (D := g.1) (ci := 10) (v := .int fl2_94) (C := RX12) (T := TX12) (N := 20) hx hb hts izRX12 hown hK hP 0 rfl rfl 12 (by decide) (hts _ k820) (fun _ h9 => h9) rfl dX12_read_88 ?_
              refine lv_iconst (v := (-1)) hx hb dX12_read_91 (by decide) ?_
              refine lv_icmp_ne (tgt := 106) hx hb dX12_read_92 (by decide) (fun cb9 => ?_) (fun cb9 => ?_)
              · skip
                have c100 : ¬ fl2_94.toInt = (-1) := zne cb9 rfl (by decide)
                refine lv_iconst (v := 0) hx hb dX12_read_106 (by decide) ?_
                refine lv_istore_n (lv' := [(2, .int 0), (3, .int x_97), (0, .ref o), (1, .int 1)]) hx hb dX12_read_107 rfl hl (by decide) rfl (fun ls hl => ?_)
                refine lv_goto (tgt := 23) hx hb dX12_read_108 (by decide) ?_
                have hl := lv_sub (l' := [(0, .ref o), (1, .int 1), (2, .int 0), (3, .int x_97)]) hl [2, 3, 0, 1] rfl
                have hP : va_P g.1 vwCl (List.flatten [bMo g o a th hi ac tp ba en at2_98 fl2_94 0 iD iO tU2_95 fm fk fa fc ft ff fb fi]) H := hP
                have hD : va_D A (List.flatten [bMo g o a th hi ac tp ba en at2_98 fl2_94 0 iD iO tU2_95 fm fk fa fc ft ff fb fi]) := hD
                exact ih23_79 0 x_97 at2_98 fl2_94 tU2_95 (by decide) (by first | omega | assumption | decide) (by first | omega | assumption | decide) (by first | omega | assumption | decide) (by first | omega | assumption | decide) (by first | omega | assumption | decide) (by first | omega | assumption | decide) hq96_2 H _ ls (by omega)  hP hD hS (lv_sub hl [0, 1, 2, 3] rfl)
              · skip
                have c101 : fl2_94.toInt = (-1) := zeq cb9 rfl (by decide)
                have n102 : fl2_94.toInt ≤ (-1) := Int.le_trans (Int.le_of_eq c101) (Int.le_refl _)
                refine lv_aload_n hx hb dX12_read_95 rfl (lv_at hl 1 rfl) ?_
                refine va_get (D := g.1) (ci := 10) (v := .int at2_98) (C := RX12) (T := TX12) (N := 20) hx hb hts izRX12 hown hK hP 0 rfl rfl 11 (by decide) (hts _ k878) (fun _ h9 => h9) rfl dX12_read_96 ?_
                refine lv_aload_n hx hb dX12_read_99 rfl (lv_at hl 1 rfl) ?_
                refine va_get (D := g.1) (ci := 10) (v := .int en) (C := RX12) (T := TX12) (N := 20) hx hb hts izRX12 hown hK hP 0 rfl rfl 10 (by decide) (hts _ k879) (fun _ h9 => h9) rfl dX12_read_100 ?_
                refine lv_icmp_ne (tgt := 111) hx hb dX12_read_103 (by decide) (fun cb9 => ?_) (fun cb9 => ?_)
                · skip
                  have c103 : ¬ at2_98.toInt = en.toInt := zne cb9 rfl rfl
                  refine lv_aload_n hx hb dX12_read_111 rfl (lv_at hl 1 rfl) ?_
                  refine lv_bipush (v := 59) hx hb dX12_read_112 (by decide) ?_
                  refine mcallV' (g := g) (q0 := 0) (ci := 10) (As := [.int 59]) (rest := []) St hK hT hA hP hD hS hl.1 [0] [] rfl rfl rfl (m_isSign l g o a th hi ac tp ba en at2_98 fl2_94 0 iD iO tU2_95 fm fk fa fc ft ff fb fi 59 hba hen hq99_0 hq96_2 (by decide)) (cwV 1 hts (zgL (zl4 k938 k939 k940 k839) k883) rfl rfl rfl (by decide +kernel) ⟨Nat.le_of_ble_eq_true rfl, Nat.le_of_ble_eq_true rfl⟩) rfl rfl rfl rfl (Nat.le_of_ble_eq_true rfl) dX12_read_114 ⟨(Nat.le_of_ble_eq_true rfl), (Nat.le_of_ble_eq_true rfl)⟩ (fun u_ H locs hq106 hP hD hS => ?_)
                  obtain ⟨at2_104, q_105⟩ := u_
                  replace hq106 : (0 ≤ at2_104.toInt ∧ at2_104.toInt ≤ en.toInt + 7 - (0 : Int32).toInt) ∧ (at2_98.toInt ≤ at2_104.toInt) ∧ (q_105 = 1 ∧ at2_104.toInt < en.toInt ∨ q_105 = 0) := hq106
                  have hP : va_P g.1 vwCl (List.flatten [bMo g o a th hi ac tp ba en at2_104 fl2_94 0 iD iO tU2_95 fm fk fa fc ft ff fb fi]) H := hP
                  have hD : va_D A (List.flatten [bMo g o a th hi ac tp ba en at2_104 fl2_94 0 iD iO tU2_95 fm fk fa fc ft ff fb fi]) := hD
                  refine W.widen (k := 0) (n := 0) (Nat.le_of_ble_eq_true rfl) (Nat.le_of_ble_eq_true rfl) ?_
                  refine W.eq (g2 := F0 m 117 ls [.int q_105]) rfl ?_
                  obtain ⟨hq106_0, hq106_1, hq106_2⟩ := hq106
                  rcases hq106_2 with ⟨rfl, hq106_k⟩ | rfl
                  · skip
                    refine lv_if_eq (tgt := 133) hx hb dX12_read_117 (by decide) (fun c107 => absurd c107 (by decide)) (fun _ => ?_)
                    refine lv_aload_n hx hb dX12_read_120 rfl (lv_at hl 1 rfl) ?_
                    refine lv_dup hx hb dX12_read_121 rfl ?_
                    refine va_get (D := g.1) (ci := 10) (v := .int at2_104) (C := RX12) (T := TX12) (N := 20) hx hb hts izRX12 hown hK hP 0 rfl rfl 11 (by decide) (hts _ k878) (fun _ h9 => h9) rfl dX12_read_122 ?_
                    refine lv_iconst (v := 1) hx hb dX12_read_125 (by decide) ?_
                    refine lv_iadd hx hb dX12_read_126 ?_
                    refine zgv (zadd (i := at2_104.toInt) (j := 1) rfl (by decide) (by omega)) (fun x_108 hx_108 => ?_)
                    refine va_put (D := g.1) (ci := 10) (v := .int x_108) (ty := .int) (C := RX12) (T := TX12) (N := 20) hx hb hts izRX12 tyX12 tyX12_ok nmX12 hown hK hP hD hS 0 rfl rfl 11 (by decide) (hts _ k878) (fun _ h9 => h9) rfl (by decide +kernel) rfl rfl (Nat.le_of_ble_eq_true rfl) dX12_read_127 (fun H locs hP hD hS => ?_)
                    have hP : va_P g.1 vwCl (List.flatten [bMo g o a th hi ac tp ba en x_108 fl2_94 0 iD iO tU2_95 fm fk fa fc ft ff fb fi]) H := hP
                    have hD : va_D A (List.flatten [bMo g o a th hi ac tp ba en x_108 fl2_94 0 iD iO tU2_95 fm fk fa fc ft ff fb fi]) := hD
                    refine lv_goto (tgt := 23) hx hb dX12_read_130 (by decide) ?_
                    have hl := lv_sub (l' := [(0, .ref o), (1, .int 1), (2, .int x_65), (3, .int x_97)]) hl [1, 2, 3, 0] rfl
                    have hP : va_P g.1 vwCl (List.flatten [bMo g o a th hi ac tp ba en x_108 fl2_94 0 iD iO tU2_95 fm fk fa fc ft ff fb fi]) H := hP
                    have hD : va_D A (List.flatten [bMo g o a th hi ac tp ba en x_108 fl2_94 0 iD iO tU2_95 fm fk fa fc ft ff fb fi]) := hD
                    exact ih23_79 x_65 x_97 x_108 fl2_94 tU2_95 ⟨(Int.le_trans (by decide) n83), i70.2⟩ (by first | omega | assumption | decide) (by first | omega | assumption | decide) (by first | omega | assumption | decide) (by first | omega | assumption | decide) (by first | omega | assumption | decide) (by first | omega | assumption | decide) hq96_2 H _ ls (by omega)  hP hD hS (lv_sub hl [0, 1, 2, 3] rfl)
                  · skip
                    refine lv_if_eq (tgt := 133) hx hb dX12_read_117 (by decide) (fun _ => ?_) (fun c109 => absurd (by decide) c109)
                    refine lv_aload_n hx hb dX12_read_133 rfl (lv_at hl 1 rfl) ?_
                    refine lv_aload_n hx hb dX12_read_134 rfl (lv_at hl 1 rfl) ?_
                    refine va_get (D := g.1) (ci := 10) (v := .int at2_104) (C := RX12) (T := TX12) (N := 20) hx hb hts izRX12 hown hK hP 0 rfl rfl 11 (by decide) (hts _ k878) (fun _ h9 => h9) rfl dX12_read_135 ?_
                    refine mcallV' (g := g) (q0 := 0) (ci := 10) (As := [.int at2_104]) (rest := []) St hK hT hA hP hD hS hl.1 [0] [] rfl rfl rfl (m_wrong l g o a th hi ac tp ba en at2_104 fl2_94 0 iD iO tU2_95 fm fk fa fc ft ff fb fi at2_104 (by first | assumption | omega | decide | exact Or.inl (by decide) | exact Or.inr (by decide)) hq96_2) (cwV 1 hts (zgL (zl4 k895 k896 k897 k839) k890) rfl rfl rfl (by decide +kernel) ⟨Nat.le_of_ble_eq_true rfl, Nat.le_of_ble_eq_true rfl⟩) rfl rfl rfl rfl (Nat.le_of_ble_eq_true rfl) dX12_read_138 ⟨(Nat.le_of_ble_eq_true rfl), (Nat.le_of_ble_eq_true rfl)⟩ (fun fl2_110 H locs hq111 hP hD hS => ?_)
                    replace hq111 : (0 ≤ fl2_110.toInt) := hq111
                    have hP : va_P g.1 vwCl (List.flatten [bMo g o a th hi ac tp ba en at2_104 fl2_110 0 iD iO tU2_95 fm fk fa fc ft ff fb fi]) H := hP
                    have hD : va_D A (List.flatten [bMo g o a th hi ac tp ba en at2_104 fl2_110 0 iD iO tU2_95 fm fk fa fc ft ff fb fi]) := hD
                    refine W.widen (k := 0) (n := 0) (Nat.le_of_ble_eq_true rfl) (Nat.le_of_ble_eq_true rfl) ?_
                    refine W.eq (g2 := F0 m 141 ls []) rfl ?_
                    refine lv_goto (tgt := 23) hx hb dX12_read_141 (by decide) ?_
                    have hl := lv_sub (l' := [(0, .ref o), (1, .int 1), (2, .int x_65), (3, .int x_97)]) hl [1, 2, 3, 0] rfl
                    have hP : va_P g.1 vwCl (List.flatten [bMo g o a th hi ac tp ba en at2_104 fl2_110 0 iD iO tU2_95 fm fk fa fc ft ff fb fi]) H := hP
                    have hD : va_D A (List.flatten [bMo g o a th hi ac tp ba en at2_104 fl2_110 0 iD iO tU2_95 fm fk fa fc ft ff fb fi]) := hD
                    exact ih23_79 x_65 x_97 at2_104 fl2_110 tU2_95 ⟨(Int.le_trans (by decide) n83), i70.2⟩ (by first | omega | assumption | decide) (by first | omega | assumption | decide) (Int.le_trans (by decide) hq111) (by first | omega | assumption | decide) (by first | omega | assumption | decide) (by first | omega | assumption | decide) (by first | omega | assumption | decide) H _ ls (by omega)  hP hD hS (lv_sub hl [0, 1, 2, 3] rfl)
                · skip
                  have c112 : at2_98.toInt = en.toInt := zeq cb9 rfl rfl
                  have n113 : at2_98.toInt ≤ 400 := Int.le_trans (Int.le_of_eq c112) hen.2
                  refine lv_iconst (v := 0) hx hb dX12_read_106 (by decide) ?_
                  refine lv_istore_n (lv' := [(2, .int 0), (3, .int x_97), (0, .ref o), (1, .int 1)]) hx hb dX12_read_107 rfl hl (by decide) rfl (fun ls hl => ?_)
                  refine lv_goto (tgt := 23) hx hb dX12_read_108 (by decide) ?_
                  have hl := lv_sub (l' := [(0, .ref o), (1, .int 1), (2, .int 0), (3, .int x_97)]) hl [2, 3, 0, 1] rfl
                  have hP : va_P g.1 vwCl (List.flatten [bMo g o a th hi ac tp ba en at2_98 fl2_94 0 iD iO tU2_95 fm fk fa fc ft ff fb fi]) H := hP
                  have hD : va_D A (List.flatten [bMo g o a th hi ac tp ba en at2_98 fl2_94 0 iD iO tU2_95 fm fk fa fc ft ff fb fi]) := hD
                  exact ih23_79 0 x_97 at2_98 fl2_94 tU2_95 (by decide) (by first | omega | assumption | decide) (by first | omega | assumption | decide) (by first | omega | assumption | decide) (by first | omega | assumption | decide) (by first | omega | assumption | decide) (by first | omega | assumption | decide) hq96_2 H _ ls (by omega)  hP hD hS (lv_sub hl [0, 1, 2, 3] rfl)
            · skip
              have c114 : x_66.toInt = 12 := zeq cb9 rfl (by decide)
              have n115 : 12 ≤ x_66.toInt := Int.le_trans (Int.le_refl _) (Int.le_of_eq c114.symm)
              have n116 : x_66.toInt ≤ 12 := Int.le_trans (Int.le_of_eq c114) (Int.le_refl _)
              refine lv_aload_n hx hb dX12_read_54 rfl (lv_at hl 0 rfl) ?_
              refine lv_aload_n hx hb dX12_read_55 rfl (lv_at hl 0 rfl) ?_
              refine va_get (D := g.1) (ci := 10) (v := .int at2_88) (C := RX12) (T := TX12) (N := 20) hx hb hts izRX12 hown hK hP 0 rfl rfl 11 (by decide) (hts _ k878) (fun _ h9 => h9) rfl dX12_read_56 ?_
              refine mcallV' (g := g) (q0 := 0) (ci := 10) (As := [.int at2_88]) (rest := []) St hK hT hA hP hD hS hl.1 [0] [] rfl rfl rfl (m_wrong l g o a th hi ac tp ba en at2_88 x_68 0 iD iO x_69 fm fk fa fc ft ff fb fi at2_88 (by first | assumption | omega | decide | exact Or.inl (by decide) | exact Or.inr (by decide)) i77) (cwV 1 hts (zgL (zl4 k895 k896 k897 k839) k890) rfl rfl rfl (by decide +kernel) ⟨Nat.le_of_ble_eq_true rfl, Nat.le_of_ble_eq_true rfl⟩) rfl rfl rfl rfl (Nat.le_of_ble_eq_true rfl) dX12_read_59 ⟨(Nat.le_of_ble_eq_true rfl), (Nat.le_of_ble_eq_true rfl)⟩ (fun fl2_117 H locs hq118 hP hD hS => ?_)
              replace hq118 : (0 ≤ fl2_117.toInt) := hq118
              have hP : va_P g.1 vwCl (List.flatten [bMo g o a th hi ac tp ba en at2_88 fl2_117 0 iD iO x_69 fm fk fa fc ft ff fb fi]) H := hP
              have hD : va_D A (List.flatten [bMo g o a th hi ac tp ba en at2_88 fl2_117 0 iD iO x_69 fm fk fa fc ft ff fb fi]) := hD
              refine W.widen (k := 0) (n := 0) (Nat.le_of_ble_eq_true rfl) (Nat.le_of_ble_eq_true rfl) ?_
              refine W.eq (g2 := F0 m 62 ls []) rfl ?_
              refine lv_goto (tgt := 80) hx hb dX12_read_62 (by decide) ?_
              refine ziinc3 (n' := 1) (a' := 13) (b' := 13) (lv' := fun v9 => [(3, .int v9), (0, .ref o), (1, .int 1), (2, .int x_65)]) hx hb dX12_read_80 hl (k := 3) rfl (by decide) (fun _ => rfl) (zaddK (i := x_66.toInt) (j := 1) rfl (by decide) n115 n116 (Int.le_refl _) (Int.le_refl _) (by decide)) (fun x_119 ls hx_119 hl => ?_)
              refine lv_aload_n hx hb dX12_read_83 rfl (lv_at hl 1 rfl) ?_
              refine mcallV' (g := g) (q0 := 0) (ci := 10) (As := []) (rest := []) St hK hT hA hP hD hS hl.1 [0] [] rfl rfl rfl (m_skip l g o a th hi ac tp ba en at2_88 fl2_117 0 iD iO x_69 fm fk fa fc ft ff fb fi hba hen hq89_0 (Int.le_trans (by decide) hq118) (by decide)) (cwV 0 hts (zgL (zl4 k884 k885 k886 k839) k877) rfl rfl rfl (by decide +kernel) ⟨Nat.le_of_ble_eq_true rfl, Nat.le_of_ble_eq_true rfl⟩) rfl rfl rfl rfl (Nat.le_of_ble_eq_true rfl) dX12_read_84 ⟨(Nat.le_of_ble_eq_true rfl), (Nat.le_of_ble_eq_true rfl)⟩ (fun at2_120 H locs hq121 hP hD hS => ?_)
              replace hq121 : (0 ≤ at2_120.toInt ∧ at2_120.toInt ≤ en.toInt + 7 - (0 : Int32).toInt) ∧ (at2_88.toInt ≤ at2_120.toInt) := hq121
              have hP : va_P g.1 vwCl (List.flatten [bMo g o a th hi ac tp ba en at2_120 fl2_117 0 iD iO x_69 fm fk fa fc ft ff fb fi]) H := hP
              have hD : va_D A (List.flatten [bMo g o a th hi ac tp ba en at2_120 fl2_117 0 iD iO x_69 fm fk fa fc ft ff fb fi]) := hD
              refine W.widen (k := 0) (n := 0) (Nat.le_of_ble_eq_true rfl) (Nat.le_of_ble_eq_true rfl) ?_
              refine W.eq (g2 := F0 m 87 ls []) rfl ?_
              obtain ⟨hq121_0, hq121_1⟩ := hq121
              refine lv_aload_n hx hb dX12_read_87 rfl (lv_at hl 1 rfl) ?_
              refine va_get (D := g.1) (ci := 10) (v := .int fl2_117) (C := RX12) (T := TX12) (N := 20) hx hb hts izRX12 hown hK hP 0 rfl rfl 12 (by decide) (hts _ k820) (fun _ h9 => h9) rfl dX12_read_88 ?_
              refine lv_iconst (v := (-1)) hx hb dX12_read_91 (by decide) ?_
              refine lv_icmp_ne (tgt := 106) hx hb dX12_read_92 (by decide) (fun cb9 => ?_) (fun cb9 => ?_)
              · skip
                have c122 : ¬ fl2_117.toInt = (-1) := zne cb9 rfl (by decide)
                refine lv_iconst (v := 0) hx hb dX12_read_106 (by decide) ?_
                refine lv_istore_n (lv' := [(2, .int 0), (3, .int x_119), (0, .ref o), (1, .int 1)]) hx hb dX12_read_107 rfl hl (by decide) rfl (fun ls hl => ?_)
                refine lv_goto (tgt := 23) hx hb dX12_read_108 (by decide) ?_
                have hl := lv_sub (l' := [(0, .ref o), (1, .int 1), (2, .int 0), (3, .int x_119)]) hl [2, 3, 0, 1] rfl
                have hP : va_P g.1 vwCl (List.flatten [bMo g o a th hi ac tp ba en at2_120 fl2_117 0 iD iO x_69 fm fk fa fc ft ff fb fi]) H := hP
                have hD : va_D A (List.flatten [bMo g o a th hi ac tp ba en at2_120 fl2_117 0 iD iO x_69 fm fk fa fc ft ff fb fi]) := hD
                exact ih23_79 0 x_119 at2_120 fl2_117 x_69 (by decide) ⟨(Int.le_trans (by decide) hx_119.2.1), (Int.le_trans hx_119.2.2 (by decide))⟩ (by first | omega | assumption | decide) (Int.le_trans (by decide) hq118) (by first | omega | assumption | decide) (by first | omega | assumption | decide) (by first | omega | assumption | decide) (by first | omega | assumption | decide) H _ ls (by omega)  hP hD hS (lv_sub hl [0, 1, 2, 3] rfl)
              · skip
                exact absurd (show fl2_117.toInt = (-1) from zeq cb9 rfl (by decide)) (zDeq2 (a := 0) (b := (-1)) hq118 (Int.le_refl _) (by decide))
    have hL1 : (1 : Int32).toInt = 1 := by decide
    have hP : va_P g.1 vwCl (List.flatten [bMo g o a th hi ac tp ba en at2_1 fl 0 iD iO tU fm fk fa fc ft ff fb fi]) H := hP
    have hD : va_D A (List.flatten [bMo g o a th hi ac tp ba en at2_1 fl 0 iD iO tU fm fk fa fc ft ff fb fi]) := hD
    exact LP23_78 _ 1 0 at2_1 fl tU (by decide) (by decide) (by first | omega | assumption | decide) (by first | omega | assumption | decide) (by first | omega | assumption | decide) hq2_1 (by first | omega | assumption | decide) hfl H _ ls (Nat.lt_succ_self _)  hP hD hS (lv_sub hl [0, 1, 2, 3] rfl)
