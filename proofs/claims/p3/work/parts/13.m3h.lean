set_option maxRecDepth 100000 in
set_option maxHeartbeats 4000000 in
theorem m_plain (l : Launch) (g : zG) (o : Nat) (a : Nat → Nat) (th : Int32) (hi : Int32) (ac : Int32) (tp : Int32) (ba : Int32) (en : Int32) (tA : Int32) (fl : Int32) (de : Int32) (iD : Int32) (iO : Int32) (tU : Int32) (fm : Nat → Int32) (fk : Nat → Int32) (fa : Nat → Int32) (fc : Nat → Int32) (ft : Nat → Int32) (ff : Nat → Int32) (fb : Nat → Int32) (fi : Nat → Int32) (hiD : 0 ≤ iD.toInt ∧ iD.toInt ≤ 1) (hiO : 0 ≤ iO.toInt ∧ iO.toInt ≤ 1) (hba : zBa ba.toInt) (hen : 0 ≤ en.toInt ∧ en.toInt ≤ 400) (htA : 0 ≤ tA.toInt ∧ tA.toInt ≤ en.toInt + 7 - de.toInt) (hfl : -1 ≤ fl.toInt) (hde : 0 ≤ de.toInt ∧ de.toInt ≤ 6) : zM' g l yX12_plain (Cond.code yX12_plain cX12_plain 4 (some .boolean) :: zB) ({ frames := 7, cells := 0, slots := 0, locals := 150 } : Room) [.ref o] [bMo g o a th hi ac tp ba en tA fl de iD iO tU fm fk fa fc ft ff fb fi] (fun u : Int32 × Int32 × Int32 => (fun (at2 : Int32) (fl2 : Int32) (q : Int32) => some (.int q)) (u.1) (u.2.1) (u.2.2)) (fun u : Int32 × Int32 × Int32 => (fun (at2 : Int32) (fl2 : Int32) (q : Int32) => (0 ≤ at2.toInt ∧ at2.toInt ≤ en.toInt + 7 - de.toInt) ∧ (tA.toInt ≤ at2.toInt) ∧ (-1 ≤ fl2.toInt) ∧ (q = 0 ∨ q = 1)) (u.1) (u.2.1) (u.2.2)) (fun u : Int32 × Int32 × Int32 => (fun (at2 : Int32) (fl2 : Int32) (q : Int32) => [bMo g o a th hi ac tp ba en at2 fl2 de iD iO tU fm fk fa fc ft ff fb fi]) (u.1) (u.2.1) (u.2.2)) := by
  refine zM'.of (cc := cX12_plain) (maxL := 4) (rt := (some .boolean)) (by decide) rfl (Nat.le_of_ble_eq_true rfl) ?_
  intro p e s m args below meth c A ls St hr hlocks hin hK hT hA hP hD hS hl
  obtain ⟨hx, hb, hml, hown, hts⟩ := id St
  have hl : lv_has ls 4 [(0, .ref o)] := hl
  refine lv_aload_n hx hb dX12_plain_0 rfl (lv_at hl 0 rfl) ?_
  refine va_ldcS (q := g.2 64) hx hb hown (zra27 hT.2.1) dX12_plain_1 ?_
  refine mcallV' (g := g) (q0 := 0) (ci := 10) (As := [.ref (g.2 64)]) (rest := []) St hK hT hA hP hD hS hl.1 [0] [] rfl rfl rfl (m_has l g o a th hi ac tp ba en tA fl de iD iO tU fm fk fa fc ft ff fb fi (g.2 64) 27 zqa27 (by first | assumption | omega | decide | exact Or.inl (by decide) | exact Or.inr (by decide)) (⟨hen.1, hen.2⟩) (by first | assumption | omega | decide | exact Or.inl (by decide) | exact Or.inr (by decide)) (by first | assumption | omega | decide | exact Or.inl (by decide) | exact Or.inr (by decide)) (⟨hde.1, hde.2⟩) rfl zla27 zna27) (cwV 1 hts (zgL (zl4 k898 k899 k900 k837) k888) rfl rfl rfl (by decide +kernel) ⟨Nat.le_of_ble_eq_true rfl, Nat.le_of_ble_eq_true rfl⟩) rfl rfl rfl rfl (Nat.le_of_ble_eq_true rfl) dX12_plain_3 ⟨(Nat.le_of_ble_eq_true rfl), (Nat.le_of_ble_eq_true rfl)⟩ (fun u_ H locs hq3 hP hD hS => ?_)
  obtain ⟨at2_1, r_2⟩ := u_
  replace hq3 : (0 ≤ at2_1.toInt ∧ at2_1.toInt ≤ en.toInt + 7 - de.toInt) ∧ (tA.toInt ≤ at2_1.toInt) ∧ (r_2 = 1 ∧ tA.toInt < at2_1.toInt ∧ at2_1.toInt ≤ en.toInt ∨ r_2 = 0) := hq3
  have hP : va_P g.1 vwCl (List.flatten [bMo g o a th hi ac tp ba en at2_1 fl de iD iO tU fm fk fa fc ft ff fb fi]) H := hP
  have hD : va_D A (List.flatten [bMo g o a th hi ac tp ba en at2_1 fl de iD iO tU fm fk fa fc ft ff fb fi]) := hD
  refine W.widen (k := 0) (n := 0) (Nat.le_of_ble_eq_true rfl) (Nat.le_of_ble_eq_true rfl) ?_
  refine W.eq (g2 := F0 m 6 ls [.int r_2]) rfl ?_
  obtain ⟨hq3_0, hq3_1, hq3_2⟩ := hq3
  rcases hq3_2 with ⟨rfl, hq3_k⟩ | rfl
  · skip
    refine lv_if_eq (tgt := 14) hx hb dX12_plain_6 (by decide) (fun c4 => absurd c4 (by decide)) (fun _ => ?_)
    refine lv_aload_n hx hb dX12_plain_9 rfl (lv_at hl 0 rfl) ?_
    refine va_get (D := g.1) (ci := 10) (v := .int iD) (C := RX12) (T := TX12) (N := 20) hx hb hts izRX12 hown hK hP 0 rfl rfl 15 (by decide) (hts _ k941) (fun _ h9 => h9) rfl dX12_plain_10 ?_
    have hP : va_P g.1 vwCl (List.flatten [bMo g o a th hi ac tp ba en at2_1 fl de iD iO tU fm fk fa fc ft ff fb fi]) H := hP
    have hD : va_D A (List.flatten [bMo g o a th hi ac tp ba en at2_1 fl de iD iO tU fm fk fa fc ft ff fb fi]) := hD
    exact mret_z hx hb hr hlocks hS (Nat.le_of_ble_eq_true rfl) (Nat.le_of_ble_eq_true rfl) dX12_plain_13 (at2_1, fl, iD) rfl (by first | assumption | exact zb01 (by omega)) (show (0 ≤ at2_1.toInt ∧ at2_1.toInt ≤ en.toInt + 7 - de.toInt) ∧ (tA.toInt ≤ at2_1.toInt) ∧ (-1 ≤ fl.toInt) ∧ (iD = 0 ∨ iD = 1) from ⟨(by first | assumption | omega | decide | exact rfl | exact zb01 (by omega) | exact Or.inl (by decide) | exact Or.inr (by first | omega | decide)), (by first | assumption | omega | decide | exact rfl | exact zb01 (by omega) | exact Or.inl (by decide) | exact Or.inr (by first | omega | decide)), (by first | assumption | omega | decide | exact rfl | exact zb01 (by omega) | exact Or.inl (by decide) | exact Or.inr (by first | omega | decide)), (by first | assumption | omega | decide | exact rfl | exact zb01 (by omega) | exact Or.inl (by decide) | exact Or.inr (by first | omega | decide))⟩) hP hD
  · skip
    refine lv_if_eq (tgt := 14) hx hb dX12_plain_6 (by decide) (fun _ => ?_) (fun c5 => absurd (by decide) c5)
    refine lv_aload_n hx hb dX12_plain_14 rfl (lv_at hl 0 rfl) ?_
    refine va_ldcS (q := g.2 96) hx hb hown (zra43 hT.2.1) dX12_plain_15 ?_
    refine mcallV' (g := g) (q0 := 0) (ci := 10) (As := [.ref (g.2 96)]) (rest := []) St hK hT hA hP hD hS hl.1 [0] [] rfl rfl rfl (m_has l g o a th hi ac tp ba en at2_1 fl de iD iO tU fm fk fa fc ft ff fb fi (g.2 96) 43 zqa43 (by first | assumption | omega | decide | exact Or.inl (by decide) | exact Or.inr (by decide)) (⟨hen.1, hen.2⟩) (by first | assumption | omega | decide | exact Or.inl (by decide) | exact Or.inr (by decide)) (by first | assumption | omega | decide | exact Or.inl (by decide) | exact Or.inr (by decide)) (⟨hde.1, hde.2⟩) rfl zla43 zna43) (cwV 1 hts (zgL (zl4 k898 k899 k900 k837) k888) rfl rfl rfl (by decide +kernel) ⟨Nat.le_of_ble_eq_true rfl, Nat.le_of_ble_eq_true rfl⟩) rfl rfl rfl rfl (Nat.le_of_ble_eq_true rfl) dX12_plain_17 ⟨(Nat.le_of_ble_eq_true rfl), (Nat.le_of_ble_eq_true rfl)⟩ (fun u_ H locs hq8 hP hD hS => ?_)
    obtain ⟨at2_6, r_7⟩ := u_
    replace hq8 : (0 ≤ at2_6.toInt ∧ at2_6.toInt ≤ en.toInt + 7 - de.toInt) ∧ (at2_1.toInt ≤ at2_6.toInt) ∧ (r_7 = 1 ∧ at2_1.toInt < at2_6.toInt ∧ at2_6.toInt ≤ en.toInt ∨ r_7 = 0) := hq8
    have hP : va_P g.1 vwCl (List.flatten [bMo g o a th hi ac tp ba en at2_6 fl de iD iO tU fm fk fa fc ft ff fb fi]) H := hP
    have hD : va_D A (List.flatten [bMo g o a th hi ac tp ba en at2_6 fl de iD iO tU fm fk fa fc ft ff fb fi]) := hD
    refine W.widen (k := 0) (n := 0) (Nat.le_of_ble_eq_true rfl) (Nat.le_of_ble_eq_true rfl) ?_
    refine W.eq (g2 := F0 m 20 ls [.int r_7]) rfl ?_
    obtain ⟨hq8_0, hq8_1, hq8_2⟩ := hq8
    rcases hq8_2 with ⟨rfl, hq8_k⟩ | rfl
    · skip
      refine lv_if_eq (tgt := 28) hx hb dX12_plain_20 (by decide) (fun c9 => absurd c9 (by decide)) (fun _ => ?_)
      refine lv_aload_n hx hb dX12_plain_23 rfl (lv_at hl 0 rfl) ?_
      refine va_get (D := g.1) (ci := 10) (v := .int iO) (C := RX12) (T := TX12) (N := 20) hx hb hts izRX12 hown hK hP 0 rfl rfl 16 (by decide) (hts _ k942) (fun _ h9 => h9) rfl dX12_plain_24 ?_
      have hP : va_P g.1 vwCl (List.flatten [bMo g o a th hi ac tp ba en at2_6 fl de iD iO tU fm fk fa fc ft ff fb fi]) H := hP
      have hD : va_D A (List.flatten [bMo g o a th hi ac tp ba en at2_6 fl de iD iO tU fm fk fa fc ft ff fb fi]) := hD
      exact mret_z hx hb hr hlocks hS (Nat.le_of_ble_eq_true rfl) (Nat.le_of_ble_eq_true rfl) dX12_plain_27 (at2_6, fl, iO) rfl (by first | assumption | exact zb01 (by omega)) (show (0 ≤ at2_6.toInt ∧ at2_6.toInt ≤ en.toInt + 7 - de.toInt) ∧ (tA.toInt ≤ at2_6.toInt) ∧ (-1 ≤ fl.toInt) ∧ (iO = 0 ∨ iO = 1) from ⟨(by first | assumption | omega | decide | exact rfl | exact zb01 (by omega) | exact Or.inl (by decide) | exact Or.inr (by first | omega | decide)), (by first | assumption | omega | decide | exact rfl | exact zb01 (by omega) | exact Or.inl (by decide) | exact Or.inr (by first | omega | decide)), (by first | assumption | omega | decide | exact rfl | exact zb01 (by omega) | exact Or.inl (by decide) | exact Or.inr (by first | omega | decide)), (by first | assumption | omega | decide | exact rfl | exact zb01 (by omega) | exact Or.inl (by decide) | exact Or.inr (by first | omega | decide))⟩) hP hD
    · skip
      refine lv_if_eq (tgt := 28) hx hb dX12_plain_20 (by decide) (fun _ => ?_) (fun c10 => absurd (by decide) c10)
      refine lv_aload_n hx hb dX12_plain_28 rfl (lv_at hl 0 rfl) ?_
      refine mcallV' (g := g) (q0 := 0) (ci := 10) (As := []) (rest := []) St hK hT hA hP hD hS hl.1 [0] [] rfl rfl rfl (m_sum l g o a th hi ac tp ba en at2_6 fl de iD iO tU fm fk fa fc ft ff fb fi (by first | assumption | omega | decide | exact Or.inl (by decide) | exact Or.inr (by decide)) (⟨hen.1, hen.2⟩) (by first | assumption | omega | decide | exact Or.inl (by decide) | exact Or.inr (by decide)) (by first | assumption | omega | decide | exact Or.inl (by decide) | exact Or.inr (by decide)) (⟨hde.1, hde.2⟩)) (cwV 0 hts (zgL (zl4 k943 k944 k945 k837) k940) rfl rfl rfl (by decide +kernel) ⟨Nat.le_of_ble_eq_true rfl, Nat.le_of_ble_eq_true rfl⟩) rfl rfl rfl rfl (Nat.le_of_ble_eq_true rfl) dX12_plain_29 ⟨(Nat.le_of_ble_eq_true rfl), (Nat.le_of_ble_eq_true rfl)⟩ (fun u_ H locs hq14 hP hD hS => ?_)
      obtain ⟨at2_11, fl2_12, q_13⟩ := u_
      replace hq14 : (0 ≤ at2_11.toInt ∧ at2_11.toInt ≤ en.toInt + 7 - de.toInt) ∧ (at2_6.toInt ≤ at2_11.toInt) ∧ (-1 ≤ fl2_12.toInt) := hq14
      have hP : va_P g.1 vwCl (List.flatten [bMo g o a th hi ac tp ba en at2_11 fl2_12 de iD iO tU fm fk fa fc ft ff fb fi]) H := hP
      have hD : va_D A (List.flatten [bMo g o a th hi ac tp ba en at2_11 fl2_12 de iD iO tU fm fk fa fc ft ff fb fi]) := hD
      refine W.widen (k := 0) (n := 0) (Nat.le_of_ble_eq_true rfl) (Nat.le_of_ble_eq_true rfl) ?_
      refine W.eq (g2 := F0 m 32 ls [.int q_13]) rfl ?_
      obtain ⟨hq14_0, hq14_1, hq14_2⟩ := hq14
      refine lv_istore_n (lv' := [(1, .int q_13), (0, .ref o)]) hx hb dX12_plain_32 rfl hl (by decide) rfl (fun ls hl => ?_)
      refine lv_aload_n hx hb dX12_plain_33 rfl (lv_at hl 1 rfl) ?_
      refine va_get (D := g.1) (ci := 10) (v := .int fl2_12) (C := RX12) (T := TX12) (N := 20) hx hb hts izRX12 hown hK hP 0 rfl rfl 12 (by decide) (hts _ k820) (fun _ h9 => h9) rfl dX12_plain_34 ?_
      refine lv_iconst (v := (-1)) hx hb dX12_plain_37 (by decide) ?_
      refine lv_icmp_eq (tgt := 43) hx hb dX12_plain_38 (by decide) (fun cb9 => ?_) (fun cb9 => ?_)
      · skip
        have c15 : fl2_12.toInt = (-1) := zeq cb9 rfl (by decide)
        have n16 : fl2_12.toInt ≤ (-1) := Int.le_trans (Int.le_of_eq c15) (Int.le_refl _)
        refine lv_aload_n hx hb dX12_plain_43 rfl (lv_at hl 1 rfl) ?_
        refine lv_bipush (v := 60) hx hb dX12_plain_44 (by decide) ?_
        refine mcallV' (g := g) (q0 := 0) (ci := 10) (As := [.int 60]) (rest := []) St hK hT hA hP hD hS hl.1 [0] [] rfl rfl rfl (m_isSign l g o a th hi ac tp ba en at2_11 fl2_12 de iD iO tU fm fk fa fc ft ff fb fi 60 (by first | assumption | omega | decide | exact Or.inl (by decide) | exact Or.inr (by decide)) (⟨hen.1, hen.2⟩) (by first | assumption | omega | decide | exact Or.inl (by decide) | exact Or.inr (by decide)) (by first | assumption | omega | decide | exact Or.inl (by decide) | exact Or.inr (by decide)) (⟨hde.1, hde.2⟩)) (cwV 1 hts (zgL (zl4 k937 k938 k939 k837) k882) rfl rfl rfl (by decide +kernel) ⟨Nat.le_of_ble_eq_true rfl, Nat.le_of_ble_eq_true rfl⟩) rfl rfl rfl rfl (Nat.le_of_ble_eq_true rfl) dX12_plain_46 ⟨(Nat.le_of_ble_eq_true rfl), (Nat.le_of_ble_eq_true rfl)⟩ (fun u_ H locs hq19 hP hD hS => ?_)
        obtain ⟨at2_17, q_18⟩ := u_
        replace hq19 : (0 ≤ at2_17.toInt ∧ at2_17.toInt ≤ en.toInt + 7 - de.toInt) ∧ (at2_11.toInt ≤ at2_17.toInt) ∧ (q_18 = 1 ∧ at2_17.toInt < en.toInt ∨ q_18 = 0) := hq19
        have hP : va_P g.1 vwCl (List.flatten [bMo g o a th hi ac tp ba en at2_17 fl2_12 de iD iO tU fm fk fa fc ft ff fb fi]) H := hP
        have hD : va_D A (List.flatten [bMo g o a th hi ac tp ba en at2_17 fl2_12 de iD iO tU fm fk fa fc ft ff fb fi]) := hD
        refine W.widen (k := 0) (n := 0) (Nat.le_of_ble_eq_true rfl) (Nat.le_of_ble_eq_true rfl) ?_
        refine W.eq (g2 := F0 m 49 ls [.int q_18]) rfl ?_
        obtain ⟨hq19_0, hq19_1, hq19_2⟩ := hq19
        rcases hq19_2 with ⟨rfl, hq19_k⟩ | rfl
        · skip
          refine lv_istore_n (lv' := [(2, .int 1), (1, .int q_13), (0, .ref o)]) hx hb dX12_plain_49 rfl hl (by decide) rfl (fun ls hl => ?_)
          refine lv_iload_n hx hb dX12_plain_50 rfl (lv_at hl 0 rfl) ?_
          refine lv_if_ne (tgt := 73) hx hb dX12_plain_51 (by decide) (fun _ => ?_) (fun c20 => absurd c20 (by decide))
          refine lv_aload_n hx hb dX12_plain_73 rfl (lv_at hl 2 rfl) ?_
          refine lv_dup hx hb dX12_plain_74 rfl ?_
          refine va_get (D := g.1) (ci := 10) (v := .int at2_17) (C := RX12) (T := TX12) (N := 20) hx hb hts izRX12 hown hK hP 0 rfl rfl 11 (by decide) (hts _ k877) (fun _ h9 => h9) rfl dX12_plain_75 ?_
          refine lv_iconst (v := 1) hx hb dX12_plain_78 (by decide) ?_
          refine lv_iadd hx hb dX12_plain_79 ?_
          refine zgv (zadd (i := at2_17.toInt) (j := 1) rfl (by decide) (by omega)) (fun x_21 hx_21 => ?_)
          refine va_put (D := g.1) (ci := 10) (v := .int x_21) (ty := .int) (C := RX12) (T := TX12) (N := 20) hx hb hts izRX12 tyX12 tyX12_ok nmX12 hown hK hP hD hS 0 rfl rfl 11 (by decide) (hts _ k877) (fun _ h9 => h9) rfl (by decide +kernel) rfl rfl (Nat.le_of_ble_eq_true rfl) dX12_plain_80 (fun H locs hP hD hS => ?_)
          have hP : va_P g.1 vwCl (List.flatten [bMo g o a th hi ac tp ba en x_21 fl2_12 de iD iO tU fm fk fa fc ft ff fb fi]) H := hP
          have hD : va_D A (List.flatten [bMo g o a th hi ac tp ba en x_21 fl2_12 de iD iO tU fm fk fa fc ft ff fb fi]) := hD
          refine lv_aload_n hx hb dX12_plain_83 rfl (lv_at hl 2 rfl) ?_
          refine mcallV' (g := g) (q0 := 0) (ci := 10) (As := []) (rest := []) St hK hT hA hP hD hS hl.1 [0] [] rfl rfl rfl (m_sum l g o a th hi ac tp ba en x_21 fl2_12 de iD iO tU fm fk fa fc ft ff fb fi (by first | assumption | omega | decide | exact Or.inl (by decide) | exact Or.inr (by decide)) (⟨hen.1, hen.2⟩) (by first | assumption | omega | decide | exact Or.inl (by decide) | exact Or.inr (by decide)) (by first | assumption | omega | decide | exact Or.inl (by decide) | exact Or.inr (by decide)) (⟨hde.1, hde.2⟩)) (cwV 0 hts (zgL (zl4 k943 k944 k945 k837) k940) rfl rfl rfl (by decide +kernel) ⟨Nat.le_of_ble_eq_true rfl, Nat.le_of_ble_eq_true rfl⟩) rfl rfl rfl rfl (Nat.le_of_ble_eq_true rfl) dX12_plain_84 ⟨(Nat.le_of_ble_eq_true rfl), (Nat.le_of_ble_eq_true rfl)⟩ (fun u_ H locs hq25 hP hD hS => ?_)
          obtain ⟨at2_22, fl2_23, q_24⟩ := u_
          replace hq25 : (0 ≤ at2_22.toInt ∧ at2_22.toInt ≤ en.toInt + 7 - de.toInt) ∧ (x_21.toInt ≤ at2_22.toInt) ∧ (-1 ≤ fl2_23.toInt) := hq25
          have hP : va_P g.1 vwCl (List.flatten [bMo g o a th hi ac tp ba en at2_22 fl2_23 de iD iO tU fm fk fa fc ft ff fb fi]) H := hP
          have hD : va_D A (List.flatten [bMo g o a th hi ac tp ba en at2_22 fl2_23 de iD iO tU fm fk fa fc ft ff fb fi]) := hD
          refine W.widen (k := 0) (n := 0) (Nat.le_of_ble_eq_true rfl) (Nat.le_of_ble_eq_true rfl) ?_
          refine W.eq (g2 := F0 m 87 ls [.int q_24]) rfl ?_
          obtain ⟨hq25_0, hq25_1, hq25_2⟩ := hq25
          refine lv_istore_n (lv' := [(3, .int q_24), (2, .int 1), (1, .int q_13), (0, .ref o)]) hx hb dX12_plain_87 rfl hl (by decide) rfl (fun ls hl => ?_)
          refine lv_iload_n hx hb dX12_plain_88 rfl (lv_at hl 1 rfl) ?_
          refine lv_if_eq (tgt := 105) hx hb dX12_plain_89 (by decide) (fun c26 => absurd c26 (by decide)) (fun _ => ?_)
          refine lv_iload_n hx hb dX12_plain_92 rfl (lv_at hl 2 rfl) ?_
          refine lv_iload_n hx hb dX12_plain_93 rfl (lv_at hl 0 rfl) ?_
          refine lv_icmp_ge (tgt := 101) hx hb dX12_plain_94 (by decide) (fun cb9 => ?_) (fun cb9 => ?_)
          · skip
            have c27 : q_24.toInt ≤ q_13.toInt := zle cb9 rfl rfl
            refine lv_iconst (v := 0) hx hb dX12_plain_101 (by decide) ?_
            refine lv_goto (tgt := 115) hx hb dX12_plain_102 (by decide) ?_
            have hP : va_P g.1 vwCl (List.flatten [bMo g o a th hi ac tp ba en at2_22 fl2_23 de iD iO tU fm fk fa fc ft ff fb fi]) H := hP
            have hD : va_D A (List.flatten [bMo g o a th hi ac tp ba en at2_22 fl2_23 de iD iO tU fm fk fa fc ft ff fb fi]) := hD
            exact mret_z hx hb hr hlocks hS (Nat.le_of_ble_eq_true rfl) (Nat.le_of_ble_eq_true rfl) dX12_plain_115 (at2_22, fl2_23, (0 : Int32)) rfl (by decide) (show (0 ≤ at2_22.toInt ∧ at2_22.toInt ≤ en.toInt + 7 - de.toInt) ∧ (tA.toInt ≤ at2_22.toInt) ∧ (-1 ≤ fl2_23.toInt) ∧ (0 = 0 ∨ 0 = 1) from ⟨(by first | assumption | omega | decide | exact rfl | exact zb01 (by omega) | exact Or.inl (by decide) | exact Or.inr (by first | omega | decide)), (by first | assumption | omega | decide | exact rfl | exact zb01 (by omega) | exact Or.inl (by decide) | exact Or.inr (by first | omega | decide)), (by first | assumption | omega | decide | exact rfl | exact zb01 (by omega) | exact Or.inl (by decide) | exact Or.inr (by first | omega | decide)), (by first | assumption | omega | decide | exact rfl | exact zb01 (by omega) | exact Or.inl (by decide) | exact Or.inr (by first | omega | decide))⟩) hP hD
          · skip
            have c28 : q_13.toInt < q_24.toInt := zlti (Int32.not_le.mp cb9) rfl rfl
            refine lv_iconst (v := 1) hx hb dX12_plain_97 (by decide) ?_
            refine lv_goto (tgt := 115) hx hb dX12_plain_98 (by decide) ?_
            have hP : va_P g.1 vwCl (List.flatten [bMo g o a th hi ac tp ba en at2_22 fl2_23 de iD iO tU fm fk fa fc ft ff fb fi]) H := hP
            have hD : va_D A (List.flatten [bMo g o a th hi ac tp ba en at2_22 fl2_23 de iD iO tU fm fk fa fc ft ff fb fi]) := hD
            exact mret_z hx hb hr hlocks hS (Nat.le_of_ble_eq_true rfl) (Nat.le_of_ble_eq_true rfl) dX12_plain_115 (at2_22, fl2_23, (1 : Int32)) rfl (by decide) (show (0 ≤ at2_22.toInt ∧ at2_22.toInt ≤ en.toInt + 7 - de.toInt) ∧ (tA.toInt ≤ at2_22.toInt) ∧ (-1 ≤ fl2_23.toInt) ∧ (1 = 0 ∨ 1 = 1) from ⟨(by first | assumption | omega | decide | exact rfl | exact zb01 (by omega) | exact Or.inl (by decide) | exact Or.inr (by first | omega | decide)), (by first | assumption | omega | decide | exact rfl | exact zb01 (by omega) | exact Or.inl (by decide) | exact Or.inr (by first | omega | decide)), (by first | assumption | omega | decide | exact rfl | exact zb01 (by omega) | exact Or.inl (by decide) | exact Or.inr (by first | omega | decide)), (by first | assumption | omega | decide | exact rfl | exact zb01 (by omega) | exact Or.inl (by decide) | exact Or.inr (by first | omega | decide))⟩) hP hD
        · skip
          refine lv_istore_n (lv' := [(2, .int 0), (1, .int q_13), (0, .ref o)]) hx hb dX12_plain_49 rfl hl (by decide) rfl (fun ls hl => ?_)
          refine lv_iload_n hx hb dX12_plain_50 rfl (lv_at hl 0 rfl) ?_
          refine lv_if_ne (tgt := 73) hx hb dX12_plain_51 (by decide) (fun c29 => absurd (by decide) c29) (fun _ => ?_)
          refine lv_aload_n hx hb dX12_plain_54 rfl (lv_at hl 2 rfl) ?_
          refine lv_bipush (v := 62) hx hb dX12_plain_55 (by decide) ?_
          refine mcallV' (g := g) (q0 := 0) (ci := 10) (As := [.int 62]) (rest := []) St hK hT hA hP hD hS hl.1 [0] [] rfl rfl rfl (m_isSign l g o a th hi ac tp ba en at2_17 fl2_12 de iD iO tU fm fk fa fc ft ff fb fi 62 (by first | assumption | omega | decide | exact Or.inl (by decide) | exact Or.inr (by decide)) (⟨hen.1, hen.2⟩) (by first | assumption | omega | decide | exact Or.inl (by decide) | exact Or.inr (by decide)) (by first | assumption | omega | decide | exact Or.inl (by decide) | exact Or.inr (by decide)) (⟨hde.1, hde.2⟩)) (cwV 1 hts (zgL (zl4 k937 k938 k939 k837) k882) rfl rfl rfl (by decide +kernel) ⟨Nat.le_of_ble_eq_true rfl, Nat.le_of_ble_eq_true rfl⟩) rfl rfl rfl rfl (Nat.le_of_ble_eq_true rfl) dX12_plain_57 ⟨(Nat.le_of_ble_eq_true rfl), (Nat.le_of_ble_eq_true rfl)⟩ (fun u_ H locs hq32 hP hD hS => ?_)
          obtain ⟨at2_30, q_31⟩ := u_
          replace hq32 : (0 ≤ at2_30.toInt ∧ at2_30.toInt ≤ en.toInt + 7 - de.toInt) ∧ (at2_17.toInt ≤ at2_30.toInt) ∧ (q_31 = 1 ∧ at2_30.toInt < en.toInt ∨ q_31 = 0) := hq32
          have hP : va_P g.1 vwCl (List.flatten [bMo g o a th hi ac tp ba en at2_30 fl2_12 de iD iO tU fm fk fa fc ft ff fb fi]) H := hP
          have hD : va_D A (List.flatten [bMo g o a th hi ac tp ba en at2_30 fl2_12 de iD iO tU fm fk fa fc ft ff fb fi]) := hD
          refine W.widen (k := 0) (n := 0) (Nat.le_of_ble_eq_true rfl) (Nat.le_of_ble_eq_true rfl) ?_
          refine W.eq (g2 := F0 m 60 ls [.int q_31]) rfl ?_
          obtain ⟨hq32_0, hq32_1, hq32_2⟩ := hq32
          rcases hq32_2 with ⟨rfl, hq32_k⟩ | rfl
          · skip
            refine lv_if_ne (tgt := 73) hx hb dX12_plain_60 (by decide) (fun _ => ?_) (fun c33 => absurd c33 (by decide))
            refine lv_aload_n hx hb dX12_plain_73 rfl (lv_at hl 2 rfl) ?_
            refine lv_dup hx hb dX12_plain_74 rfl ?_
            refine va_get (D := g.1) (ci := 10) (v := .int at2_30) (C := RX12) (T := TX12) (N := 20) hx hb hts izRX12 hown hK hP 0 rfl rfl 11 (by decide) (hts _ k877) (fun _ h9 => h9) rfl dX12_plain_75 ?_
            refine lv_iconst (v := 1) hx hb dX12_plain_78 (by decide) ?_
            refine lv_iadd hx hb dX12_plain_79 ?_
            refine zgv (zadd (i := at2_30.toInt) (j := 1) rfl (by decide) (by omega)) (fun x_34 hx_34 => ?_)
            refine va_put (D := g.1) (ci := 10) (v := .int x_34) (ty := .int) (C := RX12) (T := TX12) (N := 20) hx hb hts izRX12 tyX12 tyX12_ok nmX12 hown hK hP hD hS 0 rfl rfl 11 (by decide) (hts _ k877) (fun _ h9 => h9) rfl (by decide +kernel) rfl rfl (Nat.le_of_ble_eq_true rfl) dX12_plain_80 (fun H locs hP hD hS => ?_)
            have hP : va_P g.1 vwCl (List.flatten [bMo g o a th hi ac tp ba en x_34 fl2_12 de iD iO tU fm fk fa fc ft ff fb fi]) H := hP
            have hD : va_D A (List.flatten [bMo g o a th hi ac tp ba en x_34 fl2_12 de iD iO tU fm fk fa fc ft ff fb fi]) := hD
            refine lv_aload_n hx hb dX12_plain_83 rfl (lv_at hl 2 rfl) ?_
            refine mcallV' (g := g) (q0 := 0) (ci := 10) (As := []) (rest := []) St hK hT hA hP hD hS hl.1 [0] [] rfl rfl rfl (m_sum l g o a th hi ac tp ba en x_34 fl2_12 de iD iO tU fm fk fa fc ft ff fb fi (by first | assumption | omega | decide | exact Or.inl (by decide) | exact Or.inr (by decide)) (⟨hen.1, hen.2⟩) (by first | assumption | omega | decide | exact Or.inl (by decide) | exact Or.inr (by decide)) (by first | assumption | omega | decide | exact Or.inl (by decide) | exact Or.inr (by decide)) (⟨hde.1, hde.2⟩)) (cwV 0 hts (zgL (zl4 k943 k944 k945 k837) k940) rfl rfl rfl (by decide +kernel) ⟨Nat.le_of_ble_eq_true rfl, Nat.le_of_ble_eq_true rfl⟩) rfl rfl rfl rfl (Nat.le_of_ble_eq_true rfl) dX12_plain_84 ⟨(Nat.le_of_ble_eq_true rfl), (Nat.le_of_ble_eq_true rfl)⟩ (fun u_ H locs hq38 hP hD hS => ?_)
            obtain ⟨at2_35, fl2_36, q_37⟩ := u_
            replace hq38 : (0 ≤ at2_35.toInt ∧ at2_35.toInt ≤ en.toInt + 7 - de.toInt) ∧ (x_34.toInt ≤ at2_35.toInt) ∧ (-1 ≤ fl2_36.toInt) := hq38
            have hP : va_P g.1 vwCl (List.flatten [bMo g o a th hi ac tp ba en at2_35 fl2_36 de iD iO tU fm fk fa fc ft ff fb fi]) H := hP
            have hD : va_D A (List.flatten [bMo g o a th hi ac tp ba en at2_35 fl2_36 de iD iO tU fm fk fa fc ft ff fb fi]) := hD
            refine W.widen (k := 0) (n := 0) (Nat.le_of_ble_eq_true rfl) (Nat.le_of_ble_eq_true rfl) ?_
            refine W.eq (g2 := F0 m 87 ls [.int q_37]) rfl ?_
            obtain ⟨hq38_0, hq38_1, hq38_2⟩ := hq38
            refine lv_istore_n (lv' := [(3, .int q_37), (2, .int 0), (1, .int q_13), (0, .ref o)]) hx hb dX12_plain_87 rfl hl (by decide) rfl (fun ls hl => ?_)
            refine lv_iload_n hx hb dX12_plain_88 rfl (lv_at hl 1 rfl) ?_
            refine lv_if_eq (tgt := 105) hx hb dX12_plain_89 (by decide) (fun _ => ?_) (fun c39 => absurd (by decide) c39)
            refine lv_iload_n hx hb dX12_plain_105 rfl (lv_at hl 2 rfl) ?_
            refine lv_iload_n hx hb dX12_plain_106 rfl (lv_at hl 0 rfl) ?_
            refine lv_icmp_le (tgt := 114) hx hb dX12_plain_107 (by decide) (fun cb9 => ?_) (fun cb9 => ?_)
            · skip
              have c40 : q_13.toInt ≤ q_37.toInt := zle cb9 rfl rfl
              refine lv_iconst (v := 0) hx hb dX12_plain_114 (by decide) ?_
              have hP : va_P g.1 vwCl (List.flatten [bMo g o a th hi ac tp ba en at2_35 fl2_36 de iD iO tU fm fk fa fc ft ff fb fi]) H := hP
              have hD : va_D A (List.flatten [bMo g o a th hi ac tp ba en at2_35 fl2_36 de iD iO tU fm fk fa fc ft ff fb fi]) := hD
              exact mret_z hx hb hr hlocks hS (Nat.le_of_ble_eq_true rfl) (Nat.le_of_ble_eq_true rfl) dX12_plain_115 (at2_35, fl2_36, (0 : Int32)) rfl (by decide) (show (0 ≤ at2_35.toInt ∧ at2_35.toInt ≤ en.toInt + 7 - de.toInt) ∧ (tA.toInt ≤ at2_35.toInt) ∧ (-1 ≤ fl2_36.toInt) ∧ (0 = 0 ∨ 0 = 1) from ⟨(by first | assumption | omega | decide | exact rfl | exact zb01 (by omega) | exact Or.inl (by decide) | exact Or.inr (by first | omega | decide)), (by first | assumption | omega | decide | exact rfl | exact zb01 (by omega) | exact Or.inl (by decide) | exact Or.inr (by first | omega | decide)), (by first | assumption | omega | decide | exact rfl | exact zb01 (by omega) | exact Or.inl (by decide) | exact Or.inr (by first | omega | decide)), (by first | assumption | omega | decide | exact rfl | exact zb01 (by omega) | exact Or.inl (by decide) | exact Or.inr (by first | omega | decide))⟩) hP hD
            · skip
              have c41 : q_37.toInt < q_13.toInt := zlti (Int32.not_le.mp cb9) rfl rfl
              refine lv_iconst (v := 1) hx hb dX12_plain_110 (by decide) ?_
              refine lv_goto (tgt := 115) hx hb dX12_plain_111 (by decide) ?_
              have hP : va_P g.1 vwCl (List.flatten [bMo g o a th hi ac tp ba en at2_35 fl2_36 de iD iO tU fm fk fa fc ft ff fb fi]) H := hP
              have hD : va_D A (List.flatten [bMo g o a th hi ac tp ba en at2_35 fl2_36 de iD iO tU fm fk fa fc ft ff fb fi]) := hD
              exact mret_z hx hb hr hlocks hS (Nat.le_of_ble_eq_true rfl) (Nat.le_of_ble_eq_true rfl) dX12_plain_115 (at2_35, fl2_36, (1 : Int32)) rfl (by decide) (show (0 ≤ at2_35.toInt ∧ at2_35.toInt ≤ en.toInt + 7 - de.toInt) ∧ (tA.toInt ≤ at2_35.toInt) ∧ (-1 ≤ fl2_36.toInt) ∧ (1 = 0 ∨ 1 = 1) from ⟨(by first | assumption | omega | decide | exact rfl | exact zb01 (by omega) | exact Or.inl (by decide) | exact Or.inr (by first | omega | decide)), (by first | assumption | omega | decide | exact rfl | exact zb01 (by omega) | exact Or.inl (by decide) | exact Or.inr (by first | omega | decide)), (by first | assumption | omega | decide | exact rfl | exact zb01 (by omega) | exact Or.inl (by decide) | exact Or.inr (by first | omega | decide)), (by first | assumption | omega | decide | exact rfl | exact zb01 (by omega) | exact Or.inl (by decide) | exact Or.inr (by first | omega | decide))⟩) hP hD
          · skip
            refine lv_if_ne (tgt := 73) hx hb dX12_plain_60 (by decide) (fun c42 => absurd (by decide) c42) (fun _ => ?_)
            refine lv_aload_n hx hb dX12_plain_63 rfl (lv_at hl 2 rfl) ?_
            refine lv_aload_n hx hb dX12_plain_64 rfl (lv_at hl 2 rfl) ?_
            refine va_get (D := g.1) (ci := 10) (v := .int at2_30) (C := RX12) (T := TX12) (N := 20) hx hb hts izRX12 hown hK hP 0 rfl rfl 11 (by decide) (hts _ k877) (fun _ h9 => h9) rfl dX12_plain_65 ?_
            refine mcallV' (g := g) (q0 := 0) (ci := 10) (As := [.int at2_30]) (rest := []) St hK hT hA hP hD hS hl.1 [0] [] rfl rfl rfl (m_wrong l g o a th hi ac tp ba en at2_30 fl2_12 de iD iO tU fm fk fa fc ft ff fb fi at2_30 (by first | assumption | omega | decide | exact Or.inl (by decide) | exact Or.inr (by decide)) (by first | assumption | omega | decide | exact Or.inl (by decide) | exact Or.inr (by decide))) (cwV 1 hts (zgL (zl4 k894 k895 k896 k837) k889) rfl rfl rfl (by decide +kernel) ⟨Nat.le_of_ble_eq_true rfl, Nat.le_of_ble_eq_true rfl⟩) rfl rfl rfl rfl (Nat.le_of_ble_eq_true rfl) dX12_plain_68 ⟨(Nat.le_of_ble_eq_true rfl), (Nat.le_of_ble_eq_true rfl)⟩ (fun fl2_43 H locs hq44 hP hD hS => ?_)
            replace hq44 : (0 ≤ fl2_43.toInt) := hq44
            have hP : va_P g.1 vwCl (List.flatten [bMo g o a th hi ac tp ba en at2_30 fl2_43 de iD iO tU fm fk fa fc ft ff fb fi]) H := hP
            have hD : va_D A (List.flatten [bMo g o a th hi ac tp ba en at2_30 fl2_43 de iD iO tU fm fk fa fc ft ff fb fi]) := hD
            refine W.widen (k := 0) (n := 0) (Nat.le_of_ble_eq_true rfl) (Nat.le_of_ble_eq_true rfl) ?_
            refine W.eq (g2 := F0 m 71 ls []) rfl ?_
            refine lv_iconst (v := 0) hx hb dX12_plain_71 (by decide) ?_
            have hP : va_P g.1 vwCl (List.flatten [bMo g o a th hi ac tp ba en at2_30 fl2_43 de iD iO tU fm fk fa fc ft ff fb fi]) H := hP
            have hD : va_D A (List.flatten [bMo g o a th hi ac tp ba en at2_30 fl2_43 de iD iO tU fm fk fa fc ft ff fb fi]) := hD
            exact mret_z hx hb hr hlocks hS (Nat.le_of_ble_eq_true rfl) (Nat.le_of_ble_eq_true rfl) dX12_plain_72 (at2_30, fl2_43, (0 : Int32)) rfl (by decide) (show (0 ≤ at2_30.toInt ∧ at2_30.toInt ≤ en.toInt + 7 - de.toInt) ∧ (tA.toInt ≤ at2_30.toInt) ∧ (-1 ≤ fl2_43.toInt) ∧ (0 = 0 ∨ 0 = 1) from ⟨(by first | assumption | omega | decide | exact rfl | exact zb01 (by omega) | exact Or.inl (by decide) | exact Or.inr (by first | omega | decide)), (by first | assumption | omega | decide | exact rfl | exact zb01 (by omega) | exact Or.inl (by decide) | exact Or.inr (by first | omega | decide)), (by first | assumption | omega | decide | exact rfl | exact zb01 (by omega) | exact Or.inl (by decide) | exact Or.inr (by first | omega | decide)), (by first | assumption | omega | decide | exact rfl | exact zb01 (by omega) | exact Or.inl (by decide) | exact Or.inr (by first | omega | decide))⟩) hP hD
      · skip
        have c45 : ¬ fl2_12.toInt = (-1) := zne cb9 rfl (by decide)
        refine lv_iconst (v := 0) hx hb dX12_plain_41 (by decide) ?_
        have hP : va_P g.1 vwCl (List.flatten [bMo g o a th hi ac tp ba en at2_11 fl2_12 de iD iO tU fm fk fa fc ft ff fb fi]) H := hP
        have hD : va_D A (List.flatten [bMo g o a th hi ac tp ba en at2_11 fl2_12 de iD iO tU fm fk fa fc ft ff fb fi]) := hD
        exact mret_z hx hb hr hlocks hS (Nat.le_of_ble_eq_true rfl) (Nat.le_of_ble_eq_true rfl) dX12_plain_42 (at2_11, fl2_12, (0 : Int32)) rfl (by decide) (show (0 ≤ at2_11.toInt ∧ at2_11.toInt ≤ en.toInt + 7 - de.toInt) ∧ (tA.toInt ≤ at2_11.toInt) ∧ (-1 ≤ fl2_12.toInt) ∧ (0 = 0 ∨ 0 = 1) from ⟨(by first | assumption | omega | decide | exact rfl | exact zb01 (by omega) | exact Or.inl (by decide) | exact Or.inr (by first | omega | decide)), (by first | assumption | omega | decide | exact rfl | exact zb01 (by omega) | exact Or.inl (by decide) | exact Or.inr (by first | omega | decide)), (by first | assumption | omega | decide | exact rfl | exact zb01 (by omega) | exact Or.inl (by decide) | exact Or.inr (by first | omega | decide)), (by first | assumption | omega | decide | exact rfl | exact zb01 (by omega) | exact Or.inl (by decide) | exact Or.inr (by first | omega | decide))⟩) hP hD
