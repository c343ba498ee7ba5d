set_option maxRecDepth 100000 in
set_option maxHeartbeats 4000000 in
theorem m_wrong (l : Launch) (g : zG) (o : Nat) (a : Nat → Nat) (th : Int32) (hi : Int32) (ac : Int32) (tp : Int32) (ba : Int32) (en : Int32) (tA : Int32) (fl : Int32) (de : Int32) (iD : Int32) (iO : Int32) (tU : Int32) (fm : Nat → Int32) (fk : Nat → Int32) (fa : Nat → Int32) (fc : Nat → Int32) (ft : Nat → Int32) (ff : Nat → Int32) (fb : Nat → Int32) (fi : Nat → Int32) (where_ : Int32) (hwh : 0 ≤ where_.toInt) (hfl : -1 ≤ fl.toInt) : zM' g l yX12_wrong (Cond.code yX12_wrong cX12_wrong 2 none :: zB) ({ frames := 0, cells := 0, slots := 0, locals := 0 } : Room) [.ref o, .int where_] [bMo g o a th hi ac tp ba en tA fl de iD iO tU fm fk fa fc ft ff fb fi] (fun (fl2 : Int32) => none) (fun (fl2 : Int32) => (0 ≤ fl2.toInt)) (fun (fl2 : Int32) => [bMo g o a th hi ac tp ba en tA fl2 de iD iO tU fm fk fa fc ft ff fb fi]) := by
  refine zM'.of (cc := cX12_wrong) (maxL := 2) (rt := none) (by decide) rfl (Nat.le_of_ble_eq_true rfl) ?_
  intro p e s m args below meth c A ls St hr hlocks hin hK hT hA hP hD hS hl
  obtain ⟨hx, hb, hml, hown, hts⟩ := id St
  have hl : lv_has ls 2 [(0, .ref o), (1, .int where_)] := hl
  refine lv_aload_n hx hb dX12_wrong_0 rfl (lv_at hl 0 rfl) ?_
  refine va_get (D := g.1) (ci := 10) (v := .int fl) (C := RX12) (T := TX12) (N := 20) hx hb hts izRX12 hown hK hP 0 rfl rfl 12 (by decide) (hts _ k820) (fun _ h9 => h9) rfl dX12_wrong_1 ?_
  refine lv_iconst (v := (-1)) hx hb dX12_wrong_4 (by decide) ?_
  refine lv_icmp_ne (tgt := 13) hx hb dX12_wrong_5 (by decide) (fun cb9 => ?_) (fun cb9 => ?_)
  · skip
    have c1 : ¬ fl.toInt = (-1) := zne cb9 rfl (by decide)
    have hP : va_P g.1 vwCl (List.flatten [bMo g o a th hi ac tp ba en tA fl de iD iO tU fm fk fa fc ft ff fb fi]) s.heap := hP
    have hD : va_D A (List.flatten [bMo g o a th hi ac tp ba en tA fl de iD iO tU fm fk fa fc ft ff fb fi]) := hD
    exact mret_v hx hb hr hlocks hS (Nat.le_of_ble_eq_true rfl) (Nat.le_of_ble_eq_true rfl) dX12_wrong_13 (fl) rfl (show (0 ≤ fl.toInt) from (by first | assumption | omega | decide | exact rfl | exact zb01 (by omega) | exact Or.inl (by decide) | exact Or.inr (by first | omega | decide))) hP hD
  · skip
    have c2 : fl.toInt = (-1) := zeq cb9 rfl (by decide)
    have n3 : fl.toInt ≤ (-1) := Int.le_trans (Int.le_of_eq c2) (Int.le_refl _)
    refine lv_aload_n hx hb dX12_wrong_8 rfl (lv_at hl 0 rfl) ?_
    refine lv_iload_n hx hb dX12_wrong_9 rfl (lv_at hl 1 rfl) ?_
    refine va_put (D := g.1) (ci := 10) (v := .int where_) (ty := .int) (C := RX12) (T := TX12) (N := 20) hx hb hts izRX12 tyX12 tyX12_ok nmX12 hown hK hP hD hS 0 rfl rfl 12 (by decide) (hts _ k820) (fun _ h9 => h9) rfl (by decide +kernel) rfl rfl (Nat.le_of_ble_eq_true rfl) dX12_wrong_10 (fun H locs hP hD hS => ?_)
    have hP : va_P g.1 vwCl (List.flatten [bMo g o a th hi ac tp ba en tA where_ de iD iO tU fm fk fa fc ft ff fb fi]) H := hP
    have hD : va_D A (List.flatten [bMo g o a th hi ac tp ba en tA where_ de iD iO tU fm fk fa fc ft ff fb fi]) := hD
    have hP : va_P g.1 vwCl (List.flatten [bMo g o a th hi ac tp ba en tA where_ de iD iO tU fm fk fa fc ft ff fb fi]) H := hP
    have hD : va_D A (List.flatten [bMo g o a th hi ac tp ba en tA where_ de iD iO tU fm fk fa fc ft ff fb fi]) := hD
    exact mret_v hx hb hr hlocks hS (Nat.le_of_ble_eq_true rfl) (Nat.le_of_ble_eq_true rfl) dX12_wrong_13 (where_) rfl (show (0 ≤ where_.toInt) from (by first | assumption | omega | decide | exact rfl | exact zb01 (by omega) | exact Or.inl (by decide) | exact Or.inr (by first | omega | decide))) hP hD
set_option maxRecDepth 100000 in
set_option maxHeartbeats 4000000 in
theorem m_here (l : Launch) (g : zG) (o : Nat) (a : Nat → Nat) (th : Int32) (hi : Int32) (ac : Int32) (tp : Int32) (ba : Int32) (en : Int32) (tA : Int32) (fl : Int32) (de : Int32) (iD : Int32) (iO : Int32) (tU : Int32) (fm : Nat → Int32) (fk : Nat → Int32) (fa : Nat → Int32) (fc : Nat → Int32) (ft : Nat → Int32) (ff : Nat → Int32) (fb : Nat → Int32) (fi : Nat → Int32) (hba : zBa ba.toInt) (hen : 0 ≤ en.toInt ∧ en.toInt ≤ 400) (htA : 0 ≤ tA.toInt ∧ tA.toInt ≤ en.toInt + 7 - de.toInt) (hfl : -1 ≤ fl.toInt) (hde : 0 ≤ de.toInt ∧ de.toInt ≤ 6) : zM' g l yX12_here (Cond.code yX12_here cX12_here 1 (some .int) :: zB) ({ frames := 2, cells := 0, slots := 0, locals := 41 } : Room) [.ref o] [bMo g o a th hi ac tp ba en tA fl de iD iO tU fm fk fa fc ft ff fb fi] (fun (at2 : Int32) => some (.int at2)) (fun (at2 : Int32) => (0 ≤ at2.toInt ∧ at2.toInt ≤ en.toInt + 7 - de.toInt) ∧ (tA.toInt ≤ at2.toInt)) (fun (at2 : Int32) => [bMo g o a th hi ac tp ba en at2 fl de iD iO tU fm fk fa fc ft ff fb fi]) := by
  refine zM'.of (cc := cX12_here) (maxL := 1) (rt := (some .int)) (by decide) rfl (Nat.le_of_ble_eq_true rfl) ?_
  intro p e s m args below meth c A ls St hr hlocks hin hK hT hA hP hD hS hl
  obtain ⟨hx, hb, hml, hown, hts⟩ := id St
  have hl : lv_has ls 1 [(0, .ref o)] := hl
  refine lv_aload_n hx hb dX12_here_0 rfl (lv_at hl 0 rfl) ?_
  refine mcallV' (g := g) (q0 := 0) (ci := 10) (As := []) (rest := []) St hK hT hA hP hD hS hl.1 [0] [] rfl rfl rfl (m_skip l g o a th hi ac tp ba en tA fl de iD iO tU fm fk fa fc ft ff fb fi (by first | assumption | omega | decide | exact Or.inl (by decide) | exact Or.inr (by decide)) (⟨hen.1, hen.2⟩) (by first | assumption | omega | decide | exact Or.inl (by decide) | exact Or.inr (by decide)) (by first | assumption | omega | decide | exact Or.inl (by decide) | exact Or.inr (by decide)) (⟨hde.1, hde.2⟩)) (cwV 0 hts (zgL (zl4 k883 k884 k885 k837) k876) rfl rfl rfl (by decide +kernel) ⟨Nat.le_of_ble_eq_true rfl, Nat.le_of_ble_eq_true rfl⟩) rfl rfl rfl rfl (Nat.le_of_ble_eq_true rfl) dX12_here_1 ⟨(Nat.le_of_ble_eq_true rfl), (Nat.le_of_ble_eq_true rfl)⟩ (fun at2_1 H locs hq2 hP hD hS => ?_)
  replace hq2 : (0 ≤ at2_1.toInt ∧ at2_1.toInt ≤ en.toInt + 7 - de.toInt) ∧ (tA.toInt ≤ at2_1.toInt) := hq2
  have hP : va_P g.1 vwCl (List.flatten [bMo g o a th hi ac tp ba en at2_1 fl de iD iO tU fm fk fa fc ft ff fb fi]) H := hP
  have hD : va_D A (List.flatten [bMo g o a th hi ac tp ba en at2_1 fl de iD iO tU fm fk fa fc ft ff fb fi]) := hD
  refine W.widen (k := 0) (n := 0) (Nat.le_of_ble_eq_true rfl) (Nat.le_of_ble_eq_true rfl) ?_
  refine W.eq (g2 := F0 m 4 ls []) rfl ?_
  obtain ⟨hq2_0, hq2_1⟩ := hq2
  refine lv_aload_n hx hb dX12_here_4 rfl (lv_at hl 0 rfl) ?_
  refine va_get (D := g.1) (ci := 10) (v := .int at2_1) (C := RX12) (T := TX12) (N := 20) hx hb hts izRX12 hown hK hP 0 rfl rfl 11 (by decide) (hts _ k877) (fun _ h9 => h9) rfl dX12_here_5 ?_
  have hP : va_P g.1 vwCl (List.flatten [bMo g o a th hi ac tp ba en at2_1 fl de iD iO tU fm fk fa fc ft ff fb fi]) H := hP
  have hD : va_D A (List.flatten [bMo g o a th hi ac tp ba en at2_1 fl de iD iO tU fm fk fa fc ft ff fb fi]) := hD
  exact mret_i hx hb hr hlocks hS (Nat.le_of_ble_eq_true rfl) (Nat.le_of_ble_eq_true rfl) dX12_here_8 (at2_1) rfl (show (0 ≤ at2_1.toInt ∧ at2_1.toInt ≤ en.toInt + 7 - de.toInt) ∧ (tA.toInt ≤ at2_1.toInt) from ⟨(by first | assumption | omega | decide | exact rfl | exact zb01 (by omega) | exact Or.inl (by decide) | exact Or.inr (by first | omega | decide)), (by first | assumption | omega | decide | exact rfl | exact zb01 (by omega) | exact Or.inl (by decide) | exact Or.inr (by first | omega | decide))⟩) hP hD
