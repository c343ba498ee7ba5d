set_option maxRecDepth 100000 in
set_option maxHeartbeats 4000000 in
theorem m_days (l : Launch) (g : zG) (o : Nat) (a : Nat → Nat) (th : Int32) (hi : Int32) (ac : Int32) (tp : Int32) (ba : Int32) (en : Int32) (tA : Int32) (fl : Int32) (de : Int32) (iD : Int32) (iO : Int32) (tU : Int32) (fm : Nat → Int32) (fk : Nat → Int32) (fa : Nat → Int32) (fc : Nat → Int32) (ft : Nat → Int32) (ff : Nat → Int32) (fb : Nat → Int32) (fi : Nat → Int32) (n : Int32) (rfm : rM fm) (rfc : rC fc) (hac : 0 ≤ ac.toInt ∧ ac.toInt ≤ 12) (hiD : 0 ≤ iD.toInt ∧ iD.toInt ≤ 1) (hiO : 0 ≤ iO.toInt ∧ iO.toInt ≤ 1) : zM' g l yX12_days (Cond.code yX12_days cX12_days 2 (some .int) :: zB) ({ frames := 33, cells := 0, slots := 0, locals := 736 } : Room) [.ref o, .int n] [bMo g o a th hi ac tp ba en tA fl de iD iO tU fm fk fa fc ft ff fb fi] (fun u : Int32 × Int32 × Int32 × Int32 × Int32 × Int32 × Int32 × Int32 × (Nat → Int32) × (Nat → Int32) × (Nat → Int32) × Int32 × (Nat → Int32) × Int32 => (fun (th2 : Int32) (ba2 : Int32) (en2 : Int32) (at2 : Int32) (de2 : Int32) (iD2 : Int32) (iO2 : Int32) (tU2 : Int32) (ff2 : Nat → Int32) (fm2 : Nat → Int32) (fb2 : Nat → Int32) (ac2 : Int32) (fc2 : Nat → Int32) (q : Int32) => some (.int q)) (u.1) (u.2.1) (u.2.2.1) (u.2.2.2.1) (u.2.2.2.2.1) (u.2.2.2.2.2.1) (u.2.2.2.2.2.2.1) (u.2.2.2.2.2.2.2.1) (u.2.2.2.2.2.2.2.2.1) (u.2.2.2.2.2.2.2.2.2.1) (u.2.2.2.2.2.2.2.2.2.2.1) (u.2.2.2.2.2.2.2.2.2.2.2.1) (u.2.2.2.2.2.2.2.2.2.2.2.2.1) (u.2.2.2.2.2.2.2.2.2.2.2.2.2)) (fun u : Int32 × Int32 × Int32 × Int32 × Int32 × Int32 × Int32 × Int32 × (Nat → Int32) × (Nat → Int32) × (Nat → Int32) × Int32 × (Nat → Int32) × Int32 => (fun (th2 : Int32) (ba2 : Int32) (en2 : Int32) (at2 : Int32) (de2 : Int32) (iD2 : Int32) (iO2 : Int32) (tU2 : Int32) (ff2 : Nat → Int32) (fm2 : Nat → Int32) (fb2 : Nat → Int32) (ac2 : Int32) (fc2 : Nat → Int32) (q : Int32) => (rC fc2) ∧ (0 ≤ ac2.toInt ∧ ac2.toInt ≤ 12) ∧ (rM fm2) ∧ (0 ≤ iO2.toInt ∧ iO2.toInt ≤ 1) ∧ (0 ≤ iD2.toInt ∧ iD2.toInt ≤ 1)) (u.1) (u.2.1) (u.2.2.1) (u.2.2.2.1) (u.2.2.2.2.1) (u.2.2.2.2.2.1) (u.2.2.2.2.2.2.1) (u.2.2.2.2.2.2.2.1) (u.2.2.2.2.2.2.2.2.1) (u.2.2.2.2.2.2.2.2.2.1) (u.2.2.2.2.2.2.2.2.2.2.1) (u.2.2.2.2.2.2.2.2.2.2.2.1) (u.2.2.2.2.2.2.2.2.2.2.2.2.1) (u.2.2.2.2.2.2.2.2.2.2.2.2.2)) (fun u : Int32 × Int32 × Int32 × Int32 × Int32 × Int32 × Int32 × Int32 × (Nat → Int32) × (Nat → Int32) × (Nat → Int32) × Int32 × (Nat → Int32) × Int32 => (fun (th2 : Int32) (ba2 : Int32) (en2 : Int32) (at2 : Int32) (de2 : Int32) (iD2 : Int32) (iO2 : Int32) (tU2 : Int32) (ff2 : Nat → Int32) (fm2 : Nat → Int32) (fb2 : Nat → Int32) (ac2 : Int32) (fc2 : Nat → Int32) (q : Int32) => [bMo g o a th2 hi ac2 tp ba2 en2 at2 fl de2 iD2 iO2 tU2 fm2 fk fa fc2 ft ff2 fb2 fi]) (u.1) (u.2.1) (u.2.2.1) (u.2.2.2.1) (u.2.2.2.2.1) (u.2.2.2.2.2.1) (u.2.2.2.2.2.2.1) (u.2.2.2.2.2.2.2.1) (u.2.2.2.2.2.2.2.2.1) (u.2.2.2.2.2.2.2.2.2.1) (u.2.2.2.2.2.2.2.2.2.2.1) (u.2.2.2.2.2.2.2.2.2.2.2.1) (u.2.2.2.2.2.2.2.2.2.2.2.2.1) (u.2.2.2.2.2.2.2.2.2.2.2.2.2)) := by
  refine zM'.of (cc := cX12_days) (maxL := 2) (rt := (some .int)) (by decide) rfl (Nat.le_of_ble_eq_true rfl) ?_
  intro p e s m args below meth c A ls St hr hlocks hin hK hT hA hP hD hS hl
  obtain ⟨hx, hb, hml, hown, hts⟩ := id St
  have hl : lv_has ls 2 [(0, .ref o), (1, .int n)] := hl
  refine lv_aload_n hx hb dX12_days_0 rfl (lv_at hl 0 rfl) ?_
  refine lv_iload_n hx hb dX12_days_1 rfl (lv_at hl 1 rfl) ?_
  refine lv_iconst (v := 1) hx hb dX12_days_2 (by decide) ?_
  refine lv_bipush (v := 60) hx hb dX12_days_3 (by decide) ?_
  have hL1 : (1 : Int32).toInt = 1 := by decide
  have hL60 : (60 : Int32).toInt = 60 := by decide
  refine mcallS' (g := g) (As := [.int n, .int 1, .int 60]) (rest := [.ref o]) St hK hT hA hP hD hS hl.1 [] [0] rfl rfl rfl (m_isIn l g n 1 60 ) (va_cwS 3 hts (zgL (zl3 k835 k836 k837) k824) rfl rfl rfl (by decide +kernel) ⟨Nat.le_of_ble_eq_true rfl, Nat.le_of_ble_eq_true rfl⟩) rfl rfl (Nat.le_of_ble_eq_true rfl) dX12_days_5 ⟨(Nat.le_of_ble_eq_true rfl), (Nat.le_of_ble_eq_true rfl)⟩ (fun q_1 H locs hq2 hP hD hS => ?_)
  replace hq2 : (q_1 = 1 ∧ (1 : Int32).toInt ≤ n.toInt ∧ n.toInt ≤ (60 : Int32).toInt ∨ q_1 = 0 ∧ (n.toInt < (1 : Int32).toInt ∨ (60 : Int32).toInt < n.toInt)) := hq2
  have hP : va_P g.1 vwCl (List.flatten [bMo g o a th hi ac tp ba en tA fl de iD iO tU fm fk fa fc ft ff fb fi]) H := hP
  have hD : va_D A (List.flatten [bMo g o a th hi ac tp ba en tA fl de iD iO tU fm fk fa fc ft ff fb fi]) := hD
  refine W.widen (k := 0) (n := 0) (Nat.le_of_ble_eq_true rfl) (Nat.le_of_ble_eq_true rfl) ?_
  refine W.eq (g2 := F0 m 8 ls [.int q_1, .ref o]) rfl ?_
  rcases hq2 with ⟨rfl, hq2_k⟩ | ⟨rfl, hq2_k⟩
  · skip
    refine lv_if_ne (tgt := 15) hx hb dX12_days_8 (by decide) (fun _ => ?_) (fun c3 => absurd c3 (by decide))
    refine lv_iconst (v := 0) hx hb dX12_days_15 (by decide) ?_
    refine va_put (D := g.1) (ci := 10) (v := .int 0) (ty := .int) (C := RX12) (T := TX12) (N := 20) hx hb hts izRX12 tyX12 tyX12_ok nmX12 hown hK hP hD hS 0 rfl rfl 0 (by decide) (hts _ k871) (fun _ h9 => h9) rfl (by decide +kernel) rfl rfl (Nat.le_of_ble_eq_true rfl) dX12_days_16 (fun H locs hP hD hS => ?_)
    have hP : va_P g.1 vwCl (List.flatten [bMo g o a 0 hi ac tp ba en tA fl de iD iO tU fm fk fa fc ft ff fb fi]) H := hP
    have hD : va_D A (List.flatten [bMo g o a 0 hi ac tp ba en tA fl de iD iO tU fm fk fa fc ft ff fb fi]) := hD
    refine lv_aload_n hx hb dX12_days_19 rfl (lv_at hl 0 rfl) ?_
    refine va_get (D := g.1) (ci := 10) (v := .int 0) (C := RX12) (T := TX12) (N := 20) hx hb hts izRX12 hown hK hP 0 rfl rfl 0 (by decide) (hts _ k871) (fun _ h9 => h9) rfl dX12_days_20 ?_
    refine lv_if_le (tgt := 28) hx hb dX12_days_23 (by decide) (fun _ => ?_) (fun c4 => absurd (by decide) c4)
    refine lv_aload_n hx hb dX12_days_28 rfl (lv_at hl 0 rfl) ?_
    refine mcallV' (g := g) (q0 := 0) (ci := 10) (As := []) (rest := []) St hK hT hA hP hD hS hl.1 [0] [] rfl rfl rfl (m_remembers l g o a 0 hi ac tp ba en tA fl de iD iO tU fm fk fa fc ft ff fb fi (by first | assumption | omega | decide | exact Or.inl (by decide) | exact Or.inr (by decide)) (by first | assumption | omega | decide | exact Or.inl (by decide) | exact Or.inr (by decide)) (⟨hac.1, hac.2⟩)) (cwV 0 hts (zgL (zl4 k1046 k1047 k1048 k837) k1045) rfl rfl rfl (by decide +kernel) ⟨Nat.le_of_ble_eq_true rfl, Nat.le_of_ble_eq_true rfl⟩) rfl rfl rfl rfl (Nat.le_of_ble_eq_true rfl) dX12_days_29 ⟨(Nat.le_of_ble_eq_true rfl), (Nat.le_of_ble_eq_true rfl)⟩ (fun u_ H locs hq7 hP hD hS => ?_)
    obtain ⟨ac2_5, fc2_6⟩ := u_
    replace hq7 : (rC fc2_6) ∧ (0 ≤ ac2_5.toInt ∧ ac2_5.toInt ≤ 12) := hq7
    have hP : va_P g.1 vwCl (List.flatten [bMo g o a 0 hi ac2_5 tp ba en tA fl de iD iO tU fm fk fa fc2_6 ft ff fb fi]) H := hP
    have hD : va_D A (List.flatten [bMo g o a 0 hi ac2_5 tp ba en tA fl de iD iO tU fm fk fa fc2_6 ft ff fb fi]) := hD
    refine W.widen (k := 0) (n := 0) (Nat.le_of_ble_eq_true rfl) (Nat.le_of_ble_eq_true rfl) ?_
    refine W.eq (g2 := F0 m 32 ls []) rfl ?_
    obtain ⟨rfc2_6, hq7_1⟩ := hq7
    refine lv_aload_n hx hb dX12_days_32 rfl (lv_at hl 0 rfl) ?_
    refine lv_iload_n hx hb dX12_days_33 rfl (lv_at hl 1 rfl) ?_
    refine lv_iconst (v := 1) hx hb dX12_days_34 (by decide) ?_
    refine mcallV' (g := g) (q0 := 0) (ci := 10) (As := [.int n, .int 1]) (rest := []) St hK hT hA hP hD hS hl.1 [0] [] rfl rfl rfl (m_goes l g o a 0 hi ac2_5 tp ba en tA fl de iD iO tU fm fk fa fc2_6 ft ff fb fi n 1 (by first | assumption | omega | decide | exact Or.inl (by decide) | exact Or.inr (by decide)) (⟨hiD.1, hiD.2⟩) (⟨hiO.1, hiO.2⟩) (by first | assumption | omega | decide | exact Or.inl (by decide) | exact Or.inr (by decide))) (cwV 2 hts (zgL (zl4 k1056 k1057 k1058 k837) k1027) rfl rfl rfl (by decide +kernel) ⟨Nat.le_of_ble_eq_true rfl, Nat.le_of_ble_eq_true rfl⟩) rfl rfl rfl rfl (Nat.le_of_ble_eq_true rfl) dX12_days_35 ⟨(Nat.le_of_ble_eq_true rfl), (Nat.le_of_ble_eq_true rfl)⟩ (fun u_ H locs hq19 hP hD hS => ?_)
    obtain ⟨ba2_8, en2_9, at2_10, de2_11, iD2_12, iO2_13, tU2_14, ff2_15, fm2_16, fb2_17, q_18⟩ := u_
    replace hq19 : (rM fm2_16) ∧ (0 ≤ iO2_13.toInt ∧ iO2_13.toInt ≤ 1) ∧ (0 ≤ iD2_12.toInt ∧ iD2_12.toInt ≤ 1) := hq19
    have hP : va_P g.1 vwCl (List.flatten [bMo g o a 0 hi ac2_5 tp ba2_8 en2_9 at2_10 fl de2_11 iD2_12 iO2_13 tU2_14 fm2_16 fk fa fc2_6 ft ff2_15 fb2_17 fi]) H := hP
    have hD : va_D A (List.flatten [bMo g o a 0 hi ac2_5 tp ba2_8 en2_9 at2_10 fl de2_11 iD2_12 iO2_13 tU2_14 fm2_16 fk fa fc2_6 ft ff2_15 fb2_17 fi]) := hD
    refine W.widen (k := 0) (n := 0) (Nat.le_of_ble_eq_true rfl) (Nat.le_of_ble_eq_true rfl) ?_
    refine W.eq (g2 := F0 m 38 ls [.int q_18]) rfl ?_
    obtain ⟨rfm2_16, hq19_1, hq19_2⟩ := hq19
    have hP : va_P g.1 vwCl (List.flatten [bMo g o a 0 hi ac2_5 tp ba2_8 en2_9 at2_10 fl de2_11 iD2_12 iO2_13 tU2_14 fm2_16 fk fa fc2_6 ft ff2_15 fb2_17 fi]) H := hP
    have hD : va_D A (List.flatten [bMo g o a 0 hi ac2_5 tp ba2_8 en2_9 at2_10 fl de2_11 iD2_12 iO2_13 tU2_14 fm2_16 fk fa fc2_6 ft ff2_15 fb2_17 fi]) := hD
    exact mret_i hx hb hr hlocks hS (Nat.le_of_ble_eq_true rfl) (Nat.le_of_ble_eq_true rfl) dX12_days_38 ((0 : Int32), ba2_8, en2_9, at2_10, de2_11, iD2_12, iO2_13, tU2_14, ff2_15, fm2_16, fb2_17, ac2_5, fc2_6, q_18) rfl (show (rC fc2_6) ∧ (0 ≤ ac2_5.toInt ∧ ac2_5.toInt ≤ 12) ∧ (rM fm2_16) ∧ (0 ≤ iO2_13.toInt ∧ iO2_13.toInt ≤ 1) ∧ (0 ≤ iD2_12.toInt ∧ iD2_12.toInt ≤ 1) from ⟨(by first | assumption | omega | decide | exact rfl | exact zb01 (by omega) | exact Or.inl (by decide) | exact Or.inr (by first | omega | decide)), (by first | assumption | omega | decide | exact rfl | exact zb01 (by omega) | exact Or.inl (by decide) | exact Or.inr (by first | omega | decide)), (by first | assumption | omega | decide | exact rfl | exact zb01 (by omega) | exact Or.inl (by decide) | exact Or.inr (by first | omega | decide)), (by first | assumption | omega | decide | exact rfl | exact zb01 (by omega) | exact Or.inl (by decide) | exact Or.inr (by first | omega | decide)), (by first | assumption | omega | decide | exact rfl | exact zb01 (by omega) | exact Or.inl (by decide) | exact Or.inr (by first | omega | decide))⟩) hP hD
  · skip
    refine lv_if_ne (tgt := 15) hx hb dX12_days_8 (by decide) (fun c20 => absurd (by decide) c20) (fun _ => ?_)
    refine lv_iconst (v := 1) hx hb dX12_days_11 (by decide) ?_
    refine lv_goto (tgt := 16) hx hb dX12_days_12 (by decide) ?_
    refine va_put (D := g.1) (ci := 10) (v := .int 1) (ty := .int) (C := RX12) (T := TX12) (N := 20) hx hb hts izRX12 tyX12 tyX12_ok nmX12 hown hK hP hD hS 0 rfl rfl 0 (by decide) (hts _ k871) (fun _ h9 => h9) rfl (by decide +kernel) rfl rfl (Nat.le_of_ble_eq_true rfl) dX12_days_16 (fun H locs hP hD hS => ?_)
    have hP : va_P g.1 vwCl (List.flatten [bMo g o a 1 hi ac tp ba en tA fl de iD iO tU fm fk fa fc ft ff fb fi]) H := hP
    have hD : va_D A (List.flatten [bMo g o a 1 hi ac tp ba en tA fl de iD iO tU fm fk fa fc ft ff fb fi]) := hD
    refine lv_aload_n hx hb dX12_days_19 rfl (lv_at hl 0 rfl) ?_
    refine va_get (D := g.1) (ci := 10) (v := .int 1) (C := RX12) (T := TX12) (N := 20) hx hb hts izRX12 hown hK hP 0 rfl rfl 0 (by decide) (hts _ k871) (fun _ h9 => h9) rfl dX12_days_20 ?_
    refine lv_if_le (tgt := 28) hx hb dX12_days_23 (by decide) (fun c21 => absurd c21 (by decide)) (fun _ => ?_)
    refine lv_iconst (v := 0) hx hb dX12_days_26 (by decide) ?_
    have hP : va_P g.1 vwCl (List.flatten [bMo g o a 1 hi ac tp ba en tA fl de iD iO tU fm fk fa fc ft ff fb fi]) H := hP
    have hD : va_D A (List.flatten [bMo g o a 1 hi ac tp ba en tA fl de iD iO tU fm fk fa fc ft ff fb fi]) := hD
    exact mret_i hx hb hr hlocks hS (Nat.le_of_ble_eq_true rfl) (Nat.le_of_ble_eq_true rfl) dX12_days_27 ((1 : Int32), ba, en, tA, de, iD, iO, tU, ff, fm, fb, ac, fc, (0 : Int32)) rfl (show (rC fc) ∧ (0 ≤ ac.toInt ∧ ac.toInt ≤ 12) ∧ (rM fm) ∧ (0 ≤ iO.toInt ∧ iO.toInt ≤ 1) ∧ (0 ≤ iD.toInt ∧ iD.toInt ≤ 1) from ⟨(by first | assumption | omega | decide | exact rfl | exact zb01 (by omega) | exact Or.inl (by decide) | exact Or.inr (by first | omega | decide)), (by first | assumption | omega | decide | exact rfl | exact zb01 (by omega) | exact Or.inl (by decide) | exact Or.inr (by first | omega | decide)), (by first | assumption | omega | decide | exact rfl | exact zb01 (by omega) | exact Or.inl (by decide) | exact Or.inr (by first | omega | decide)), (by first | assumption | omega | decide | exact rfl | exact zb01 (by omega) | exact Or.inl (by decide) | exact Or.inr (by first | omega | decide)), (by first | assumption | omega | decide | exact rfl | exact zb01 (by omega) | exact Or.inl (by decide) | exact Or.inr (by first | omega | decide))⟩) hP hD
