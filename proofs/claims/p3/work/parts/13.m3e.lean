set_option maxRecDepth 100000 in
set_option maxHeartbeats 4000000 in
theorem m_townLine (l : Launch) (g : zG) (o : Nat) (a : Nat → Nat) (th : Int32) (hi : Int32) (ac : Int32) (tp : Int32) (ba : Int32) (en : Int32) (tA : Int32) (fl : Int32) (de : Int32) (iD : Int32) (iO : Int32) (tU : Int32) (fm : Nat → Int32) (fk : Nat → Int32) (fa : Nat → Int32) (fc : Nat → Int32) (ft : Nat → Int32) (ff : Nat → Int32) (fb : Nat → Int32) (fi : Nat → Int32) (rfm : rM fm) (hba : zBa ba.toInt) (hen : 0 ≤ en.toInt ∧ en.toInt ≤ 400) (htA : 0 ≤ tA.toInt ∧ tA.toInt ≤ en.toInt + 7 - de.toInt) (hfl : -1 ≤ fl.toInt) (hde : 0 ≤ de.toInt ∧ de.toInt ≤ 6) : zM' g l yX12_townLine (Cond.code yX12_townLine cX12_townLine 3 none :: zB) ({ frames := 7, cells := 0, slots := 0, locals := 156 } : Room) [.ref o] [bMo g o a th hi ac tp ba en tA fl de iD iO tU fm fk fa fc ft ff fb fi] (fun u : Int32 × Int32 × (Nat → Int32) => (fun (at2 : Int32) (fl2 : Int32) (fm2 : Nat → Int32) => none) (u.1) (u.2.1) (u.2.2)) (fun u : Int32 × Int32 × (Nat → Int32) => (fun (at2 : Int32) (fl2 : Int32) (fm2 : Nat → Int32) => (rM fm2) ∧ (0 ≤ at2.toInt ∧ at2.toInt ≤ en.toInt + 7 - de.toInt) ∧ (tA.toInt ≤ at2.toInt) ∧ (-1 ≤ fl2.toInt)) (u.1) (u.2.1) (u.2.2)) (fun u : Int32 × Int32 × (Nat → Int32) => (fun (at2 : Int32) (fl2 : Int32) (fm2 : Nat → Int32) => [bMo g o a th hi ac tp ba en at2 fl2 de iD iO tU fm2 fk fa fc ft ff fb fi]) (u.1) (u.2.1) (u.2.2)) := by
  refine zM'.of (cc := cX12_townLine) (maxL := 3) (rt := none) (by decide) rfl (Nat.le_of_ble_eq_true rfl) ?_
  intro p e s m args below meth c A ls St hr hlocks hin hK hT hA hP hD hS hl
  obtain ⟨hx, hb, hml, hown, hts⟩ := id St
  have hl : lv_has ls 3 [(0, .ref o)] := hl
  refine lv_aload_n hx hb dX12_townLine_0 rfl (lv_at hl 0 rfl) ?_
  refine mcallV' (g := g) (q0 := 0) (ci := 10) (As := []) (rest := []) St hK hT hA hP hD hS hl.1 [0] [] rfl rfl rfl (m_here l g o a th hi ac tp ba en tA fl de iD iO tU fm fk fa fc ft ff fb fi (by first | assumption | omega | decide | exact Or.inl (by decide) | exact Or.inr (by decide)) (⟨hen.1, hen.2⟩) (by first | assumption | omega | decide | exact Or.inl (by decide) | exact Or.inr (by decide)) (by first | assumption | omega | decide | exact Or.inl (by decide) | exact Or.inr (by decide)) (⟨hde.1, hde.2⟩)) (cwV 0 hts (zgL (zl4 k891 k892 k893 k837) k890) rfl rfl rfl (by decide +kernel) ⟨Nat.le_of_ble_eq_true rfl, Nat.le_of_ble_eq_true rfl⟩) rfl rfl rfl rfl (Nat.le_of_ble_eq_true rfl) dX12_townLine_1 ⟨(Nat.le_of_ble_eq_true rfl), (Nat.le_of_ble_eq_true rfl)⟩ (fun at2_1 H locs hq2 hP hD hS => ?_)
  replace hq2 : (0 ≤ at2_1.toInt ∧ at2_1.toInt ≤ en.toInt + 7 - de.toInt) ∧ (tA.toInt ≤ at2_1.toInt) := hq2
  have hP : va_P g.1 vwCl (List.flatten [bMo g o a th hi ac tp ba en at2_1 fl de iD iO tU fm fk fa fc ft ff fb fi]) H := hP
  have hD : va_D A (List.flatten [bMo g o a th hi ac tp ba en at2_1 fl de iD iO tU fm fk fa fc ft ff fb fi]) := hD
  refine W.widen (k := 0) (n := 0) (Nat.le_of_ble_eq_true rfl) (Nat.le_of_ble_eq_true rfl) ?_
  refine W.eq (g2 := F0 m 4 ls [.int at2_1]) rfl ?_
  obtain ⟨hq2_0, hq2_1⟩ := hq2
  refine lv_istore_n (lv' := [(1, .int at2_1), (0, .ref o)]) hx hb dX12_townLine_4 rfl hl (by decide) rfl (fun ls hl => ?_)
  refine lv_aload_n hx hb dX12_townLine_5 rfl (lv_at hl 1 rfl) ?_
  refine va_ldcS (q := g.2 70) hx hb hown (zra30 hT.2.1) dX12_townLine_6 ?_
  refine mcallV' (g := g) (q0 := 0) (ci := 10) (As := [.ref (g.2 70)]) (rest := []) St hK hT hA hP hD hS hl.1 [0] [] rfl rfl rfl (m_has l g o a th hi ac tp ba en at2_1 fl de iD iO tU fm fk fa fc ft ff fb fi (g.2 70) 30 zqa30 (by first | assumption | omega | decide | exact Or.inl (by decide) | exact Or.inr (by decide)) (⟨hen.1, hen.2⟩) (by first | assumption | omega | decide | exact Or.inl (by decide) | exact Or.inr (by decide)) (by first | assumption | omega | decide | exact Or.inl (by decide) | exact Or.inr (by decide)) (⟨hde.1, hde.2⟩) rfl zla30 zna30) (cwV 1 hts (zgL (zl4 k898 k899 k900 k837) k888) rfl rfl rfl (by decide +kernel) ⟨Nat.le_of_ble_eq_true rfl, Nat.le_of_ble_eq_true rfl⟩) rfl rfl rfl rfl (Nat.le_of_ble_eq_true rfl) dX12_townLine_8 ⟨(Nat.le_of_ble_eq_true rfl), (Nat.le_of_ble_eq_true rfl)⟩ (fun u_ H locs hq5 hP hD hS => ?_)
  obtain ⟨at2_3, r_4⟩ := u_
  replace hq5 : (0 ≤ at2_3.toInt ∧ at2_3.toInt ≤ en.toInt + 7 - de.toInt) ∧ (at2_1.toInt ≤ at2_3.toInt) ∧ (r_4 = 1 ∧ at2_1.toInt < at2_3.toInt ∧ at2_3.toInt ≤ en.toInt ∨ r_4 = 0) := hq5
  have hP : va_P g.1 vwCl (List.flatten [bMo g o a th hi ac tp ba en at2_3 fl de iD iO tU fm fk fa fc ft ff fb fi]) H := hP
  have hD : va_D A (List.flatten [bMo g o a th hi ac tp ba en at2_3 fl de iD iO tU fm fk fa fc ft ff fb fi]) := hD
  refine W.widen (k := 0) (n := 0) (Nat.le_of_ble_eq_true rfl) (Nat.le_of_ble_eq_true rfl) ?_
  refine W.eq (g2 := F0 m 11 ls [.int r_4]) rfl ?_
  obtain ⟨hq5_0, hq5_1, hq5_2⟩ := hq5
  rcases hq5_2 with ⟨rfl, hq5_k⟩ | rfl
  · skip
    refine lv_if_eq (tgt := 22) hx hb dX12_townLine_11 (by decide) (fun c6 => absurd c6 (by decide)) (fun _ => ?_)
    refine lv_aload_n hx hb dX12_townLine_14 rfl (lv_at hl 1 rfl) ?_
    refine lv_iload_n hx hb dX12_townLine_15 rfl (lv_at hl 0 rfl) ?_
    refine mcallV' (g := g) (q0 := 0) (ci := 10) (As := [.int at2_1]) (rest := []) St hK hT hA hP hD hS hl.1 [0] [] rfl rfl rfl (m_personLine l g o a th hi ac tp ba en at2_3 fl de iD iO tU fm fk fa fc ft ff fb fi at2_1 (by first | assumption | omega | decide | exact Or.inl (by decide) | exact Or.inr (by decide)) (by first | assumption | omega | decide | exact Or.inl (by decide) | exact Or.inr (by decide)) (⟨hen.1, hen.2⟩) (by first | assumption | omega | decide | exact Or.inl (by decide) | exact Or.inr (by decide)) (by first | assumption | omega | decide | exact Or.inl (by decide) | exact Or.inr (by decide)) (⟨hde.1, hde.2⟩) (by first | assumption | omega | decide | exact Or.inl (by decide) | exact Or.inr (by decide))) (cwV 1 hts (zgL (zl4 k918 k919 k920 k837) k911) rfl rfl rfl (by decide +kernel) ⟨Nat.le_of_ble_eq_true rfl, Nat.le_of_ble_eq_true rfl⟩) rfl rfl rfl rfl (Nat.le_of_ble_eq_true rfl) dX12_townLine_16 ⟨(Nat.le_of_ble_eq_true rfl), (Nat.le_of_ble_eq_true rfl)⟩ (fun u_ H locs hq10 hP hD hS => ?_)
    obtain ⟨at2_7, fl2_8, fm2_9⟩ := u_
    replace hq10 : (rM fm2_9) ∧ (0 ≤ at2_7.toInt ∧ at2_7.toInt ≤ en.toInt + 7 - de.toInt) ∧ (at2_3.toInt ≤ at2_7.toInt) ∧ (-1 ≤ fl2_8.toInt) := hq10
    have hP : va_P g.1 vwCl (List.flatten [bMo g o a th hi ac tp ba en at2_7 fl2_8 de iD iO tU fm2_9 fk fa fc ft ff fb fi]) H := hP
    have hD : va_D A (List.flatten [bMo g o a th hi ac tp ba en at2_7 fl2_8 de iD iO tU fm2_9 fk fa fc ft ff fb fi]) := hD
    refine W.widen (k := 0) (n := 0) (Nat.le_of_ble_eq_true rfl) (Nat.le_of_ble_eq_true rfl) ?_
    refine W.eq (g2 := F0 m 19 ls []) rfl ?_
    obtain ⟨rfm2_9, hq10_1, hq10_2, hq10_3⟩ := hq10
    refine lv_goto (tgt := 197) hx hb dX12_townLine_19 (by decide) ?_
    have hP : va_P g.1 vwCl (List.flatten [bMo g o a th hi ac tp ba en at2_7 fl2_8 de iD iO tU fm2_9 fk fa fc ft ff fb fi]) H := hP
    have hD : va_D A (List.flatten [bMo g o a th hi ac tp ba en at2_7 fl2_8 de iD iO tU fm2_9 fk fa fc ft ff fb fi]) := hD
    exact mret_v hx hb hr hlocks hS (Nat.le_of_ble_eq_true rfl) (Nat.le_of_ble_eq_true rfl) dX12_townLine_197 (at2_7, fl2_8, fm2_9) rfl (show (rM fm2_9) ∧ (0 ≤ at2_7.toInt ∧ at2_7.toInt ≤ en.toInt + 7 - de.toInt) ∧ (tA.toInt ≤ at2_7.toInt) ∧ (-1 ≤ fl2_8.toInt) from ⟨(by first | assumption | omega | decide | exact rfl | exact zb01 (by omega) | exact Or.inl (by decide) | exact Or.inr (by first | omega | decide)), (by first | assumption | omega | decide | exact rfl | exact zb01 (by omega) | exact Or.inl (by decide) | exact Or.inr (by first | omega | decide)), (by first | assumption | omega | decide | exact rfl | exact zb01 (by omega) | exact Or.inl (by decide) | exact Or.inr (by first | omega | decide)), (by first | assumption | omega | decide | exact rfl | exact zb01 (by omega) | exact Or.inl (by decide) | exact Or.inr (by first | omega | decide))⟩) hP hD
  · skip
    refine lv_if_eq (tgt := 22) hx hb dX12_townLine_11 (by decide) (fun _ => ?_) (fun c11 => absurd (by decide) c11)
    refine lv_aload_n hx hb dX12_townLine_22 rfl (lv_at hl 1 rfl) ?_
    refine va_ldcS (q := g.2 72) hx hb hown (zra31 hT.2.1) dX12_townLine_23 ?_
    refine mcallV' (g := g) (q0 := 0) (ci := 10) (As := [.ref (g.2 72)]) (rest := []) St hK hT hA hP hD hS hl.1 [0] [] rfl rfl rfl (m_has l g o a th hi ac tp ba en at2_3 fl de iD iO tU fm fk fa fc ft ff fb fi (g.2 72) 31 zqa31 (by first | assumption | omega | decide | exact Or.inl (by decide) | exact Or.inr (by decide)) (⟨hen.1, hen.2⟩) (by first | assumption | omega | decide | exact Or.inl (by decide) | exact Or.inr (by decide)) (by first | assumption | omega | decide | exact Or.inl (by decide) | exact Or.inr (by decide)) (⟨hde.1, hde.2⟩) rfl zla31 zna31) (cwV 1 hts (zgL (zl4 k898 k899 k900 k837) k888) rfl rfl rfl (by decide +kernel) ⟨Nat.le_of_ble_eq_true rfl, Nat.le_of_ble_eq_true rfl⟩) rfl rfl rfl rfl (Nat.le_of_ble_eq_true rfl) dX12_townLine_25 ⟨(Nat.le_of_ble_eq_true rfl), (Nat.le_of_ble_eq_true rfl)⟩ (fun u_ H locs hq14 hP hD hS => ?_)
    obtain ⟨at2_12, r_13⟩ := u_
    replace hq14 : (0 ≤ at2_12.toInt ∧ at2_12.toInt ≤ en.toInt + 7 - de.toInt) ∧ (at2_3.toInt ≤ at2_12.toInt) ∧ (r_13 = 1 ∧ at2_3.toInt < at2_12.toInt ∧ at2_12.toInt ≤ en.toInt ∨ r_13 = 0) := hq14
    have hP : va_P g.1 vwCl (List.flatten [bMo g o a th hi ac tp ba en at2_12 fl de iD iO tU fm fk fa fc ft ff fb fi]) H := hP
    have hD : va_D A (List.flatten [bMo g o a th hi ac tp ba en at2_12 fl de iD iO tU fm fk fa fc ft ff fb fi]) := hD
    refine W.widen (k := 0) (n := 0) (Nat.le_of_ble_eq_true rfl) (Nat.le_of_ble_eq_true rfl) ?_
    refine W.eq (g2 := F0 m 28 ls [.int r_13]) rfl ?_
    obtain ⟨hq14_0, hq14_1, hq14_2⟩ := hq14
    rcases hq14_2 with ⟨rfl, hq14_k⟩ | rfl
    · skip
      refine lv_if_eq (tgt := 38) hx hb dX12_townLine_28 (by decide) (fun c15 => absurd c15 (by decide)) (fun _ => ?_)
      refine lv_aload_n hx hb dX12_townLine_31 rfl (lv_at hl 1 rfl) ?_
      refine mcallV' (g := g) (q0 := 0) (ci := 10) (As := []) (rest := []) St hK hT hA hP hD hS hl.1 [0] [] rfl rfl rfl (m_trustsLine l g o a th hi ac tp ba en at2_12 fl de iD iO tU fm fk fa fc ft ff fb fi (by first | assumption | omega | decide | exact Or.inl (by decide) | exact Or.inr (by decide)) (by first | assumption | omega | decide | exact Or.inl (by decide) | exact Or.inr (by decide)) (⟨hen.1, hen.2⟩) (by first | assumption | omega | decide | exact Or.inl (by decide) | exact Or.inr (by decide)) (by first | assumption | omega | decide | exact Or.inl (by decide) | exact Or.inr (by decide)) (⟨hde.1, hde.2⟩)) (cwV 0 hts (zgL (zl4 k921 k922 k923 k837) k912) rfl rfl rfl (by decide +kernel) ⟨Nat.le_of_ble_eq_true rfl, Nat.le_of_ble_eq_true rfl⟩) rfl rfl rfl rfl (Nat.le_of_ble_eq_true rfl) dX12_townLine_32 ⟨(Nat.le_of_ble_eq_true rfl), (Nat.le_of_ble_eq_true rfl)⟩ (fun u_ H locs hq19 hP hD hS => ?_)
      obtain ⟨at2_16, fl2_17, fm2_18⟩ := u_
      replace hq19 : (rM fm2_18) ∧ (0 ≤ at2_16.toInt ∧ at2_16.toInt ≤ en.toInt + 7 - de.toInt) ∧ (at2_12.toInt ≤ at2_16.toInt) ∧ (-1 ≤ fl2_17.toInt) := hq19
      have hP : va_P g.1 vwCl (List.flatten [bMo g o a th hi ac tp ba en at2_16 fl2_17 de iD iO tU fm2_18 fk fa fc ft ff fb fi]) H := hP
      have hD : va_D A (List.flatten [bMo g o a th hi ac tp ba en at2_16 fl2_17 de iD iO tU fm2_18 fk fa fc ft ff fb fi]) := hD
      refine W.widen (k := 0) (n := 0) (Nat.le_of_ble_eq_true rfl) (Nat.le_of_ble_eq_true rfl) ?_
      refine W.eq (g2 := F0 m 35 ls []) rfl ?_
      obtain ⟨rfm2_18, hq19_1, hq19_2, hq19_3⟩ := hq19
      refine lv_goto (tgt := 197) hx hb dX12_townLine_35 (by decide) ?_
      have hP : va_P g.1 vwCl (List.flatten [bMo g o a th hi ac tp ba en at2_16 fl2_17 de iD iO tU fm2_18 fk fa fc ft ff fb fi]) H := hP
      have hD : va_D A (List.flatten [bMo g o a th hi ac tp ba en at2_16 fl2_17 de iD iO tU fm2_18 fk fa fc ft ff fb fi]) := hD
      exact mret_v hx hb hr hlocks hS (Nat.le_of_ble_eq_true rfl) (Nat.le_of_ble_eq_true rfl) dX12_townLine_197 (at2_16, fl2_17, fm2_18) rfl (show (rM fm2_18) ∧ (0 ≤ at2_16.toInt ∧ at2_16.toInt ≤ en.toInt + 7 - de.toInt) ∧ (tA.toInt ≤ at2_16.toInt) ∧ (-1 ≤ fl2_17.toInt) from ⟨(by first | assumption | omega | decide | exact rfl | exact zb01 (by omega) | exact Or.inl (by decide) | exact Or.inr (by first | omega | decide)), (by first | assumption | omega | decide | exact rfl | exact zb01 (by omega) | exact Or.inl (by decide) | exact Or.inr (by first | omega | decide)), (by first | assumption | omega | decide | exact rfl | exact zb01 (by omega) | exact Or.inl (by decide) | exact Or.inr (by first | omega | decide)), (by first | assumption | omega | decide | exact rfl | exact zb01 (by omega) | exact Or.inl (by decide) | exact Or.inr (by first | omega | decide))⟩) hP hD
    · skip
      refine lv_if_eq (tgt := 38) hx hb dX12_townLine_28 (by decide) (fun _ => ?_) (fun c20 => absurd (by decide) c20)
      refine lv_aload_n hx hb dX12_townLine_38 rfl (lv_at hl 1 rfl) ?_
      refine va_ldcS (q := g.2 74) hx hb hown (zra32 hT.2.1) dX12_townLine_39 ?_
      refine mcallV' (g := g) (q0 := 0) (ci := 10) (As := [.ref (g.2 74)]) (rest := []) St hK hT hA hP hD hS hl.1 [0] [] rfl rfl rfl (m_has l g o a th hi ac tp ba en at2_12 fl de iD iO tU fm fk fa fc ft ff fb fi (g.2 74) 32 zqa32 (by first | assumption | omega | decide | exact Or.inl (by decide) | exact Or.inr (by decide)) (⟨hen.1, hen.2⟩) (by first | assumption | omega | decide | exact Or.inl (by decide) | exact Or.inr (by decide)) (by first | assumption | omega | decide | exact Or.inl (by decide) | exact Or.inr (by decide)) (⟨hde.1, hde.2⟩) rfl zla32 zna32) (cwV 1 hts (zgL (zl4 k898 k899 k900 k837) k888) rfl rfl rfl (by decide +kernel) ⟨Nat.le_of_ble_eq_true rfl, Nat.le_of_ble_eq_true rfl⟩) rfl rfl rfl rfl (Nat.le_of_ble_eq_true rfl) dX12_townLine_41 ⟨(Nat.le_of_ble_eq_true rfl), (Nat.le_of_ble_eq_true rfl)⟩ (fun u_ H locs hq23 hP hD hS => ?_)
      obtain ⟨at2_21, r_22⟩ := u_
      replace hq23 : (0 ≤ at2_21.toInt ∧ at2_21.toInt ≤ en.toInt + 7 - de.toInt) ∧ (at2_12.toInt ≤ at2_21.toInt) ∧ (r_22 = 1 ∧ at2_12.toInt < at2_21.toInt ∧ at2_21.toInt ≤ en.toInt ∨ r_22 = 0) := hq23
      have hP : va_P g.1 vwCl (List.flatten [bMo g o a th hi ac tp ba en at2_21 fl de iD iO tU fm fk fa fc ft ff fb fi]) H := hP
      have hD : va_D A (List.flatten [bMo g o a th hi ac tp ba en at2_21 fl de iD iO tU fm fk fa fc ft ff fb fi]) := hD
      refine W.widen (k := 0) (n := 0) (Nat.le_of_ble_eq_true rfl) (Nat.le_of_ble_eq_true rfl) ?_
      refine W.eq (g2 := F0 m 44 ls [.int r_22]) rfl ?_
      obtain ⟨hq23_0, hq23_1, hq23_2⟩ := hq23
      rcases hq23_2 with ⟨rfl, hq23_k⟩ | rfl
      · skip
        refine lv_if_eq (tgt := 55) hx hb dX12_townLine_44 (by decide) (fun c24 => absurd c24 (by decide)) (fun _ => ?_)
        refine lv_aload_n hx hb dX12_townLine_47 rfl (lv_at hl 1 rfl) ?_
        refine lv_iload_n hx hb dX12_townLine_48 rfl (lv_at hl 0 rfl) ?_
        refine mcallV' (g := g) (q0 := 0) (ci := 10) (As := [.int at2_1]) (rest := []) St hK hT hA hP hD hS hl.1 [0] [] rfl rfl rfl (m_workLine l g o a th hi ac tp ba en at2_21 fl de iD iO tU fm fk fa fc ft ff fb fi at2_1 (by first | assumption | omega | decide | exact Or.inl (by decide) | exact Or.inr (by decide)) (by first | assumption | omega | decide | exact Or.inl (by decide) | exact Or.inr (by decide)) (⟨hen.1, hen.2⟩) (by first | assumption | omega | decide | exact Or.inl (by decide) | exact Or.inr (by decide)) (by first | assumption | omega | decide | exact Or.inl (by decide) | exact Or.inr (by decide)) (⟨hde.1, hde.2⟩) (by first | assumption | omega | decide | exact Or.inl (by decide) | exact Or.inr (by decide))) (cwV 1 hts (zgL (zl4 k924 k925 k926 k837) k916) rfl rfl rfl (by decide +kernel) ⟨Nat.le_of_ble_eq_true rfl, Nat.le_of_ble_eq_true rfl⟩) rfl rfl rfl rfl (Nat.le_of_ble_eq_true rfl) dX12_townLine_49 ⟨(Nat.le_of_ble_eq_true rfl), (Nat.le_of_ble_eq_true rfl)⟩ (fun u_ H locs hq28 hP hD hS => ?_)
        obtain ⟨at2_25, fl2_26, fm2_27⟩ := u_
        replace hq28 : (rM fm2_27) ∧ (0 ≤ at2_25.toInt ∧ at2_25.toInt ≤ en.toInt + 7 - de.toInt) ∧ (at2_21.toInt ≤ at2_25.toInt) ∧ (-1 ≤ fl2_26.toInt) := hq28
        have hP : va_P g.1 vwCl (List.flatten [bMo g o a th hi ac tp ba en at2_25 fl2_26 de iD iO tU fm2_27 fk fa fc ft ff fb fi]) H := hP
        have hD : va_D A (List.flatten [bMo g o a th hi ac tp ba en at2_25 fl2_26 de iD iO tU fm2_27 fk fa fc ft ff fb fi]) := hD
        refine W.widen (k := 0) (n := 0) (Nat.le_of_ble_eq_true rfl) (Nat.le_of_ble_eq_true rfl) ?_
        refine W.eq (g2 := F0 m 52 ls []) rfl ?_
        obtain ⟨rfm2_27, hq28_1, hq28_2, hq28_3⟩ := hq28
        refine lv_goto (tgt := 197) hx hb dX12_townLine_52 (by decide) ?_
        have hP : va_P g.1 vwCl (List.flatten [bMo g o a th hi ac tp ba en at2_25 fl2_26 de iD iO tU fm2_27 fk fa fc ft ff fb fi]) H := hP
        have hD : va_D A (List.flatten [bMo g o a th hi ac tp ba en at2_25 fl2_26 de iD iO tU fm2_27 fk fa fc ft ff fb fi]) := hD
        exact mret_v hx hb hr hlocks hS (Nat.le_of_ble_eq_true rfl) (Nat.le_of_ble_eq_true rfl) dX12_townLine_197 (at2_25, fl2_26, fm2_27) rfl (show (rM fm2_27) ∧ (0 ≤ at2_25.toInt ∧ at2_25.toInt ≤ en.toInt + 7 - de.toInt) ∧ (tA.toInt ≤ at2_25.toInt) ∧ (-1 ≤ fl2_26.toInt) from ⟨(by first | assumption | omega | decide | exact rfl | exact zb01 (by omega) | exact Or.inl (by decide) | exact Or.inr (by first | omega | decide)), (by first | assumption | omega | decide | exact rfl | exact zb01 (by omega) | exact Or.inl (by decide) | exact Or.inr (by first | omega | decide)), (by first | assumption | omega | decide | exact rfl | exact zb01 (by omega) | exact Or.inl (by decide) | exact Or.inr (by first | omega | decide)), (by first | assumption | omega | decide | exact rfl | exact zb01 (by omega) | exact Or.inl (by decide) | exact Or.inr (by first | omega | decide))⟩) hP hD
      · skip
        refine lv_if_eq (tgt := 55) hx hb dX12_townLine_44 (by decide) (fun _ => ?_) (fun c29 => absurd (by decide) c29)
        refine lv_aload_n hx hb dX12_townLine_55 rfl (lv_at hl 1 rfl) ?_
        refine va_ldcS (q := g.2 76) hx hb hown (zra33 hT.2.1) dX12_townLine_56 ?_
        refine mcallV' (g := g) (q0 := 0) (ci := 10) (As := [.ref (g.2 76)]) (rest := []) St hK hT hA hP hD hS hl.1 [0] [] rfl rfl rfl (m_has l g o a th hi ac tp ba en at2_21 fl de iD iO tU fm fk fa fc ft ff fb fi (g.2 76) 33 zqa33 (by first | assumption | omega | decide | exact Or.inl (by decide) | exact Or.inr (by decide)) (⟨hen.1, hen.2⟩) (by first | assumption | omega | decide | exact Or.inl (by decide) | exact Or.inr (by decide)) (by first | assumption | omega | decide | exact Or.inl (by decide) | exact Or.inr (by decide)) (⟨hde.1, hde.2⟩) rfl zla33 zna33) (cwV 1 hts (zgL (zl4 k898 k899 k900 k837) k888) rfl rfl rfl (by decide +kernel) ⟨Nat.le_of_ble_eq_true rfl, Nat.le_of_ble_eq_true rfl⟩) rfl rfl rfl rfl (Nat.le_of_ble_eq_true rfl) dX12_townLine_58 ⟨(Nat.le_of_ble_eq_true rfl), (Nat.le_of_ble_eq_true rfl)⟩ (fun u_ H locs hq32 hP hD hS => ?_)
        obtain ⟨at2_30, r_31⟩ := u_
        replace hq32 : (0 ≤ at2_30.toInt ∧ at2_30.toInt ≤ en.toInt + 7 - de.toInt) ∧ (at2_21.toInt ≤ at2_30.toInt) ∧ (r_31 = 1 ∧ at2_21.toInt < at2_30.toInt ∧ at2_30.toInt ≤ en.toInt ∨ r_31 = 0) := hq32
        have hP : va_P g.1 vwCl (List.flatten [bMo g o a th hi ac tp ba en at2_30 fl de iD iO tU fm fk fa fc ft ff fb fi]) H := hP
        have hD : va_D A (List.flatten [bMo g o a th hi ac tp ba en at2_30 fl de iD iO tU fm fk fa fc ft ff fb fi]) := hD
        refine W.widen (k := 0) (n := 0) (Nat.le_of_ble_eq_true rfl) (Nat.le_of_ble_eq_true rfl) ?_
        refine W.eq (g2 := F0 m 61 ls [.int r_31]) rfl ?_
        obtain ⟨hq32_0, hq32_1, hq32_2⟩ := hq32
        rcases hq32_2 with ⟨rfl, hq32_k⟩ | rfl
        · skip
          refine lv_if_eq (tgt := 76) hx hb dX12_townLine_61 (by decide) (fun c33 => absurd c33 (by decide)) (fun _ => ?_)
          refine lv_aload_n hx hb dX12_townLine_64 rfl (lv_at hl 1 rfl) ?_
          refine lv_iconst (v := 5) hx hb dX12_townLine_65 (by decide) ?_
          refine lv_iconst (v := 0) hx hb dX12_townLine_66 (by decide) ?_
          refine lv_sipush (v := 999) hx hb dX12_townLine_67 (by decide) ?_
          have hL5 : (5 : Int32).toInt = 5 := by decide
          refine mcallV' (g := g) (q0 := 0) (ci := 10) (As := [.int 5, .int 0, .int 999]) (rest := []) St hK hT hA hP hD hS hl.1 [0] [] rfl rfl rfl (m_tells l g o a th hi ac tp ba en at2_30 fl de iD iO tU fm fk fa fc ft ff fb fi 5 0 999 (by first | assumption | omega | decide | exact Or.inl (by decide) | exact Or.inr (by decide)) (by first | assumption | omega | decide | exact Or.inl (by decide) | exact Or.inr (by decide)) (⟨hen.1, hen.2⟩) (by first | assumption | omega | decide | exact Or.inl (by decide) | exact Or.inr (by decide)) (by first | assumption | omega | decide | exact Or.inl (by decide) | exact Or.inr (by decide)) (⟨hde.1, hde.2⟩) (by first | assumption | omega | decide | exact Or.inl (by decide) | exact Or.inr (by decide))) (cwV 3 hts (zgL (zl4 k927 k928 k929 k837) k917) rfl rfl rfl (by decide +kernel) ⟨Nat.le_of_ble_eq_true rfl, Nat.le_of_ble_eq_true rfl⟩) rfl rfl rfl rfl (Nat.le_of_ble_eq_true rfl) dX12_townLine_70 ⟨(Nat.le_of_ble_eq_true rfl), (Nat.le_of_ble_eq_true rfl)⟩ (fun u_ H locs hq37 hP hD hS => ?_)
          obtain ⟨at2_34, fl2_35, fm2_36⟩ := u_
          replace hq37 : (rM fm2_36) ∧ (0 ≤ at2_34.toInt ∧ at2_34.toInt ≤ en.toInt + 7 - de.toInt) ∧ (at2_30.toInt ≤ at2_34.toInt) ∧ (-1 ≤ fl2_35.toInt) := hq37
          have hP : va_P g.1 vwCl (List.flatten [bMo g o a th hi ac tp ba en at2_34 fl2_35 de iD iO tU fm2_36 fk fa fc ft ff fb fi]) H := hP
          have hD : va_D A (List.flatten [bMo g o a th hi ac tp ba en at2_34 fl2_35 de iD iO tU fm2_36 fk fa fc ft ff fb fi]) := hD
          refine W.widen (k := 0) (n := 0) (Nat.le_of_ble_eq_true rfl) (Nat.le_of_ble_eq_true rfl) ?_
          refine W.eq (g2 := F0 m 73 ls []) rfl ?_
          obtain ⟨rfm2_36, hq37_1, hq37_2, hq37_3⟩ := hq37
          refine lv_goto (tgt := 197) hx hb dX12_townLine_73 (by decide) ?_
          have hP : va_P g.1 vwCl (List.flatten [bMo g o a th hi ac tp ba en at2_34 fl2_35 de iD iO tU fm2_36 fk fa fc ft ff fb fi]) H := hP
          have hD : va_D A (List.flatten [bMo g o a th hi ac tp ba en at2_34 fl2_35 de iD iO tU fm2_36 fk fa fc ft ff fb fi]) := hD
          exact mret_v hx hb hr hlocks hS (Nat.le_of_ble_eq_true rfl) (Nat.le_of_ble_eq_true rfl) dX12_townLine_197 (at2_34, fl2_35, fm2_36) rfl (show (rM fm2_36) ∧ (0 ≤ at2_34.toInt ∧ at2_34.toInt ≤ en.toInt + 7 - de.toInt) ∧ (tA.toInt ≤ at2_34.toInt) ∧ (-1 ≤ fl2_35.toInt) from ⟨(by first | assumption | omega | decide | exact rfl | exact zb01 (by omega) | exact Or.inl (by decide) | exact Or.inr (by first | omega | decide)), (by first | assumption | omega | decide | exact rfl | exact zb01 (by omega) | exact Or.inl (by decide) | exact Or.inr (by first | omega | decide)), (by first | assumption | omega | decide | exact rfl | exact zb01 (by omega) | exact Or.inl (by decide) | exact Or.inr (by first | omega | decide)), (by first | assumption | omega | decide | exact rfl | exact zb01 (by omega) | exact Or.inl (by decide) | exact Or.inr (by first | omega | decide))⟩) hP hD
        · skip
          refine lv_if_eq (tgt := 76) hx hb dX12_townLine_61 (by decide) (fun _ => ?_) (fun c38 => absurd (by decide) c38)
          refine lv_aload_n hx hb dX12_townLine_76 rfl (lv_at hl 1 rfl) ?_
          refine va_ldcS (q := g.2 78) hx hb hown (zra34 hT.2.1) dX12_townLine_77 ?_
          refine mcallV' (g := g) (q0 := 0) (ci := 10) (As := [.ref (g.2 78)]) (rest := []) St hK hT hA hP hD hS hl.1 [0] [] rfl rfl rfl (m_has l g o a th hi ac tp ba en at2_30 fl de iD iO tU fm fk fa fc ft ff fb fi (g.2 78) 34 zqa34 (by first | assumption | omega | decide | exact Or.inl (by decide) | exact Or.inr (by decide)) (⟨hen.1, hen.2⟩) (by first | assumption | omega | decide | exact Or.inl (by decide) | exact Or.inr (by decide)) (by first | assumption | omega | decide | exact Or.inl (by decide) | exact Or.inr (by decide)) (⟨hde.1, hde.2⟩) rfl zla34 zna34) (cwV 1 hts (zgL (zl4 k898 k899 k900 k837) k888) rfl rfl rfl (by decide +kernel) ⟨Nat.le_of_ble_eq_true rfl, Nat.le_of_ble_eq_true rfl⟩) rfl rfl rfl rfl (Nat.le_of_ble_eq_true rfl) dX12_townLine_79 ⟨(Nat.le_of_ble_eq_true rfl), (Nat.le_of_ble_eq_true rfl)⟩ (fun u_ H locs hq41 hP hD hS => ?_)
          obtain ⟨at2_39, r_40⟩ := u_
          replace hq41 : (0 ≤ at2_39.toInt ∧ at2_39.toInt ≤ en.toInt + 7 - de.toInt) ∧ (at2_30.toInt ≤ at2_39.toInt) ∧ (r_40 = 1 ∧ at2_30.toInt < at2_39.toInt ∧ at2_39.toInt ≤ en.toInt ∨ r_40 = 0) := hq41
          have hP : va_P g.1 vwCl (List.flatten [bMo g o a th hi ac tp ba en at2_39 fl de iD iO tU fm fk fa fc ft ff fb fi]) H := hP
          have hD : va_D A (List.flatten [bMo g o a th hi ac tp ba en at2_39 fl de iD iO tU fm fk fa fc ft ff fb fi]) := hD
          refine W.widen (k := 0) (n := 0) (Nat.le_of_ble_eq_true rfl) (Nat.le_of_ble_eq_true rfl) ?_
          refine W.eq (g2 := F0 m 82 ls [.int r_40]) rfl ?_
          obtain ⟨hq41_0, hq41_1, hq41_2⟩ := hq41
          rcases hq41_2 with ⟨rfl, hq41_k⟩ | rfl
          · skip
            refine lv_if_eq (tgt := 97) hx hb dX12_townLine_82 (by decide) (fun c42 => absurd c42 (by decide)) (fun _ => ?_)
            refine lv_aload_n hx hb dX12_townLine_85 rfl (lv_at hl 1 rfl) ?_
            refine lv_bipush (v := 6) hx hb dX12_townLine_86 (by decide) ?_
            refine lv_iconst (v := 1) hx hb dX12_townLine_88 (by decide) ?_
            refine lv_bipush (v := 30) hx hb dX12_townLine_89 (by decide) ?_
            have hL6 : (6 : Int32).toInt = 6 := by decide
            refine mcallV' (g := g) (q0 := 0) (ci := 10) (As := [.int 6, .int 1, .int 30]) (rest := []) St hK hT hA hP hD hS hl.1 [0] [] rfl rfl rfl (m_tells l g o a th hi ac tp ba en at2_39 fl de iD iO tU fm fk fa fc ft ff fb fi 6 1 30 (by first | assumption | omega | decide | exact Or.inl (by decide) | exact Or.inr (by decide)) (by first | assumption | omega | decide | exact Or.inl (by decide) | exact Or.inr (by decide)) (⟨hen.1, hen.2⟩) (by first | assumption | omega | decide | exact Or.inl (by decide) | exact Or.inr (by decide)) (by first | assumption | omega | decide | exact Or.inl (by decide) | exact Or.inr (by decide)) (⟨hde.1, hde.2⟩) (by first | assumption | omega | decide | exact Or.inl (by decide) | exact Or.inr (by decide))) (cwV 3 hts (zgL (zl4 k927 k928 k929 k837) k917) rfl rfl rfl (by decide +kernel) ⟨Nat.le_of_ble_eq_true rfl, Nat.le_of_ble_eq_true rfl⟩) rfl rfl rfl rfl (Nat.le_of_ble_eq_true rfl) dX12_townLine_91 ⟨(Nat.le_of_ble_eq_true rfl), (Nat.le_of_ble_eq_true rfl)⟩ (fun u_ H locs hq46 hP hD hS => ?_)
            obtain ⟨at2_43, fl2_44, fm2_45⟩ := u_
            replace hq46 : (rM fm2_45) ∧ (0 ≤ at2_43.toInt ∧ at2_43.toInt ≤ en.toInt + 7 - de.toInt) ∧ (at2_39.toInt ≤ at2_43.toInt) ∧ (-1 ≤ fl2_44.toInt) := hq46
            have hP : va_P g.1 vwCl (List.flatten [bMo g o a th hi ac tp ba en at2_43 fl2_44 de iD iO tU fm2_45 fk fa fc ft ff fb fi]) H := hP
            have hD : va_D A (List.flatten [bMo g o a th hi ac tp ba en at2_43 fl2_44 de iD iO tU fm2_45 fk fa fc ft ff fb fi]) := hD
            refine W.widen (k := 0) (n := 0) (Nat.le_of_ble_eq_true rfl) (Nat.le_of_ble_eq_true rfl) ?_
            refine W.eq (g2 := F0 m 94 ls []) rfl ?_
            obtain ⟨rfm2_45, hq46_1, hq46_2, hq46_3⟩ := hq46
            refine lv_goto (tgt := 197) hx hb dX12_townLine_94 (by decide) ?_
            have hP : va_P g.1 vwCl (List.flatten [bMo g o a th hi ac tp ba en at2_43 fl2_44 de iD iO tU fm2_45 fk fa fc ft ff fb fi]) H := hP
            have hD : va_D A (List.flatten [bMo g o a th hi ac tp ba en at2_43 fl2_44 de iD iO tU fm2_45 fk fa fc ft ff fb fi]) := hD
            exact mret_v hx hb hr hlocks hS (Nat.le_of_ble_eq_true rfl) (Nat.le_of_ble_eq_true rfl) dX12_townLine_197 (at2_43, fl2_44, fm2_45) rfl (show (rM fm2_45) ∧ (0 ≤ at2_43.toInt ∧ at2_43.toInt ≤ en.toInt + 7 - de.toInt) ∧ (tA.toInt ≤ at2_43.toInt) ∧ (-1 ≤ fl2_44.toInt) from ⟨(by first | assumption | omega | decide | exact rfl | exact zb01 (by omega) | exact Or.inl (by decide) | exact Or.inr (by first | omega | decide)), (by first | assumption | omega | decide | exact rfl | exact zb01 (by omega) | exact Or.inl (by decide) | exact Or.inr (by first | omega | decide)), (by first | assumption | omega | decide | exact rfl | exact zb01 (by omega) | exact Or.inl (by decide) | exact Or.inr (by first | omega | decide)), (by first | assumption | omega | decide | exact rfl | exact zb01 (by omega) | exact Or.inl (by decide) | exact Or.inr (by first | omega | decide))⟩) hP hD
          · skip
            refine lv_if_eq (tgt := 97) hx hb dX12_townLine_82 (by decide) (fun _ => ?_) (fun c47 => absurd (by decide) c47)
            refine lv_aload_n hx hb dX12_townLine_97 rfl (lv_at hl 1 rfl) ?_
            refine va_ldcS (q := g.2 80) hx hb hown (zra35 hT.2.1) dX12_townLine_98 ?_
            refine mcallV' (g := g) (q0 := 0) (ci := 10) (As := [.ref (g.2 80)]) (rest := []) St hK hT hA hP hD hS hl.1 [0] [] rfl rfl rfl (m_has l g o a th hi ac tp ba en at2_39 fl de iD iO tU fm fk fa fc ft ff fb fi (g.2 80) 35 zqa35 (by first | assumption | omega | decide | exact Or.inl (by decide) | exact Or.inr (by decide)) (⟨hen.1, hen.2⟩) (by first | assumption | omega | decide | exact Or.inl (by decide) | exact Or.inr (by decide)) (by first | assumption | omega | decide | exact Or.inl (by decide) | exact Or.inr (by decide)) (⟨hde.1, hde.2⟩) rfl zla35 zna35) (cwV 1 hts (zgL (zl4 k898 k899 k900 k837) k888) rfl rfl rfl (by decide +kernel) ⟨Nat.le_of_ble_eq_true rfl, Nat.le_of_ble_eq_true rfl⟩) rfl rfl rfl rfl (Nat.le_of_ble_eq_true rfl) dX12_townLine_100 ⟨(Nat.le_of_ble_eq_true rfl), (Nat.le_of_ble_eq_true rfl)⟩ (fun u_ H locs hq50 hP hD hS => ?_)
            obtain ⟨at2_48, r_49⟩ := u_
            replace hq50 : (0 ≤ at2_48.toInt ∧ at2_48.toInt ≤ en.toInt + 7 - de.toInt) ∧ (at2_39.toInt ≤ at2_48.toInt) ∧ (r_49 = 1 ∧ at2_39.toInt < at2_48.toInt ∧ at2_48.toInt ≤ en.toInt ∨ r_49 = 0) := hq50
            have hP : va_P g.1 vwCl (List.flatten [bMo g o a th hi ac tp ba en at2_48 fl de iD iO tU fm fk fa fc ft ff fb fi]) H := hP
            have hD : va_D A (List.flatten [bMo g o a th hi ac tp ba en at2_48 fl de iD iO tU fm fk fa fc ft ff fb fi]) := hD
            refine W.widen (k := 0) (n := 0) (Nat.le_of_ble_eq_true rfl) (Nat.le_of_ble_eq_true rfl) ?_
            refine W.eq (g2 := F0 m 103 ls [.int r_49]) rfl ?_
            obtain ⟨hq50_0, hq50_1, hq50_2⟩ := hq50
            rcases hq50_2 with ⟨rfl, hq50_k⟩ | rfl
            · skip
              refine lv_if_eq (tgt := 118) hx hb dX12_townLine_103 (by decide) (fun c51 => absurd c51 (by decide)) (fun _ => ?_)
              refine lv_aload_n hx hb dX12_townLine_106 rfl (lv_at hl 1 rfl) ?_
              refine lv_bipush (v := 7) hx hb dX12_townLine_107 (by decide) ?_
              refine lv_iconst (v := 0) hx hb dX12_townLine_109 (by decide) ?_
              refine lv_bipush (v := 100) hx hb dX12_townLine_110 (by decide) ?_
              have hL7 : (7 : Int32).toInt = 7 := by decide
              refine mcallV' (g := g) (q0 := 0) (ci := 10) (As := [.int 7, .int 0, .int 100]) (rest := []) St hK hT hA hP hD hS hl.1 [0] [] rfl rfl rfl (m_tells l g o a th hi ac tp ba en at2_48 fl de iD iO tU fm fk fa fc ft ff fb fi 7 0 100 (by first | assumption | omega | decide | exact Or.inl (by decide) | exact Or.inr (by decide)) (by first | assumption | omega | decide | exact Or.inl (by decide) | exact Or.inr (by decide)) (⟨hen.1, hen.2⟩) (by first | assumption | omega | decide | exact Or.inl (by decide) | exact Or.inr (by decide)) (by first | assumption | omega | decide | exact Or.inl (by decide) | exact Or.inr (by decide)) (⟨hde.1, hde.2⟩) (by first | assumption | omega | decide | exact Or.inl (by decide) | exact Or.inr (by decide))) (cwV 3 hts (zgL (zl4 k927 k928 k929 k837) k917) rfl rfl rfl (by decide +kernel) ⟨Nat.le_of_ble_eq_true rfl, Nat.le_of_ble_eq_true rfl⟩) rfl rfl rfl rfl (Nat.le_of_ble_eq_true rfl) dX12_townLine_112 ⟨(Nat.le_of_ble_eq_true rfl), (Nat.le_of_ble_eq_true rfl)⟩ (fun u_ H locs hq55 hP hD hS => ?_)
              obtain ⟨at2_52, fl2_53, fm2_54⟩ := u_
              replace hq55 : (rM fm2_54) ∧ (0 ≤ at2_52.toInt ∧ at2_52.toInt ≤ en.toInt + 7 - de.toInt) ∧ (at2_48.toInt ≤ at2_52.toInt) ∧ (-1 ≤ fl2_53.toInt) := hq55
              have hP : va_P g.1 vwCl (List.flatten [bMo g o a th hi ac tp ba en at2_52 fl2_53 de iD iO tU fm2_54 fk fa fc ft ff fb fi]) H := hP
              have hD : va_D A (List.flatten [bMo g o a th hi ac tp ba en at2_52 fl2_53 de iD iO tU fm2_54 fk fa fc ft ff fb fi]) := hD
              refine W.widen (k := 0) (n := 0) (Nat.le_of_ble_eq_true rfl) (Nat.le_of_ble_eq_true rfl) ?_
              refine W.eq (g2 := F0 m 115 ls []) rfl ?_
              obtain ⟨rfm2_54, hq55_1, hq55_2, hq55_3⟩ := hq55
              refine lv_goto (tgt := 197) hx hb dX12_townLine_115 (by decide) ?_
              have hP : va_P g.1 vwCl (List.flatten [bMo g o a th hi ac tp ba en at2_52 fl2_53 de iD iO tU fm2_54 fk fa fc ft ff fb fi]) H := hP
              have hD : va_D A (List.flatten [bMo g o a th hi ac tp ba en at2_52 fl2_53 de iD iO tU fm2_54 fk fa fc ft ff fb fi]) := hD
              exact mret_v hx hb hr hlocks hS (Nat.le_of_ble_eq_true rfl) (Nat.le_of_ble_eq_true rfl) dX12_townLine_197 (at2_52, fl2_53, fm2_54) rfl (show (rM fm2_54) ∧ (0 ≤ at2_52.toInt ∧ at2_52.toInt ≤ en.toInt + 7 - de.toInt) ∧ (tA.toInt ≤ at2_52.toInt) ∧ (-1 ≤ fl2_53.toInt) from ⟨(by first | assumption | omega | decide | exact rfl | exact zb01 (by omega) | exact Or.inl (by decide) | exact Or.inr (by first | omega | decide)), (by first | assumption | omega | decide | exact rfl | exact zb01 (by omega) | exact Or.inl (by decide) | exact Or.inr (by first | omega | decide)), (by first | assumption | omega | decide | exact rfl | exact zb01 (by omega) | exact Or.inl (by decide) | exact Or.inr (by first | omega | decide)), (by first | assumption | omega | decide | exact rfl | exact zb01 (by omega) | exact Or.inl (by decide) | exact Or.inr (by first | omega | decide))⟩) hP hD
            · skip
              refine lv_if_eq (tgt := 118) hx hb dX12_townLine_103 (by decide) (fun _ => ?_) (fun c56 => absurd (by decide) c56)
              refine lv_aload_n hx hb dX12_townLine_118 rfl (lv_at hl 1 rfl) ?_
              refine va_ldcS (q := g.2 82) hx hb hown (zra36 hT.2.1) dX12_townLine_119 ?_
              refine mcallV' (g := g) (q0 := 0) (ci := 10) (As := [.ref (g.2 82)]) (rest := []) St hK hT hA hP hD hS hl.1 [0] [] rfl rfl rfl (m_has l g o a th hi ac tp ba en at2_48 fl de iD iO tU fm fk fa fc ft ff fb fi (g.2 82) 36 zqa36 (by first | assumption | omega | decide | exact Or.inl (by decide) | exact Or.inr (by decide)) (⟨hen.1, hen.2⟩) (by first | assumption | omega | decide | exact Or.inl (by decide) | exact Or.inr (by decide)) (by first | assumption | omega | decide | exact Or.inl (by decide) | exact Or.inr (by decide)) (⟨hde.1, hde.2⟩) rfl zla36 zna36) (cwV 1 hts (zgL (zl4 k898 k899 k900 k837) k888) rfl rfl rfl (by decide +kernel) ⟨Nat.le_of_ble_eq_true rfl, Nat.le_of_ble_eq_true rfl⟩) rfl rfl rfl rfl (Nat.le_of_ble_eq_true rfl) dX12_townLine_121 ⟨(Nat.le_of_ble_eq_true rfl), (Nat.le_of_ble_eq_true rfl)⟩ (fun u_ H locs hq59 hP hD hS => ?_)
              obtain ⟨at2_57, r_58⟩ := u_
              replace hq59 : (0 ≤ at2_57.toInt ∧ at2_57.toInt ≤ en.toInt + 7 - de.toInt) ∧ (at2_48.toInt ≤ at2_57.toInt) ∧ (r_58 = 1 ∧ at2_48.toInt < at2_57.toInt ∧ at2_57.toInt ≤ en.toInt ∨ r_58 = 0) := hq59
              have hP : va_P g.1 vwCl (List.flatten [bMo g o a th hi ac tp ba en at2_57 fl de iD iO tU fm fk fa fc ft ff fb fi]) H := hP
              have hD : va_D A (List.flatten [bMo g o a th hi ac tp ba en at2_57 fl de iD iO tU fm fk fa fc ft ff fb fi]) := hD
              refine W.widen (k := 0) (n := 0) (Nat.le_of_ble_eq_true rfl) (Nat.le_of_ble_eq_true rfl) ?_
              refine W.eq (g2 := F0 m 124 ls [.int r_58]) rfl ?_
              obtain ⟨hq59_0, hq59_1, hq59_2⟩ := hq59
              rcases hq59_2 with ⟨rfl, hq59_k⟩ | rfl
              · skip
                refine lv_if_eq (tgt := 167) hx hb dX12_townLine_124 (by decide) (fun c60 => absurd c60 (by decide)) (fun _ => ?_)
                refine lv_aload_n hx hb dX12_townLine_127 rfl (lv_at hl 1 rfl) ?_
                refine lv_iconst (v := 0) hx hb dX12_townLine_128 (by decide) ?_
                refine lv_aload_n hx hb dX12_townLine_129 rfl (lv_at hl 1 rfl) ?_
                refine va_get (D := g.1) (ci := 10) (v := .ref (a 0)) (C := RX12) (T := TX12) (N := 20) hx hb hts izRX12 hown hK hP 0 rfl rfl 1 (by decide) (hts _ k815) (fun _ h9 => h9) rfl dX12_townLine_130 ?_
                refine lv_iconst (v := 3) hx hb dX12_townLine_133 (by decide) ?_
                refine va_iald hx hb hK hP 1 0 rfl rfl (zin rfl) dX12_townLine_134 ?_
                refine zgq (r := fm 3) rfl (rM3 rfm) (fun x_61 hx_61 => ?_)
                refine lv_iconst (v := 1) hx hb dX12_townLine_135 (by decide) ?_
                refine lv_isub hx hb dX12_townLine_136 ?_
                refine zg3 (zsubK (i := x_61.toInt) (j := 1) (a' := (-1)) (b' := 7) rfl (by decide) hx_61.1 hx_61.2.1 (Int.le_refl _) (Int.le_refl _) (by decide)) (fun x_62 hx_62 => ?_)
                have hL0 : (0 : Int32).toInt = 0 := by decide
                refine mcallV' (g := g) (q0 := 0) (ci := 10) (As := [.int 0, .int x_62]) (rest := []) St hK hT hA hP hD hS hl.1 [0] [] rfl rfl rfl (m_figures l g o a th hi ac tp ba en at2_57 fl de iD iO tU fm fk fa fc ft ff fb fi 0 x_62 (by first | assumption | omega | decide | exact Or.inl (by decide) | exact Or.inr (by decide)) (⟨hen.1, hen.2⟩) (by first | assumption | omega | decide | exact Or.inl (by decide) | exact Or.inr (by decide)) (by first | assumption | omega | decide | exact Or.inl (by decide) | exact Or.inr (by decide)) (⟨hde.1, hde.2⟩)) (cwV 2 hts (zgL (zl4 k901 k902 k903 k837) k897) rfl rfl rfl (by decide +kernel) ⟨Nat.le_of_ble_eq_true rfl, Nat.le_of_ble_eq_true rfl⟩) rfl rfl rfl rfl (Nat.le_of_ble_eq_true rfl) dX12_townLine_137 ⟨(Nat.le_of_ble_eq_true rfl), (Nat.le_of_ble_eq_true rfl)⟩ (fun u_ H locs hq66 hP hD hS => ?_)
                obtain ⟨at2_63, fl2_64, r_65⟩ := u_
                replace hq66 : (0 ≤ at2_63.toInt ∧ at2_63.toInt ≤ en.toInt + 7 - de.toInt) ∧ (at2_57.toInt ≤ at2_63.toInt) ∧ (-1 ≤ fl2_64.toInt) ∧ (zImp (fl2_64.toInt = -1) (fl.toInt = -1 ∧ (0 : Int32).toInt ≤ r_65.toInt ∧ r_65.toInt ≤ x_62.toInt)) := hq66
                have hP : va_P g.1 vwCl (List.flatten [bMo g o a th hi ac tp ba en at2_63 fl2_64 de iD iO tU fm fk fa fc ft ff fb fi]) H := hP
                have hD : va_D A (List.flatten [bMo g o a th hi ac tp ba en at2_63 fl2_64 de iD iO tU fm fk fa fc ft ff fb fi]) := hD
                refine W.widen (k := 0) (n := 0) (Nat.le_of_ble_eq_true rfl) (Nat.le_of_ble_eq_true rfl) ?_
                refine W.eq (g2 := F0 m 140 ls [.int r_65]) rfl ?_
                obtain ⟨hq66_0, hq66_1, hq66_2, hq66_3⟩ := hq66
                refine lv_istore_n (lv' := [(2, .int r_65), (1, .int at2_1), (0, .ref o)]) hx hb dX12_townLine_140 rfl hl (by decide) rfl (fun ls hl => ?_)
                refine lv_aload_n hx hb dX12_townLine_141 rfl (lv_at hl 2 rfl) ?_
                refine va_get (D := g.1) (ci := 10) (v := .int fl2_64) (C := RX12) (T := TX12) (N := 20) hx hb hts izRX12 hown hK hP 0 rfl rfl 12 (by decide) (hts _ k820) (fun _ h9 => h9) rfl dX12_townLine_142 ?_
                refine lv_iconst (v := (-1)) hx hb dX12_townLine_145 (by decide) ?_
                refine lv_icmp_ne (tgt := 164) hx hb dX12_townLine_146 (by decide) (fun cb9 => ?_) (fun cb9 => ?_)
                · skip
                  have c67 : ¬ fl2_64.toInt = (-1) := zne cb9 rfl (by decide)
                  refine lv_goto (tgt := 197) hx hb dX12_townLine_164 (by decide) ?_
                  have hP : va_P g.1 vwCl (List.flatten [bMo g o a th hi ac tp ba en at2_63 fl2_64 de iD iO tU fm fk fa fc ft ff fb fi]) H := hP
                  have hD : va_D A (List.flatten [bMo g o a th hi ac tp ba en at2_63 fl2_64 de iD iO tU fm fk fa fc ft ff fb fi]) := hD
                  exact mret_v hx hb hr hlocks hS (Nat.le_of_ble_eq_true rfl) (Nat.le_of_ble_eq_true rfl) dX12_townLine_197 (at2_63, fl2_64, fm) rfl (show (rM fm) ∧ (0 ≤ at2_63.toInt ∧ at2_63.toInt ≤ en.toInt + 7 - de.toInt) ∧ (tA.toInt ≤ at2_63.toInt) ∧ (-1 ≤ fl2_64.toInt) from ⟨(by first | assumption | omega | decide | exact rfl | exact zb01 (by omega) | exact Or.inl (by decide) | exact Or.inr (by first | omega | decide)), (by first | assumption | omega | decide | exact rfl | exact zb01 (by omega) | exact Or.inl (by decide) | exact Or.inr (by first | omega | decide)), (by first | assumption | omega | decide | exact rfl | exact zb01 (by omega) | exact Or.inl (by decide) | exact Or.inr (by first | omega | decide)), (by first | assumption | omega | decide | exact rfl | exact zb01 (by omega) | exact Or.inl (by decide) | exact Or.inr (by first | omega | decide))⟩) hP hD
                · skip
                  have c68 : fl2_64.toInt = (-1) := zeq cb9 rfl (by decide)
                  have n69 : fl2_64.toInt ≤ (-1) := Int.le_trans (Int.le_of_eq c68) (Int.le_refl _)
                  obtain ⟨e71, w70⟩ := hq66_3 c68
                  have w72 : 0 ≤ r_65.toInt ∧ r_65.toInt ≤ 7 := by first | exact w70 | omega
                  refine lv_aload_n hx hb dX12_townLine_149 rfl (lv_at hl 2 rfl) ?_
                  refine lv_bipush (v := 11) hx hb dX12_townLine_150 (by decide) ?_
                  refine lv_iconst (v := 5) hx hb dX12_townLine_152 (by decide) ?_
                  refine lv_iload_n hx hb dX12_townLine_153 rfl (lv_at hl 0 rfl) ?_
                  refine lv_imul hx hb dX12_townLine_154 ?_
                  refine zg3 (zmulKL (i := r_65.toInt) (n := 5) (a' := 0) (b' := 35) rfl (by decide) w72.1 w72.2 (by decide) (by decide)) (fun x_73 hx_73 => ?_)
                  refine lv_iadd hx hb dX12_townLine_155 ?_
                  refine zg3 (zaddK (i := 11) (j := x_73.toInt) (a' := 11) (b' := 46) (by decide) rfl (Int.le_refl _) (Int.le_refl _) hx_73.2.1 hx_73.2.2 (by decide)) (fun x_74 hx_74 => ?_)
                  refine lv_iconst (v := 2) hx hb dX12_townLine_156 (by decide) ?_
                  refine lv_iadd hx hb dX12_townLine_157 ?_
                  refine zg3 (zaddK (i := x_74.toInt) (j := 2) (a' := 13) (b' := 48) rfl (by decide) hx_74.2.1 hx_74.2.2 (Int.le_refl _) (Int.le_refl _) (by decide)) (fun x_75 hx_75 => ?_)
                  refine lv_iconst (v := 0) hx hb dX12_townLine_158 (by decide) ?_
                  refine lv_bipush (v := 99) hx hb dX12_townLine_159 (by decide) ?_
                  refine mcallV' (g := g) (q0 := 0) (ci := 10) (As := [.int x_75, .int 0, .int 99]) (rest := []) St hK hT hA hP hD hS hl.1 [0] [] rfl rfl rfl (m_tells l g o a th hi ac tp ba en at2_63 fl2_64 de iD iO tU fm fk fa fc ft ff fb fi x_75 0 99 (by first | assumption | omega | decide | exact Or.inl (by decide) | exact Or.inr (by decide)) (by first | assumption | omega | decide | exact Or.inl (by decide) | exact Or.inr (by decide)) (⟨hen.1, hen.2⟩) (by first | assumption | omega | decide | exact Or.inl (by decide) | exact Or.inr (by decide)) (by first | assumption | omega | decide | exact Or.inl (by decide) | exact Or.inr (by decide)) (⟨hde.1, hde.2⟩) (by first | assumption | omega | decide | exact Or.inl (by decide) | exact Or.inr (by decide))) (cwV 3 hts (zgL (zl4 k927 k928 k929 k837) k917) rfl rfl rfl (by decide +kernel) ⟨Nat.le_of_ble_eq_true rfl, Nat.le_of_ble_eq_true rfl⟩) rfl rfl rfl rfl (Nat.le_of_ble_eq_true rfl) dX12_townLine_161 ⟨(Nat.le_of_ble_eq_true rfl), (Nat.le_of_ble_eq_true rfl)⟩ (fun u_ H locs hq79 hP hD hS => ?_)
                  obtain ⟨at2_76, fl2_77, fm2_78⟩ := u_
                  replace hq79 : (rM fm2_78) ∧ (0 ≤ at2_76.toInt ∧ at2_76.toInt ≤ en.toInt + 7 - de.toInt) ∧ (at2_63.toInt ≤ at2_76.toInt) ∧ (-1 ≤ fl2_77.toInt) := hq79
                  have hP : va_P g.1 vwCl (List.flatten [bMo g o a th hi ac tp ba en at2_76 fl2_77 de iD iO tU fm2_78 fk fa fc ft ff fb fi]) H := hP
                  have hD : va_D A (List.flatten [bMo g o a th hi ac tp ba en at2_76 fl2_77 de iD iO tU fm2_78 fk fa fc ft ff fb fi]) := hD
                  refine W.widen (k := 0) (n := 0) (Nat.le_of_ble_eq_true rfl) (Nat.le_of_ble_eq_true rfl) ?_
                  refine W.eq (g2 := F0 m 164 ls []) rfl ?_
                  obtain ⟨rfm2_78, hq79_1, hq79_2, hq79_3⟩ := hq79
                  refine lv_goto (tgt := 197) hx hb dX12_townLine_164 (by decide) ?_
                  have hP : va_P g.1 vwCl (List.flatten [bMo g o a th hi ac tp ba en at2_76 fl2_77 de iD iO tU fm2_78 fk fa fc ft ff fb fi]) H := hP
                  have hD : va_D A (List.flatten [bMo g o a th hi ac tp ba en at2_76 fl2_77 de iD iO tU fm2_78 fk fa fc ft ff fb fi]) := hD
                  exact mret_v hx hb hr hlocks hS (Nat.le_of_ble_eq_true rfl) (Nat.le_of_ble_eq_true rfl) dX12_townLine_197 (at2_76, fl2_77, fm2_78) rfl (show (rM fm2_78) ∧ (0 ≤ at2_76.toInt ∧ at2_76.toInt ≤ en.toInt + 7 - de.toInt) ∧ (tA.toInt ≤ at2_76.toInt) ∧ (-1 ≤ fl2_77.toInt) from ⟨(by first | assumption | omega | decide | exact rfl | exact zb01 (by omega) | exact Or.inl (by decide) | exact Or.inr (by first | omega | decide)), (by first | assumption | omega | decide | exact rfl | exact zb01 (by omega) | exact Or.inl (by decide) | exact Or.inr (by first | omega | decide)), (by first | assumption | omega | decide | exact rfl | exact zb01 (by omega) | exact Or.inl (by decide) | exact Or.inr (by first | omega | decide)), (by first | assumption | omega | decide | exact rfl | exact zb01 (by omega) | exact Or.inl (by decide) | exact Or.inr (by first | omega | decide))⟩) hP hD
              · skip
                refine lv_if_eq (tgt := 167) hx hb dX12_townLine_124 (by decide) (fun _ => ?_) (fun c80 => absurd (by decide) c80)
                refine lv_aload_n hx hb dX12_townLine_167 rfl (lv_at hl 1 rfl) ?_
                refine va_ldcS (q := g.2 84) hx hb hown (zra37 hT.2.1) dX12_townLine_168 ?_
                refine mcallV' (g := g) (q0 := 0) (ci := 10) (As := [.ref (g.2 84)]) (rest := []) St hK hT hA hP hD hS hl.1 [0] [] rfl rfl rfl (m_has l g o a th hi ac tp ba en at2_57 fl de iD iO tU fm fk fa fc ft ff fb fi (g.2 84) 37 zqa37 (by first | assumption | omega | decide | exact Or.inl (by decide) | exact Or.inr (by decide)) (⟨hen.1, hen.2⟩) (by first | assumption | omega | decide | exact Or.inl (by decide) | exact Or.inr (by decide)) (by first | assumption | omega | decide | exact Or.inl (by decide) | exact Or.inr (by decide)) (⟨hde.1, hde.2⟩) rfl zla37 zna37) (cwV 1 hts (zgL (zl4 k898 k899 k900 k837) k888) rfl rfl rfl (by decide +kernel) ⟨Nat.le_of_ble_eq_true rfl, Nat.le_of_ble_eq_true rfl⟩) rfl rfl rfl rfl (Nat.le_of_ble_eq_true rfl) dX12_townLine_170 ⟨(Nat.le_of_ble_eq_true rfl), (Nat.le_of_ble_eq_true rfl)⟩ (fun u_ H locs hq83 hP hD hS => ?_)
                obtain ⟨at2_81, r_82⟩ := u_
                replace hq83 : (0 ≤ at2_81.toInt ∧ at2_81.toInt ≤ en.toInt + 7 - de.toInt) ∧ (at2_57.toInt ≤ at2_81.toInt) ∧ (r_82 = 1 ∧ at2_57.toInt < at2_81.toInt ∧ at2_81.toInt ≤ en.toInt ∨ r_82 = 0) := hq83
                have hP : va_P g.1 vwCl (List.flatten [bMo g o a th hi ac tp ba en at2_81 fl de iD iO tU fm fk fa fc ft ff fb fi]) H := hP
                have hD : va_D A (List.flatten [bMo g o a th hi ac tp ba en at2_81 fl de iD iO tU fm fk fa fc ft ff fb fi]) := hD
                refine W.widen (k := 0) (n := 0) (Nat.le_of_ble_eq_true rfl) (Nat.le_of_ble_eq_true rfl) ?_
                refine W.eq (g2 := F0 m 173 ls [.int r_82]) rfl ?_
                obtain ⟨hq83_0, hq83_1, hq83_2⟩ := hq83
                rcases hq83_2 with ⟨rfl, hq83_k⟩ | rfl
                · skip
                  refine lv_if_eq (tgt := 189) hx hb dX12_townLine_173 (by decide) (fun c84 => absurd c84 (by decide)) (fun _ => ?_)
                  refine lv_aload_n hx hb dX12_townLine_176 rfl (lv_at hl 1 rfl) ?_
                  refine lv_bipush (v := 8) hx hb dX12_townLine_177 (by decide) ?_
                  refine lv_iconst (v := 0) hx hb dX12_townLine_179 (by decide) ?_
                  refine lv_sipush (v := 999) hx hb dX12_townLine_180 (by decide) ?_
                  have hL8 : (8 : Int32).toInt = 8 := by decide
                  refine mcallV' (g := g) (q0 := 0) (ci := 10) (As := [.int 8, .int 0, .int 999]) (rest := []) St hK hT hA hP hD hS hl.1 [0] [] rfl rfl rfl (m_tells l g o a th hi ac tp ba en at2_81 fl de iD iO tU fm fk fa fc ft ff fb fi 8 0 999 (by first | assumption | omega | decide | exact Or.inl (by decide) | exact Or.inr (by decide)) (by first | assumption | omega | decide | exact Or.inl (by decide) | exact Or.inr (by decide)) (⟨hen.1, hen.2⟩) (by first | assumption | omega | decide | exact Or.inl (by decide) | exact Or.inr (by decide)) (by first | assumption | omega | decide | exact Or.inl (by decide) | exact Or.inr (by decide)) (⟨hde.1, hde.2⟩) (by first | assumption | omega | decide | exact Or.inl (by decide) | exact Or.inr (by decide))) (cwV 3 hts (zgL (zl4 k927 k928 k929 k837) k917) rfl rfl rfl (by decide +kernel) ⟨Nat.le_of_ble_eq_true rfl, Nat.le_of_ble_eq_true rfl⟩) rfl rfl rfl rfl (Nat.le_of_ble_eq_true rfl) dX12_townLine_183 ⟨(Nat.le_of_ble_eq_true rfl), (Nat.le_of_ble_eq_true rfl)⟩ (fun u_ H locs hq88 hP hD hS => ?_)
                  obtain ⟨at2_85, fl2_86, fm2_87⟩ := u_
                  replace hq88 : (rM fm2_87) ∧ (0 ≤ at2_85.toInt ∧ at2_85.toInt ≤ en.toInt + 7 - de.toInt) ∧ (at2_81.toInt ≤ at2_85.toInt) ∧ (-1 ≤ fl2_86.toInt) := hq88
                  have hP : va_P g.1 vwCl (List.flatten [bMo g o a th hi ac tp ba en at2_85 fl2_86 de iD iO tU fm2_87 fk fa fc ft ff fb fi]) H := hP
                  have hD : va_D A (List.flatten [bMo g o a th hi ac tp ba en at2_85 fl2_86 de iD iO tU fm2_87 fk fa fc ft ff fb fi]) := hD
                  refine W.widen (k := 0) (n := 0) (Nat.le_of_ble_eq_true rfl) (Nat.le_of_ble_eq_true rfl) ?_
                  refine W.eq (g2 := F0 m 186 ls []) rfl ?_
                  obtain ⟨rfm2_87, hq88_1, hq88_2, hq88_3⟩ := hq88
                  refine lv_goto (tgt := 197) hx hb dX12_townLine_186 (by decide) ?_
                  have hP : va_P g.1 vwCl (List.flatten [bMo g o a th hi ac tp ba en at2_85 fl2_86 de iD iO tU fm2_87 fk fa fc ft ff fb fi]) H := hP
                  have hD : va_D A (List.flatten [bMo g o a th hi ac tp ba en at2_85 fl2_86 de iD iO tU fm2_87 fk fa fc ft ff fb fi]) := hD
                  exact mret_v hx hb hr hlocks hS (Nat.le_of_ble_eq_true rfl) (Nat.le_of_ble_eq_true rfl) dX12_townLine_197 (at2_85, fl2_86, fm2_87) rfl (show (rM fm2_87) ∧ (0 ≤ at2_85.toInt ∧ at2_85.toInt ≤ en.toInt + 7 - de.toInt) ∧ (tA.toInt ≤ at2_85.toInt) ∧ (-1 ≤ fl2_86.toInt) from ⟨(by first | assumption | omega | decide | exact rfl | exact zb01 (by omega) | exact Or.inl (by decide) | exact Or.inr (by first | omega | decide)), (by first | assumption | omega | decide | exact rfl | exact zb01 (by omega) | exact Or.inl (by decide) | exact Or.inr (by first | omega | decide)), (by first | assumption | omega | decide | exact rfl | exact zb01 (by omega) | exact Or.inl (by decide) | exact Or.inr (by first | omega | decide)), (by first | assumption | omega | decide | exact rfl | exact zb01 (by omega) | exact Or.inl (by decide) | exact Or.inr (by first | omega | decide))⟩) hP hD
                · skip
                  refine lv_if_eq (tgt := 189) hx hb dX12_townLine_173 (by decide) (fun _ => ?_) (fun c89 => absurd (by decide) c89)
                  refine lv_aload_n hx hb dX12_townLine_189 rfl (lv_at hl 1 rfl) ?_
                  refine lv_aload_n hx hb dX12_townLine_190 rfl (lv_at hl 1 rfl) ?_
                  refine va_get (D := g.1) (ci := 10) (v := .int at2_81) (C := RX12) (T := TX12) (N := 20) hx hb hts izRX12 hown hK hP 0 rfl rfl 11 (by decide) (hts _ k877) (fun _ h9 => h9) rfl dX12_townLine_191 ?_
                  refine mcallV' (g := g) (q0 := 0) (ci := 10) (As := [.int at2_81]) (rest := []) St hK hT hA hP hD hS hl.1 [0] [] rfl rfl rfl (m_wrong l g o a th hi ac tp ba en at2_81 fl de iD iO tU fm fk fa fc ft ff fb fi at2_81 (by first | assumption | omega | decide | exact Or.inl (by decide) | exact Or.inr (by decide)) (by first | assumption | omega | decide | exact Or.inl (by decide) | exact Or.inr (by decide))) (cwV 1 hts (zgL (zl4 k894 k895 k896 k837) k889) rfl rfl rfl (by decide +kernel) ⟨Nat.le_of_ble_eq_true rfl, Nat.le_of_ble_eq_true rfl⟩) rfl rfl rfl rfl (Nat.le_of_ble_eq_true rfl) dX12_townLine_194 ⟨(Nat.le_of_ble_eq_true rfl), (Nat.le_of_ble_eq_true rfl)⟩ (fun fl2_90 H locs hq91 hP hD hS => ?_)
                  replace hq91 : (0 ≤ fl2_90.toInt) := hq91
                  have hP : va_P g.1 vwCl (List.flatten [bMo g o a th hi ac tp ba en at2_81 fl2_90 de iD iO tU fm fk fa fc ft ff fb fi]) H := hP
                  have hD : va_D A (List.flatten [bMo g o a th hi ac tp ba en at2_81 fl2_90 de iD iO tU fm fk fa fc ft ff fb fi]) := hD
                  refine W.widen (k := 0) (n := 0) (Nat.le_of_ble_eq_true rfl) (Nat.le_of_ble_eq_true rfl) ?_
                  refine W.eq (g2 := F0 m 197 ls []) rfl ?_
                  have hP : va_P g.1 vwCl (List.flatten [bMo g o a th hi ac tp ba en at2_81 fl2_90 de iD iO tU fm fk fa fc ft ff fb fi]) H := hP
                  have hD : va_D A (List.flatten [bMo g o a th hi ac tp ba en at2_81 fl2_90 de iD iO tU fm fk fa fc ft ff fb fi]) := hD
                  exact mret_v hx hb hr hlocks hS (Nat.le_of_ble_eq_true rfl) (Nat.le_of_ble_eq_true rfl) dX12_townLine_197 (at2_81, fl2_90, fm) rfl (show (rM fm) ∧ (0 ≤ at2_81.toInt ∧ at2_81.toInt ≤ en.toInt + 7 - de.toInt) ∧ (tA.toInt ≤ at2_81.toInt) ∧ (-1 ≤ fl2_90.toInt) from ⟨(by first | assumption | omega | decide | exact rfl | exact zb01 (by omega) | exact Or.inl (by decide) | exact Or.inr (by first | omega | decide)), (by first | assumption | omega | decide | exact rfl | exact zb01 (by omega) | exact Or.inl (by decide) | exact Or.inr (by first | omega | decide)), (by first | assumption | omega | decide | exact rfl | exact zb01 (by omega) | exact Or.inl (by decide) | exact Or.inr (by first | omega | decide)), (by first | assumption | omega | decide | exact rfl | exact zb01 (by omega) | exact Or.inl (by decide) | exact Or.inr (by first | omega | decide))⟩) hP hD
