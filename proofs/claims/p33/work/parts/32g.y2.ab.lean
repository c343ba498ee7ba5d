set_option maxRecDepth 100000 in
set_option maxHeartbeats 16000000 in
theorem m_townLineF (l : Launch) (g : zG) (o : Nat) (a : Nat → Nat) (th : Int32) (hi : Int32) (ac : Int32) (tp : Int32) (en : Int32) (tA : Int32) (de : Int32) (iD : Int32) (iO : Int32) (tU : Int32) (fm : Nat → Int32) (fk : Nat → Int32) (fa : Nat → Int32) (fc : Nat → Int32) (ft : Nat → Int32) (ff : Nat → Int32) (fb : Nat → Int32) (fi : Nat → Int32) (rfm : rM fm) (hen : 0 ≤ en.toInt ∧ en.toInt ≤ 400) (htA : 0 ≤ tA.toInt ∧ tA.toInt ≤ en.toInt + 7 - de.toInt) (hde : 0 ≤ de.toInt ∧ de.toInt ≤ 6) : zM' g l yX12_townLine (Cond.code yX12_townLine cX12_townLine 3 none :: zB) ({ frames := 7, cells := 0, slots := 0, locals := 156 } : Room) [.ref o] [bMo g o a th hi ac tp (-1) en tA (-1) de iD iO tU fm fk fa fc ft ff fb fi] (fun u : Int32 × Int32 × (Nat → Int32) => (fun (at2 : Int32) (fl2 : Int32) (fm2 : Nat → Int32) => none) (u.1) (u.2.1) (u.2.2)) (fun u : Int32 × Int32 × (Nat → Int32) => (fun (at2 : Int32) (fl2 : Int32) (fm2 : Nat → Int32) => (rM fm2) ∧ (0 ≤ at2.toInt ∧ at2.toInt ≤ en.toInt + 7 - de.toInt) ∧ (tA.toInt ≤ at2.toInt) ∧ ((fm2 0).toInt = (fm 0).toInt) ∧ ((-1) = fl2 ∧ zTO (zTLine ft en.toInt (fm 3).toInt (fm 4).toInt (zbg ft en.toInt tA.toInt)) (zbg ft en.toInt at2.toInt) (fm 3).toInt (fm2 3).toInt (fm 4).toInt (fm2 4).toInt ∨ 0 ≤ fl2.toInt ∧ zTLine ft en.toInt (fm 3).toInt (fm 4).toInt (zbg ft en.toInt tA.toInt) (.bad fl2.toInt))) (u.1) (u.2.1) (u.2.2)) (fun u : Int32 × Int32 × (Nat → Int32) => (fun (at2 : Int32) (fl2 : Int32) (fm2 : Nat → Int32) => [bMo g o a th hi ac tp (-1) en at2 fl2 de iD iO tU fm2 fk fa fc ft ff fb fi]) (u.1) (u.2.1) (u.2.2)) := by
  refine zM'.of (cc := cX12_townLine) (maxL := 3) (rt := none) (by decide) rfl (Nat.le_of_ble_eq_true rfl) ?_
  intro p e s m args below meth c A ls St hr hlocks hin hK hT hA hP hD hS hl
  obtain ⟨hx, hb, hml, hown, hts⟩ := id St
  have hl : lv_has ls 3 [(0, .ref o)] := hl
  refine lv_aload_n hx hb dX12_townLine_0 rfl (lv_at hl 0 rfl) ?_
  refine mcallV' (g := g) (q0 := 0) (ci := 10) (As := []) (rest := []) St hK hT hA hP hD hS hl.1 [0] [] rfl rfl rfl (m_hereF l g o a th hi ac tp en tA (-1) de iD iO tU fm fk fa fc ft ff fb fi hen htA hde) (cwV 0 hts (zgL (zl4 k892 k893 k894 k839) k891) rfl rfl rfl (by decide +kernel) ⟨Nat.le_of_ble_eq_true rfl, Nat.le_of_ble_eq_true rfl⟩) rfl rfl rfl rfl (Nat.le_of_ble_eq_true rfl) dX12_townLine_1 ⟨(Nat.le_of_ble_eq_true rfl), (Nat.le_of_ble_eq_true rfl)⟩ (fun at2_1 H locs hq2 hP hD hS => ?_)
  replace hq2 : (0 ≤ at2_1.toInt ∧ at2_1.toInt ≤ en.toInt + 7 - de.toInt) ∧ (tA.toInt ≤ at2_1.toInt) ∧ (zSk ft en.toInt tA.toInt at2_1.toInt) := hq2
  have hP : va_P g.1 vwCl (List.flatten [bMo g o a th hi ac tp (-1) en at2_1 (-1) de iD iO tU fm fk fa fc ft ff fb fi]) H := hP
  have hD : va_D A (List.flatten [bMo g o a th hi ac tp (-1) en at2_1 (-1) de iD iO tU fm fk fa fc ft ff fb fi]) := hD
  refine W.widen (k := 0) (n := 0) (Nat.le_of_ble_eq_true rfl) (Nat.le_of_ble_eq_true rfl) ?_
  refine W.eq (g2 := F0 m 4 ls [.int at2_1]) rfl ?_
  obtain ⟨hq2_0, hq2_1, hq2_2⟩ := hq2
  refine lv_istore_n (lv' := [(1, .int at2_1), (0, .ref o)]) hx hb dX12_townLine_4 rfl hl (by decide) rfl (fun ls hl => ?_)
  refine lv_aload_n hx hb dX12_townLine_5 rfl (lv_at hl 1 rfl) ?_
  refine va_ldcS (q := g.2 70) hx hb hown (zra30 hT.2.1) dX12_townLine_6 ?_
  refine mcallV' (g := g) (q0 := 0) (ci := 10) (As := [.ref (g.2 70)]) (rest := []) St hK hT hA hP hD hS hl.1 [0] [] rfl rfl rfl (m_hasF l g o a th hi ac tp en at2_1 (-1) de iD iO tU fm fk fa fc ft ff fb fi (g.2 70) 30 zqa30 hen hq2_0 hde rfl zla30 zna30 (zlitB zla30)) (cwV 1 hts (zgL (zl4 k899 k900 k901 k839) k889) rfl rfl rfl (by decide +kernel) ⟨Nat.le_of_ble_eq_true rfl, Nat.le_of_ble_eq_true rfl⟩) rfl rfl rfl rfl (Nat.le_of_ble_eq_true rfl) dX12_townLine_8 ⟨(Nat.le_of_ble_eq_true rfl), (Nat.le_of_ble_eq_true rfl)⟩ (fun u_ H locs hq5 hP hD hS => ?_)
  obtain ⟨at2_3, r_4⟩ := u_
  replace hq5 : (0 ≤ at2_3.toInt ∧ at2_3.toInt ≤ en.toInt + 7 - de.toInt) ∧ (at2_1.toInt ≤ at2_3.toInt) ∧ (r_4 = 1 ∧ zisW ft en.toInt (zbg ft en.toInt at2_1.toInt) zqa30.2.2.2 ∧ at2_3.toInt = znx ft en.toInt (zbg ft en.toInt at2_1.toInt) ∧ at2_1.toInt < at2_3.toInt ∧ at2_3.toInt ≤ en.toInt ∨ r_4 = 0 ∧ ¬ zisW ft en.toInt (zbg ft en.toInt at2_1.toInt) zqa30.2.2.2 ∧ at2_3.toInt = zbg ft en.toInt at2_1.toInt) := hq5
  have hP : va_P g.1 vwCl (List.flatten [bMo g o a th hi ac tp (-1) en at2_3 (-1) de iD iO tU fm fk fa fc ft ff fb fi]) H := hP
  have hD : va_D A (List.flatten [bMo g o a th hi ac tp (-1) en at2_3 (-1) de iD iO tU fm fk fa fc ft ff fb fi]) := hD
  refine W.widen (k := 0) (n := 0) (Nat.le_of_ble_eq_true rfl) (Nat.le_of_ble_eq_true rfl) ?_
  refine W.eq (g2 := F0 m 11 ls [.int r_4]) rfl ?_
  obtain ⟨hq5_0, hq5_1, hq5_2⟩ := hq5
  rcases hq5_2 with ⟨rfl, hq5_k, hq5_km⟩ | ⟨rfl, hq5_k, hq5_km⟩
  · skip
    refine lv_if_eq (tgt := 22) hx hb dX12_townLine_11 (by decide) (fun c6 => absurd c6 (by decide)) (fun _ => ?_)
    refine lv_aload_n hx hb dX12_townLine_14 rfl (lv_at hl 1 rfl) ?_
    refine lv_iload_n hx hb dX12_townLine_15 rfl (lv_at hl 0 rfl) ?_
    refine mcallV' (g := g) (q0 := 0) (ci := 10) (As := [.int at2_1]) (rest := []) St hK hT hA hP hD hS hl.1 [0] [] rfl rfl rfl (m_personLineF l g o a th hi ac tp en at2_3 de iD iO tU fm fk fa fc ft ff fb fi at2_1 rfm hen hq5_0 hde (by first | assumption | omega | decide | exact Or.inl (by decide) | exact Or.inr (by decide)) (zBat (show _ = zbg ft en.toInt tA.toInt from hq2_2) (zBx (show _ = zbg ft en.toInt tA.toInt from hq2_2) hq5_km.1))) (cwV 1 hts (zgL (zl4 k919 k920 k921 k839) k912) rfl rfl rfl (by decide +kernel) ⟨Nat.le_of_ble_eq_true rfl, Nat.le_of_ble_eq_true rfl⟩) rfl rfl rfl rfl (Nat.le_of_ble_eq_true rfl) dX12_townLine_16 ⟨(Nat.le_of_ble_eq_true rfl), (Nat.le_of_ble_eq_true rfl)⟩ (fun u_ H locs hq10 hP hD hS => ?_)
    obtain ⟨at2_7, fl2_8, fm2_9⟩ := u_
    replace hq10 : (rM fm2_9) ∧ (0 ≤ at2_7.toInt ∧ at2_7.toInt ≤ en.toInt + 7 - de.toInt) ∧ (at2_3.toInt ≤ at2_7.toInt) ∧ ((fm2_9 0).toInt = (fm 0).toInt) ∧ ((-1) = fl2_8 ∧ zTO (zTPerson ft en.toInt (fm 3).toInt at2_1.toInt) (zbg ft en.toInt at2_7.toInt) (fm 3).toInt (fm2_9 3).toInt (fm 4).toInt (fm2_9 4).toInt ∨ 0 ≤ fl2_8.toInt ∧ zTPerson ft en.toInt (fm 3).toInt at2_1.toInt (.bad fl2_8.toInt)) := hq10
    have hP : va_P g.1 vwCl (List.flatten [bMo g o a th hi ac tp (-1) en at2_7 fl2_8 de iD iO tU fm2_9 fk fa fc ft ff fb fi]) H := hP
    have hD : va_D A (List.flatten [bMo g o a th hi ac tp (-1) en at2_7 fl2_8 de iD iO tU fm2_9 fk fa fc ft ff fb fi]) := hD
    refine W.widen (k := 0) (n := 0) (Nat.le_of_ble_eq_true rfl) (Nat.le_of_ble_eq_true rfl) ?_
    refine W.eq (g2 := F0 m 19 ls []) rfl ?_
    obtain ⟨rfm2_9, hq10_1, hq10_2, hq10_3, hq10_4⟩ := hq10
    rcases hq10_4 with ⟨rfl, hq10_k⟩ | ⟨hq10_k, hq10_km⟩
    · skip
      refine lv_goto (tgt := 197) hx hb dX12_townLine_19 (by decide) ?_
      have hP : va_P g.1 vwCl (List.flatten [bMo g o a th hi ac tp (-1) en at2_7 (-1) de iD iO tU fm2_9 fk fa fc ft ff fb fi]) H := hP
      have hD : va_D A (List.flatten [bMo g o a th hi ac tp (-1) en at2_7 (-1) de iD iO tU fm2_9 fk fa fc ft ff fb fi]) := hD
      exact mret_v hx hb hr hlocks hS (Nat.le_of_ble_eq_true rfl) (Nat.le_of_ble_eq_true rfl) dX12_townLine_197 (at2_7, -1, fm2_9) rfl (show (rM fm2_9) ∧ (0 ≤ at2_7.toInt ∧ at2_7.toInt ≤ en.toInt + 7 - de.toInt) ∧ (tA.toInt ≤ at2_7.toInt) ∧ ((fm2_9 0).toInt = (fm 0).toInt) ∧ ((-1) = (-1) ∧ zTO (zTLine ft en.toInt (fm 3).toInt (fm 4).toInt (zbg ft en.toInt tA.toInt)) (zbg ft en.toInt at2_7.toInt) (fm 3).toInt (fm2_9 3).toInt (fm 4).toInt (fm2_9 4).toInt ∨ 0 ≤ ((-1) : Int32).toInt ∧ zTLine ft en.toInt (fm 3).toInt (fm 4).toInt (zbg ft en.toInt tA.toInt) (.bad ((-1) : Int32).toInt)) from ⟨(by first | assumption | omega | exact Or.inl (by decide) | exact Or.inr (by omega) | decide), (by first | assumption | omega | exact Or.inl (by decide) | exact Or.inr (by omega) | decide), (by first | assumption | omega | exact Or.inl (by decide) | exact Or.inr (by omega) | decide), (by first | assumption | omega | exact Or.inl (by decide) | exact Or.inr (by omega) | decide), (Or.inl ⟨rfl, zTO_i hq10_k (fun _ h9 => zTL_k (k := 0) (by decide) (zBy (show _ = zbg ft en.toInt tA.toInt from hq2_2) hq5_k) (zTP_b (show _ = zbg ft en.toInt tA.toInt from hq2_2) h9))⟩)⟩) hP hD
    · skip
      refine lv_goto (tgt := 197) hx hb dX12_townLine_19 (by decide) ?_
      have hP : va_P g.1 vwCl (List.flatten [bMo g o a th hi ac tp (-1) en at2_7 fl2_8 de iD iO tU fm2_9 fk fa fc ft ff fb fi]) H := hP
      have hD : va_D A (List.flatten [bMo g o a th hi ac tp (-1) en at2_7 fl2_8 de iD iO tU fm2_9 fk fa fc ft ff fb fi]) := hD
      exact mret_v hx hb hr hlocks hS (Nat.le_of_ble_eq_true rfl) (Nat.le_of_ble_eq_true rfl) dX12_townLine_197 (at2_7, fl2_8, fm2_9) rfl (show (rM fm2_9) ∧ (0 ≤ at2_7.toInt ∧ at2_7.toInt ≤ en.toInt + 7 - de.toInt) ∧ (tA.toInt ≤ at2_7.toInt) ∧ ((fm2_9 0).toInt = (fm 0).toInt) ∧ ((-1) = fl2_8 ∧ zTO (zTLine ft en.toInt (fm 3).toInt (fm 4).toInt (zbg ft en.toInt tA.toInt)) (zbg ft en.toInt at2_7.toInt) (fm 3).toInt (fm2_9 3).toInt (fm 4).toInt (fm2_9 4).toInt ∨ 0 ≤ fl2_8.toInt ∧ zTLine ft en.toInt (fm 3).toInt (fm 4).toInt (zbg ft en.toInt tA.toInt) (.bad fl2_8.toInt)) from ⟨(by first | assumption | omega | exact Or.inl (by decide) | exact Or.inr (by omega) | decide), (by first | assumption | omega | exact Or.inl (by decide) | exact Or.inr (by omega) | decide), (by first | assumption | omega | exact Or.inl (by decide) | exact Or.inr (by omega) | decide), (by first | assumption | omega | exact Or.inl (by decide) | exact Or.inr (by omega) | decide), (Or.inr ⟨(by omega), zTL_k (k := 0) (by decide) (zBy (show _ = zbg ft en.toInt tA.toInt from hq2_2) hq5_k) (zTP_b (show _ = zbg ft en.toInt tA.toInt from hq2_2) hq10_km)⟩)⟩) hP hD
  · skip
    refine lv_if_eq (tgt := 22) hx hb dX12_townLine_11 (by decide) (fun _ => ?_) (fun c11 => absurd (by decide) c11)
    refine lv_aload_n hx hb dX12_townLine_22 rfl (lv_at hl 1 rfl) ?_
    refine va_ldcS (q := g.2 72) hx hb hown (zra31 hT.2.1) dX12_townLine_23 ?_
    refine mcallV' (g := g) (q0 := 0) (ci := 10) (As := [.ref (g.2 72)]) (rest := []) St hK hT hA hP hD hS hl.1 [0] [] rfl rfl rfl (m_hasF l g o a th hi ac tp en at2_3 (-1) de iD iO tU fm fk fa fc ft ff fb fi (g.2 72) 31 zqa31 hen hq5_0 hde rfl zla31 zna31 (zlitB zla31)) (cwV 1 hts (zgL (zl4 k899 k900 k901 k839) k889) rfl rfl rfl (by decide +kernel) ⟨Nat.le_of_ble_eq_true rfl, Nat.le_of_ble_eq_true rfl⟩) rfl rfl rfl rfl (Nat.le_of_ble_eq_true rfl) dX12_townLine_25 ⟨(Nat.le_of_ble_eq_true rfl), (Nat.le_of_ble_eq_true rfl)⟩ (fun u_ H locs hq14 hP hD hS => ?_)
    obtain ⟨at2_12, r_13⟩ := u_
    replace hq14 : (0 ≤ at2_12.toInt ∧ at2_12.toInt ≤ en.toInt + 7 - de.toInt) ∧ (at2_3.toInt ≤ at2_12.toInt) ∧ (r_13 = 1 ∧ zisW ft en.toInt (zbg ft en.toInt at2_3.toInt) zqa31.2.2.2 ∧ at2_12.toInt = znx ft en.toInt (zbg ft en.toInt at2_3.toInt) ∧ at2_3.toInt < at2_12.toInt ∧ at2_12.toInt ≤ en.toInt ∨ r_13 = 0 ∧ ¬ zisW ft en.toInt (zbg ft en.toInt at2_3.toInt) zqa31.2.2.2 ∧ at2_12.toInt = zbg ft en.toInt at2_3.toInt) := hq14
    have hP : va_P g.1 vwCl (List.flatten [bMo g o a th hi ac tp (-1) en at2_12 (-1) de iD iO tU fm fk fa fc ft ff fb fi]) H := hP
    have hD : va_D A (List.flatten [bMo g o a th hi ac tp (-1) en at2_12 (-1) de iD iO tU fm fk fa fc ft ff fb fi]) := hD
    refine W.widen (k := 0) (n := 0) (Nat.le_of_ble_eq_true rfl) (Nat.le_of_ble_eq_true rfl) ?_
    refine W.eq (g2 := F0 m 28 ls [.int r_13]) rfl ?_
    obtain ⟨hq14_0, hq14_1, hq14_2⟩ := hq14
    rcases hq14_2 with ⟨rfl, hq14_k, hq14_km⟩ | ⟨rfl, hq14_k, hq14_km⟩
    · skip
      refine lv_if_eq (tgt := 38) hx hb dX12_townLine_28 (by decide) (fun c15 => absurd c15 (by decide)) (fun _ => ?_)
      refine lv_aload_n hx hb dX12_townLine_31 rfl (lv_at hl 1 rfl) ?_
      refine mcallV' (g := g) (q0 := 0) (ci := 10) (As := []) (rest := []) St hK hT hA hP hD hS hl.1 [0] [] rfl rfl rfl (m_trustsLineF l g o a th hi ac tp en at2_12 de iD iO tU fm fk fa fc ft ff fb fi rfm hen hq14_0 hde) (cwV 0 hts (zgL (zl4 k922 k923 k924 k839) k913) rfl rfl rfl (by decide +kernel) ⟨Nat.le_of_ble_eq_true rfl, Nat.le_of_ble_eq_true rfl⟩) rfl rfl rfl rfl (Nat.le_of_ble_eq_true rfl) dX12_townLine_32 ⟨(Nat.le_of_ble_eq_true rfl), (Nat.le_of_ble_eq_true rfl)⟩ (fun u_ H locs hq19 hP hD hS => ?_)
      obtain ⟨at2_16, fl2_17, fm2_18⟩ := u_
      replace hq19 : ((fm2_18 0).toInt = (fm 0).toInt ∧ (fm2_18 3).toInt = (fm 3).toInt ∧ (fm2_18 4).toInt = (fm 4).toInt) ∧ (rM fm2_18) ∧ (0 ≤ at2_16.toInt ∧ at2_16.toInt ≤ en.toInt + 7 - de.toInt) ∧ (at2_12.toInt ≤ at2_16.toInt) ∧ ((fm2_18 0).toInt = (fm 0).toInt) ∧ ((-1) = fl2_17 ∧ zTO (zKtr ft en.toInt (fm 3).toInt (zbg ft en.toInt at2_12.toInt)) (zbg ft en.toInt at2_16.toInt) (fm 3).toInt (fm2_18 3).toInt (fm 4).toInt (fm2_18 4).toInt ∨ 0 ≤ fl2_17.toInt ∧ zKtr ft en.toInt (fm 3).toInt (zbg ft en.toInt at2_12.toInt) (.bad fl2_17.toInt)) := hq19
      have hP : va_P g.1 vwCl (List.flatten [bMo g o a th hi ac tp (-1) en at2_16 fl2_17 de iD iO tU fm2_18 fk fa fc ft ff fb fi]) H := hP
      have hD : va_D A (List.flatten [bMo g o a th hi ac tp (-1) en at2_16 fl2_17 de iD iO tU fm2_18 fk fa fc ft ff fb fi]) := hD
      refine W.widen (k := 0) (n := 0) (Nat.le_of_ble_eq_true rfl) (Nat.le_of_ble_eq_true rfl) ?_
      refine W.eq (g2 := F0 m 35 ls []) rfl ?_
      obtain ⟨hq19_0, rfm2_18, hq19_2, hq19_3, hq19_4, hq19_5⟩ := hq19
      rcases hq19_5 with ⟨rfl, hq19_k⟩ | ⟨hq19_k, hq19_km⟩
      · skip
        refine lv_goto (tgt := 197) hx hb dX12_townLine_35 (by decide) ?_
        have hP : va_P g.1 vwCl (List.flatten [bMo g o a th hi ac tp (-1) en at2_16 (-1) de iD iO tU fm2_18 fk fa fc ft ff fb fi]) H := hP
        have hD : va_D A (List.flatten [bMo g o a th hi ac tp (-1) en at2_16 (-1) de iD iO tU fm2_18 fk fa fc ft ff fb fi]) := hD
        exact mret_v hx hb hr hlocks hS (Nat.le_of_ble_eq_true rfl) (Nat.le_of_ble_eq_true rfl) dX12_townLine_197 (at2_16, -1, fm2_18) rfl (show (rM fm2_18) ∧ (0 ≤ at2_16.toInt ∧ at2_16.toInt ≤ en.toInt + 7 - de.toInt) ∧ (tA.toInt ≤ at2_16.toInt) ∧ ((fm2_18 0).toInt = (fm 0).toInt) ∧ ((-1) = (-1) ∧ zTO (zTLine ft en.toInt (fm 3).toInt (fm 4).toInt (zbg ft en.toInt tA.toInt)) (zbg ft en.toInt at2_16.toInt) (fm 3).toInt (fm2_18 3).toInt (fm 4).toInt (fm2_18 4).toInt ∨ 0 ≤ ((-1) : Int32).toInt ∧ zTLine ft en.toInt (fm 3).toInt (fm 4).toInt (zbg ft en.toInt tA.toInt) (.bad ((-1) : Int32).toInt)) from ⟨(by first | assumption | omega | exact Or.inl (by decide) | exact Or.inr (by omega) | decide), (by first | assumption | omega | exact Or.inl (by decide) | exact Or.inr (by omega) | decide), (by first | assumption | omega | exact Or.inl (by decide) | exact Or.inr (by omega) | decide), (by first | assumption | omega | exact Or.inl (by decide) | exact Or.inr (by omega) | decide), (Or.inl ⟨rfl, zTO_i hq19_k (fun _ h9 => zTL_mM 0 (by decide) (zBy (zBe (show _ = zbg ft en.toInt tA.toInt from hq2_2) hq5_km) hq14_k) (zBx (zBe (show _ = zbg ft en.toInt tA.toInt from hq2_2) hq5_km) hq14_km.1) h9)⟩)⟩) hP hD
      · skip
        refine lv_goto (tgt := 197) hx hb dX12_townLine_35 (by decide) ?_
        have hP : va_P g.1 vwCl (List.flatten [bMo g o a th hi ac tp (-1) en at2_16 fl2_17 de iD iO tU fm2_18 fk fa fc ft ff fb fi]) H := hP
        have hD : va_D A (List.flatten [bMo g o a th hi ac tp (-1) en at2_16 fl2_17 de iD iO tU fm2_18 fk fa fc ft ff fb fi]) := hD
        exact mret_v hx hb hr hlocks hS (Nat.le_of_ble_eq_true rfl) (Nat.le_of_ble_eq_true rfl) dX12_townLine_197 (at2_16, fl2_17, fm2_18) rfl (show (rM fm2_18) ∧ (0 ≤ at2_16.toInt ∧ at2_16.toInt ≤ en.toInt + 7 - de.toInt) ∧ (tA.toInt ≤ at2_16.toInt) ∧ ((fm2_18 0).toInt = (fm 0).toInt) ∧ ((-1) = fl2_17 ∧ zTO (zTLine ft en.toInt (fm 3).toInt (fm 4).toInt (zbg ft en.toInt tA.toInt)) (zbg ft en.toInt at2_16.toInt) (fm 3).toInt (fm2_18 3).toInt (fm 4).toInt (fm2_18 4).toInt ∨ 0 ≤ fl2_17.toInt ∧ zTLine ft en.toInt (fm 3).toInt (fm 4).toInt (zbg ft en.toInt tA.toInt) (.bad fl2_17.toInt)) from ⟨(by first | assumption | omega | exact Or.inl (by decide) | exact Or.inr (by omega) | decide), (by first | assumption | omega | exact Or.inl (by decide) | exact Or.inr (by omega) | decide), (by first | assumption | omega | exact Or.inl (by decide) | exact Or.inr (by omega) | decide), (by first | assumption | omega | exact Or.inl (by decide) | exact Or.inr (by omega) | decide), (Or.inr ⟨(by omega), zTL_mM 0 (by decide) (zBy (zBe (show _ = zbg ft en.toInt tA.toInt from hq2_2) hq5_km) hq14_k) (zBx (zBe (show _ = zbg ft en.toInt tA.toInt from hq2_2) hq5_km) hq14_km.1) hq19_km⟩)⟩) hP hD
    · skip
      refine lv_if_eq (tgt := 38) hx hb dX12_townLine_28 (by decide) (fun _ => ?_) (fun c20 => absurd (by decide) c20)
      refine lv_aload_n hx hb dX12_townLine_38 rfl (lv_at hl 1 rfl) ?_
      refine va_ldcS (q := g.2 74) hx hb hown (zra32 hT.2.1) dX12_townLine_39 ?_
      refine mcallV' (g := g) (q0 := 0) (ci := 10) (As := [.ref (g.2 74)]) (rest := []) St hK hT hA hP hD hS hl.1 [0] [] rfl rfl rfl (m_hasF l g o a th hi ac tp en at2_12 (-1) de iD iO tU fm fk fa fc ft ff fb fi (g.2 74) 32 zqa32 hen hq14_0 hde rfl zla32 zna32 (zlitB zla32)) (cwV 1 hts (zgL (zl4 k899 k900 k901 k839) k889) rfl rfl rfl (by decide +kernel) ⟨Nat.le_of_ble_eq_true rfl, Nat.le_of_ble_eq_true rfl⟩) rfl rfl rfl rfl (Nat.le_of_ble_eq_true rfl) dX12_townLine_41 ⟨(Nat.le_of_ble_eq_true rfl), (Nat.le_of_ble_eq_true rfl)⟩ (fun u_ H locs hq23 hP hD hS => ?_)
      obtain ⟨at2_21, r_22⟩ := u_
      replace hq23 : (0 ≤ at2_21.toInt ∧ at2_21.toInt ≤ en.toInt + 7 - de.toInt) ∧ (at2_12.toInt ≤ at2_21.toInt) ∧ (r_22 = 1 ∧ zisW ft en.toInt (zbg ft en.toInt at2_12.toInt) zqa32.2.2.2 ∧ at2_21.toInt = znx ft en.toInt (zbg ft en.toInt at2_12.toInt) ∧ at2_12.toInt < at2_21.toInt ∧ at2_21.toInt ≤ en.toInt ∨ r_22 = 0 ∧ ¬ zisW ft en.toInt (zbg ft en.toInt at2_12.toInt) zqa32.2.2.2 ∧ at2_21.toInt = zbg ft en.toInt at2_12.toInt) := hq23
      have hP : va_P g.1 vwCl (List.flatten [bMo g o a th hi ac tp (-1) en at2_21 (-1) de iD iO tU fm fk fa fc ft ff fb fi]) H := hP
      have hD : va_D A (List.flatten [bMo g o a th hi ac tp (-1) en at2_21 (-1) de iD iO tU fm fk fa fc ft ff fb fi]) := hD
      refine W.widen (k := 0) (n := 0) (Nat.le_of_ble_eq_true rfl) (Nat.le_of_ble_eq_true rfl) ?_
      refine W.eq (g2 := F0 m 44 ls [.int r_22]) rfl ?_
      obtain ⟨hq23_0, hq23_1, hq23_2⟩ := hq23
      rcases hq23_2 with ⟨rfl, hq23_k, hq23_km⟩ | ⟨rfl, hq23_k, hq23_km⟩
      · skip
        refine lv_if_eq (tgt := 55) hx hb dX12_townLine_44 (by decide) (fun c24 => absurd c24 (by decide)) (fun _ => ?_)
        refine lv_aload_n hx hb dX12_townLine_47 rfl (lv_at hl 1 rfl) ?_
        refine lv_iload_n hx hb dX12_townLine_48 rfl (lv_at hl 0 rfl) ?_
        refine mcallV' (g := g) (q0 := 0) (ci := 10) (As := [.int at2_1]) (rest := []) St hK hT hA hP hD hS hl.1 [0] [] rfl rfl rfl (m_workLineF l g o a th hi ac tp en at2_21 de iD iO tU fm fk fa fc ft ff fb fi at2_1 rfm hen hq23_0 hde (by first | assumption | omega | decide | exact Or.inl (by decide) | exact Or.inr (by decide)) (zBat (show _ = zbg ft en.toInt tA.toInt from hq2_2) (zBx (zBe (zBe (show _ = zbg ft en.toInt tA.toInt from hq2_2) hq5_km) hq14_km) hq23_km.1))) (cwV 1 hts (zgL (zl4 k925 k926 k927 k839) k917) rfl rfl rfl (by decide +kernel) ⟨Nat.le_of_ble_eq_true rfl, Nat.le_of_ble_eq_true rfl⟩) rfl rfl rfl rfl (Nat.le_of_ble_eq_true rfl) dX12_townLine_49 ⟨(Nat.le_of_ble_eq_true rfl), (Nat.le_of_ble_eq_true rfl)⟩ (fun u_ H locs hq28 hP hD hS => ?_)
        obtain ⟨at2_25, fl2_26, fm2_27⟩ := u_
        replace hq28 : (rM fm2_27) ∧ (0 ≤ at2_25.toInt ∧ at2_25.toInt ≤ en.toInt + 7 - de.toInt) ∧ (at2_21.toInt ≤ at2_25.toInt) ∧ ((fm2_27 0).toInt = (fm 0).toInt) ∧ ((-1) = fl2_26 ∧ zTO (zTWork ft en.toInt (fm 4).toInt at2_1.toInt) (zbg ft en.toInt at2_25.toInt) (fm 3).toInt (fm2_27 3).toInt (fm 4).toInt (fm2_27 4).toInt ∨ 0 ≤ fl2_26.toInt ∧ zTWork ft en.toInt (fm 4).toInt at2_1.toInt (.bad fl2_26.toInt)) := hq28
        have hP : va_P g.1 vwCl (List.flatten [bMo g o a th hi ac tp (-1) en at2_25 fl2_26 de iD iO tU fm2_27 fk fa fc ft ff fb fi]) H := hP
        have hD : va_D A (List.flatten [bMo g o a th hi ac tp (-1) en at2_25 fl2_26 de iD iO tU fm2_27 fk fa fc ft ff fb fi]) := hD
        refine W.widen (k := 0) (n := 0) (Nat.le_of_ble_eq_true rfl) (Nat.le_of_ble_eq_true rfl) ?_
        refine W.eq (g2 := F0 m 52 ls []) rfl ?_
        obtain ⟨rfm2_27, hq28_1, hq28_2, hq28_3, hq28_4⟩ := hq28
        rcases hq28_4 with ⟨rfl, hq28_k⟩ | ⟨hq28_k, hq28_km⟩
        · skip
          refine lv_goto (tgt := 197) hx hb dX12_townLine_52 (by decide) ?_
          have hP : va_P g.1 vwCl (List.flatten [bMo g o a th hi ac tp (-1) en at2_25 (-1) de iD iO tU fm2_27 fk fa fc ft ff fb fi]) H := hP
          have hD : va_D A (List.flatten [bMo g o a th hi ac tp (-1) en at2_25 (-1) de iD iO tU fm2_27 fk fa fc ft ff fb fi]) := hD
          exact mret_v hx hb hr hlocks hS (Nat.le_of_ble_eq_true rfl) (Nat.le_of_ble_eq_true rfl) dX12_townLine_197 (at2_25, -1, fm2_27) rfl (show (rM fm2_27) ∧ (0 ≤ at2_25.toInt ∧ at2_25.toInt ≤ en.toInt + 7 - de.toInt) ∧ (tA.toInt ≤ at2_25.toInt) ∧ ((fm2_27 0).toInt = (fm 0).toInt) ∧ ((-1) = (-1) ∧ zTO (zTLine ft en.toInt (fm 3).toInt (fm 4).toInt (zbg ft en.toInt tA.toInt)) (zbg ft en.toInt at2_25.toInt) (fm 3).toInt (fm2_27 3).toInt (fm 4).toInt (fm2_27 4).toInt ∨ 0 ≤ ((-1) : Int32).toInt ∧ zTLine ft en.toInt (fm 3).toInt (fm 4).toInt (zbg ft en.toInt tA.toInt) (.bad ((-1) : Int32).toInt)) from ⟨(by first | assumption | omega | exact Or.inl (by decide) | exact Or.inr (by omega) | decide), (by first | assumption | omega | exact Or.inl (by decide) | exact Or.inr (by omega) | decide), (by first | assumption | omega | exact Or.inl (by decide) | exact Or.inr (by omega) | decide), (by first | assumption | omega | exact Or.inl (by decide) | exact Or.inr (by omega) | decide), (Or.inl ⟨rfl, zTO_i hq28_k (fun _ h9 => zTL_k (k := 1) (by decide) (zBy (zBe (zBe (show _ = zbg ft en.toInt tA.toInt from hq2_2) hq5_km) hq14_km) hq23_k) (zTW_b (show _ = zbg ft en.toInt tA.toInt from hq2_2) h9))⟩)⟩) hP hD
        · skip
          refine lv_goto (tgt := 197) hx hb dX12_townLine_52 (by decide) ?_
          have hP : va_P g.1 vwCl (List.flatten [bMo g o a th hi ac tp (-1) en at2_25 fl2_26 de iD iO tU fm2_27 fk fa fc ft ff fb fi]) H := hP
          have hD : va_D A (List.flatten [bMo g o a th hi ac tp (-1) en at2_25 fl2_26 de iD iO tU fm2_27 fk fa fc ft ff fb fi]) := hD
          exact mret_v hx hb hr hlocks hS (Nat.le_of_ble_eq_true rfl) (Nat.le_of_ble_eq_true rfl) dX12_townLine_197 (at2_25, fl2_26, fm2_27) rfl (show (rM fm2_27) ∧ (0 ≤ at2_25.toInt ∧ at2_25.toInt ≤ en.toInt + 7 - de.toInt) ∧ (tA.toInt ≤ at2_25.toInt) ∧ ((fm2_27 0).toInt = (fm 0).toInt) ∧ ((-1) = fl2_26 ∧ zTO (zTLine ft en.toInt (fm 3).toInt (fm 4).toInt (zbg ft en.toInt tA.toInt)) (zbg ft en.toInt at2_25.toInt) (fm 3).toInt (fm2_27 3).toInt (fm 4).toInt (fm2_27 4).toInt ∨ 0 ≤ fl2_26.toInt ∧ zTLine ft en.toInt (fm 3).toInt (fm 4).toInt (zbg ft en.toInt tA.toInt) (.bad fl2_26.toInt)) from ⟨(by first | assumption | omega | exact Or.inl (by decide) | exact Or.inr (by omega) | decide), (by first | assumption | omega | exact Or.inl (by decide) | exact Or.inr (by omega) | decide), (by first | assumption | omega | exact Or.inl (by decide) | exact Or.inr (by omega) | decide), (by first | assumption | omega | exact Or.inl (by decide) | exact Or.inr (by omega) | decide), (Or.inr ⟨(by omega), zTL_k (k := 1) (by decide) (zBy (zBe (zBe (show _ = zbg ft en.toInt tA.toInt from hq2_2) hq5_km) hq14_km) hq23_k) (zTW_b (show _ = zbg ft en.toInt tA.toInt from hq2_2) hq28_km)⟩)⟩) hP hD
      · skip
        refine lv_if_eq (tgt := 55) hx hb dX12_townLine_44 (by decide) (fun _ => ?_) (fun c29 => absurd (by decide) c29)
        refine lv_aload_n hx hb dX12_townLine_55 rfl (lv_at hl 1 rfl) ?_
        refine va_ldcS (q := g.2 76) hx hb hown (zra33 hT.2.1) dX12_townLine_56 ?_
        refine mcallV' (g := g) (q0 := 0) (ci := 10) (As := [.ref (g.2 76)]) (rest := []) St hK hT hA hP hD hS hl.1 [0] [] rfl rfl rfl (m_hasF l g o a th hi ac tp en at2_21 (-1) de iD iO tU fm fk fa fc ft ff fb fi (g.2 76) 33 zqa33 hen hq23_0 hde rfl zla33 zna33 (zlitB zla33)) (cwV 1 hts (zgL (zl4 k899 k900 k901 k839) k889) rfl rfl rfl (by decide +kernel) ⟨Nat.le_of_ble_eq_true rfl, Nat.le_of_ble_eq_true rfl⟩) rfl rfl rfl rfl (Nat.le_of_ble_eq_true rfl) dX12_townLine_58 ⟨(Nat.le_of_ble_eq_true rfl), (Nat.le_of_ble_eq_true rfl)⟩ (fun u_ H locs hq32 hP hD hS => ?_)
        obtain ⟨at2_30, r_31⟩ := u_
        replace hq32 : (0 ≤ at2_30.toInt ∧ at2_30.toInt ≤ en.toInt + 7 - de.toInt) ∧ (at2_21.toInt ≤ at2_30.toInt) ∧ (r_31 = 1 ∧ zisW ft en.toInt (zbg ft en.toInt at2_21.toInt) zqa33.2.2.2 ∧ at2_30.toInt = znx ft en.toInt (zbg ft en.toInt at2_21.toInt) ∧ at2_21.toInt < at2_30.toInt ∧ at2_30.toInt ≤ en.toInt ∨ r_31 = 0 ∧ ¬ zisW ft en.toInt (zbg ft en.toInt at2_21.toInt) zqa33.2.2.2 ∧ at2_30.toInt = zbg ft en.toInt at2_21.toInt) := hq32
        have hP : va_P g.1 vwCl (List.flatten [bMo g o a th hi ac tp (-1) en at2_30 (-1) de iD iO tU fm fk fa fc ft ff fb fi]) H := hP
        have hD : va_D A (List.flatten [bMo g o a th hi ac tp (-1) en at2_30 (-1) de iD iO tU fm fk fa fc ft ff fb fi]) := hD
        refine W.widen (k := 0) (n := 0) (Nat.le_of_ble_eq_true rfl) (Nat.le_of_ble_eq_true rfl) ?_
        refine W.eq (g2 := F0 m 61 ls [.int r_31]) rfl ?_
        obtain ⟨hq32_0, hq32_1, hq32_2⟩ := hq32
        rcases hq32_2 with ⟨rfl, hq32_k, hq32_km⟩ | ⟨rfl, hq32_k, hq32_km⟩
        · skip
          refine lv_if_eq (tgt := 76) hx hb dX12_townLine_61 (by decide) (fun c33 => absurd c33 (by decide)) (fun _ => ?_)
          refine lv_aload_n hx hb dX12_townLine_64 rfl (lv_at hl 1 rfl) ?_
          refine lv_iconst (v := 5) hx hb dX12_townLine_65 (by decide) ?_
          refine lv_iconst (v := 0) hx hb dX12_townLine_66 (by decide) ?_
          refine lv_sipush (v := 999) hx hb dX12_townLine_67 (by decide) ?_
          have hL0 : (0 : Int32).toInt = 0 := by decide
          have hL5 : (5 : Int32).toInt = 5 := by decide
          have hL999 : (999 : Int32).toInt = 999 := by decide
          refine mcallV' (g := g) (q0 := 0) (ci := 10) (As := [.int 5, .int 0, .int 999]) (rest := []) St hK hT hA hP hD hS hl.1 [0] [] rfl rfl rfl (m_tellsF l g o a th hi ac tp en at2_30 de iD iO tU fm fk fa fc ft ff fb fi 5 0 999 rfm hen hq32_0 hde (by first | assumption | omega | decide | exact Or.inl (by decide) | exact Or.inr (by decide))) (cwV 3 hts (zgL (zl4 k928 k929 k930 k839) k918) rfl rfl rfl (by decide +kernel) ⟨Nat.le_of_ble_eq_true rfl, Nat.le_of_ble_eq_true rfl⟩) rfl rfl rfl rfl (Nat.le_of_ble_eq_true rfl) dX12_townLine_70 ⟨(Nat.le_of_ble_eq_true rfl), (Nat.le_of_ble_eq_true rfl)⟩ (fun u_ H locs hq37 hP hD hS => ?_)
          obtain ⟨at2_34, fl2_35, fm2_36⟩ := u_
          replace hq37 : ((fm2_36 0).toInt = (fm 0).toInt ∧ (fm2_36 3).toInt = (fm 3).toInt ∧ (fm2_36 4).toInt = (fm 4).toInt) ∧ (rM fm2_36) ∧ (0 ≤ at2_34.toInt ∧ at2_34.toInt ≤ en.toInt + 7 - de.toInt) ∧ (at2_30.toInt ≤ at2_34.toInt) ∧ ((-1) = fl2_35 ∧ (∃ v9, zNu ft en.toInt (zbg ft en.toInt at2_30.toInt) (0 : Int32).toInt (999 : Int32).toInt v9) ∧ at2_34.toInt = znx ft en.toInt (zbg ft en.toInt at2_30.toInt) ∨ fl2_35.toInt = zbg ft en.toInt at2_30.toInt ∧ ¬ ∃ v9, zNu ft en.toInt (zbg ft en.toInt at2_30.toInt) (0 : Int32).toInt (999 : Int32).toInt v9) := hq37
          have hP : va_P g.1 vwCl (List.flatten [bMo g o a th hi ac tp (-1) en at2_34 fl2_35 de iD iO tU fm2_36 fk fa fc ft ff fb fi]) H := hP
          have hD : va_D A (List.flatten [bMo g o a th hi ac tp (-1) en at2_34 fl2_35 de iD iO tU fm2_36 fk fa fc ft ff fb fi]) := hD
          refine W.widen (k := 0) (n := 0) (Nat.le_of_ble_eq_true rfl) (Nat.le_of_ble_eq_true rfl) ?_
          refine W.eq (g2 := F0 m 73 ls []) rfl ?_
          obtain ⟨hq37_0, rfm2_36, hq37_2, hq37_3, hq37_4⟩ := hq37
          rcases hq37_4 with ⟨rfl, hq37_k, hq37_km⟩ | ⟨hq37_k, hq37_km⟩
          · skip
            refine lv_goto (tgt := 197) hx hb dX12_townLine_73 (by decide) ?_
            have hP : va_P g.1 vwCl (List.flatten [bMo g o a th hi ac tp (-1) en at2_34 (-1) de iD iO tU fm2_36 fk fa fc ft ff fb fi]) H := hP
            have hD : va_D A (List.flatten [bMo g o a th hi ac tp (-1) en at2_34 (-1) de iD iO tU fm2_36 fk fa fc ft ff fb fi]) := hD
            exact mret_v hx hb hr hlocks hS (Nat.le_of_ble_eq_true rfl) (Nat.le_of_ble_eq_true rfl) dX12_townLine_197 (at2_34, -1, fm2_36) rfl (show (rM fm2_36) ∧ (0 ≤ at2_34.toInt ∧ at2_34.toInt ≤ en.toInt + 7 - de.toInt) ∧ (tA.toInt ≤ at2_34.toInt) ∧ ((fm2_36 0).toInt = (fm 0).toInt) ∧ ((-1) = (-1) ∧ zTO (zTLine ft en.toInt (fm 3).toInt (fm 4).toInt (zbg ft en.toInt tA.toInt)) (zbg ft en.toInt at2_34.toInt) (fm 3).toInt (fm2_36 3).toInt (fm 4).toInt (fm2_36 4).toInt ∨ 0 ≤ ((-1) : Int32).toInt ∧ zTLine ft en.toInt (fm 3).toInt (fm 4).toInt (zbg ft en.toInt tA.toInt) (.bad ((-1) : Int32).toInt)) from ⟨(by first | assumption | omega | exact Or.inl (by decide) | exact Or.inr (by omega) | decide), (by first | assumption | omega | exact Or.inl (by decide) | exact Or.inr (by omega) | decide), (by first | assumption | omega | exact Or.inl (by decide) | exact Or.inr (by omega) | decide), (by first | assumption | omega | exact Or.inl (by decide) | exact Or.inr (by omega) | decide), (Or.inl ⟨rfl, zTO_i (zTO_o (lo := 0) (hi := 999) (k := 4) (by decide) (by decide) hq37_k hq37_km (by decide) (by decide) (by omega) (by omega)) (fun _ h9 => zTL_mM 2 (by decide) (zBy (zBe (zBe (zBe (show _ = zbg ft en.toInt tA.toInt from hq2_2) hq5_km) hq14_km) hq23_km) hq32_k) (zBx (zBe (zBe (zBe (show _ = zbg ft en.toInt tA.toInt from hq2_2) hq5_km) hq14_km) hq23_km) hq32_km.1) (show zTX _ _ _ 4 _ _ from h9))⟩)⟩) hP hD
          · skip
            have w38 : 0 ≤ fl2_35.toInt := zB0 hq37_k
            refine lv_goto (tgt := 197) hx hb dX12_townLine_73 (by decide) ?_
            have hP : va_P g.1 vwCl (List.flatten [bMo g o a th hi ac tp (-1) en at2_34 fl2_35 de iD iO tU fm2_36 fk fa fc ft ff fb fi]) H := hP
            have hD : va_D A (List.flatten [bMo g o a th hi ac tp (-1) en at2_34 fl2_35 de iD iO tU fm2_36 fk fa fc ft ff fb fi]) := hD
            exact mret_v hx hb hr hlocks hS (Nat.le_of_ble_eq_true rfl) (Nat.le_of_ble_eq_true rfl) dX12_townLine_197 (at2_34, fl2_35, fm2_36) rfl (show (rM fm2_36) ∧ (0 ≤ at2_34.toInt ∧ at2_34.toInt ≤ en.toInt + 7 - de.toInt) ∧ (tA.toInt ≤ at2_34.toInt) ∧ ((fm2_36 0).toInt = (fm 0).toInt) ∧ ((-1) = fl2_35 ∧ zTO (zTLine ft en.toInt (fm 3).toInt (fm 4).toInt (zbg ft en.toInt tA.toInt)) (zbg ft en.toInt at2_34.toInt) (fm 3).toInt (fm2_36 3).toInt (fm 4).toInt (fm2_36 4).toInt ∨ 0 ≤ fl2_35.toInt ∧ zTLine ft en.toInt (fm 3).toInt (fm 4).toInt (zbg ft en.toInt tA.toInt) (.bad fl2_35.toInt)) from ⟨(by first | assumption | omega | exact Or.inl (by decide) | exact Or.inr (by omega) | decide), (by first | assumption | omega | exact Or.inl (by decide) | exact Or.inr (by omega) | decide), (by first | assumption | omega | exact Or.inl (by decide) | exact Or.inr (by omega) | decide), (by first | assumption | omega | exact Or.inl (by decide) | exact Or.inr (by omega) | decide), (Or.inr ⟨(by omega), zTL_mM 2 (by decide) (zBy (zBe (zBe (zBe (show _ = zbg ft en.toInt tA.toInt from hq2_2) hq5_km) hq14_km) hq23_km) hq32_k) (zBx (zBe (zBe (zBe (show _ = zbg ft en.toInt tA.toInt from hq2_2) hq5_km) hq14_km) hq23_km) hq32_km.1) (show zTX _ _ _ 4 _ _ from (show zNN _ _ _ _ _ _ _ from zNN_bM (by decide) (by decide) hq37_km hq37_k))⟩)⟩) hP hD
        · skip
          refine lv_if_eq (tgt := 76) hx hb dX12_townLine_61 (by decide) (fun _ => ?_) (fun c39 => absurd (by decide) c39)
          refine lv_aload_n hx hb dX12_townLine_76 rfl (lv_at hl 1 rfl) ?_
          refine va_ldcS (q := g.2 78) hx hb hown (zra34 hT.2.1) dX12_townLine_77 ?_
          refine mcallV' (g := g) (q0 := 0) (ci := 10) (As := [.ref (g.2 78)]) (rest := []) St hK hT hA hP hD hS hl.1 [0] [] rfl rfl rfl (m_hasF l g o a th hi ac tp en at2_30 (-1) de iD iO tU fm fk fa fc ft ff fb fi (g.2 78) 34 zqa34 hen hq32_0 hde rfl zla34 zna34 (zlitB zla34)) (cwV 1 hts (zgL (zl4 k899 k900 k901 k839) k889) rfl rfl rfl (by decide +kernel) ⟨Nat.le_of_ble_eq_true rfl, Nat.le_of_ble_eq_true rfl⟩) rfl rfl rfl rfl (Nat.le_of_ble_eq_true rfl) dX12_townLine_79 ⟨(Nat.le_of_ble_eq_true rfl), (Nat.le_of_ble_eq_true rfl)⟩ (fun u_ H locs hq42 hP hD hS => ?_)
          obtain ⟨at2_40, r_41⟩ := u_
          replace hq42 : (0 ≤ at2_40.toInt ∧ at2_40.toInt ≤ en.toInt + 7 - de.toInt) ∧ (at2_30.toInt ≤ at2_40.toInt) ∧ (r_41 = 1 ∧ zisW ft en.toInt (zbg ft en.toInt at2_30.toInt) zqa34.2.2.2 ∧ at2_40.toInt = znx ft en.toInt (zbg ft en.toInt at2_30.toInt) ∧ at2_30.toInt < at2_40.toInt ∧ at2_40.toInt ≤ en.toInt ∨ r_41 = 0 ∧ ¬ zisW ft en.toInt (zbg ft en.toInt at2_30.toInt) zqa34.2.2.2 ∧ at2_40.toInt = zbg ft en.toInt at2_30.toInt) := hq42
          have hP : va_P g.1 vwCl (List.flatten [bMo g o a th hi ac tp (-1) en at2_40 (-1) de iD iO tU fm fk fa fc ft ff fb fi]) H := hP
          have hD : va_D A (List.flatten [bMo g o a th hi ac tp (-1) en at2_40 (-1) de iD iO tU fm fk fa fc ft ff fb fi]) := hD
          refine W.widen (k := 0) (n := 0) (Nat.le_of_ble_eq_true rfl) (Nat.le_of_ble_eq_true rfl) ?_
          refine W.eq (g2 := F0 m 82 ls [.int r_41]) rfl ?_
          obtain ⟨hq42_0, hq42_1, hq42_2⟩ := hq42
          rcases hq42_2 with ⟨rfl, hq42_k, hq42_km⟩ | ⟨rfl, hq42_k, hq42_km⟩
          · skip
            refine lv_if_eq (tgt := 97) hx hb dX12_townLine_82 (by decide) (fun c43 => absurd c43 (by decide)) (fun _ => ?_)
            refine lv_aload_n hx hb dX12_townLine_85 rfl (lv_at hl 1 rfl) ?_
            refine lv_bipush (v := 6) hx hb dX12_townLine_86 (by decide) ?_
            refine lv_iconst (v := 1) hx hb dX12_townLine_88 (by decide) ?_
            refine lv_bipush (v := 30) hx hb dX12_townLine_89 (by decide) ?_
            have hL1 : (1 : Int32).toInt = 1 := by decide
            have hL6 : (6 : Int32).toInt = 6 := by decide
            have hL30 : (30 : Int32).toInt = 30 := by decide
            refine mcallV' (g := g) (q0 := 0) (ci := 10) (As := [.int 6, .int 1, .int 30]) (rest := []) St hK hT hA hP hD hS hl.1 [0] [] rfl rfl rfl (m_tellsF l g o a th hi ac tp en at2_40 de iD iO tU fm fk fa fc ft ff fb fi 6 1 30 rfm hen hq42_0 hde (by first | assumption | omega | decide | exact Or.inl (by decide) | exact Or.inr (by decide))) (cwV 3 hts (zgL (zl4 k928 k929 k930 k839) k918) rfl rfl rfl (by decide +kernel) ⟨Nat.le_of_ble_eq_true rfl, Nat.le_of_ble_eq_true rfl⟩) rfl rfl rfl rfl (Nat.le_of_ble_eq_true rfl) dX12_townLine_91 ⟨(Nat.le_of_ble_eq_true rfl), (Nat.le_of_ble_eq_true rfl)⟩ (fun u_ H locs hq47 hP hD hS => ?_)
            obtain ⟨at2_44, fl2_45, fm2_46⟩ := u_
            replace hq47 : ((fm2_46 0).toInt = (fm 0).toInt ∧ (fm2_46 3).toInt = (fm 3).toInt ∧ (fm2_46 4).toInt = (fm 4).toInt) ∧ (rM fm2_46) ∧ (0 ≤ at2_44.toInt ∧ at2_44.toInt ≤ en.toInt + 7 - de.toInt) ∧ (at2_40.toInt ≤ at2_44.toInt) ∧ ((-1) = fl2_45 ∧ (∃ v9, zNu ft en.toInt (zbg ft en.toInt at2_40.toInt) (1 : Int32).toInt (30 : Int32).toInt v9) ∧ at2_44.toInt = znx ft en.toInt (zbg ft en.toInt at2_40.toInt) ∨ fl2_45.toInt = zbg ft en.toInt at2_40.toInt ∧ ¬ ∃ v9, zNu ft en.toInt (zbg ft en.toInt at2_40.toInt) (1 : Int32).toInt (30 : Int32).toInt v9) := hq47
            have hP : va_P g.1 vwCl (List.flatten [bMo g o a th hi ac tp (-1) en at2_44 fl2_45 de iD iO tU fm2_46 fk fa fc ft ff fb fi]) H := hP
            have hD : va_D A (List.flatten [bMo g o a th hi ac tp (-1) en at2_44 fl2_45 de iD iO tU fm2_46 fk fa fc ft ff fb fi]) := hD
            refine W.widen (k := 0) (n := 0) (Nat.le_of_ble_eq_true rfl) (Nat.le_of_ble_eq_true rfl) ?_
            refine W.eq (g2 := F0 m 94 ls []) rfl ?_
            obtain ⟨hq47_0, rfm2_46, hq47_2, hq47_3, hq47_4⟩ := hq47
            rcases hq47_4 with ⟨rfl, hq47_k, hq47_km⟩ | ⟨hq47_k, hq47_km⟩
            · skip
              refine lv_goto (tgt := 197) hx hb dX12_townLine_94 (by decide) ?_
              have hP : va_P g.1 vwCl (List.flatten [bMo g o a th hi ac tp (-1) en at2_44 (-1) de iD iO tU fm2_46 fk fa fc ft ff fb fi]) H := hP
              have hD : va_D A (List.flatten [bMo g o a th hi ac tp (-1) en at2_44 (-1) de iD iO tU fm2_46 fk fa fc ft ff fb fi]) := hD
              exact mret_v hx hb hr hlocks hS (Nat.le_of_ble_eq_true rfl) (Nat.le_of_ble_eq_true rfl) dX12_townLine_197 (at2_44, -1, fm2_46) rfl (show (rM fm2_46) ∧ (0 ≤ at2_44.toInt ∧ at2_44.toInt ≤ en.toInt + 7 - de.toInt) ∧ (tA.toInt ≤ at2_44.toInt) ∧ ((fm2_46 0).toInt = (fm 0).toInt) ∧ ((-1) = (-1) ∧ zTO (zTLine ft en.toInt (fm 3).toInt (fm 4).toInt (zbg ft en.toInt tA.toInt)) (zbg ft en.toInt at2_44.toInt) (fm 3).toInt (fm2_46 3).toInt (fm 4).toInt (fm2_46 4).toInt ∨ 0 ≤ ((-1) : Int32).toInt ∧ zTLine ft en.toInt (fm 3).toInt (fm 4).toInt (zbg ft en.toInt tA.toInt) (.bad ((-1) : Int32).toInt)) from ⟨(by first | assumption | omega | exact Or.inl (by decide) | exact Or.inr (by omega) | decide), (by first | assumption | omega | exact Or.inl (by decide) | exact Or.inr (by omega) | decide), (by first | assumption | omega | exact Or.inl (by decide) | exact Or.inr (by omega) | decide), (by first | assumption | omega | exact Or.inl (by decide) | exact Or.inr (by omega) | decide), (Or.inl ⟨rfl, zTO_i (zTO_o (lo := 1) (hi := 30) (k := 5) (by decide) (by decide) hq47_k hq47_km (by decide) (by decide) (by omega) (by omega)) (fun _ h9 => zTL_mM 3 (by decide) (zBy (zBe (zBe (zBe (zBe (show _ = zbg ft en.toInt tA.toInt from hq2_2) hq5_km) hq14_km) hq23_km) hq32_km) hq42_k) (zBx (zBe (zBe (zBe (zBe (show _ = zbg ft en.toInt tA.toInt from hq2_2) hq5_km) hq14_km) hq23_km) hq32_km) hq42_km.1) (show zTX _ _ _ 5 _ _ from h9))⟩)⟩) hP hD
            · skip
              have w48 : 0 ≤ fl2_45.toInt := zB0 hq47_k
              refine lv_goto (tgt := 197) hx hb dX12_townLine_94 (by decide) ?_
              have hP : va_P g.1 vwCl (List.flatten [bMo g o a th hi ac tp (-1) en at2_44 fl2_45 de iD iO tU fm2_46 fk fa fc ft ff fb fi]) H := hP
              have hD : va_D A (List.flatten [bMo g o a th hi ac tp (-1) en at2_44 fl2_45 de iD iO tU fm2_46 fk fa fc ft ff fb fi]) := hD
              exact mret_v hx hb hr hlocks hS (Nat.le_of_ble_eq_true rfl) (Nat.le_of_ble_eq_true rfl) dX12_townLine_197 (at2_44, fl2_45, fm2_46) rfl (show (rM fm2_46) ∧ (0 ≤ at2_44.toInt ∧ at2_44.toInt ≤ en.toInt + 7 - de.toInt) ∧ (tA.toInt ≤ at2_44.toInt) ∧ ((fm2_46 0).toInt = (fm 0).toInt) ∧ ((-1) = fl2_45 ∧ zTO (zTLine ft en.toInt (fm 3).toInt (fm 4).toInt (zbg ft en.toInt tA.toInt)) (zbg ft en.toInt at2_44.toInt) (fm 3).toInt (fm2_46 3).toInt (fm 4).toInt (fm2_46 4).toInt ∨ 0 ≤ fl2_45.toInt ∧ zTLine ft en.toInt (fm 3).toInt (fm 4).toInt (zbg ft en.toInt tA.toInt) (.bad fl2_45.toInt)) from ⟨(by first | assumption | omega | exact Or.inl (by decide) | exact Or.inr (by omega) | decide), (by first | assumption | omega | exact Or.inl (by decide) | exact Or.inr (by omega) | decide), (by first | assumption | omega | exact Or.inl (by decide) | exact Or.inr (by omega) | decide), (by first | assumption | omega | exact Or.inl (by decide) | exact Or.inr (by omega) | decide), (Or.inr ⟨(by omega), zTL_mM 3 (by decide) (zBy (zBe (zBe (zBe (zBe (show _ = zbg ft en.toInt tA.toInt from hq2_2) hq5_km) hq14_km) hq23_km) hq32_km) hq42_k) (zBx (zBe (zBe (zBe (zBe (show _ = zbg ft en.toInt tA.toInt from hq2_2) hq5_km) hq14_km) hq23_km) hq32_km) hq42_km.1) (show zTX _ _ _ 5 _ _ from (show zNN _ _ _ _ _ _ _ from zNN_bM (by decide) (by decide) hq47_km hq47_k))⟩)⟩) hP hD
          · skip
            refine lv_if_eq (tgt := 97) hx hb dX12_townLine_82 (by decide) (fun _ => ?_) (fun c49 => absurd (by decide) c49)
            refine lv_aload_n hx hb dX12_townLine_97 rfl (lv_at hl 1 rfl) ?_
            refine va_ldcS (q := g.2 80) hx hb hown (zra35 hT.2.1) dX12_townLine_98 ?_
            refine mcallV' (g := g) (q0 := 0) (ci := 10) (As := [.ref (g.2 80)]) (rest := []) St hK hT hA hP hD hS hl.1 [0] [] rfl rfl rfl (m_hasF l g o a th hi ac tp en at2_40 (-1) de iD iO tU fm fk fa fc ft ff fb fi (g.2 80) 35 zqa35 hen hq42_0 hde rfl zla35 zna35 (zlitB zla35)) (cwV 1 hts (zgL (zl4 k899 k900 k901 k839) k889) rfl rfl rfl (by decide +kernel) ⟨Nat.le_of_ble_eq_true rfl, Nat.le_of_ble_eq_true rfl⟩) rfl rfl rfl rfl (Nat.le_of_ble_eq_true rfl) dX12_townLine_100 ⟨(Nat.le_of_ble_eq_true rfl), (Nat.le_of_ble_eq_true rfl)⟩ (fun u_ H locs hq52 hP hD hS => ?_)
            obtain ⟨at2_50, r_51⟩ := u_
            replace hq52 : (0 ≤ at2_50.toInt ∧ at2_50.toInt ≤ en.toInt + 7 - de.toInt) ∧ (at2_40.toInt ≤ at2_50.toInt) ∧ (r_51 = 1 ∧ zisW ft en.toInt (zbg ft en.toInt at2_40.toInt) zqa35.2.2.2 ∧ at2_50.toInt = znx ft en.toInt (zbg ft en.toInt at2_40.toInt) ∧ at2_40.toInt < at2_50.toInt ∧ at2_50.toInt ≤ en.toInt ∨ r_51 = 0 ∧ ¬ zisW ft en.toInt (zbg ft en.toInt at2_40.toInt) zqa35.2.2.2 ∧ at2_50.toInt = zbg ft en.toInt at2_40.toInt) := hq52
            have hP : va_P g.1 vwCl (List.flatten [bMo g o a th hi ac tp (-1) en at2_50 (-1) de iD iO tU fm fk fa fc ft ff fb fi]) H := hP
            have hD : va_D A (List.flatten [bMo g o a th hi ac tp (-1) en at2_50 (-1) de iD iO tU fm fk fa fc ft ff fb fi]) := hD
            refine W.widen (k := 0) (n := 0) (Nat.le_of_ble_eq_true rfl) (Nat.le_of_ble_eq_true rfl) ?_
            refine W.eq (g2 := F0 m 103 ls [.int r_51]) rfl ?_
            obtain ⟨hq52_0, hq52_1, hq52_2⟩ := hq52
            rcases hq52_2 with ⟨rfl, hq52_k, hq52_km⟩ | ⟨rfl, hq52_k, hq52_km⟩
            · skip
              refine lv_if_eq (tgt := 118) hx hb dX12_townLine_103 (by decide) (fun c53 => absurd c53 (by decide)) (fun _ => ?_)
              refine lv_aload_n hx hb dX12_townLine_106 rfl (lv_at hl 1 rfl) ?_
              refine lv_bipush (v := 7) hx hb dX12_townLine_107 (by decide) ?_
              refine lv_iconst (v := 0) hx hb dX12_townLine_109 (by decide) ?_
              refine lv_bipush (v := 100) hx hb dX12_townLine_110 (by decide) ?_
              have hL0 : (0 : Int32).toInt = 0 := by decide
              have hL7 : (7 : Int32).toInt = 7 := by decide
              have hL100 : (100 : Int32).toInt = 100 := by decide
              refine mcallV' (g := g) (q0 := 0) (ci := 10) (As := [.int 7, .int 0, .int 100]) (rest := []) St hK hT hA hP hD hS hl.1 [0] [] rfl rfl rfl (m_tellsF l g o a th hi ac tp en at2_50 de iD iO tU fm fk fa fc ft ff fb fi 7 0 100 rfm hen hq52_0 hde (by first | assumption | omega | decide | exact Or.inl (by decide) | exact Or.inr (by decide))) (cwV 3 hts (zgL (zl4 k928 k929 k930 k839) k918) rfl rfl rfl (by decide +kernel) ⟨Nat.le_of_ble_eq_true rfl, Nat.le_of_ble_eq_true rfl⟩) rfl rfl rfl rfl (Nat.le_of_ble_eq_true rfl) dX12_townLine_112 ⟨(Nat.le_of_ble_eq_true rfl), (Nat.le_of_ble_eq_true rfl)⟩ (fun u_ H locs hq57 hP hD hS => ?_)
              obtain ⟨at2_54, fl2_55, fm2_56⟩ := u_
              replace hq57 : ((fm2_56 0).toInt = (fm 0).toInt ∧ (fm2_56 3).toInt = (fm 3).toInt ∧ (fm2_56 4).toInt = (fm 4).toInt) ∧ (rM fm2_56) ∧ (0 ≤ at2_54.toInt ∧ at2_54.toInt ≤ en.toInt + 7 - de.toInt) ∧ (at2_50.toInt ≤ at2_54.toInt) ∧ ((-1) = fl2_55 ∧ (∃ v9, zNu ft en.toInt (zbg ft en.toInt at2_50.toInt) (0 : Int32).toInt (100 : Int32).toInt v9) ∧ at2_54.toInt = znx ft en.toInt (zbg ft en.toInt at2_50.toInt) ∨ fl2_55.toInt = zbg ft en.toInt at2_50.toInt ∧ ¬ ∃ v9, zNu ft en.toInt (zbg ft en.toInt at2_50.toInt) (0 : Int32).toInt (100 : Int32).toInt v9) := hq57
              have hP : va_P g.1 vwCl (List.flatten [bMo g o a th hi ac tp (-1) en at2_54 fl2_55 de iD iO tU fm2_56 fk fa fc ft ff fb fi]) H := hP
              have hD : va_D A (List.flatten [bMo g o a th hi ac tp (-1) en at2_54 fl2_55 de iD iO tU fm2_56 fk fa fc ft ff fb fi]) := hD
              refine W.widen (k := 0) (n := 0) (Nat.le_of_ble_eq_true rfl) (Nat.le_of_ble_eq_true rfl) ?_
              refine W.eq (g2 := F0 m 115 ls []) rfl ?_
              obtain ⟨hq57_0, rfm2_56, hq57_2, hq57_3, hq57_4⟩ := hq57
              rcases hq57_4 with ⟨rfl, hq57_k, hq57_km⟩ | ⟨hq57_k, hq57_km⟩
              · skip
                refine lv_goto (tgt := 197) hx hb dX12_townLine_115 (by decide) ?_
                have hP : va_P g.1 vwCl (List.flatten [bMo g o a th hi ac tp (-1) en at2_54 (-1) de iD iO tU fm2_56 fk fa fc ft ff fb fi]) H := hP
                have hD : va_D A (List.flatten [bMo g o a th hi ac tp (-1) en at2_54 (-1) de iD iO tU fm2_56 fk fa fc ft ff fb fi]) := hD
                exact mret_v hx hb hr hlocks hS (Nat.le_of_ble_eq_true rfl) (Nat.le_of_ble_eq_true rfl) dX12_townLine_197 (at2_54, -1, fm2_56) rfl (show (rM fm2_56) ∧ (0 ≤ at2_54.toInt ∧ at2_54.toInt ≤ en.toInt + 7 - de.toInt) ∧ (tA.toInt ≤ at2_54.toInt) ∧ ((fm2_56 0).toInt = (fm 0).toInt) ∧ ((-1) = (-1) ∧ zTO (zTLine ft en.toInt (fm 3).toInt (fm 4).toInt (zbg ft en.toInt tA.toInt)) (zbg ft en.toInt at2_54.toInt) (fm 3).toInt (fm2_56 3).toInt (fm 4).toInt (fm2_56 4).toInt ∨ 0 ≤ ((-1) : Int32).toInt ∧ zTLine ft en.toInt (fm 3).toInt (fm 4).toInt (zbg ft en.toInt tA.toInt) (.bad ((-1) : Int32).toInt)) from ⟨(by first | assumption | omega | exact Or.inl (by decide) | exact Or.inr (by omega) | decide), (by first | assumption | omega | exact Or.inl (by decide) | exact Or.inr (by omega) | decide), (by first | assumption | omega | exact Or.inl (by decide) | exact Or.inr (by omega) | decide), (by first | assumption | omega | exact Or.inl (by decide) | exact Or.inr (by omega) | decide), (Or.inl ⟨rfl, zTO_i (zTO_o (lo := 0) (hi := 100) (k := 6) (by decide) (by decide) hq57_k hq57_km (by decide) (by decide) (by omega) (by omega)) (fun _ h9 => zTL_mM 4 (by decide) (zBy (zBe (zBe (zBe (zBe (zBe (show _ = zbg ft en.toInt tA.toInt from hq2_2) hq5_km) hq14_km) hq23_km) hq32_km) hq42_km) hq52_k) (zBx (zBe (zBe (zBe (zBe (zBe (show _ = zbg ft en.toInt tA.toInt from hq2_2) hq5_km) hq14_km) hq23_km) hq32_km) hq42_km) hq52_km.1) (show zTX _ _ _ 6 _ _ from h9))⟩)⟩) hP hD
              · skip
                have w58 : 0 ≤ fl2_55.toInt := zB0 hq57_k
                refine lv_goto (tgt := 197) hx hb dX12_townLine_115 (by decide) ?_
                have hP : va_P g.1 vwCl (List.flatten [bMo g o a th hi ac tp (-1) en at2_54 fl2_55 de iD iO tU fm2_56 fk fa fc ft ff fb fi]) H := hP
                have hD : va_D A (List.flatten [bMo g o a th hi ac tp (-1) en at2_54 fl2_55 de iD iO tU fm2_56 fk fa fc ft ff fb fi]) := hD
                exact mret_v hx hb hr hlocks hS (Nat.le_of_ble_eq_true rfl) (Nat.le_of_ble_eq_true rfl) dX12_townLine_197 (at2_54, fl2_55, fm2_56) rfl (show (rM fm2_56) ∧ (0 ≤ at2_54.toInt ∧ at2_54.toInt ≤ en.toInt + 7 - de.toInt) ∧ (tA.toInt ≤ at2_54.toInt) ∧ ((fm2_56 0).toInt = (fm 0).toInt) ∧ ((-1) = fl2_55 ∧ zTO (zTLine ft en.toInt (fm 3).toInt (fm 4).toInt (zbg ft en.toInt tA.toInt)) (zbg ft en.toInt at2_54.toInt) (fm 3).toInt (fm2_56 3).toInt (fm 4).toInt (fm2_56 4).toInt ∨ 0 ≤ fl2_55.toInt ∧ zTLine ft en.toInt (fm 3).toInt (fm 4).toInt (zbg ft en.toInt tA.toInt) (.bad fl2_55.toInt)) from ⟨(by first | assumption | omega | exact Or.inl (by decide) | exact Or.inr (by omega) | decide), (by first | assumption | omega | exact Or.inl (by decide) | exact Or.inr (by omega) | decide), (by first | assumption | omega | exact Or.inl (by decide) | exact Or.inr (by omega) | decide), (by first | assumption | omega | exact Or.inl (by decide) | exact Or.inr (by omega) | decide), (Or.inr ⟨(by omega), zTL_mM 4 (by decide) (zBy (zBe (zBe (zBe (zBe (zBe (show _ = zbg ft en.toInt tA.toInt from hq2_2) hq5_km) hq14_km) hq23_km) hq32_km) hq42_km) hq52_k) (zBx (zBe (zBe (zBe (zBe (zBe (show _ = zbg ft en.toInt tA.toInt from hq2_2) hq5_km) hq14_km) hq23_km) hq32_km) hq42_km) hq52_km.1) (show zTX _ _ _ 6 _ _ from (show zNN _ _ _ _ _ _ _ from zNN_bM (by decide) (by decide) hq57_km hq57_k))⟩)⟩) hP hD
            · skip
              refine lv_if_eq (tgt := 118) hx hb dX12_townLine_103 (by decide) (fun _ => ?_) (fun c59 => absurd (by decide) c59)
              refine lv_aload_n hx hb dX12_townLine_118 rfl (lv_at hl 1 rfl) ?_
              refine va_ldcS (q := g.2 82) hx hb hown (zra36 hT.2.1) dX12_townLine_119 ?_
              refine mcallV' (g := g) (q0 := 0) (ci := 10) (As := [.ref (g.2 82)]) (rest := []) St hK hT hA hP hD hS hl.1 [0] [] rfl rfl rfl (m_hasF l g o a th hi ac tp en at2_50 (-1) de iD iO tU fm fk fa fc ft ff fb fi (g.2 82) 36 zqa36 hen hq52_0 hde rfl zla36 zna36 (zlitB zla36)) (cwV 1 hts (zgL (zl4 k899 k900 k901 k839) k889) rfl rfl rfl (by decide +kernel) ⟨Nat.le_of_ble_eq_true rfl, Nat.le_of_ble_eq_true rfl⟩) rfl rfl rfl rfl (Nat.le_of_ble_eq_true rfl) dX12_townLine_121 ⟨(Nat.le_of_ble_eq_true rfl), (Nat.le_of_ble_eq_true rfl)⟩ (fun u_ H locs hq62 hP hD hS => ?_)
              obtain ⟨at2_60, r_61⟩ := u_
              replace hq62 : (0 ≤ at2_60.toInt ∧ at2_60.toInt ≤ en.toInt + 7 - de.toInt) ∧ (at2_50.toInt ≤ at2_60.toInt) ∧ (r_61 = 1 ∧ zisW ft en.toInt (zbg ft en.toInt at2_50.toInt) zqa36.2.2.2 ∧ at2_60.toInt = znx ft en.toInt (zbg ft en.toInt at2_50.toInt) ∧ at2_50.toInt < at2_60.toInt ∧ at2_60.toInt ≤ en.toInt ∨ r_61 = 0 ∧ ¬ zisW ft en.toInt (zbg ft en.toInt at2_50.toInt) zqa36.2.2.2 ∧ at2_60.toInt = zbg ft en.toInt at2_50.toInt) := hq62
              have hP : va_P g.1 vwCl (List.flatten [bMo g o a th hi ac tp (-1) en at2_60 (-1) de iD iO tU fm fk fa fc ft ff fb fi]) H := hP
              have hD : va_D A (List.flatten [bMo g o a th hi ac tp (-1) en at2_60 (-1) de iD iO tU fm fk fa fc ft ff fb fi]) := hD
              refine W.widen (k := 0) (n := 0) (Nat.le_of_ble_eq_true rfl) (Nat.le_of_ble_eq_true rfl) ?_
              refine W.eq (g2 := F0 m 124 ls [.int r_61]) rfl ?_
              obtain ⟨hq62_0, hq62_1, hq62_2⟩ := hq62
              rcases hq62_2 with ⟨rfl, hq62_k, hq62_km⟩ | ⟨rfl, hq62_k, hq62_km⟩
              · skip
                refine lv_if_eq (tgt := 167) hx hb dX12_townLine_124 (by decide) (fun c63 => absurd c63 (by decide)) (fun _ => ?_)
                refine lv_aload_n hx hb dX12_townLine_127 rfl (lv_at hl 1 rfl) ?_
                refine lv_iconst (v := 0) hx hb dX12_townLine_128 (by decide) ?_
                refine lv_aload_n hx hb dX12_townLine_129 rfl (lv_at hl 1 rfl) ?_
                refine va_get (D := g.1) (ci := 10) (v := .ref (a 0)) (C := RX12) (T := TX12) (N := 20) hx hb hts izRX12 hown hK hP 0 rfl rfl 1 (by decide) (hts _ k815) (fun _ h9 => h9) rfl dX12_townLine_130 ?_
                refine lv_iconst (v := 3) hx hb dX12_townLine_133 (by decide) ?_
                refine va_iald hx hb hK hP 1 0 rfl rfl (zin rfl) dX12_townLine_134 ?_
                refine zgq (r := fm 3) rfl (rM3 rfm) (fun x_64 hx_64 => ?_)
                refine lv_iconst (v := 1) hx hb dX12_townLine_135 (by decide) ?_
                refine lv_isub hx hb dX12_townLine_136 ?_
                refine zg3 (zsubK (i := x_64.toInt) (j := 1) (a' := (-1)) (b' := 7) rfl (by decide) hx_64.1 hx_64.2.1 (Int.le_refl _) (Int.le_refl _) (by decide)) (fun x_65 hx_65 => ?_)
                have hL0 : (0 : Int32).toInt = 0 := by decide
                refine mcallV' (g := g) (q0 := 0) (ci := 10) (As := [.int 0, .int x_65]) (rest := []) St hK hT hA hP hD hS hl.1 [0] [] rfl rfl rfl (m_figuresF l g o a th hi ac tp en at2_60 de iD iO tU fm fk fa fc ft ff fb fi 0 x_65 hen hq62_0 hde) (cwV 2 hts (zgL (zl4 k902 k903 k904 k839) k898) rfl rfl rfl (by decide +kernel) ⟨Nat.le_of_ble_eq_true rfl, Nat.le_of_ble_eq_true rfl⟩) rfl rfl rfl rfl (Nat.le_of_ble_eq_true rfl) dX12_townLine_137 ⟨(Nat.le_of_ble_eq_true rfl), (Nat.le_of_ble_eq_true rfl)⟩ (fun u_ H locs hq69 hP hD hS => ?_)
                obtain ⟨at2_66, fl2_67, r_68⟩ := u_
                replace hq69 : (0 ≤ at2_66.toInt ∧ at2_66.toInt ≤ en.toInt + 7 - de.toInt) ∧ (at2_60.toInt ≤ at2_66.toInt) ∧ (zNu ft en.toInt (zbg ft en.toInt at2_60.toInt) (0 : Int32).toInt x_65.toInt r_68 ∧ at2_66.toInt = znx ft en.toInt (zbg ft en.toInt at2_60.toInt) ∧ (-1) = fl2_67 ∨ fl2_67.toInt = zbg ft en.toInt at2_60.toInt ∧ ¬ ∃ v9, zNu ft en.toInt (zbg ft en.toInt at2_60.toInt) (0 : Int32).toInt x_65.toInt v9) := hq69
                have hP : va_P g.1 vwCl (List.flatten [bMo g o a th hi ac tp (-1) en at2_66 fl2_67 de iD iO tU fm fk fa fc ft ff fb fi]) H := hP
                have hD : va_D A (List.flatten [bMo g o a th hi ac tp (-1) en at2_66 fl2_67 de iD iO tU fm fk fa fc ft ff fb fi]) := hD
                refine W.widen (k := 0) (n := 0) (Nat.le_of_ble_eq_true rfl) (Nat.le_of_ble_eq_true rfl) ?_
                refine W.eq (g2 := F0 m 140 ls [.int r_68]) rfl ?_
                obtain ⟨hq69_0, hq69_1, hq69_2⟩ := hq69
                rcases hq69_2 with ⟨hq69_k, hq69_km, rfl⟩ | ⟨hq69_k, hq69_km⟩
                · skip
                  have w70 : 0 ≤ r_68.toInt ∧ r_68.toInt ≤ 7 := ⟨(by have h9 := hq69_k.2.2.1; omega), (by have h9 := hq69_k.2.2.2; omega)⟩
                  refine lv_istore_n (lv' := [(2, .int r_68), (1, .int at2_1), (0, .ref o)]) hx hb dX12_townLine_140 rfl hl (by decide) rfl (fun ls hl => ?_)
                  refine lv_aload_n hx hb dX12_townLine_141 rfl (lv_at hl 2 rfl) ?_
                  refine va_get (D := g.1) (ci := 10) (v := .int (-1)) (C := RX12) (T := TX12) (N := 20) hx hb hts izRX12 hown hK hP 0 rfl rfl 12 (by decide) (hts _ k820) (fun _ h9 => h9) rfl dX12_townLine_142 ?_
                  refine lv_iconst (v := (-1)) hx hb dX12_townLine_145 (by decide) ?_
                  refine lv_icmp_ne (tgt := 164) hx hb dX12_townLine_146 (by decide) (fun c71 => absurd (by decide) c71) (fun _ => ?_)
                  refine lv_aload_n hx hb dX12_townLine_149 rfl (lv_at hl 2 rfl) ?_
                  refine lv_bipush (v := 11) hx hb dX12_townLine_150 (by decide) ?_
                  refine lv_iconst (v := 5) hx hb dX12_townLine_152 (by decide) ?_
                  refine lv_iload_n hx hb dX12_townLine_153 rfl (lv_at hl 0 rfl) ?_
                  refine lv_imul hx hb dX12_townLine_154 ?_
                  refine zg3 (zmulKL (i := r_68.toInt) (n := 5) (a' := 0) (b' := 35) rfl (by decide) w70.1 w70.2 (by decide) (by decide)) (fun x_72 hx_72 => ?_)
                  refine lv_iadd hx hb dX12_townLine_155 ?_
                  refine zg3 (zaddK (i := 11) (j := x_72.toInt) (a' := 11) (b' := 46) (by decide) rfl (Int.le_refl _) (Int.le_refl _) hx_72.2.1 hx_72.2.2 (by decide)) (fun x_73 hx_73 => ?_)
                  refine lv_iconst (v := 2) hx hb dX12_townLine_156 (by decide) ?_
                  refine lv_iadd hx hb dX12_townLine_157 ?_
                  refine zg3 (zaddK (i := x_73.toInt) (j := 2) (a' := 13) (b' := 48) rfl (by decide) hx_73.2.1 hx_73.2.2 (Int.le_refl _) (Int.le_refl _) (by decide)) (fun x_74 hx_74 => ?_)
                  refine lv_iconst (v := 0) hx hb dX12_townLine_158 (by decide) ?_
                  refine lv_bipush (v := 99) hx hb dX12_townLine_159 (by decide) ?_
                  have hL99 : (99 : Int32).toInt = 99 := by decide
                  refine mcallV' (g := g) (q0 := 0) (ci := 10) (As := [.int x_74, .int 0, .int 99]) (rest := []) St hK hT hA hP hD hS hl.1 [0] [] rfl rfl rfl (m_tellsF l g o a th hi ac tp en at2_66 de iD iO tU fm fk fa fc ft ff fb fi x_74 0 99 rfm hen hq69_0 hde (by first | assumption | omega | decide | exact Or.inl (by decide) | exact Or.inr (by decide))) (cwV 3 hts (zgL (zl4 k928 k929 k930 k839) k918) rfl rfl rfl (by decide +kernel) ⟨Nat.le_of_ble_eq_true rfl, Nat.le_of_ble_eq_true rfl⟩) rfl rfl rfl rfl (Nat.le_of_ble_eq_true rfl) dX12_townLine_161 ⟨(Nat.le_of_ble_eq_true rfl), (Nat.le_of_ble_eq_true rfl)⟩ (fun u_ H locs hq78 hP hD hS => ?_)
                  obtain ⟨at2_75, fl2_76, fm2_77⟩ := u_
                  replace hq78 : ((fm2_77 0).toInt = (fm 0).toInt ∧ (fm2_77 3).toInt = (fm 3).toInt ∧ (fm2_77 4).toInt = (fm 4).toInt) ∧ (rM fm2_77) ∧ (0 ≤ at2_75.toInt ∧ at2_75.toInt ≤ en.toInt + 7 - de.toInt) ∧ (at2_66.toInt ≤ at2_75.toInt) ∧ ((-1) = fl2_76 ∧ (∃ v9, zNu ft en.toInt (zbg ft en.toInt at2_66.toInt) (0 : Int32).toInt (99 : Int32).toInt v9) ∧ at2_75.toInt = znx ft en.toInt (zbg ft en.toInt at2_66.toInt) ∨ fl2_76.toInt = zbg ft en.toInt at2_66.toInt ∧ ¬ ∃ v9, zNu ft en.toInt (zbg ft en.toInt at2_66.toInt) (0 : Int32).toInt (99 : Int32).toInt v9) := hq78
                  have hP : va_P g.1 vwCl (List.flatten [bMo g o a th hi ac tp (-1) en at2_75 fl2_76 de iD iO tU fm2_77 fk fa fc ft ff fb fi]) H := hP
                  have hD : va_D A (List.flatten [bMo g o a th hi ac tp (-1) en at2_75 fl2_76 de iD iO tU fm2_77 fk fa fc ft ff fb fi]) := hD
                  refine W.widen (k := 0) (n := 0) (Nat.le_of_ble_eq_true rfl) (Nat.le_of_ble_eq_true rfl) ?_
                  refine W.eq (g2 := F0 m 164 ls []) rfl ?_
                  obtain ⟨hq78_0, rfm2_77, hq78_2, hq78_3, hq78_4⟩ := hq78
                  rcases hq78_4 with ⟨rfl, hq78_k, hq78_km⟩ | ⟨hq78_k, hq78_km⟩
                  · skip
                    refine lv_goto (tgt := 197) hx hb dX12_townLine_164 (by decide) ?_
                    have hP : va_P g.1 vwCl (List.flatten [bMo g o a th hi ac tp (-1) en at2_75 (-1) de iD iO tU fm2_77 fk fa fc ft ff fb fi]) H := hP
                    have hD : va_D A (List.flatten [bMo g o a th hi ac tp (-1) en at2_75 (-1) de iD iO tU fm2_77 fk fa fc ft ff fb fi]) := hD
                    exact mret_v hx hb hr hlocks hS (Nat.le_of_ble_eq_true rfl) (Nat.le_of_ble_eq_true rfl) dX12_townLine_197 (at2_75, -1, fm2_77) rfl (show (rM fm2_77) ∧ (0 ≤ at2_75.toInt ∧ at2_75.toInt ≤ en.toInt + 7 - de.toInt) ∧ (tA.toInt ≤ at2_75.toInt) ∧ ((fm2_77 0).toInt = (fm 0).toInt) ∧ ((-1) = (-1) ∧ zTO (zTLine ft en.toInt (fm 3).toInt (fm 4).toInt (zbg ft en.toInt tA.toInt)) (zbg ft en.toInt at2_75.toInt) (fm 3).toInt (fm2_77 3).toInt (fm 4).toInt (fm2_77 4).toInt ∨ 0 ≤ ((-1) : Int32).toInt ∧ zTLine ft en.toInt (fm 3).toInt (fm 4).toInt (zbg ft en.toInt tA.toInt) (.bad ((-1) : Int32).toInt)) from ⟨(by first | assumption | omega | exact Or.inl (by decide) | exact Or.inr (by omega) | decide), (by first | assumption | omega | exact Or.inl (by decide) | exact Or.inr (by omega) | decide), (by first | assumption | omega | exact Or.inl (by decide) | exact Or.inr (by omega) | decide), (by first | assumption | omega | exact Or.inl (by decide) | exact Or.inr (by omega) | decide), (Or.inl ⟨rfl, zTO_i (zTO_s (by decide) (by omega) hq69_k hq69_km (by decide) (by decide) hq78_k hq78_km (by omega) (by omega)) (fun _ h9 => zTL_mM 1 (by decide) (zBy (zBe (zBe (zBe (zBe (zBe (zBe (show _ = zbg ft en.toInt tA.toInt from hq2_2) hq5_km) hq14_km) hq23_km) hq32_km) hq42_km) hq52_km) hq62_k) (zBx (zBe (zBe (zBe (zBe (zBe (zBe (show _ = zbg ft en.toInt tA.toInt from hq2_2) hq5_km) hq14_km) hq23_km) hq32_km) hq42_km) hq52_km) hq62_km.1) (show zTX _ _ _ 3 _ _ from h9))⟩)⟩) hP hD
                  · skip
                    have w79 : 0 ≤ fl2_76.toInt := zB0 hq78_k
                    refine lv_goto (tgt := 197) hx hb dX12_townLine_164 (by decide) ?_
                    have hP : va_P g.1 vwCl (List.flatten [bMo g o a th hi ac tp (-1) en at2_75 fl2_76 de iD iO tU fm2_77 fk fa fc ft ff fb fi]) H := hP
                    have hD : va_D A (List.flatten [bMo g o a th hi ac tp (-1) en at2_75 fl2_76 de iD iO tU fm2_77 fk fa fc ft ff fb fi]) := hD
                    exact mret_v hx hb hr hlocks hS (Nat.le_of_ble_eq_true rfl) (Nat.le_of_ble_eq_true rfl) dX12_townLine_197 (at2_75, fl2_76, fm2_77) rfl (show (rM fm2_77) ∧ (0 ≤ at2_75.toInt ∧ at2_75.toInt ≤ en.toInt + 7 - de.toInt) ∧ (tA.toInt ≤ at2_75.toInt) ∧ ((fm2_77 0).toInt = (fm 0).toInt) ∧ ((-1) = fl2_76 ∧ zTO (zTLine ft en.toInt (fm 3).toInt (fm 4).toInt (zbg ft en.toInt tA.toInt)) (zbg ft en.toInt at2_75.toInt) (fm 3).toInt (fm2_77 3).toInt (fm 4).toInt (fm2_77 4).toInt ∨ 0 ≤ fl2_76.toInt ∧ zTLine ft en.toInt (fm 3).toInt (fm 4).toInt (zbg ft en.toInt tA.toInt) (.bad fl2_76.toInt)) from ⟨(by first | assumption | omega | exact Or.inl (by decide) | exact Or.inr (by omega) | decide), (by first | assumption | omega | exact Or.inl (by decide) | exact Or.inr (by omega) | decide), (by first | assumption | omega | exact Or.inl (by decide) | exact Or.inr (by omega) | decide), (by first | assumption | omega | exact Or.inl (by decide) | exact Or.inr (by omega) | decide), (Or.inr ⟨(by omega), zTL_mM 1 (by decide) (zBy (zBe (zBe (zBe (zBe (zBe (zBe (show _ = zbg ft en.toInt tA.toInt from hq2_2) hq5_km) hq14_km) hq23_km) hq32_km) hq42_km) hq52_km) hq62_k) (zBx (zBe (zBe (zBe (zBe (zBe (zBe (show _ = zbg ft en.toInt tA.toInt from hq2_2) hq5_km) hq14_km) hq23_km) hq32_km) hq42_km) hq52_km) hq62_km.1) (show zTX _ _ _ 3 _ _ from (show zNN _ _ _ _ _ _ _ from zNN_yM (by decide) (by omega) hq69_k (show zNN _ _ _ _ _ _ _ from zNN_bM (by decide) (by decide) (zNn_b (zNt_b hq69_km) hq78_km) (hq78_k.trans (zNt_b hq69_km).symm))))⟩)⟩) hP hD
                · skip
                  have w80 : 0 ≤ fl2_67.toInt := zB0 hq69_k
                  refine lv_istore_n (lv' := [(2, .int r_68), (1, .int at2_1), (0, .ref o)]) hx hb dX12_townLine_140 rfl hl (by decide) rfl (fun ls hl => ?_)
                  refine lv_aload_n hx hb dX12_townLine_141 rfl (lv_at hl 2 rfl) ?_
                  refine va_get (D := g.1) (ci := 10) (v := .int fl2_67) (C := RX12) (T := TX12) (N := 20) hx hb hts izRX12 hown hK hP 0 rfl rfl 12 (by decide) (hts _ k820) (fun _ h9 => h9) rfl dX12_townLine_142 ?_
                  refine lv_iconst (v := (-1)) hx hb dX12_townLine_145 (by decide) ?_
                  refine lv_icmp_ne (tgt := 164) hx hb dX12_townLine_146 (by decide) (fun cb9 => ?_) (fun cb9 => ?_)
                  · skip
                    have c81 : ¬ fl2_67.toInt = (-1) := zne cb9 rfl (by decide)
                    refine lv_goto (tgt := 197) hx hb dX12_townLine_164 (by decide) ?_
                    have hP : va_P g.1 vwCl (List.flatten [bMo g o a th hi ac tp (-1) en at2_66 fl2_67 de iD iO tU fm fk fa fc ft ff fb fi]) H := hP
                    have hD : va_D A (List.flatten [bMo g o a th hi ac tp (-1) en at2_66 fl2_67 de iD iO tU fm fk fa fc ft ff fb fi]) := hD
                    exact mret_v hx hb hr hlocks hS (Nat.le_of_ble_eq_true rfl) (Nat.le_of_ble_eq_true rfl) dX12_townLine_197 (at2_66, fl2_67, fm) rfl (show (rM fm) ∧ (0 ≤ at2_66.toInt ∧ at2_66.toInt ≤ en.toInt + 7 - de.toInt) ∧ (tA.toInt ≤ at2_66.toInt) ∧ ((fm 0).toInt = (fm 0).toInt) ∧ ((-1) = fl2_67 ∧ zTO (zTLine ft en.toInt (fm 3).toInt (fm 4).toInt (zbg ft en.toInt tA.toInt)) (zbg ft en.toInt at2_66.toInt) (fm 3).toInt (fm 3).toInt (fm 4).toInt (fm 4).toInt ∨ 0 ≤ fl2_67.toInt ∧ zTLine ft en.toInt (fm 3).toInt (fm 4).toInt (zbg ft en.toInt tA.toInt) (.bad fl2_67.toInt)) from ⟨(by first | assumption | omega | exact Or.inl (by decide) | exact Or.inr (by omega) | decide), (by first | assumption | omega | exact Or.inl (by decide) | exact Or.inr (by omega) | decide), (by first | assumption | omega | exact Or.inl (by decide) | exact Or.inr (by omega) | decide), (by first | assumption | omega | exact Or.inl (by decide) | exact Or.inr (by omega) | decide), (Or.inr ⟨(by omega), zTL_mM 1 (by decide) (zBy (zBe (zBe (zBe (zBe (zBe (zBe (show _ = zbg ft en.toInt tA.toInt from hq2_2) hq5_km) hq14_km) hq23_km) hq32_km) hq42_km) hq52_km) hq62_k) (zBx (zBe (zBe (zBe (zBe (zBe (zBe (show _ = zbg ft en.toInt tA.toInt from hq2_2) hq5_km) hq14_km) hq23_km) hq32_km) hq42_km) hq52_km) hq62_km.1) (show zTX _ _ _ 3 _ _ from (show zNN _ _ _ _ _ _ _ from zNN_bM (by decide) (by omega) hq69_km hq69_k))⟩)⟩) hP hD
                  · skip
                    exact absurd (show fl2_67.toInt = (-1) from zeq cb9 rfl (by decide)) (zDeq2 (a := 0) (b := (-1)) w80 (Int.le_refl _) (by decide))
              · skip
                refine lv_if_eq (tgt := 167) hx hb dX12_townLine_124 (by decide) (fun _ => ?_) (fun c83 => absurd (by decide) c83)
                refine lv_aload_n hx hb dX12_townLine_167 rfl (lv_at hl 1 rfl) ?_
                refine va_ldcS (q := g.2 84) hx hb hown (zra37 hT.2.1) dX12_townLine_168 ?_
                refine mcallV' (g := g) (q0 := 0) (ci := 10) (As := [.ref (g.2 84)]) (rest := []) St hK hT hA hP hD hS hl.1 [0] [] rfl rfl rfl (m_hasF l g o a th hi ac tp en at2_60 (-1) de iD iO tU fm fk fa fc ft ff fb fi (g.2 84) 37 zqa37 hen hq62_0 hde rfl zla37 zna37 (zlitB zla37)) (cwV 1 hts (zgL (zl4 k899 k900 k901 k839) k889) rfl rfl rfl (by decide +kernel) ⟨Nat.le_of_ble_eq_true rfl, Nat.le_of_ble_eq_true rfl⟩) rfl rfl rfl rfl (Nat.le_of_ble_eq_true rfl) dX12_townLine_170 ⟨(Nat.le_of_ble_eq_true rfl), (Nat.le_of_ble_eq_true rfl)⟩ (fun u_ H locs hq86 hP hD hS => ?_)
                obtain ⟨at2_84, r_85⟩ := u_
                replace hq86 : (0 ≤ at2_84.toInt ∧ at2_84.toInt ≤ en.toInt + 7 - de.toInt) ∧ (at2_60.toInt ≤ at2_84.toInt) ∧ (r_85 = 1 ∧ zisW ft en.toInt (zbg ft en.toInt at2_60.toInt) zqa37.2.2.2 ∧ at2_84.toInt = znx ft en.toInt (zbg ft en.toInt at2_60.toInt) ∧ at2_60.toInt < at2_84.toInt ∧ at2_84.toInt ≤ en.toInt ∨ r_85 = 0 ∧ ¬ zisW ft en.toInt (zbg ft en.toInt at2_60.toInt) zqa37.2.2.2 ∧ at2_84.toInt = zbg ft en.toInt at2_60.toInt) := hq86
                have hP : va_P g.1 vwCl (List.flatten [bMo g o a th hi ac tp (-1) en at2_84 (-1) de iD iO tU fm fk fa fc ft ff fb fi]) H := hP
                have hD : va_D A (List.flatten [bMo g o a th hi ac tp (-1) en at2_84 (-1) de iD iO tU fm fk fa fc ft ff fb fi]) := hD
                refine W.widen (k := 0) (n := 0) (Nat.le_of_ble_eq_true rfl) (Nat.le_of_ble_eq_true rfl) ?_
                refine W.eq (g2 := F0 m 173 ls [.int r_85]) rfl ?_
                obtain ⟨hq86_0, hq86_1, hq86_2⟩ := hq86
                rcases hq86_2 with ⟨rfl, hq86_k, hq86_km⟩ | ⟨rfl, hq86_k, hq86_km⟩
                · skip
                  refine lv_if_eq (tgt := 189) hx hb dX12_townLine_173 (by decide) (fun c87 => absurd c87 (by decide)) (fun _ => ?_)
                  refine lv_aload_n hx hb dX12_townLine_176 rfl (lv_at hl 1 rfl) ?_
                  refine lv_bipush (v := 8) hx hb dX12_townLine_177 (by decide) ?_
                  refine lv_iconst (v := 0) hx hb dX12_townLine_179 (by decide) ?_
                  refine lv_sipush (v := 999) hx hb dX12_townLine_180 (by decide) ?_
                  have hL0 : (0 : Int32).toInt = 0 := by decide
                  have hL8 : (8 : Int32).toInt = 8 := by decide
                  have hL999 : (999 : Int32).toInt = 999 := by decide
                  refine mcallV' (g := g) (q0 := 0) (ci := 10) (As := [.int 8, .int 0, .int 999]) (rest := []) St hK hT hA hP hD hS hl.1 [0] [] rfl rfl rfl (m_tellsF l g o a th hi ac tp en at2_84 de iD iO tU fm fk fa fc ft ff fb fi 8 0 999 rfm hen hq86_0 hde (by first | assumption | omega | decide | exact Or.inl (by decide) | exact Or.inr (by decide))) (cwV 3 hts (zgL (zl4 k928 k929 k930 k839) k918) rfl rfl rfl (by decide +kernel) ⟨Nat.le_of_ble_eq_true rfl, Nat.le_of_ble_eq_true rfl⟩) rfl rfl rfl rfl (Nat.le_of_ble_eq_true rfl) dX12_townLine_183 ⟨(Nat.le_of_ble_eq_true rfl), (Nat.le_of_ble_eq_true rfl)⟩ (fun u_ H locs hq91 hP hD hS => ?_)
                  obtain ⟨at2_88, fl2_89, fm2_90⟩ := u_
                  replace hq91 : ((fm2_90 0).toInt = (fm 0).toInt ∧ (fm2_90 3).toInt = (fm 3).toInt ∧ (fm2_90 4).toInt = (fm 4).toInt) ∧ (rM fm2_90) ∧ (0 ≤ at2_88.toInt ∧ at2_88.toInt ≤ en.toInt + 7 - de.toInt) ∧ (at2_84.toInt ≤ at2_88.toInt) ∧ ((-1) = fl2_89 ∧ (∃ v9, zNu ft en.toInt (zbg ft en.toInt at2_84.toInt) (0 : Int32).toInt (999 : Int32).toInt v9) ∧ at2_88.toInt = znx ft en.toInt (zbg ft en.toInt at2_84.toInt) ∨ fl2_89.toInt = zbg ft en.toInt at2_84.toInt ∧ ¬ ∃ v9, zNu ft en.toInt (zbg ft en.toInt at2_84.toInt) (0 : Int32).toInt (999 : Int32).toInt v9) := hq91
                  have hP : va_P g.1 vwCl (List.flatten [bMo g o a th hi ac tp (-1) en at2_88 fl2_89 de iD iO tU fm2_90 fk fa fc ft ff fb fi]) H := hP
                  have hD : va_D A (List.flatten [bMo g o a th hi ac tp (-1) en at2_88 fl2_89 de iD iO tU fm2_90 fk fa fc ft ff fb fi]) := hD
                  refine W.widen (k := 0) (n := 0) (Nat.le_of_ble_eq_true rfl) (Nat.le_of_ble_eq_true rfl) ?_
                  refine W.eq (g2 := F0 m 186 ls []) rfl ?_
                  obtain ⟨hq91_0, rfm2_90, hq91_2, hq91_3, hq91_4⟩ := hq91
                  rcases hq91_4 with ⟨rfl, hq91_k, hq91_km⟩ | ⟨hq91_k, hq91_km⟩
                  · skip
                    refine lv_goto (tgt := 197) hx hb dX12_townLine_186 (by decide) ?_
                    have hP : va_P g.1 vwCl (List.flatten [bMo g o a th hi ac tp (-1) en at2_88 (-1) de iD iO tU fm2_90 fk fa fc ft ff fb fi]) H := hP
                    have hD : va_D A (List.flatten [bMo g o a th hi ac tp (-1) en at2_88 (-1) de iD iO tU fm2_90 fk fa fc ft ff fb fi]) := hD
                    exact mret_v hx hb hr hlocks hS (Nat.le_of_ble_eq_true rfl) (Nat.le_of_ble_eq_true rfl) dX12_townLine_197 (at2_88, -1, fm2_90) rfl (show (rM fm2_90) ∧ (0 ≤ at2_88.toInt ∧ at2_88.toInt ≤ en.toInt + 7 - de.toInt) ∧ (tA.toInt ≤ at2_88.toInt) ∧ ((fm2_90 0).toInt = (fm 0).toInt) ∧ ((-1) = (-1) ∧ zTO (zTLine ft en.toInt (fm 3).toInt (fm 4).toInt (zbg ft en.toInt tA.toInt)) (zbg ft en.toInt at2_88.toInt) (fm 3).toInt (fm2_90 3).toInt (fm 4).toInt (fm2_90 4).toInt ∨ 0 ≤ ((-1) : Int32).toInt ∧ zTLine ft en.toInt (fm 3).toInt (fm 4).toInt (zbg ft en.toInt tA.toInt) (.bad ((-1) : Int32).toInt)) from ⟨(by first | assumption | omega | exact Or.inl (by decide) | exact Or.inr (by omega) | decide), (by first | assumption | omega | exact Or.inl (by decide) | exact Or.inr (by omega) | decide), (by first | assumption | omega | exact Or.inl (by decide) | exact Or.inr (by omega) | decide), (by first | assumption | omega | exact Or.inl (by decide) | exact Or.inr (by omega) | decide), (Or.inl ⟨rfl, zTO_i (zTO_o (lo := 0) (hi := 999) (k := 7) (by decide) (by decide) hq91_k hq91_km (by decide) (by decide) (by omega) (by omega)) (fun _ h9 => zTL_mM 5 (by decide) (zBy (zBe (zBe (zBe (zBe (zBe (zBe (zBe (show _ = zbg ft en.toInt tA.toInt from hq2_2) hq5_km) hq14_km) hq23_km) hq32_km) hq42_km) hq52_km) hq62_km) hq86_k) (zBx (zBe (zBe (zBe (zBe (zBe (zBe (zBe (show _ = zbg ft en.toInt tA.toInt from hq2_2) hq5_km) hq14_km) hq23_km) hq32_km) hq42_km) hq52_km) hq62_km) hq86_km.1) (show zTX _ _ _ 7 _ _ from h9))⟩)⟩) hP hD
                  · skip
                    have w92 : 0 ≤ fl2_89.toInt := zB0 hq91_k
                    refine lv_goto (tgt := 197) hx hb dX12_townLine_186 (by decide) ?_
                    have hP : va_P g.1 vwCl (List.flatten [bMo g o a th hi ac tp (-1) en at2_88 fl2_89 de iD iO tU fm2_90 fk fa fc ft ff fb fi]) H := hP
                    have hD : va_D A (List.flatten [bMo g o a th hi ac tp (-1) en at2_88 fl2_89 de iD iO tU fm2_90 fk fa fc ft ff fb fi]) := hD
                    exact mret_v hx hb hr hlocks hS (Nat.le_of_ble_eq_true rfl) (Nat.le_of_ble_eq_true rfl) dX12_townLine_197 (at2_88, fl2_89, fm2_90) rfl (show (rM fm2_90) ∧ (0 ≤ at2_88.toInt ∧ at2_88.toInt ≤ en.toInt + 7 - de.toInt) ∧ (tA.toInt ≤ at2_88.toInt) ∧ ((fm2_90 0).toInt = (fm 0).toInt) ∧ ((-1) = fl2_89 ∧ zTO (zTLine ft en.toInt (fm 3).toInt (fm 4).toInt (zbg ft en.toInt tA.toInt)) (zbg ft en.toInt at2_88.toInt) (fm 3).toInt (fm2_90 3).toInt (fm 4).toInt (fm2_90 4).toInt ∨ 0 ≤ fl2_89.toInt ∧ zTLine ft en.toInt (fm 3).toInt (fm 4).toInt (zbg ft en.toInt tA.toInt) (.bad fl2_89.toInt)) from ⟨(by first | assumption | omega | exact Or.inl (by decide) | exact Or.inr (by omega) | decide), (by first | assumption | omega | exact Or.inl (by decide) | exact Or.inr (by omega) | decide), (by first | assumption | omega | exact Or.inl (by decide) | exact Or.inr (by omega) | decide), (by first | assumption | omega | exact Or.inl (by decide) | exact Or.inr (by omega) | decide), (Or.inr ⟨(by omega), zTL_mM 5 (by decide) (zBy (zBe (zBe (zBe (zBe (zBe (zBe (zBe (show _ = zbg ft en.toInt tA.toInt from hq2_2) hq5_km) hq14_km) hq23_km) hq32_km) hq42_km) hq52_km) hq62_km) hq86_k) (zBx (zBe (zBe (zBe (zBe (zBe (zBe (zBe (show _ = zbg ft en.toInt tA.toInt from hq2_2) hq5_km) hq14_km) hq23_km) hq32_km) hq42_km) hq52_km) hq62_km) hq86_km.1) (show zTX _ _ _ 7 _ _ from (show zNN _ _ _ _ _ _ _ from zNN_bM (by decide) (by decide) hq91_km hq91_k))⟩)⟩) hP hD
                · skip
                  refine lv_if_eq (tgt := 189) hx hb dX12_townLine_173 (by decide) (fun _ => ?_) (fun c93 => absurd (by decide) c93)
                  refine lv_aload_n hx hb dX12_townLine_189 rfl (lv_at hl 1 rfl) ?_
                  refine lv_aload_n hx hb dX12_townLine_190 rfl (lv_at hl 1 rfl) ?_
                  refine va_get (D := g.1) (ci := 10) (v := .int at2_84) (C := RX12) (T := TX12) (N := 20) hx hb hts izRX12 hown hK hP 0 rfl rfl 11 (by decide) (hts _ k878) (fun _ h9 => h9) rfl dX12_townLine_191 ?_
                  refine mcallV' (g := g) (q0 := 0) (ci := 10) (As := [.int at2_84]) (rest := []) St hK hT hA hP hD hS hl.1 [0] [] rfl rfl rfl (m_wrongF l g o a th hi ac tp (-1) en at2_84 de iD iO tU fm fk fa fc ft ff fb fi at2_84 ) (cwV 1 hts (zgL (zl4 k895 k896 k897 k839) k890) rfl rfl rfl (by decide +kernel) ⟨Nat.le_of_ble_eq_true rfl, Nat.le_of_ble_eq_true rfl⟩) rfl rfl rfl rfl (Nat.le_of_ble_eq_true rfl) dX12_townLine_194 ⟨(Nat.le_of_ble_eq_true rfl), (Nat.le_of_ble_eq_true rfl)⟩ (fun _u H locs hq94 hP hD hS => ?_)
                  have hP : va_P g.1 vwCl (List.flatten [bMo g o a th hi ac tp (-1) en at2_84 at2_84 de iD iO tU fm fk fa fc ft ff fb fi]) H := hP
                  have hD : va_D A (List.flatten [bMo g o a th hi ac tp (-1) en at2_84 at2_84 de iD iO tU fm fk fa fc ft ff fb fi]) := hD
                  refine W.widen (k := 0) (n := 0) (Nat.le_of_ble_eq_true rfl) (Nat.le_of_ble_eq_true rfl) ?_
                  refine W.eq (g2 := F0 m 197 ls []) rfl ?_
                  have hP : va_P g.1 vwCl (List.flatten [bMo g o a th hi ac tp (-1) en at2_84 at2_84 de iD iO tU fm fk fa fc ft ff fb fi]) H := hP
                  have hD : va_D A (List.flatten [bMo g o a th hi ac tp (-1) en at2_84 at2_84 de iD iO tU fm fk fa fc ft ff fb fi]) := hD
                  exact mret_v hx hb hr hlocks hS (Nat.le_of_ble_eq_true rfl) (Nat.le_of_ble_eq_true rfl) dX12_townLine_197 (at2_84, at2_84, fm) rfl (show (rM fm) ∧ (0 ≤ at2_84.toInt ∧ at2_84.toInt ≤ en.toInt + 7 - de.toInt) ∧ (tA.toInt ≤ at2_84.toInt) ∧ ((fm 0).toInt = (fm 0).toInt) ∧ ((-1) = at2_84 ∧ zTO (zTLine ft en.toInt (fm 3).toInt (fm 4).toInt (zbg ft en.toInt tA.toInt)) (zbg ft en.toInt at2_84.toInt) (fm 3).toInt (fm 3).toInt (fm 4).toInt (fm 4).toInt ∨ 0 ≤ at2_84.toInt ∧ zTLine ft en.toInt (fm 3).toInt (fm 4).toInt (zbg ft en.toInt tA.toInt) (.bad at2_84.toInt)) from ⟨(by first | assumption | omega | exact Or.inl (by decide) | exact Or.inr (by omega) | decide), (by first | assumption | omega | exact Or.inl (by decide) | exact Or.inr (by omega) | decide), (by first | assumption | omega | exact Or.inl (by decide) | exact Or.inr (by omega) | decide), (by first | assumption | omega | exact Or.inl (by decide) | exact Or.inr (by omega) | decide), (Or.inr ⟨(by omega), zTL_no (zBe (zBe (zBe (zBe (zBe (zBe (zBe (zBe (show _ = zbg ft en.toInt tA.toInt from hq2_2) hq5_km) hq14_km) hq23_km) hq32_km) hq42_km) hq52_km) hq62_km) hq86_km) (zBw (show _ = zbg ft en.toInt tA.toInt from hq2_2) hq5_k) (zBw (zBe (zBe (show _ = zbg ft en.toInt tA.toInt from hq2_2) hq5_km) hq14_km) hq23_k) (zBw (zBe (show _ = zbg ft en.toInt tA.toInt from hq2_2) hq5_km) hq14_k) (zBw (zBe (zBe (zBe (zBe (zBe (zBe (show _ = zbg ft en.toInt tA.toInt from hq2_2) hq5_km) hq14_km) hq23_km) hq32_km) hq42_km) hq52_km) hq62_k) (zBw (zBe (zBe (zBe (show _ = zbg ft en.toInt tA.toInt from hq2_2) hq5_km) hq14_km) hq23_km) hq32_k) (zBw (zBe (zBe (zBe (zBe (show _ = zbg ft en.toInt tA.toInt from hq2_2) hq5_km) hq14_km) hq23_km) hq32_km) hq42_k) (zBw (zBe (zBe (zBe (zBe (zBe (show _ = zbg ft en.toInt tA.toInt from hq2_2) hq5_km) hq14_km) hq23_km) hq32_km) hq42_km) hq52_k) (zBw (zBe (zBe (zBe (zBe (zBe (zBe (zBe (show _ = zbg ft en.toInt tA.toInt from hq2_2) hq5_km) hq14_km) hq23_km) hq32_km) hq42_km) hq52_km) hq62_km) hq86_k)⟩)⟩) hP hD
set_option maxRecDepth 100000 in
set_option maxHeartbeats 8000000 in
theorem m_readTF (l : Launch) (g : zG) (o : Nat) (a : Nat → Nat) (th : Int32) (hi : Int32) (ac : Int32) (tp : Int32) (en : Int32) (tA : Int32) (iD : Int32) (iO : Int32) (tU : Int32) (fm : Nat → Int32) (fk : Nat → Int32) (fa : Nat → Int32) (fc : Nat → Int32) (ft : Nat → Int32) (ff : Nat → Int32) (fb : Nat → Int32) (fi : Nat → Int32) (rfm : rM fm) (hen : 0 ≤ en.toInt ∧ en.toInt ≤ 400) (htA : 0 ≤ tA.toInt ∧ tA.toInt ≤ en.toInt + 7 - 0) (hde : 0 ≤ 0 ∧ 0 ≤ 6) : zM' g l yX12_read (Cond.code yX12_read cX12_read 4 (some .int) :: zB) ({ frames := 8, cells := 0, slots := 0, locals := 178 } : Room) [.ref o, .int 0] [bMo g o a th hi ac tp (-1) en tA (-1) 0 iD iO tU fm fk fa fc ft ff fb fi] (fun u : Int32 × Int32 × (Nat → Int32) × Int32 => (fun (at2 : Int32) (fl2 : Int32) (fm2 : Nat → Int32) (q : Int32) => some (.int q)) (u.1) (u.2.1) (u.2.2.1) (u.2.2.2)) (fun u : Int32 × Int32 × (Nat → Int32) × Int32 => (fun (at2 : Int32) (fl2 : Int32) (fm2 : Nat → Int32) (q : Int32) => (rM fm2) ∧ (0 ≤ at2.toInt ∧ at2.toInt ≤ en.toInt + 7 - 0) ∧ (tA.toInt ≤ at2.toInt) ∧ ((fm2 0).toInt = (fm 0).toInt) ∧ ((-1) = fl2 ∧ zTwR ft en.toInt tA.toInt (fm 3).toInt (fm 4).toInt (fm2 3).toInt (fm2 4).toInt ∨ 0 ≤ fl2.toInt ∧ zTwB ft en.toInt tA.toInt (fm 3).toInt (fm 4).toInt fl2.toInt)) (u.1) (u.2.1) (u.2.2.1) (u.2.2.2)) (fun u : Int32 × Int32 × (Nat → Int32) × Int32 => (fun (at2 : Int32) (fl2 : Int32) (fm2 : Nat → Int32) (q : Int32) => [bMo g o a th hi ac tp (-1) en at2 fl2 0 iD iO tU fm2 fk fa fc ft ff fb fi]) (u.1) (u.2.1) (u.2.2.1) (u.2.2.2)) := by
  refine zM'.of (cc := cX12_read) (maxL := 4) (rt := (some .int)) (by decide) rfl (Nat.le_of_ble_eq_true rfl) ?_
  intro p e s m args below meth c A ls St hr hlocks hin hK hT hA hP hD hS hl
  obtain ⟨hx, hb, hml, hown, hts⟩ := id St
  have hl : lv_has ls 4 [(0, .ref o), (1, .int 0)] := hl
  refine lv_aload_n hx hb dX12_read_0 rfl (lv_at hl 0 rfl) ?_
  have hL0 : (0 : Int32).toInt = 0 := by decide
  refine mcallV' (g := g) (q0 := 0) (ci := 10) (As := []) (rest := []) St hK hT hA hP hD hS hl.1 [0] [] rfl rfl rfl (m_skipF l g o a th hi ac tp en tA (-1) 0 iD iO tU fm fk fa fc ft ff fb fi hen (by first | assumption | omega | decide | exact Or.inl (by decide) | exact Or.inr (by decide)) (by decide)) (cwV 0 hts (zgL (zl4 k884 k885 k886 k839) k877) rfl rfl rfl (by decide +kernel) ⟨Nat.le_of_ble_eq_true rfl, Nat.le_of_ble_eq_true rfl⟩) rfl rfl rfl rfl (Nat.le_of_ble_eq_true rfl) dX12_read_1 ⟨(Nat.le_of_ble_eq_true rfl), (Nat.le_of_ble_eq_true rfl)⟩ (fun at2_1 H locs hq2 hP hD hS => ?_)
  replace hq2 : (0 ≤ at2_1.toInt ∧ at2_1.toInt ≤ en.toInt + 7 - (0 : Int32).toInt) ∧ (tA.toInt ≤ at2_1.toInt) ∧ (zSk ft en.toInt tA.toInt at2_1.toInt) := hq2
  have hP : va_P g.1 vwCl (List.flatten [bMo g o a th hi ac tp (-1) en at2_1 (-1) 0 iD iO tU fm fk fa fc ft ff fb fi]) H := hP
  have hD : va_D A (List.flatten [bMo g o a th hi ac tp (-1) en at2_1 (-1) 0 iD iO tU fm fk fa fc ft ff fb fi]) := hD
  refine W.widen (k := 0) (n := 0) (Nat.le_of_ble_eq_true rfl) (Nat.le_of_ble_eq_true rfl) ?_
  refine W.eq (g2 := F0 m 4 ls []) rfl ?_
  obtain ⟨hq2_0, hq2_1, hq2_2⟩ := hq2
  refine lv_aload_n hx hb dX12_read_4 rfl (lv_at hl 0 rfl) ?_
  refine va_get (D := g.1) (ci := 10) (v := .int at2_1) (C := RX12) (T := TX12) (N := 20) hx hb hts izRX12 hown hK hP 0 rfl rfl 11 (by decide) (hts _ k878) (fun _ h9 => h9) rfl dX12_read_5 ?_
  refine lv_aload_n hx hb dX12_read_8 rfl (lv_at hl 0 rfl) ?_
  refine va_get (D := g.1) (ci := 10) (v := .int en) (C := RX12) (T := TX12) (N := 20) hx hb hts izRX12 hown hK hP 0 rfl rfl 10 (by decide) (hts _ k879) (fun _ h9 => h9) rfl dX12_read_9 ?_
  refine lv_icmp_ge (tgt := 19) hx hb dX12_read_12 (by decide) (fun cb9 => ?_) (fun cb9 => ?_)
  · skip
    have c3 : en.toInt ≤ at2_1.toInt := zle cb9 rfl rfl
    refine lv_iconst (v := 0) hx hb dX12_read_19 (by decide) ?_
    refine lv_istore_n (lv' := [(2, .int 0), (0, .ref o), (1, .int 0)]) hx hb dX12_read_20 rfl hl (by decide) rfl (fun ls hl => ?_)
    refine lv_iconst (v := 0) hx hb dX12_read_21 (by decide) ?_
    refine lv_istore_n (lv' := [(3, .int 0), (2, .int 0), (0, .ref o), (1, .int 0)]) hx hb dX12_read_22 rfl hl (by decide) rfl (fun ls hl => ?_)
    have hl := lv_sub (l' := [(0, .ref o), (1, .int 0), (2, .int 0), (3, .int 0)]) hl [2, 3, 1, 0] rfl
    have LP23_18 : ∀ (kf : Nat) (x_4 : Int32) (x_5 : Int32) (x_6 : Int32) (x_7 : Int32) (fm_8 : Nat → Int32), (0 ≤ x_4.toInt ∧ x_4.toInt ≤ 1) → (0 ≤ x_5.toInt ∧ x_5.toInt ≤ 16) → (0 ≤ x_6.toInt ∧ x_6.toInt ≤ 408) → (rM fm_8) → (x_4.toInt = 0 ∨ ¬ x_7.toInt = -1 ∨ x_5.toInt ≤ 14) → (tA.toInt ≤ x_6.toInt) → (x_6.toInt ≤ en.toInt + 7 - 0) → (-1 ≤ x_7.toInt) → ((fm_8 0).toInt = (fm 0).toInt) → (zTd ft en.toInt tA.toInt (fm 3).toInt (fm 4).toInt x_4.toInt x_7.toInt x_5.toInt x_6.toInt (fm_8 3).toInt (fm_8 4).toInt) → ∀ (H : Heap) (locs : List Loc) (ls : Array Slot), ((17 - x_5.toInt).toNat) < kf → va_P g.1 vwCl (List.flatten [bMo g o a th hi ac tp (-1) en x_6 x_7 0 iD iO tU fm_8 fk fa fc ft ff fb fi]) H → va_D A (List.flatten [bMo g o a th hi ac tp (-1) en x_6 x_7 0 iD iO tU fm_8 fk fa fc ft ff fb fi]) → va_S A s.heap H locs → lv_has ls 4 [(0, .ref o), (1, .int 0), (2, .int x_4), (3, .int x_5)] → W p l e ({ frames := 8, cells := 0, slots := 0, locals := 178 } : Room) s m args below meth c H locs (0) (0) (zF g (fun u : Int32 × Int32 × (Nat → Int32) × Int32 => (fun (at2 : Int32) (fl2 : Int32) (fm2 : Nat → Int32) (q : Int32) => some (.int q)) (u.1) (u.2.1) (u.2.2.1) (u.2.2.2)) (fun u : Int32 × Int32 × (Nat → Int32) × Int32 => (fun (at2 : Int32) (fl2 : Int32) (fm2 : Nat → Int32) (q : Int32) => (rM fm2) ∧ (0 ≤ at2.toInt ∧ at2.toInt ≤ en.toInt + 7 - 0) ∧ (tA.toInt ≤ at2.toInt) ∧ ((fm2 0).toInt = (fm 0).toInt) ∧ ((-1) = fl2 ∧ zTwR ft en.toInt tA.toInt (fm 3).toInt (fm 4).toInt (fm2 3).toInt (fm2 4).toInt ∨ 0 ≤ fl2.toInt ∧ zTwB ft en.toInt tA.toInt (fm 3).toInt (fm 4).toInt fl2.toInt)) (u.1) (u.2.1) (u.2.2.1) (u.2.2.2)) (fun u : Int32 × Int32 × (Nat → Int32) × Int32 => (fun (at2 : Int32) (fl2 : Int32) (fm2 : Nat → Int32) (q : Int32) => [bMo g o a th hi ac tp (-1) en at2 fl2 0 iD iO tU fm2 fk fa fc ft ff fb fi]) (u.1) (u.2.1) (u.2.2.1) (u.2.2.2)) ({ frames := 8, cells := 0, slots := 0, locals := 178 } : Room) below args s A) (F0 m 23 ls []) := by
      intro kf
      induction kf with
      | zero => intro x_4 x_5 x_6 x_7 fm_8 i9 i10 i11 rfm_8 i12 i13 i14 i15 i16 i17 H locs ls hk; exact absurd hk (Nat.not_lt_zero _)
      | succ kf ih23_19 =>
        intro x_4 x_5 x_6 x_7 fm_8 i9 i10 i11 rfm_8 i12 i13 i14 i15 i16 i17 H locs ls hk23_19 hP hD hS hl
        refine lv_iload_n hx hb dX12_read_23 rfl (lv_at hl 2 rfl) ?_
        refine lv_if_eq (tgt := 144) hx hb dX12_read_24 (by decide) (fun cb9 => ?_) (fun cb9 => ?_)
        · skip
          have c20 : x_4.toInt = 0 := zeq cb9 rfl (by decide)
          have n21 : x_4.toInt ≤ 0 := Int.le_trans (Int.le_of_eq c20) (Int.le_refl _)
          refine lv_iload_n hx hb dX12_read_144 rfl (lv_at hl 3 rfl) ?_
          have hP : va_P g.1 vwCl (List.flatten [bMo g o a th hi ac tp (-1) en x_6 x_7 0 iD iO tU fm_8 fk fa fc ft ff fb fi]) H := hP
          have hD : va_D A (List.flatten [bMo g o a th hi ac tp (-1) en x_6 x_7 0 iD iO tU fm_8 fk fa fc ft ff fb fi]) := hD
          exact mret_i hx hb hr hlocks hS (Nat.le_of_ble_eq_true rfl) (Nat.le_of_ble_eq_true rfl) dX12_read_145 (x_6, x_7, fm_8, x_5) rfl (show (rM fm_8) ∧ (0 ≤ x_6.toInt ∧ x_6.toInt ≤ en.toInt + 7 - 0) ∧ (tA.toInt ≤ x_6.toInt) ∧ ((fm_8 0).toInt = (fm 0).toInt) ∧ ((-1) = x_7 ∧ zTwR ft en.toInt tA.toInt (fm 3).toInt (fm 4).toInt (fm_8 3).toInt (fm_8 4).toInt ∨ 0 ≤ x_7.toInt ∧ zTwB ft en.toInt tA.toInt (fm 3).toInt (fm 4).toInt x_7.toInt) from ⟨(by first | assumption | omega | exact Or.inl (by decide) | exact Or.inr (by omega) | decide), (by first | assumption | omega | exact Or.inl (by decide) | exact Or.inr (by omega) | decide), (by first | assumption | omega | exact Or.inl (by decide) | exact Or.inr (by omega) | decide), (by first | assumption | omega | exact Or.inl (by decide) | exact Or.inr (by omega) | decide), zTd_x i17 (Or.inl (by omega))⟩) hP hD
        · skip
          have c22 : ¬ x_4.toInt = 0 := zne cb9 rfl (by decide)
          have n23 : 1 ≤ x_4.toInt := zN1 c22 i9.1 (by decide)
          refine lv_aload_n hx hb dX12_read_27 rfl (lv_at hl 0 rfl) ?_
          refine va_get (D := g.1) (ci := 10) (v := .int x_7) (C := RX12) (T := TX12) (N := 20) hx hb hts izRX12 hown hK hP 0 rfl rfl 12 (by decide) (hts _ k820) (fun _ h9 => h9) rfl dX12_read_28 ?_
          refine lv_iconst (v := (-1)) hx hb dX12_read_31 (by decide) ?_
          refine lv_icmp_ne (tgt := 144) hx hb dX12_read_32 (by decide) (fun cb9 => ?_) (fun cb9 => ?_)
          · skip
            have c24 : ¬ x_7.toInt = (-1) := zne cb9 rfl (by decide)
            refine lv_iload_n hx hb dX12_read_144 rfl (lv_at hl 3 rfl) ?_
            have hP : va_P g.1 vwCl (List.flatten [bMo g o a th hi ac tp (-1) en x_6 x_7 0 iD iO tU fm_8 fk fa fc ft ff fb fi]) H := hP
            have hD : va_D A (List.flatten [bMo g o a th hi ac tp (-1) en x_6 x_7 0 iD iO tU fm_8 fk fa fc ft ff fb fi]) := hD
            exact mret_i hx hb hr hlocks hS (Nat.le_of_ble_eq_true rfl) (Nat.le_of_ble_eq_true rfl) dX12_read_145 (x_6, x_7, fm_8, x_5) rfl (show (rM fm_8) ∧ (0 ≤ x_6.toInt ∧ x_6.toInt ≤ en.toInt + 7 - 0) ∧ (tA.toInt ≤ x_6.toInt) ∧ ((fm_8 0).toInt = (fm 0).toInt) ∧ ((-1) = x_7 ∧ zTwR ft en.toInt tA.toInt (fm 3).toInt (fm 4).toInt (fm_8 3).toInt (fm_8 4).toInt ∨ 0 ≤ x_7.toInt ∧ zTwB ft en.toInt tA.toInt (fm 3).toInt (fm 4).toInt x_7.toInt) from ⟨(by first | assumption | omega | exact Or.inl (by decide) | exact Or.inr (by omega) | decide), (by first | assumption | omega | exact Or.inl (by decide) | exact Or.inr (by omega) | decide), (by first | assumption | omega | exact Or.inl (by decide) | exact Or.inr (by omega) | decide), (by first | assumption | omega | exact Or.inl (by decide) | exact Or.inr (by omega) | decide), zTd_x i17 (Or.inr (by omega))⟩) hP hD
          · skip
            have c25 : x_7.toInt = (-1) := zeq cb9 rfl (by decide)
            have n26 : (-1) ≤ x_7.toInt := Int.le_trans (Int.le_refl _) (Int.le_of_eq c25.symm)
            have n27 : x_7.toInt ≤ (-1) := Int.le_trans (Int.le_of_eq c25) (Int.le_refl _)
            obtain ⟨w28, w29, w30⟩ := zTd_A i17 (by omega) (by omega)
            have w31 : x_7 = -1 := (zm1 (by omega)).symm
            subst w31
            refine lv_aload_n hx hb dX12_read_35 rfl (lv_at hl 0 rfl) ?_
            refine mcallV' (g := g) (q0 := 0) (ci := 10) (As := []) (rest := []) St hK hT hA hP hD hS hl.1 [0] [] rfl rfl rfl (m_skipF l g o a th hi ac tp en x_6 (-1) 0 iD iO tU fm_8 fk fa fc ft ff fb fi hen (by first | assumption | omega | decide | exact Or.inl (by decide) | exact Or.inr (by decide)) (by decide)) (cwV 0 hts (zgL (zl4 k884 k885 k886 k839) k877) rfl rfl rfl (by decide +kernel) ⟨Nat.le_of_ble_eq_true rfl, Nat.le_of_ble_eq_true rfl⟩) rfl rfl rfl rfl (Nat.le_of_ble_eq_true rfl) dX12_read_36 ⟨(Nat.le_of_ble_eq_true rfl), (Nat.le_of_ble_eq_true rfl)⟩ (fun at2_32 H locs hq33 hP hD hS => ?_)
            replace hq33 : (0 ≤ at2_32.toInt ∧ at2_32.toInt ≤ en.toInt + 7 - (0 : Int32).toInt) ∧ (x_6.toInt ≤ at2_32.toInt) ∧ (zSk ft en.toInt x_6.toInt at2_32.toInt) := hq33
            have hP : va_P g.1 vwCl (List.flatten [bMo g o a th hi ac tp (-1) en at2_32 (-1) 0 iD iO tU fm_8 fk fa fc ft ff fb fi]) H := hP
            have hD : va_D A (List.flatten [bMo g o a th hi ac tp (-1) en at2_32 (-1) 0 iD iO tU fm_8 fk fa fc ft ff fb fi]) := hD
            refine W.widen (k := 0) (n := 0) (Nat.le_of_ble_eq_true rfl) (Nat.le_of_ble_eq_true rfl) ?_
            refine W.eq (g2 := F0 m 39 ls []) rfl ?_
            obtain ⟨hq33_0, hq33_1, hq33_2⟩ := hq33
            refine lv_iload_n hx hb dX12_read_39 rfl (lv_at hl 3 rfl) ?_
            refine lv_iload_n hx hb dX12_read_40 rfl (lv_at hl 1 rfl) ?_
            refine lv_if_eq (tgt := 49) hx hb dX12_read_41 (by decide) (fun _ => ?_) (fun c34 => absurd (by decide) c34)
            refine lv_bipush (v := 14) hx hb dX12_read_49 (by decide) ?_
            refine lv_icmp_ne (tgt := 65) hx hb dX12_read_51 (by decide) (fun cb9 => ?_) (fun cb9 => ?_)
            · skip
              have c35 : ¬ x_5.toInt = 14 := zne cb9 rfl (by decide)
              refine lv_iload_n hx hb dX12_read_65 rfl (lv_at hl 1 rfl) ?_
              refine lv_if_eq (tgt := 76) hx hb dX12_read_66 (by decide) (fun _ => ?_) (fun c36 => absurd (by decide) c36)
              refine lv_aload_n hx hb dX12_read_76 rfl (lv_at hl 0 rfl) ?_
              refine mcallV' (g := g) (q0 := 0) (ci := 10) (As := []) (rest := []) St hK hT hA hP hD hS hl.1 [0] [] rfl rfl rfl (m_townLineF l g o a th hi ac tp en at2_32 0 iD iO tU fm_8 fk fa fc ft ff fb fi rfm_8 hen hq33_0 (by decide)) (cwV 0 hts (zgL (zl4 k968 k969 k970 k839) k931) rfl rfl rfl (by decide +kernel) ⟨Nat.le_of_ble_eq_true rfl, Nat.le_of_ble_eq_true rfl⟩) rfl rfl rfl rfl (Nat.le_of_ble_eq_true rfl) dX12_read_77 ⟨(Nat.le_of_ble_eq_true rfl), (Nat.le_of_ble_eq_true rfl)⟩ (fun u_ H locs hq40 hP hD hS => ?_)
              obtain ⟨at2_37, fl2_38, fm2_39⟩ := u_
              replace hq40 : (rM fm2_39) ∧ (0 ≤ at2_37.toInt ∧ at2_37.toInt ≤ en.toInt + 7 - (0 : Int32).toInt) ∧ (at2_32.toInt ≤ at2_37.toInt) ∧ ((fm2_39 0).toInt = (fm_8 0).toInt) ∧ ((-1) = fl2_38 ∧ zTO (zTLine ft en.toInt (fm_8 3).toInt (fm_8 4).toInt (zbg ft en.toInt at2_32.toInt)) (zbg ft en.toInt at2_37.toInt) (fm_8 3).toInt (fm2_39 3).toInt (fm_8 4).toInt (fm2_39 4).toInt ∨ 0 ≤ fl2_38.toInt ∧ zTLine ft en.toInt (fm_8 3).toInt (fm_8 4).toInt (zbg ft en.toInt at2_32.toInt) (.bad fl2_38.toInt)) := hq40
              have hP : va_P g.1 vwCl (List.flatten [bMo g o a th hi ac tp (-1) en at2_37 fl2_38 0 iD iO tU fm2_39 fk fa fc ft ff fb fi]) H := hP
              have hD : va_D A (List.flatten [bMo g o a th hi ac tp (-1) en at2_37 fl2_38 0 iD iO tU fm2_39 fk fa fc ft ff fb fi]) := hD
              refine W.widen (k := 0) (n := 0) (Nat.le_of_ble_eq_true rfl) (Nat.le_of_ble_eq_true rfl) ?_
              refine W.eq (g2 := F0 m 80 ls []) rfl ?_
              obtain ⟨rfm2_39, hq40_1, hq40_2, hq40_3, hq40_4⟩ := hq40
              rcases hq40_4 with ⟨rfl, hq40_k⟩ | ⟨hq40_k, hq40_km⟩
              · skip
                refine ziinc3 (n' := 1) (a' := 1) (b' := 17) (lv' := fun v9 => [(3, .int v9), (0, .ref o), (1, .int 0), (2, .int x_4)]) hx hb dX12_read_80 hl (k := 3) rfl (by decide) (fun _ => rfl) (zaddK (i := x_5.toInt) (j := 1) rfl (by decide) i10.1 i10.2 (Int.le_refl _) (Int.le_refl _) (by decide)) (fun x_41 ls hx_41 hl => ?_)
                refine lv_aload_n hx hb dX12_read_83 rfl (lv_at hl 1 rfl) ?_
                refine mcallV' (g := g) (q0 := 0) (ci := 10) (As := []) (rest := []) St hK hT hA hP hD hS hl.1 [0] [] rfl rfl rfl (m_skipF l g o a th hi ac tp en at2_37 (-1) 0 iD iO tU fm2_39 fk fa fc ft ff fb fi hen hq40_1 (by decide)) (cwV 0 hts (zgL (zl4 k884 k885 k886 k839) k877) rfl rfl rfl (by decide +kernel) ⟨Nat.le_of_ble_eq_true rfl, Nat.le_of_ble_eq_true rfl⟩) rfl rfl rfl rfl (Nat.le_of_ble_eq_true rfl) dX12_read_84 ⟨(Nat.le_of_ble_eq_true rfl), (Nat.le_of_ble_eq_true rfl)⟩ (fun at2_42 H locs hq43 hP hD hS => ?_)
                replace hq43 : (0 ≤ at2_42.toInt ∧ at2_42.toInt ≤ en.toInt + 7 - (0 : Int32).toInt) ∧ (at2_37.toInt ≤ at2_42.toInt) ∧ (zSk ft en.toInt at2_37.toInt at2_42.toInt) := hq43
                have hP : va_P g.1 vwCl (List.flatten [bMo g o a th hi ac tp (-1) en at2_42 (-1) 0 iD iO tU fm2_39 fk fa fc ft ff fb fi]) H := hP
                have hD : va_D A (List.flatten [bMo g o a th hi ac tp (-1) en at2_42 (-1) 0 iD iO tU fm2_39 fk fa fc ft ff fb fi]) := hD
                refine W.widen (k := 0) (n := 0) (Nat.le_of_ble_eq_true rfl) (Nat.le_of_ble_eq_true rfl) ?_
                refine W.eq (g2 := F0 m 87 ls []) rfl ?_
                obtain ⟨hq43_0, hq43_1, hq43_2⟩ := hq43
                refine lv_aload_n hx hb dX12_read_87 rfl (lv_at hl 1 rfl) ?_
                refine va_get (D := g.1) (ci := 10) (v := .int (-1)) (C := RX12) (T := TX12) (N := 20) hx hb hts izRX12 hown hK hP 0 rfl rfl 12 (by decide) (hts _ k820) (fun _ h9 => h9) rfl dX12_read_88 ?_
                refine lv_iconst (v := (-1)) hx hb dX12_read_91 (by decide) ?_
                refine lv_icmp_ne (tgt := 106) hx hb dX12_read_92 (by decide) (fun c44 => absurd (by decide) c44) (fun _ => ?_)
                refine lv_aload_n hx hb dX12_read_95 rfl (lv_at hl 1 rfl) ?_
                refine va_get (D := g.1) (ci := 10) (v := .int at2_42) (C := RX12) (T := TX12) (N := 20) hx hb hts izRX12 hown hK hP 0 rfl rfl 11 (by decide) (hts _ k878) (fun _ h9 => h9) rfl dX12_read_96 ?_
                refine lv_aload_n hx hb dX12_read_99 rfl (lv_at hl 1 rfl) ?_
                refine va_get (D := g.1) (ci := 10) (v := .int en) (C := RX12) (T := TX12) (N := 20) hx hb hts izRX12 hown hK hP 0 rfl rfl 10 (by decide) (hts _ k879) (fun _ h9 => h9) rfl dX12_read_100 ?_
                refine lv_icmp_ne (tgt := 111) hx hb dX12_read_103 (by decide) (fun cb9 => ?_) (fun cb9 => ?_)
                · skip
                  have c45 : ¬ at2_42.toInt = en.toInt := zne cb9 rfl rfl
                  refine lv_aload_n hx hb dX12_read_111 rfl (lv_at hl 1 rfl) ?_
                  refine lv_bipush (v := 59) hx hb dX12_read_112 (by decide) ?_
                  have hL59 : (59 : Int32).toInt = 59 := by decide
                  refine mcallV' (g := g) (q0 := 0) (ci := 10) (As := [.int 59]) (rest := []) St hK hT hA hP hD hS hl.1 [0] [] rfl rfl rfl (m_isSignF l g o a th hi ac tp en at2_42 (-1) 0 iD iO tU fm2_39 fk fa fc ft ff fb fi 59 hen hq43_0 (by decide) (by first | assumption | omega | decide | exact Or.inl (by decide) | exact Or.inr (by decide))) (cwV 1 hts (zgL (zl4 k938 k939 k940 k839) k883) rfl rfl rfl (by decide +kernel) ⟨Nat.le_of_ble_eq_true rfl, Nat.le_of_ble_eq_true rfl⟩) rfl rfl rfl rfl (Nat.le_of_ble_eq_true rfl) dX12_read_114 ⟨(Nat.le_of_ble_eq_true rfl), (Nat.le_of_ble_eq_true rfl)⟩ (fun u_ H locs hq48 hP hD hS => ?_)
                  obtain ⟨at2_46, q_47⟩ := u_
                  replace hq48 : (0 ≤ at2_46.toInt ∧ at2_46.toInt ≤ en.toInt + 7 - (0 : Int32).toInt) ∧ (at2_42.toInt ≤ at2_46.toInt) ∧ (zSk ft en.toInt at2_42.toInt at2_46.toInt) ∧ (q_47 = 1 ∧ zisS ft en.toInt at2_46.toInt (59 : Int32).toInt ∧ at2_46.toInt < en.toInt ∨ q_47 = 0 ∧ ¬ zisS ft en.toInt at2_46.toInt (59 : Int32).toInt) := hq48
                  have hP : va_P g.1 vwCl (List.flatten [bMo g o a th hi ac tp (-1) en at2_46 (-1) 0 iD iO tU fm2_39 fk fa fc ft ff fb fi]) H := hP
                  have hD : va_D A (List.flatten [bMo g o a th hi ac tp (-1) en at2_46 (-1) 0 iD iO tU fm2_39 fk fa fc ft ff fb fi]) := hD
                  refine W.widen (k := 0) (n := 0) (Nat.le_of_ble_eq_true rfl) (Nat.le_of_ble_eq_true rfl) ?_
                  refine W.eq (g2 := F0 m 117 ls [.int q_47]) rfl ?_
                  obtain ⟨hq48_0, hq48_1, hq48_2, hq48_3⟩ := hq48
                  rcases hq48_3 with ⟨rfl, hq48_k⟩ | ⟨rfl, hq48_k⟩
                  · skip
                    refine lv_if_eq (tgt := 133) hx hb dX12_read_117 (by decide) (fun c49 => absurd c49 (by decide)) (fun _ => ?_)
                    refine lv_aload_n hx hb dX12_read_120 rfl (lv_at hl 1 rfl) ?_
                    refine lv_dup hx hb dX12_read_121 rfl ?_
                    refine va_get (D := g.1) (ci := 10) (v := .int at2_46) (C := RX12) (T := TX12) (N := 20) hx hb hts izRX12 hown hK hP 0 rfl rfl 11 (by decide) (hts _ k878) (fun _ h9 => h9) rfl dX12_read_122 ?_
                    refine lv_iconst (v := 1) hx hb dX12_read_125 (by decide) ?_
                    refine lv_iadd hx hb dX12_read_126 ?_
                    refine zgv (zadd (i := at2_46.toInt) (j := 1) rfl (by decide) (by omega)) (fun x_50 hx_50 => ?_)
                    refine va_put (D := g.1) (ci := 10) (v := .int x_50) (ty := .int) (C := RX12) (T := TX12) (N := 20) hx hb hts izRX12 tyX12 tyX12_ok nmX12 hown hK hP hD hS 0 rfl rfl 11 (by decide) (hts _ k878) (fun _ h9 => h9) rfl (by decide +kernel) rfl rfl (Nat.le_of_ble_eq_true rfl) dX12_read_127 (fun H locs hP hD hS => ?_)
                    have hP : va_P g.1 vwCl (List.flatten [bMo g o a th hi ac tp (-1) en x_50 (-1) 0 iD iO tU fm2_39 fk fa fc ft ff fb fi]) H := hP
                    have hD : va_D A (List.flatten [bMo g o a th hi ac tp (-1) en x_50 (-1) 0 iD iO tU fm2_39 fk fa fc ft ff fb fi]) := hD
                    refine lv_goto (tgt := 23) hx hb dX12_read_130 (by decide) ?_
                    have hl := lv_sub (l' := [(0, .ref o), (1, .int 0), (2, .int x_4), (3, .int x_41)]) hl [1, 2, 3, 0] rfl
                    have hP : va_P g.1 vwCl (List.flatten [bMo g o a th hi ac tp (-1) en x_50 (-1) 0 iD iO tU fm2_39 fk fa fc ft ff fb fi]) H := hP
                    have hD : va_D A (List.flatten [bMo g o a th hi ac tp (-1) en x_50 (-1) 0 iD iO tU fm2_39 fk fa fc ft ff fb fi]) := hD
                    exact ih23_19 x_4 x_41 x_50 (-1) fm2_39 ⟨(Int.le_trans (by decide) n23), i9.2⟩ (by first | omega | assumption | decide) (by first | omega | assumption | decide) rfm2_39 (by first | omega | assumption | decide) (by first | omega | assumption | decide) (by first | omega | assumption | decide) (by first | omega | assumption | decide) (by first | omega | assumption | decide) (zTd_d (by omega) w28 w29 w30 hq33_2 hq40_k hq43_2 (by omega) hq48_2 hq48_k.1 (by decide) (by omega) (by decide) hx_41.1 (by omega)) H _ ls (by omega)  hP hD hS (lv_sub hl [0, 1, 2, 3] rfl)
                  · skip
                    refine lv_if_eq (tgt := 133) hx hb dX12_read_117 (by decide) (fun _ => ?_) (fun c51 => absurd (by decide) c51)
                    refine lv_aload_n hx hb dX12_read_133 rfl (lv_at hl 1 rfl) ?_
                    refine lv_aload_n hx hb dX12_read_134 rfl (lv_at hl 1 rfl) ?_
                    refine va_get (D := g.1) (ci := 10) (v := .int at2_46) (C := RX12) (T := TX12) (N := 20) hx hb hts izRX12 hown hK hP 0 rfl rfl 11 (by decide) (hts _ k878) (fun _ h9 => h9) rfl dX12_read_135 ?_
                    refine mcallV' (g := g) (q0 := 0) (ci := 10) (As := [.int at2_46]) (rest := []) St hK hT hA hP hD hS hl.1 [0] [] rfl rfl rfl (m_wrongF l g o a th hi ac tp (-1) en at2_46 0 iD iO tU fm2_39 fk fa fc ft ff fb fi at2_46 ) (cwV 1 hts (zgL (zl4 k895 k896 k897 k839) k890) rfl rfl rfl (by decide +kernel) ⟨Nat.le_of_ble_eq_true rfl, Nat.le_of_ble_eq_true rfl⟩) rfl rfl rfl rfl (Nat.le_of_ble_eq_true rfl) dX12_read_138 ⟨(Nat.le_of_ble_eq_true rfl), (Nat.le_of_ble_eq_true rfl)⟩ (fun _u H locs hq52 hP hD hS => ?_)
                    have hP : va_P g.1 vwCl (List.flatten [bMo g o a th hi ac tp (-1) en at2_46 at2_46 0 iD iO tU fm2_39 fk fa fc ft ff fb fi]) H := hP
                    have hD : va_D A (List.flatten [bMo g o a th hi ac tp (-1) en at2_46 at2_46 0 iD iO tU fm2_39 fk fa fc ft ff fb fi]) := hD
                    refine W.widen (k := 0) (n := 0) (Nat.le_of_ble_eq_true rfl) (Nat.le_of_ble_eq_true rfl) ?_
                    refine W.eq (g2 := F0 m 141 ls []) rfl ?_
                    refine lv_goto (tgt := 23) hx hb dX12_read_141 (by decide) ?_
                    have hl := lv_sub (l' := [(0, .ref o), (1, .int 0), (2, .int x_4), (3, .int x_41)]) hl [1, 2, 3, 0] rfl
                    have hP : va_P g.1 vwCl (List.flatten [bMo g o a th hi ac tp (-1) en at2_46 at2_46 0 iD iO tU fm2_39 fk fa fc ft ff fb fi]) H := hP
                    have hD : va_D A (List.flatten [bMo g o a th hi ac tp (-1) en at2_46 at2_46 0 iD iO tU fm2_39 fk fa fc ft ff fb fi]) := hD
                    exact ih23_19 x_4 x_41 at2_46 at2_46 fm2_39 ⟨(Int.le_trans (by decide) n23), i9.2⟩ (by first | omega | assumption | decide) (by first | omega | assumption | decide) rfm2_39 (by first | omega | assumption | decide) (by first | omega | assumption | decide) (by first | omega | assumption | decide) (by first | omega | assumption | decide) (by first | omega | assumption | decide) (zTd_e (by omega) w28 w29 w30 hq33_2 hq40_k hq43_2 (by omega) hq48_2 hq48_k (by decide) rfl) H _ ls (by omega)  hP hD hS (lv_sub hl [0, 1, 2, 3] rfl)
                · skip
                  have c53 : at2_42.toInt = en.toInt := zeq cb9 rfl rfl
                  have n54 : at2_42.toInt ≤ 400 := Int.le_trans (Int.le_of_eq c53) hen.2
                  refine lv_iconst (v := 0) hx hb dX12_read_106 (by decide) ?_
                  refine lv_istore_n (lv' := [(2, .int 0), (3, .int x_41), (0, .ref o), (1, .int 0)]) hx hb dX12_read_107 rfl hl (by decide) rfl (fun ls hl => ?_)
                  refine lv_goto (tgt := 23) hx hb dX12_read_108 (by decide) ?_
                  have hl := lv_sub (l' := [(0, .ref o), (1, .int 0), (2, .int 0), (3, .int x_41)]) hl [2, 3, 0, 1] rfl
                  have hLn1 : ((-1) : Int32).toInt = (-1) := by decide
                  have hP : va_P g.1 vwCl (List.flatten [bMo g o a th hi ac tp (-1) en at2_42 (-1) 0 iD iO tU fm2_39 fk fa fc ft ff fb fi]) H := hP
                  have hD : va_D A (List.flatten [bMo g o a th hi ac tp (-1) en at2_42 (-1) 0 iD iO tU fm2_39 fk fa fc ft ff fb fi]) := hD
                  exact ih23_19 0 x_41 at2_42 (-1) fm2_39 (by decide) (by first | omega | assumption | decide) (by first | omega | assumption | decide) rfm2_39 (by first | omega | assumption | decide) (by first | omega | assumption | decide) (by first | omega | assumption | decide) (by first | omega | assumption | decide) (by first | omega | assumption | decide) (zTd_c (by omega) w28 w29 w30 hq33_2 hq40_k hq43_2 (by omega) (by decide) (by decide) hx_41.1) H _ ls (by omega)  hP hD hS (lv_sub hl [0, 1, 2, 3] rfl)
              · skip
                refine ziinc3 (n' := 1) (a' := 1) (b' := 17) (lv' := fun v9 => [(3, .int v9), (0, .ref o), (1, .int 0), (2, .int x_4)]) hx hb dX12_read_80 hl (k := 3) rfl (by decide) (fun _ => rfl) (zaddK (i := x_5.toInt) (j := 1) rfl (by decide) i10.1 i10.2 (Int.le_refl _) (Int.le_refl _) (by decide)) (fun x_55 ls hx_55 hl => ?_)
                refine lv_aload_n hx hb dX12_read_83 rfl (lv_at hl 1 rfl) ?_
                refine mcallV' (g := g) (q0 := 0) (ci := 10) (As := []) (rest := []) St hK hT hA hP hD hS hl.1 [0] [] rfl rfl rfl (m_skipF l g o a th hi ac tp en at2_37 fl2_38 0 iD iO tU fm2_39 fk fa fc ft ff fb fi hen hq40_1 (by decide)) (cwV 0 hts (zgL (zl4 k884 k885 k886 k839) k877) rfl rfl rfl (by decide +kernel) ⟨Nat.le_of_ble_eq_true rfl, Nat.le_of_ble_eq_true rfl⟩) rfl rfl rfl rfl (Nat.le_of_ble_eq_true rfl) dX12_read_84 ⟨(Nat.le_of_ble_eq_true rfl), (Nat.le_of_ble_eq_true rfl)⟩ (fun at2_56 H locs hq57 hP hD hS => ?_)
                replace hq57 : (0 ≤ at2_56.toInt ∧ at2_56.toInt ≤ en.toInt + 7 - (0 : Int32).toInt) ∧ (at2_37.toInt ≤ at2_56.toInt) ∧ (zSk ft en.toInt at2_37.toInt at2_56.toInt) := hq57
                have hP : va_P g.1 vwCl (List.flatten [bMo g o a th hi ac tp (-1) en at2_56 fl2_38 0 iD iO tU fm2_39 fk fa fc ft ff fb fi]) H := hP
                have hD : va_D A (List.flatten [bMo g o a th hi ac tp (-1) en at2_56 fl2_38 0 iD iO tU fm2_39 fk fa fc ft ff fb fi]) := hD
                refine W.widen (k := 0) (n := 0) (Nat.le_of_ble_eq_true rfl) (Nat.le_of_ble_eq_true rfl) ?_
                refine W.eq (g2 := F0 m 87 ls []) rfl ?_
                obtain ⟨hq57_0, hq57_1, hq57_2⟩ := hq57
                refine lv_aload_n hx hb dX12_read_87 rfl (lv_at hl 1 rfl) ?_
                refine va_get (D := g.1) (ci := 10) (v := .int fl2_38) (C := RX12) (T := TX12) (N := 20) hx hb hts izRX12 hown hK hP 0 rfl rfl 12 (by decide) (hts _ k820) (fun _ h9 => h9) rfl dX12_read_88 ?_
                refine lv_iconst (v := (-1)) hx hb dX12_read_91 (by decide) ?_
                refine lv_icmp_ne (tgt := 106) hx hb dX12_read_92 (by decide) (fun cb9 => ?_) (fun cb9 => ?_)
                · skip
                  have c58 : ¬ fl2_38.toInt = (-1) := zne cb9 rfl (by decide)
                  refine lv_iconst (v := 0) hx hb dX12_read_106 (by decide) ?_
                  refine lv_istore_n (lv' := [(2, .int 0), (3, .int x_55), (0, .ref o), (1, .int 0)]) hx hb dX12_read_107 rfl hl (by decide) rfl (fun ls hl => ?_)
                  refine lv_goto (tgt := 23) hx hb dX12_read_108 (by decide) ?_
                  have hl := lv_sub (l' := [(0, .ref o), (1, .int 0), (2, .int 0), (3, .int x_55)]) hl [2, 3, 0, 1] rfl
                  have hP : va_P g.1 vwCl (List.flatten [bMo g o a th hi ac tp (-1) en at2_56 fl2_38 0 iD iO tU fm2_39 fk fa fc ft ff fb fi]) H := hP
                  have hD : va_D A (List.flatten [bMo g o a th hi ac tp (-1) en at2_56 fl2_38 0 iD iO tU fm2_39 fk fa fc ft ff fb fi]) := hD
                  exact ih23_19 0 x_55 at2_56 fl2_38 fm2_39 (by decide) (by first | omega | assumption | decide) (by first | omega | assumption | decide) rfm2_39 (by first | omega | assumption | decide) (by first | omega | assumption | decide) (by first | omega | assumption | decide) (by first | omega | assumption | decide) (by first | omega | assumption | decide) (zTd_b (by omega) w28 w29 w30 hq33_2 hq40_km hq40_k) H _ ls (by omega)  hP hD hS (lv_sub hl [0, 1, 2, 3] rfl)
                · skip
                  exact absurd (show fl2_38.toInt = (-1) from zeq cb9 rfl (by decide)) (zDeq2 (a := 0) (b := (-1)) hq40_k (Int.le_refl _) (by decide))
            · skip
              have c60 : x_5.toInt = 14 := zeq cb9 rfl (by decide)
              have n61 : 14 ≤ x_5.toInt := Int.le_trans (Int.le_refl _) (Int.le_of_eq c60.symm)
              have n62 : x_5.toInt ≤ 14 := Int.le_trans (Int.le_of_eq c60) (Int.le_refl _)
              refine lv_aload_n hx hb dX12_read_54 rfl (lv_at hl 0 rfl) ?_
              refine lv_aload_n hx hb dX12_read_55 rfl (lv_at hl 0 rfl) ?_
              refine va_get (D := g.1) (ci := 10) (v := .int at2_32) (C := RX12) (T := TX12) (N := 20) hx hb hts izRX12 hown hK hP 0 rfl rfl 11 (by decide) (hts _ k878) (fun _ h9 => h9) rfl dX12_read_56 ?_
              refine mcallV' (g := g) (q0 := 0) (ci := 10) (As := [.int at2_32]) (rest := []) St hK hT hA hP hD hS hl.1 [0] [] rfl rfl rfl (m_wrongF l g o a th hi ac tp (-1) en at2_32 0 iD iO tU fm_8 fk fa fc ft ff fb fi at2_32 ) (cwV 1 hts (zgL (zl4 k895 k896 k897 k839) k890) rfl rfl rfl (by decide +kernel) ⟨Nat.le_of_ble_eq_true rfl, Nat.le_of_ble_eq_true rfl⟩) rfl rfl rfl rfl (Nat.le_of_ble_eq_true rfl) dX12_read_59 ⟨(Nat.le_of_ble_eq_true rfl), (Nat.le_of_ble_eq_true rfl)⟩ (fun _u H locs hq63 hP hD hS => ?_)
              have hP : va_P g.1 vwCl (List.flatten [bMo g o a th hi ac tp (-1) en at2_32 at2_32 0 iD iO tU fm_8 fk fa fc ft ff fb fi]) H := hP
              have hD : va_D A (List.flatten [bMo g o a th hi ac tp (-1) en at2_32 at2_32 0 iD iO tU fm_8 fk fa fc ft ff fb fi]) := hD
              refine W.widen (k := 0) (n := 0) (Nat.le_of_ble_eq_true rfl) (Nat.le_of_ble_eq_true rfl) ?_
              refine W.eq (g2 := F0 m 62 ls []) rfl ?_
              refine lv_goto (tgt := 80) hx hb dX12_read_62 (by decide) ?_
              refine ziinc3 (n' := 1) (a' := 15) (b' := 15) (lv' := fun v9 => [(3, .int v9), (0, .ref o), (1, .int 0), (2, .int x_4)]) hx hb dX12_read_80 hl (k := 3) rfl (by decide) (fun _ => rfl) (zaddK (i := x_5.toInt) (j := 1) rfl (by decide) n61 n62 (Int.le_refl _) (Int.le_refl _) (by decide)) (fun x_64 ls hx_64 hl => ?_)
              refine lv_aload_n hx hb dX12_read_83 rfl (lv_at hl 1 rfl) ?_
              refine mcallV' (g := g) (q0 := 0) (ci := 10) (As := []) (rest := []) St hK hT hA hP hD hS hl.1 [0] [] rfl rfl rfl (m_skipF l g o a th hi ac tp en at2_32 at2_32 0 iD iO tU fm_8 fk fa fc ft ff fb fi hen hq33_0 (by decide)) (cwV 0 hts (zgL (zl4 k884 k885 k886 k839) k877) rfl rfl rfl (by decide +kernel) ⟨Nat.le_of_ble_eq_true rfl, Nat.le_of_ble_eq_true rfl⟩) rfl rfl rfl rfl (Nat.le_of_ble_eq_true rfl) dX12_read_84 ⟨(Nat.le_of_ble_eq_true rfl), (Nat.le_of_ble_eq_true rfl)⟩ (fun at2_65 H locs hq66 hP hD hS => ?_)
              replace hq66 : (0 ≤ at2_65.toInt ∧ at2_65.toInt ≤ en.toInt + 7 - (0 : Int32).toInt) ∧ (at2_32.toInt ≤ at2_65.toInt) ∧ (zSk ft en.toInt at2_32.toInt at2_65.toInt) := hq66
              have hP : va_P g.1 vwCl (List.flatten [bMo g o a th hi ac tp (-1) en at2_65 at2_32 0 iD iO tU fm_8 fk fa fc ft ff fb fi]) H := hP
              have hD : va_D A (List.flatten [bMo g o a th hi ac tp (-1) en at2_65 at2_32 0 iD iO tU fm_8 fk fa fc ft ff fb fi]) := hD
              refine W.widen (k := 0) (n := 0) (Nat.le_of_ble_eq_true rfl) (Nat.le_of_ble_eq_true rfl) ?_
              refine W.eq (g2 := F0 m 87 ls []) rfl ?_
              obtain ⟨hq66_0, hq66_1, hq66_2⟩ := hq66
              refine lv_aload_n hx hb dX12_read_87 rfl (lv_at hl 1 rfl) ?_
              refine va_get (D := g.1) (ci := 10) (v := .int at2_32) (C := RX12) (T := TX12) (N := 20) hx hb hts izRX12 hown hK hP 0 rfl rfl 12 (by decide) (hts _ k820) (fun _ h9 => h9) rfl dX12_read_88 ?_
              refine lv_iconst (v := (-1)) hx hb dX12_read_91 (by decide) ?_
              refine lv_icmp_ne (tgt := 106) hx hb dX12_read_92 (by decide) (fun cb9 => ?_) (fun cb9 => ?_)
              · skip
                have c67 : ¬ at2_32.toInt = (-1) := zne cb9 rfl (by decide)
                refine lv_iconst (v := 0) hx hb dX12_read_106 (by decide) ?_
                refine lv_istore_n (lv' := [(2, .int 0), (3, .int x_64), (0, .ref o), (1, .int 0)]) hx hb dX12_read_107 rfl hl (by decide) rfl (fun ls hl => ?_)
                refine lv_goto (tgt := 23) hx hb dX12_read_108 (by decide) ?_
                have hl := lv_sub (l' := [(0, .ref o), (1, .int 0), (2, .int 0), (3, .int x_64)]) hl [2, 3, 0, 1] rfl
                have hP : va_P g.1 vwCl (List.flatten [bMo g o a th hi ac tp (-1) en at2_65 at2_32 0 iD iO tU fm_8 fk fa fc ft ff fb fi]) H := hP
                have hD : va_D A (List.flatten [bMo g o a th hi ac tp (-1) en at2_65 at2_32 0 iD iO tU fm_8 fk fa fc ft ff fb fi]) := hD
                exact ih23_19 0 x_64 at2_65 at2_32 fm_8 (by decide) ⟨(Int.le_trans (by decide) hx_64.2.1), (Int.le_trans hx_64.2.2 (by decide))⟩ (by first | omega | assumption | decide) rfm_8 (by first | omega | assumption | decide) (by first | omega | assumption | decide) (by first | omega | assumption | decide) (by first | omega | assumption | decide) i16 (zTd_a (by omega) w29 w30 hq33_2 rfl) H _ ls (by omega)  hP hD hS (lv_sub hl [0, 1, 2, 3] rfl)
              · skip
                exact absurd (show at2_32.toInt = (-1) from zeq cb9 rfl (by decide)) (by omega)
    have hLn1 : ((-1) : Int32).toInt = (-1) := by decide
    have hP : va_P g.1 vwCl (List.flatten [bMo g o a th hi ac tp (-1) en at2_1 (-1) 0 iD iO tU fm fk fa fc ft ff fb fi]) H := hP
    have hD : va_D A (List.flatten [bMo g o a th hi ac tp (-1) en at2_1 (-1) 0 iD iO tU fm fk fa fc ft ff fb fi]) := hD
    exact LP23_18 _ 0 0 at2_1 (-1) fm (by decide) (by decide) (by first | omega | assumption | decide) rfm (by first | omega | assumption | decide) hq2_1 (by first | omega | assumption | decide) (by first | omega | assumption | decide) (by first | omega | assumption | decide) (zTd_i0 (by decide) (by decide) (by decide) hq2_2 (by omega) rfl rfl) H _ ls (Nat.lt_succ_self _)  hP hD hS (lv_sub hl [0, 1, 2, 3] rfl)
  · skip
    have c69 : at2_1.toInt < en.toInt := zlti (Int32.not_le.mp cb9) rfl rfl
    have n70 : at2_1.toInt ≤ 399 := zL1 (b := 400) c69 hen.2 (by decide)
    refine lv_iconst (v := 1) hx hb dX12_read_15 (by decide) ?_
    refine lv_goto (tgt := 20) hx hb dX12_read_16 (by decide) ?_
    refine lv_istore_n (lv' := [(2, .int 1), (0, .ref o), (1, .int 0)]) hx hb dX12_read_20 rfl hl (by decide) rfl (fun ls hl => ?_)
    refine lv_iconst (v := 0) hx hb dX12_read_21 (by decide) ?_
    refine lv_istore_n (lv' := [(3, .int 0), (2, .int 1), (0, .ref o), (1, .int 0)]) hx hb dX12_read_22 rfl hl (by decide) rfl (fun ls hl => ?_)
    have hl := lv_sub (l' := [(0, .ref o), (1, .int 0), (2, .int 1), (3, .int 0)]) hl [2, 3, 1, 0] rfl
    have LP23_85 : ∀ (kf : Nat) (x_71 : Int32) (x_72 : Int32) (x_73 : Int32) (x_74 : Int32) (fm_75 : Nat → Int32), (0 ≤ x_71.toInt ∧ x_71.toInt ≤ 1) → (0 ≤ x_72.toInt ∧ x_72.toInt ≤ 16) → (0 ≤ x_73.toInt ∧ x_73.toInt ≤ 408) → (rM fm_75) → (x_71.toInt = 0 ∨ ¬ x_74.toInt = -1 ∨ x_72.toInt ≤ 14) → (tA.toInt ≤ x_73.toInt) → (x_73.toInt ≤ en.toInt + 7 - 0) → (-1 ≤ x_74.toInt) → ((fm_75 0).toInt = (fm 0).toInt) → (zTd ft en.toInt tA.toInt (fm 3).toInt (fm 4).toInt x_71.toInt x_74.toInt x_72.toInt x_73.toInt (fm_75 3).toInt (fm_75 4).toInt) → ∀ (H : Heap) (locs : List Loc) (ls : Array Slot), ((17 - x_72.toInt).toNat) < kf → va_P g.1 vwCl (List.flatten [bMo g o a th hi ac tp (-1) en x_73 x_74 0 iD iO tU fm_75 fk fa fc ft ff fb fi]) H → va_D A (List.flatten [bMo g o a th hi ac tp (-1) en x_73 x_74 0 iD iO tU fm_75 fk fa fc ft ff fb fi]) → va_S A s.heap H locs → lv_has ls 4 [(0, .ref o), (1, .int 0), (2, .int x_71), (3, .int x_72)] → W p l e ({ frames := 8, cells := 0, slots := 0, locals := 178 } : Room) s m args below meth c H locs (0) (0) (zF g (fun u : Int32 × Int32 × (Nat → Int32) × Int32 => (fun (at2 : Int32) (fl2 : Int32) (fm2 : Nat → Int32) (q : Int32) => some (.int q)) (u.1) (u.2.1) (u.2.2.1) (u.2.2.2)) (fun u : Int32 × Int32 × (Nat → Int32) × Int32 => (fun (at2 : Int32) (fl2 : Int32) (fm2 : Nat → Int32) (q : Int32) => (rM fm2) ∧ (0 ≤ at2.toInt ∧ at2.toInt ≤ en.toInt + 7 - 0) ∧ (tA.toInt ≤ at2.toInt) ∧ ((fm2 0).toInt = (fm 0).toInt) ∧ ((-1) = fl2 ∧ zTwR ft en.toInt tA.toInt (fm 3).toInt (fm 4).toInt (fm2 3).toInt (fm2 4).toInt ∨ 0 ≤ fl2.toInt ∧ zTwB ft en.toInt tA.toInt (fm 3).toInt (fm 4).toInt fl2.toInt)) (u.1) (u.2.1) (u.2.2.1) (u.2.2.2)) (fun u : Int32 × Int32 × (Nat → Int32) × Int32 => (fun (at2 : Int32) (fl2 : Int32) (fm2 : Nat → Int32) (q : Int32) => [bMo g o a th hi ac tp (-1) en at2 fl2 0 iD iO tU fm2 fk fa fc ft ff fb fi]) (u.1) (u.2.1) (u.2.2.1) (u.2.2.2)) ({ frames := 8, cells := 0, slots := 0, locals := 178 } : Room) below args s A) (F0 m 23 ls []) := by
      intro kf
      induction kf with
      | zero => intro x_71 x_72 x_73 x_74 fm_75 i76 i77 i78 rfm_75 i79 i80 i81 i82 i83 i84 H locs ls hk; exact absurd hk (Nat.not_lt_zero _)
      | succ kf ih23_86 =>
        intro x_71 x_72 x_73 x_74 fm_75 i76 i77 i78 rfm_75 i79 i80 i81 i82 i83 i84 H locs ls hk23_86 hP hD hS hl
        refine lv_iload_n hx hb dX12_read_23 rfl (lv_at hl 2 rfl) ?_
        refine lv_if_eq (tgt := 144) hx hb dX12_read_24 (by decide) (fun cb9 => ?_) (fun cb9 => ?_)
        · skip
          have c87 : x_71.toInt = 0 := zeq cb9 rfl (by decide)
          have n88 : x_71.toInt ≤ 0 := Int.le_trans (Int.le_of_eq c87) (Int.le_refl _)
          refine lv_iload_n hx hb dX12_read_144 rfl (lv_at hl 3 rfl) ?_
          have hP : va_P g.1 vwCl (List.flatten [bMo g o a th hi ac tp (-1) en x_73 x_74 0 iD iO tU fm_75 fk fa fc ft ff fb fi]) H := hP
          have hD : va_D A (List.flatten [bMo g o a th hi ac tp (-1) en x_73 x_74 0 iD iO tU fm_75 fk fa fc ft ff fb fi]) := hD
          exact mret_i hx hb hr hlocks hS (Nat.le_of_ble_eq_true rfl) (Nat.le_of_ble_eq_true rfl) dX12_read_145 (x_73, x_74, fm_75, x_72) rfl (show (rM fm_75) ∧ (0 ≤ x_73.toInt ∧ x_73.toInt ≤ en.toInt + 7 - 0) ∧ (tA.toInt ≤ x_73.toInt) ∧ ((fm_75 0).toInt = (fm 0).toInt) ∧ ((-1) = x_74 ∧ zTwR ft en.toInt tA.toInt (fm 3).toInt (fm 4).toInt (fm_75 3).toInt (fm_75 4).toInt ∨ 0 ≤ x_74.toInt ∧ zTwB ft en.toInt tA.toInt (fm 3).toInt (fm 4).toInt x_74.toInt) from ⟨(by first | assumption | omega | exact Or.inl (by decide) | exact Or.inr (by omega) | decide), (by first | assumption | omega | exact Or.inl (by decide) | exact Or.inr (by omega) | decide), (by first | assumption | omega | exact Or.inl (by decide) | exact Or.inr (by omega) | decide), (by first | assumption | omega | exact Or.inl (by decide) | exact Or.inr (by omega) | decide), zTd_x i84 (Or.inl (by omega))⟩) hP hD
        · skip
          have c89 : ¬ x_71.toInt = 0 := zne cb9 rfl (by decide)
          have n90 : 1 ≤ x_71.toInt := zN1 c89 i76.1 (by decide)
          refine lv_aload_n hx hb dX12_read_27 rfl (lv_at hl 0 rfl) ?_
          refine va_get (D := g.1) (ci := 10) (v := .int x_74) (C := RX12) (T := TX12) (N := 20) hx hb hts izRX12 hown hK hP 0 rfl rfl 12 (by decide) (hts _ k820) (fun _ h9 => h9) rfl dX12_read_28 ?_
          refine lv_iconst (v := (-1)) hx hb dX12_read_31 (by decide) ?_
          refine lv_icmp_ne (tgt := 144) hx hb dX12_read_32 (by decide) (fun cb9 => ?_) (fun cb9 => ?_)
          · skip
            have c91 : ¬ x_74.toInt = (-1) := zne cb9 rfl (by decide)
            refine lv_iload_n hx hb dX12_read_144 rfl (lv_at hl 3 rfl) ?_
            have hP : va_P g.1 vwCl (List.flatten [bMo g o a th hi ac tp (-1) en x_73 x_74 0 iD iO tU fm_75 fk fa fc ft ff fb fi]) H := hP
            have hD : va_D A (List.flatten [bMo g o a th hi ac tp (-1) en x_73 x_74 0 iD iO tU fm_75 fk fa fc ft ff fb fi]) := hD
            exact mret_i hx hb hr hlocks hS (Nat.le_of_ble_eq_true rfl) (Nat.le_of_ble_eq_true rfl) dX12_read_145 (x_73, x_74, fm_75, x_72) rfl (show (rM fm_75) ∧ (0 ≤ x_73.toInt ∧ x_73.toInt ≤ en.toInt + 7 - 0) ∧ (tA.toInt ≤ x_73.toInt) ∧ ((fm_75 0).toInt = (fm 0).toInt) ∧ ((-1) = x_74 ∧ zTwR ft en.toInt tA.toInt (fm 3).toInt (fm 4).toInt (fm_75 3).toInt (fm_75 4).toInt ∨ 0 ≤ x_74.toInt ∧ zTwB ft en.toInt tA.toInt (fm 3).toInt (fm 4).toInt x_74.toInt) from ⟨(by first | assumption | omega | exact Or.inl (by decide) | exact Or.inr (by omega) | decide), (by first | assumption | omega | exact Or.inl (by decide) | exact Or.inr (by omega) | decide), (by first | assumption | omega | exact Or.inl (by decide) | exact Or.inr (by omega) | decide), (by first | assumption | omega | exact Or.inl (by decide) | exact Or.inr (by omega) | decide), zTd_x i84 (Or.inr (by omega))⟩) hP hD
          · skip
            have c92 : x_74.toInt = (-1) := zeq cb9 rfl (by decide)
            have n93 : (-1) ≤ x_74.toInt := Int.le_trans (Int.le_refl _) (Int.le_of_eq c92.symm)
            have n94 : x_74.toInt ≤ (-1) := Int.le_trans (Int.le_of_eq c92) (Int.le_refl _)
            obtain ⟨w95, w96, w97⟩ := zTd_A i84 (by omega) (by omega)
            have w98 : x_74 = -1 := (zm1 (by omega)).symm
            subst w98
            refine lv_aload_n hx hb dX12_read_35 rfl (lv_at hl 0 rfl) ?_
            refine mcallV' (g := g) (q0 := 0) (ci := 10) (As := []) (rest := []) St hK hT hA hP hD hS hl.1 [0] [] rfl rfl rfl (m_skipF l g o a th hi ac tp en x_73 (-1) 0 iD iO tU fm_75 fk fa fc ft ff fb fi hen (by first | assumption | omega | decide | exact Or.inl (by decide) | exact Or.inr (by decide)) (by decide)) (cwV 0 hts (zgL (zl4 k884 k885 k886 k839) k877) rfl rfl rfl (by decide +kernel) ⟨Nat.le_of_ble_eq_true rfl, Nat.le_of_ble_eq_true rfl⟩) rfl rfl rfl rfl (Nat.le_of_ble_eq_true rfl) dX12_read_36 ⟨(Nat.le_of_ble_eq_true rfl), (Nat.le_of_ble_eq_true rfl)⟩ (fun at2_99 H locs hq100 hP hD hS => ?_)
            replace hq100 : (0 ≤ at2_99.toInt ∧ at2_99.toInt ≤ en.toInt + 7 - (0 : Int32).toInt) ∧ (x_73.toInt ≤ at2_99.toInt) ∧ (zSk ft en.toInt x_73.toInt at2_99.toInt) := hq100
            have hP : va_P g.1 vwCl (List.flatten [bMo g o a th hi ac tp (-1) en at2_99 (-1) 0 iD iO tU fm_75 fk fa fc ft ff fb fi]) H := hP
            have hD : va_D A (List.flatten [bMo g o a th hi ac tp (-1) en at2_99 (-1) 0 iD iO tU fm_75 fk fa fc ft ff fb fi]) := hD
            refine W.widen (k := 0) (n := 0) (Nat.le_of_ble_eq_true rfl) (Nat.le_of_ble_eq_true rfl) ?_
            refine W.eq (g2 := F0 m 39 ls []) rfl ?_
            obtain ⟨hq100_0, hq100_1, hq100_2⟩ := hq100
            refine lv_iload_n hx hb dX12_read_39 rfl (lv_at hl 3 rfl) ?_
            refine lv_iload_n hx hb dX12_read_40 rfl (lv_at hl 1 rfl) ?_
            refine lv_if_eq (tgt := 49) hx hb dX12_read_41 (by decide) (fun _ => ?_) (fun c101 => absurd (by decide) c101)
            refine lv_bipush (v := 14) hx hb dX12_read_49 (by decide) ?_
            refine lv_icmp_ne (tgt := 65) hx hb dX12_read_51 (by decide) (fun cb9 => ?_) (fun cb9 => ?_)
            · skip
              have c102 : ¬ x_72.toInt = 14 := zne cb9 rfl (by decide)
              refine lv_iload_n hx hb dX12_read_65 rfl (lv_at hl 1 rfl) ?_
              refine lv_if_eq (tgt := 76) hx hb dX12_read_66 (by decide) (fun _ => ?_) (fun c103 => absurd (by decide) c103)
              refine lv_aload_n hx hb dX12_read_76 rfl (lv_at hl 0 rfl) ?_
              refine mcallV' (g := g) (q0 := 0) (ci := 10) (As := []) (rest := []) St hK hT hA hP hD hS hl.1 [0] [] rfl rfl rfl (m_townLineF l g o a th hi ac tp en at2_99 0 iD iO tU fm_75 fk fa fc ft ff fb fi rfm_75 hen hq100_0 (by decide)) (cwV 0 hts (zgL (zl4 k968 k969 k970 k839) k931) rfl rfl rfl (by decide +kernel) ⟨Nat.le_of_ble_eq_true rfl, Nat.le_of_ble_eq_true rfl⟩) rfl rfl rfl rfl (Nat.le_of_ble_eq_true rfl) dX12_read_77 ⟨(Nat.le_of_ble_eq_true rfl), (Nat.le_of_ble_eq_true rfl)⟩ (fun u_ H locs hq107 hP hD hS => ?_)
              obtain ⟨at2_104, fl2_105, fm2_106⟩ := u_
              replace hq107 : (rM fm2_106) ∧ (0 ≤ at2_104.toInt ∧ at2_104.toInt ≤ en.toInt + 7 - (0 : Int32).toInt) ∧ (at2_99.toInt ≤ at2_104.toInt) ∧ ((fm2_106 0).toInt = (fm_75 0).toInt) ∧ ((-1) = fl2_105 ∧ zTO (zTLine ft en.toInt (fm_75 3).toInt (fm_75 4).toInt (zbg ft en.toInt at2_99.toInt)) (zbg ft en.toInt at2_104.toInt) (fm_75 3).toInt (fm2_106 3).toInt (fm_75 4).toInt (fm2_106 4).toInt ∨ 0 ≤ fl2_105.toInt ∧ zTLine ft en.toInt (fm_75 3).toInt (fm_75 4).toInt (zbg ft en.toInt at2_99.toInt) (.bad fl2_105.toInt)) := hq107
              have hP : va_P g.1 vwCl (List.flatten [bMo g o a th hi ac tp (-1) en at2_104 fl2_105 0 iD iO tU fm2_106 fk fa fc ft ff fb fi]) H := hP
              have hD : va_D A (List.flatten [bMo g o a th hi ac tp (-1) en at2_104 fl2_105 0 iD iO tU fm2_106 fk fa fc ft ff fb fi]) := hD
              refine W.widen (k := 0) (n := 0) (Nat.le_of_ble_eq_true rfl) (Nat.le_of_ble_eq_true rfl) ?_
              refine W.eq (g2 := F0 m 80 ls []) rfl ?_
              obtain ⟨rfm2_106, hq107_1, hq107_2, hq107_3, hq107_4⟩ := hq107
              rcases hq107_4 with ⟨rfl, hq107_k⟩ | ⟨hq107_k, hq107_km⟩
              · skip
                refine ziinc3 (n' := 1) (a' := 1) (b' := 17) (lv' := fun v9 => [(3, .int v9), (0, .ref o), (1, .int 0), (2, .int x_71)]) hx hb dX12_read_80 hl (k := 3) rfl (by decide) (fun _ => rfl) (zaddK (i := x_72.toInt) (j := 1) rfl (by decide) i77.1 i77.2 (Int.le_refl _) (Int.le_refl _) (by decide)) (fun x_108 ls hx_108 hl => ?_)
                refine lv_aload_n hx hb dX12_read_83 rfl (lv_at hl 1 rfl) ?_
                refine mcallV' (g := g) (q0 := 0) (ci := 10) (As := []) (rest := []) St hK hT hA hP hD hS hl.1 [0] [] rfl rfl rfl (m_skipF l g o a th hi ac tp en at2_104 (-1) 0 iD iO tU fm2_106 fk fa fc ft ff fb fi hen hq107_1 (by decide)) (cwV 0 hts (zgL (zl4 k884 k885 k886 k839) k877) rfl rfl rfl (by decide +kernel) ⟨Nat.le_of_ble_eq_true rfl, Nat.le_of_ble_eq_true rfl⟩) rfl rfl rfl rfl (Nat.le_of_ble_eq_true rfl) dX12_read_84 ⟨(Nat.le_of_ble_eq_true rfl), (Nat.le_of_ble_eq_true rfl)⟩ (fun at2_109 H locs hq110 hP hD hS => ?_)
                replace hq110 : (0 ≤ at2_109.toInt ∧ at2_109.toInt ≤ en.toInt + 7 - (0 : Int32).toInt) ∧ (at2_104.toInt ≤ at2_109.toInt) ∧ (zSk ft en.toInt at2_104.toInt at2_109.toInt) := hq110
                have hP : va_P g.1 vwCl (List.flatten [bMo g o a th hi ac tp (-1) en at2_109 (-1) 0 iD iO tU fm2_106 fk fa fc ft ff fb fi]) H := hP
                have hD : va_D A (List.flatten [bMo g o a th hi ac tp (-1) en at2_109 (-1) 0 iD iO tU fm2_106 fk fa fc ft ff fb fi]) := hD
                refine W.widen (k := 0) (n := 0) (Nat.le_of_ble_eq_true rfl) (Nat.le_of_ble_eq_true rfl) ?_
                refine W.eq (g2 := F0 m 87 ls []) rfl ?_
                obtain ⟨hq110_0, hq110_1, hq110_2⟩ := hq110
                refine lv_aload_n hx hb dX12_read_87 rfl (lv_at hl 1 rfl) ?_
                refine va_get (D := g.1) (ci := 10) (v := .int (-1)) (C := RX12) (T := TX12) (N := 20) hx hb hts izRX12 hown hK hP 0 rfl rfl 12 (by decide) (hts _ k820) (fun _ h9 => h9) rfl dX12_read_88 ?_
                refine lv_iconst (v := (-1)) hx hb dX12_read_91 (by decide) ?_
                refine lv_icmp_ne (tgt := 106) hx hb dX12_read_92 (by decide) (fun c111 => absurd (by decide) c111) (fun _ => ?_)
                refine lv_aload_n hx hb dX12_read_95 rfl (lv_at hl 1 rfl) ?_
                refine va_get (D := g.1) (ci := 10) (v := .int at2_109) (C := RX12) (T := TX12) (N := 20) hx hb hts izRX12 hown hK hP 0 rfl rfl 11 (by decide) (hts _ k878) (fun _ h9 => h9) rfl dX12_read_96 ?_
                refine lv_aload_n hx hb dX12_read_99 rfl (lv_at hl 1 rfl) ?_
                refine va_get (D := g.1) (ci := 10) (v := .int en) (C := RX12) (T := TX12) (N := 20) hx hb hts izRX12 hown hK hP 0 rfl rfl 10 (by decide) (hts _ k879) (fun _ h9 => h9) rfl dX12_read_100 ?_
                refine lv_icmp_ne (tgt := 111) hx hb dX12_read_103 (by decide) (fun cb9 => ?_) (fun cb9 => ?_)
                · skip
                  have c112 : ¬ at2_109.toInt = en.toInt := zne cb9 rfl rfl
                  refine lv_aload_n hx hb dX12_read_111 rfl (lv_at hl 1 rfl) ?_
                  refine lv_bipush (v := 59) hx hb dX12_read_112 (by decide) ?_
                  have hL59 : (59 : Int32).toInt = 59 := by decide
                  refine mcallV' (g := g) (q0 := 0) (ci := 10) (As := [.int 59]) (rest := []) St hK hT hA hP hD hS hl.1 [0] [] rfl rfl rfl (m_isSignF l g o a th hi ac tp en at2_109 (-1) 0 iD iO tU fm2_106 fk fa fc ft ff fb fi 59 hen hq110_0 (by decide) (by first | assumption | omega | decide | exact Or.inl (by decide) | exact Or.inr (by decide))) (cwV 1 hts (zgL (zl4 k938 k939 k940 k839) k883) rfl rfl rfl (by decide +kernel) ⟨Nat.le_of_ble_eq_true rfl, Nat.le_of_ble_eq_true rfl⟩) rfl rfl rfl rfl (Nat.le_of_ble_eq_true rfl) dX12_read_114 ⟨(Nat.le_of_ble_eq_true rfl), (Nat.le_of_ble_eq_true rfl)⟩ (fun u_ H locs hq115 hP hD hS => ?_)
                  obtain ⟨at2_113, q_114⟩ := u_
                  replace hq115 : (0 ≤ at2_113.toInt ∧ at2_113.toInt ≤ en.toInt + 7 - (0 : Int32).toInt) ∧ (at2_109.toInt ≤ at2_113.toInt) ∧ (zSk ft en.toInt at2_109.toInt at2_113.toInt) ∧ (q_114 = 1 ∧ zisS ft en.toInt at2_113.toInt (59 : Int32).toInt ∧ at2_113.toInt < en.toInt ∨ q_114 = 0 ∧ ¬ zisS ft en.toInt at2_113.toInt (59 : Int32).toInt) := hq115
                  have hP : va_P g.1 vwCl (List.flatten [bMo g o a th hi ac tp (-1) en at2_113 (-1) 0 iD iO tU fm2_106 fk fa fc ft ff fb fi]) H := hP
                  have hD : va_D A (List.flatten [bMo g o a th hi ac tp (-1) en at2_113 (-1) 0 iD iO tU fm2_106 fk fa fc ft ff fb fi]) := hD
                  refine W.widen (k := 0) (n := 0) (Nat.le_of_ble_eq_true rfl) (Nat.le_of_ble_eq_true rfl) ?_
                  refine W.eq (g2 := F0 m 117 ls [.int q_114]) rfl ?_
                  obtain ⟨hq115_0, hq115_1, hq115_2, hq115_3⟩ := hq115
                  rcases hq115_3 with ⟨rfl, hq115_k⟩ | ⟨rfl, hq115_k⟩
                  · skip
                    refine lv_if_eq (tgt := 133) hx hb dX12_read_117 (by decide) (fun c116 => absurd c116 (by decide)) (fun _ => ?_)
                    refine lv_aload_n hx hb dX12_read_120 rfl (lv_at hl 1 rfl) ?_
                    refine lv_dup hx hb dX12_read_121 rfl ?_
                    refine va_get (D := g.1) (ci := 10) (v := .int at2_113) (C := RX12) (T := TX12) (N := 20) hx hb hts izRX12 hown hK hP 0 rfl rfl 11 (by decide) (hts _ k878) (fun _ h9 => h9) rfl dX12_read_122 ?_
                    refine lv_iconst (v := 1) hx hb dX12_read_125 (by decide) ?_
                    refine lv_iadd hx hb dX12_read_126 ?_
                    refine zgv (zadd (i := at2_113.toInt) (j := 1) rfl (by decide) (by omega)) (fun x_117 hx_117 => ?_)
                    refine va_put (D := g.1) (ci := 10) (v := .int x_117) (ty := .int) (C := RX12) (T := TX12) (N := 20) hx hb hts izRX12 tyX12 tyX12_ok nmX12 hown hK hP hD hS 0 rfl rfl 11 (by decide) (hts _ k878) (fun _ h9 => h9) rfl (by decide +kernel) rfl rfl (Nat.le_of_ble_eq_true rfl) dX12_read_127 (fun H locs hP hD hS => ?_)
                    have hP : va_P g.1 vwCl (List.flatten [bMo g o a th hi ac tp (-1) en x_117 (-1) 0 iD iO tU fm2_106 fk fa fc ft ff fb fi]) H := hP
                    have hD : va_D A (List.flatten [bMo g o a th hi ac tp (-1) en x_117 (-1) 0 iD iO tU fm2_106 fk fa fc ft ff fb fi]) := hD
                    refine lv_goto (tgt := 23) hx hb dX12_read_130 (by decide) ?_
                    have hl := lv_sub (l' := [(0, .ref o), (1, .int 0), (2, .int x_71), (3, .int x_108)]) hl [1, 2, 3, 0] rfl
                    have hP : va_P g.1 vwCl (List.flatten [bMo g o a th hi ac tp (-1) en x_117 (-1) 0 iD iO tU fm2_106 fk fa fc ft ff fb fi]) H := hP
                    have hD : va_D A (List.flatten [bMo g o a th hi ac tp (-1) en x_117 (-1) 0 iD iO tU fm2_106 fk fa fc ft ff fb fi]) := hD
                    exact ih23_86 x_71 x_108 x_117 (-1) fm2_106 ⟨(Int.le_trans (by decide) n90), i76.2⟩ (by first | omega | assumption | decide) (by first | omega | assumption | decide) rfm2_106 (by first | omega | assumption | decide) (by first | omega | assumption | decide) (by first | omega | assumption | decide) (by first | omega | assumption | decide) (by first | omega | assumption | decide) (zTd_d (by omega) w95 w96 w97 hq100_2 hq107_k hq110_2 (by omega) hq115_2 hq115_k.1 (by decide) (by omega) (by decide) hx_108.1 (by omega)) H _ ls (by omega)  hP hD hS (lv_sub hl [0, 1, 2, 3] rfl)
                  · skip
                    refine lv_if_eq (tgt := 133) hx hb dX12_read_117 (by decide) (fun _ => ?_) (fun c118 => absurd (by decide) c118)
                    refine lv_aload_n hx hb dX12_read_133 rfl (lv_at hl 1 rfl) ?_
                    refine lv_aload_n hx hb dX12_read_134 rfl (lv_at hl 1 rfl) ?_
                    refine va_get (D := g.1) (ci := 10) (v := .int at2_113) (C := RX12) (T := TX12) (N := 20) hx hb hts izRX12 hown hK hP 0 rfl rfl 11 (by decide) (hts _ k878) (fun _ h9 => h9) rfl dX12_read_135 ?_
                    refine mcallV' (g := g) (q0 := 0) (ci := 10) (As := [.int at2_113]) (rest := []) St hK hT hA hP hD hS hl.1 [0] [] rfl rfl rfl (m_wrongF l g o a th hi ac tp (-1) en at2_113 0 iD iO tU fm2_106 fk fa fc ft ff fb fi at2_113 ) (cwV 1 hts (zgL (zl4 k895 k896 k897 k839) k890) rfl rfl rfl (by decide +kernel) ⟨Nat.le_of_ble_eq_true rfl, Nat.le_of_ble_eq_true rfl⟩) rfl rfl rfl rfl (Nat.le_of_ble_eq_true rfl) dX12_read_138 ⟨(Nat.le_of_ble_eq_true rfl), (Nat.le_of_ble_eq_true rfl)⟩ (fun _u H locs hq119 hP hD hS => ?_)
                    have hP : va_P g.1 vwCl (List.flatten [bMo g o a th hi ac tp (-1) en at2_113 at2_113 0 iD iO tU fm2_106 fk fa fc ft ff fb fi]) H := hP
                    have hD : va_D A (List.flatten [bMo g o a th hi ac tp (-1) en at2_113 at2_113 0 iD iO tU fm2_106 fk fa fc ft ff fb fi]) := hD
                    refine W.widen (k := 0) (n := 0) (Nat.le_of_ble_eq_true rfl) (Nat.le_of_ble_eq_true rfl) ?_
                    refine W.eq (g2 := F0 m 141 ls []) rfl ?_
                    refine lv_goto (tgt := 23) hx hb dX12_read_141 (by decide) ?_
                    have hl := lv_sub (l' := [(0, .ref o), (1, .int 0), (2, .int x_71), (3, .int x_108)]) hl [1, 2, 3, 0] rfl
                    have hP : va_P g.1 vwCl (List.flatten [bMo g o a th hi ac tp (-1) en at2_113 at2_113 0 iD iO tU fm2_106 fk fa fc ft ff fb fi]) H := hP
                    have hD : va_D A (List.flatten [bMo g o a th hi ac tp (-1) en at2_113 at2_113 0 iD iO tU fm2_106 fk fa fc ft ff fb fi]) := hD
                    exact ih23_86 x_71 x_108 at2_113 at2_113 fm2_106 ⟨(Int.le_trans (by decide) n90), i76.2⟩ (by first | omega | assumption | decide) (by first | omega | assumption | decide) rfm2_106 (by first | omega | assumption | decide) (by first | omega | assumption | decide) (by first | omega | assumption | decide) (by first | omega | assumption | decide) (by first | omega | assumption | decide) (zTd_e (by omega) w95 w96 w97 hq100_2 hq107_k hq110_2 (by omega) hq115_2 hq115_k (by decide) rfl) H _ ls (by omega)  hP hD hS (lv_sub hl [0, 1, 2, 3] rfl)
                · skip
                  have c120 : at2_109.toInt = en.toInt := zeq cb9 rfl rfl
                  have n121 : at2_109.toInt ≤ 400 := Int.le_trans (Int.le_of_eq c120) hen.2
                  refine lv_iconst (v := 0) hx hb dX12_read_106 (by decide) ?_
                  refine lv_istore_n (lv' := [(2, .int 0), (3, .int x_108), (0, .ref o), (1, .int 0)]) hx hb dX12_read_107 rfl hl (by decide) rfl (fun ls hl => ?_)
                  refine lv_goto (tgt := 23) hx hb dX12_read_108 (by decide) ?_
                  have hl := lv_sub (l' := [(0, .ref o), (1, .int 0), (2, .int 0), (3, .int x_108)]) hl [2, 3, 0, 1] rfl
                  have hLn1 : ((-1) : Int32).toInt = (-1) := by decide
                  have hP : va_P g.1 vwCl (List.flatten [bMo g o a th hi ac tp (-1) en at2_109 (-1) 0 iD iO tU fm2_106 fk fa fc ft ff fb fi]) H := hP
                  have hD : va_D A (List.flatten [bMo g o a th hi ac tp (-1) en at2_109 (-1) 0 iD iO tU fm2_106 fk fa fc ft ff fb fi]) := hD
                  exact ih23_86 0 x_108 at2_109 (-1) fm2_106 (by decide) (by first | omega | assumption | decide) (by first | omega | assumption | decide) rfm2_106 (by first | omega | assumption | decide) (by first | omega | assumption | decide) (by first | omega | assumption | decide) (by first | omega | assumption | decide) (by first | omega | assumption | decide) (zTd_c (by omega) w95 w96 w97 hq100_2 hq107_k hq110_2 (by omega) (by decide) (by decide) hx_108.1) H _ ls (by omega)  hP hD hS (lv_sub hl [0, 1, 2, 3] rfl)
              · skip
                refine ziinc3 (n' := 1) (a' := 1) (b' := 17) (lv' := fun v9 => [(3, .int v9), (0, .ref o), (1, .int 0), (2, .int x_71)]) hx hb dX12_read_80 hl (k := 3) rfl (by decide) (fun _ => rfl) (zaddK (i := x_72.toInt) (j := 1) rfl (by decide) i77.1 i77.2 (Int.le_refl _) (Int.le_refl _) (by decide)) (fun x_122 ls hx_122 hl => ?_)
                refine lv_aload_n hx hb dX12_read_83 rfl (lv_at hl 1 rfl) ?_
                refine mcallV' (g := g) (q0 := 0) (ci := 10) (As := []) (rest := []) St hK hT hA hP hD hS hl.1 [0] [] rfl rfl rfl (m_skipF l g o a th hi ac tp en at2_104 fl2_105 0 iD iO tU fm2_106 fk fa fc ft ff fb fi hen hq107_1 (by decide)) (cwV 0 hts (zgL (zl4 k884 k885 k886 k839) k877) rfl rfl rfl (by decide +kernel) ⟨Nat.le_of_ble_eq_true rfl, Nat.le_of_ble_eq_true rfl⟩) rfl rfl rfl rfl (Nat.le_of_ble_eq_true rfl) dX12_read_84 ⟨(Nat.le_of_ble_eq_true rfl), (Nat.le_of_ble_eq_true rfl)⟩ (fun at2_123 H locs hq124 hP hD hS => ?_)
                replace hq124 : (0 ≤ at2_123.toInt ∧ at2_123.toInt ≤ en.toInt + 7 - (0 : Int32).toInt) ∧ (at2_104.toInt ≤ at2_123.toInt) ∧ (zSk ft en.toInt at2_104.toInt at2_123.toInt) := hq124
                have hP : va_P g.1 vwCl (List.flatten [bMo g o a th hi ac tp (-1) en at2_123 fl2_105 0 iD iO tU fm2_106 fk fa fc ft ff fb fi]) H := hP
                have hD : va_D A (List.flatten [bMo g o a th hi ac tp (-1) en at2_123 fl2_105 0 iD iO tU fm2_106 fk fa fc ft ff fb fi]) := hD
                refine W.widen (k := 0) (n := 0) (Nat.le_of_ble_eq_true rfl) (Nat.le_of_ble_eq_true rfl) ?_
                refine W.eq (g2 := F0 m 87 ls []) rfl ?_
                obtain ⟨hq124_0, hq124_1, hq124_2⟩ := hq124
                refine lv_aload_n hx hb dX12_read_87 rfl (lv_at hl 1 rfl) ?_
                refine va_get (D := g.1) (ci := 10) (v := .int fl2_105) (C := RX12) (T := TX12) (N := 20) hx hb hts izRX12 hown hK hP 0 rfl rfl 12 (by decide) (hts _ k820) (fun _ h9 => h9) rfl dX12_read_88 ?_
                refine lv_iconst (v := (-1)) hx hb dX12_read_91 (by decide) ?_
                refine lv_icmp_ne (tgt := 106) hx hb dX12_read_92 (by decide) (fun cb9 => ?_) (fun cb9 => ?_)
                · skip
                  have c125 : ¬ fl2_105.toInt = (-1) := zne cb9 rfl (by decide)
                  refine lv_iconst (v := 0) hx hb dX12_read_106 (by decide) ?_
                  refine lv_istore_n (lv' := [(2, .int 0), (3, .int x_122), (0, .ref o), (1, .int 0)]) hx hb dX12_read_107 rfl hl (by decide) rfl (fun ls hl => ?_)
                  refine lv_goto (tgt := 23) hx hb dX12_read_108 (by decide) ?_
                  have hl := lv_sub (l' := [(0, .ref o), (1, .int 0), (2, .int 0), (3, .int x_122)]) hl [2, 3, 0, 1] rfl
                  have hP : va_P g.1 vwCl (List.flatten [bMo g o a th hi ac tp (-1) en at2_123 fl2_105 0 iD iO tU fm2_106 fk fa fc ft ff fb fi]) H := hP
                  have hD : va_D A (List.flatten [bMo g o a th hi ac tp (-1) en at2_123 fl2_105 0 iD iO tU fm2_106 fk fa fc ft ff fb fi]) := hD
                  exact ih23_86 0 x_122 at2_123 fl2_105 fm2_106 (by decide) (by first | omega | assumption | decide) (by first | omega | assumption | decide) rfm2_106 (by first | omega | assumption | decide) (by first | omega | assumption | decide) (by first | omega | assumption | decide) (by first | omega | assumption | decide) (by first | omega | assumption | decide) (zTd_b (by omega) w95 w96 w97 hq100_2 hq107_km hq107_k) H _ ls (by omega)  hP hD hS (lv_sub hl [0, 1, 2, 3] rfl)
                · skip
                  exact absurd (show fl2_105.toInt = (-1) from zeq cb9 rfl (by decide)) (zDeq2 (a := 0) (b := (-1)) hq107_k (Int.le_refl _) (by decide))
            · skip
              have c127 : x_72.toInt = 14 := zeq cb9 rfl (by decide)
              have n128 : 14 ≤ x_72.toInt := Int.le_trans (Int.le_refl _) (Int.le_of_eq c127.symm)
              have n129 : x_72.toInt ≤ 14 := Int.le_trans (Int.le_of_eq c127) (Int.le_refl _)
              refine lv_aload_n hx hb dX12_read_54 rfl (lv_at hl 0 rfl) ?_
              refine lv_aload_n hx hb dX12_read_55 rfl (lv_at hl 0 rfl) ?_
              refine va_get (D := g.1) (ci := 10) (v := .int at2_99) (C := RX12) (T := TX12) (N := 20) hx hb hts izRX12 hown hK hP 0 rfl rfl 11 (by decide) (hts _ k878) (fun _ h9 => h9) rfl dX12_read_56 ?_
              refine mcallV' (g := g) (q0 := 0) (ci := 10) (As := [.int at2_99]) (rest := []) St hK hT hA hP hD hS hl.1 [0] [] rfl rfl rfl (m_wrongF l g o a th hi ac tp (-1) en at2_99 0 iD iO tU fm_75 fk fa fc ft ff fb fi at2_99 ) (cwV 1 hts (zgL (zl4 k895 k896 k897 k839) k890) rfl rfl rfl (by decide +kernel) ⟨Nat.le_of_ble_eq_true rfl, Nat.le_of_ble_eq_true rfl⟩) rfl rfl rfl rfl (Nat.le_of_ble_eq_true rfl) dX12_read_59 ⟨(Nat.le_of_ble_eq_true rfl), (Nat.le_of_ble_eq_true rfl)⟩ (fun _u H locs hq130 hP hD hS => ?_)
              have hP : va_P g.1 vwCl (List.flatten [bMo g o a th hi ac tp (-1) en at2_99 at2_99 0 iD iO tU fm_75 fk fa fc ft ff fb fi]) H := hP
              have hD : va_D A (List.flatten [bMo g o a th hi ac tp (-1) en at2_99 at2_99 0 iD iO tU fm_75 fk fa fc ft ff fb fi]) := hD
              refine W.widen (k := 0) (n := 0) (Nat.le_of_ble_eq_true rfl) (Nat.le_of_ble_eq_true rfl) ?_
              refine W.eq (g2 := F0 m 62 ls []) rfl ?_
              refine lv_goto (tgt := 80) hx hb dX12_read_62 (by decide) ?_
              refine ziinc3 (n' := 1) (a' := 15) (b' := 15) (lv' := fun v9 => [(3, .int v9), (0, .ref o), (1, .int 0), (2, .int x_71)]) hx hb dX12_read_80 hl (k := 3) rfl (by decide) (fun _ => rfl) (zaddK (i := x_72.toInt) (j := 1) rfl (by decide) n128 n129 (Int.le_refl _) (Int.le_refl _) (by decide)) (fun x_131 ls hx_131 hl => ?_)
              refine lv_aload_n hx hb dX12_read_83 rfl (lv_at hl 1 rfl) ?_
              refine mcallV' (g := g) (q0 := 0) (ci := 10) (As := []) (rest := []) St hK hT hA hP hD hS hl.1 [0] [] rfl rfl rfl (m_skipF l g o a th hi ac tp en at2_99 at2_99 0 iD iO tU fm_75 fk fa fc ft ff fb fi hen hq100_0 (by decide)) (cwV 0 hts (zgL (zl4 k884 k885 k886 k839) k877) rfl rfl rfl (by decide +kernel) ⟨Nat.le_of_ble_eq_true rfl, Nat.le_of_ble_eq_true rfl⟩) rfl rfl rfl rfl (Nat.le_of_ble_eq_true rfl) dX12_read_84 ⟨(Nat.le_of_ble_eq_true rfl), (Nat.le_of_ble_eq_true rfl)⟩ (fun at2_132 H locs hq133 hP hD hS => ?_)
              replace hq133 : (0 ≤ at2_132.toInt ∧ at2_132.toInt ≤ en.toInt + 7 - (0 : Int32).toInt) ∧ (at2_99.toInt ≤ at2_132.toInt) ∧ (zSk ft en.toInt at2_99.toInt at2_132.toInt) := hq133
              have hP : va_P g.1 vwCl (List.flatten [bMo g o a th hi ac tp (-1) en at2_132 at2_99 0 iD iO tU fm_75 fk fa fc ft ff fb fi]) H := hP
              have hD : va_D A (List.flatten [bMo g o a th hi ac tp (-1) en at2_132 at2_99 0 iD iO tU fm_75 fk fa fc ft ff fb fi]) := hD
              refine W.widen (k := 0) (n := 0) (Nat.le_of_ble_eq_true rfl) (Nat.le_of_ble_eq_true rfl) ?_
              refine W.eq (g2 := F0 m 87 ls []) rfl ?_
              obtain ⟨hq133_0, hq133_1, hq133_2⟩ := hq133
              refine lv_aload_n hx hb dX12_read_87 rfl (lv_at hl 1 rfl) ?_
              refine va_get (D := g.1) (ci := 10) (v := .int at2_99) (C := RX12) (T := TX12) (N := 20) hx hb hts izRX12 hown hK hP 0 rfl rfl 12 (by decide) (hts _ k820) (fun _ h9 => h9) rfl dX12_read_88 ?_
              refine lv_iconst (v := (-1)) hx hb dX12_read_91 (by decide) ?_
              refine lv_icmp_ne (tgt := 106) hx hb dX12_read_92 (by decide) (fun cb9 => ?_) (fun cb9 => ?_)
              · skip
                have c134 : ¬ at2_99.toInt = (-1) := zne cb9 rfl (by decide)
                refine lv_iconst (v := 0) hx hb dX12_read_106 (by decide) ?_
                refine lv_istore_n (lv' := [(2, .int 0), (3, .int x_131), (0, .ref o), (1, .int 0)]) hx hb dX12_read_107 rfl hl (by decide) rfl (fun ls hl => ?_)
                refine lv_goto (tgt := 23) hx hb dX12_read_108 (by decide) ?_
                have hl := lv_sub (l' := [(0, .ref o), (1, .int 0), (2, .int 0), (3, .int x_131)]) hl [2, 3, 0, 1] rfl
                have hP : va_P g.1 vwCl (List.flatten [bMo g o a th hi ac tp (-1) en at2_132 at2_99 0 iD iO tU fm_75 fk fa fc ft ff fb fi]) H := hP
                have hD : va_D A (List.flatten [bMo g o a th hi ac tp (-1) en at2_132 at2_99 0 iD iO tU fm_75 fk fa fc ft ff fb fi]) := hD
                exact ih23_86 0 x_131 at2_132 at2_99 fm_75 (by decide) ⟨(Int.le_trans (by decide) hx_131.2.1), (Int.le_trans hx_131.2.2 (by decide))⟩ (by first | omega | assumption | decide) rfm_75 (by first | omega | assumption | decide) (by first | omega | assumption | decide) (by first | omega | assumption | decide) (by first | omega | assumption | decide) i83 (zTd_a (by omega) w96 w97 hq100_2 rfl) H _ ls (by omega)  hP hD hS (lv_sub hl [0, 1, 2, 3] rfl)
              · skip
                exact absurd (show at2_99.toInt = (-1) from zeq cb9 rfl (by decide)) (by omega)
    have hL1 : (1 : Int32).toInt = 1 := by decide
    have hLn1 : ((-1) : Int32).toInt = (-1) := by decide
    have hP : va_P g.1 vwCl (List.flatten [bMo g o a th hi ac tp (-1) en at2_1 (-1) 0 iD iO tU fm fk fa fc ft ff fb fi]) H := hP
    have hD : va_D A (List.flatten [bMo g o a th hi ac tp (-1) en at2_1 (-1) 0 iD iO tU fm fk fa fc ft ff fb fi]) := hD
    exact LP23_85 _ 1 0 at2_1 (-1) fm (by decide) (by decide) (by first | omega | assumption | decide) rfm (by first | omega | assumption | decide) hq2_1 (by first | omega | assumption | decide) (by first | omega | assumption | decide) (by first | omega | assumption | decide) (zTd_i1 (by decide) (by decide) (by decide) hq2_2 (by omega) rfl rfl) H _ ls (Nat.lt_succ_self _)  hP hD hS (lv_sub hl [0, 1, 2, 3] rfl)
