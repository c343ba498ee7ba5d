set_option maxRecDepth 100000 in
set_option maxHeartbeats 4000000 in
theorem m_after (l : Launch) (g : zG) (o : Nat) (a : Nat → Nat) (th : Int32) (hi : Int32) (ac : Int32) (tp : Int32) (ba : Int32) (en : Int32) (tA : Int32) (fl : Int32) (de : Int32) (iD : Int32) (iO : Int32) (tU : Int32) (fm : Nat → Int32) (fk : Nat → Int32) (fa : Nat → Int32) (fc : Nat → Int32) (ft : Nat → Int32) (ff : Nat → Int32) (fb : Nat → Int32) (fi : Nat → Int32) (lw : Int32) (hg : Int32) (k : Nat) (j : Nat) (q : String × Nat × String × List Int32) (hba : zBa ba.toInt) (hen : 0 ≤ en.toInt ∧ en.toInt ≤ 400) (htA : 0 ≤ tA.toInt ∧ tA.toInt ≤ en.toInt + 7 - de.toInt) (hfl : -1 ≤ fl.toInt) (hde : 0 ≤ de.toInt ∧ de.toInt ≤ 6) (hk9 : k = g.2 (10 + 2 * j)) (hj9 : zLit[j]? = some q) (hql : 1 ≤ q.2.2.2.length ∧ q.2.2.2.length ≤ 7) : zM' g l yX12_after (Cond.code yX12_after cX12_after 4 (some .int) :: zB) ({ frames := 5, cells := 0, slots := 0, locals := 108 } : Room) [.ref o, .ref k, .int lw, .int hg] [bMo g o a th hi ac tp ba en tA fl de iD iO tU fm fk fa fc ft ff fb fi] (fun u : Int32 × Int32 × Int32 => (fun (at2 : Int32) (fl2 : Int32) (r : Int32) => some (.int r)) (u.1) (u.2.1) (u.2.2)) (fun u : Int32 × Int32 × Int32 => (fun (at2 : Int32) (fl2 : Int32) (r : Int32) => (0 ≤ at2.toInt ∧ at2.toInt ≤ en.toInt + 7 - de.toInt) ∧ (tA.toInt ≤ at2.toInt) ∧ (-1 ≤ fl2.toInt) ∧ (zImp (fl2.toInt = -1) (fl.toInt = -1 ∧ lw.toInt ≤ r.toInt ∧ r.toInt ≤ hg.toInt))) (u.1) (u.2.1) (u.2.2)) (fun u : Int32 × Int32 × Int32 => (fun (at2 : Int32) (fl2 : Int32) (r : Int32) => [bMo g o a th hi ac tp ba en at2 fl2 de iD iO tU fm fk fa fc ft ff fb fi]) (u.1) (u.2.1) (u.2.2)) := by
  refine zM'.of (cc := cX12_after) (maxL := 4) (rt := (some .int)) (by decide) rfl (Nat.le_of_ble_eq_true rfl) ?_
  intro p e s m args below meth c A ls St hr hlocks hin hK hT hA hP hD hS hl
  obtain ⟨hx, hb, hml, hown, hts⟩ := id St
  have hl : lv_has ls 4 [(0, .ref o), (1, .ref k), (2, .int lw), (3, .int hg)] := hl
  refine lv_aload_n hx hb dX12_after_0 rfl (lv_at hl 0 rfl) ?_
  refine va_get (D := g.1) (ci := 10) (v := .int fl) (C := RX12) (T := TX12) (N := 20) hx hb hts izRX12 hown hK hP 0 rfl rfl 12 (by decide) (hts _ k820) (fun _ h9 => h9) rfl dX12_after_1 ?_
  refine lv_iconst (v := (-1)) hx hb dX12_after_4 (by decide) ?_
  refine lv_icmp_ne (tgt := 24) hx hb dX12_after_5 (by decide) (fun cb9 => ?_) (fun cb9 => ?_)
  · skip
    have c1 : ¬ fl.toInt = (-1) := zne cb9 rfl (by decide)
    refine lv_aload_n hx hb dX12_after_24 rfl (lv_at hl 0 rfl) ?_
    refine lv_iload_n hx hb dX12_after_25 rfl (lv_at hl 2 rfl) ?_
    refine lv_iload_n hx hb dX12_after_26 rfl (lv_at hl 3 rfl) ?_
    refine mcallV' (g := g) (q0 := 0) (ci := 10) (As := [.int lw, .int hg]) (rest := []) St hK hT hA hP hD hS hl.1 [0] [] rfl rfl rfl (m_figures l g o a th hi ac tp ba en tA fl de iD iO tU fm fk fa fc ft ff fb fi lw hg (by first | assumption | omega | decide | exact Or.inl (by decide) | exact Or.inr (by decide)) (⟨hen.1, hen.2⟩) (by first | assumption | omega | decide | exact Or.inl (by decide) | exact Or.inr (by decide)) (by first | assumption | omega | decide | exact Or.inl (by decide) | exact Or.inr (by decide)) (⟨hde.1, hde.2⟩)) (cwV 2 hts (zgL (zl4 k901 k902 k903 k837) k897) rfl rfl rfl (by decide +kernel) ⟨Nat.le_of_ble_eq_true rfl, Nat.le_of_ble_eq_true rfl⟩) rfl rfl rfl rfl (Nat.le_of_ble_eq_true rfl) dX12_after_27 ⟨(Nat.le_of_ble_eq_true rfl), (Nat.le_of_ble_eq_true rfl)⟩ (fun u_ H locs hq5 hP hD hS => ?_)
    obtain ⟨at2_2, fl2_3, r_4⟩ := u_
    replace hq5 : (0 ≤ at2_2.toInt ∧ at2_2.toInt ≤ en.toInt + 7 - de.toInt) ∧ (tA.toInt ≤ at2_2.toInt) ∧ (-1 ≤ fl2_3.toInt) ∧ (zImp (fl2_3.toInt = -1) (fl.toInt = -1 ∧ lw.toInt ≤ r_4.toInt ∧ r_4.toInt ≤ hg.toInt)) := hq5
    have hP : va_P g.1 vwCl (List.flatten [bMo g o a th hi ac tp ba en at2_2 fl2_3 de iD iO tU fm fk fa fc ft ff fb fi]) H := hP
    have hD : va_D A (List.flatten [bMo g o a th hi ac tp ba en at2_2 fl2_3 de iD iO tU fm fk fa fc ft ff fb fi]) := hD
    refine W.widen (k := 0) (n := 0) (Nat.le_of_ble_eq_true rfl) (Nat.le_of_ble_eq_true rfl) ?_
    refine W.eq (g2 := F0 m 30 ls [.int r_4]) rfl ?_
    obtain ⟨hq5_0, hq5_1, hq5_2, hq5_3⟩ := hq5
    have hP : va_P g.1 vwCl (List.flatten [bMo g o a th hi ac tp ba en at2_2 fl2_3 de iD iO tU fm fk fa fc ft ff fb fi]) H := hP
    have hD : va_D A (List.flatten [bMo g o a th hi ac tp ba en at2_2 fl2_3 de iD iO tU fm fk fa fc ft ff fb fi]) := hD
    exact mret_i hx hb hr hlocks hS (Nat.le_of_ble_eq_true rfl) (Nat.le_of_ble_eq_true rfl) dX12_after_30 (at2_2, fl2_3, r_4) rfl (show (0 ≤ at2_2.toInt ∧ at2_2.toInt ≤ en.toInt + 7 - de.toInt) ∧ (tA.toInt ≤ at2_2.toInt) ∧ (-1 ≤ fl2_3.toInt) ∧ (zImp (fl2_3.toInt = -1) (fl.toInt = -1 ∧ lw.toInt ≤ r_4.toInt ∧ r_4.toInt ≤ hg.toInt)) from ⟨(by first | assumption | omega | decide | exact rfl | exact zb01 (by omega) | exact Or.inl (by decide) | exact Or.inr (by first | omega | decide)), (by first | assumption | omega | decide | exact rfl | exact zb01 (by omega) | exact Or.inl (by decide) | exact Or.inr (by first | omega | decide)), (by first | assumption | omega | decide | exact rfl | exact zb01 (by omega) | exact Or.inl (by decide) | exact Or.inr (by first | omega | decide)), (fun h9 => by first | omega | (have h8 := hq5_3 h9; omega))⟩) hP hD
  · skip
    have c6 : fl.toInt = (-1) := zeq cb9 rfl (by decide)
    have n7 : fl.toInt ≤ (-1) := Int.le_trans (Int.le_of_eq c6) (Int.le_refl _)
    refine lv_aload_n hx hb dX12_after_8 rfl (lv_at hl 0 rfl) ?_
    refine lv_aload_n hx hb dX12_after_9 rfl (lv_at hl 1 rfl) ?_
    refine mcallV' (g := g) (q0 := 0) (ci := 10) (As := [.ref k]) (rest := []) St hK hT hA hP hD hS hl.1 [0] [] rfl rfl rfl (m_has l g o a th hi ac tp ba en tA fl de iD iO tU fm fk fa fc ft ff fb fi k j q (by first | assumption | omega | decide | exact Or.inl (by decide) | exact Or.inr (by decide)) (⟨hen.1, hen.2⟩) (by first | assumption | omega | decide | exact Or.inl (by decide) | exact Or.inr (by decide)) (by first | assumption | omega | decide | exact Or.inl (by decide) | exact Or.inr (by decide)) (⟨hde.1, hde.2⟩) (by first | assumption | omega | decide | exact Or.inl (by decide) | exact Or.inr (by decide)) (by first | assumption | omega | decide | exact Or.inl (by decide) | exact Or.inr (by decide)) (by first | assumption | omega | decide | exact Or.inl (by decide) | exact Or.inr (by decide))) (cwV 1 hts (zgL (zl4 k898 k899 k900 k837) k888) rfl rfl rfl (by decide +kernel) ⟨Nat.le_of_ble_eq_true rfl, Nat.le_of_ble_eq_true rfl⟩) rfl rfl rfl rfl (Nat.le_of_ble_eq_true rfl) dX12_after_10 ⟨(Nat.le_of_ble_eq_true rfl), (Nat.le_of_ble_eq_true rfl)⟩ (fun u_ H locs hq10 hP hD hS => ?_)
    obtain ⟨at2_8, r_9⟩ := u_
    replace hq10 : (0 ≤ at2_8.toInt ∧ at2_8.toInt ≤ en.toInt + 7 - de.toInt) ∧ (tA.toInt ≤ at2_8.toInt) ∧ (r_9 = 1 ∧ tA.toInt < at2_8.toInt ∧ at2_8.toInt ≤ en.toInt ∨ r_9 = 0) := hq10
    have hP : va_P g.1 vwCl (List.flatten [bMo g o a th hi ac tp ba en at2_8 fl de iD iO tU fm fk fa fc ft ff fb fi]) H := hP
    have hD : va_D A (List.flatten [bMo g o a th hi ac tp ba en at2_8 fl de iD iO tU fm fk fa fc ft ff fb fi]) := hD
    refine W.widen (k := 0) (n := 0) (Nat.le_of_ble_eq_true rfl) (Nat.le_of_ble_eq_true rfl) ?_
    refine W.eq (g2 := F0 m 13 ls [.int r_9]) rfl ?_
    obtain ⟨hq10_0, hq10_1, hq10_2⟩ := hq10
    rcases hq10_2 with ⟨rfl, hq10_k⟩ | rfl
    · skip
      refine lv_if_ne (tgt := 24) hx hb dX12_after_13 (by decide) (fun _ => ?_) (fun c11 => absurd c11 (by decide))
      refine lv_aload_n hx hb dX12_after_24 rfl (lv_at hl 0 rfl) ?_
      refine lv_iload_n hx hb dX12_after_25 rfl (lv_at hl 2 rfl) ?_
      refine lv_iload_n hx hb dX12_after_26 rfl (lv_at hl 3 rfl) ?_
      refine mcallV' (g := g) (q0 := 0) (ci := 10) (As := [.int lw, .int hg]) (rest := []) St hK hT hA hP hD hS hl.1 [0] [] rfl rfl rfl (m_figures l g o a th hi ac tp ba en at2_8 fl de iD iO tU fm fk fa fc ft ff fb fi lw hg (by first | assumption | omega | decide | exact Or.inl (by decide) | exact Or.inr (by decide)) (⟨hen.1, hen.2⟩) (by first | assumption | omega | decide | exact Or.inl (by decide) | exact Or.inr (by decide)) (by first | assumption | omega | decide | exact Or.inl (by decide) | exact Or.inr (by decide)) (⟨hde.1, hde.2⟩)) (cwV 2 hts (zgL (zl4 k901 k902 k903 k837) k897) rfl rfl rfl (by decide +kernel) ⟨Nat.le_of_ble_eq_true rfl, Nat.le_of_ble_eq_true rfl⟩) rfl rfl rfl rfl (Nat.le_of_ble_eq_true rfl) dX12_after_27 ⟨(Nat.le_of_ble_eq_true rfl), (Nat.le_of_ble_eq_true rfl)⟩ (fun u_ H locs hq15 hP hD hS => ?_)
      obtain ⟨at2_12, fl2_13, r_14⟩ := u_
      replace hq15 : (0 ≤ at2_12.toInt ∧ at2_12.toInt ≤ en.toInt + 7 - de.toInt) ∧ (at2_8.toInt ≤ at2_12.toInt) ∧ (-1 ≤ fl2_13.toInt) ∧ (zImp (fl2_13.toInt = -1) (fl.toInt = -1 ∧ lw.toInt ≤ r_14.toInt ∧ r_14.toInt ≤ hg.toInt)) := hq15
      have hP : va_P g.1 vwCl (List.flatten [bMo g o a th hi ac tp ba en at2_12 fl2_13 de iD iO tU fm fk fa fc ft ff fb fi]) H := hP
      have hD : va_D A (List.flatten [bMo g o a th hi ac tp ba en at2_12 fl2_13 de iD iO tU fm fk fa fc ft ff fb fi]) := hD
      refine W.widen (k := 0) (n := 0) (Nat.le_of_ble_eq_true rfl) (Nat.le_of_ble_eq_true rfl) ?_
      refine W.eq (g2 := F0 m 30 ls [.int r_14]) rfl ?_
      obtain ⟨hq15_0, hq15_1, hq15_2, hq15_3⟩ := hq15
      have hP : va_P g.1 vwCl (List.flatten [bMo g o a th hi ac tp ba en at2_12 fl2_13 de iD iO tU fm fk fa fc ft ff fb fi]) H := hP
      have hD : va_D A (List.flatten [bMo g o a th hi ac tp ba en at2_12 fl2_13 de iD iO tU fm fk fa fc ft ff fb fi]) := hD
      exact mret_i hx hb hr hlocks hS (Nat.le_of_ble_eq_true rfl) (Nat.le_of_ble_eq_true rfl) dX12_after_30 (at2_12, fl2_13, r_14) rfl (show (0 ≤ at2_12.toInt ∧ at2_12.toInt ≤ en.toInt + 7 - de.toInt) ∧ (tA.toInt ≤ at2_12.toInt) ∧ (-1 ≤ fl2_13.toInt) ∧ (zImp (fl2_13.toInt = -1) (fl.toInt = -1 ∧ lw.toInt ≤ r_14.toInt ∧ r_14.toInt ≤ hg.toInt)) from ⟨(by first | assumption | omega | decide | exact rfl | exact zb01 (by omega) | exact Or.inl (by decide) | exact Or.inr (by first | omega | decide)), (by first | assumption | omega | decide | exact rfl | exact zb01 (by omega) | exact Or.inl (by decide) | exact Or.inr (by first | omega | decide)), (by first | assumption | omega | decide | exact rfl | exact zb01 (by omega) | exact Or.inl (by decide) | exact Or.inr (by first | omega | decide)), (fun h9 => by first | omega | (have h8 := hq15_3 h9; omega))⟩) hP hD
    · skip
      refine lv_if_ne (tgt := 24) hx hb dX12_after_13 (by decide) (fun c16 => absurd (by decide) c16) (fun _ => ?_)
      refine lv_aload_n hx hb dX12_after_16 rfl (lv_at hl 0 rfl) ?_
      refine lv_aload_n hx hb dX12_after_17 rfl (lv_at hl 0 rfl) ?_
      refine va_get (D := g.1) (ci := 10) (v := .int at2_8) (C := RX12) (T := TX12) (N := 20) hx hb hts izRX12 hown hK hP 0 rfl rfl 11 (by decide) (hts _ k877) (fun _ h9 => h9) rfl dX12_after_18 ?_
      refine mcallV' (g := g) (q0 := 0) (ci := 10) (As := [.int at2_8]) (rest := []) St hK hT hA hP hD hS hl.1 [0] [] rfl rfl rfl (m_wrong l g o a th hi ac tp ba en at2_8 fl de iD iO tU fm fk fa fc ft ff fb fi at2_8 (by first | assumption | omega | decide | exact Or.inl (by decide) | exact Or.inr (by decide)) (by first | assumption | omega | decide | exact Or.inl (by decide) | exact Or.inr (by decide))) (cwV 1 hts (zgL (zl4 k894 k895 k896 k837) k889) rfl rfl rfl (by decide +kernel) ⟨Nat.le_of_ble_eq_true rfl, Nat.le_of_ble_eq_true rfl⟩) rfl rfl rfl rfl (Nat.le_of_ble_eq_true rfl) dX12_after_21 ⟨(Nat.le_of_ble_eq_true rfl), (Nat.le_of_ble_eq_true rfl)⟩ (fun fl2_17 H locs hq18 hP hD hS => ?_)
      replace hq18 : (0 ≤ fl2_17.toInt) := hq18
      have hP : va_P g.1 vwCl (List.flatten [bMo g o a th hi ac tp ba en at2_8 fl2_17 de iD iO tU fm fk fa fc ft ff fb fi]) H := hP
      have hD : va_D A (List.flatten [bMo g o a th hi ac tp ba en at2_8 fl2_17 de iD iO tU fm fk fa fc ft ff fb fi]) := hD
      refine W.widen (k := 0) (n := 0) (Nat.le_of_ble_eq_true rfl) (Nat.le_of_ble_eq_true rfl) ?_
      refine W.eq (g2 := F0 m 24 ls []) rfl ?_
      refine lv_aload_n hx hb dX12_after_24 rfl (lv_at hl 0 rfl) ?_
      refine lv_iload_n hx hb dX12_after_25 rfl (lv_at hl 2 rfl) ?_
      refine lv_iload_n hx hb dX12_after_26 rfl (lv_at hl 3 rfl) ?_
      refine mcallV' (g := g) (q0 := 0) (ci := 10) (As := [.int lw, .int hg]) (rest := []) St hK hT hA hP hD hS hl.1 [0] [] rfl rfl rfl (m_figures l g o a th hi ac tp ba en at2_8 fl2_17 de iD iO tU fm fk fa fc ft ff fb fi lw hg (by first | assumption | omega | decide | exact Or.inl (by decide) | exact Or.inr (by decide)) (⟨hen.1, hen.2⟩) (by first | assumption | omega | decide | exact Or.inl (by decide) | exact Or.inr (by decide)) (Int.le_trans (by decide) hq18) (⟨hde.1, hde.2⟩)) (cwV 2 hts (zgL (zl4 k901 k902 k903 k837) k897) rfl rfl rfl (by decide +kernel) ⟨Nat.le_of_ble_eq_true rfl, Nat.le_of_ble_eq_true rfl⟩) rfl rfl rfl rfl (Nat.le_of_ble_eq_true rfl) dX12_after_27 ⟨(Nat.le_of_ble_eq_true rfl), (Nat.le_of_ble_eq_true rfl)⟩ (fun u_ H locs hq22 hP hD hS => ?_)
      obtain ⟨at2_19, fl2_20, r_21⟩ := u_
      replace hq22 : (0 ≤ at2_19.toInt ∧ at2_19.toInt ≤ en.toInt + 7 - de.toInt) ∧ (at2_8.toInt ≤ at2_19.toInt) ∧ (-1 ≤ fl2_20.toInt) ∧ (zImp (fl2_20.toInt = -1) (fl2_17.toInt = -1 ∧ lw.toInt ≤ r_21.toInt ∧ r_21.toInt ≤ hg.toInt)) := hq22
      have hP : va_P g.1 vwCl (List.flatten [bMo g o a th hi ac tp ba en at2_19 fl2_20 de iD iO tU fm fk fa fc ft ff fb fi]) H := hP
      have hD : va_D A (List.flatten [bMo g o a th hi ac tp ba en at2_19 fl2_20 de iD iO tU fm fk fa fc ft ff fb fi]) := hD
      refine W.widen (k := 0) (n := 0) (Nat.le_of_ble_eq_true rfl) (Nat.le_of_ble_eq_true rfl) ?_
      refine W.eq (g2 := F0 m 30 ls [.int r_21]) rfl ?_
      obtain ⟨hq22_0, hq22_1, hq22_2, hq22_3⟩ := hq22
      have hP : va_P g.1 vwCl (List.flatten [bMo g o a th hi ac tp ba en at2_19 fl2_20 de iD iO tU fm fk fa fc ft ff fb fi]) H := hP
      have hD : va_D A (List.flatten [bMo g o a th hi ac tp ba en at2_19 fl2_20 de iD iO tU fm fk fa fc ft ff fb fi]) := hD
      exact mret_i hx hb hr hlocks hS (Nat.le_of_ble_eq_true rfl) (Nat.le_of_ble_eq_true rfl) dX12_after_30 (at2_19, fl2_20, r_21) rfl (show (0 ≤ at2_19.toInt ∧ at2_19.toInt ≤ en.toInt + 7 - de.toInt) ∧ (tA.toInt ≤ at2_19.toInt) ∧ (-1 ≤ fl2_20.toInt) ∧ (zImp (fl2_20.toInt = -1) (fl.toInt = -1 ∧ lw.toInt ≤ r_21.toInt ∧ r_21.toInt ≤ hg.toInt)) from ⟨(by first | assumption | omega | decide | exact rfl | exact zb01 (by omega) | exact Or.inl (by decide) | exact Or.inr (by first | omega | decide)), (by first | assumption | omega | decide | exact rfl | exact zb01 (by omega) | exact Or.inl (by decide) | exact Or.inr (by first | omega | decide)), (by first | assumption | omega | decide | exact rfl | exact zb01 (by omega) | exact Or.inl (by decide) | exact Or.inr (by first | omega | decide)), (fun h9 => by first | omega | (have h8 := hq22_3 h9; omega))⟩) hP hD
