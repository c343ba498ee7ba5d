set_option maxRecDepth 100000 in
set_option maxHeartbeats 4000000 in
theorem m_tells (l : Launch) (g : zG) (o : Nat) (a : Nat → Nat) (th : Int32) (hi : Int32) (ac : Int32) (tp : Int32) (ba : Int32) (en : Int32) (tA : Int32) (fl : Int32) (de : Int32) (iD : Int32) (iO : Int32) (tU : Int32) (fm : Nat → Int32) (fk : Nat → Int32) (fa : Nat → Int32) (fc : Nat → Int32) (ft : Nat → Int32) (ff : Nat → Int32) (fb : Nat → Int32) (fi : Nat → Int32) (wh : Int32) (lw : Int32) (hg : Int32) (rfm : rM fm) (hba : zBa ba.toInt) (hen : 0 ≤ en.toInt ∧ en.toInt ≤ 400) (htA : 0 ≤ tA.toInt ∧ tA.toInt ≤ en.toInt + 7 - de.toInt) (hfl : -1 ≤ fl.toInt) (hde : 0 ≤ de.toInt ∧ de.toInt ≤ 6) (hwh : 5 ≤ wh.toInt ∧ wh.toInt ≤ 50 ∧ ¬ wh.toInt = 9) : zM' g l yX12_tells (Cond.code yX12_tells cX12_tells 5 none :: zB) ({ frames := 4, cells := 0, slots := 0, locals := 85 } : Room) [.ref o, .int wh, .int lw, .int hg] [bMo g o a th hi ac tp ba en tA fl de iD iO tU fm fk fa fc ft ff fb fi] (fun u : Int32 × Int32 × (Nat → Int32) => (fun (at2 : Int32) (fl2 : Int32) (fm2 : Nat → Int32) => none) (u.1) (u.2.1) (u.2.2)) (fun u : Int32 × Int32 × (Nat → Int32) => (fun (at2 : Int32) (fl2 : Int32) (fm2 : Nat → Int32) => (rM fm2) ∧ (0 ≤ at2.toInt ∧ at2.toInt ≤ en.toInt + 7 - de.toInt) ∧ (tA.toInt ≤ at2.toInt) ∧ (-1 ≤ fl2.toInt)) (u.1) (u.2.1) (u.2.2)) (fun u : Int32 × Int32 × (Nat → Int32) => (fun (at2 : Int32) (fl2 : Int32) (fm2 : Nat → Int32) => [bMo g o a th hi ac tp ba en at2 fl2 de iD iO tU fm2 fk fa fc ft ff fb fi]) (u.1) (u.2.1) (u.2.2)) := by
  refine zM'.of (cc := cX12_tells) (maxL := 5) (rt := none) (by decide) rfl (Nat.le_of_ble_eq_true rfl) ?_
  intro p e s m args below meth c A ls St hr hlocks hin hK hT hA hP hD hS hl
  obtain ⟨hx, hb, hml, hown, hts⟩ := id St
  have hl : lv_has ls 5 [(0, .ref o), (1, .int wh), (2, .int lw), (3, .int hg)] := hl
  refine lv_aload_n hx hb dX12_tells_0 rfl (lv_at hl 0 rfl) ?_
  refine lv_iload_n hx hb dX12_tells_1 rfl (lv_at hl 2 rfl) ?_
  refine lv_iload_n hx hb dX12_tells_2 rfl (lv_at hl 3 rfl) ?_
  refine mcallV' (g := g) (q0 := 0) (ci := 10) (As := [.int lw, .int hg]) (rest := []) St hK hT hA hP hD hS hl.1 [0] [] rfl rfl rfl (m_figures l g o a th hi ac tp ba en tA fl de iD iO tU fm fk fa fc ft ff fb fi lw hg (by first | assumption | omega | decide | exact Or.inl (by decide) | exact Or.inr (by decide)) (⟨hen.1, hen.2⟩) (by first | assumption | omega | decide | exact Or.inl (by decide) | exact Or.inr (by decide)) (by first | assumption | omega | decide | exact Or.inl (by decide) | exact Or.inr (by decide)) (⟨hde.1, hde.2⟩)) (cwV 2 hts (zgL (zl4 k901 k902 k903 k837) k897) rfl rfl rfl (by decide +kernel) ⟨Nat.le_of_ble_eq_true rfl, Nat.le_of_ble_eq_true rfl⟩) rfl rfl rfl rfl (Nat.le_of_ble_eq_true rfl) dX12_tells_3 ⟨(Nat.le_of_ble_eq_true rfl), (Nat.le_of_ble_eq_true rfl)⟩ (fun u_ H locs hq4 hP hD hS => ?_)
  obtain ⟨at2_1, fl2_2, r_3⟩ := u_
  replace hq4 : (0 ≤ at2_1.toInt ∧ at2_1.toInt ≤ en.toInt + 7 - de.toInt) ∧ (tA.toInt ≤ at2_1.toInt) ∧ (-1 ≤ fl2_2.toInt) ∧ (zImp (fl2_2.toInt = -1) (fl.toInt = -1 ∧ lw.toInt ≤ r_3.toInt ∧ r_3.toInt ≤ hg.toInt)) := hq4
  have hP : va_P g.1 vwCl (List.flatten [bMo g o a th hi ac tp ba en at2_1 fl2_2 de iD iO tU fm fk fa fc ft ff fb fi]) H := hP
  have hD : va_D A (List.flatten [bMo g o a th hi ac tp ba en at2_1 fl2_2 de iD iO tU fm fk fa fc ft ff fb fi]) := hD
  refine W.widen (k := 0) (n := 0) (Nat.le_of_ble_eq_true rfl) (Nat.le_of_ble_eq_true rfl) ?_
  refine W.eq (g2 := F0 m 6 ls [.int r_3]) rfl ?_
  obtain ⟨hq4_0, hq4_1, hq4_2, hq4_3⟩ := hq4
  refine lv_istore (lv' := [(4, .int r_3), (0, .ref o), (1, .int wh), (2, .int lw), (3, .int hg)]) hx hb dX12_tells_6 hl (by decide) rfl (fun ls hl => ?_)
  refine lv_aload_n hx hb dX12_tells_8 rfl (lv_at hl 1 rfl) ?_
  refine va_get (D := g.1) (ci := 10) (v := .int fl2_2) (C := RX12) (T := TX12) (N := 20) hx hb hts izRX12 hown hK hP 0 rfl rfl 12 (by decide) (hts _ k820) (fun _ h9 => h9) rfl dX12_tells_9 ?_
  refine lv_iconst (v := (-1)) hx hb dX12_tells_12 (by decide) ?_
  refine lv_icmp_ne (tgt := 24) hx hb dX12_tells_13 (by decide) (fun cb9 => ?_) (fun cb9 => ?_)
  · skip
    have c5 : ¬ fl2_2.toInt = (-1) := zne cb9 rfl (by decide)
    have hP : va_P g.1 vwCl (List.flatten [bMo g o a th hi ac tp ba en at2_1 fl2_2 de iD iO tU fm fk fa fc ft ff fb fi]) H := hP
    have hD : va_D A (List.flatten [bMo g o a th hi ac tp ba en at2_1 fl2_2 de iD iO tU fm fk fa fc ft ff fb fi]) := hD
    exact mret_v hx hb hr hlocks hS (Nat.le_of_ble_eq_true rfl) (Nat.le_of_ble_eq_true rfl) dX12_tells_24 (at2_1, fl2_2, fm) rfl (show (rM fm) ∧ (0 ≤ at2_1.toInt ∧ at2_1.toInt ≤ en.toInt + 7 - de.toInt) ∧ (tA.toInt ≤ at2_1.toInt) ∧ (-1 ≤ fl2_2.toInt) from ⟨(by first | assumption | omega | decide | exact rfl | exact zb01 (by omega) | exact Or.inl (by decide) | exact Or.inr (by first | omega | decide)), (by first | assumption | omega | decide | exact rfl | exact zb01 (by omega) | exact Or.inl (by decide) | exact Or.inr (by first | omega | decide)), (by first | assumption | omega | decide | exact rfl | exact zb01 (by omega) | exact Or.inl (by decide) | exact Or.inr (by first | omega | decide)), (by first | assumption | omega | decide | exact rfl | exact zb01 (by omega) | exact Or.inl (by decide) | exact Or.inr (by first | omega | decide))⟩) hP hD
  · skip
    have c6 : fl2_2.toInt = (-1) := zeq cb9 rfl (by decide)
    have n7 : fl2_2.toInt ≤ (-1) := Int.le_trans (Int.le_of_eq c6) (Int.le_refl _)
    obtain ⟨e9, w8⟩ := hq4_3 c6
    refine lv_aload_n hx hb dX12_tells_16 rfl (lv_at hl 1 rfl) ?_
    refine va_get (D := g.1) (ci := 10) (v := .ref (a 0)) (C := RX12) (T := TX12) (N := 20) hx hb hts izRX12 hown hK hP 0 rfl rfl 1 (by decide) (hts _ k815) (fun _ h9 => h9) rfl dX12_tells_17 ?_
    refine lv_iload_n hx hb dX12_tells_20 rfl (lv_at hl 2 rfl) ?_
    refine lv_iload hx hb dX12_tells_21 (lv_at hl 0 rfl) ?_
    refine va_iast hx hb hK hP hD hS 1 0 rfl rfl (zinI (by omega) (by omega)) dX12_tells_23 (fun H locs hP hD hS => ?_)
    obtain ⟨fm_10, rfm_10, hP, hD⟩ : ∃ fm_10 : Nat → Int32, rM fm_10 ∧ va_P g.1 vwCl (List.flatten [bMo g o a th hi ac tp ba en at2_1 fl2_2 de iD iO tU fm_10 fk fa fc ft ff fb fi]) H ∧ va_D A (List.flatten [bMo g o a th hi ac tp ba en at2_1 fl2_2 de iD iO tU fm_10 fk fa fc ft ff fb fi]) := ⟨upd fm wh.toNatClampNeg r_3, (rM_st (j := wh.toInt) (w := r_3.toInt) rfm rfl rfl (by omega)), hP, hD⟩
    have hP : va_P g.1 vwCl (List.flatten [bMo g o a th hi ac tp ba en at2_1 fl2_2 de iD iO tU fm_10 fk fa fc ft ff fb fi]) H := hP
    have hD : va_D A (List.flatten [bMo g o a th hi ac tp ba en at2_1 fl2_2 de iD iO tU fm_10 fk fa fc ft ff fb fi]) := hD
    exact mret_v hx hb hr hlocks hS (Nat.le_of_ble_eq_true rfl) (Nat.le_of_ble_eq_true rfl) dX12_tells_24 (at2_1, fl2_2, fm_10) rfl (show (rM fm_10) ∧ (0 ≤ at2_1.toInt ∧ at2_1.toInt ≤ en.toInt + 7 - de.toInt) ∧ (tA.toInt ≤ at2_1.toInt) ∧ (-1 ≤ fl2_2.toInt) from ⟨(by first | assumption | omega | decide | exact rfl | exact zb01 (by omega) | exact Or.inl (by decide) | exact Or.inr (by first | omega | decide)), (by first | assumption | omega | decide | exact rfl | exact zb01 (by omega) | exact Or.inl (by decide) | exact Or.inr (by first | omega | decide)), (by first | assumption | omega | decide | exact rfl | exact zb01 (by omega) | exact Or.inl (by decide) | exact Or.inr (by first | omega | decide)), (by first | assumption | omega | decide | exact rfl | exact zb01 (by omega) | exact Or.inl (by decide) | exact Or.inr (by first | omega | decide))⟩) hP hD
