set_option maxRecDepth 100000 in
set_option maxHeartbeats 4000000 in
theorem m_town (l : Launch) (g : zG) (o : Nat) (a : Nat → Nat) (th : Int32) (hi : Int32) (ac : Int32) (tp : Int32) (ba : Int32) (en : Int32) (tA : Int32) (fl : Int32) (de : Int32) (iD : Int32) (iO : Int32) (tU : Int32) (fm : Nat → Int32) (fk : Nat → Int32) (fa : Nat → Int32) (fc : Nat → Int32) (ft : Nat → Int32) (ff : Nat → Int32) (fb : Nat → Int32) (fi : Nat → Int32) (rfm : rM fm) (rfa : rM fa) (hac : 0 ≤ ac.toInt ∧ ac.toInt ≤ 12) (htp : 0 ≤ tp.toInt ∧ tp.toInt ≤ 400) (hiD : 0 ≤ iD.toInt ∧ iD.toInt ≤ 1) (hiO : 0 ≤ iO.toInt ∧ iO.toInt ≤ 1) : zM' g l yX12_town (Cond.code yX12_town cX12_town 2 (some .int) :: zB) ({ frames := 9, cells := 0, slots := 0, locals := 201 } : Room) [.ref o] [bMo g o a th hi ac tp ba en tA fl de iD iO tU fm fk fa fc ft ff fb fi] (fun u : Int32 × Int32 × Int32 × (Nat → Int32) × (Nat → Int32) × Int32 × Int32 => (fun (th2 : Int32) (at2 : Int32) (fl2 : Int32) (fm2 : Nat → Int32) (fa2 : Nat → Int32) (ac2 : Int32) (q : Int32) => some (.int q)) (u.1) (u.2.1) (u.2.2.1) (u.2.2.2.1) (u.2.2.2.2.1) (u.2.2.2.2.2.1) (u.2.2.2.2.2.2)) (fun u : Int32 × Int32 × Int32 × (Nat → Int32) × (Nat → Int32) × Int32 × Int32 => (fun (th2 : Int32) (at2 : Int32) (fl2 : Int32) (fm2 : Nat → Int32) (fa2 : Nat → Int32) (ac2 : Int32) (q : Int32) => (0 ≤ ac2.toInt ∧ ac2.toInt ≤ 12) ∧ (rM fa2) ∧ (rM fm2)) (u.1) (u.2.1) (u.2.2.1) (u.2.2.2.1) (u.2.2.2.2.1) (u.2.2.2.2.2.1) (u.2.2.2.2.2.2)) (fun u : Int32 × Int32 × Int32 × (Nat → Int32) × (Nat → Int32) × Int32 × Int32 => (fun (th2 : Int32) (at2 : Int32) (fl2 : Int32) (fm2 : Nat → Int32) (fa2 : Nat → Int32) (ac2 : Int32) (q : Int32) => [bMo g o a th2 hi ac2 0 (-1) tp at2 fl2 0 iD iO tU fm2 fk fa2 fc ft ff fb fi]) (u.1) (u.2.1) (u.2.2.1) (u.2.2.2.1) (u.2.2.2.2.1) (u.2.2.2.2.2.1) (u.2.2.2.2.2.2)) := by
  refine zM'.of (cc := cX12_town) (maxL := 2) (rt := (some .int)) (by decide) rfl (Nat.le_of_ble_eq_true rfl) ?_
  intro p e s m args below meth c A ls St hr hlocks hin hK hT hA hP hD hS hl
  obtain ⟨hx, hb, hml, hown, hts⟩ := id St
  have hl : lv_has ls 2 [(0, .ref o)] := hl
  refine lv_aload_n hx hb dX12_town_0 rfl (lv_at hl 0 rfl) ?_
  refine mcallV' (g := g) (q0 := 0) (ci := 10) (As := []) (rest := []) St hK hT hA hP hD hS hl.1 [0] [] rfl rfl rfl (m_putsAside l g o a th hi ac tp ba en tA fl de iD iO tU fm fk fa fc ft ff fb fi (by first | assumption | omega | decide | exact Or.inl (by decide) | exact Or.inr (by decide)) (by first | assumption | omega | decide | exact Or.inl (by decide) | exact Or.inr (by decide))) (cwV 0 hts (zgL (zl4 k974 k975 k976 k837) k971) rfl rfl rfl (by decide +kernel) ⟨Nat.le_of_ble_eq_true rfl, Nat.le_of_ble_eq_true rfl⟩) rfl rfl rfl rfl (Nat.le_of_ble_eq_true rfl) dX12_town_1 ⟨(Nat.le_of_ble_eq_true rfl), (Nat.le_of_ble_eq_true rfl)⟩ (fun fa2_1 H locs hq2 hP hD hS => ?_)
  replace hq2 : (rM fa2_1) := hq2
  have hP : va_P g.1 vwCl (List.flatten [bMo g o a th hi ac tp ba en tA fl de iD iO tU fm fk fa2_1 fc ft ff fb fi]) H := hP
  have hD : va_D A (List.flatten [bMo g o a th hi ac tp ba en tA fl de iD iO tU fm fk fa2_1 fc ft ff fb fi]) := hD
  refine W.widen (k := 0) (n := 0) (Nat.le_of_ble_eq_true rfl) (Nat.le_of_ble_eq_true rfl) ?_
  refine W.eq (g2 := F0 m 4 ls []) rfl ?_
  have rfa2_1 := hq2; clear hq2
  refine lv_aload_n hx hb dX12_town_4 rfl (lv_at hl 0 rfl) ?_
  refine mcallV' (g := g) (q0 := 0) (ci := 10) (As := []) (rest := []) St hK hT hA hP hD hS hl.1 [0] [] rfl rfl rfl (m_begins l g o a th hi ac tp ba en tA fl de iD iO tU fm fk fa2_1 fc ft ff fb fi ) (cwV 0 hts (zgL (zl4 k977 k978 k979 k837) k931) rfl rfl rfl (by decide +kernel) ⟨Nat.le_of_ble_eq_true rfl, Nat.le_of_ble_eq_true rfl⟩) rfl rfl rfl rfl (Nat.le_of_ble_eq_true rfl) dX12_town_5 ⟨(Nat.le_of_ble_eq_true rfl), (Nat.le_of_ble_eq_true rfl)⟩ (fun _u H locs hq3 hP hD hS => ?_)
  have hP : va_P g.1 vwCl (List.flatten [bMo g o a th hi ac 0 (-1) tp 0 (-1) 0 iD iO tU fm fk fa2_1 fc ft ff fb fi]) H := hP
  have hD : va_D A (List.flatten [bMo g o a th hi ac 0 (-1) tp 0 (-1) 0 iD iO tU fm fk fa2_1 fc ft ff fb fi]) := hD
  refine W.widen (k := 0) (n := 0) (Nat.le_of_ble_eq_true rfl) (Nat.le_of_ble_eq_true rfl) ?_
  refine W.eq (g2 := F0 m 8 ls []) rfl ?_
  refine lv_aload_n hx hb dX12_town_8 rfl (lv_at hl 0 rfl) ?_
  refine lv_iconst (v := 0) hx hb dX12_town_9 (by decide) ?_
  have hLn1 : ((-1) : Int32).toInt = (-1) := by decide
  have hL0 : (0 : Int32).toInt = 0 := by decide
  refine mcallV' (g := g) (q0 := 0) (ci := 10) (As := [.int 0]) (rest := []) St hK hT hA hP hD hS hl.1 [0] [] rfl rfl rfl (m_readF l g o a th hi ac 0 (-1) tp 0 (-1) iD iO tU fm fk fa2_1 fc ft ff fb fi (by first | assumption | omega | decide | exact Or.inl (by decide) | exact Or.inr (by decide)) (by first | assumption | omega | decide | exact Or.inl (by decide) | exact Or.inr (by decide)) (⟨htp.1, htp.2⟩) (by first | assumption | omega | decide | exact Or.inl (by decide) | exact Or.inr (by decide)) (by first | assumption | omega | decide | exact Or.inl (by decide) | exact Or.inr (by decide)) (by first | assumption | omega | decide | exact Or.inl (by decide) | exact Or.inr (by decide))) (cwV 1 hts (zgL (zl4 k980 k981 k982 k837) k970) rfl rfl rfl (by decide +kernel) ⟨Nat.le_of_ble_eq_true rfl, Nat.le_of_ble_eq_true rfl⟩) rfl rfl rfl rfl (Nat.le_of_ble_eq_true rfl) dX12_town_10 ⟨(Nat.le_of_ble_eq_true rfl), (Nat.le_of_ble_eq_true rfl)⟩ (fun u_ H locs hq8 hP hD hS => ?_)
  obtain ⟨at2_4, fl2_5, fm2_6, q_7⟩ := u_
  replace hq8 : (rM fm2_6) ∧ (0 ≤ at2_4.toInt ∧ at2_4.toInt ≤ tp.toInt + 7 - 0) ∧ ((0 : Int32).toInt ≤ at2_4.toInt) ∧ (-1 ≤ fl2_5.toInt) := hq8
  have hP : va_P g.1 vwCl (List.flatten [bMo g o a th hi ac 0 (-1) tp at2_4 fl2_5 0 iD iO tU fm2_6 fk fa2_1 fc ft ff fb fi]) H := hP
  have hD : va_D A (List.flatten [bMo g o a th hi ac 0 (-1) tp at2_4 fl2_5 0 iD iO tU fm2_6 fk fa2_1 fc ft ff fb fi]) := hD
  refine W.widen (k := 0) (n := 0) (Nat.le_of_ble_eq_true rfl) (Nat.le_of_ble_eq_true rfl) ?_
  refine W.eq (g2 := F0 m 13 ls [.int q_7]) rfl ?_
  obtain ⟨rfm2_6, hq8_1, hq8_2, hq8_3⟩ := hq8
  refine lv_istore_n (lv' := [(1, .int q_7), (0, .ref o)]) hx hb dX12_town_13 rfl hl (by decide) rfl (fun ls hl => ?_)
  refine lv_aload_n hx hb dX12_town_14 rfl (lv_at hl 1 rfl) ?_
  refine lv_aload_n hx hb dX12_town_15 rfl (lv_at hl 1 rfl) ?_
  refine va_get (D := g.1) (ci := 10) (v := .int fl2_5) (C := RX12) (T := TX12) (N := 20) hx hb hts izRX12 hown hK hP 0 rfl rfl 12 (by decide) (hts _ k820) (fun _ h9 => h9) rfl dX12_town_16 ?_
  refine lv_iconst (v := (-1)) hx hb dX12_town_19 (by decide) ?_
  refine lv_icmp_eq (tgt := 27) hx hb dX12_town_20 (by decide) (fun cb9 => ?_) (fun cb9 => ?_)
  · skip
    have c9 : fl2_5.toInt = (-1) := zeq cb9 rfl (by decide)
    have n10 : fl2_5.toInt ≤ (-1) := Int.le_trans (Int.le_of_eq c9) (Int.le_refl _)
    refine lv_aload_n hx hb dX12_town_27 rfl (lv_at hl 1 rfl) ?_
    refine va_get (D := g.1) (ci := 10) (v := .ref (a 0)) (C := RX12) (T := TX12) (N := 20) hx hb hts izRX12 hown hK hP 0 rfl rfl 1 (by decide) (hts _ k815) (fun _ h9 => h9) rfl dX12_town_28 ?_
    refine lv_iconst (v := 0) hx hb dX12_town_31 (by decide) ?_
    refine va_iald hx hb hK hP 1 0 rfl rfl (zin rfl) dX12_town_32 ?_
    refine zg (fun x_11 => ?_)
    refine lv_bipush (v := 12) hx hb dX12_town_33 (by decide) ?_
    refine lv_icmp_ne (tgt := 42) hx hb dX12_town_35 (by decide) (fun cb9 => ?_) (fun cb9 => ?_)
    · skip
      have c12 : ¬ x_11.toInt = 12 := zne cb9 rfl (by decide)
      refine lv_iconst (v := 0) hx hb dX12_town_42 (by decide) ?_
      refine va_put (D := g.1) (ci := 10) (v := .int 0) (ty := .int) (C := RX12) (T := TX12) (N := 20) hx hb hts izRX12 tyX12 tyX12_ok nmX12 hown hK hP hD hS 0 rfl rfl 0 (by decide) (hts _ k871) (fun _ h9 => h9) rfl (by decide +kernel) rfl rfl (Nat.le_of_ble_eq_true rfl) dX12_town_43 (fun H locs hP hD hS => ?_)
      have hP : va_P g.1 vwCl (List.flatten [bMo g o a 0 hi ac 0 (-1) tp at2_4 fl2_5 0 iD iO tU fm2_6 fk fa2_1 fc ft ff fb fi]) H := hP
      have hD : va_D A (List.flatten [bMo g o a 0 hi ac 0 (-1) tp at2_4 fl2_5 0 iD iO tU fm2_6 fk fa2_1 fc ft ff fb fi]) := hD
      refine lv_aload_n hx hb dX12_town_46 rfl (lv_at hl 1 rfl) ?_
      refine va_get (D := g.1) (ci := 10) (v := .int 0) (C := RX12) (T := TX12) (N := 20) hx hb hts izRX12 hown hK hP 0 rfl rfl 0 (by decide) (hts _ k871) (fun _ h9 => h9) rfl dX12_town_47 ?_
      refine lv_if_le (tgt := 59) hx hb dX12_town_50 (by decide) (fun _ => ?_) (fun c13 => absurd (by decide) c13)
      refine lv_aload_n hx hb dX12_town_59 rfl (lv_at hl 1 rfl) ?_
      refine va_get (D := g.1) (ci := 10) (v := .ref (a 0)) (C := RX12) (T := TX12) (N := 20) hx hb hts izRX12 hown hK hP 0 rfl rfl 1 (by decide) (hts _ k815) (fun _ h9 => h9) rfl dX12_town_60 ?_
      refine lv_iconst (v := 0) hx hb dX12_town_63 (by decide) ?_
      refine lv_dup2_11 hx hb dX12_town_64 rfl rfl ?_
      refine va_iald hx hb hK hP 1 0 rfl rfl (zin rfl) dX12_town_65 ?_
      refine zg (fun x_14 => ?_)
      refine lv_iconst (v := 1) hx hb dX12_town_66 (by decide) ?_
      refine lv_iadd hx hb dX12_town_67 ?_
      refine zg (fun x_15 => ?_)
      refine va_iast hx hb hK hP hD hS 1 0 rfl rfl (zin rfl) dX12_town_68 (fun H locs hP hD hS => ?_)
      obtain ⟨fm_16, rfm_16, hP, hD⟩ : ∃ fm_16 : Nat → Int32, rM fm_16 ∧ va_P g.1 vwCl (List.flatten [bMo g o a 0 hi ac 0 (-1) tp at2_4 fl2_5 0 iD iO tU fm_16 fk fa2_1 fc ft ff fb fi]) H ∧ va_D A (List.flatten [bMo g o a 0 hi ac 0 (-1) tp at2_4 fl2_5 0 iD iO tU fm_16 fk fa2_1 fc ft ff fb fi]) := ⟨upd fm2_6 0 x_15, (rM_stL rfm2_6 (by decide)), hP, hD⟩
      refine lv_aload_n hx hb dX12_town_69 rfl (lv_at hl 1 rfl) ?_
      refine lv_iconst (v := 0) hx hb dX12_town_70 (by decide) ?_
      refine va_put (D := g.1) (ci := 10) (v := .int 0) (ty := .int) (C := RX12) (T := TX12) (N := 20) hx hb hts izRX12 tyX12 tyX12_ok nmX12 hown hK hP hD hS 0 rfl rfl 6 (by decide) (hts _ k973) (fun _ h9 => h9) rfl (by decide +kernel) rfl rfl (Nat.le_of_ble_eq_true rfl) dX12_town_71 (fun H locs hP hD hS => ?_)
      have hP : va_P g.1 vwCl (List.flatten [bMo g o a 0 hi 0 0 (-1) tp at2_4 fl2_5 0 iD iO tU fm_16 fk fa2_1 fc ft ff fb fi]) H := hP
      have hD : va_D A (List.flatten [bMo g o a 0 hi 0 0 (-1) tp at2_4 fl2_5 0 iD iO tU fm_16 fk fa2_1 fc ft ff fb fi]) := hD
      refine lv_aload_n hx hb dX12_town_74 rfl (lv_at hl 1 rfl) ?_
      refine va_get (D := g.1) (ci := 10) (v := .ref (a 0)) (C := RX12) (T := TX12) (N := 20) hx hb hts izRX12 hown hK hP 0 rfl rfl 1 (by decide) (hts _ k815) (fun _ h9 => h9) rfl dX12_town_75 ?_
      refine lv_iconst (v := 0) hx hb dX12_town_78 (by decide) ?_
      refine va_iald hx hb hK hP 1 0 rfl rfl (zin rfl) dX12_town_79 ?_
      refine zg (fun x_17 => ?_)
      have hP : va_P g.1 vwCl (List.flatten [bMo g o a 0 hi 0 0 (-1) tp at2_4 fl2_5 0 iD iO tU fm_16 fk fa2_1 fc ft ff fb fi]) H := hP
      have hD : va_D A (List.flatten [bMo g o a 0 hi 0 0 (-1) tp at2_4 fl2_5 0 iD iO tU fm_16 fk fa2_1 fc ft ff fb fi]) := hD
      exact mret_i hx hb hr hlocks hS (Nat.le_of_ble_eq_true rfl) (Nat.le_of_ble_eq_true rfl) dX12_town_80 ((0 : Int32), at2_4, fl2_5, fm_16, fa2_1, (0 : Int32), x_17) rfl (show (0 ≤ (0 : Int32).toInt ∧ (0 : Int32).toInt ≤ 12) ∧ (rM fa2_1) ∧ (rM fm_16) from ⟨(by first | assumption | omega | decide | exact rfl | exact zb01 (by omega) | exact Or.inl (by decide) | exact Or.inr (by first | omega | decide)), (by first | assumption | omega | decide | exact rfl | exact zb01 (by omega) | exact Or.inl (by decide) | exact Or.inr (by first | omega | decide)), (by first | assumption | omega | decide | exact rfl | exact zb01 (by omega) | exact Or.inl (by decide) | exact Or.inr (by first | omega | decide))⟩) hP hD
    · skip
      have c18 : x_11.toInt = 12 := zeq cb9 rfl (by decide)
      have n19 : 12 ≤ x_11.toInt := Int.le_trans (Int.le_refl _) (Int.le_of_eq c18.symm)
      have n20 : x_11.toInt ≤ 12 := Int.le_trans (Int.le_of_eq c18) (Int.le_refl _)
      refine lv_iconst (v := 2) hx hb dX12_town_38 (by decide) ?_
      refine lv_goto (tgt := 43) hx hb dX12_town_39 (by decide) ?_
      refine va_put (D := g.1) (ci := 10) (v := .int 2) (ty := .int) (C := RX12) (T := TX12) (N := 20) hx hb hts izRX12 tyX12 tyX12_ok nmX12 hown hK hP hD hS 0 rfl rfl 0 (by decide) (hts _ k871) (fun _ h9 => h9) rfl (by decide +kernel) rfl rfl (Nat.le_of_ble_eq_true rfl) dX12_town_43 (fun H locs hP hD hS => ?_)
      have hP : va_P g.1 vwCl (List.flatten [bMo g o a 2 hi ac 0 (-1) tp at2_4 fl2_5 0 iD iO tU fm2_6 fk fa2_1 fc ft ff fb fi]) H := hP
      have hD : va_D A (List.flatten [bMo g o a 2 hi ac 0 (-1) tp at2_4 fl2_5 0 iD iO tU fm2_6 fk fa2_1 fc ft ff fb fi]) := hD
      refine lv_aload_n hx hb dX12_town_46 rfl (lv_at hl 1 rfl) ?_
      refine va_get (D := g.1) (ci := 10) (v := .int 2) (C := RX12) (T := TX12) (N := 20) hx hb hts izRX12 hown hK hP 0 rfl rfl 0 (by decide) (hts _ k871) (fun _ h9 => h9) rfl dX12_town_47 ?_
      refine lv_if_le (tgt := 59) hx hb dX12_town_50 (by decide) (fun c21 => absurd c21 (by decide)) (fun _ => ?_)
      refine lv_aload_n hx hb dX12_town_53 rfl (lv_at hl 1 rfl) ?_
      refine mcallV' (g := g) (q0 := 0) (ci := 10) (As := []) (rest := []) St hK hT hA hP hD hS hl.1 [0] [] rfl rfl rfl (m_comesBack l g o a 2 hi ac 0 (-1) tp at2_4 fl2_5 0 iD iO tU fm2_6 fk fa2_1 fc ft ff fb fi (by first | assumption | omega | decide | exact Or.inl (by decide) | exact Or.inr (by decide)) (by first | assumption | omega | decide | exact Or.inl (by decide) | exact Or.inr (by decide))) (cwV 0 hts (zgL (zl4 k983 k984 k985 k837) k972) rfl rfl rfl (by decide +kernel) ⟨Nat.le_of_ble_eq_true rfl, Nat.le_of_ble_eq_true rfl⟩) rfl rfl rfl rfl (Nat.le_of_ble_eq_true rfl) dX12_town_54 ⟨(Nat.le_of_ble_eq_true rfl), (Nat.le_of_ble_eq_true rfl)⟩ (fun fm2_22 H locs hq23 hP hD hS => ?_)
      replace hq23 : (rM fm2_22) := hq23
      have hP : va_P g.1 vwCl (List.flatten [bMo g o a 2 hi ac 0 (-1) tp at2_4 fl2_5 0 iD iO tU fm2_22 fk fa2_1 fc ft ff fb fi]) H := hP
      have hD : va_D A (List.flatten [bMo g o a 2 hi ac 0 (-1) tp at2_4 fl2_5 0 iD iO tU fm2_22 fk fa2_1 fc ft ff fb fi]) := hD
      refine W.widen (k := 0) (n := 0) (Nat.le_of_ble_eq_true rfl) (Nat.le_of_ble_eq_true rfl) ?_
      refine W.eq (g2 := F0 m 57 ls []) rfl ?_
      have rfm2_22 := hq23; clear hq23
      refine lv_iconst (v := 0) hx hb dX12_town_57 (by decide) ?_
      have hP : va_P g.1 vwCl (List.flatten [bMo g o a 2 hi ac 0 (-1) tp at2_4 fl2_5 0 iD iO tU fm2_22 fk fa2_1 fc ft ff fb fi]) H := hP
      have hD : va_D A (List.flatten [bMo g o a 2 hi ac 0 (-1) tp at2_4 fl2_5 0 iD iO tU fm2_22 fk fa2_1 fc ft ff fb fi]) := hD
      exact mret_i hx hb hr hlocks hS (Nat.le_of_ble_eq_true rfl) (Nat.le_of_ble_eq_true rfl) dX12_town_58 ((2 : Int32), at2_4, fl2_5, fm2_22, fa2_1, ac, (0 : Int32)) rfl (show (0 ≤ ac.toInt ∧ ac.toInt ≤ 12) ∧ (rM fa2_1) ∧ (rM fm2_22) from ⟨(by first | assumption | omega | decide | exact rfl | exact zb01 (by omega) | exact Or.inl (by decide) | exact Or.inr (by first | omega | decide)), (by first | assumption | omega | decide | exact rfl | exact zb01 (by omega) | exact Or.inl (by decide) | exact Or.inr (by first | omega | decide)), (by first | assumption | omega | decide | exact rfl | exact zb01 (by omega) | exact Or.inl (by decide) | exact Or.inr (by first | omega | decide))⟩) hP hD
  · skip
    have c24 : ¬ fl2_5.toInt = (-1) := zne cb9 rfl (by decide)
    refine lv_iconst (v := 1) hx hb dX12_town_23 (by decide) ?_
    refine lv_goto (tgt := 43) hx hb dX12_town_24 (by decide) ?_
    refine va_put (D := g.1) (ci := 10) (v := .int 1) (ty := .int) (C := RX12) (T := TX12) (N := 20) hx hb hts izRX12 tyX12 tyX12_ok nmX12 hown hK hP hD hS 0 rfl rfl 0 (by decide) (hts _ k871) (fun _ h9 => h9) rfl (by decide +kernel) rfl rfl (Nat.le_of_ble_eq_true rfl) dX12_town_43 (fun H locs hP hD hS => ?_)
    have hP : va_P g.1 vwCl (List.flatten [bMo g o a 1 hi ac 0 (-1) tp at2_4 fl2_5 0 iD iO tU fm2_6 fk fa2_1 fc ft ff fb fi]) H := hP
    have hD : va_D A (List.flatten [bMo g o a 1 hi ac 0 (-1) tp at2_4 fl2_5 0 iD iO tU fm2_6 fk fa2_1 fc ft ff fb fi]) := hD
    refine lv_aload_n hx hb dX12_town_46 rfl (lv_at hl 1 rfl) ?_
    refine va_get (D := g.1) (ci := 10) (v := .int 1) (C := RX12) (T := TX12) (N := 20) hx hb hts izRX12 hown hK hP 0 rfl rfl 0 (by decide) (hts _ k871) (fun _ h9 => h9) rfl dX12_town_47 ?_
    refine lv_if_le (tgt := 59) hx hb dX12_town_50 (by decide) (fun c25 => absurd c25 (by decide)) (fun _ => ?_)
    refine lv_aload_n hx hb dX12_town_53 rfl (lv_at hl 1 rfl) ?_
    refine mcallV' (g := g) (q0 := 0) (ci := 10) (As := []) (rest := []) St hK hT hA hP hD hS hl.1 [0] [] rfl rfl rfl (m_comesBack l g o a 1 hi ac 0 (-1) tp at2_4 fl2_5 0 iD iO tU fm2_6 fk fa2_1 fc ft ff fb fi (by first | assumption | omega | decide | exact Or.inl (by decide) | exact Or.inr (by decide)) (by first | assumption | omega | decide | exact Or.inl (by decide) | exact Or.inr (by decide))) (cwV 0 hts (zgL (zl4 k983 k984 k985 k837) k972) rfl rfl rfl (by decide +kernel) ⟨Nat.le_of_ble_eq_true rfl, Nat.le_of_ble_eq_true rfl⟩) rfl rfl rfl rfl (Nat.le_of_ble_eq_true rfl) dX12_town_54 ⟨(Nat.le_of_ble_eq_true rfl), (Nat.le_of_ble_eq_true rfl)⟩ (fun fm2_26 H locs hq27 hP hD hS => ?_)
    replace hq27 : (rM fm2_26) := hq27
    have hP : va_P g.1 vwCl (List.flatten [bMo g o a 1 hi ac 0 (-1) tp at2_4 fl2_5 0 iD iO tU fm2_26 fk fa2_1 fc ft ff fb fi]) H := hP
    have hD : va_D A (List.flatten [bMo g o a 1 hi ac 0 (-1) tp at2_4 fl2_5 0 iD iO tU fm2_26 fk fa2_1 fc ft ff fb fi]) := hD
    refine W.widen (k := 0) (n := 0) (Nat.le_of_ble_eq_true rfl) (Nat.le_of_ble_eq_true rfl) ?_
    refine W.eq (g2 := F0 m 57 ls []) rfl ?_
    have rfm2_26 := hq27; clear hq27
    refine lv_iconst (v := 0) hx hb dX12_town_57 (by decide) ?_
    have hP : va_P g.1 vwCl (List.flatten [bMo g o a 1 hi ac 0 (-1) tp at2_4 fl2_5 0 iD iO tU fm2_26 fk fa2_1 fc ft ff fb fi]) H := hP
    have hD : va_D A (List.flatten [bMo g o a 1 hi ac 0 (-1) tp at2_4 fl2_5 0 iD iO tU fm2_26 fk fa2_1 fc ft ff fb fi]) := hD
    exact mret_i hx hb hr hlocks hS (Nat.le_of_ble_eq_true rfl) (Nat.le_of_ble_eq_true rfl) dX12_town_58 ((1 : Int32), at2_4, fl2_5, fm2_26, fa2_1, ac, (0 : Int32)) rfl (show (0 ≤ ac.toInt ∧ ac.toInt ≤ 12) ∧ (rM fa2_1) ∧ (rM fm2_26) from ⟨(by first | assumption | omega | decide | exact rfl | exact zb01 (by omega) | exact Or.inl (by decide) | exact Or.inr (by first | omega | decide)), (by first | assumption | omega | decide | exact rfl | exact zb01 (by omega) | exact Or.inl (by decide) | exact Or.inr (by first | omega | decide)), (by first | assumption | omega | decide | exact rfl | exact zb01 (by omega) | exact Or.inl (by decide) | exact Or.inr (by first | omega | decide))⟩) hP hD
