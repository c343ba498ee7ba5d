set_option maxRecDepth 100000 in
set_option maxHeartbeats 4000000 in
theorem m_trustsLine (l : Launch) (g : zG) (o : Nat) (a : Nat → Nat) (th : Int32) (hi : Int32) (ac : Int32) (tp : Int32) (ba : Int32) (en : Int32) (tA : Int32) (fl : Int32) (de : Int32) (iD : Int32) (iO : Int32) (tU : Int32) (fm : Nat → Int32) (fk : Nat → Int32) (fa : Nat → Int32) (fc : Nat → Int32) (ft : Nat → Int32) (ff : Nat → Int32) (fb : Nat → Int32) (fi : Nat → Int32) (rfm : rM fm) (hba : zBa ba.toInt) (hen : 0 ≤ en.toInt ∧ en.toInt ≤ 400) (htA : 0 ≤ tA.toInt ∧ tA.toInt ≤ en.toInt + 7 - de.toInt) (hfl : -1 ≤ fl.toInt) (hde : 0 ≤ de.toInt ∧ de.toInt ≤ 6) : zM' g l yX12_trustsLine (Cond.code yX12_trustsLine cX12_trustsLine 5 none :: zB) ({ frames := 4, cells := 0, slots := 0, locals := 85 } : Room) [.ref o] [bMo g o a th hi ac tp ba en tA fl de iD iO tU fm fk fa fc ft ff fb fi] (fun u : Int32 × Int32 × (Nat → Int32) => (fun (at2 : Int32) (fl2 : Int32) (fm2 : Nat → Int32) => none) (u.1) (u.2.1) (u.2.2)) (fun u : Int32 × Int32 × (Nat → Int32) => (fun (at2 : Int32) (fl2 : Int32) (fm2 : Nat → Int32) => (rM fm2) ∧ (0 ≤ at2.toInt ∧ at2.toInt ≤ en.toInt + 7 - de.toInt) ∧ (tA.toInt ≤ at2.toInt) ∧ (-1 ≤ fl2.toInt)) (u.1) (u.2.1) (u.2.2)) (fun u : Int32 × Int32 × (Nat → Int32) => (fun (at2 : Int32) (fl2 : Int32) (fm2 : Nat → Int32) => [bMo g o a th hi ac tp ba en at2 fl2 de iD iO tU fm2 fk fa fc ft ff fb fi]) (u.1) (u.2.1) (u.2.2)) := by
  refine zM'.of (cc := cX12_trustsLine) (maxL := 5) (rt := none) (by decide) rfl (Nat.le_of_ble_eq_true rfl) ?_
  intro p e s m args below meth c A ls St hr hlocks hin hK hT hA hP hD hS hl
  obtain ⟨hx, hb, hml, hown, hts⟩ := id St
  have hl : lv_has ls 5 [(0, .ref o)] := hl
  refine lv_aload_n hx hb dX12_trustsLine_0 rfl (lv_at hl 0 rfl) ?_
  refine lv_iconst (v := 0) hx hb dX12_trustsLine_1 (by decide) ?_
  refine lv_aload_n hx hb dX12_trustsLine_2 rfl (lv_at hl 0 rfl) ?_
  refine va_get (D := g.1) (ci := 10) (v := .ref (a 0)) (C := RX12) (T := TX12) (N := 20) hx hb hts izRX12 hown hK hP 0 rfl rfl 1 (by decide) (hts _ k815) (fun _ h9 => h9) rfl dX12_trustsLine_3 ?_
  refine lv_iconst (v := 3) hx hb dX12_trustsLine_6 (by decide) ?_
  refine va_iald hx hb hK hP 1 0 rfl rfl (zin rfl) dX12_trustsLine_7 ?_
  refine zgq (r := fm 3) rfl (rM3 rfm) (fun x_1 hx_1 => ?_)
  refine lv_iconst (v := 1) hx hb dX12_trustsLine_8 (by decide) ?_
  refine lv_isub hx hb dX12_trustsLine_9 ?_
  refine zg3 (zsubK (i := x_1.toInt) (j := 1) (a' := (-1)) (b' := 7) rfl (by decide) hx_1.1 hx_1.2.1 (Int.le_refl _) (Int.le_refl _) (by decide)) (fun x_2 hx_2 => ?_)
  have hL0 : (0 : Int32).toInt = 0 := by decide
  refine mcallV' (g := g) (q0 := 0) (ci := 10) (As := [.int 0, .int x_2]) (rest := []) St hK hT hA hP hD hS hl.1 [0] [] rfl rfl rfl (m_figures l g o a th hi ac tp ba en tA fl de iD iO tU fm fk fa fc ft ff fb fi 0 x_2 (by first | assumption | omega | decide | exact Or.inl (by decide) | exact Or.inr (by decide)) (⟨hen.1, hen.2⟩) (by first | assumption | omega | decide | exact Or.inl (by decide) | exact Or.inr (by decide)) (by first | assumption | omega | decide | exact Or.inl (by decide) | exact Or.inr (by decide)) (⟨hde.1, hde.2⟩)) (cwV 2 hts (zgL (zl4 k901 k902 k903 k837) k897) rfl rfl rfl (by decide +kernel) ⟨Nat.le_of_ble_eq_true rfl, Nat.le_of_ble_eq_true rfl⟩) rfl rfl rfl rfl (Nat.le_of_ble_eq_true rfl) dX12_trustsLine_10 ⟨(Nat.le_of_ble_eq_true rfl), (Nat.le_of_ble_eq_true rfl)⟩ (fun u_ H locs hq6 hP hD hS => ?_)
  obtain ⟨at2_3, fl2_4, r_5⟩ := u_
  replace hq6 : (0 ≤ at2_3.toInt ∧ at2_3.toInt ≤ en.toInt + 7 - de.toInt) ∧ (tA.toInt ≤ at2_3.toInt) ∧ (-1 ≤ fl2_4.toInt) ∧ (zImp (fl2_4.toInt = -1) (fl.toInt = -1 ∧ (0 : Int32).toInt ≤ r_5.toInt ∧ r_5.toInt ≤ x_2.toInt)) := hq6
  have hP : va_P g.1 vwCl (List.flatten [bMo g o a th hi ac tp ba en at2_3 fl2_4 de iD iO tU fm fk fa fc ft ff fb fi]) H := hP
  have hD : va_D A (List.flatten [bMo g o a th hi ac tp ba en at2_3 fl2_4 de iD iO tU fm fk fa fc ft ff fb fi]) := hD
  refine W.widen (k := 0) (n := 0) (Nat.le_of_ble_eq_true rfl) (Nat.le_of_ble_eq_true rfl) ?_
  refine W.eq (g2 := F0 m 13 ls [.int r_5]) rfl ?_
  obtain ⟨hq6_0, hq6_1, hq6_2, hq6_3⟩ := hq6
  refine lv_istore_n (lv' := [(1, .int r_5), (0, .ref o)]) hx hb dX12_trustsLine_13 rfl hl (by decide) rfl (fun ls hl => ?_)
  refine lv_aload_n hx hb dX12_trustsLine_14 rfl (lv_at hl 1 rfl) ?_
  refine mcallV' (g := g) (q0 := 0) (ci := 10) (As := []) (rest := []) St hK hT hA hP hD hS hl.1 [0] [] rfl rfl rfl (m_here l g o a th hi ac tp ba en at2_3 fl2_4 de iD iO tU fm fk fa fc ft ff fb fi (by first | assumption | omega | decide | exact Or.inl (by decide) | exact Or.inr (by decide)) (⟨hen.1, hen.2⟩) (by first | assumption | omega | decide | exact Or.inl (by decide) | exact Or.inr (by decide)) (by first | assumption | omega | decide | exact Or.inl (by decide) | exact Or.inr (by decide)) (⟨hde.1, hde.2⟩)) (cwV 0 hts (zgL (zl4 k891 k892 k893 k837) k890) rfl rfl rfl (by decide +kernel) ⟨Nat.le_of_ble_eq_true rfl, Nat.le_of_ble_eq_true rfl⟩) rfl rfl rfl rfl (Nat.le_of_ble_eq_true rfl) dX12_trustsLine_15 ⟨(Nat.le_of_ble_eq_true rfl), (Nat.le_of_ble_eq_true rfl)⟩ (fun at2_7 H locs hq8 hP hD hS => ?_)
  replace hq8 : (0 ≤ at2_7.toInt ∧ at2_7.toInt ≤ en.toInt + 7 - de.toInt) ∧ (at2_3.toInt ≤ at2_7.toInt) := hq8
  have hP : va_P g.1 vwCl (List.flatten [bMo g o a th hi ac tp ba en at2_7 fl2_4 de iD iO tU fm fk fa fc ft ff fb fi]) H := hP
  have hD : va_D A (List.flatten [bMo g o a th hi ac tp ba en at2_7 fl2_4 de iD iO tU fm fk fa fc ft ff fb fi]) := hD
  refine W.widen (k := 0) (n := 0) (Nat.le_of_ble_eq_true rfl) (Nat.le_of_ble_eq_true rfl) ?_
  refine W.eq (g2 := F0 m 18 ls [.int at2_7]) rfl ?_
  obtain ⟨hq8_0, hq8_1⟩ := hq8
  refine lv_istore_n (lv' := [(2, .int at2_7), (1, .int r_5), (0, .ref o)]) hx hb dX12_trustsLine_18 rfl hl (by decide) rfl (fun ls hl => ?_)
  refine lv_iconst (v := 0) hx hb dX12_trustsLine_19 (by decide) ?_
  refine lv_istore_n (lv' := [(3, .int 0), (2, .int at2_7), (1, .int r_5), (0, .ref o)]) hx hb dX12_trustsLine_20 rfl hl (by decide) rfl (fun ls hl => ?_)
  have hl := lv_sub (l' := [(0, .ref o), (1, .int r_5), (2, .int at2_7), (3, .int 0)]) hl [3, 2, 1, 0] rfl
  have LP21_12 : ∀ (kf : Nat) (x_9 : Int32), (0 ≤ x_9.toInt ∧ x_9.toInt ≤ 400) → (x_9.toInt = 0 ∨ at2_7.toInt + x_9.toInt ≤ en.toInt) → ∀ (H : Heap) (locs : List Loc) (ls : Array Slot), ((400 - x_9.toInt).toNat) < kf → va_P g.1 vwCl (List.flatten [bMo g o a th hi ac tp ba en at2_7 fl2_4 de iD iO tU fm fk fa fc ft ff fb fi]) H → va_D A (List.flatten [bMo g o a th hi ac tp ba en at2_7 fl2_4 de iD iO tU fm fk fa fc ft ff fb fi]) → va_S A s.heap H locs → lv_has ls 5 [(0, .ref o), (1, .int r_5), (2, .int at2_7), (3, .int x_9)] → W p l e ({ frames := 4, cells := 0, slots := 0, locals := 85 } : Room) s m args below meth c H locs (0) (0) (zF g (fun u : Int32 × Int32 × (Nat → Int32) => (fun (at2 : Int32) (fl2 : Int32) (fm2 : Nat → Int32) => none) (u.1) (u.2.1) (u.2.2)) (fun u : Int32 × Int32 × (Nat → Int32) => (fun (at2 : Int32) (fl2 : Int32) (fm2 : Nat → Int32) => (rM fm2) ∧ (0 ≤ at2.toInt ∧ at2.toInt ≤ en.toInt + 7 - de.toInt) ∧ (tA.toInt ≤ at2.toInt) ∧ (-1 ≤ fl2.toInt)) (u.1) (u.2.1) (u.2.2)) (fun u : Int32 × Int32 × (Nat → Int32) => (fun (at2 : Int32) (fl2 : Int32) (fm2 : Nat → Int32) => [bMo g o a th hi ac tp ba en at2 fl2 de iD iO tU fm2 fk fa fc ft ff fb fi]) (u.1) (u.2.1) (u.2.2)) ({ frames := 4, cells := 0, slots := 0, locals := 85 } : Room) below args s A) (F0 m 21 ls []) := by
    intro kf
    induction kf with
    | zero => intro x_9 i10 i11 H locs ls hk; exact absurd hk (Nat.not_lt_zero _)
    | succ kf ih21_13 =>
      intro x_9 i10 i11 H locs ls hk21_13 hP hD hS hl
      refine lv_aload_n hx hb dX12_trustsLine_21 rfl (lv_at hl 0 rfl) ?_
      refine va_get (D := g.1) (ci := 10) (v := .int fl2_4) (C := RX12) (T := TX12) (N := 20) hx hb hts izRX12 hown hK hP 0 rfl rfl 12 (by decide) (hts _ k820) (fun _ h9 => h9) rfl dX12_trustsLine_22 ?_
      refine lv_iconst (v := (-1)) hx hb dX12_trustsLine_25 (by decide) ?_
      refine lv_icmp_ne (tgt := 62) hx hb dX12_trustsLine_26 (by decide) (fun cb9 => ?_) (fun cb9 => ?_)
      · skip
        have c14 : ¬ fl2_4.toInt = (-1) := zne cb9 rfl (by decide)
        refine lv_iload_n hx hb dX12_trustsLine_62 rfl (lv_at hl 3 rfl) ?_
        refine lv_aload_n hx hb dX12_trustsLine_63 rfl (lv_at hl 0 rfl) ?_
        refine va_get (D := g.1) (ci := 10) (v := .ref (a 0)) (C := RX12) (T := TX12) (N := 20) hx hb hts izRX12 hown hK hP 0 rfl rfl 1 (by decide) (hts _ k815) (fun _ h9 => h9) rfl dX12_trustsLine_64 ?_
        refine lv_iconst (v := 3) hx hb dX12_trustsLine_67 (by decide) ?_
        refine va_iald hx hb hK hP 1 0 rfl rfl (zin rfl) dX12_trustsLine_68 ?_
        refine zgq (r := fm 3) rfl (rM3 rfm) (fun x_15 hx_15 => ?_)
        refine lv_icmp_eq (tgt := 77) hx hb dX12_trustsLine_69 (by decide) (fun cb9 => ?_) (fun cb9 => ?_)
        · skip
          have c16 : x_9.toInt = x_15.toInt := zeq cb9 rfl rfl
          have n17 : x_9.toInt ≤ 8 := Int.le_trans (Int.le_of_eq c16) hx_15.2.1
          refine lv_aload_n hx hb dX12_trustsLine_77 rfl (lv_at hl 0 rfl) ?_
          refine va_get (D := g.1) (ci := 10) (v := .int fl2_4) (C := RX12) (T := TX12) (N := 20) hx hb hts izRX12 hown hK hP 0 rfl rfl 12 (by decide) (hts _ k820) (fun _ h9 => h9) rfl dX12_trustsLine_78 ?_
          refine lv_iconst (v := (-1)) hx hb dX12_trustsLine_81 (by decide) ?_
          refine lv_icmp_eq (tgt := 86) hx hb dX12_trustsLine_82 (by decide) (fun cb9 => ?_) (fun cb9 => ?_)
          · skip
            exact absurd (show fl2_4.toInt = (-1) from zeq cb9 rfl (by decide)) (by omega)
          · skip
            have c19 : ¬ fl2_4.toInt = (-1) := zne cb9 rfl (by decide)
            have hP : va_P g.1 vwCl (List.flatten [bMo g o a th hi ac tp ba en at2_7 fl2_4 de iD iO tU fm fk fa fc ft ff fb fi]) H := hP
            have hD : va_D A (List.flatten [bMo g o a th hi ac tp ba en at2_7 fl2_4 de iD iO tU fm fk fa fc ft ff fb fi]) := hD
            exact mret_v hx hb hr hlocks hS (Nat.le_of_ble_eq_true rfl) (Nat.le_of_ble_eq_true rfl) dX12_trustsLine_85 (at2_7, fl2_4, fm) rfl (show (rM fm) ∧ (0 ≤ at2_7.toInt ∧ at2_7.toInt ≤ en.toInt + 7 - de.toInt) ∧ (tA.toInt ≤ at2_7.toInt) ∧ (-1 ≤ fl2_4.toInt) from ⟨(by first | assumption | omega | decide | exact rfl | exact zb01 (by omega) | exact Or.inl (by decide) | exact Or.inr (by first | omega | decide)), (by first | assumption | omega | decide | exact rfl | exact zb01 (by omega) | exact Or.inl (by decide) | exact Or.inr (by first | omega | decide)), (by first | assumption | omega | decide | exact rfl | exact zb01 (by omega) | exact Or.inl (by decide) | exact Or.inr (by first | omega | decide)), (by first | assumption | omega | decide | exact rfl | exact zb01 (by omega) | exact Or.inl (by decide) | exact Or.inr (by first | omega | decide))⟩) hP hD
        · skip
          have c20 : ¬ x_9.toInt = x_15.toInt := zne cb9 rfl rfl
          refine lv_aload_n hx hb dX12_trustsLine_72 rfl (lv_at hl 0 rfl) ?_
          refine lv_iload_n hx hb dX12_trustsLine_73 rfl (lv_at hl 2 rfl) ?_
          refine mcallV' (g := g) (q0 := 0) (ci := 10) (As := [.int at2_7]) (rest := []) St hK hT hA hP hD hS hl.1 [0] [] rfl rfl rfl (m_wrong l g o a th hi ac tp ba en at2_7 fl2_4 de iD iO tU fm fk fa fc ft ff fb fi at2_7 (by first | assumption | omega | decide | exact Or.inl (by decide) | exact Or.inr (by decide)) (by first | assumption | omega | decide | exact Or.inl (by decide) | exact Or.inr (by decide))) (cwV 1 hts (zgL (zl4 k894 k895 k896 k837) k889) rfl rfl rfl (by decide +kernel) ⟨Nat.le_of_ble_eq_true rfl, Nat.le_of_ble_eq_true rfl⟩) rfl rfl rfl rfl (Nat.le_of_ble_eq_true rfl) dX12_trustsLine_74 ⟨(Nat.le_of_ble_eq_true rfl), (Nat.le_of_ble_eq_true rfl)⟩ (fun fl2_21 H locs hq22 hP hD hS => ?_)
          replace hq22 : (0 ≤ fl2_21.toInt) := hq22
          have hP : va_P g.1 vwCl (List.flatten [bMo g o a th hi ac tp ba en at2_7 fl2_21 de iD iO tU fm fk fa fc ft ff fb fi]) H := hP
          have hD : va_D A (List.flatten [bMo g o a th hi ac tp ba en at2_7 fl2_21 de iD iO tU fm fk fa fc ft ff fb fi]) := hD
          refine W.widen (k := 0) (n := 0) (Nat.le_of_ble_eq_true rfl) (Nat.le_of_ble_eq_true rfl) ?_
          refine W.eq (g2 := F0 m 77 ls []) rfl ?_
          refine lv_aload_n hx hb dX12_trustsLine_77 rfl (lv_at hl 0 rfl) ?_
          refine va_get (D := g.1) (ci := 10) (v := .int fl2_21) (C := RX12) (T := TX12) (N := 20) hx hb hts izRX12 hown hK hP 0 rfl rfl 12 (by decide) (hts _ k820) (fun _ h9 => h9) rfl dX12_trustsLine_78 ?_
          refine lv_iconst (v := (-1)) hx hb dX12_trustsLine_81 (by decide) ?_
          refine lv_icmp_eq (tgt := 86) hx hb dX12_trustsLine_82 (by decide) (fun cb9 => ?_) (fun cb9 => ?_)
          · skip
            exact absurd (show fl2_21.toInt = (-1) from zeq cb9 rfl (by decide)) (zDeq2 (a := 0) (b := (-1)) hq22 (Int.le_refl _) (by decide))
          · skip
            have c24 : ¬ fl2_21.toInt = (-1) := zne cb9 rfl (by decide)
            have hP : va_P g.1 vwCl (List.flatten [bMo g o a th hi ac tp ba en at2_7 fl2_21 de iD iO tU fm fk fa fc ft ff fb fi]) H := hP
            have hD : va_D A (List.flatten [bMo g o a th hi ac tp ba en at2_7 fl2_21 de iD iO tU fm fk fa fc ft ff fb fi]) := hD
            exact mret_v hx hb hr hlocks hS (Nat.le_of_ble_eq_true rfl) (Nat.le_of_ble_eq_true rfl) dX12_trustsLine_85 (at2_7, fl2_21, fm) rfl (show (rM fm) ∧ (0 ≤ at2_7.toInt ∧ at2_7.toInt ≤ en.toInt + 7 - de.toInt) ∧ (tA.toInt ≤ at2_7.toInt) ∧ (-1 ≤ fl2_21.toInt) from ⟨(by first | assumption | omega | decide | exact rfl | exact zb01 (by omega) | exact Or.inl (by decide) | exact Or.inr (by first | omega | decide)), (by first | assumption | omega | decide | exact rfl | exact zb01 (by omega) | exact Or.inl (by decide) | exact Or.inr (by first | omega | decide)), (by first | assumption | omega | decide | exact rfl | exact zb01 (by omega) | exact Or.inl (by decide) | exact Or.inr (by first | omega | decide)), (by first | assumption | omega | decide | exact rfl | exact zb01 (by omega) | exact Or.inl (by decide) | exact Or.inr (by first | omega | decide))⟩) hP hD
      · skip
        have c25 : fl2_4.toInt = (-1) := zeq cb9 rfl (by decide)
        have n26 : fl2_4.toInt ≤ (-1) := Int.le_trans (Int.le_of_eq c25) (Int.le_refl _)
        obtain ⟨e28, w27⟩ := hq6_3 c25
        have w29 : 0 ≤ r_5.toInt ∧ r_5.toInt ≤ 7 := by first | exact w27 | omega
        refine lv_iload_n hx hb dX12_trustsLine_29 rfl (lv_at hl 2 rfl) ?_
        refine lv_iload_n hx hb dX12_trustsLine_30 rfl (lv_at hl 3 rfl) ?_
        refine lv_iadd hx hb dX12_trustsLine_31 ?_
        refine zgv (zadd (i := at2_7.toInt) (j := x_9.toInt) rfl rfl (by omega)) (fun x_30 hx_30 => ?_)
        refine lv_aload_n hx hb dX12_trustsLine_32 rfl (lv_at hl 0 rfl) ?_
        refine va_get (D := g.1) (ci := 10) (v := .int en) (C := RX12) (T := TX12) (N := 20) hx hb hts izRX12 hown hK hP 0 rfl rfl 10 (by decide) (hts _ k878) (fun _ h9 => h9) rfl dX12_trustsLine_33 ?_
        refine lv_icmp_ge (tgt := 62) hx hb dX12_trustsLine_36 (by decide) (fun cb9 => ?_) (fun cb9 => ?_)
        · skip
          have c31 : en.toInt ≤ x_30.toInt := zle cb9 rfl rfl
          refine lv_iload_n hx hb dX12_trustsLine_62 rfl (lv_at hl 3 rfl) ?_
          refine lv_aload_n hx hb dX12_trustsLine_63 rfl (lv_at hl 0 rfl) ?_
          refine va_get (D := g.1) (ci := 10) (v := .ref (a 0)) (C := RX12) (T := TX12) (N := 20) hx hb hts izRX12 hown hK hP 0 rfl rfl 1 (by decide) (hts _ k815) (fun _ h9 => h9) rfl dX12_trustsLine_64 ?_
          refine lv_iconst (v := 3) hx hb dX12_trustsLine_67 (by decide) ?_
          refine va_iald hx hb hK hP 1 0 rfl rfl (zin rfl) dX12_trustsLine_68 ?_
          refine zgq (r := fm 3) rfl (rM3 rfm) (fun x_32 hx_32 => ?_)
          refine lv_icmp_eq (tgt := 77) hx hb dX12_trustsLine_69 (by decide) (fun cb9 => ?_) (fun cb9 => ?_)
          · skip
            have c33 : x_9.toInt = x_32.toInt := zeq cb9 rfl rfl
            have n34 : x_9.toInt ≤ 8 := Int.le_trans (Int.le_of_eq c33) hx_32.2.1
            refine lv_aload_n hx hb dX12_trustsLine_77 rfl (lv_at hl 0 rfl) ?_
            refine va_get (D := g.1) (ci := 10) (v := .int fl2_4) (C := RX12) (T := TX12) (N := 20) hx hb hts izRX12 hown hK hP 0 rfl rfl 12 (by decide) (hts _ k820) (fun _ h9 => h9) rfl dX12_trustsLine_78 ?_
            refine lv_iconst (v := (-1)) hx hb dX12_trustsLine_81 (by decide) ?_
            refine lv_icmp_eq (tgt := 86) hx hb dX12_trustsLine_82 (by decide) (fun cb9 => ?_) (fun cb9 => ?_)
            · skip
              have c35 : fl2_4.toInt = (-1) := zeq cb9 rfl (by decide)
              obtain ⟨e37, w36⟩ := hq6_3 c35
              have w38 : 0 ≤ r_5.toInt ∧ r_5.toInt ≤ 7 := by first | exact w36 | omega
              have w39 : 0 ≤ r_5.toInt ∧ r_5.toInt ≤ 7 := by omega
              refine lv_iconst (v := 0) hx hb dX12_trustsLine_86 (by decide) ?_
              refine lv_istore (lv' := [(4, .int 0), (0, .ref o), (1, .int r_5), (2, .int at2_7), (3, .int x_9)]) hx hb dX12_trustsLine_87 hl (by decide) rfl (fun ls hl => ?_)
              have hl := lv_sub (l' := [(0, .ref o), (1, .int r_5), (2, .int at2_7), (3, .int x_9), (4, .int 0)]) hl [1, 2, 3, 4, 0] rfl
              have LP89_43 : ∀ (kf : Nat) (x_40 : Int32) (fm_41 : Nat → Int32), (0 ≤ x_40.toInt ∧ x_40.toInt ≤ 8) → (rM fm_41) → ∀ (H : Heap) (locs : List Loc) (ls : Array Slot), ((9 - x_40.toInt).toNat) < kf → va_P g.1 vwCl (List.flatten [bMo g o a th hi ac tp ba en at2_7 fl2_4 de iD iO tU fm_41 fk fa fc ft ff fb fi]) H → va_D A (List.flatten [bMo g o a th hi ac tp ba en at2_7 fl2_4 de iD iO tU fm_41 fk fa fc ft ff fb fi]) → va_S A s.heap H locs → lv_has ls 5 [(0, .ref o), (1, .int r_5), (2, .int at2_7), (3, .int x_9), (4, .int x_40)] → W p l e ({ frames := 4, cells := 0, slots := 0, locals := 85 } : Room) s m args below meth c H locs (0) (0) (zF g (fun u : Int32 × Int32 × (Nat → Int32) => (fun (at2 : Int32) (fl2 : Int32) (fm2 : Nat → Int32) => none) (u.1) (u.2.1) (u.2.2)) (fun u : Int32 × Int32 × (Nat → Int32) => (fun (at2 : Int32) (fl2 : Int32) (fm2 : Nat → Int32) => (rM fm2) ∧ (0 ≤ at2.toInt ∧ at2.toInt ≤ en.toInt + 7 - de.toInt) ∧ (tA.toInt ≤ at2.toInt) ∧ (-1 ≤ fl2.toInt)) (u.1) (u.2.1) (u.2.2)) (fun u : Int32 × Int32 × (Nat → Int32) => (fun (at2 : Int32) (fl2 : Int32) (fm2 : Nat → Int32) => [bMo g o a th hi ac tp ba en at2 fl2 de iD iO tU fm2 fk fa fc ft ff fb fi]) (u.1) (u.2.1) (u.2.2)) ({ frames := 4, cells := 0, slots := 0, locals := 85 } : Room) below args s A) (F0 m 89 ls []) := by
                intro kf
                induction kf with
                | zero => intro x_40 fm_41 i42 rfm_41 H locs ls hk; exact absurd hk (Nat.not_lt_zero _)
                | succ kf ih89_44 =>
                  intro x_40 fm_41 i42 rfm_41 H locs ls hk89_44 hP hD hS hl
                  refine lv_iload hx hb dX12_trustsLine_89 (lv_at hl 4 rfl) ?_
                  refine lv_iload_n hx hb dX12_trustsLine_91 rfl (lv_at hl 3 rfl) ?_
                  refine lv_icmp_ge (tgt := 127) hx hb dX12_trustsLine_92 (by decide) (fun cb9 => ?_) (fun cb9 => ?_)
                  · skip
                    have c45 : x_9.toInt ≤ x_40.toInt := zle cb9 rfl rfl
                    refine lv_aload_n hx hb dX12_trustsLine_127 rfl (lv_at hl 0 rfl) ?_
                    refine lv_iload_n hx hb dX12_trustsLine_128 rfl (lv_at hl 2 rfl) ?_
                    refine lv_iload_n hx hb dX12_trustsLine_129 rfl (lv_at hl 3 rfl) ?_
                    refine lv_iadd hx hb dX12_trustsLine_130 ?_
                    refine zgv (zadd (i := at2_7.toInt) (j := x_9.toInt) rfl rfl (by omega)) (fun x_46 hx_46 => ?_)
                    refine va_put (D := g.1) (ci := 10) (v := .int x_46) (ty := .int) (C := RX12) (T := TX12) (N := 20) hx hb hts izRX12 tyX12 tyX12_ok nmX12 hown hK hP hD hS 0 rfl rfl 11 (by decide) (hts _ k877) (fun _ h9 => h9) rfl (by decide +kernel) rfl rfl (Nat.le_of_ble_eq_true rfl) dX12_trustsLine_131 (fun H locs hP hD hS => ?_)
                    have hP : va_P g.1 vwCl (List.flatten [bMo g o a th hi ac tp ba en x_46 fl2_4 de iD iO tU fm_41 fk fa fc ft ff fb fi]) H := hP
                    have hD : va_D A (List.flatten [bMo g o a th hi ac tp ba en x_46 fl2_4 de iD iO tU fm_41 fk fa fc ft ff fb fi]) := hD
                    have hP : va_P g.1 vwCl (List.flatten [bMo g o a th hi ac tp ba en x_46 fl2_4 de iD iO tU fm_41 fk fa fc ft ff fb fi]) H := hP
                    have hD : va_D A (List.flatten [bMo g o a th hi ac tp ba en x_46 fl2_4 de iD iO tU fm_41 fk fa fc ft ff fb fi]) := hD
                    exact mret_v hx hb hr hlocks hS (Nat.le_of_ble_eq_true rfl) (Nat.le_of_ble_eq_true rfl) dX12_trustsLine_134 (x_46, fl2_4, fm_41) rfl (show (rM fm_41) ∧ (0 ≤ x_46.toInt ∧ x_46.toInt ≤ en.toInt + 7 - de.toInt) ∧ (tA.toInt ≤ x_46.toInt) ∧ (-1 ≤ fl2_4.toInt) from ⟨(by first | assumption | omega | decide | exact rfl | exact zb01 (by omega) | exact Or.inl (by decide) | exact Or.inr (by first | omega | decide)), (by first | assumption | omega | decide | exact rfl | exact zb01 (by omega) | exact Or.inl (by decide) | exact Or.inr (by first | omega | decide)), (by first | assumption | omega | decide | exact rfl | exact zb01 (by omega) | exact Or.inl (by decide) | exact Or.inr (by first | omega | decide)), (by first | assumption | omega | decide | exact rfl | exact zb01 (by omega) | exact Or.inl (by decide) | exact Or.inr (by first | omega | decide))⟩) hP hD
                  · skip
                    have c47 : x_40.toInt < x_9.toInt := zlti (Int32.not_le.mp cb9) rfl rfl
                    have n48 : x_40.toInt ≤ 7 := zL1 (b := 8) c47 n34 (by decide)
                    have n49 : 1 ≤ x_9.toInt := zL2 (a := 0) c47 i42.1 (by decide)
                    refine lv_aload_n hx hb dX12_trustsLine_95 rfl (lv_at hl 0 rfl) ?_
                    refine va_get (D := g.1) (ci := 10) (v := .ref (a 0)) (C := RX12) (T := TX12) (N := 20) hx hb hts izRX12 hown hK hP 0 rfl rfl 1 (by decide) (hts _ k815) (fun _ h9 => h9) rfl dX12_trustsLine_96 ?_
                    refine lv_bipush (v := 51) hx hb dX12_trustsLine_99 (by decide) ?_
                    refine lv_bipush (v := 8) hx hb dX12_trustsLine_101 (by decide) ?_
                    refine lv_iload_n hx hb dX12_trustsLine_103 rfl (lv_at hl 1 rfl) ?_
                    refine lv_imul hx hb dX12_trustsLine_104 ?_
                    refine zg3 (zmulKL (i := r_5.toInt) (n := 8) (a' := 0) (b' := 56) rfl (by decide) w39.1 w39.2 (by decide) (by decide)) (fun x_50 hx_50 => ?_)
                    refine lv_iadd hx hb dX12_trustsLine_105 ?_
                    refine zg3 (zaddK (i := 51) (j := x_50.toInt) (a' := 51) (b' := 107) (by decide) rfl (Int.le_refl _) (Int.le_refl _) hx_50.2.1 hx_50.2.2 (by decide)) (fun x_51 hx_51 => ?_)
                    refine lv_iload hx hb dX12_trustsLine_106 (lv_at hl 4 rfl) ?_
                    refine lv_iadd hx hb dX12_trustsLine_108 ?_
                    refine zg3 (zaddK (i := x_51.toInt) (j := x_40.toInt) (a' := 51) (b' := 114) rfl rfl hx_51.2.1 hx_51.2.2 i42.1 n48 (by decide)) (fun x_52 hx_52 => ?_)
                    refine lv_aload_n hx hb dX12_trustsLine_109 rfl (lv_at hl 0 rfl) ?_
                    refine lv_iload_n hx hb dX12_trustsLine_110 rfl (lv_at hl 2 rfl) ?_
                    refine lv_iload hx hb dX12_trustsLine_111 (lv_at hl 4 rfl) ?_
                    refine lv_iadd hx hb dX12_trustsLine_113 ?_
                    refine zgv (zadd (i := at2_7.toInt) (j := x_40.toInt) rfl rfl (by omega)) (fun x_53 hx_53 => ?_)
                    refine mcallV' (g := g) (q0 := 0) (ci := 10) (As := [.int x_53]) (rest := [.int x_52, .ref (a 0)]) St hK hT hA hP hD hS hl.1 [0] [] rfl rfl rfl (m_letter l g o a th hi ac tp ba en at2_7 fl2_4 de iD iO tU fm_41 fk fa fc ft ff fb fi x_53 (by first | assumption | omega | decide | exact Or.inl (by decide) | exact Or.inr (by decide)) (by first | assumption | omega | decide | exact Or.inl (by decide) | exact Or.inr (by decide))) (cwV 1 hts (zgL (zl4 k879 k880 k881 k837) k874) rfl rfl rfl (by decide +kernel) ⟨Nat.le_of_ble_eq_true rfl, Nat.le_of_ble_eq_true rfl⟩) rfl rfl rfl rfl (Nat.le_of_ble_eq_true rfl) dX12_trustsLine_114 ⟨(Nat.le_of_ble_eq_true rfl), (Nat.le_of_ble_eq_true rfl)⟩ (fun q_54 H locs hq55 hP hD hS => ?_)
                    have hP : va_P g.1 vwCl (List.flatten [bMo g o a th hi ac tp ba en at2_7 fl2_4 de iD iO tU fm_41 fk fa fc ft ff fb fi]) H := hP
                    have hD : va_D A (List.flatten [bMo g o a th hi ac tp ba en at2_7 fl2_4 de iD iO tU fm_41 fk fa fc ft ff fb fi]) := hD
                    refine W.widen (k := 0) (n := 0) (Nat.le_of_ble_eq_true rfl) (Nat.le_of_ble_eq_true rfl) ?_
                    refine W.eq (g2 := F0 m 117 ls [.int q_54, .int x_52, .ref (a 0)]) rfl ?_
                    refine lv_bipush (v := 48) hx hb dX12_trustsLine_117 (by decide) ?_
                    refine lv_isub hx hb dX12_trustsLine_119 ?_
                    refine zg (fun x_56 => ?_)
                    refine va_iast hx hb hK hP hD hS 1 0 rfl rfl (zinK (a := 51) (b := 114) hx_52.2.1 hx_52.2.2 (by decide)) dX12_trustsLine_120 (fun H locs hP hD hS => ?_)
                    obtain ⟨fm_57, rfm_57, hkfm_57, hP, hD⟩ : ∃ fm_57 : Nat → Int32, rM fm_57 ∧ ((fm_57 3).toInt = (fm_41 3).toInt ∧ (fm_57 4).toInt = (fm_41 4).toInt) ∧ va_P g.1 vwCl (List.flatten [bMo g o a th hi ac tp ba en at2_7 fl2_4 de iD iO tU fm_57 fk fa fc ft ff fb fi]) H ∧ va_D A (List.flatten [bMo g o a th hi ac tp ba en at2_7 fl2_4 de iD iO tU fm_57 fk fa fc ft ff fb fi]) := ⟨upd fm_41 x_52.toNatClampNeg x_56, (rM_stB rfm_41 (Int.le_trans (by decide) hx_52.2.1)), (rM_kp (j := x_52.toInt) rfl (Int.le_trans (by decide) hx_52.2.1)), hP, hD⟩
                    refine ziinc3 (n' := 1) (a' := 1) (b' := 8) (lv' := fun v9 => [(4, .int v9), (0, .ref o), (1, .int r_5), (2, .int at2_7), (3, .int x_9)]) hx hb dX12_trustsLine_121 hl (k := 4) rfl (by decide) (fun _ => rfl) (zaddK (i := x_40.toInt) (j := 1) rfl (by decide) i42.1 n48 (Int.le_refl _) (Int.le_refl _) (by decide)) (fun x_58 ls hx_58 hl => ?_)
                    refine lv_goto (tgt := 89) hx hb dX12_trustsLine_124 (by decide) ?_
                    have hl := lv_sub (l' := [(0, .ref o), (1, .int r_5), (2, .int at2_7), (3, .int x_9), (4, .int x_58)]) hl [1, 2, 3, 4, 0] rfl
                    have hP : va_P g.1 vwCl (List.flatten [bMo g o a th hi ac tp ba en at2_7 fl2_4 de iD iO tU fm_57 fk fa fc ft ff fb fi]) H := hP
                    have hD : va_D A (List.flatten [bMo g o a th hi ac tp ba en at2_7 fl2_4 de iD iO tU fm_57 fk fa fc ft ff fb fi]) := hD
                    exact ih89_44 x_58 fm_57 ⟨(Int.le_trans (by decide) hx_58.2.1), hx_58.2.2⟩ rfm_57 H _ ls (zmK hx_58.1 (by decide) n48 (by decide) hk89_44)  hP hD hS (lv_sub hl [0, 1, 2, 3, 4] rfl)
              have hP : va_P g.1 vwCl (List.flatten [bMo g o a th hi ac tp ba en at2_7 fl2_4 de iD iO tU fm fk fa fc ft ff fb fi]) H := hP
              have hD : va_D A (List.flatten [bMo g o a th hi ac tp ba en at2_7 fl2_4 de iD iO tU fm fk fa fc ft ff fb fi]) := hD
              exact LP89_43 _ 0 fm (by decide) rfm H _ ls (Nat.lt_succ_self _)  hP hD hS (lv_sub hl [0, 1, 2, 3, 4] rfl)
            · skip
              exact absurd (show ¬ fl2_4.toInt = (-1) from zne cb9 rfl (by decide)) (by omega)
          · skip
            have c60 : ¬ x_9.toInt = x_32.toInt := zne cb9 rfl rfl
            refine lv_aload_n hx hb dX12_trustsLine_72 rfl (lv_at hl 0 rfl) ?_
            refine lv_iload_n hx hb dX12_trustsLine_73 rfl (lv_at hl 2 rfl) ?_
            refine mcallV' (g := g) (q0 := 0) (ci := 10) (As := [.int at2_7]) (rest := []) St hK hT hA hP hD hS hl.1 [0] [] rfl rfl rfl (m_wrong l g o a th hi ac tp ba en at2_7 fl2_4 de iD iO tU fm fk fa fc ft ff fb fi at2_7 (by first | assumption | omega | decide | exact Or.inl (by decide) | exact Or.inr (by decide)) (by first | assumption | omega | decide | exact Or.inl (by decide) | exact Or.inr (by decide))) (cwV 1 hts (zgL (zl4 k894 k895 k896 k837) k889) rfl rfl rfl (by decide +kernel) ⟨Nat.le_of_ble_eq_true rfl, Nat.le_of_ble_eq_true rfl⟩) rfl rfl rfl rfl (Nat.le_of_ble_eq_true rfl) dX12_trustsLine_74 ⟨(Nat.le_of_ble_eq_true rfl), (Nat.le_of_ble_eq_true rfl)⟩ (fun fl2_61 H locs hq62 hP hD hS => ?_)
            replace hq62 : (0 ≤ fl2_61.toInt) := hq62
            have hP : va_P g.1 vwCl (List.flatten [bMo g o a th hi ac tp ba en at2_7 fl2_61 de iD iO tU fm fk fa fc ft ff fb fi]) H := hP
            have hD : va_D A (List.flatten [bMo g o a th hi ac tp ba en at2_7 fl2_61 de iD iO tU fm fk fa fc ft ff fb fi]) := hD
            refine W.widen (k := 0) (n := 0) (Nat.le_of_ble_eq_true rfl) (Nat.le_of_ble_eq_true rfl) ?_
            refine W.eq (g2 := F0 m 77 ls []) rfl ?_
            refine lv_aload_n hx hb dX12_trustsLine_77 rfl (lv_at hl 0 rfl) ?_
            refine va_get (D := g.1) (ci := 10) (v := .int fl2_61) (C := RX12) (T := TX12) (N := 20) hx hb hts izRX12 hown hK hP 0 rfl rfl 12 (by decide) (hts _ k820) (fun _ h9 => h9) rfl dX12_trustsLine_78 ?_
            refine lv_iconst (v := (-1)) hx hb dX12_trustsLine_81 (by decide) ?_
            refine lv_icmp_eq (tgt := 86) hx hb dX12_trustsLine_82 (by decide) (fun cb9 => ?_) (fun cb9 => ?_)
            · skip
              exact absurd (show fl2_61.toInt = (-1) from zeq cb9 rfl (by decide)) (zDeq2 (a := 0) (b := (-1)) hq62 (Int.le_refl _) (by decide))
            · skip
              have c64 : ¬ fl2_61.toInt = (-1) := zne cb9 rfl (by decide)
              have hP : va_P g.1 vwCl (List.flatten [bMo g o a th hi ac tp ba en at2_7 fl2_61 de iD iO tU fm fk fa fc ft ff fb fi]) H := hP
              have hD : va_D A (List.flatten [bMo g o a th hi ac tp ba en at2_7 fl2_61 de iD iO tU fm fk fa fc ft ff fb fi]) := hD
              exact mret_v hx hb hr hlocks hS (Nat.le_of_ble_eq_true rfl) (Nat.le_of_ble_eq_true rfl) dX12_trustsLine_85 (at2_7, fl2_61, fm) rfl (show (rM fm) ∧ (0 ≤ at2_7.toInt ∧ at2_7.toInt ≤ en.toInt + 7 - de.toInt) ∧ (tA.toInt ≤ at2_7.toInt) ∧ (-1 ≤ fl2_61.toInt) from ⟨(by first | assumption | omega | decide | exact rfl | exact zb01 (by omega) | exact Or.inl (by decide) | exact Or.inr (by first | omega | decide)), (by first | assumption | omega | decide | exact rfl | exact zb01 (by omega) | exact Or.inl (by decide) | exact Or.inr (by first | omega | decide)), (by first | assumption | omega | decide | exact rfl | exact zb01 (by omega) | exact Or.inl (by decide) | exact Or.inr (by first | omega | decide)), (by first | assumption | omega | decide | exact rfl | exact zb01 (by omega) | exact Or.inl (by decide) | exact Or.inr (by first | omega | decide))⟩) hP hD
        · skip
          have c65 : x_30.toInt < en.toInt := zlti (Int32.not_le.mp cb9) rfl rfl
          have n66 : x_30.toInt ≤ 399 := zL1 (b := 400) c65 hen.2 (by decide)
          refine lv_aload_n hx hb dX12_trustsLine_39 rfl (lv_at hl 0 rfl) ?_
          refine lv_iload_n hx hb dX12_trustsLine_40 rfl (lv_at hl 2 rfl) ?_
          refine lv_iload_n hx hb dX12_trustsLine_41 rfl (lv_at hl 3 rfl) ?_
          refine lv_iadd hx hb dX12_trustsLine_42 ?_
          refine zgv (zadd (i := at2_7.toInt) (j := x_9.toInt) rfl rfl (by omega)) (fun x_67 hx_67 => ?_)
          refine mcallV' (g := g) (q0 := 0) (ci := 10) (As := [.int x_67]) (rest := []) St hK hT hA hP hD hS hl.1 [0] [] rfl rfl rfl (m_letter l g o a th hi ac tp ba en at2_7 fl2_4 de iD iO tU fm fk fa fc ft ff fb fi x_67 (by first | assumption | omega | decide | exact Or.inl (by decide) | exact Or.inr (by decide)) (by first | assumption | omega | decide | exact Or.inl (by decide) | exact Or.inr (by decide))) (cwV 1 hts (zgL (zl4 k879 k880 k881 k837) k874) rfl rfl rfl (by decide +kernel) ⟨Nat.le_of_ble_eq_true rfl, Nat.le_of_ble_eq_true rfl⟩) rfl rfl rfl rfl (Nat.le_of_ble_eq_true rfl) dX12_trustsLine_43 ⟨(Nat.le_of_ble_eq_true rfl), (Nat.le_of_ble_eq_true rfl)⟩ (fun q_68 H locs hq69 hP hD hS => ?_)
          have hP : va_P g.1 vwCl (List.flatten [bMo g o a th hi ac tp ba en at2_7 fl2_4 de iD iO tU fm fk fa fc ft ff fb fi]) H := hP
          have hD : va_D A (List.flatten [bMo g o a th hi ac tp ba en at2_7 fl2_4 de iD iO tU fm fk fa fc ft ff fb fi]) := hD
          refine W.widen (k := 0) (n := 0) (Nat.le_of_ble_eq_true rfl) (Nat.le_of_ble_eq_true rfl) ?_
          refine W.eq (g2 := F0 m 46 ls [.int q_68]) rfl ?_
          refine lv_bipush (v := 48) hx hb dX12_trustsLine_46 (by decide) ?_
          refine lv_bipush (v := 57) hx hb dX12_trustsLine_48 (by decide) ?_
          have hL48 : (48 : Int32).toInt = 48 := by decide
          have hL57 : (57 : Int32).toInt = 57 := by decide
          refine mcallS' (g := g) (As := [.int q_68, .int 48, .int 57]) (rest := []) St hK hT hA hP hD hS hl.1 [] [0] rfl rfl rfl (m_isIn l g q_68 48 57 ) (va_cwS 3 hts (zgL (zl3 k835 k836 k837) k824) rfl rfl rfl (by decide +kernel) ⟨Nat.le_of_ble_eq_true rfl, Nat.le_of_ble_eq_true rfl⟩) rfl rfl (Nat.le_of_ble_eq_true rfl) dX12_trustsLine_50 ⟨(Nat.le_of_ble_eq_true rfl), (Nat.le_of_ble_eq_true rfl)⟩ (fun q_70 H locs hq71 hP hD hS => ?_)
          replace hq71 : (q_70 = 1 ∧ (48 : Int32).toInt ≤ q_68.toInt ∧ q_68.toInt ≤ (57 : Int32).toInt ∨ q_70 = 0 ∧ (q_68.toInt < (48 : Int32).toInt ∨ (57 : Int32).toInt < q_68.toInt)) := hq71
          have hP : va_P g.1 vwCl (List.flatten [bMo g o a th hi ac tp ba en at2_7 fl2_4 de iD iO tU fm fk fa fc ft ff fb fi]) H := hP
          have hD : va_D A (List.flatten [bMo g o a th hi ac tp ba en at2_7 fl2_4 de iD iO tU fm fk fa fc ft ff fb fi]) := hD
          refine W.widen (k := 0) (n := 0) (Nat.le_of_ble_eq_true rfl) (Nat.le_of_ble_eq_true rfl) ?_
          refine W.eq (g2 := F0 m 53 ls [.int q_70]) rfl ?_
          rcases hq71 with ⟨rfl, hq71_k⟩ | ⟨rfl, hq71_k⟩
          · skip
            refine lv_if_eq (tgt := 62) hx hb dX12_trustsLine_53 (by decide) (fun c72 => absurd c72 (by decide)) (fun _ => ?_)
            refine ziinc3 (n' := 1) (a' := 1) (b' := 401) (lv' := fun v9 => [(3, .int v9), (0, .ref o), (1, .int r_5), (2, .int at2_7)]) hx hb dX12_trustsLine_56 hl (k := 3) rfl (by decide) (fun _ => rfl) (zaddK (i := x_9.toInt) (j := 1) rfl (by decide) i10.1 i10.2 (Int.le_refl _) (Int.le_refl _) (by decide)) (fun x_73 ls hx_73 hl => ?_)
            refine lv_goto (tgt := 21) hx hb dX12_trustsLine_59 (by decide) ?_
            have hl := lv_sub (l' := [(0, .ref o), (1, .int r_5), (2, .int at2_7), (3, .int x_73)]) hl [1, 2, 3, 0] rfl
            have hP : va_P g.1 vwCl (List.flatten [bMo g o a th hi ac tp ba en at2_7 fl2_4 de iD iO tU fm fk fa fc ft ff fb fi]) H := hP
            have hD : va_D A (List.flatten [bMo g o a th hi ac tp ba en at2_7 fl2_4 de iD iO tU fm fk fa fc ft ff fb fi]) := hD
            exact ih21_13 x_73 (by first | omega | assumption | decide) (by first | omega | assumption | decide) H _ ls (by omega)  hP hD hS (lv_sub hl [0, 1, 2, 3] rfl)
          · skip
            refine lv_if_eq (tgt := 62) hx hb dX12_trustsLine_53 (by decide) (fun _ => ?_) (fun c74 => absurd (by decide) c74)
            refine lv_iload_n hx hb dX12_trustsLine_62 rfl (lv_at hl 3 rfl) ?_
            refine lv_aload_n hx hb dX12_trustsLine_63 rfl (lv_at hl 0 rfl) ?_
            refine va_get (D := g.1) (ci := 10) (v := .ref (a 0)) (C := RX12) (T := TX12) (N := 20) hx hb hts izRX12 hown hK hP 0 rfl rfl 1 (by decide) (hts _ k815) (fun _ h9 => h9) rfl dX12_trustsLine_64 ?_
            refine lv_iconst (v := 3) hx hb dX12_trustsLine_67 (by decide) ?_
            refine va_iald hx hb hK hP 1 0 rfl rfl (zin rfl) dX12_trustsLine_68 ?_
            refine zgq (r := fm 3) rfl (rM3 rfm) (fun x_75 hx_75 => ?_)
            refine lv_icmp_eq (tgt := 77) hx hb dX12_trustsLine_69 (by decide) (fun cb9 => ?_) (fun cb9 => ?_)
            · skip
              have c76 : x_9.toInt = x_75.toInt := zeq cb9 rfl rfl
              have n77 : x_9.toInt ≤ 8 := Int.le_trans (Int.le_of_eq c76) hx_75.2.1
              refine lv_aload_n hx hb dX12_trustsLine_77 rfl (lv_at hl 0 rfl) ?_
              refine va_get (D := g.1) (ci := 10) (v := .int fl2_4) (C := RX12) (T := TX12) (N := 20) hx hb hts izRX12 hown hK hP 0 rfl rfl 12 (by decide) (hts _ k820) (fun _ h9 => h9) rfl dX12_trustsLine_78 ?_
              refine lv_iconst (v := (-1)) hx hb dX12_trustsLine_81 (by decide) ?_
              refine lv_icmp_eq (tgt := 86) hx hb dX12_trustsLine_82 (by decide) (fun cb9 => ?_) (fun cb9 => ?_)
              · skip
                have c78 : fl2_4.toInt = (-1) := zeq cb9 rfl (by decide)
                obtain ⟨e80, w79⟩ := hq6_3 c78
                have w81 : 0 ≤ r_5.toInt ∧ r_5.toInt ≤ 7 := by first | exact w79 | omega
                have w82 : 0 ≤ r_5.toInt ∧ r_5.toInt ≤ 7 := by omega
                refine lv_iconst (v := 0) hx hb dX12_trustsLine_86 (by decide) ?_
                refine lv_istore (lv' := [(4, .int 0), (0, .ref o), (1, .int r_5), (2, .int at2_7), (3, .int x_9)]) hx hb dX12_trustsLine_87 hl (by decide) rfl (fun ls hl => ?_)
                have hl := lv_sub (l' := [(0, .ref o), (1, .int r_5), (2, .int at2_7), (3, .int x_9), (4, .int 0)]) hl [1, 2, 3, 4, 0] rfl
                have LP89_86 : ∀ (kf : Nat) (x_83 : Int32) (fm_84 : Nat → Int32), (0 ≤ x_83.toInt ∧ x_83.toInt ≤ 8) → (rM fm_84) → ∀ (H : Heap) (locs : List Loc) (ls : Array Slot), ((9 - x_83.toInt).toNat) < kf → va_P g.1 vwCl (List.flatten [bMo g o a th hi ac tp ba en at2_7 fl2_4 de iD iO tU fm_84 fk fa fc ft ff fb fi]) H → va_D A (List.flatten [bMo g o a th hi ac tp ba en at2_7 fl2_4 de iD iO tU fm_84 fk fa fc ft ff fb fi]) → va_S A s.heap H locs → lv_has ls 5 [(0, .ref o), (1, .int r_5), (2, .int at2_7), (3, .int x_9), (4, .int x_83)] → W p l e ({ frames := 4, cells := 0, slots := 0, locals := 85 } : Room) s m args below meth c H locs (0) (0) (zF g (fun u : Int32 × Int32 × (Nat → Int32) => (fun (at2 : Int32) (fl2 : Int32) (fm2 : Nat → Int32) => none) (u.1) (u.2.1) (u.2.2)) (fun u : Int32 × Int32 × (Nat → Int32) => (fun (at2 : Int32) (fl2 : Int32) (fm2 : Nat → Int32) => (rM fm2) ∧ (0 ≤ at2.toInt ∧ at2.toInt ≤ en.toInt + 7 - de.toInt) ∧ (tA.toInt ≤ at2.toInt) ∧ (-1 ≤ fl2.toInt)) (u.1) (u.2.1) (u.2.2)) (fun u : Int32 × Int32 × (Nat → Int32) => (fun (at2 : Int32) (fl2 : Int32) (fm2 : Nat → Int32) => [bMo g o a th hi ac tp ba en at2 fl2 de iD iO tU fm2 fk fa fc ft ff fb fi]) (u.1) (u.2.1) (u.2.2)) ({ frames := 4, cells := 0, slots := 0, locals := 85 } : Room) below args s A) (F0 m 89 ls []) := by
                  intro kf
                  induction kf with
                  | zero => intro x_83 fm_84 i85 rfm_84 H locs ls hk; exact absurd hk (Nat.not_lt_zero _)
                  | succ kf ih89_87 =>
                    intro x_83 fm_84 i85 rfm_84 H locs ls hk89_87 hP hD hS hl
                    refine lv_iload hx hb dX12_trustsLine_89 (lv_at hl 4 rfl) ?_
                    refine lv_iload_n hx hb dX12_trustsLine_91 rfl (lv_at hl 3 rfl) ?_
                    refine lv_icmp_ge (tgt := 127) hx hb dX12_trustsLine_92 (by decide) (fun cb9 => ?_) (fun cb9 => ?_)
                    · skip
                      have c88 : x_9.toInt ≤ x_83.toInt := zle cb9 rfl rfl
                      refine lv_aload_n hx hb dX12_trustsLine_127 rfl (lv_at hl 0 rfl) ?_
                      refine lv_iload_n hx hb dX12_trustsLine_128 rfl (lv_at hl 2 rfl) ?_
                      refine lv_iload_n hx hb dX12_trustsLine_129 rfl (lv_at hl 3 rfl) ?_
                      refine lv_iadd hx hb dX12_trustsLine_130 ?_
                      refine zgv (zadd (i := at2_7.toInt) (j := x_9.toInt) rfl rfl (by omega)) (fun x_89 hx_89 => ?_)
                      refine va_put (D := g.1) (ci := 10) (v := .int x_89) (ty := .int) (C := RX12) (T := TX12) (N := 20) hx hb hts izRX12 tyX12 tyX12_ok nmX12 hown hK hP hD hS 0 rfl rfl 11 (by decide) (hts _ k877) (fun _ h9 => h9) rfl (by decide +kernel) rfl rfl (Nat.le_of_ble_eq_true rfl) dX12_trustsLine_131 (fun H locs hP hD hS => ?_)
                      have hP : va_P g.1 vwCl (List.flatten [bMo g o a th hi ac tp ba en x_89 fl2_4 de iD iO tU fm_84 fk fa fc ft ff fb fi]) H := hP
                      have hD : va_D A (List.flatten [bMo g o a th hi ac tp ba en x_89 fl2_4 de iD iO tU fm_84 fk fa fc ft ff fb fi]) := hD
                      have hP : va_P g.1 vwCl (List.flatten [bMo g o a th hi ac tp ba en x_89 fl2_4 de iD iO tU fm_84 fk fa fc ft ff fb fi]) H := hP
                      have hD : va_D A (List.flatten [bMo g o a th hi ac tp ba en x_89 fl2_4 de iD iO tU fm_84 fk fa fc ft ff fb fi]) := hD
                      exact mret_v hx hb hr hlocks hS (Nat.le_of_ble_eq_true rfl) (Nat.le_of_ble_eq_true rfl) dX12_trustsLine_134 (x_89, fl2_4, fm_84) rfl (show (rM fm_84) ∧ (0 ≤ x_89.toInt ∧ x_89.toInt ≤ en.toInt + 7 - de.toInt) ∧ (tA.toInt ≤ x_89.toInt) ∧ (-1 ≤ fl2_4.toInt) from ⟨(by first | assumption | omega | decide | exact rfl | exact zb01 (by omega) | exact Or.inl (by decide) | exact Or.inr (by first | omega | decide)), (by first | assumption | omega | decide | exact rfl | exact zb01 (by omega) | exact Or.inl (by decide) | exact Or.inr (by first | omega | decide)), (by first | assumption | omega | decide | exact rfl | exact zb01 (by omega) | exact Or.inl (by decide) | exact Or.inr (by first | omega | decide)), (by first | assumption | omega | decide | exact rfl | exact zb01 (by omega) | exact Or.inl (by decide) | exact Or.inr (by first | omega | decide))⟩) hP hD
                    · skip
                      have c90 : x_83.toInt < x_9.toInt := zlti (Int32.not_le.mp cb9) rfl rfl
                      have n91 : x_83.toInt ≤ 7 := zL1 (b := 8) c90 n77 (by decide)
                      have n92 : 1 ≤ x_9.toInt := zL2 (a := 0) c90 i85.1 (by decide)
                      refine lv_aload_n hx hb dX12_trustsLine_95 rfl (lv_at hl 0 rfl) ?_
                      refine va_get (D := g.1) (ci := 10) (v := .ref (a 0)) (C := RX12) (T := TX12) (N := 20) hx hb hts izRX12 hown hK hP 0 rfl rfl 1 (by decide) (hts _ k815) (fun _ h9 => h9) rfl dX12_trustsLine_96 ?_
                      refine lv_bipush (v := 51) hx hb dX12_trustsLine_99 (by decide) ?_
                      refine lv_bipush (v := 8) hx hb dX12_trustsLine_101 (by decide) ?_
                      refine lv_iload_n hx hb dX12_trustsLine_103 rfl (lv_at hl 1 rfl) ?_
                      refine lv_imul hx hb dX12_trustsLine_104 ?_
                      refine zg3 (zmulKL (i := r_5.toInt) (n := 8) (a' := 0) (b' := 56) rfl (by decide) w82.1 w82.2 (by decide) (by decide)) (fun x_93 hx_93 => ?_)
                      refine lv_iadd hx hb dX12_trustsLine_105 ?_
                      refine zg3 (zaddK (i := 51) (j := x_93.toInt) (a' := 51) (b' := 107) (by decide) rfl (Int.le_refl _) (Int.le_refl _) hx_93.2.1 hx_93.2.2 (by decide)) (fun x_94 hx_94 => ?_)
                      refine lv_iload hx hb dX12_trustsLine_106 (lv_at hl 4 rfl) ?_
                      refine lv_iadd hx hb dX12_trustsLine_108 ?_
                      refine zg3 (zaddK (i := x_94.toInt) (j := x_83.toInt) (a' := 51) (b' := 114) rfl rfl hx_94.2.1 hx_94.2.2 i85.1 n91 (by decide)) (fun x_95 hx_95 => ?_)
                      refine lv_aload_n hx hb dX12_trustsLine_109 rfl (lv_at hl 0 rfl) ?_
                      refine lv_iload_n hx hb dX12_trustsLine_110 rfl (lv_at hl 2 rfl) ?_
                      refine lv_iload hx hb dX12_trustsLine_111 (lv_at hl 4 rfl) ?_
                      refine lv_iadd hx hb dX12_trustsLine_113 ?_
                      refine zgv (zadd (i := at2_7.toInt) (j := x_83.toInt) rfl rfl (by omega)) (fun x_96 hx_96 => ?_)
                      refine mcallV' (g := g) (q0 := 0) (ci := 10) (As := [.int x_96]) (rest := [.int x_95, .ref (a 0)]) St hK hT hA hP hD hS hl.1 [0] [] rfl rfl rfl (m_letter l g o a th hi ac tp ba en at2_7 fl2_4 de iD iO tU fm_84 fk fa fc ft ff fb fi x_96 (by first | assumption | omega | decide | exact Or.inl (by decide) | exact Or.inr (by decide)) (by first | assumption | omega | decide | exact Or.inl (by decide) | exact Or.inr (by decide))) (cwV 1 hts (zgL (zl4 k879 k880 k881 k837) k874) rfl rfl rfl (by decide +kernel) ⟨Nat.le_of_ble_eq_true rfl, Nat.le_of_ble_eq_true rfl⟩) rfl rfl rfl rfl (Nat.le_of_ble_eq_true rfl) dX12_trustsLine_114 ⟨(Nat.le_of_ble_eq_true rfl), (Nat.le_of_ble_eq_true rfl)⟩ (fun q_97 H locs hq98 hP hD hS => ?_)
                      have hP : va_P g.1 vwCl (List.flatten [bMo g o a th hi ac tp ba en at2_7 fl2_4 de iD iO tU fm_84 fk fa fc ft ff fb fi]) H := hP
                      have hD : va_D A (List.flatten [bMo g o a th hi ac tp ba en at2_7 fl2_4 de iD iO tU fm_84 fk fa fc ft ff fb fi]) := hD
                      refine W.widen (k := 0) (n := 0) (Nat.le_of_ble_eq_true rfl) (Nat.le_of_ble_eq_true rfl) ?_
                      refine W.eq (g2 := F0 m 117 ls [.int q_97, .int x_95, .ref (a 0)]) rfl ?_
                      refine lv_bipush (v := 48) hx hb dX12_trustsLine_117 (by decide) ?_
                      refine lv_isub hx hb dX12_trustsLine_119 ?_
                      refine zg (fun x_99 => ?_)
                      refine va_iast hx hb hK hP hD hS 1 0 rfl rfl (zinK (a := 51) (b := 114) hx_95.2.1 hx_95.2.2 (by decide)) dX12_trustsLine_120 (fun H locs hP hD hS => ?_)
                      obtain ⟨fm_100, rfm_100, hkfm_100, hP, hD⟩ : ∃ fm_100 : Nat → Int32, rM fm_100 ∧ ((fm_100 3).toInt = (fm_84 3).toInt ∧ (fm_100 4).toInt = (fm_84 4).toInt) ∧ va_P g.1 vwCl (List.flatten [bMo g o a th hi ac tp ba en at2_7 fl2_4 de iD iO tU fm_100 fk fa fc ft ff fb fi]) H ∧ va_D A (List.flatten [bMo g o a th hi ac tp ba en at2_7 fl2_4 de iD iO tU fm_100 fk fa fc ft ff fb fi]) := ⟨upd fm_84 x_95.toNatClampNeg x_99, (rM_stB rfm_84 (Int.le_trans (by decide) hx_95.2.1)), (rM_kp (j := x_95.toInt) rfl (Int.le_trans (by decide) hx_95.2.1)), hP, hD⟩
                      refine ziinc3 (n' := 1) (a' := 1) (b' := 8) (lv' := fun v9 => [(4, .int v9), (0, .ref o), (1, .int r_5), (2, .int at2_7), (3, .int x_9)]) hx hb dX12_trustsLine_121 hl (k := 4) rfl (by decide) (fun _ => rfl) (zaddK (i := x_83.toInt) (j := 1) rfl (by decide) i85.1 n91 (Int.le_refl _) (Int.le_refl _) (by decide)) (fun x_101 ls hx_101 hl => ?_)
                      refine lv_goto (tgt := 89) hx hb dX12_trustsLine_124 (by decide) ?_
                      have hl := lv_sub (l' := [(0, .ref o), (1, .int r_5), (2, .int at2_7), (3, .int x_9), (4, .int x_101)]) hl [1, 2, 3, 4, 0] rfl
                      have hP : va_P g.1 vwCl (List.flatten [bMo g o a th hi ac tp ba en at2_7 fl2_4 de iD iO tU fm_100 fk fa fc ft ff fb fi]) H := hP
                      have hD : va_D A (List.flatten [bMo g o a th hi ac tp ba en at2_7 fl2_4 de iD iO tU fm_100 fk fa fc ft ff fb fi]) := hD
                      exact ih89_87 x_101 fm_100 ⟨(Int.le_trans (by decide) hx_101.2.1), hx_101.2.2⟩ rfm_100 H _ ls (zmK hx_101.1 (by decide) n91 (by decide) hk89_87)  hP hD hS (lv_sub hl [0, 1, 2, 3, 4] rfl)
                have hP : va_P g.1 vwCl (List.flatten [bMo g o a th hi ac tp ba en at2_7 fl2_4 de iD iO tU fm fk fa fc ft ff fb fi]) H := hP
                have hD : va_D A (List.flatten [bMo g o a th hi ac tp ba en at2_7 fl2_4 de iD iO tU fm fk fa fc ft ff fb fi]) := hD
                exact LP89_86 _ 0 fm (by decide) rfm H _ ls (Nat.lt_succ_self _)  hP hD hS (lv_sub hl [0, 1, 2, 3, 4] rfl)
              · skip
                exact absurd (show ¬ fl2_4.toInt = (-1) from zne cb9 rfl (by decide)) (by omega)
            · skip
              have c103 : ¬ x_9.toInt = x_75.toInt := zne cb9 rfl rfl
              refine lv_aload_n hx hb dX12_trustsLine_72 rfl (lv_at hl 0 rfl) ?_
              refine lv_iload_n hx hb dX12_trustsLine_73 rfl (lv_at hl 2 rfl) ?_
              refine mcallV' (g := g) (q0 := 0) (ci := 10) (As := [.int at2_7]) (rest := []) St hK hT hA hP hD hS hl.1 [0] [] rfl rfl rfl (m_wrong l g o a th hi ac tp ba en at2_7 fl2_4 de iD iO tU fm fk fa fc ft ff fb fi at2_7 (by first | assumption | omega | decide | exact Or.inl (by decide) | exact Or.inr (by decide)) (by first | assumption | omega | decide | exact Or.inl (by decide) | exact Or.inr (by decide))) (cwV 1 hts (zgL (zl4 k894 k895 k896 k837) k889) rfl rfl rfl (by decide +kernel) ⟨Nat.le_of_ble_eq_true rfl, Nat.le_of_ble_eq_true rfl⟩) rfl rfl rfl rfl (Nat.le_of_ble_eq_true rfl) dX12_trustsLine_74 ⟨(Nat.le_of_ble_eq_true rfl), (Nat.le_of_ble_eq_true rfl)⟩ (fun fl2_104 H locs hq105 hP hD hS => ?_)
              replace hq105 : (0 ≤ fl2_104.toInt) := hq105
              have hP : va_P g.1 vwCl (List.flatten [bMo g o a th hi ac tp ba en at2_7 fl2_104 de iD iO tU fm fk fa fc ft ff fb fi]) H := hP
              have hD : va_D A (List.flatten [bMo g o a th hi ac tp ba en at2_7 fl2_104 de iD iO tU fm fk fa fc ft ff fb fi]) := hD
              refine W.widen (k := 0) (n := 0) (Nat.le_of_ble_eq_true rfl) (Nat.le_of_ble_eq_true rfl) ?_
              refine W.eq (g2 := F0 m 77 ls []) rfl ?_
              refine lv_aload_n hx hb dX12_trustsLine_77 rfl (lv_at hl 0 rfl) ?_
              refine va_get (D := g.1) (ci := 10) (v := .int fl2_104) (C := RX12) (T := TX12) (N := 20) hx hb hts izRX12 hown hK hP 0 rfl rfl 12 (by decide) (hts _ k820) (fun _ h9 => h9) rfl dX12_trustsLine_78 ?_
              refine lv_iconst (v := (-1)) hx hb dX12_trustsLine_81 (by decide) ?_
              refine lv_icmp_eq (tgt := 86) hx hb dX12_trustsLine_82 (by decide) (fun cb9 => ?_) (fun cb9 => ?_)
              · skip
                exact absurd (show fl2_104.toInt = (-1) from zeq cb9 rfl (by decide)) (zDeq2 (a := 0) (b := (-1)) hq105 (Int.le_refl _) (by decide))
              · skip
                have c107 : ¬ fl2_104.toInt = (-1) := zne cb9 rfl (by decide)
                have hP : va_P g.1 vwCl (List.flatten [bMo g o a th hi ac tp ba en at2_7 fl2_104 de iD iO tU fm fk fa fc ft ff fb fi]) H := hP
                have hD : va_D A (List.flatten [bMo g o a th hi ac tp ba en at2_7 fl2_104 de iD iO tU fm fk fa fc ft ff fb fi]) := hD
                exact mret_v hx hb hr hlocks hS (Nat.le_of_ble_eq_true rfl) (Nat.le_of_ble_eq_true rfl) dX12_trustsLine_85 (at2_7, fl2_104, fm) rfl (show (rM fm) ∧ (0 ≤ at2_7.toInt ∧ at2_7.toInt ≤ en.toInt + 7 - de.toInt) ∧ (tA.toInt ≤ at2_7.toInt) ∧ (-1 ≤ fl2_104.toInt) from ⟨(by first | assumption | omega | decide | exact rfl | exact zb01 (by omega) | exact Or.inl (by decide) | exact Or.inr (by first | omega | decide)), (by first | assumption | omega | decide | exact rfl | exact zb01 (by omega) | exact Or.inl (by decide) | exact Or.inr (by first | omega | decide)), (by first | assumption | omega | decide | exact rfl | exact zb01 (by omega) | exact Or.inl (by decide) | exact Or.inr (by first | omega | decide)), (by first | assumption | omega | decide | exact rfl | exact zb01 (by omega) | exact Or.inl (by decide) | exact Or.inr (by first | omega | decide))⟩) hP hD
  have hP : va_P g.1 vwCl (List.flatten [bMo g o a th hi ac tp ba en at2_7 fl2_4 de iD iO tU fm fk fa fc ft ff fb fi]) H := hP
  have hD : va_D A (List.flatten [bMo g o a th hi ac tp ba en at2_7 fl2_4 de iD iO tU fm fk fa fc ft ff fb fi]) := hD
  exact LP21_12 _ 0 (by decide) (by first | omega | assumption | decide) H _ ls (Nat.lt_succ_self _)  hP hD hS (lv_sub hl [0, 1, 2, 3] rfl)
