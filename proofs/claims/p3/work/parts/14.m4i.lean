set_option maxRecDepth 100000 in
set_option maxHeartbeats 4000000 in
theorem m_turnsBy (l : Launch) (g : zG) (o : Nat) (a : Nat → Nat) (th : Int32) (hi : Int32) (ac : Int32) (tp : Int32) (ba : Int32) (en : Int32) (tA : Int32) (fl : Int32) (de : Int32) (iD : Int32) (iO : Int32) (tU : Int32) (fm : Nat → Int32) (fk : Nat → Int32) (fa : Nat → Int32) (fc : Nat → Int32) (ft : Nat → Int32) (ff : Nat → Int32) (fb : Nat → Int32) (fi : Nat → Int32) (x : Int32) (rfm : rM fm) (hiD : 0 ≤ iD.toInt ∧ iD.toInt ≤ 1) (hiO : 0 ≤ iO.toInt ∧ iO.toInt ≤ 1) (b_x : 0 ≤ x.toInt ∧ x.toInt ≤ 7) : zM' g l yX12_turnsBy (Cond.code yX12_turnsBy cX12_turnsBy 4 (some .int) :: zB) ({ frames := 31, cells := 0, slots := 0, locals := 688 } : Room) [.ref o, .int x] [bMo g o a th hi ac tp ba en tA fl de iD iO tU fm fk fa fc ft ff fb fi] (fun u : Int32 × Int32 × Int32 × Int32 × Int32 × Int32 × Int32 × (Nat → Int32) × Int32 => (fun (ba2 : Int32) (en2 : Int32) (at2 : Int32) (de2 : Int32) (iD2 : Int32) (iO2 : Int32) (tU2 : Int32) (ff2 : Nat → Int32) (q : Int32) => some (.int q)) (u.1) (u.2.1) (u.2.2.1) (u.2.2.2.1) (u.2.2.2.2.1) (u.2.2.2.2.2.1) (u.2.2.2.2.2.2.1) (u.2.2.2.2.2.2.2.1) (u.2.2.2.2.2.2.2.2)) (fun u : Int32 × Int32 × Int32 × Int32 × Int32 × Int32 × Int32 × (Nat → Int32) × Int32 => (fun (ba2 : Int32) (en2 : Int32) (at2 : Int32) (de2 : Int32) (iD2 : Int32) (iO2 : Int32) (tU2 : Int32) (ff2 : Nat → Int32) (q : Int32) => (0 ≤ iO2.toInt ∧ iO2.toInt ≤ 1) ∧ (0 ≤ iD2.toInt ∧ iD2.toInt ≤ 1)) (u.1) (u.2.1) (u.2.2.1) (u.2.2.2.1) (u.2.2.2.2.1) (u.2.2.2.2.2.1) (u.2.2.2.2.2.2.1) (u.2.2.2.2.2.2.2.1) (u.2.2.2.2.2.2.2.2)) (fun u : Int32 × Int32 × Int32 × Int32 × Int32 × Int32 × Int32 × (Nat → Int32) × Int32 => (fun (ba2 : Int32) (en2 : Int32) (at2 : Int32) (de2 : Int32) (iD2 : Int32) (iO2 : Int32) (tU2 : Int32) (ff2 : Nat → Int32) (q : Int32) => [bMo g o a th hi ac tp ba2 en2 at2 fl de2 iD2 iO2 tU2 fm fk fa fc ft ff2 fb fi]) (u.1) (u.2.1) (u.2.2.1) (u.2.2.2.1) (u.2.2.2.2.1) (u.2.2.2.2.2.1) (u.2.2.2.2.2.2.1) (u.2.2.2.2.2.2.2.1) (u.2.2.2.2.2.2.2.2)) := by
  refine zM'.of (cc := cX12_turnsBy) (maxL := 4) (rt := (some .int)) (by decide) rfl (Nat.le_of_ble_eq_true rfl) ?_
  intro p e s m args below meth c A ls St hr hlocks hin hK hT hA hP hD hS hl
  obtain ⟨hx, hb, hml, hown, hts⟩ := id St
  have hl : lv_has ls 4 [(0, .ref o), (1, .int x)] := hl
  refine lv_aload_n hx hb dX12_turnsBy_0 rfl (lv_at hl 0 rfl) ?_
  refine va_get (D := g.1) (ci := 10) (v := .ref (a 0)) (C := RX12) (T := TX12) (N := 20) hx hb hts izRX12 hown hK hP 0 rfl rfl 1 (by decide) (hts _ k815) (fun _ h9 => h9) rfl dX12_turnsBy_1 ?_
  refine lv_iconst (v := 1) hx hb dX12_turnsBy_4 (by decide) ?_
  refine va_iald hx hb hK hP 1 0 rfl rfl (zin rfl) dX12_turnsBy_5 ?_
  refine zg (fun x_1 => ?_)
  refine lv_iconst (v := (-1)) hx hb dX12_turnsBy_6 (by decide) ?_
  refine lv_icmp_ne (tgt := 26) hx hb dX12_turnsBy_7 (by decide) (fun cb9 => ?_) (fun cb9 => ?_)
  · skip
    have c2 : ¬ x_1.toInt = (-1) := zne cb9 rfl (by decide)
    refine lv_aload_n hx hb dX12_turnsBy_26 rfl (lv_at hl 0 rfl) ?_
    refine va_get (D := g.1) (ci := 10) (v := .ref (a 5)) (C := RX12) (T := TX12) (N := 20) hx hb hts izRX12 hown hK hP 0 rfl rfl 14 (by decide) (hts _ k821) (fun _ h9 => h9) rfl dX12_turnsBy_27 ?_
    refine lv_iconst (v := 0) hx hb dX12_turnsBy_30 (by decide) ?_
    refine lv_iload_n hx hb dX12_turnsBy_31 rfl (lv_at hl 1 rfl) ?_
    refine va_iast hx hb hK hP hD hS 6 0 rfl rfl (zin rfl) dX12_turnsBy_32 (fun H locs hP hD hS => ?_)
    obtain ⟨ff_3, hP, hD⟩ : ∃ ff_3 : Nat → Int32, va_P g.1 vwCl (List.flatten [bMo g o a th hi ac tp ba en tA fl de iD iO tU fm fk fa fc ft ff_3 fb fi]) H ∧ va_D A (List.flatten [bMo g o a th hi ac tp ba en tA fl de iD iO tU fm fk fa fc ft ff_3 fb fi]) := ⟨upd ff 0 x, hP, hD⟩
    refine lv_aload_n hx hb dX12_turnsBy_33 rfl (lv_at hl 0 rfl) ?_
    refine va_get (D := g.1) (ci := 10) (v := .ref (a 5)) (C := RX12) (T := TX12) (N := 20) hx hb hts izRX12 hown hK hP 0 rfl rfl 14 (by decide) (hts _ k821) (fun _ h9 => h9) rfl dX12_turnsBy_34 ?_
    refine lv_iconst (v := 1) hx hb dX12_turnsBy_37 (by decide) ?_
    refine lv_aload_n hx hb dX12_turnsBy_38 rfl (lv_at hl 0 rfl) ?_
    refine lv_iload_n hx hb dX12_turnsBy_39 rfl (lv_at hl 1 rfl) ?_
    refine lv_iconst (v := 0) hx hb dX12_turnsBy_40 (by decide) ?_
    have hL0 : (0 : Int32).toInt = 0 := by decide
    refine mcallV' (g := g) (q0 := 0) (ci := 10) (As := [.int x, .int 0]) (rest := [.int 1, .ref (a 5)]) St hK hT hA hP hD hS hl.1 [0] [] rfl rfl rfl (m_of l g o a th hi ac tp ba en tA fl de iD iO tU fm fk fa fc ft ff_3 fb fi x 0 (⟨b_x.1, b_x.2⟩) (by decide)) (cwV 2 hts (zgL (zl4 k840 k841 k842 k837) k829) rfl rfl rfl (by decide +kernel) ⟨Nat.le_of_ble_eq_true rfl, Nat.le_of_ble_eq_true rfl⟩) rfl rfl rfl rfl (Nat.le_of_ble_eq_true rfl) dX12_turnsBy_41 ⟨(Nat.le_of_ble_eq_true rfl), (Nat.le_of_ble_eq_true rfl)⟩ (fun q_4 H locs hq5 hP hD hS => ?_)
    have hP : va_P g.1 vwCl (List.flatten [bMo g o a th hi ac tp ba en tA fl de iD iO tU fm fk fa fc ft ff_3 fb fi]) H := hP
    have hD : va_D A (List.flatten [bMo g o a th hi ac tp ba en tA fl de iD iO tU fm fk fa fc ft ff_3 fb fi]) := hD
    refine W.widen (k := 0) (n := 0) (Nat.le_of_ble_eq_true rfl) (Nat.le_of_ble_eq_true rfl) ?_
    refine W.eq (g2 := F0 m 44 ls [.int q_4, .int 1, .ref (a 5)]) rfl ?_
    refine va_iast hx hb hK hP hD hS 6 0 rfl rfl (zin rfl) dX12_turnsBy_44 (fun H locs hP hD hS => ?_)
    obtain ⟨ff_6, hP, hD⟩ : ∃ ff_6 : Nat → Int32, va_P g.1 vwCl (List.flatten [bMo g o a th hi ac tp ba en tA fl de iD iO tU fm fk fa fc ft ff_6 fb fi]) H ∧ va_D A (List.flatten [bMo g o a th hi ac tp ba en tA fl de iD iO tU fm fk fa fc ft ff_6 fb fi]) := ⟨upd ff_3 1 q_4, hP, hD⟩
    refine lv_aload_n hx hb dX12_turnsBy_45 rfl (lv_at hl 0 rfl) ?_
    refine va_get (D := g.1) (ci := 10) (v := .ref (a 5)) (C := RX12) (T := TX12) (N := 20) hx hb hts izRX12 hown hK hP 0 rfl rfl 14 (by decide) (hts _ k821) (fun _ h9 => h9) rfl dX12_turnsBy_46 ?_
    refine lv_iconst (v := 2) hx hb dX12_turnsBy_49 (by decide) ?_
    refine lv_aload_n hx hb dX12_turnsBy_50 rfl (lv_at hl 0 rfl) ?_
    refine mcallV' (g := g) (q0 := 0) (ci := 10) (As := []) (rest := [.int 2, .ref (a 5)]) St hK hT hA hP hD hS hl.1 [0] [] rfl rfl rfl (m_mean l g o a th hi ac tp ba en tA fl de iD iO tU fm fk fa fc ft ff_6 fb fi (by first | assumption | omega | decide | exact Or.inl (by decide) | exact Or.inr (by decide))) (cwV 0 hts (zgL (zl4 k857 k858 k859 k837) k848) rfl rfl rfl (by decide +kernel) ⟨Nat.le_of_ble_eq_true rfl, Nat.le_of_ble_eq_true rfl⟩) rfl rfl rfl rfl (Nat.le_of_ble_eq_true rfl) dX12_turnsBy_51 ⟨(Nat.le_of_ble_eq_true rfl), (Nat.le_of_ble_eq_true rfl)⟩ (fun q_7 H locs hq8 hP hD hS => ?_)
    have hP : va_P g.1 vwCl (List.flatten [bMo g o a th hi ac tp ba en tA fl de iD iO tU fm fk fa fc ft ff_6 fb fi]) H := hP
    have hD : va_D A (List.flatten [bMo g o a th hi ac tp ba en tA fl de iD iO tU fm fk fa fc ft ff_6 fb fi]) := hD
    refine W.widen (k := 0) (n := 0) (Nat.le_of_ble_eq_true rfl) (Nat.le_of_ble_eq_true rfl) ?_
    refine W.eq (g2 := F0 m 54 ls [.int q_7, .int 2, .ref (a 5)]) rfl ?_
    refine va_iast hx hb hK hP hD hS 6 0 rfl rfl (zin rfl) dX12_turnsBy_54 (fun H locs hP hD hS => ?_)
    obtain ⟨ff_9, hP, hD⟩ : ∃ ff_9 : Nat → Int32, va_P g.1 vwCl (List.flatten [bMo g o a th hi ac tp ba en tA fl de iD iO tU fm fk fa fc ft ff_9 fb fi]) H ∧ va_D A (List.flatten [bMo g o a th hi ac tp ba en tA fl de iD iO tU fm fk fa fc ft ff_9 fb fi]) := ⟨upd ff_6 2 q_7, hP, hD⟩
    refine lv_aload_n hx hb dX12_turnsBy_55 rfl (lv_at hl 0 rfl) ?_
    refine va_get (D := g.1) (ci := 10) (v := .ref (a 5)) (C := RX12) (T := TX12) (N := 20) hx hb hts izRX12 hown hK hP 0 rfl rfl 14 (by decide) (hts _ k821) (fun _ h9 => h9) rfl dX12_turnsBy_56 ?_
    refine lv_iconst (v := 3) hx hb dX12_turnsBy_59 (by decide) ?_
    refine lv_aload_n hx hb dX12_turnsBy_60 rfl (lv_at hl 0 rfl) ?_
    refine lv_iconst (v := 1) hx hb dX12_turnsBy_61 (by decide) ?_
    refine mcallV' (g := g) (q0 := 0) (ci := 10) (As := [.int 1]) (rest := [.int 3, .ref (a 5)]) St hK hT hA hP hD hS hl.1 [0] [] rfl rfl rfl (m_worksOf l g o a th hi ac tp ba en tA fl de iD iO tU fm fk fa fc ft ff_9 fb fi 1 (by first | assumption | omega | decide | exact Or.inl (by decide) | exact Or.inr (by decide))) (cwV 1 hts (zgL (zl4 k989 k990 k991 k837) k861) rfl rfl rfl (by decide +kernel) ⟨Nat.le_of_ble_eq_true rfl, Nat.le_of_ble_eq_true rfl⟩) rfl rfl rfl rfl (Nat.le_of_ble_eq_true rfl) dX12_turnsBy_62 ⟨(Nat.le_of_ble_eq_true rfl), (Nat.le_of_ble_eq_true rfl)⟩ (fun q_10 H locs hq11 hP hD hS => ?_)
    have hP : va_P g.1 vwCl (List.flatten [bMo g o a th hi ac tp ba en tA fl de iD iO tU fm fk fa fc ft ff_9 fb fi]) H := hP
    have hD : va_D A (List.flatten [bMo g o a th hi ac tp ba en tA fl de iD iO tU fm fk fa fc ft ff_9 fb fi]) := hD
    refine W.widen (k := 0) (n := 0) (Nat.le_of_ble_eq_true rfl) (Nat.le_of_ble_eq_true rfl) ?_
    refine W.eq (g2 := F0 m 65 ls [.int q_10, .int 3, .ref (a 5)]) rfl ?_
    refine mcallS' (g := g) (As := [.int q_10]) (rest := [.int 3, .ref (a 5)]) St hK hT hA hP hD hS hl.1 [] [0] rfl rfl rfl (m_bits l g q_10 ) (va_cwS 1 hts (zgL (zl3 k852 k853 k837) k828) rfl rfl rfl (by decide +kernel) ⟨Nat.le_of_ble_eq_true rfl, Nat.le_of_ble_eq_true rfl⟩) rfl rfl (Nat.le_of_ble_eq_true rfl) dX12_turnsBy_65 ⟨(Nat.le_of_ble_eq_true rfl), (Nat.le_of_ble_eq_true rfl)⟩ (fun q_12 H locs hq13 hP hD hS => ?_)
    have hP : va_P g.1 vwCl (List.flatten [bMo g o a th hi ac tp ba en tA fl de iD iO tU fm fk fa fc ft ff_9 fb fi]) H := hP
    have hD : va_D A (List.flatten [bMo g o a th hi ac tp ba en tA fl de iD iO tU fm fk fa fc ft ff_9 fb fi]) := hD
    refine W.widen (k := 0) (n := 0) (Nat.le_of_ble_eq_true rfl) (Nat.le_of_ble_eq_true rfl) ?_
    refine W.eq (g2 := F0 m 68 ls [.int q_12, .int 3, .ref (a 5)]) rfl ?_
    refine va_iast hx hb hK hP hD hS 6 0 rfl rfl (zin rfl) dX12_turnsBy_68 (fun H locs hP hD hS => ?_)
    obtain ⟨ff_14, hP, hD⟩ : ∃ ff_14 : Nat → Int32, va_P g.1 vwCl (List.flatten [bMo g o a th hi ac tp ba en tA fl de iD iO tU fm fk fa fc ft ff_14 fb fi]) H ∧ va_D A (List.flatten [bMo g o a th hi ac tp ba en tA fl de iD iO tU fm fk fa fc ft ff_14 fb fi]) := ⟨upd ff_9 3 q_12, hP, hD⟩
    refine lv_aload_n hx hb dX12_turnsBy_69 rfl (lv_at hl 0 rfl) ?_
    refine va_get (D := g.1) (ci := 10) (v := .ref (a 5)) (C := RX12) (T := TX12) (N := 20) hx hb hts izRX12 hown hK hP 0 rfl rfl 14 (by decide) (hts _ k821) (fun _ h9 => h9) rfl dX12_turnsBy_70 ?_
    refine lv_iconst (v := 4) hx hb dX12_turnsBy_73 (by decide) ?_
    refine lv_aload_n hx hb dX12_turnsBy_74 rfl (lv_at hl 0 rfl) ?_
    refine lv_iload_n hx hb dX12_turnsBy_75 rfl (lv_at hl 1 rfl) ?_
    refine mcallV' (g := g) (q0 := 0) (ci := 10) (As := [.int x]) (rest := [.int 4, .ref (a 5)]) St hK hT hA hP hD hS hl.1 [0] [] rfl rfl rfl (m_ties l g o a th hi ac tp ba en tA fl de iD iO tU fm fk fa fc ft ff_14 fb fi x (by first | assumption | omega | decide | exact Or.inl (by decide) | exact Or.inr (by decide)) (⟨b_x.1, b_x.2⟩)) (cwV 1 hts (zgL (zl4 k992 k993 k994 k837) k865) rfl rfl rfl (by decide +kernel) ⟨Nat.le_of_ble_eq_true rfl, Nat.le_of_ble_eq_true rfl⟩) rfl rfl rfl rfl (Nat.le_of_ble_eq_true rfl) dX12_turnsBy_76 ⟨(Nat.le_of_ble_eq_true rfl), (Nat.le_of_ble_eq_true rfl)⟩ (fun q_15 H locs hq16 hP hD hS => ?_)
    have hP : va_P g.1 vwCl (List.flatten [bMo g o a th hi ac tp ba en tA fl de iD iO tU fm fk fa fc ft ff_14 fb fi]) H := hP
    have hD : va_D A (List.flatten [bMo g o a th hi ac tp ba en tA fl de iD iO tU fm fk fa fc ft ff_14 fb fi]) := hD
    refine W.widen (k := 0) (n := 0) (Nat.le_of_ble_eq_true rfl) (Nat.le_of_ble_eq_true rfl) ?_
    refine W.eq (g2 := F0 m 79 ls [.int q_15, .int 4, .ref (a 5)]) rfl ?_
    refine va_iast hx hb hK hP hD hS 6 0 rfl rfl (zin rfl) dX12_turnsBy_79 (fun H locs hP hD hS => ?_)
    obtain ⟨ff_17, hP, hD⟩ : ∃ ff_17 : Nat → Int32, va_P g.1 vwCl (List.flatten [bMo g o a th hi ac tp ba en tA fl de iD iO tU fm fk fa fc ft ff_17 fb fi]) H ∧ va_D A (List.flatten [bMo g o a th hi ac tp ba en tA fl de iD iO tU fm fk fa fc ft ff_17 fb fi]) := ⟨upd ff_14 4 q_15, hP, hD⟩
    refine lv_aload_n hx hb dX12_turnsBy_80 rfl (lv_at hl 0 rfl) ?_
    refine va_get (D := g.1) (ci := 10) (v := .ref (a 5)) (C := RX12) (T := TX12) (N := 20) hx hb hts izRX12 hown hK hP 0 rfl rfl 14 (by decide) (hts _ k821) (fun _ h9 => h9) rfl dX12_turnsBy_81 ?_
    refine lv_iconst (v := 5) hx hb dX12_turnsBy_84 (by decide) ?_
    refine lv_aload_n hx hb dX12_turnsBy_85 rfl (lv_at hl 0 rfl) ?_
    refine va_get (D := g.1) (ci := 10) (v := .ref (a 0)) (C := RX12) (T := TX12) (N := 20) hx hb hts izRX12 hown hK hP 0 rfl rfl 1 (by decide) (hts _ k815) (fun _ h9 => h9) rfl dX12_turnsBy_86 ?_
    refine lv_bipush (v := 8) hx hb dX12_turnsBy_89 (by decide) ?_
    refine va_iald hx hb hK hP 1 0 rfl rfl (zin rfl) dX12_turnsBy_91 ?_
    refine zg (fun x_18 => ?_)
    refine va_iast hx hb hK hP hD hS 6 0 rfl rfl (zin rfl) dX12_turnsBy_92 (fun H locs hP hD hS => ?_)
    obtain ⟨ff_19, hP, hD⟩ : ∃ ff_19 : Nat → Int32, va_P g.1 vwCl (List.flatten [bMo g o a th hi ac tp ba en tA fl de iD iO tU fm fk fa fc ft ff_19 fb fi]) H ∧ va_D A (List.flatten [bMo g o a th hi ac tp ba en tA fl de iD iO tU fm fk fa fc ft ff_19 fb fi]) := ⟨upd ff_17 5 x_18, hP, hD⟩
    refine lv_aload_n hx hb dX12_turnsBy_93 rfl (lv_at hl 0 rfl) ?_
    refine lv_aload_n hx hb dX12_turnsBy_94 rfl (lv_at hl 0 rfl) ?_
    refine lv_iload_n hx hb dX12_turnsBy_95 rfl (lv_at hl 1 rfl) ?_
    refine lv_iconst (v := 3) hx hb dX12_turnsBy_96 (by decide) ?_
    have hL3 : (3 : Int32).toInt = 3 := by decide
    refine mcallV' (g := g) (q0 := 0) (ci := 10) (As := [.int x, .int 3]) (rest := [.ref o]) St hK hT hA hP hD hS hl.1 [0] [] rfl rfl rfl (m_of l g o a th hi ac tp ba en tA fl de iD iO tU fm fk fa fc ft ff_19 fb fi x 3 (⟨b_x.1, b_x.2⟩) (by decide)) (cwV 2 hts (zgL (zl4 k840 k841 k842 k837) k829) rfl rfl rfl (by decide +kernel) ⟨Nat.le_of_ble_eq_true rfl, Nat.le_of_ble_eq_true rfl⟩) rfl rfl rfl rfl (Nat.le_of_ble_eq_true rfl) dX12_turnsBy_97 ⟨(Nat.le_of_ble_eq_true rfl), (Nat.le_of_ble_eq_true rfl)⟩ (fun q_20 H locs hq21 hP hD hS => ?_)
    have hP : va_P g.1 vwCl (List.flatten [bMo g o a th hi ac tp ba en tA fl de iD iO tU fm fk fa fc ft ff_19 fb fi]) H := hP
    have hD : va_D A (List.flatten [bMo g o a th hi ac tp ba en tA fl de iD iO tU fm fk fa fc ft ff_19 fb fi]) := hD
    refine W.widen (k := 0) (n := 0) (Nat.le_of_ble_eq_true rfl) (Nat.le_of_ble_eq_true rfl) ?_
    refine W.eq (g2 := F0 m 100 ls [.int q_20, .ref o]) rfl ?_
    refine lv_iconst (v := 1) hx hb dX12_turnsBy_100 (by decide) ?_
    refine lv_icmp_ne (tgt := 108) hx hb dX12_turnsBy_101 (by decide) (fun cb9 => ?_) (fun cb9 => ?_)
    · skip
      have c22 : ¬ q_20.toInt = 1 := zne cb9 rfl (by decide)
      refine lv_iconst (v := 0) hx hb dX12_turnsBy_108 (by decide) ?_
      refine va_put (D := g.1) (ci := 10) (v := .int 0) (ty := .boolean) (C := RX12) (T := TX12) (N := 20) hx hb hts izRX12 tyX12 tyX12_ok nmX12 hown hK hP hD hS 0 rfl rfl 15 (by decide) (hts _ k941) (fun _ h9 => h9) rfl (by decide +kernel) rfl rfl (Nat.le_of_ble_eq_true rfl) dX12_turnsBy_109 (fun H locs hP hD hS => ?_)
      have hP : va_P g.1 vwCl (List.flatten [bMo g o a th hi ac tp ba en tA fl de 0 iO tU fm fk fa fc ft ff_19 fb fi]) H := hP
      have hD : va_D A (List.flatten [bMo g o a th hi ac tp ba en tA fl de 0 iO tU fm fk fa fc ft ff_19 fb fi]) := hD
      refine lv_aload_n hx hb dX12_turnsBy_112 rfl (lv_at hl 0 rfl) ?_
      refine lv_aload_n hx hb dX12_turnsBy_113 rfl (lv_at hl 0 rfl) ?_
      refine lv_iload_n hx hb dX12_turnsBy_114 rfl (lv_at hl 1 rfl) ?_
      refine lv_iconst (v := 2) hx hb dX12_turnsBy_115 (by decide) ?_
      have hL2 : (2 : Int32).toInt = 2 := by decide
      refine mcallV' (g := g) (q0 := 0) (ci := 10) (As := [.int x, .int 2]) (rest := [.ref o]) St hK hT hA hP hD hS hl.1 [0] [] rfl rfl rfl (m_of l g o a th hi ac tp ba en tA fl de 0 iO tU fm fk fa fc ft ff_19 fb fi x 2 (⟨b_x.1, b_x.2⟩) (by decide)) (cwV 2 hts (zgL (zl4 k840 k841 k842 k837) k829) rfl rfl rfl (by decide +kernel) ⟨Nat.le_of_ble_eq_true rfl, Nat.le_of_ble_eq_true rfl⟩) rfl rfl rfl rfl (Nat.le_of_ble_eq_true rfl) dX12_turnsBy_116 ⟨(Nat.le_of_ble_eq_true rfl), (Nat.le_of_ble_eq_true rfl)⟩ (fun q_23 H locs hq24 hP hD hS => ?_)
      have hP : va_P g.1 vwCl (List.flatten [bMo g o a th hi ac tp ba en tA fl de 0 iO tU fm fk fa fc ft ff_19 fb fi]) H := hP
      have hD : va_D A (List.flatten [bMo g o a th hi ac tp ba en tA fl de 0 iO tU fm fk fa fc ft ff_19 fb fi]) := hD
      refine W.widen (k := 0) (n := 0) (Nat.le_of_ble_eq_true rfl) (Nat.le_of_ble_eq_true rfl) ?_
      refine W.eq (g2 := F0 m 119 ls [.int q_23, .ref o]) rfl ?_
      refine lv_if_le (tgt := 126) hx hb dX12_turnsBy_119 (by decide) (fun cb9 => ?_) (fun cb9 => ?_)
      · skip
        have c25 : q_23.toInt ≤ 0 := zle cb9 rfl (by decide)
        have n26 : q_23.toInt ≤ 0 := Int.le_trans c25 (Int.le_refl _)
        refine lv_iconst (v := 0) hx hb dX12_turnsBy_126 (by decide) ?_
        refine va_put (D := g.1) (ci := 10) (v := .int 0) (ty := .boolean) (C := RX12) (T := TX12) (N := 20) hx hb hts izRX12 tyX12 tyX12_ok nmX12 hown hK hP hD hS 0 rfl rfl 16 (by decide) (hts _ k942) (fun _ h9 => h9) rfl (by decide +kernel) rfl rfl (Nat.le_of_ble_eq_true rfl) dX12_turnsBy_127 (fun H locs hP hD hS => ?_)
        have hP : va_P g.1 vwCl (List.flatten [bMo g o a th hi ac tp ba en tA fl de 0 0 tU fm fk fa fc ft ff_19 fb fi]) H := hP
        have hD : va_D A (List.flatten [bMo g o a th hi ac tp ba en tA fl de 0 0 tU fm fk fa fc ft ff_19 fb fi]) := hD
        refine lv_aload_n hx hb dX12_turnsBy_130 rfl (lv_at hl 0 rfl) ?_
        refine lv_iconst (v := 0) hx hb dX12_turnsBy_131 (by decide) ?_
        refine va_put (D := g.1) (ci := 10) (v := .int 0) (ty := .int) (C := RX12) (T := TX12) (N := 20) hx hb hts izRX12 tyX12 tyX12_ok nmX12 hown hK hP hD hS 0 rfl rfl 17 (by decide) (hts _ k962) (fun _ h9 => h9) rfl (by decide +kernel) rfl rfl (Nat.le_of_ble_eq_true rfl) dX12_turnsBy_132 (fun H locs hP hD hS => ?_)
        have hP : va_P g.1 vwCl (List.flatten [bMo g o a th hi ac tp ba en tA fl de 0 0 0 fm fk fa fc ft ff_19 fb fi]) H := hP
        have hD : va_D A (List.flatten [bMo g o a th hi ac tp ba en tA fl de 0 0 0 fm fk fa fc ft ff_19 fb fi]) := hD
        refine lv_aload_n hx hb dX12_turnsBy_135 rfl (lv_at hl 0 rfl) ?_
        refine va_get (D := g.1) (ci := 10) (v := .int fl) (C := RX12) (T := TX12) (N := 20) hx hb hts izRX12 hown hK hP 0 rfl rfl 12 (by decide) (hts _ k820) (fun _ h9 => h9) rfl dX12_turnsBy_136 ?_
        refine lv_istore_n (lv' := [(2, .int fl), (0, .ref o), (1, .int x)]) hx hb dX12_turnsBy_139 rfl hl (by decide) rfl (fun ls hl => ?_)
        refine lv_aload_n hx hb dX12_turnsBy_140 rfl (lv_at hl 1 rfl) ?_
        refine lv_iconst (v := (-1)) hx hb dX12_turnsBy_141 (by decide) ?_
        refine va_put (D := g.1) (ci := 10) (v := .int (-1)) (ty := .int) (C := RX12) (T := TX12) (N := 20) hx hb hts izRX12 tyX12 tyX12_ok nmX12 hown hK hP hD hS 0 rfl rfl 12 (by decide) (hts _ k820) (fun _ h9 => h9) rfl (by decide +kernel) rfl rfl (Nat.le_of_ble_eq_true rfl) dX12_turnsBy_142 (fun H locs hP hD hS => ?_)
        have hP : va_P g.1 vwCl (List.flatten [bMo g o a th hi ac tp ba en tA (-1) de 0 0 0 fm fk fa fc ft ff_19 fb fi]) H := hP
        have hD : va_D A (List.flatten [bMo g o a th hi ac tp ba en tA (-1) de 0 0 0 fm fk fa fc ft ff_19 fb fi]) := hD
        refine lv_aload_n hx hb dX12_turnsBy_145 rfl (lv_at hl 1 rfl) ?_
        refine lv_sipush (v := 379) hx hb dX12_turnsBy_146 (by decide) ?_
        refine va_put (D := g.1) (ci := 10) (v := .int 379) (ty := .int) (C := RX12) (T := TX12) (N := 20) hx hb hts izRX12 tyX12 tyX12_ok nmX12 hown hK hP hD hS 0 rfl rfl 9 (by decide) (hts _ k875) (fun _ h9 => h9) rfl (by decide +kernel) rfl rfl (Nat.le_of_ble_eq_true rfl) dX12_turnsBy_149 (fun H locs hP hD hS => ?_)
        have hP : va_P g.1 vwCl (List.flatten [bMo g o a th hi ac tp 379 en tA (-1) de 0 0 0 fm fk fa fc ft ff_19 fb fi]) H := hP
        have hD : va_D A (List.flatten [bMo g o a th hi ac tp 379 en tA (-1) de 0 0 0 fm fk fa fc ft ff_19 fb fi]) := hD
        refine lv_aload_n hx hb dX12_turnsBy_152 rfl (lv_at hl 1 rfl) ?_
        refine lv_aload_n hx hb dX12_turnsBy_153 rfl (lv_at hl 1 rfl) ?_
        refine va_get (D := g.1) (ci := 10) (v := .ref (a 0)) (C := RX12) (T := TX12) (N := 20) hx hb hts izRX12 hown hK hP 0 rfl rfl 1 (by decide) (hts _ k815) (fun _ h9 => h9) rfl dX12_turnsBy_154 ?_
        refine lv_iconst (v := 2) hx hb dX12_turnsBy_157 (by decide) ?_
        refine va_iald hx hb hK hP 1 0 rfl rfl (zin rfl) dX12_turnsBy_158 ?_
        refine zgq (r := fm 2) rfl (rM2 rfm) (fun x_27 hx_27 => ?_)
        refine va_put (D := g.1) (ci := 10) (v := .int x_27) (ty := .int) (C := RX12) (T := TX12) (N := 20) hx hb hts izRX12 tyX12 tyX12_ok nmX12 hown hK hP hD hS 0 rfl rfl 10 (by decide) (hts _ k878) (fun _ h9 => h9) rfl (by decide +kernel) rfl rfl (Nat.le_of_ble_eq_true rfl) dX12_turnsBy_159 (fun H locs hP hD hS => ?_)
        have hP : va_P g.1 vwCl (List.flatten [bMo g o a th hi ac tp 379 x_27 tA (-1) de 0 0 0 fm fk fa fc ft ff_19 fb fi]) H := hP
        have hD : va_D A (List.flatten [bMo g o a th hi ac tp 379 x_27 tA (-1) de 0 0 0 fm fk fa fc ft ff_19 fb fi]) := hD
        refine lv_aload_n hx hb dX12_turnsBy_162 rfl (lv_at hl 1 rfl) ?_
        refine lv_iconst (v := 0) hx hb dX12_turnsBy_163 (by decide) ?_
        refine va_put (D := g.1) (ci := 10) (v := .int 0) (ty := .int) (C := RX12) (T := TX12) (N := 20) hx hb hts izRX12 tyX12 tyX12_ok nmX12 hown hK hP hD hS 0 rfl rfl 11 (by decide) (hts _ k877) (fun _ h9 => h9) rfl (by decide +kernel) rfl rfl (Nat.le_of_ble_eq_true rfl) dX12_turnsBy_164 (fun H locs hP hD hS => ?_)
        have hP : va_P g.1 vwCl (List.flatten [bMo g o a th hi ac tp 379 x_27 0 (-1) de 0 0 0 fm fk fa fc ft ff_19 fb fi]) H := hP
        have hD : va_D A (List.flatten [bMo g o a th hi ac tp 379 x_27 0 (-1) de 0 0 0 fm fk fa fc ft ff_19 fb fi]) := hD
        refine lv_aload_n hx hb dX12_turnsBy_167 rfl (lv_at hl 1 rfl) ?_
        refine lv_iconst (v := 0) hx hb dX12_turnsBy_168 (by decide) ?_
        refine va_put (D := g.1) (ci := 10) (v := .int 0) (ty := .int) (C := RX12) (T := TX12) (N := 20) hx hb hts izRX12 tyX12 tyX12_ok nmX12 hown hK hP hD hS 0 rfl rfl 13 (by decide) (hts _ k932) (fun _ h9 => h9) rfl (by decide +kernel) rfl rfl (Nat.le_of_ble_eq_true rfl) dX12_turnsBy_169 (fun H locs hP hD hS => ?_)
        have hP : va_P g.1 vwCl (List.flatten [bMo g o a th hi ac tp 379 x_27 0 (-1) 0 0 0 0 fm fk fa fc ft ff_19 fb fi]) H := hP
        have hD : va_D A (List.flatten [bMo g o a th hi ac tp 379 x_27 0 (-1) 0 0 0 0 fm fk fa fc ft ff_19 fb fi]) := hD
        refine lv_aload_n hx hb dX12_turnsBy_172 rfl (lv_at hl 1 rfl) ?_
        refine lv_iconst (v := 1) hx hb dX12_turnsBy_173 (by decide) ?_
        have hL379 : (379 : Int32).toInt = 379 := by decide
        refine mcallV' (g := g) (q0 := 0) (ci := 10) (As := [.int 1]) (rest := []) St hK hT hA hP hD hS hl.1 [0] [] rfl rfl rfl (m_readT l g o a th hi ac tp 379 x_27 0 (-1) 0 0 0 fm fk fa fc ft ff_19 fb fi (by decide) (by decide) (by first | assumption | omega | decide | exact Or.inl (by decide) | exact Or.inr (by decide)) (⟨hx_27.1, hx_27.2.1⟩) (by first | assumption | omega | decide | exact Or.inl (by decide) | exact Or.inr (by decide)) (by first | assumption | omega | decide | exact Or.inl (by decide) | exact Or.inr (by decide)) (by first | assumption | omega | decide | exact Or.inl (by decide) | exact Or.inr (by decide))) (cwV 1 hts (zgL (zl4 k980 k981 k982 k837) k970) rfl rfl rfl (by decide +kernel) ⟨Nat.le_of_ble_eq_true rfl, Nat.le_of_ble_eq_true rfl⟩) rfl rfl rfl rfl (Nat.le_of_ble_eq_true rfl) dX12_turnsBy_174 ⟨(Nat.le_of_ble_eq_true rfl), (Nat.le_of_ble_eq_true rfl)⟩ (fun u_ H locs hq32 hP hD hS => ?_)
        obtain ⟨at2_28, fl2_29, tU2_30, q_31⟩ := u_
        replace hq32 : (0 ≤ at2_28.toInt ∧ at2_28.toInt ≤ x_27.toInt + 7 - 0) ∧ ((0 : Int32).toInt ≤ at2_28.toInt) ∧ (-1 ≤ fl2_29.toInt) := hq32
        have hP : va_P g.1 vwCl (List.flatten [bMo g o a th hi ac tp 379 x_27 at2_28 fl2_29 0 0 0 tU2_30 fm fk fa fc ft ff_19 fb fi]) H := hP
        have hD : va_D A (List.flatten [bMo g o a th hi ac tp 379 x_27 at2_28 fl2_29 0 0 0 tU2_30 fm fk fa fc ft ff_19 fb fi]) := hD
        refine W.widen (k := 0) (n := 0) (Nat.le_of_ble_eq_true rfl) (Nat.le_of_ble_eq_true rfl) ?_
        refine W.eq (g2 := F0 m 177 ls [.int q_31]) rfl ?_
        obtain ⟨hq32_0, hq32_1, hq32_2⟩ := hq32
        refine lv_istore_n (lv' := [(3, .int q_31), (2, .int fl), (0, .ref o), (1, .int x)]) hx hb dX12_turnsBy_177 rfl hl (by decide) rfl (fun ls hl => ?_)
        refine lv_aload_n hx hb dX12_turnsBy_178 rfl (lv_at hl 2 rfl) ?_
        refine lv_iload_n hx hb dX12_turnsBy_179 rfl (lv_at hl 1 rfl) ?_
        refine va_put (D := g.1) (ci := 10) (v := .int fl) (ty := .int) (C := RX12) (T := TX12) (N := 20) hx hb hts izRX12 tyX12 tyX12_ok nmX12 hown hK hP hD hS 0 rfl rfl 12 (by decide) (hts _ k820) (fun _ h9 => h9) rfl (by decide +kernel) rfl rfl (Nat.le_of_ble_eq_true rfl) dX12_turnsBy_180 (fun H locs hP hD hS => ?_)
        have hP : va_P g.1 vwCl (List.flatten [bMo g o a th hi ac tp 379 x_27 at2_28 fl 0 0 0 tU2_30 fm fk fa fc ft ff_19 fb fi]) H := hP
        have hD : va_D A (List.flatten [bMo g o a th hi ac tp 379 x_27 at2_28 fl 0 0 0 tU2_30 fm fk fa fc ft ff_19 fb fi]) := hD
        refine lv_aload_n hx hb dX12_turnsBy_183 rfl (lv_at hl 2 rfl) ?_
        refine va_get (D := g.1) (ci := 10) (v := .int tU2_30) (C := RX12) (T := TX12) (N := 20) hx hb hts izRX12 hown hK hP 0 rfl rfl 17 (by decide) (hts _ k962) (fun _ h9 => h9) rfl dX12_turnsBy_184 ?_
        have hP : va_P g.1 vwCl (List.flatten [bMo g o a th hi ac tp 379 x_27 at2_28 fl 0 0 0 tU2_30 fm fk fa fc ft ff_19 fb fi]) H := hP
        have hD : va_D A (List.flatten [bMo g o a th hi ac tp 379 x_27 at2_28 fl 0 0 0 tU2_30 fm fk fa fc ft ff_19 fb fi]) := hD
        exact mret_i hx hb hr hlocks hS (Nat.le_of_ble_eq_true rfl) (Nat.le_of_ble_eq_true rfl) dX12_turnsBy_187 ((379 : Int32), x_27, at2_28, (0 : Int32), (0 : Int32), (0 : Int32), tU2_30, ff_19, tU2_30) rfl (show (0 ≤ (0 : Int32).toInt ∧ (0 : Int32).toInt ≤ 1) ∧ (0 ≤ (0 : Int32).toInt ∧ (0 : Int32).toInt ≤ 1) from ⟨(by first | assumption | omega | decide | exact rfl | exact zb01 (by omega) | exact Or.inl (by decide) | exact Or.inr (by first | omega | decide)), (by first | assumption | omega | decide | exact rfl | exact zb01 (by omega) | exact Or.inl (by decide) | exact Or.inr (by first | omega | decide))⟩) hP hD
      · skip
        have c33 : 0 < q_23.toInt := zlti (Int32.not_le.mp cb9) (by decide) rfl
        have n34 : 1 ≤ q_23.toInt := zL2 (a := 0) c33 (Int.le_refl _) (by decide)
        refine lv_iconst (v := 1) hx hb dX12_turnsBy_122 (by decide) ?_
        refine lv_goto (tgt := 127) hx hb dX12_turnsBy_123 (by decide) ?_
        refine va_put (D := g.1) (ci := 10) (v := .int 1) (ty := .boolean) (C := RX12) (T := TX12) (N := 20) hx hb hts izRX12 tyX12 tyX12_ok nmX12 hown hK hP hD hS 0 rfl rfl 16 (by decide) (hts _ k942) (fun _ h9 => h9) rfl (by decide +kernel) rfl rfl (Nat.le_of_ble_eq_true rfl) dX12_turnsBy_127 (fun H locs hP hD hS => ?_)
        have hP : va_P g.1 vwCl (List.flatten [bMo g o a th hi ac tp ba en tA fl de 0 1 tU fm fk fa fc ft ff_19 fb fi]) H := hP
        have hD : va_D A (List.flatten [bMo g o a th hi ac tp ba en tA fl de 0 1 tU fm fk fa fc ft ff_19 fb fi]) := hD
        refine lv_aload_n hx hb dX12_turnsBy_130 rfl (lv_at hl 0 rfl) ?_
        refine lv_iconst (v := 0) hx hb dX12_turnsBy_131 (by decide) ?_
        refine va_put (D := g.1) (ci := 10) (v := .int 0) (ty := .int) (C := RX12) (T := TX12) (N := 20) hx hb hts izRX12 tyX12 tyX12_ok nmX12 hown hK hP hD hS 0 rfl rfl 17 (by decide) (hts _ k962) (fun _ h9 => h9) rfl (by decide +kernel) rfl rfl (Nat.le_of_ble_eq_true rfl) dX12_turnsBy_132 (fun H locs hP hD hS => ?_)
        have hP : va_P g.1 vwCl (List.flatten [bMo g o a th hi ac tp ba en tA fl de 0 1 0 fm fk fa fc ft ff_19 fb fi]) H := hP
        have hD : va_D A (List.flatten [bMo g o a th hi ac tp ba en tA fl de 0 1 0 fm fk fa fc ft ff_19 fb fi]) := hD
        refine lv_aload_n hx hb dX12_turnsBy_135 rfl (lv_at hl 0 rfl) ?_
        refine va_get (D := g.1) (ci := 10) (v := .int fl) (C := RX12) (T := TX12) (N := 20) hx hb hts izRX12 hown hK hP 0 rfl rfl 12 (by decide) (hts _ k820) (fun _ h9 => h9) rfl dX12_turnsBy_136 ?_
        refine lv_istore_n (lv' := [(2, .int fl), (0, .ref o), (1, .int x)]) hx hb dX12_turnsBy_139 rfl hl (by decide) rfl (fun ls hl => ?_)
        refine lv_aload_n hx hb dX12_turnsBy_140 rfl (lv_at hl 1 rfl) ?_
        refine lv_iconst (v := (-1)) hx hb dX12_turnsBy_141 (by decide) ?_
        refine va_put (D := g.1) (ci := 10) (v := .int (-1)) (ty := .int) (C := RX12) (T := TX12) (N := 20) hx hb hts izRX12 tyX12 tyX12_ok nmX12 hown hK hP hD hS 0 rfl rfl 12 (by decide) (hts _ k820) (fun _ h9 => h9) rfl (by decide +kernel) rfl rfl (Nat.le_of_ble_eq_true rfl) dX12_turnsBy_142 (fun H locs hP hD hS => ?_)
        have hP : va_P g.1 vwCl (List.flatten [bMo g o a th hi ac tp ba en tA (-1) de 0 1 0 fm fk fa fc ft ff_19 fb fi]) H := hP
        have hD : va_D A (List.flatten [bMo g o a th hi ac tp ba en tA (-1) de 0 1 0 fm fk fa fc ft ff_19 fb fi]) := hD
        refine lv_aload_n hx hb dX12_turnsBy_145 rfl (lv_at hl 1 rfl) ?_
        refine lv_sipush (v := 379) hx hb dX12_turnsBy_146 (by decide) ?_
        refine va_put (D := g.1) (ci := 10) (v := .int 379) (ty := .int) (C := RX12) (T := TX12) (N := 20) hx hb hts izRX12 tyX12 tyX12_ok nmX12 hown hK hP hD hS 0 rfl rfl 9 (by decide) (hts _ k875) (fun _ h9 => h9) rfl (by decide +kernel) rfl rfl (Nat.le_of_ble_eq_true rfl) dX12_turnsBy_149 (fun H locs hP hD hS => ?_)
        have hP : va_P g.1 vwCl (List.flatten [bMo g o a th hi ac tp 379 en tA (-1) de 0 1 0 fm fk fa fc ft ff_19 fb fi]) H := hP
        have hD : va_D A (List.flatten [bMo g o a th hi ac tp 379 en tA (-1) de 0 1 0 fm fk fa fc ft ff_19 fb fi]) := hD
        refine lv_aload_n hx hb dX12_turnsBy_152 rfl (lv_at hl 1 rfl) ?_
        refine lv_aload_n hx hb dX12_turnsBy_153 rfl (lv_at hl 1 rfl) ?_
        refine va_get (D := g.1) (ci := 10) (v := .ref (a 0)) (C := RX12) (T := TX12) (N := 20) hx hb hts izRX12 hown hK hP 0 rfl rfl 1 (by decide) (hts _ k815) (fun _ h9 => h9) rfl dX12_turnsBy_154 ?_
        refine lv_iconst (v := 2) hx hb dX12_turnsBy_157 (by decide) ?_
        refine va_iald hx hb hK hP 1 0 rfl rfl (zin rfl) dX12_turnsBy_158 ?_
        refine zgq (r := fm 2) rfl (rM2 rfm) (fun x_35 hx_35 => ?_)
        refine va_put (D := g.1) (ci := 10) (v := .int x_35) (ty := .int) (C := RX12) (T := TX12) (N := 20) hx hb hts izRX12 tyX12 tyX12_ok nmX12 hown hK hP hD hS 0 rfl rfl 10 (by decide) (hts _ k878) (fun _ h9 => h9) rfl (by decide +kernel) rfl rfl (Nat.le_of_ble_eq_true rfl) dX12_turnsBy_159 (fun H locs hP hD hS => ?_)
        have hP : va_P g.1 vwCl (List.flatten [bMo g o a th hi ac tp 379 x_35 tA (-1) de 0 1 0 fm fk fa fc ft ff_19 fb fi]) H := hP
        have hD : va_D A (List.flatten [bMo g o a th hi ac tp 379 x_35 tA (-1) de 0 1 0 fm fk fa fc ft ff_19 fb fi]) := hD
        refine lv_aload_n hx hb dX12_turnsBy_162 rfl (lv_at hl 1 rfl) ?_
        refine lv_iconst (v := 0) hx hb dX12_turnsBy_163 (by decide) ?_
        refine va_put (D := g.1) (ci := 10) (v := .int 0) (ty := .int) (C := RX12) (T := TX12) (N := 20) hx hb hts izRX12 tyX12 tyX12_ok nmX12 hown hK hP hD hS 0 rfl rfl 11 (by decide) (hts _ k877) (fun _ h9 => h9) rfl (by decide +kernel) rfl rfl (Nat.le_of_ble_eq_true rfl) dX12_turnsBy_164 (fun H locs hP hD hS => ?_)
        have hP : va_P g.1 vwCl (List.flatten [bMo g o a th hi ac tp 379 x_35 0 (-1) de 0 1 0 fm fk fa fc ft ff_19 fb fi]) H := hP
        have hD : va_D A (List.flatten [bMo g o a th hi ac tp 379 x_35 0 (-1) de 0 1 0 fm fk fa fc ft ff_19 fb fi]) := hD
        refine lv_aload_n hx hb dX12_turnsBy_167 rfl (lv_at hl 1 rfl) ?_
        refine lv_iconst (v := 0) hx hb dX12_turnsBy_168 (by decide) ?_
        refine va_put (D := g.1) (ci := 10) (v := .int 0) (ty := .int) (C := RX12) (T := TX12) (N := 20) hx hb hts izRX12 tyX12 tyX12_ok nmX12 hown hK hP hD hS 0 rfl rfl 13 (by decide) (hts _ k932) (fun _ h9 => h9) rfl (by decide +kernel) rfl rfl (Nat.le_of_ble_eq_true rfl) dX12_turnsBy_169 (fun H locs hP hD hS => ?_)
        have hP : va_P g.1 vwCl (List.flatten [bMo g o a th hi ac tp 379 x_35 0 (-1) 0 0 1 0 fm fk fa fc ft ff_19 fb fi]) H := hP
        have hD : va_D A (List.flatten [bMo g o a th hi ac tp 379 x_35 0 (-1) 0 0 1 0 fm fk fa fc ft ff_19 fb fi]) := hD
        refine lv_aload_n hx hb dX12_turnsBy_172 rfl (lv_at hl 1 rfl) ?_
        refine lv_iconst (v := 1) hx hb dX12_turnsBy_173 (by decide) ?_
        have hL1 : (1 : Int32).toInt = 1 := by decide
        have hL379 : (379 : Int32).toInt = 379 := by decide
        refine mcallV' (g := g) (q0 := 0) (ci := 10) (As := [.int 1]) (rest := []) St hK hT hA hP hD hS hl.1 [0] [] rfl rfl rfl (m_readT l g o a th hi ac tp 379 x_35 0 (-1) 0 1 0 fm fk fa fc ft ff_19 fb fi (by decide) (by decide) (by first | assumption | omega | decide | exact Or.inl (by decide) | exact Or.inr (by decide)) (⟨hx_35.1, hx_35.2.1⟩) (by first | assumption | omega | decide | exact Or.inl (by decide) | exact Or.inr (by decide)) (by first | assumption | omega | decide | exact Or.inl (by decide) | exact Or.inr (by decide)) (by first | assumption | omega | decide | exact Or.inl (by decide) | exact Or.inr (by decide))) (cwV 1 hts (zgL (zl4 k980 k981 k982 k837) k970) rfl rfl rfl (by decide +kernel) ⟨Nat.le_of_ble_eq_true rfl, Nat.le_of_ble_eq_true rfl⟩) rfl rfl rfl rfl (Nat.le_of_ble_eq_true rfl) dX12_turnsBy_174 ⟨(Nat.le_of_ble_eq_true rfl), (Nat.le_of_ble_eq_true rfl)⟩ (fun u_ H locs hq40 hP hD hS => ?_)
        obtain ⟨at2_36, fl2_37, tU2_38, q_39⟩ := u_
        replace hq40 : (0 ≤ at2_36.toInt ∧ at2_36.toInt ≤ x_35.toInt + 7 - 0) ∧ ((0 : Int32).toInt ≤ at2_36.toInt) ∧ (-1 ≤ fl2_37.toInt) := hq40
        have hP : va_P g.1 vwCl (List.flatten [bMo g o a th hi ac tp 379 x_35 at2_36 fl2_37 0 0 1 tU2_38 fm fk fa fc ft ff_19 fb fi]) H := hP
        have hD : va_D A (List.flatten [bMo g o a th hi ac tp 379 x_35 at2_36 fl2_37 0 0 1 tU2_38 fm fk fa fc ft ff_19 fb fi]) := hD
        refine W.widen (k := 0) (n := 0) (Nat.le_of_ble_eq_true rfl) (Nat.le_of_ble_eq_true rfl) ?_
        refine W.eq (g2 := F0 m 177 ls [.int q_39]) rfl ?_
        obtain ⟨hq40_0, hq40_1, hq40_2⟩ := hq40
        refine lv_istore_n (lv' := [(3, .int q_39), (2, .int fl), (0, .ref o), (1, .int x)]) hx hb dX12_turnsBy_177 rfl hl (by decide) rfl (fun ls hl => ?_)
        refine lv_aload_n hx hb dX12_turnsBy_178 rfl (lv_at hl 2 rfl) ?_
        refine lv_iload_n hx hb dX12_turnsBy_179 rfl (lv_at hl 1 rfl) ?_
        refine va_put (D := g.1) (ci := 10) (v := .int fl) (ty := .int) (C := RX12) (T := TX12) (N := 20) hx hb hts izRX12 tyX12 tyX12_ok nmX12 hown hK hP hD hS 0 rfl rfl 12 (by decide) (hts _ k820) (fun _ h9 => h9) rfl (by decide +kernel) rfl rfl (Nat.le_of_ble_eq_true rfl) dX12_turnsBy_180 (fun H locs hP hD hS => ?_)
        have hP : va_P g.1 vwCl (List.flatten [bMo g o a th hi ac tp 379 x_35 at2_36 fl 0 0 1 tU2_38 fm fk fa fc ft ff_19 fb fi]) H := hP
        have hD : va_D A (List.flatten [bMo g o a th hi ac tp 379 x_35 at2_36 fl 0 0 1 tU2_38 fm fk fa fc ft ff_19 fb fi]) := hD
        refine lv_aload_n hx hb dX12_turnsBy_183 rfl (lv_at hl 2 rfl) ?_
        refine va_get (D := g.1) (ci := 10) (v := .int tU2_38) (C := RX12) (T := TX12) (N := 20) hx hb hts izRX12 hown hK hP 0 rfl rfl 17 (by decide) (hts _ k962) (fun _ h9 => h9) rfl dX12_turnsBy_184 ?_
        have hP : va_P g.1 vwCl (List.flatten [bMo g o a th hi ac tp 379 x_35 at2_36 fl 0 0 1 tU2_38 fm fk fa fc ft ff_19 fb fi]) H := hP
        have hD : va_D A (List.flatten [bMo g o a th hi ac tp 379 x_35 at2_36 fl 0 0 1 tU2_38 fm fk fa fc ft ff_19 fb fi]) := hD
        exact mret_i hx hb hr hlocks hS (Nat.le_of_ble_eq_true rfl) (Nat.le_of_ble_eq_true rfl) dX12_turnsBy_187 ((379 : Int32), x_35, at2_36, (0 : Int32), (0 : Int32), (1 : Int32), tU2_38, ff_19, tU2_38) rfl (show (0 ≤ (1 : Int32).toInt ∧ (1 : Int32).toInt ≤ 1) ∧ (0 ≤ (0 : Int32).toInt ∧ (0 : Int32).toInt ≤ 1) from ⟨(by first | assumption | omega | decide | exact rfl | exact zb01 (by omega) | exact Or.inl (by decide) | exact Or.inr (by first | omega | decide)), (by first | assumption | omega | decide | exact rfl | exact zb01 (by omega) | exact Or.inl (by decide) | exact Or.inr (by first | omega | decide))⟩) hP hD
    · skip
      have c41 : q_20.toInt = 1 := zeq cb9 rfl (by decide)
      have n42 : 1 ≤ q_20.toInt := Int.le_trans (Int.le_refl _) (Int.le_of_eq c41.symm)
      have n43 : q_20.toInt ≤ 1 := Int.le_trans (Int.le_of_eq c41) (Int.le_refl _)
      refine lv_iconst (v := 1) hx hb dX12_turnsBy_104 (by decide) ?_
      refine lv_goto (tgt := 109) hx hb dX12_turnsBy_105 (by decide) ?_
      refine va_put (D := g.1) (ci := 10) (v := .int 1) (ty := .boolean) (C := RX12) (T := TX12) (N := 20) hx hb hts izRX12 tyX12 tyX12_ok nmX12 hown hK hP hD hS 0 rfl rfl 15 (by decide) (hts _ k941) (fun _ h9 => h9) rfl (by decide +kernel) rfl rfl (Nat.le_of_ble_eq_true rfl) dX12_turnsBy_109 (fun H locs hP hD hS => ?_)
      have hP : va_P g.1 vwCl (List.flatten [bMo g o a th hi ac tp ba en tA fl de 1 iO tU fm fk fa fc ft ff_19 fb fi]) H := hP
      have hD : va_D A (List.flatten [bMo g o a th hi ac tp ba en tA fl de 1 iO tU fm fk fa fc ft ff_19 fb fi]) := hD
      refine lv_aload_n hx hb dX12_turnsBy_112 rfl (lv_at hl 0 rfl) ?_
      refine lv_aload_n hx hb dX12_turnsBy_113 rfl (lv_at hl 0 rfl) ?_
      refine lv_iload_n hx hb dX12_turnsBy_114 rfl (lv_at hl 1 rfl) ?_
      refine lv_iconst (v := 2) hx hb dX12_turnsBy_115 (by decide) ?_
      have hL2 : (2 : Int32).toInt = 2 := by decide
      refine mcallV' (g := g) (q0 := 0) (ci := 10) (As := [.int x, .int 2]) (rest := [.ref o]) St hK hT hA hP hD hS hl.1 [0] [] rfl rfl rfl (m_of l g o a th hi ac tp ba en tA fl de 1 iO tU fm fk fa fc ft ff_19 fb fi x 2 (⟨b_x.1, b_x.2⟩) (by decide)) (cwV 2 hts (zgL (zl4 k840 k841 k842 k837) k829) rfl rfl rfl (by decide +kernel) ⟨Nat.le_of_ble_eq_true rfl, Nat.le_of_ble_eq_true rfl⟩) rfl rfl rfl rfl (Nat.le_of_ble_eq_true rfl) dX12_turnsBy_116 ⟨(Nat.le_of_ble_eq_true rfl), (Nat.le_of_ble_eq_true rfl)⟩ (fun q_44 H locs hq45 hP hD hS => ?_)
      have hP : va_P g.1 vwCl (List.flatten [bMo g o a th hi ac tp ba en tA fl de 1 iO tU fm fk fa fc ft ff_19 fb fi]) H := hP
      have hD : va_D A (List.flatten [bMo g o a th hi ac tp ba en tA fl de 1 iO tU fm fk fa fc ft ff_19 fb fi]) := hD
      refine W.widen (k := 0) (n := 0) (Nat.le_of_ble_eq_true rfl) (Nat.le_of_ble_eq_true rfl) ?_
      refine W.eq (g2 := F0 m 119 ls [.int q_44, .ref o]) rfl ?_
      refine lv_if_le (tgt := 126) hx hb dX12_turnsBy_119 (by decide) (fun cb9 => ?_) (fun cb9 => ?_)
      · skip
        have c46 : q_44.toInt ≤ 0 := zle cb9 rfl (by decide)
        have n47 : q_44.toInt ≤ 0 := Int.le_trans c46 (Int.le_refl _)
        refine lv_iconst (v := 0) hx hb dX12_turnsBy_126 (by decide) ?_
        refine va_put (D := g.1) (ci := 10) (v := .int 0) (ty := .boolean) (C := RX12) (T := TX12) (N := 20) hx hb hts izRX12 tyX12 tyX12_ok nmX12 hown hK hP hD hS 0 rfl rfl 16 (by decide) (hts _ k942) (fun _ h9 => h9) rfl (by decide +kernel) rfl rfl (Nat.le_of_ble_eq_true rfl) dX12_turnsBy_127 (fun H locs hP hD hS => ?_)
        have hP : va_P g.1 vwCl (List.flatten [bMo g o a th hi ac tp ba en tA fl de 1 0 tU fm fk fa fc ft ff_19 fb fi]) H := hP
        have hD : va_D A (List.flatten [bMo g o a th hi ac tp ba en tA fl de 1 0 tU fm fk fa fc ft ff_19 fb fi]) := hD
        refine lv_aload_n hx hb dX12_turnsBy_130 rfl (lv_at hl 0 rfl) ?_
        refine lv_iconst (v := 0) hx hb dX12_turnsBy_131 (by decide) ?_
        refine va_put (D := g.1) (ci := 10) (v := .int 0) (ty := .int) (C := RX12) (T := TX12) (N := 20) hx hb hts izRX12 tyX12 tyX12_ok nmX12 hown hK hP hD hS 0 rfl rfl 17 (by decide) (hts _ k962) (fun _ h9 => h9) rfl (by decide +kernel) rfl rfl (Nat.le_of_ble_eq_true rfl) dX12_turnsBy_132 (fun H locs hP hD hS => ?_)
        have hP : va_P g.1 vwCl (List.flatten [bMo g o a th hi ac tp ba en tA fl de 1 0 0 fm fk fa fc ft ff_19 fb fi]) H := hP
        have hD : va_D A (List.flatten [bMo g o a th hi ac tp ba en tA fl de 1 0 0 fm fk fa fc ft ff_19 fb fi]) := hD
        refine lv_aload_n hx hb dX12_turnsBy_135 rfl (lv_at hl 0 rfl) ?_
        refine va_get (D := g.1) (ci := 10) (v := .int fl) (C := RX12) (T := TX12) (N := 20) hx hb hts izRX12 hown hK hP 0 rfl rfl 12 (by decide) (hts _ k820) (fun _ h9 => h9) rfl dX12_turnsBy_136 ?_
        refine lv_istore_n (lv' := [(2, .int fl), (0, .ref o), (1, .int x)]) hx hb dX12_turnsBy_139 rfl hl (by decide) rfl (fun ls hl => ?_)
        refine lv_aload_n hx hb dX12_turnsBy_140 rfl (lv_at hl 1 rfl) ?_
        refine lv_iconst (v := (-1)) hx hb dX12_turnsBy_141 (by decide) ?_
        refine va_put (D := g.1) (ci := 10) (v := .int (-1)) (ty := .int) (C := RX12) (T := TX12) (N := 20) hx hb hts izRX12 tyX12 tyX12_ok nmX12 hown hK hP hD hS 0 rfl rfl 12 (by decide) (hts _ k820) (fun _ h9 => h9) rfl (by decide +kernel) rfl rfl (Nat.le_of_ble_eq_true rfl) dX12_turnsBy_142 (fun H locs hP hD hS => ?_)
        have hP : va_P g.1 vwCl (List.flatten [bMo g o a th hi ac tp ba en tA (-1) de 1 0 0 fm fk fa fc ft ff_19 fb fi]) H := hP
        have hD : va_D A (List.flatten [bMo g o a th hi ac tp ba en tA (-1) de 1 0 0 fm fk fa fc ft ff_19 fb fi]) := hD
        refine lv_aload_n hx hb dX12_turnsBy_145 rfl (lv_at hl 1 rfl) ?_
        refine lv_sipush (v := 379) hx hb dX12_turnsBy_146 (by decide) ?_
        refine va_put (D := g.1) (ci := 10) (v := .int 379) (ty := .int) (C := RX12) (T := TX12) (N := 20) hx hb hts izRX12 tyX12 tyX12_ok nmX12 hown hK hP hD hS 0 rfl rfl 9 (by decide) (hts _ k875) (fun _ h9 => h9) rfl (by decide +kernel) rfl rfl (Nat.le_of_ble_eq_true rfl) dX12_turnsBy_149 (fun H locs hP hD hS => ?_)
        have hP : va_P g.1 vwCl (List.flatten [bMo g o a th hi ac tp 379 en tA (-1) de 1 0 0 fm fk fa fc ft ff_19 fb fi]) H := hP
        have hD : va_D A (List.flatten [bMo g o a th hi ac tp 379 en tA (-1) de 1 0 0 fm fk fa fc ft ff_19 fb fi]) := hD
        refine lv_aload_n hx hb dX12_turnsBy_152 rfl (lv_at hl 1 rfl) ?_
        refine lv_aload_n hx hb dX12_turnsBy_153 rfl (lv_at hl 1 rfl) ?_
        refine va_get (D := g.1) (ci := 10) (v := .ref (a 0)) (C := RX12) (T := TX12) (N := 20) hx hb hts izRX12 hown hK hP 0 rfl rfl 1 (by decide) (hts _ k815) (fun _ h9 => h9) rfl dX12_turnsBy_154 ?_
        refine lv_iconst (v := 2) hx hb dX12_turnsBy_157 (by decide) ?_
        refine va_iald hx hb hK hP 1 0 rfl rfl (zin rfl) dX12_turnsBy_158 ?_
        refine zgq (r := fm 2) rfl (rM2 rfm) (fun x_48 hx_48 => ?_)
        refine va_put (D := g.1) (ci := 10) (v := .int x_48) (ty := .int) (C := RX12) (T := TX12) (N := 20) hx hb hts izRX12 tyX12 tyX12_ok nmX12 hown hK hP hD hS 0 rfl rfl 10 (by decide) (hts _ k878) (fun _ h9 => h9) rfl (by decide +kernel) rfl rfl (Nat.le_of_ble_eq_true rfl) dX12_turnsBy_159 (fun H locs hP hD hS => ?_)
        have hP : va_P g.1 vwCl (List.flatten [bMo g o a th hi ac tp 379 x_48 tA (-1) de 1 0 0 fm fk fa fc ft ff_19 fb fi]) H := hP
        have hD : va_D A (List.flatten [bMo g o a th hi ac tp 379 x_48 tA (-1) de 1 0 0 fm fk fa fc ft ff_19 fb fi]) := hD
        refine lv_aload_n hx hb dX12_turnsBy_162 rfl (lv_at hl 1 rfl) ?_
        refine lv_iconst (v := 0) hx hb dX12_turnsBy_163 (by decide) ?_
        refine va_put (D := g.1) (ci := 10) (v := .int 0) (ty := .int) (C := RX12) (T := TX12) (N := 20) hx hb hts izRX12 tyX12 tyX12_ok nmX12 hown hK hP hD hS 0 rfl rfl 11 (by decide) (hts _ k877) (fun _ h9 => h9) rfl (by decide +kernel) rfl rfl (Nat.le_of_ble_eq_true rfl) dX12_turnsBy_164 (fun H locs hP hD hS => ?_)
        have hP : va_P g.1 vwCl (List.flatten [bMo g o a th hi ac tp 379 x_48 0 (-1) de 1 0 0 fm fk fa fc ft ff_19 fb fi]) H := hP
        have hD : va_D A (List.flatten [bMo g o a th hi ac tp 379 x_48 0 (-1) de 1 0 0 fm fk fa fc ft ff_19 fb fi]) := hD
        refine lv_aload_n hx hb dX12_turnsBy_167 rfl (lv_at hl 1 rfl) ?_
        refine lv_iconst (v := 0) hx hb dX12_turnsBy_168 (by decide) ?_
        refine va_put (D := g.1) (ci := 10) (v := .int 0) (ty := .int) (C := RX12) (T := TX12) (N := 20) hx hb hts izRX12 tyX12 tyX12_ok nmX12 hown hK hP hD hS 0 rfl rfl 13 (by decide) (hts _ k932) (fun _ h9 => h9) rfl (by decide +kernel) rfl rfl (Nat.le_of_ble_eq_true rfl) dX12_turnsBy_169 (fun H locs hP hD hS => ?_)
        have hP : va_P g.1 vwCl (List.flatten [bMo g o a th hi ac tp 379 x_48 0 (-1) 0 1 0 0 fm fk fa fc ft ff_19 fb fi]) H := hP
        have hD : va_D A (List.flatten [bMo g o a th hi ac tp 379 x_48 0 (-1) 0 1 0 0 fm fk fa fc ft ff_19 fb fi]) := hD
        refine lv_aload_n hx hb dX12_turnsBy_172 rfl (lv_at hl 1 rfl) ?_
        refine lv_iconst (v := 1) hx hb dX12_turnsBy_173 (by decide) ?_
        have hL1 : (1 : Int32).toInt = 1 := by decide
        have hL379 : (379 : Int32).toInt = 379 := by decide
        refine mcallV' (g := g) (q0 := 0) (ci := 10) (As := [.int 1]) (rest := []) St hK hT hA hP hD hS hl.1 [0] [] rfl rfl rfl (m_readT l g o a th hi ac tp 379 x_48 0 (-1) 1 0 0 fm fk fa fc ft ff_19 fb fi (by decide) (by decide) (by first | assumption | omega | decide | exact Or.inl (by decide) | exact Or.inr (by decide)) (⟨hx_48.1, hx_48.2.1⟩) (by first | assumption | omega | decide | exact Or.inl (by decide) | exact Or.inr (by decide)) (by first | assumption | omega | decide | exact Or.inl (by decide) | exact Or.inr (by decide)) (by first | assumption | omega | decide | exact Or.inl (by decide) | exact Or.inr (by decide))) (cwV 1 hts (zgL (zl4 k980 k981 k982 k837) k970) rfl rfl rfl (by decide +kernel) ⟨Nat.le_of_ble_eq_true rfl, Nat.le_of_ble_eq_true rfl⟩) rfl rfl rfl rfl (Nat.le_of_ble_eq_true rfl) dX12_turnsBy_174 ⟨(Nat.le_of_ble_eq_true rfl), (Nat.le_of_ble_eq_true rfl)⟩ (fun u_ H locs hq53 hP hD hS => ?_)
        obtain ⟨at2_49, fl2_50, tU2_51, q_52⟩ := u_
        replace hq53 : (0 ≤ at2_49.toInt ∧ at2_49.toInt ≤ x_48.toInt + 7 - 0) ∧ ((0 : Int32).toInt ≤ at2_49.toInt) ∧ (-1 ≤ fl2_50.toInt) := hq53
        have hP : va_P g.1 vwCl (List.flatten [bMo g o a th hi ac tp 379 x_48 at2_49 fl2_50 0 1 0 tU2_51 fm fk fa fc ft ff_19 fb fi]) H := hP
        have hD : va_D A (List.flatten [bMo g o a th hi ac tp 379 x_48 at2_49 fl2_50 0 1 0 tU2_51 fm fk fa fc ft ff_19 fb fi]) := hD
        refine W.widen (k := 0) (n := 0) (Nat.le_of_ble_eq_true rfl) (Nat.le_of_ble_eq_true rfl) ?_
        refine W.eq (g2 := F0 m 177 ls [.int q_52]) rfl ?_
        obtain ⟨hq53_0, hq53_1, hq53_2⟩ := hq53
        refine lv_istore_n (lv' := [(3, .int q_52), (2, .int fl), (0, .ref o), (1, .int x)]) hx hb dX12_turnsBy_177 rfl hl (by decide) rfl (fun ls hl => ?_)
        refine lv_aload_n hx hb dX12_turnsBy_178 rfl (lv_at hl 2 rfl) ?_
        refine lv_iload_n hx hb dX12_turnsBy_179 rfl (lv_at hl 1 rfl) ?_
        refine va_put (D := g.1) (ci := 10) (v := .int fl) (ty := .int) (C := RX12) (T := TX12) (N := 20) hx hb hts izRX12 tyX12 tyX12_ok nmX12 hown hK hP hD hS 0 rfl rfl 12 (by decide) (hts _ k820) (fun _ h9 => h9) rfl (by decide +kernel) rfl rfl (Nat.le_of_ble_eq_true rfl) dX12_turnsBy_180 (fun H locs hP hD hS => ?_)
        have hP : va_P g.1 vwCl (List.flatten [bMo g o a th hi ac tp 379 x_48 at2_49 fl 0 1 0 tU2_51 fm fk fa fc ft ff_19 fb fi]) H := hP
        have hD : va_D A (List.flatten [bMo g o a th hi ac tp 379 x_48 at2_49 fl 0 1 0 tU2_51 fm fk fa fc ft ff_19 fb fi]) := hD
        refine lv_aload_n hx hb dX12_turnsBy_183 rfl (lv_at hl 2 rfl) ?_
        refine va_get (D := g.1) (ci := 10) (v := .int tU2_51) (C := RX12) (T := TX12) (N := 20) hx hb hts izRX12 hown hK hP 0 rfl rfl 17 (by decide) (hts _ k962) (fun _ h9 => h9) rfl dX12_turnsBy_184 ?_
        have hP : va_P g.1 vwCl (List.flatten [bMo g o a th hi ac tp 379 x_48 at2_49 fl 0 1 0 tU2_51 fm fk fa fc ft ff_19 fb fi]) H := hP
        have hD : va_D A (List.flatten [bMo g o a th hi ac tp 379 x_48 at2_49 fl 0 1 0 tU2_51 fm fk fa fc ft ff_19 fb fi]) := hD
        exact mret_i hx hb hr hlocks hS (Nat.le_of_ble_eq_true rfl) (Nat.le_of_ble_eq_true rfl) dX12_turnsBy_187 ((379 : Int32), x_48, at2_49, (0 : Int32), (1 : Int32), (0 : Int32), tU2_51, ff_19, tU2_51) rfl (show (0 ≤ (0 : Int32).toInt ∧ (0 : Int32).toInt ≤ 1) ∧ (0 ≤ (1 : Int32).toInt ∧ (1 : Int32).toInt ≤ 1) from ⟨(by first | assumption | omega | decide | exact rfl | exact zb01 (by omega) | exact Or.inl (by decide) | exact Or.inr (by first | omega | decide)), (by first | assumption | omega | decide | exact rfl | exact zb01 (by omega) | exact Or.inl (by decide) | exact Or.inr (by first | omega | decide))⟩) hP hD
      · skip
        have c54 : 0 < q_44.toInt := zlti (Int32.not_le.mp cb9) (by decide) rfl
        have n55 : 1 ≤ q_44.toInt := zL2 (a := 0) c54 (Int.le_refl _) (by decide)
        refine lv_iconst (v := 1) hx hb dX12_turnsBy_122 (by decide) ?_
        refine lv_goto (tgt := 127) hx hb dX12_turnsBy_123 (by decide) ?_
        refine va_put (D := g.1) (ci := 10) (v := .int 1) (ty := .boolean) (C := RX12) (T := TX12) (N := 20) hx hb hts izRX12 tyX12 tyX12_ok nmX12 hown hK hP hD hS 0 rfl rfl 16 (by decide) (hts _ k942) (fun _ h9 => h9) rfl (by decide +kernel) rfl rfl (Nat.le_of_ble_eq_true rfl) dX12_turnsBy_127 (fun H locs hP hD hS => ?_)
        have hP : va_P g.1 vwCl (List.flatten [bMo g o a th hi ac tp ba en tA fl de 1 1 tU fm fk fa fc ft ff_19 fb fi]) H := hP
        have hD : va_D A (List.flatten [bMo g o a th hi ac tp ba en tA fl de 1 1 tU fm fk fa fc ft ff_19 fb fi]) := hD
        refine lv_aload_n hx hb dX12_turnsBy_130 rfl (lv_at hl 0 rfl) ?_
        refine lv_iconst (v := 0) hx hb dX12_turnsBy_131 (by decide) ?_
        refine va_put (D := g.1) (ci := 10) (v := .int 0) (ty := .int) (C := RX12) (T := TX12) (N := 20) hx hb hts izRX12 tyX12 tyX12_ok nmX12 hown hK hP hD hS 0 rfl rfl 17 (by decide) (hts _ k962) (fun _ h9 => h9) rfl (by decide +kernel) rfl rfl (Nat.le_of_ble_eq_true rfl) dX12_turnsBy_132 (fun H locs hP hD hS => ?_)
        have hP : va_P g.1 vwCl (List.flatten [bMo g o a th hi ac tp ba en tA fl de 1 1 0 fm fk fa fc ft ff_19 fb fi]) H := hP
        have hD : va_D A (List.flatten [bMo g o a th hi ac tp ba en tA fl de 1 1 0 fm fk fa fc ft ff_19 fb fi]) := hD
        refine lv_aload_n hx hb dX12_turnsBy_135 rfl (lv_at hl 0 rfl) ?_
        refine va_get (D := g.1) (ci := 10) (v := .int fl) (C := RX12) (T := TX12) (N := 20) hx hb hts izRX12 hown hK hP 0 rfl rfl 12 (by decide) (hts _ k820) (fun _ h9 => h9) rfl dX12_turnsBy_136 ?_
        refine lv_istore_n (lv' := [(2, .int fl), (0, .ref o), (1, .int x)]) hx hb dX12_turnsBy_139 rfl hl (by decide) rfl (fun ls hl => ?_)
        refine lv_aload_n hx hb dX12_turnsBy_140 rfl (lv_at hl 1 rfl) ?_
        refine lv_iconst (v := (-1)) hx hb dX12_turnsBy_141 (by decide) ?_
        refine va_put (D := g.1) (ci := 10) (v := .int (-1)) (ty := .int) (C := RX12) (T := TX12) (N := 20) hx hb hts izRX12 tyX12 tyX12_ok nmX12 hown hK hP hD hS 0 rfl rfl 12 (by decide) (hts _ k820) (fun _ h9 => h9) rfl (by decide +kernel) rfl rfl (Nat.le_of_ble_eq_true rfl) dX12_turnsBy_142 (fun H locs hP hD hS => ?_)
        have hP : va_P g.1 vwCl (List.flatten [bMo g o a th hi ac tp ba en tA (-1) de 1 1 0 fm fk fa fc ft ff_19 fb fi]) H := hP
        have hD : va_D A (List.flatten [bMo g o a th hi ac tp ba en tA (-1) de 1 1 0 fm fk fa fc ft ff_19 fb fi]) := hD
        refine lv_aload_n hx hb dX12_turnsBy_145 rfl (lv_at hl 1 rfl) ?_
        refine lv_sipush (v := 379) hx hb dX12_turnsBy_146 (by decide) ?_
        refine va_put (D := g.1) (ci := 10) (v := .int 379) (ty := .int) (C := RX12) (T := TX12) (N := 20) hx hb hts izRX12 tyX12 tyX12_ok nmX12 hown hK hP hD hS 0 rfl rfl 9 (by decide) (hts _ k875) (fun _ h9 => h9) rfl (by decide +kernel) rfl rfl (Nat.le_of_ble_eq_true rfl) dX12_turnsBy_149 (fun H locs hP hD hS => ?_)
        have hP : va_P g.1 vwCl (List.flatten [bMo g o a th hi ac tp 379 en tA (-1) de 1 1 0 fm fk fa fc ft ff_19 fb fi]) H := hP
        have hD : va_D A (List.flatten [bMo g o a th hi ac tp 379 en tA (-1) de 1 1 0 fm fk fa fc ft ff_19 fb fi]) := hD
        refine lv_aload_n hx hb dX12_turnsBy_152 rfl (lv_at hl 1 rfl) ?_
        refine lv_aload_n hx hb dX12_turnsBy_153 rfl (lv_at hl 1 rfl) ?_
        refine va_get (D := g.1) (ci := 10) (v := .ref (a 0)) (C := RX12) (T := TX12) (N := 20) hx hb hts izRX12 hown hK hP 0 rfl rfl 1 (by decide) (hts _ k815) (fun _ h9 => h9) rfl dX12_turnsBy_154 ?_
        refine lv_iconst (v := 2) hx hb dX12_turnsBy_157 (by decide) ?_
        refine va_iald hx hb hK hP 1 0 rfl rfl (zin rfl) dX12_turnsBy_158 ?_
        refine zgq (r := fm 2) rfl (rM2 rfm) (fun x_56 hx_56 => ?_)
        refine va_put (D := g.1) (ci := 10) (v := .int x_56) (ty := .int) (C := RX12) (T := TX12) (N := 20) hx hb hts izRX12 tyX12 tyX12_ok nmX12 hown hK hP hD hS 0 rfl rfl 10 (by decide) (hts _ k878) (fun _ h9 => h9) rfl (by decide +kernel) rfl rfl (Nat.le_of_ble_eq_true rfl) dX12_turnsBy_159 (fun H locs hP hD hS => ?_)
        have hP : va_P g.1 vwCl (List.flatten [bMo g o a th hi ac tp 379 x_56 tA (-1) de 1 1 0 fm fk fa fc ft ff_19 fb fi]) H := hP
        have hD : va_D A (List.flatten [bMo g o a th hi ac tp 379 x_56 tA (-1) de 1 1 0 fm fk fa fc ft ff_19 fb fi]) := hD
        refine lv_aload_n hx hb dX12_turnsBy_162 rfl (lv_at hl 1 rfl) ?_
        refine lv_iconst (v := 0) hx hb dX12_turnsBy_163 (by decide) ?_
        refine va_put (D := g.1) (ci := 10) (v := .int 0) (ty := .int) (C := RX12) (T := TX12) (N := 20) hx hb hts izRX12 tyX12 tyX12_ok nmX12 hown hK hP hD hS 0 rfl rfl 11 (by decide) (hts _ k877) (fun _ h9 => h9) rfl (by decide +kernel) rfl rfl (Nat.le_of_ble_eq_true rfl) dX12_turnsBy_164 (fun H locs hP hD hS => ?_)
        have hP : va_P g.1 vwCl (List.flatten [bMo g o a th hi ac tp 379 x_56 0 (-1) de 1 1 0 fm fk fa fc ft ff_19 fb fi]) H := hP
        have hD : va_D A (List.flatten [bMo g o a th hi ac tp 379 x_56 0 (-1) de 1 1 0 fm fk fa fc ft ff_19 fb fi]) := hD
        refine lv_aload_n hx hb dX12_turnsBy_167 rfl (lv_at hl 1 rfl) ?_
        refine lv_iconst (v := 0) hx hb dX12_turnsBy_168 (by decide) ?_
        refine va_put (D := g.1) (ci := 10) (v := .int 0) (ty := .int) (C := RX12) (T := TX12) (N := 20) hx hb hts izRX12 tyX12 tyX12_ok nmX12 hown hK hP hD hS 0 rfl rfl 13 (by decide) (hts _ k932) (fun _ h9 => h9) rfl (by decide +kernel) rfl rfl (Nat.le_of_ble_eq_true rfl) dX12_turnsBy_169 (fun H locs hP hD hS => ?_)
        have hP : va_P g.1 vwCl (List.flatten [bMo g o a th hi ac tp 379 x_56 0 (-1) 0 1 1 0 fm fk fa fc ft ff_19 fb fi]) H := hP
        have hD : va_D A (List.flatten [bMo g o a th hi ac tp 379 x_56 0 (-1) 0 1 1 0 fm fk fa fc ft ff_19 fb fi]) := hD
        refine lv_aload_n hx hb dX12_turnsBy_172 rfl (lv_at hl 1 rfl) ?_
        refine lv_iconst (v := 1) hx hb dX12_turnsBy_173 (by decide) ?_
        have hL1 : (1 : Int32).toInt = 1 := by decide
        have hL379 : (379 : Int32).toInt = 379 := by decide
        refine mcallV' (g := g) (q0 := 0) (ci := 10) (As := [.int 1]) (rest := []) St hK hT hA hP hD hS hl.1 [0] [] rfl rfl rfl (m_readT l g o a th hi ac tp 379 x_56 0 (-1) 1 1 0 fm fk fa fc ft ff_19 fb fi (by decide) (by decide) (by first | assumption | omega | decide | exact Or.inl (by decide) | exact Or.inr (by decide)) (⟨hx_56.1, hx_56.2.1⟩) (by first | assumption | omega | decide | exact Or.inl (by decide) | exact Or.inr (by decide)) (by first | assumption | omega | decide | exact Or.inl (by decide) | exact Or.inr (by decide)) (by first | assumption | omega | decide | exact Or.inl (by decide) | exact Or.inr (by decide))) (cwV 1 hts (zgL (zl4 k980 k981 k982 k837) k970) rfl rfl rfl (by decide +kernel) ⟨Nat.le_of_ble_eq_true rfl, Nat.le_of_ble_eq_true rfl⟩) rfl rfl rfl rfl (Nat.le_of_ble_eq_true rfl) dX12_turnsBy_174 ⟨(Nat.le_of_ble_eq_true rfl), (Nat.le_of_ble_eq_true rfl)⟩ (fun u_ H locs hq61 hP hD hS => ?_)
        obtain ⟨at2_57, fl2_58, tU2_59, q_60⟩ := u_
        replace hq61 : (0 ≤ at2_57.toInt ∧ at2_57.toInt ≤ x_56.toInt + 7 - 0) ∧ ((0 : Int32).toInt ≤ at2_57.toInt) ∧ (-1 ≤ fl2_58.toInt) := hq61
        have hP : va_P g.1 vwCl (List.flatten [bMo g o a th hi ac tp 379 x_56 at2_57 fl2_58 0 1 1 tU2_59 fm fk fa fc ft ff_19 fb fi]) H := hP
        have hD : va_D A (List.flatten [bMo g o a th hi ac tp 379 x_56 at2_57 fl2_58 0 1 1 tU2_59 fm fk fa fc ft ff_19 fb fi]) := hD
        refine W.widen (k := 0) (n := 0) (Nat.le_of_ble_eq_true rfl) (Nat.le_of_ble_eq_true rfl) ?_
        refine W.eq (g2 := F0 m 177 ls [.int q_60]) rfl ?_
        obtain ⟨hq61_0, hq61_1, hq61_2⟩ := hq61
        refine lv_istore_n (lv' := [(3, .int q_60), (2, .int fl), (0, .ref o), (1, .int x)]) hx hb dX12_turnsBy_177 rfl hl (by decide) rfl (fun ls hl => ?_)
        refine lv_aload_n hx hb dX12_turnsBy_178 rfl (lv_at hl 2 rfl) ?_
        refine lv_iload_n hx hb dX12_turnsBy_179 rfl (lv_at hl 1 rfl) ?_
        refine va_put (D := g.1) (ci := 10) (v := .int fl) (ty := .int) (C := RX12) (T := TX12) (N := 20) hx hb hts izRX12 tyX12 tyX12_ok nmX12 hown hK hP hD hS 0 rfl rfl 12 (by decide) (hts _ k820) (fun _ h9 => h9) rfl (by decide +kernel) rfl rfl (Nat.le_of_ble_eq_true rfl) dX12_turnsBy_180 (fun H locs hP hD hS => ?_)
        have hP : va_P g.1 vwCl (List.flatten [bMo g o a th hi ac tp 379 x_56 at2_57 fl 0 1 1 tU2_59 fm fk fa fc ft ff_19 fb fi]) H := hP
        have hD : va_D A (List.flatten [bMo g o a th hi ac tp 379 x_56 at2_57 fl 0 1 1 tU2_59 fm fk fa fc ft ff_19 fb fi]) := hD
        refine lv_aload_n hx hb dX12_turnsBy_183 rfl (lv_at hl 2 rfl) ?_
        refine va_get (D := g.1) (ci := 10) (v := .int tU2_59) (C := RX12) (T := TX12) (N := 20) hx hb hts izRX12 hown hK hP 0 rfl rfl 17 (by decide) (hts _ k962) (fun _ h9 => h9) rfl dX12_turnsBy_184 ?_
        have hP : va_P g.1 vwCl (List.flatten [bMo g o a th hi ac tp 379 x_56 at2_57 fl 0 1 1 tU2_59 fm fk fa fc ft ff_19 fb fi]) H := hP
        have hD : va_D A (List.flatten [bMo g o a th hi ac tp 379 x_56 at2_57 fl 0 1 1 tU2_59 fm fk fa fc ft ff_19 fb fi]) := hD
        exact mret_i hx hb hr hlocks hS (Nat.le_of_ble_eq_true rfl) (Nat.le_of_ble_eq_true rfl) dX12_turnsBy_187 ((379 : Int32), x_56, at2_57, (0 : Int32), (1 : Int32), (1 : Int32), tU2_59, ff_19, tU2_59) rfl (show (0 ≤ (1 : Int32).toInt ∧ (1 : Int32).toInt ≤ 1) ∧ (0 ≤ (1 : Int32).toInt ∧ (1 : Int32).toInt ≤ 1) from ⟨(by first | assumption | omega | decide | exact rfl | exact zb01 (by omega) | exact Or.inl (by decide) | exact Or.inr (by first | omega | decide)), (by first | assumption | omega | decide | exact rfl | exact zb01 (by omega) | exact Or.inl (by decide) | exact Or.inr (by first | omega | decide))⟩) hP hD
  · skip
    have c62 : x_1.toInt = (-1) := zeq cb9 rfl (by decide)
    have n63 : (-1) ≤ x_1.toInt := Int.le_trans (Int.le_refl _) (Int.le_of_eq c62.symm)
    have n64 : x_1.toInt ≤ (-1) := Int.le_trans (Int.le_of_eq c62) (Int.le_refl _)
    refine lv_aload_n hx hb dX12_turnsBy_10 rfl (lv_at hl 0 rfl) ?_
    refine lv_iload_n hx hb dX12_turnsBy_11 rfl (lv_at hl 1 rfl) ?_
    refine lv_iconst (v := 3) hx hb dX12_turnsBy_12 (by decide) ?_
    have hL3 : (3 : Int32).toInt = 3 := by decide
    refine mcallV' (g := g) (q0 := 0) (ci := 10) (As := [.int x, .int 3]) (rest := []) St hK hT hA hP hD hS hl.1 [0] [] rfl rfl rfl (m_of l g o a th hi ac tp ba en tA fl de iD iO tU fm fk fa fc ft ff fb fi x 3 (⟨b_x.1, b_x.2⟩) (by decide)) (cwV 2 hts (zgL (zl4 k840 k841 k842 k837) k829) rfl rfl rfl (by decide +kernel) ⟨Nat.le_of_ble_eq_true rfl, Nat.le_of_ble_eq_true rfl⟩) rfl rfl rfl rfl (Nat.le_of_ble_eq_true rfl) dX12_turnsBy_13 ⟨(Nat.le_of_ble_eq_true rfl), (Nat.le_of_ble_eq_true rfl)⟩ (fun q_65 H locs hq66 hP hD hS => ?_)
    have hP : va_P g.1 vwCl (List.flatten [bMo g o a th hi ac tp ba en tA fl de iD iO tU fm fk fa fc ft ff fb fi]) H := hP
    have hD : va_D A (List.flatten [bMo g o a th hi ac tp ba en tA fl de iD iO tU fm fk fa fc ft ff fb fi]) := hD
    refine W.widen (k := 0) (n := 0) (Nat.le_of_ble_eq_true rfl) (Nat.le_of_ble_eq_true rfl) ?_
    refine W.eq (g2 := F0 m 16 ls [.int q_65]) rfl ?_
    refine lv_iconst (v := 1) hx hb dX12_turnsBy_16 (by decide) ?_
    refine lv_icmp_ne (tgt := 24) hx hb dX12_turnsBy_17 (by decide) (fun cb9 => ?_) (fun cb9 => ?_)
    · skip
      have c67 : ¬ q_65.toInt = 1 := zne cb9 rfl (by decide)
      refine lv_iconst (v := 0) hx hb dX12_turnsBy_24 (by decide) ?_
      have hP : va_P g.1 vwCl (List.flatten [bMo g o a th hi ac tp ba en tA fl de iD iO tU fm fk fa fc ft ff fb fi]) H := hP
      have hD : va_D A (List.flatten [bMo g o a th hi ac tp ba en tA fl de iD iO tU fm fk fa fc ft ff fb fi]) := hD
      exact mret_i hx hb hr hlocks hS (Nat.le_of_ble_eq_true rfl) (Nat.le_of_ble_eq_true rfl) dX12_turnsBy_25 (ba, en, tA, de, iD, iO, tU, ff, (0 : Int32)) rfl (show (0 ≤ iO.toInt ∧ iO.toInt ≤ 1) ∧ (0 ≤ iD.toInt ∧ iD.toInt ≤ 1) from ⟨(by first | assumption | omega | decide | exact rfl | exact zb01 (by omega) | exact Or.inl (by decide) | exact Or.inr (by first | omega | decide)), (by first | assumption | omega | decide | exact rfl | exact zb01 (by omega) | exact Or.inl (by decide) | exact Or.inr (by first | omega | decide))⟩) hP hD
    · skip
      have c68 : q_65.toInt = 1 := zeq cb9 rfl (by decide)
      have n69 : 1 ≤ q_65.toInt := Int.le_trans (Int.le_refl _) (Int.le_of_eq c68.symm)
      have n70 : q_65.toInt ≤ 1 := Int.le_trans (Int.le_of_eq c68) (Int.le_refl _)
      refine lv_iconst (v := (-1)) hx hb dX12_turnsBy_20 (by decide) ?_
      refine lv_goto (tgt := 25) hx hb dX12_turnsBy_21 (by decide) ?_
      have hP : va_P g.1 vwCl (List.flatten [bMo g o a th hi ac tp ba en tA fl de iD iO tU fm fk fa fc ft ff fb fi]) H := hP
      have hD : va_D A (List.flatten [bMo g o a th hi ac tp ba en tA fl de iD iO tU fm fk fa fc ft ff fb fi]) := hD
      exact mret_i hx hb hr hlocks hS (Nat.le_of_ble_eq_true rfl) (Nat.le_of_ble_eq_true rfl) dX12_turnsBy_25 (ba, en, tA, de, iD, iO, tU, ff, -1) rfl (show (0 ≤ iO.toInt ∧ iO.toInt ≤ 1) ∧ (0 ≤ iD.toInt ∧ iD.toInt ≤ 1) from ⟨(by first | assumption | omega | decide | exact rfl | exact zb01 (by omega) | exact Or.inl (by decide) | exact Or.inr (by first | omega | decide)), (by first | assumption | omega | decide | exact rfl | exact zb01 (by omega) | exact Or.inl (by decide) | exact Or.inr (by first | omega | decide))⟩) hP hD
