set_option maxRecDepth 100000 in
set_option maxHeartbeats 4000000 in
theorem m_person (l : Launch) (g : zG) (o : Nat) (a : Nat → Nat) (th : Int32) (hi : Int32) (ac : Int32) (tp : Int32) (ba : Int32) (en : Int32) (tA : Int32) (fl : Int32) (de : Int32) (iD : Int32) (iO : Int32) (tU : Int32) (fm : Nat → Int32) (fk : Nat → Int32) (fa : Nat → Int32) (fc : Nat → Int32) (ft : Nat → Int32) (ff : Nat → Int32) (fb : Nat → Int32) (fi : Nat → Int32) (x : Int32) (what : Int32) (rfm : rM fm) (hiD : 0 ≤ iD.toInt ∧ iD.toInt ≤ 1) (hiO : 0 ≤ iO.toInt ∧ iO.toInt ≤ 1) : zM' g l yX12_person (Cond.code yX12_person cX12_person 3 (some .int) :: zB) ({ frames := 32, cells := 0, slots := 0, locals := 711 } : Room) [.ref o, .int x, .int what] [bMo g o a th hi ac tp ba en tA fl de iD iO tU fm fk fa fc ft ff fb fi] (fun u : Int32 × Int32 × Int32 × Int32 × Int32 × Int32 × Int32 × Int32 × (Nat → Int32) × Int32 => (fun (th2 : Int32) (ba2 : Int32) (en2 : Int32) (at2 : Int32) (de2 : Int32) (iD2 : Int32) (iO2 : Int32) (tU2 : Int32) (ff2 : Nat → Int32) (q : Int32) => some (.int q)) (u.1) (u.2.1) (u.2.2.1) (u.2.2.2.1) (u.2.2.2.2.1) (u.2.2.2.2.2.1) (u.2.2.2.2.2.2.1) (u.2.2.2.2.2.2.2.1) (u.2.2.2.2.2.2.2.2.1) (u.2.2.2.2.2.2.2.2.2)) (fun u : Int32 × Int32 × Int32 × Int32 × Int32 × Int32 × Int32 × Int32 × (Nat → Int32) × Int32 => (fun (th2 : Int32) (ba2 : Int32) (en2 : Int32) (at2 : Int32) (de2 : Int32) (iD2 : Int32) (iO2 : Int32) (tU2 : Int32) (ff2 : Nat → Int32) (q : Int32) => (0 ≤ iO2.toInt ∧ iO2.toInt ≤ 1) ∧ (0 ≤ iD2.toInt ∧ iD2.toInt ≤ 1)) (u.1) (u.2.1) (u.2.2.1) (u.2.2.2.1) (u.2.2.2.2.1) (u.2.2.2.2.2.1) (u.2.2.2.2.2.2.1) (u.2.2.2.2.2.2.2.1) (u.2.2.2.2.2.2.2.2.1) (u.2.2.2.2.2.2.2.2.2)) (fun u : Int32 × Int32 × Int32 × Int32 × Int32 × Int32 × Int32 × Int32 × (Nat → Int32) × Int32 => (fun (th2 : Int32) (ba2 : Int32) (en2 : Int32) (at2 : Int32) (de2 : Int32) (iD2 : Int32) (iO2 : Int32) (tU2 : Int32) (ff2 : Nat → Int32) (q : Int32) => [bMo g o a th2 hi ac tp ba2 en2 at2 fl de2 iD2 iO2 tU2 fm fk fa fc ft ff2 fb fi]) (u.1) (u.2.1) (u.2.2.1) (u.2.2.2.1) (u.2.2.2.2.1) (u.2.2.2.2.2.1) (u.2.2.2.2.2.2.1) (u.2.2.2.2.2.2.2.1) (u.2.2.2.2.2.2.2.2.1) (u.2.2.2.2.2.2.2.2.2)) := by
  refine zM'.of (cc := cX12_person) (maxL := 3) (rt := (some .int)) (by decide) rfl (Nat.le_of_ble_eq_true rfl) ?_
  intro p e s m args below meth c A ls St hr hlocks hin hK hT hA hP hD hS hl
  obtain ⟨hx, hb, hml, hown, hts⟩ := id St
  have hl : lv_has ls 3 [(0, .ref o), (1, .int x), (2, .int what)] := hl
  refine lv_aload_n hx hb dX12_person_0 rfl (lv_at hl 0 rfl) ?_
  refine lv_aload_n hx hb dX12_person_1 rfl (lv_at hl 0 rfl) ?_
  refine lv_iload_n hx hb dX12_person_2 rfl (lv_at hl 1 rfl) ?_
  refine mcallV' (g := g) (q0 := 0) (ci := 10) (As := [.int x]) (rest := [.ref o]) St hK hT hA hP hD hS hl.1 [0] [] rfl rfl rfl (m_isPerson l g o a th hi ac tp ba en tA fl de iD iO tU fm fk fa fc ft ff fb fi x rfm) (cwV 1 hts (zgL (zl4 k1032 k1033 k1034 k837) k834) rfl rfl rfl (by decide +kernel) ⟨Nat.le_of_ble_eq_true rfl, Nat.le_of_ble_eq_true rfl⟩) rfl rfl rfl rfl (Nat.le_of_ble_eq_true rfl) dX12_person_3 ⟨(Nat.le_of_ble_eq_true rfl), (Nat.le_of_ble_eq_true rfl)⟩ (fun q_1 H locs hq2 hP hD hS => ?_)
  replace hq2 : (q_1 = 1 ∧ 0 ≤ x.toInt ∧ x.toInt ≤ 7 ∧ x.toInt < (fm 3).toInt ∨ q_1 = 0) := hq2
  have hP : va_P g.1 vwCl (List.flatten [bMo g o a th hi ac tp ba en tA fl de iD iO tU fm fk fa fc ft ff fb fi]) H := hP
  have hD : va_D A (List.flatten [bMo g o a th hi ac tp ba en tA fl de iD iO tU fm fk fa fc ft ff fb fi]) := hD
  refine W.widen (k := 0) (n := 0) (Nat.le_of_ble_eq_true rfl) (Nat.le_of_ble_eq_true rfl) ?_
  refine W.eq (g2 := F0 m 6 ls [.int q_1, .ref o]) rfl ?_
  rcases hq2 with ⟨rfl, hq2_k⟩ | rfl
  · skip
    refine lv_if_ne (tgt := 13) hx hb dX12_person_6 (by decide) (fun _ => ?_) (fun c3 => absurd c3 (by decide))
    refine lv_iload_n hx hb dX12_person_13 rfl (lv_at hl 2 rfl) ?_
    refine lv_iconst (v := 0) hx hb dX12_person_14 (by decide) ?_
    refine lv_bipush (v := 8) hx hb dX12_person_15 (by decide) ?_
    have hL0 : (0 : Int32).toInt = 0 := by decide
    have hL8 : (8 : Int32).toInt = 8 := by decide
    refine mcallS' (g := g) (As := [.int what, .int 0, .int 8]) (rest := [.ref o]) St hK hT hA hP hD hS hl.1 [] [0] rfl rfl rfl (m_isIn l g what 0 8 ) (va_cwS 3 hts (zgL (zl3 k835 k836 k837) k824) rfl rfl rfl (by decide +kernel) ⟨Nat.le_of_ble_eq_true rfl, Nat.le_of_ble_eq_true rfl⟩) rfl rfl (Nat.le_of_ble_eq_true rfl) dX12_person_17 ⟨(Nat.le_of_ble_eq_true rfl), (Nat.le_of_ble_eq_true rfl)⟩ (fun q_4 H locs hq5 hP hD hS => ?_)
    replace hq5 : (q_4 = 1 ∧ (0 : Int32).toInt ≤ what.toInt ∧ what.toInt ≤ (8 : Int32).toInt ∨ q_4 = 0 ∧ (what.toInt < (0 : Int32).toInt ∨ (8 : Int32).toInt < what.toInt)) := hq5
    have hP : va_P g.1 vwCl (List.flatten [bMo g o a th hi ac tp ba en tA fl de iD iO tU fm fk fa fc ft ff fb fi]) H := hP
    have hD : va_D A (List.flatten [bMo g o a th hi ac tp ba en tA fl de iD iO tU fm fk fa fc ft ff fb fi]) := hD
    refine W.widen (k := 0) (n := 0) (Nat.le_of_ble_eq_true rfl) (Nat.le_of_ble_eq_true rfl) ?_
    refine W.eq (g2 := F0 m 20 ls [.int q_4, .ref o]) rfl ?_
    rcases hq5 with ⟨rfl, hq5_k⟩ | ⟨rfl, hq5_k⟩
    · skip
      refine lv_if_ne (tgt := 27) hx hb dX12_person_20 (by decide) (fun _ => ?_) (fun c6 => absurd c6 (by decide))
      refine lv_iconst (v := 0) hx hb dX12_person_27 (by decide) ?_
      refine va_put (D := g.1) (ci := 10) (v := .int 0) (ty := .int) (C := RX12) (T := TX12) (N := 20) hx hb hts izRX12 tyX12 tyX12_ok nmX12 hown hK hP hD hS 0 rfl rfl 0 (by decide) (hts _ k871) (fun _ h9 => h9) rfl (by decide +kernel) rfl rfl (Nat.le_of_ble_eq_true rfl) dX12_person_28 (fun H locs hP hD hS => ?_)
      have hP : va_P g.1 vwCl (List.flatten [bMo g o a 0 hi ac tp ba en tA fl de iD iO tU fm fk fa fc ft ff fb fi]) H := hP
      have hD : va_D A (List.flatten [bMo g o a 0 hi ac tp ba en tA fl de iD iO tU fm fk fa fc ft ff fb fi]) := hD
      refine lv_aload_n hx hb dX12_person_31 rfl (lv_at hl 0 rfl) ?_
      refine va_get (D := g.1) (ci := 10) (v := .int 0) (C := RX12) (T := TX12) (N := 20) hx hb hts izRX12 hown hK hP 0 rfl rfl 0 (by decide) (hts _ k871) (fun _ h9 => h9) rfl dX12_person_32 ?_
      refine lv_if_le (tgt := 40) hx hb dX12_person_35 (by decide) (fun _ => ?_) (fun c7 => absurd (by decide) c7)
      refine lv_iload_n hx hb dX12_person_40 rfl (lv_at hl 2 rfl) ?_
      refine lv_iconst (v := 5) hx hb dX12_person_41 (by decide) ?_
      refine lv_icmp_ge (tgt := 52) hx hb dX12_person_42 (by decide) (fun cb9 => ?_) (fun cb9 => ?_)
      · skip
        have c8 : 5 ≤ what.toInt := zle cb9 (by decide) rfl
        have n9 : 5 ≤ what.toInt := Int.le_trans (Int.le_refl _) c8
        refine lv_iload_n hx hb dX12_person_52 rfl (lv_at hl 2 rfl) ?_
        refine lv_iconst (v := 5) hx hb dX12_person_53 (by decide) ?_
        refine lv_icmp_ne (tgt := 63) hx hb dX12_person_54 (by decide) (fun cb9 => ?_) (fun cb9 => ?_)
        · skip
          have c10 : ¬ what.toInt = 5 := zne cb9 rfl (by decide)
          have n11 : 6 ≤ what.toInt := zN1 c10 n9 (by decide)
          refine lv_iload_n hx hb dX12_person_63 rfl (lv_at hl 2 rfl) ?_
          refine lv_bipush (v := 6) hx hb dX12_person_64 (by decide) ?_
          refine lv_icmp_ne (tgt := 75) hx hb dX12_person_66 (by decide) (fun cb9 => ?_) (fun cb9 => ?_)
          · skip
            have c12 : ¬ what.toInt = 6 := zne cb9 rfl (by decide)
            have n13 : 7 ≤ what.toInt := zN1 c12 n11 (by decide)
            refine lv_iload_n hx hb dX12_person_75 rfl (lv_at hl 2 rfl) ?_
            refine lv_bipush (v := 7) hx hb dX12_person_76 (by decide) ?_
            refine lv_icmp_ne (tgt := 87) hx hb dX12_person_78 (by decide) (fun cb9 => ?_) (fun cb9 => ?_)
            · skip
              have c14 : ¬ what.toInt = 7 := zne cb9 rfl (by decide)
              have n15 : 8 ≤ what.toInt := zN1 c14 n13 (by decide)
              refine lv_aload_n hx hb dX12_person_87 rfl (lv_at hl 0 rfl) ?_
              refine lv_iload_n hx hb dX12_person_88 rfl (lv_at hl 1 rfl) ?_
              refine mcallV' (g := g) (q0 := 0) (ci := 10) (As := [.int x]) (rest := []) St hK hT hA hP hD hS hl.1 [0] [] rfl rfl rfl (m_isHere l g o a 0 hi ac tp ba en tA fl de iD iO tU fm fk fa fc ft ff fb fi x (by first | assumption | omega | decide | exact Or.inl (by decide) | exact Or.inr (by decide))) (cwV 1 hts (zgL (zl4 k844 k845 k846 k837) k839) rfl rfl rfl (by decide +kernel) ⟨Nat.le_of_ble_eq_true rfl, Nat.le_of_ble_eq_true rfl⟩) rfl rfl rfl rfl (Nat.le_of_ble_eq_true rfl) dX12_person_89 ⟨(Nat.le_of_ble_eq_true rfl), (Nat.le_of_ble_eq_true rfl)⟩ (fun q_16 H locs hq17 hP hD hS => ?_)
              replace hq17 : (q_16 = 0 ∨ q_16 = 1) := hq17
              have hP : va_P g.1 vwCl (List.flatten [bMo g o a 0 hi ac tp ba en tA fl de iD iO tU fm fk fa fc ft ff fb fi]) H := hP
              have hD : va_D A (List.flatten [bMo g o a 0 hi ac tp ba en tA fl de iD iO tU fm fk fa fc ft ff fb fi]) := hD
              refine W.widen (k := 0) (n := 0) (Nat.le_of_ble_eq_true rfl) (Nat.le_of_ble_eq_true rfl) ?_
              refine W.eq (g2 := F0 m 92 ls [.int q_16]) rfl ?_
              rcases hq17 with rfl | rfl
              · skip
                refine lv_if_eq (tgt := 102) hx hb dX12_person_92 (by decide) (fun _ => ?_) (fun c18 => absurd (by decide) c18)
                refine lv_iconst (v := 0) hx hb dX12_person_102 (by decide) ?_
                refine lv_goto (tgt := 120) hx hb dX12_person_103 (by decide) ?_
                have hP : va_P g.1 vwCl (List.flatten [bMo g o a 0 hi ac tp ba en tA fl de iD iO tU fm fk fa fc ft ff fb fi]) H := hP
                have hD : va_D A (List.flatten [bMo g o a 0 hi ac tp ba en tA fl de iD iO tU fm fk fa fc ft ff fb fi]) := hD
                exact mret_i hx hb hr hlocks hS (Nat.le_of_ble_eq_true rfl) (Nat.le_of_ble_eq_true rfl) dX12_person_120 ((0 : Int32), ba, en, tA, de, iD, iO, tU, ff, (0 : Int32)) rfl (show (0 ≤ iO.toInt ∧ iO.toInt ≤ 1) ∧ (0 ≤ iD.toInt ∧ iD.toInt ≤ 1) from ⟨hiO, hiD⟩) hP hD
              · skip
                refine lv_if_eq (tgt := 102) hx hb dX12_person_92 (by decide) (fun c19 => absurd c19 (by decide)) (fun _ => ?_)
                refine lv_aload_n hx hb dX12_person_95 rfl (lv_at hl 0 rfl) ?_
                refine mcallV' (g := g) (q0 := 0) (ci := 10) (As := []) (rest := []) St hK hT hA hP hD hS hl.1 [0] [] rfl rfl rfl (m_believedF l g o a 0 hi ac tp ba en tA fl de iD iO tU fm fk fa fc ft ff fb fi rfm) (cwV 0 hts (zgL (zl4 k854 k855 k856 k837) k847) rfl rfl rfl (by decide +kernel) ⟨Nat.le_of_ble_eq_true rfl, Nat.le_of_ble_eq_true rfl⟩) rfl rfl rfl rfl (Nat.le_of_ble_eq_true rfl) dX12_person_96 ⟨(Nat.le_of_ble_eq_true rfl), (Nat.le_of_ble_eq_true rfl)⟩ (fun _u H locs hq20 hP hD hS => ?_)
                have hP : va_P g.1 vwCl (List.flatten [bMo g o a 0 hi ac tp ba en tA fl de iD iO tU fm fk fa fc ft ff fb fi]) H := hP
                have hD : va_D A (List.flatten [bMo g o a 0 hi ac tp ba en tA fl de iD iO tU fm fk fa fc ft ff fb fi]) := hD
                refine W.widen (k := 0) (n := 0) (Nat.le_of_ble_eq_true rfl) (Nat.le_of_ble_eq_true rfl) ?_
                refine W.eq (g2 := F0 m 99 ls [.int (zbel fm (fm 3).toInt.toNat)]) rfl ?_
                refine lv_if_ne (tgt := 106) hx hb dX12_person_99 (by decide) (fun cb9 => ?_) (fun cb9 => ?_)
                · skip
                  have c21 : ¬ (zbel fm (fm 3).toInt.toNat).toInt = 0 := zne cb9 rfl (by decide)
                  refine lv_bipush (v := 100) hx hb dX12_person_106 (by decide) ?_
                  refine lv_aload_n hx hb dX12_person_108 rfl (lv_at hl 0 rfl) ?_
                  refine lv_iload_n hx hb dX12_person_109 rfl (lv_at hl 1 rfl) ?_
                  refine lv_iconst (v := 0) hx hb dX12_person_110 (by decide) ?_
                  refine mcallV' (g := g) (q0 := 0) (ci := 10) (As := [.int x, .int 0]) (rest := [.int 100]) St hK hT hA hP hD hS hl.1 [0] [] rfl rfl rfl (m_of l g o a 0 hi ac tp ba en tA fl de iD iO tU fm fk fa fc ft ff fb fi x 0 (by first | assumption | omega | decide | exact Or.inl (by decide) | exact Or.inr (by decide)) (by decide)) (cwV 2 hts (zgL (zl4 k840 k841 k842 k837) k829) rfl rfl rfl (by decide +kernel) ⟨Nat.le_of_ble_eq_true rfl, Nat.le_of_ble_eq_true rfl⟩) rfl rfl rfl rfl (Nat.le_of_ble_eq_true rfl) dX12_person_111 ⟨(Nat.le_of_ble_eq_true rfl), (Nat.le_of_ble_eq_true rfl)⟩ (fun q_22 H locs hq23 hP hD hS => ?_)
                  have hP : va_P g.1 vwCl (List.flatten [bMo g o a 0 hi ac tp ba en tA fl de iD iO tU fm fk fa fc ft ff fb fi]) H := hP
                  have hD : va_D A (List.flatten [bMo g o a 0 hi ac tp ba en tA fl de iD iO tU fm fk fa fc ft ff fb fi]) := hD
                  refine W.widen (k := 0) (n := 0) (Nat.le_of_ble_eq_true rfl) (Nat.le_of_ble_eq_true rfl) ?_
                  refine W.eq (g2 := F0 m 114 ls [.int q_22, .int 100]) rfl ?_
                  refine lv_imul hx hb dX12_person_114 ?_
                  refine zg (fun x_24 => ?_)
                  refine lv_aload_n hx hb dX12_person_115 rfl (lv_at hl 0 rfl) ?_
                  refine mcallV' (g := g) (q0 := 0) (ci := 10) (As := []) (rest := [.int x_24]) St hK hT hA hP hD hS hl.1 [0] [] rfl rfl rfl (m_believedF l g o a 0 hi ac tp ba en tA fl de iD iO tU fm fk fa fc ft ff fb fi rfm) (cwV 0 hts (zgL (zl4 k854 k855 k856 k837) k847) rfl rfl rfl (by decide +kernel) ⟨Nat.le_of_ble_eq_true rfl, Nat.le_of_ble_eq_true rfl⟩) rfl rfl rfl rfl (Nat.le_of_ble_eq_true rfl) dX12_person_116 ⟨(Nat.le_of_ble_eq_true rfl), (Nat.le_of_ble_eq_true rfl)⟩ (fun _u H locs hq25 hP hD hS => ?_)
                  have hP : va_P g.1 vwCl (List.flatten [bMo g o a 0 hi ac tp ba en tA fl de iD iO tU fm fk fa fc ft ff fb fi]) H := hP
                  have hD : va_D A (List.flatten [bMo g o a 0 hi ac tp ba en tA fl de iD iO tU fm fk fa fc ft ff fb fi]) := hD
                  refine W.widen (k := 0) (n := 0) (Nat.le_of_ble_eq_true rfl) (Nat.le_of_ble_eq_true rfl) ?_
                  refine W.eq (g2 := F0 m 119 ls [.int (zbel fm (fm 3).toInt.toNat), .int x_24]) rfl ?_
                  refine lv_idiv hx hb dX12_person_119 (zne0 (by omega)) ?_
                  refine zg (fun x_26 => ?_)
                  have hP : va_P g.1 vwCl (List.flatten [bMo g o a 0 hi ac tp ba en tA fl de iD iO tU fm fk fa fc ft ff fb fi]) H := hP
                  have hD : va_D A (List.flatten [bMo g o a 0 hi ac tp ba en tA fl de iD iO tU fm fk fa fc ft ff fb fi]) := hD
                  exact mret_i hx hb hr hlocks hS (Nat.le_of_ble_eq_true rfl) (Nat.le_of_ble_eq_true rfl) dX12_person_120 ((0 : Int32), ba, en, tA, de, iD, iO, tU, ff, x_26) rfl (show (0 ≤ iO.toInt ∧ iO.toInt ≤ 1) ∧ (0 ≤ iD.toInt ∧ iD.toInt ≤ 1) from ⟨hiO, hiD⟩) hP hD
                · skip
                  have c27 : (zbel fm (fm 3).toInt.toNat).toInt = 0 := zeq cb9 rfl (by decide)
                  have n28 : 0 ≤ (zbel fm (fm 3).toInt.toNat).toInt := Int.le_trans (Int.le_refl _) (Int.le_of_eq c27.symm)
                  have n29 : (zbel fm (fm 3).toInt.toNat).toInt ≤ 0 := Int.le_trans (Int.le_of_eq c27) (Int.le_refl _)
                  refine lv_iconst (v := 0) hx hb dX12_person_102 (by decide) ?_
                  refine lv_goto (tgt := 120) hx hb dX12_person_103 (by decide) ?_
                  have hP : va_P g.1 vwCl (List.flatten [bMo g o a 0 hi ac tp ba en tA fl de iD iO tU fm fk fa fc ft ff fb fi]) H := hP
                  have hD : va_D A (List.flatten [bMo g o a 0 hi ac tp ba en tA fl de iD iO tU fm fk fa fc ft ff fb fi]) := hD
                  exact mret_i hx hb hr hlocks hS (Nat.le_of_ble_eq_true rfl) (Nat.le_of_ble_eq_true rfl) dX12_person_120 ((0 : Int32), ba, en, tA, de, iD, iO, tU, ff, (0 : Int32)) rfl (show (0 ≤ iO.toInt ∧ iO.toInt ≤ 1) ∧ (0 ≤ iD.toInt ∧ iD.toInt ≤ 1) from ⟨hiO, hiD⟩) hP hD
            · skip
              have c30 : what.toInt = 7 := zeq cb9 rfl (by decide)
              have n31 : what.toInt ≤ 7 := Int.le_trans (Int.le_of_eq c30) (Int.le_refl _)
              refine lv_aload_n hx hb dX12_person_81 rfl (lv_at hl 0 rfl) ?_
              refine lv_iload_n hx hb dX12_person_82 rfl (lv_at hl 1 rfl) ?_
              refine mcallV' (g := g) (q0 := 0) (ci := 10) (As := [.int x]) (rest := []) St hK hT hA hP hD hS hl.1 [0] [] rfl rfl rfl (m_worth l g o a 0 hi ac tp ba en tA fl de iD iO tU fm fk fa fc ft ff fb fi x rfm (by first | assumption | omega | decide | exact Or.inl (by decide) | exact Or.inr (by decide))) (cwV 1 hts (zgL (zl4 k1035 k1036 k1037 k837) k1031) rfl rfl rfl (by decide +kernel) ⟨Nat.le_of_ble_eq_true rfl, Nat.le_of_ble_eq_true rfl⟩) rfl rfl rfl rfl (Nat.le_of_ble_eq_true rfl) dX12_person_83 ⟨(Nat.le_of_ble_eq_true rfl), (Nat.le_of_ble_eq_true rfl)⟩ (fun q_32 H locs hq33 hP hD hS => ?_)
              have hP : va_P g.1 vwCl (List.flatten [bMo g o a 0 hi ac tp ba en tA fl de iD iO tU fm fk fa fc ft ff fb fi]) H := hP
              have hD : va_D A (List.flatten [bMo g o a 0 hi ac tp ba en tA fl de iD iO tU fm fk fa fc ft ff fb fi]) := hD
              refine W.widen (k := 0) (n := 0) (Nat.le_of_ble_eq_true rfl) (Nat.le_of_ble_eq_true rfl) ?_
              refine W.eq (g2 := F0 m 86 ls [.int q_32]) rfl ?_
              have hP : va_P g.1 vwCl (List.flatten [bMo g o a 0 hi ac tp ba en tA fl de iD iO tU fm fk fa fc ft ff fb fi]) H := hP
              have hD : va_D A (List.flatten [bMo g o a 0 hi ac tp ba en tA fl de iD iO tU fm fk fa fc ft ff fb fi]) := hD
              exact mret_i hx hb hr hlocks hS (Nat.le_of_ble_eq_true rfl) (Nat.le_of_ble_eq_true rfl) dX12_person_86 ((0 : Int32), ba, en, tA, de, iD, iO, tU, ff, q_32) rfl (show (0 ≤ iO.toInt ∧ iO.toInt ≤ 1) ∧ (0 ≤ iD.toInt ∧ iD.toInt ≤ 1) from ⟨hiO, hiD⟩) hP hD
          · skip
            have c34 : what.toInt = 6 := zeq cb9 rfl (by decide)
            have n35 : what.toInt ≤ 6 := Int.le_trans (Int.le_of_eq c34) (Int.le_refl _)
            refine lv_aload_n hx hb dX12_person_69 rfl (lv_at hl 0 rfl) ?_
            refine lv_iload_n hx hb dX12_person_70 rfl (lv_at hl 1 rfl) ?_
            refine mcallV' (g := g) (q0 := 0) (ci := 10) (As := [.int x]) (rest := []) St hK hT hA hP hD hS hl.1 [0] [] rfl rfl rfl (m_turnsBy l g o a 0 hi ac tp ba en tA fl de iD iO tU fm fk fa fc ft ff fb fi x rfm hiD hiO (by first | assumption | omega | decide | exact Or.inl (by decide) | exact Or.inr (by decide))) (cwV 1 hts (zgL (zl4 k1018 k1019 k1020 k837) k995) rfl rfl rfl (by decide +kernel) ⟨Nat.le_of_ble_eq_true rfl, Nat.le_of_ble_eq_true rfl⟩) rfl rfl rfl rfl (Nat.le_of_ble_eq_true rfl) dX12_person_71 ⟨(Nat.le_of_ble_eq_true rfl), (Nat.le_of_ble_eq_true rfl)⟩ (fun u_ H locs hq45 hP hD hS => ?_)
            obtain ⟨ba2_36, en2_37, at2_38, de2_39, iD2_40, iO2_41, tU2_42, ff2_43, q_44⟩ := u_
            replace hq45 : (0 ≤ iO2_41.toInt ∧ iO2_41.toInt ≤ 1) ∧ (0 ≤ iD2_40.toInt ∧ iD2_40.toInt ≤ 1) := hq45
            have hP : va_P g.1 vwCl (List.flatten [bMo g o a 0 hi ac tp ba2_36 en2_37 at2_38 fl de2_39 iD2_40 iO2_41 tU2_42 fm fk fa fc ft ff2_43 fb fi]) H := hP
            have hD : va_D A (List.flatten [bMo g o a 0 hi ac tp ba2_36 en2_37 at2_38 fl de2_39 iD2_40 iO2_41 tU2_42 fm fk fa fc ft ff2_43 fb fi]) := hD
            refine W.widen (k := 0) (n := 0) (Nat.le_of_ble_eq_true rfl) (Nat.le_of_ble_eq_true rfl) ?_
            refine W.eq (g2 := F0 m 74 ls [.int q_44]) rfl ?_
            obtain ⟨hq45_0, hq45_1⟩ := hq45
            have hP : va_P g.1 vwCl (List.flatten [bMo g o a 0 hi ac tp ba2_36 en2_37 at2_38 fl de2_39 iD2_40 iO2_41 tU2_42 fm fk fa fc ft ff2_43 fb fi]) H := hP
            have hD : va_D A (List.flatten [bMo g o a 0 hi ac tp ba2_36 en2_37 at2_38 fl de2_39 iD2_40 iO2_41 tU2_42 fm fk fa fc ft ff2_43 fb fi]) := hD
            exact mret_i hx hb hr hlocks hS (Nat.le_of_ble_eq_true rfl) (Nat.le_of_ble_eq_true rfl) dX12_person_74 ((0 : Int32), ba2_36, en2_37, at2_38, de2_39, iD2_40, iO2_41, tU2_42, ff2_43, q_44) rfl (show (0 ≤ iO2_41.toInt ∧ iO2_41.toInt ≤ 1) ∧ (0 ≤ iD2_40.toInt ∧ iD2_40.toInt ≤ 1) from ⟨hq45_0, hq45_1⟩) hP hD
        · skip
          have c46 : what.toInt = 5 := zeq cb9 rfl (by decide)
          have n47 : what.toInt ≤ 5 := Int.le_trans (Int.le_of_eq c46) (Int.le_refl _)
          refine lv_aload_n hx hb dX12_person_57 rfl (lv_at hl 0 rfl) ?_
          refine lv_iload_n hx hb dX12_person_58 rfl (lv_at hl 1 rfl) ?_
          refine mcallV' (g := g) (q0 := 0) (ci := 10) (As := [.int x]) (rest := []) St hK hT hA hP hD hS hl.1 [0] [] rfl rfl rfl (m_pull l g o a 0 hi ac tp ba en tA fl de iD iO tU fm fk fa fc ft ff fb fi x rfm (by first | assumption | omega | decide | exact Or.inl (by decide) | exact Or.inr (by decide))) (cwV 1 hts (zgL (zl4 k1015 k1016 k1017 k837) k869) rfl rfl rfl (by decide +kernel) ⟨Nat.le_of_ble_eq_true rfl, Nat.le_of_ble_eq_true rfl⟩) rfl rfl rfl rfl (Nat.le_of_ble_eq_true rfl) dX12_person_59 ⟨(Nat.le_of_ble_eq_true rfl), (Nat.le_of_ble_eq_true rfl)⟩ (fun q_48 H locs hq49 hP hD hS => ?_)
          have hP : va_P g.1 vwCl (List.flatten [bMo g o a 0 hi ac tp ba en tA fl de iD iO tU fm fk fa fc ft ff fb fi]) H := hP
          have hD : va_D A (List.flatten [bMo g o a 0 hi ac tp ba en tA fl de iD iO tU fm fk fa fc ft ff fb fi]) := hD
          refine W.widen (k := 0) (n := 0) (Nat.le_of_ble_eq_true rfl) (Nat.le_of_ble_eq_true rfl) ?_
          refine W.eq (g2 := F0 m 62 ls [.int q_48]) rfl ?_
          have hP : va_P g.1 vwCl (List.flatten [bMo g o a 0 hi ac tp ba en tA fl de iD iO tU fm fk fa fc ft ff fb fi]) H := hP
          have hD : va_D A (List.flatten [bMo g o a 0 hi ac tp ba en tA fl de iD iO tU fm fk fa fc ft ff fb fi]) := hD
          exact mret_i hx hb hr hlocks hS (Nat.le_of_ble_eq_true rfl) (Nat.le_of_ble_eq_true rfl) dX12_person_62 ((0 : Int32), ba, en, tA, de, iD, iO, tU, ff, q_48) rfl (show (0 ≤ iO.toInt ∧ iO.toInt ≤ 1) ∧ (0 ≤ iD.toInt ∧ iD.toInt ≤ 1) from ⟨hiO, hiD⟩) hP hD
      · skip
        have c50 : what.toInt < 5 := zlti (Int32.not_le.mp cb9) rfl (by decide)
        have n51 : what.toInt ≤ 4 := zL1 (b := 5) c50 (Int.le_refl _) (by decide)
        refine lv_aload_n hx hb dX12_person_45 rfl (lv_at hl 0 rfl) ?_
        refine lv_iload_n hx hb dX12_person_46 rfl (lv_at hl 1 rfl) ?_
        refine lv_iload_n hx hb dX12_person_47 rfl (lv_at hl 2 rfl) ?_
        refine mcallV' (g := g) (q0 := 0) (ci := 10) (As := [.int x, .int what]) (rest := []) St hK hT hA hP hD hS hl.1 [0] [] rfl rfl rfl (m_of l g o a 0 hi ac tp ba en tA fl de iD iO tU fm fk fa fc ft ff fb fi x what (by first | assumption | omega | decide | exact Or.inl (by decide) | exact Or.inr (by decide)) (by first | assumption | omega | decide | exact Or.inl (by decide) | exact Or.inr (by decide))) (cwV 2 hts (zgL (zl4 k840 k841 k842 k837) k829) rfl rfl rfl (by decide +kernel) ⟨Nat.le_of_ble_eq_true rfl, Nat.le_of_ble_eq_true rfl⟩) rfl rfl rfl rfl (Nat.le_of_ble_eq_true rfl) dX12_person_48 ⟨(Nat.le_of_ble_eq_true rfl), (Nat.le_of_ble_eq_true rfl)⟩ (fun q_52 H locs hq53 hP hD hS => ?_)
        have hP : va_P g.1 vwCl (List.flatten [bMo g o a 0 hi ac tp ba en tA fl de iD iO tU fm fk fa fc ft ff fb fi]) H := hP
        have hD : va_D A (List.flatten [bMo g o a 0 hi ac tp ba en tA fl de iD iO tU fm fk fa fc ft ff fb fi]) := hD
        refine W.widen (k := 0) (n := 0) (Nat.le_of_ble_eq_true rfl) (Nat.le_of_ble_eq_true rfl) ?_
        refine W.eq (g2 := F0 m 51 ls [.int q_52]) rfl ?_
        have hP : va_P g.1 vwCl (List.flatten [bMo g o a 0 hi ac tp ba en tA fl de iD iO tU fm fk fa fc ft ff fb fi]) H := hP
        have hD : va_D A (List.flatten [bMo g o a 0 hi ac tp ba en tA fl de iD iO tU fm fk fa fc ft ff fb fi]) := hD
        exact mret_i hx hb hr hlocks hS (Nat.le_of_ble_eq_true rfl) (Nat.le_of_ble_eq_true rfl) dX12_person_51 ((0 : Int32), ba, en, tA, de, iD, iO, tU, ff, q_52) rfl (show (0 ≤ iO.toInt ∧ iO.toInt ≤ 1) ∧ (0 ≤ iD.toInt ∧ iD.toInt ≤ 1) from ⟨hiO, hiD⟩) hP hD
    · skip
      refine lv_if_ne (tgt := 27) hx hb dX12_person_20 (by decide) (fun c54 => absurd (by decide) c54) (fun _ => ?_)
      refine lv_iconst (v := 2) hx hb dX12_person_23 (by decide) ?_
      refine lv_goto (tgt := 28) hx hb dX12_person_24 (by decide) ?_
      refine va_put (D := g.1) (ci := 10) (v := .int 2) (ty := .int) (C := RX12) (T := TX12) (N := 20) hx hb hts izRX12 tyX12 tyX12_ok nmX12 hown hK hP hD hS 0 rfl rfl 0 (by decide) (hts _ k871) (fun _ h9 => h9) rfl (by decide +kernel) rfl rfl (Nat.le_of_ble_eq_true rfl) dX12_person_28 (fun H locs hP hD hS => ?_)
      have hP : va_P g.1 vwCl (List.flatten [bMo g o a 2 hi ac tp ba en tA fl de iD iO tU fm fk fa fc ft ff fb fi]) H := hP
      have hD : va_D A (List.flatten [bMo g o a 2 hi ac tp ba en tA fl de iD iO tU fm fk fa fc ft ff fb fi]) := hD
      refine lv_aload_n hx hb dX12_person_31 rfl (lv_at hl 0 rfl) ?_
      refine va_get (D := g.1) (ci := 10) (v := .int 2) (C := RX12) (T := TX12) (N := 20) hx hb hts izRX12 hown hK hP 0 rfl rfl 0 (by decide) (hts _ k871) (fun _ h9 => h9) rfl dX12_person_32 ?_
      refine lv_if_le (tgt := 40) hx hb dX12_person_35 (by decide) (fun c55 => absurd c55 (by decide)) (fun _ => ?_)
      refine lv_iconst (v := 0) hx hb dX12_person_38 (by decide) ?_
      have hP : va_P g.1 vwCl (List.flatten [bMo g o a 2 hi ac tp ba en tA fl de iD iO tU fm fk fa fc ft ff fb fi]) H := hP
      have hD : va_D A (List.flatten [bMo g o a 2 hi ac tp ba en tA fl de iD iO tU fm fk fa fc ft ff fb fi]) := hD
      exact mret_i hx hb hr hlocks hS (Nat.le_of_ble_eq_true rfl) (Nat.le_of_ble_eq_true rfl) dX12_person_39 ((2 : Int32), ba, en, tA, de, iD, iO, tU, ff, (0 : Int32)) rfl (show (0 ≤ iO.toInt ∧ iO.toInt ≤ 1) ∧ (0 ≤ iD.toInt ∧ iD.toInt ≤ 1) from ⟨hiO, hiD⟩) hP hD
  · skip
    refine lv_if_ne (tgt := 13) hx hb dX12_person_6 (by decide) (fun c56 => absurd (by decide) c56) (fun _ => ?_)
    refine lv_iconst (v := 1) hx hb dX12_person_9 (by decide) ?_
    refine lv_goto (tgt := 28) hx hb dX12_person_10 (by decide) ?_
    refine va_put (D := g.1) (ci := 10) (v := .int 1) (ty := .int) (C := RX12) (T := TX12) (N := 20) hx hb hts izRX12 tyX12 tyX12_ok nmX12 hown hK hP hD hS 0 rfl rfl 0 (by decide) (hts _ k871) (fun _ h9 => h9) rfl (by decide +kernel) rfl rfl (Nat.le_of_ble_eq_true rfl) dX12_person_28 (fun H locs hP hD hS => ?_)
    have hP : va_P g.1 vwCl (List.flatten [bMo g o a 1 hi ac tp ba en tA fl de iD iO tU fm fk fa fc ft ff fb fi]) H := hP
    have hD : va_D A (List.flatten [bMo g o a 1 hi ac tp ba en tA fl de iD iO tU fm fk fa fc ft ff fb fi]) := hD
    refine lv_aload_n hx hb dX12_person_31 rfl (lv_at hl 0 rfl) ?_
    refine va_get (D := g.1) (ci := 10) (v := .int 1) (C := RX12) (T := TX12) (N := 20) hx hb hts izRX12 hown hK hP 0 rfl rfl 0 (by decide) (hts _ k871) (fun _ h9 => h9) rfl dX12_person_32 ?_
    refine lv_if_le (tgt := 40) hx hb dX12_person_35 (by decide) (fun c57 => absurd c57 (by decide)) (fun _ => ?_)
    refine lv_iconst (v := 0) hx hb dX12_person_38 (by decide) ?_
    have hP : va_P g.1 vwCl (List.flatten [bMo g o a 1 hi ac tp ba en tA fl de iD iO tU fm fk fa fc ft ff fb fi]) H := hP
    have hD : va_D A (List.flatten [bMo g o a 1 hi ac tp ba en tA fl de iD iO tU fm fk fa fc ft ff fb fi]) := hD
    exact mret_i hx hb hr hlocks hS (Nat.le_of_ble_eq_true rfl) (Nat.le_of_ble_eq_true rfl) dX12_person_39 ((1 : Int32), ba, en, tA, de, iD, iO, tU, ff, (0 : Int32)) rfl (show (0 ≤ iO.toInt ∧ iO.toInt ≤ 1) ∧ (0 ≤ iD.toInt ∧ iD.toInt ≤ 1) from ⟨hiO, hiD⟩) hP hD
