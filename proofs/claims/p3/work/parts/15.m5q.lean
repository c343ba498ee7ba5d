set_option maxRecDepth 100000 in
set_option maxHeartbeats 4000000 in
theorem m_tie (l : Launch) (g : zG) (o : Nat) (a : Nat → Nat) (th : Int32) (hi : Int32) (ac : Int32) (tp : Int32) (ba : Int32) (en : Int32) (tA : Int32) (fl : Int32) (de : Int32) (iD : Int32) (iO : Int32) (tU : Int32) (fm : Nat → Int32) (fk : Nat → Int32) (fa : Nat → Int32) (fc : Nat → Int32) (ft : Nat → Int32) (ff : Nat → Int32) (fb : Nat → Int32) (fi : Nat → Int32) (x : Int32) (o2 : Int32) (n : Int32) (rfm : rM fm) (rfc : rC fc) (hac : 0 ≤ ac.toInt ∧ ac.toInt ≤ 12) : zM' g l yX12_tie (Cond.code yX12_tie cX12_tie 5 (some .int) :: zB) ({ frames := 2, cells := 0, slots := 0, locals := 43 } : Room) [.ref o, .int x, .int o2, .int n] [bMo g o a th hi ac tp ba en tA fl de iD iO tU fm fk fa fc ft ff fb fi] (fun u : Int32 × Int32 × (Nat → Int32) × (Nat → Int32) × Int32 => (fun (th2 : Int32) (ac2 : Int32) (fc2 : Nat → Int32) (fm2 : Nat → Int32) (q : Int32) => some (.int q)) (u.1) (u.2.1) (u.2.2.1) (u.2.2.2.1) (u.2.2.2.2)) (fun u : Int32 × Int32 × (Nat → Int32) × (Nat → Int32) × Int32 => (fun (th2 : Int32) (ac2 : Int32) (fc2 : Nat → Int32) (fm2 : Nat → Int32) (q : Int32) => (rM fm2) ∧ (rC fc2) ∧ (0 ≤ ac2.toInt ∧ ac2.toInt ≤ 12)) (u.1) (u.2.1) (u.2.2.1) (u.2.2.2.1) (u.2.2.2.2)) (fun u : Int32 × Int32 × (Nat → Int32) × (Nat → Int32) × Int32 => (fun (th2 : Int32) (ac2 : Int32) (fc2 : Nat → Int32) (fm2 : Nat → Int32) (q : Int32) => [bMo g o a th2 hi ac2 tp ba en tA fl de iD iO tU fm2 fk fa fc2 ft ff fb fi]) (u.1) (u.2.1) (u.2.2.1) (u.2.2.2.1) (u.2.2.2.2)) := by
  refine zM'.of (cc := cX12_tie) (maxL := 5) (rt := (some .int)) (by decide) rfl (Nat.le_of_ble_eq_true rfl) ?_
  intro p e s m args below meth c A ls St hr hlocks hin hK hT hA hP hD hS hl
  obtain ⟨hx, hb, hml, hown, hts⟩ := id St
  have hl : lv_has ls 5 [(0, .ref o), (1, .int x), (2, .int o2), (3, .int n)] := hl
  refine lv_aload_n hx hb dX12_tie_0 rfl (lv_at hl 0 rfl) ?_
  refine lv_aload_n hx hb dX12_tie_1 rfl (lv_at hl 0 rfl) ?_
  refine lv_iload_n hx hb dX12_tie_2 rfl (lv_at hl 1 rfl) ?_
  refine mcallV' (g := g) (q0 := 0) (ci := 10) (As := [.int x]) (rest := [.ref o]) St hK hT hA hP hD hS hl.1 [0] [] rfl rfl rfl (m_isPerson l g o a th hi ac tp ba en tA fl de iD iO tU fm fk fa fc ft ff fb fi x (by first | assumption | omega | decide | exact Or.inl (by decide) | exact Or.inr (by decide))) (cwV 1 hts (zgL (zl4 k1032 k1033 k1034 k837) k834) rfl rfl rfl (by decide +kernel) ⟨Nat.le_of_ble_eq_true rfl, Nat.le_of_ble_eq_true rfl⟩) rfl rfl rfl rfl (Nat.le_of_ble_eq_true rfl) dX12_tie_3 ⟨(Nat.le_of_ble_eq_true rfl), (Nat.le_of_ble_eq_true rfl)⟩ (fun q_1 H locs hq2 hP hD hS => ?_)
  replace hq2 : (q_1 = 1 ∧ 0 ≤ x.toInt ∧ x.toInt ≤ 7 ∧ x.toInt < (fm 3).toInt ∨ q_1 = 0) := hq2
  have hP : va_P g.1 vwCl (List.flatten [bMo g o a th hi ac tp ba en tA fl de iD iO tU fm fk fa fc ft ff fb fi]) H := hP
  have hD : va_D A (List.flatten [bMo g o a th hi ac tp ba en tA fl de iD iO tU fm fk fa fc ft ff fb fi]) := hD
  refine W.widen (k := 0) (n := 0) (Nat.le_of_ble_eq_true rfl) (Nat.le_of_ble_eq_true rfl) ?_
  refine W.eq (g2 := F0 m 6 ls [.int q_1, .ref o]) rfl ?_
  rcases hq2 with ⟨rfl, hq2_k⟩ | rfl
  · skip
    refine lv_if_eq (tgt := 17) hx hb dX12_tie_6 (by decide) (fun c3 => absurd c3 (by decide)) (fun _ => ?_)
    refine lv_aload_n hx hb dX12_tie_9 rfl (lv_at hl 0 rfl) ?_
    refine lv_iload_n hx hb dX12_tie_10 rfl (lv_at hl 2 rfl) ?_
    refine mcallV' (g := g) (q0 := 0) (ci := 10) (As := [.int o2]) (rest := [.ref o]) St hK hT hA hP hD hS hl.1 [0] [] rfl rfl rfl (m_isPerson l g o a th hi ac tp ba en tA fl de iD iO tU fm fk fa fc ft ff fb fi o2 (by first | assumption | omega | decide | exact Or.inl (by decide) | exact Or.inr (by decide))) (cwV 1 hts (zgL (zl4 k1032 k1033 k1034 k837) k834) rfl rfl rfl (by decide +kernel) ⟨Nat.le_of_ble_eq_true rfl, Nat.le_of_ble_eq_true rfl⟩) rfl rfl rfl rfl (Nat.le_of_ble_eq_true rfl) dX12_tie_11 ⟨(Nat.le_of_ble_eq_true rfl), (Nat.le_of_ble_eq_true rfl)⟩ (fun q_4 H locs hq5 hP hD hS => ?_)
    replace hq5 : (q_4 = 1 ∧ 0 ≤ o2.toInt ∧ o2.toInt ≤ 7 ∧ o2.toInt < (fm 3).toInt ∨ q_4 = 0) := hq5
    have hP : va_P g.1 vwCl (List.flatten [bMo g o a th hi ac tp ba en tA fl de iD iO tU fm fk fa fc ft ff fb fi]) H := hP
    have hD : va_D A (List.flatten [bMo g o a th hi ac tp ba en tA fl de iD iO tU fm fk fa fc ft ff fb fi]) := hD
    refine W.widen (k := 0) (n := 0) (Nat.le_of_ble_eq_true rfl) (Nat.le_of_ble_eq_true rfl) ?_
    refine W.eq (g2 := F0 m 14 ls [.int q_4, .ref o]) rfl ?_
    rcases hq5 with ⟨rfl, hq5_k⟩ | rfl
    · skip
      refine lv_if_ne (tgt := 21) hx hb dX12_tie_14 (by decide) (fun _ => ?_) (fun c6 => absurd c6 (by decide))
      refine lv_iload_n hx hb dX12_tie_21 rfl (lv_at hl 1 rfl) ?_
      refine lv_iload_n hx hb dX12_tie_22 rfl (lv_at hl 2 rfl) ?_
      refine lv_icmp_eq (tgt := 36) hx hb dX12_tie_23 (by decide) (fun cb9 => ?_) (fun cb9 => ?_)
      · skip
        have c7 : x.toInt = o2.toInt := zeq cb9 rfl rfl
        refine lv_iconst (v := 2) hx hb dX12_tie_36 (by decide) ?_
        refine lv_goto (tgt := 41) hx hb dX12_tie_37 (by decide) ?_
        refine va_put (D := g.1) (ci := 10) (v := .int 2) (ty := .int) (C := RX12) (T := TX12) (N := 20) hx hb hts izRX12 tyX12 tyX12_ok nmX12 hown hK hP hD hS 0 rfl rfl 0 (by decide) (hts _ k871) (fun _ h9 => h9) rfl (by decide +kernel) rfl rfl (Nat.le_of_ble_eq_true rfl) dX12_tie_41 (fun H locs hP hD hS => ?_)
        have hP : va_P g.1 vwCl (List.flatten [bMo g o a 2 hi ac tp ba en tA fl de iD iO tU fm fk fa fc ft ff fb fi]) H := hP
        have hD : va_D A (List.flatten [bMo g o a 2 hi ac tp ba en tA fl de iD iO tU fm fk fa fc ft ff fb fi]) := hD
        refine lv_aload_n hx hb dX12_tie_44 rfl (lv_at hl 0 rfl) ?_
        refine va_get (D := g.1) (ci := 10) (v := .int 2) (C := RX12) (T := TX12) (N := 20) hx hb hts izRX12 hown hK hP 0 rfl rfl 0 (by decide) (hts _ k871) (fun _ h9 => h9) rfl dX12_tie_45 ?_
        refine lv_if_le (tgt := 53) hx hb dX12_tie_48 (by decide) (fun c8 => absurd c8 (by decide)) (fun _ => ?_)
        refine lv_iconst (v := 0) hx hb dX12_tie_51 (by decide) ?_
        have hP : va_P g.1 vwCl (List.flatten [bMo g o a 2 hi ac tp ba en tA fl de iD iO tU fm fk fa fc ft ff fb fi]) H := hP
        have hD : va_D A (List.flatten [bMo g o a 2 hi ac tp ba en tA fl de iD iO tU fm fk fa fc ft ff fb fi]) := hD
        exact mret_i hx hb hr hlocks hS (Nat.le_of_ble_eq_true rfl) (Nat.le_of_ble_eq_true rfl) dX12_tie_52 ((2 : Int32), ac, fc, fm, (0 : Int32)) rfl (show (rM fm) ∧ (rC fc) ∧ (0 ≤ ac.toInt ∧ ac.toInt ≤ 12) from ⟨(by first | assumption | omega | decide | exact rfl | exact zb01 (by omega) | exact Or.inl (by decide) | exact Or.inr (by first | omega | decide)), (by first | assumption | omega | decide | exact rfl | exact zb01 (by omega) | exact Or.inl (by decide) | exact Or.inr (by first | omega | decide)), (by first | assumption | omega | decide | exact rfl | exact zb01 (by omega) | exact Or.inl (by decide) | exact Or.inr (by first | omega | decide))⟩) hP hD
      · skip
        have c9 : ¬ x.toInt = o2.toInt := zne cb9 rfl rfl
        refine lv_iload_n hx hb dX12_tie_26 rfl (lv_at hl 3 rfl) ?_
        refine lv_iconst (v := 0) hx hb dX12_tie_27 (by decide) ?_
        refine lv_bipush (v := 9) hx hb dX12_tie_28 (by decide) ?_
        have hL0 : (0 : Int32).toInt = 0 := by decide
        have hL9 : (9 : Int32).toInt = 9 := by decide
        refine mcallS' (g := g) (As := [.int n, .int 0, .int 9]) (rest := [.ref o]) St hK hT hA hP hD hS hl.1 [] [0] rfl rfl rfl (m_isIn l g n 0 9 ) (va_cwS 3 hts (zgL (zl3 k835 k836 k837) k824) rfl rfl rfl (by decide +kernel) ⟨Nat.le_of_ble_eq_true rfl, Nat.le_of_ble_eq_true rfl⟩) rfl rfl (Nat.le_of_ble_eq_true rfl) dX12_tie_30 ⟨(Nat.le_of_ble_eq_true rfl), (Nat.le_of_ble_eq_true rfl)⟩ (fun q_10 H locs hq11 hP hD hS => ?_)
        replace hq11 : (q_10 = 1 ∧ (0 : Int32).toInt ≤ n.toInt ∧ n.toInt ≤ (9 : Int32).toInt ∨ q_10 = 0 ∧ (n.toInt < (0 : Int32).toInt ∨ (9 : Int32).toInt < n.toInt)) := hq11
        have hP : va_P g.1 vwCl (List.flatten [bMo g o a th hi ac tp ba en tA fl de iD iO tU fm fk fa fc ft ff fb fi]) H := hP
        have hD : va_D A (List.flatten [bMo g o a th hi ac tp ba en tA fl de iD iO tU fm fk fa fc ft ff fb fi]) := hD
        refine W.widen (k := 0) (n := 0) (Nat.le_of_ble_eq_true rfl) (Nat.le_of_ble_eq_true rfl) ?_
        refine W.eq (g2 := F0 m 33 ls [.int q_10, .ref o]) rfl ?_
        rcases hq11 with ⟨rfl, hq11_k⟩ | ⟨rfl, hq11_k⟩
        · skip
          refine lv_if_ne (tgt := 40) hx hb dX12_tie_33 (by decide) (fun _ => ?_) (fun c12 => absurd c12 (by decide))
          refine lv_iconst (v := 0) hx hb dX12_tie_40 (by decide) ?_
          refine va_put (D := g.1) (ci := 10) (v := .int 0) (ty := .int) (C := RX12) (T := TX12) (N := 20) hx hb hts izRX12 tyX12 tyX12_ok nmX12 hown hK hP hD hS 0 rfl rfl 0 (by decide) (hts _ k871) (fun _ h9 => h9) rfl (by decide +kernel) rfl rfl (Nat.le_of_ble_eq_true rfl) dX12_tie_41 (fun H locs hP hD hS => ?_)
          have hP : va_P g.1 vwCl (List.flatten [bMo g o a 0 hi ac tp ba en tA fl de iD iO tU fm fk fa fc ft ff fb fi]) H := hP
          have hD : va_D A (List.flatten [bMo g o a 0 hi ac tp ba en tA fl de iD iO tU fm fk fa fc ft ff fb fi]) := hD
          refine lv_aload_n hx hb dX12_tie_44 rfl (lv_at hl 0 rfl) ?_
          refine va_get (D := g.1) (ci := 10) (v := .int 0) (C := RX12) (T := TX12) (N := 20) hx hb hts izRX12 hown hK hP 0 rfl rfl 0 (by decide) (hts _ k871) (fun _ h9 => h9) rfl dX12_tie_45 ?_
          refine lv_if_le (tgt := 53) hx hb dX12_tie_48 (by decide) (fun _ => ?_) (fun c13 => absurd (by decide) c13)
          refine lv_aload_n hx hb dX12_tie_53 rfl (lv_at hl 0 rfl) ?_
          refine mcallV' (g := g) (q0 := 0) (ci := 10) (As := []) (rest := []) St hK hT hA hP hD hS hl.1 [0] [] rfl rfl rfl (m_remembers l g o a 0 hi ac tp ba en tA fl de iD iO tU fm fk fa fc ft ff fb fi (by first | assumption | omega | decide | exact Or.inl (by decide) | exact Or.inr (by decide)) (by first | assumption | omega | decide | exact Or.inl (by decide) | exact Or.inr (by decide)) (⟨hac.1, hac.2⟩)) (cwV 0 hts (zgL (zl4 k1046 k1047 k1048 k837) k1045) rfl rfl rfl (by decide +kernel) ⟨Nat.le_of_ble_eq_true rfl, Nat.le_of_ble_eq_true rfl⟩) rfl rfl rfl rfl (Nat.le_of_ble_eq_true rfl) dX12_tie_54 ⟨(Nat.le_of_ble_eq_true rfl), (Nat.le_of_ble_eq_true rfl)⟩ (fun u_ H locs hq16 hP hD hS => ?_)
          obtain ⟨ac2_14, fc2_15⟩ := u_
          replace hq16 : (rC fc2_15) ∧ (0 ≤ ac2_14.toInt ∧ ac2_14.toInt ≤ 12) := hq16
          have hP : va_P g.1 vwCl (List.flatten [bMo g o a 0 hi ac2_14 tp ba en tA fl de iD iO tU fm fk fa fc2_15 ft ff fb fi]) H := hP
          have hD : va_D A (List.flatten [bMo g o a 0 hi ac2_14 tp ba en tA fl de iD iO tU fm fk fa fc2_15 ft ff fb fi]) := hD
          refine W.widen (k := 0) (n := 0) (Nat.le_of_ble_eq_true rfl) (Nat.le_of_ble_eq_true rfl) ?_
          refine W.eq (g2 := F0 m 57 ls []) rfl ?_
          obtain ⟨rfc2_15, hq16_1⟩ := hq16
          refine lv_aload_n hx hb dX12_tie_57 rfl (lv_at hl 0 rfl) ?_
          refine lv_iload_n hx hb dX12_tie_58 rfl (lv_at hl 1 rfl) ?_
          refine lv_iload_n hx hb dX12_tie_59 rfl (lv_at hl 2 rfl) ?_
          refine mcallV' (g := g) (q0 := 0) (ci := 10) (As := [.int x, .int o2]) (rest := []) St hK hT hA hP hD hS hl.1 [0] [] rfl rfl rfl (m_trustOf l g o a 0 hi ac2_14 tp ba en tA fl de iD iO tU fm fk fa fc2_15 ft ff fb fi x o2 (by first | assumption | omega | decide | exact Or.inl (by decide) | exact Or.inr (by decide)) (by first | assumption | omega | decide | exact Or.inl (by decide) | exact Or.inr (by decide))) (cwV 2 hts (zgL (zl4 k866 k867 k868 k837) k833) rfl rfl rfl (by decide +kernel) ⟨Nat.le_of_ble_eq_true rfl, Nat.le_of_ble_eq_true rfl⟩) rfl rfl rfl rfl (Nat.le_of_ble_eq_true rfl) dX12_tie_60 ⟨(Nat.le_of_ble_eq_true rfl), (Nat.le_of_ble_eq_true rfl)⟩ (fun q_17 H locs hq18 hP hD hS => ?_)
          have hP : va_P g.1 vwCl (List.flatten [bMo g o a 0 hi ac2_14 tp ba en tA fl de iD iO tU fm fk fa fc2_15 ft ff fb fi]) H := hP
          have hD : va_D A (List.flatten [bMo g o a 0 hi ac2_14 tp ba en tA fl de iD iO tU fm fk fa fc2_15 ft ff fb fi]) := hD
          refine W.widen (k := 0) (n := 0) (Nat.le_of_ble_eq_true rfl) (Nat.le_of_ble_eq_true rfl) ?_
          refine W.eq (g2 := F0 m 63 ls [.int q_17]) rfl ?_
          refine lv_istore (lv' := [(4, .int q_17), (0, .ref o), (1, .int x), (2, .int o2), (3, .int n)]) hx hb dX12_tie_63 hl (by decide) rfl (fun ls hl => ?_)
          refine lv_aload_n hx hb dX12_tie_65 rfl (lv_at hl 1 rfl) ?_
          refine va_get (D := g.1) (ci := 10) (v := .ref (a 0)) (C := RX12) (T := TX12) (N := 20) hx hb hts izRX12 hown hK hP 0 rfl rfl 1 (by decide) (hts _ k815) (fun _ h9 => h9) rfl dX12_tie_66 ?_
          refine lv_bipush (v := 51) hx hb dX12_tie_69 (by decide) ?_
          refine lv_bipush (v := 8) hx hb dX12_tie_71 (by decide) ?_
          refine lv_iload_n hx hb dX12_tie_73 rfl (lv_at hl 2 rfl) ?_
          refine lv_imul hx hb dX12_tie_74 ?_
          refine zgv (zmul (i := 8) (j := x.toInt) (by decide) rfl (by omega)) (fun x_19 hx_19 => ?_)
          refine lv_iadd hx hb dX12_tie_75 ?_
          refine zgv (zadd (i := 51) (j := x_19.toInt) (by decide) rfl (by omega)) (fun x_20 hx_20 => ?_)
          refine lv_iload_n hx hb dX12_tie_76 rfl (lv_at hl 3 rfl) ?_
          refine lv_iadd hx hb dX12_tie_77 ?_
          refine zgv (zadd (i := x_20.toInt) (j := o2.toInt) rfl rfl (by omega)) (fun x_21 hx_21 => ?_)
          refine lv_iload_n hx hb dX12_tie_78 rfl (lv_at hl 4 rfl) ?_
          refine va_iast hx hb hK hP hD hS 1 0 rfl rfl (zinI (by omega) (by omega)) dX12_tie_79 (fun H locs hP hD hS => ?_)
          obtain ⟨fm_22, rfm_22, hkfm_22, hP, hD⟩ : ∃ fm_22 : Nat → Int32, rM fm_22 ∧ ((fm_22 3).toInt = (fm 3).toInt ∧ (fm_22 4).toInt = (fm 4).toInt) ∧ va_P g.1 vwCl (List.flatten [bMo g o a 0 hi ac2_14 tp ba en tA fl de iD iO tU fm_22 fk fa fc2_15 ft ff fb fi]) H ∧ va_D A (List.flatten [bMo g o a 0 hi ac2_14 tp ba en tA fl de iD iO tU fm_22 fk fa fc2_15 ft ff fb fi]) := ⟨upd fm x_21.toNatClampNeg n, (rM_st (j := x_21.toInt) (w := n.toInt) rfm rfl rfl (by omega)), (rM_kp (j := x_21.toInt) rfl (by omega)), hP, hD⟩
          refine lv_iload hx hb dX12_tie_80 (lv_at hl 0 rfl) ?_
          have hP : va_P g.1 vwCl (List.flatten [bMo g o a 0 hi ac2_14 tp ba en tA fl de iD iO tU fm_22 fk fa fc2_15 ft ff fb fi]) H := hP
          have hD : va_D A (List.flatten [bMo g o a 0 hi ac2_14 tp ba en tA fl de iD iO tU fm_22 fk fa fc2_15 ft ff fb fi]) := hD
          exact mret_i hx hb hr hlocks hS (Nat.le_of_ble_eq_true rfl) (Nat.le_of_ble_eq_true rfl) dX12_tie_82 ((0 : Int32), ac2_14, fc2_15, fm_22, q_17) rfl (show (rM fm_22) ∧ (rC fc2_15) ∧ (0 ≤ ac2_14.toInt ∧ ac2_14.toInt ≤ 12) from ⟨(by first | assumption | omega | decide | exact rfl | exact zb01 (by omega) | exact Or.inl (by decide) | exact Or.inr (by first | omega | decide)), (by first | assumption | omega | decide | exact rfl | exact zb01 (by omega) | exact Or.inl (by decide) | exact Or.inr (by first | omega | decide)), (by first | assumption | omega | decide | exact rfl | exact zb01 (by omega) | exact Or.inl (by decide) | exact Or.inr (by first | omega | decide))⟩) hP hD
        · skip
          refine lv_if_ne (tgt := 40) hx hb dX12_tie_33 (by decide) (fun c23 => absurd (by decide) c23) (fun _ => ?_)
          refine lv_iconst (v := 2) hx hb dX12_tie_36 (by decide) ?_
          refine lv_goto (tgt := 41) hx hb dX12_tie_37 (by decide) ?_
          refine va_put (D := g.1) (ci := 10) (v := .int 2) (ty := .int) (C := RX12) (T := TX12) (N := 20) hx hb hts izRX12 tyX12 tyX12_ok nmX12 hown hK hP hD hS 0 rfl rfl 0 (by decide) (hts _ k871) (fun _ h9 => h9) rfl (by decide +kernel) rfl rfl (Nat.le_of_ble_eq_true rfl) dX12_tie_41 (fun H locs hP hD hS => ?_)
          have hP : va_P g.1 vwCl (List.flatten [bMo g o a 2 hi ac tp ba en tA fl de iD iO tU fm fk fa fc ft ff fb fi]) H := hP
          have hD : va_D A (List.flatten [bMo g o a 2 hi ac tp ba en tA fl de iD iO tU fm fk fa fc ft ff fb fi]) := hD
          refine lv_aload_n hx hb dX12_tie_44 rfl (lv_at hl 0 rfl) ?_
          refine va_get (D := g.1) (ci := 10) (v := .int 2) (C := RX12) (T := TX12) (N := 20) hx hb hts izRX12 hown hK hP 0 rfl rfl 0 (by decide) (hts _ k871) (fun _ h9 => h9) rfl dX12_tie_45 ?_
          refine lv_if_le (tgt := 53) hx hb dX12_tie_48 (by decide) (fun c24 => absurd c24 (by decide)) (fun _ => ?_)
          refine lv_iconst (v := 0) hx hb dX12_tie_51 (by decide) ?_
          have hP : va_P g.1 vwCl (List.flatten [bMo g o a 2 hi ac tp ba en tA fl de iD iO tU fm fk fa fc ft ff fb fi]) H := hP
          have hD : va_D A (List.flatten [bMo g o a 2 hi ac tp ba en tA fl de iD iO tU fm fk fa fc ft ff fb fi]) := hD
          exact mret_i hx hb hr hlocks hS (Nat.le_of_ble_eq_true rfl) (Nat.le_of_ble_eq_true rfl) dX12_tie_52 ((2 : Int32), ac, fc, fm, (0 : Int32)) rfl (show (rM fm) ∧ (rC fc) ∧ (0 ≤ ac.toInt ∧ ac.toInt ≤ 12) from ⟨(by first | assumption | omega | decide | exact rfl | exact zb01 (by omega) | exact Or.inl (by decide) | exact Or.inr (by first | omega | decide)), (by first | assumption | omega | decide | exact rfl | exact zb01 (by omega) | exact Or.inl (by decide) | exact Or.inr (by first | omega | decide)), (by first | assumption | omega | decide | exact rfl | exact zb01 (by omega) | exact Or.inl (by decide) | exact Or.inr (by first | omega | decide))⟩) hP hD
    · skip
      refine lv_if_ne (tgt := 21) hx hb dX12_tie_14 (by decide) (fun c25 => absurd (by decide) c25) (fun _ => ?_)
      refine lv_iconst (v := 1) hx hb dX12_tie_17 (by decide) ?_
      refine lv_goto (tgt := 41) hx hb dX12_tie_18 (by decide) ?_
      refine va_put (D := g.1) (ci := 10) (v := .int 1) (ty := .int) (C := RX12) (T := TX12) (N := 20) hx hb hts izRX12 tyX12 tyX12_ok nmX12 hown hK hP hD hS 0 rfl rfl 0 (by decide) (hts _ k871) (fun _ h9 => h9) rfl (by decide +kernel) rfl rfl (Nat.le_of_ble_eq_true rfl) dX12_tie_41 (fun H locs hP hD hS => ?_)
      have hP : va_P g.1 vwCl (List.flatten [bMo g o a 1 hi ac tp ba en tA fl de iD iO tU fm fk fa fc ft ff fb fi]) H := hP
      have hD : va_D A (List.flatten [bMo g o a 1 hi ac tp ba en tA fl de iD iO tU fm fk fa fc ft ff fb fi]) := hD
      refine lv_aload_n hx hb dX12_tie_44 rfl (lv_at hl 0 rfl) ?_
      refine va_get (D := g.1) (ci := 10) (v := .int 1) (C := RX12) (T := TX12) (N := 20) hx hb hts izRX12 hown hK hP 0 rfl rfl 0 (by decide) (hts _ k871) (fun _ h9 => h9) rfl dX12_tie_45 ?_
      refine lv_if_le (tgt := 53) hx hb dX12_tie_48 (by decide) (fun c26 => absurd c26 (by decide)) (fun _ => ?_)
      refine lv_iconst (v := 0) hx hb dX12_tie_51 (by decide) ?_
      have hP : va_P g.1 vwCl (List.flatten [bMo g o a 1 hi ac tp ba en tA fl de iD iO tU fm fk fa fc ft ff fb fi]) H := hP
      have hD : va_D A (List.flatten [bMo g o a 1 hi ac tp ba en tA fl de iD iO tU fm fk fa fc ft ff fb fi]) := hD
      exact mret_i hx hb hr hlocks hS (Nat.le_of_ble_eq_true rfl) (Nat.le_of_ble_eq_true rfl) dX12_tie_52 ((1 : Int32), ac, fc, fm, (0 : Int32)) rfl (show (rM fm) ∧ (rC fc) ∧ (0 ≤ ac.toInt ∧ ac.toInt ≤ 12) from ⟨(by first | assumption | omega | decide | exact rfl | exact zb01 (by omega) | exact Or.inl (by decide) | exact Or.inr (by first | omega | decide)), (by first | assumption | omega | decide | exact rfl | exact zb01 (by omega) | exact Or.inl (by decide) | exact Or.inr (by first | omega | decide)), (by first | assumption | omega | decide | exact rfl | exact zb01 (by omega) | exact Or.inl (by decide) | exact Or.inr (by first | omega | decide))⟩) hP hD
  · skip
    refine lv_if_eq (tgt := 17) hx hb dX12_tie_6 (by decide) (fun _ => ?_) (fun c27 => absurd (by decide) c27)
    refine lv_iconst (v := 1) hx hb dX12_tie_17 (by decide) ?_
    refine lv_goto (tgt := 41) hx hb dX12_tie_18 (by decide) ?_
    refine va_put (D := g.1) (ci := 10) (v := .int 1) (ty := .int) (C := RX12) (T := TX12) (N := 20) hx hb hts izRX12 tyX12 tyX12_ok nmX12 hown hK hP hD hS 0 rfl rfl 0 (by decide) (hts _ k871) (fun _ h9 => h9) rfl (by decide +kernel) rfl rfl (Nat.le_of_ble_eq_true rfl) dX12_tie_41 (fun H locs hP hD hS => ?_)
    have hP : va_P g.1 vwCl (List.flatten [bMo g o a 1 hi ac tp ba en tA fl de iD iO tU fm fk fa fc ft ff fb fi]) H := hP
    have hD : va_D A (List.flatten [bMo g o a 1 hi ac tp ba en tA fl de iD iO tU fm fk fa fc ft ff fb fi]) := hD
    refine lv_aload_n hx hb dX12_tie_44 rfl (lv_at hl 0 rfl) ?_
    refine va_get (D := g.1) (ci := 10) (v := .int 1) (C := RX12) (T := TX12) (N := 20) hx hb hts izRX12 hown hK hP 0 rfl rfl 0 (by decide) (hts _ k871) (fun _ h9 => h9) rfl dX12_tie_45 ?_
    refine lv_if_le (tgt := 53) hx hb dX12_tie_48 (by decide) (fun c28 => absurd c28 (by decide)) (fun _ => ?_)
    refine lv_iconst (v := 0) hx hb dX12_tie_51 (by decide) ?_
    have hP : va_P g.1 vwCl (List.flatten [bMo g o a 1 hi ac tp ba en tA fl de iD iO tU fm fk fa fc ft ff fb fi]) H := hP
    have hD : va_D A (List.flatten [bMo g o a 1 hi ac tp ba en tA fl de iD iO tU fm fk fa fc ft ff fb fi]) := hD
    exact mret_i hx hb hr hlocks hS (Nat.le_of_ble_eq_true rfl) (Nat.le_of_ble_eq_true rfl) dX12_tie_52 ((1 : Int32), ac, fc, fm, (0 : Int32)) rfl (show (rM fm) ∧ (rC fc) ∧ (0 ≤ ac.toInt ∧ ac.toInt ≤ 12) from ⟨(by first | assumption | omega | decide | exact rfl | exact zb01 (by omega) | exact Or.inl (by decide) | exact Or.inr (by first | omega | decide)), (by first | assumption | omega | decide | exact rfl | exact zb01 (by omega) | exact Or.inl (by decide) | exact Or.inr (by first | omega | decide)), (by first | assumption | omega | decide | exact rfl | exact zb01 (by omega) | exact Or.inl (by decide) | exact Or.inr (by first | omega | decide))⟩) hP hD
