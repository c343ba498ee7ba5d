set_option maxRecDepth 100000 in
set_option maxHeartbeats 4000000 in
theorem m_sell (l : Launch) (g : zG) (o : Nat) (a : Nat → Nat) (th : Int32) (hi : Int32) (ac : Int32) (tp : Int32) (ba : Int32) (en : Int32) (tA : Int32) (fl : Int32) (de : Int32) (iD : Int32) (iO : Int32) (tU : Int32) (fm : Nat → Int32) (fk : Nat → Int32) (fa : Nat → Int32) (fc : Nat → Int32) (ft : Nat → Int32) (ff : Nat → Int32) (fb : Nat → Int32) (fi : Nat → Int32) (x : Int32) (n : Int32) (rfm : rM fm) (rfc : rC fc) (hac : 0 ≤ ac.toInt ∧ ac.toInt ≤ 12) : zM' g l yX12_sell (Cond.code yX12_sell cX12_sell 4 (some .int) :: zB) ({ frames := 5, cells := 0, slots := 0, locals := 106 } : Room) [.ref o, .int x, .int n] [bMo g o a th hi ac tp ba en tA fl de iD iO tU fm fk fa fc ft ff fb fi] (fun u : Int32 × Int32 × (Nat → Int32) × (Nat → Int32) × Int32 => (fun (th2 : Int32) (ac2 : Int32) (fc2 : Nat → Int32) (fm2 : Nat → Int32) (q : Int32) => some (.int q)) (u.1) (u.2.1) (u.2.2.1) (u.2.2.2.1) (u.2.2.2.2)) (fun u : Int32 × Int32 × (Nat → Int32) × (Nat → Int32) × Int32 => (fun (th2 : Int32) (ac2 : Int32) (fc2 : Nat → Int32) (fm2 : Nat → Int32) (q : Int32) => ((fm2 0).toInt = (fm 0).toInt ∧ (fm2 3).toInt = (fm 3).toInt ∧ (fm2 4).toInt = (fm 4).toInt) ∧ (rM fm2) ∧ (rC fc2) ∧ (0 ≤ ac2.toInt ∧ ac2.toInt ≤ 12) ∧ (zMa fc fc2 ac.toInt ac2.toInt fm)) (u.1) (u.2.1) (u.2.2.1) (u.2.2.2.1) (u.2.2.2.2)) (fun u : Int32 × Int32 × (Nat → Int32) × (Nat → Int32) × Int32 => (fun (th2 : Int32) (ac2 : Int32) (fc2 : Nat → Int32) (fm2 : Nat → Int32) (q : Int32) => [bMo g o a th2 hi ac2 tp ba en tA fl de iD iO tU fm2 fk fa fc2 ft ff fb fi]) (u.1) (u.2.1) (u.2.2.1) (u.2.2.2.1) (u.2.2.2.2)) := by
  refine zM'.of (cc := cX12_sell) (maxL := 4) (rt := (some .int)) (by decide) rfl (Nat.le_of_ble_eq_true rfl) ?_
  intro p e s m args below meth c A ls St hr hlocks hin hK hT hA hP hD hS hl
  obtain ⟨hx, hb, hml, hown, hts⟩ := id St
  have hl : lv_has ls 4 [(0, .ref o), (1, .int x), (2, .int n)] := hl
  refine lv_aload_n hx hb dX12_sell_0 rfl (lv_at hl 0 rfl) ?_
  refine lv_aload_n hx hb dX12_sell_1 rfl (lv_at hl 0 rfl) ?_
  refine lv_iload_n hx hb dX12_sell_2 rfl (lv_at hl 1 rfl) ?_
  refine mcallV' (g := g) (q0 := 0) (ci := 10) (As := [.int x]) (rest := [.ref o]) St hK hT hA hP hD hS hl.1 [0] [] rfl rfl rfl (m_isPerson l g o a th hi ac tp ba en tA fl de iD iO tU fm fk fa fc ft ff fb fi x rfm) (cwV 1 hts (zgL (zl4 k1033 k1034 k1035 k839) k836) rfl rfl rfl (by decide +kernel) ⟨Nat.le_of_ble_eq_true rfl, Nat.le_of_ble_eq_true rfl⟩) rfl rfl rfl rfl (Nat.le_of_ble_eq_true rfl) dX12_sell_3 ⟨(Nat.le_of_ble_eq_true rfl), (Nat.le_of_ble_eq_true rfl)⟩ (fun q_1 H locs hq2 hP hD hS => ?_)
  replace hq2 : (q_1 = 1 ∧ 0 ≤ x.toInt ∧ x.toInt ≤ 7 ∧ x.toInt < (fm 3).toInt ∨ q_1 = 0) := hq2
  have hP : va_P g.1 vwCl (List.flatten [bMo g o a th hi ac tp ba en tA fl de iD iO tU fm fk fa fc ft ff fb fi]) H := hP
  have hD : va_D A (List.flatten [bMo g o a th hi ac tp ba en tA fl de iD iO tU fm fk fa fc ft ff fb fi]) := hD
  refine W.widen (k := 0) (n := 0) (Nat.le_of_ble_eq_true rfl) (Nat.le_of_ble_eq_true rfl) ?_
  refine W.eq (g2 := F0 m 6 ls [.int q_1, .ref o]) rfl ?_
  rcases hq2 with ⟨rfl, hq2_k⟩ | rfl
  · skip
    refine lv_if_ne (tgt := 13) hx hb dX12_sell_6 (by decide) (fun _ => ?_) (fun c3 => absurd c3 (by decide))
    refine lv_iload_n hx hb dX12_sell_13 rfl (lv_at hl 2 rfl) ?_
    refine lv_iconst (v := 1) hx hb dX12_sell_14 (by decide) ?_
    refine lv_bipush (v := 99) hx hb dX12_sell_15 (by decide) ?_
    have hL1 : (1 : Int32).toInt = 1 := by decide
    have hL99 : (99 : Int32).toInt = 99 := by decide
    refine mcallS' (g := g) (As := [.int n, .int 1, .int 99]) (rest := [.ref o]) St hK hT hA hP hD hS hl.1 [] [0] rfl rfl rfl (m_isIn l g n 1 99 ) (va_cwS 3 hts (zgL (zl3 k837 k838 k839) k826) rfl rfl rfl (by decide +kernel) ⟨Nat.le_of_ble_eq_true rfl, Nat.le_of_ble_eq_true rfl⟩) rfl rfl (Nat.le_of_ble_eq_true rfl) dX12_sell_17 ⟨(Nat.le_of_ble_eq_true rfl), (Nat.le_of_ble_eq_true rfl)⟩ (fun q_4 H locs hq5 hP hD hS => ?_)
    replace hq5 : (q_4 = 1 ∧ (1 : Int32).toInt ≤ n.toInt ∧ n.toInt ≤ (99 : Int32).toInt ∨ q_4 = 0 ∧ (n.toInt < (1 : Int32).toInt ∨ (99 : Int32).toInt < n.toInt)) := hq5
    have hP : va_P g.1 vwCl (List.flatten [bMo g o a th hi ac tp ba en tA fl de iD iO tU fm fk fa fc ft ff fb fi]) H := hP
    have hD : va_D A (List.flatten [bMo g o a th hi ac tp ba en tA fl de iD iO tU fm fk fa fc ft ff fb fi]) := hD
    refine W.widen (k := 0) (n := 0) (Nat.le_of_ble_eq_true rfl) (Nat.le_of_ble_eq_true rfl) ?_
    refine W.eq (g2 := F0 m 20 ls [.int q_4, .ref o]) rfl ?_
    rcases hq5 with ⟨rfl, hq5_k⟩ | ⟨rfl, hq5_k⟩
    · skip
      refine lv_if_ne (tgt := 27) hx hb dX12_sell_20 (by decide) (fun _ => ?_) (fun c6 => absurd c6 (by decide))
      refine lv_aload_n hx hb dX12_sell_27 rfl (lv_at hl 0 rfl) ?_
      refine lv_iload_n hx hb dX12_sell_28 rfl (lv_at hl 1 rfl) ?_
      refine lv_iconst (v := 2) hx hb dX12_sell_29 (by decide) ?_
      have hL2 : (2 : Int32).toInt = 2 := by decide
      refine mcallV' (g := g) (q0 := 0) (ci := 10) (As := [.int x, .int 2]) (rest := [.ref o]) St hK hT hA hP hD hS hl.1 [0] [] rfl rfl rfl (m_of l g o a th hi ac tp ba en tA fl de iD iO tU fm fk fa fc ft ff fb fi x 2 (by first | assumption | omega | decide | exact Or.inl (by decide) | exact Or.inr (by decide)) (by decide)) (cwV 2 hts (zgL (zl4 k842 k843 k844 k839) k831) rfl rfl rfl (by decide +kernel) ⟨Nat.le_of_ble_eq_true rfl, Nat.le_of_ble_eq_true rfl⟩) rfl rfl rfl rfl (Nat.le_of_ble_eq_true rfl) dX12_sell_30 ⟨(Nat.le_of_ble_eq_true rfl), (Nat.le_of_ble_eq_true rfl)⟩ (fun q_7 H locs hq8 hP hD hS => ?_)
      have hP : va_P g.1 vwCl (List.flatten [bMo g o a th hi ac tp ba en tA fl de iD iO tU fm fk fa fc ft ff fb fi]) H := hP
      have hD : va_D A (List.flatten [bMo g o a th hi ac tp ba en tA fl de iD iO tU fm fk fa fc ft ff fb fi]) := hD
      refine W.widen (k := 0) (n := 0) (Nat.le_of_ble_eq_true rfl) (Nat.le_of_ble_eq_true rfl) ?_
      refine W.eq (g2 := F0 m 33 ls [.int q_7, .ref o]) rfl ?_
      refine lv_iload_n hx hb dX12_sell_33 rfl (lv_at hl 2 rfl) ?_
      refine lv_icmp_lt (tgt := 52) hx hb dX12_sell_34 (by decide) (fun cb9 => ?_) (fun cb9 => ?_)
      · skip
        have c9 : q_7.toInt < n.toInt := zlti cb9 rfl rfl
        refine lv_iconst (v := 3) hx hb dX12_sell_52 (by decide) ?_
        refine lv_goto (tgt := 57) hx hb dX12_sell_53 (by decide) ?_
        refine va_put (D := g.1) (ci := 10) (v := .int 3) (ty := .int) (C := RX12) (T := TX12) (N := 20) hx hb hts izRX12 tyX12 tyX12_ok nmX12 hown hK hP hD hS 0 rfl rfl 0 (by decide) (hts _ k825) (fun _ h9 => h9) rfl (by decide +kernel) rfl rfl (Nat.le_of_ble_eq_true rfl) dX12_sell_57 (fun H locs hP hD hS => ?_)
        have hP : va_P g.1 vwCl (List.flatten [bMo g o a 3 hi ac tp ba en tA fl de iD iO tU fm fk fa fc ft ff fb fi]) H := hP
        have hD : va_D A (List.flatten [bMo g o a 3 hi ac tp ba en tA fl de iD iO tU fm fk fa fc ft ff fb fi]) := hD
        refine lv_aload_n hx hb dX12_sell_60 rfl (lv_at hl 0 rfl) ?_
        refine va_get (D := g.1) (ci := 10) (v := .int 3) (C := RX12) (T := TX12) (N := 20) hx hb hts izRX12 hown hK hP 0 rfl rfl 0 (by decide) (hts _ k825) (fun _ h9 => h9) rfl dX12_sell_61 ?_
        refine lv_if_le (tgt := 69) hx hb dX12_sell_64 (by decide) (fun c10 => absurd c10 (by decide)) (fun _ => ?_)
        refine lv_iconst (v := 0) hx hb dX12_sell_67 (by decide) ?_
        have hP : va_P g.1 vwCl (List.flatten [bMo g o a 3 hi ac tp ba en tA fl de iD iO tU fm fk fa fc ft ff fb fi]) H := hP
        have hD : va_D A (List.flatten [bMo g o a 3 hi ac tp ba en tA fl de iD iO tU fm fk fa fc ft ff fb fi]) := hD
        exact mret_i hx hb hr hlocks hS (Nat.le_of_ble_eq_true rfl) (Nat.le_of_ble_eq_true rfl) dX12_sell_68 ((3 : Int32), ac, fc, fm, (0 : Int32)) rfl (show ((fm 0).toInt = (fm 0).toInt ∧ (fm 3).toInt = (fm 3).toInt ∧ (fm 4).toInt = (fm 4).toInt) ∧ (rM fm) ∧ (rC fc) ∧ (0 ≤ ac.toInt ∧ ac.toInt ≤ 12) ∧ (zMa fc fc ac.toInt ac.toInt fm) from ⟨(by first | assumption | omega | decide | exact rfl | exact zb01 (by omega) | exact Or.inl (by decide) | exact Or.inr (by first | omega | decide)), rfm, rfc, hac, zMa_0⟩) hP hD
      · skip
        have c11 : n.toInt ≤ q_7.toInt := zle (Int32.not_lt.mp cb9) rfl rfl
        refine lv_aload_n hx hb dX12_sell_37 rfl (lv_at hl 0 rfl) ?_
        refine va_get (D := g.1) (ci := 10) (v := .ref (a 0)) (C := RX12) (T := TX12) (N := 20) hx hb hts izRX12 hown hK hP 0 rfl rfl 1 (by decide) (hts _ k815) (fun _ h9 => h9) rfl dX12_sell_38 ?_
        refine lv_iconst (v := 5) hx hb dX12_sell_41 (by decide) ?_
        refine va_iald hx hb hK hP 1 0 rfl rfl (zin rfl) dX12_sell_42 ?_
        refine zg (fun x_12 => ?_)
        refine lv_iload_n hx hb dX12_sell_43 rfl (lv_at hl 2 rfl) ?_
        refine lv_aload_n hx hb dX12_sell_44 rfl (lv_at hl 0 rfl) ?_
        refine mcallV' (g := g) (q0 := 0) (ci := 10) (As := []) (rest := [.int n, .int x_12, .ref o]) St hK hT hA hP hD hS hl.1 [0] [] rfl rfl rfl (m_priceNow l g o a th hi ac tp ba en tA fl de iD iO tU fm fk fa fc ft ff fb fi rfm) (cwV 0 hts (zgL (zl4 k1029 k1030 k1031 k839) k862) rfl rfl rfl (by decide +kernel) ⟨Nat.le_of_ble_eq_true rfl, Nat.le_of_ble_eq_true rfl⟩) rfl rfl rfl rfl (Nat.le_of_ble_eq_true rfl) dX12_sell_45 ⟨(Nat.le_of_ble_eq_true rfl), (Nat.le_of_ble_eq_true rfl)⟩ (fun q_13 H locs hq14 hP hD hS => ?_)
        have hP : va_P g.1 vwCl (List.flatten [bMo g o a th hi ac tp ba en tA fl de iD iO tU fm fk fa fc ft ff fb fi]) H := hP
        have hD : va_D A (List.flatten [bMo g o a th hi ac tp ba en tA fl de iD iO tU fm fk fa fc ft ff fb fi]) := hD
        refine W.widen (k := 0) (n := 0) (Nat.le_of_ble_eq_true rfl) (Nat.le_of_ble_eq_true rfl) ?_
        refine W.eq (g2 := F0 m 48 ls [.int q_13, .int n, .int x_12, .ref o]) rfl ?_
        refine lv_imul hx hb dX12_sell_48 ?_
        refine zg (fun x_15 => ?_)
        refine lv_icmp_ge (tgt := 56) hx hb dX12_sell_49 (by decide) (fun cb9 => ?_) (fun cb9 => ?_)
        · skip
          have c16 : x_15.toInt ≤ x_12.toInt := zle cb9 rfl rfl
          refine lv_iconst (v := 0) hx hb dX12_sell_56 (by decide) ?_
          refine va_put (D := g.1) (ci := 10) (v := .int 0) (ty := .int) (C := RX12) (T := TX12) (N := 20) hx hb hts izRX12 tyX12 tyX12_ok nmX12 hown hK hP hD hS 0 rfl rfl 0 (by decide) (hts _ k825) (fun _ h9 => h9) rfl (by decide +kernel) rfl rfl (Nat.le_of_ble_eq_true rfl) dX12_sell_57 (fun H locs hP hD hS => ?_)
          have hP : va_P g.1 vwCl (List.flatten [bMo g o a 0 hi ac tp ba en tA fl de iD iO tU fm fk fa fc ft ff fb fi]) H := hP
          have hD : va_D A (List.flatten [bMo g o a 0 hi ac tp ba en tA fl de iD iO tU fm fk fa fc ft ff fb fi]) := hD
          refine lv_aload_n hx hb dX12_sell_60 rfl (lv_at hl 0 rfl) ?_
          refine va_get (D := g.1) (ci := 10) (v := .int 0) (C := RX12) (T := TX12) (N := 20) hx hb hts izRX12 hown hK hP 0 rfl rfl 0 (by decide) (hts _ k825) (fun _ h9 => h9) rfl dX12_sell_61 ?_
          refine lv_if_le (tgt := 69) hx hb dX12_sell_64 (by decide) (fun _ => ?_) (fun c17 => absurd (by decide) c17)
          refine lv_aload_n hx hb dX12_sell_69 rfl (lv_at hl 0 rfl) ?_
          refine mcallV' (g := g) (q0 := 0) (ci := 10) (As := []) (rest := []) St hK hT hA hP hD hS hl.1 [0] [] rfl rfl rfl (m_remembers l g o a 0 hi ac tp ba en tA fl de iD iO tU fm fk fa fc ft ff fb fi rfm rfc hac) (cwV 0 hts (zgL (zl4 k1047 k1048 k1049 k839) k1046) rfl rfl rfl (by decide +kernel) ⟨Nat.le_of_ble_eq_true rfl, Nat.le_of_ble_eq_true rfl⟩) rfl rfl rfl rfl (Nat.le_of_ble_eq_true rfl) dX12_sell_70 ⟨(Nat.le_of_ble_eq_true rfl), (Nat.le_of_ble_eq_true rfl)⟩ (fun u_ H locs hq20 hP hD hS => ?_)
          obtain ⟨ac2_18, fc2_19⟩ := u_
          replace hq20 : (rC fc2_19) ∧ (0 ≤ ac2_18.toInt ∧ ac2_18.toInt ≤ 12) ∧ (zRem fc fc2_19 ac.toInt ac2_18.toInt fm) := hq20
          have hP : va_P g.1 vwCl (List.flatten [bMo g o a 0 hi ac2_18 tp ba en tA fl de iD iO tU fm fk fa fc2_19 ft ff fb fi]) H := hP
          have hD : va_D A (List.flatten [bMo g o a 0 hi ac2_18 tp ba en tA fl de iD iO tU fm fk fa fc2_19 ft ff fb fi]) := hD
          refine W.widen (k := 0) (n := 0) (Nat.le_of_ble_eq_true rfl) (Nat.le_of_ble_eq_true rfl) ?_
          refine W.eq (g2 := F0 m 73 ls []) rfl ?_
          obtain ⟨rfc2_19, hq20_1, hq20_2⟩ := hq20
          refine lv_iload_n hx hb dX12_sell_73 rfl (lv_at hl 2 rfl) ?_
          refine lv_aload_n hx hb dX12_sell_74 rfl (lv_at hl 0 rfl) ?_
          refine mcallV' (g := g) (q0 := 0) (ci := 10) (As := []) (rest := [.int n]) St hK hT hA hP hD hS hl.1 [0] [] rfl rfl rfl (m_priceNow l g o a 0 hi ac2_18 tp ba en tA fl de iD iO tU fm fk fa fc2_19 ft ff fb fi rfm) (cwV 0 hts (zgL (zl4 k1029 k1030 k1031 k839) k862) rfl rfl rfl (by decide +kernel) ⟨Nat.le_of_ble_eq_true rfl, Nat.le_of_ble_eq_true rfl⟩) rfl rfl rfl rfl (Nat.le_of_ble_eq_true rfl) dX12_sell_75 ⟨(Nat.le_of_ble_eq_true rfl), (Nat.le_of_ble_eq_true rfl)⟩ (fun q_21 H locs hq22 hP hD hS => ?_)
          have hP : va_P g.1 vwCl (List.flatten [bMo g o a 0 hi ac2_18 tp ba en tA fl de iD iO tU fm fk fa fc2_19 ft ff fb fi]) H := hP
          have hD : va_D A (List.flatten [bMo g o a 0 hi ac2_18 tp ba en tA fl de iD iO tU fm fk fa fc2_19 ft ff fb fi]) := hD
          refine W.widen (k := 0) (n := 0) (Nat.le_of_ble_eq_true rfl) (Nat.le_of_ble_eq_true rfl) ?_
          refine W.eq (g2 := F0 m 78 ls [.int q_21, .int n]) rfl ?_
          refine lv_imul hx hb dX12_sell_78 ?_
          refine zg (fun x_23 => ?_)
          refine lv_istore_n (lv' := [(3, .int x_23), (0, .ref o), (1, .int x), (2, .int n)]) hx hb dX12_sell_79 rfl hl (by decide) rfl (fun ls hl => ?_)
          refine lv_aload_n hx hb dX12_sell_80 rfl (lv_at hl 1 rfl) ?_
          refine lv_iload_n hx hb dX12_sell_81 rfl (lv_at hl 2 rfl) ?_
          refine lv_iconst (v := 1) hx hb dX12_sell_82 (by decide) ?_
          refine lv_sipush (v := 9999) hx hb dX12_sell_83 (by decide) ?_
          refine lv_aload_n hx hb dX12_sell_86 rfl (lv_at hl 1 rfl) ?_
          refine lv_iload_n hx hb dX12_sell_87 rfl (lv_at hl 2 rfl) ?_
          refine lv_iconst (v := 1) hx hb dX12_sell_88 (by decide) ?_
          refine mcallV' (g := g) (q0 := 0) (ci := 10) (As := [.int x, .int 1]) (rest := [.int 9999, .int 1, .int x, .ref o]) St hK hT hA hP hD hS hl.1 [0] [] rfl rfl rfl (m_of l g o a 0 hi ac2_18 tp ba en tA fl de iD iO tU fm fk fa fc2_19 ft ff fb fi x 1 (by first | assumption | omega | decide | exact Or.inl (by decide) | exact Or.inr (by decide)) (by decide)) (cwV 2 hts (zgL (zl4 k842 k843 k844 k839) k831) rfl rfl rfl (by decide +kernel) ⟨Nat.le_of_ble_eq_true rfl, Nat.le_of_ble_eq_true rfl⟩) rfl rfl rfl rfl (Nat.le_of_ble_eq_true rfl) dX12_sell_89 ⟨(Nat.le_of_ble_eq_true rfl), (Nat.le_of_ble_eq_true rfl)⟩ (fun q_24 H locs hq25 hP hD hS => ?_)
          have hP : va_P g.1 vwCl (List.flatten [bMo g o a 0 hi ac2_18 tp ba en tA fl de iD iO tU fm fk fa fc2_19 ft ff fb fi]) H := hP
          have hD : va_D A (List.flatten [bMo g o a 0 hi ac2_18 tp ba en tA fl de iD iO tU fm fk fa fc2_19 ft ff fb fi]) := hD
          refine W.widen (k := 0) (n := 0) (Nat.le_of_ble_eq_true rfl) (Nat.le_of_ble_eq_true rfl) ?_
          refine W.eq (g2 := F0 m 92 ls [.int q_24, .int 9999, .int 1, .int x, .ref o]) rfl ?_
          refine lv_iload_n hx hb dX12_sell_92 rfl (lv_at hl 0 rfl) ?_
          refine lv_iadd hx hb dX12_sell_93 ?_
          refine zg (fun x_26 => ?_)
          have hL9999 : (9999 : Int32).toInt = 9999 := by decide
          refine mcallS' (g := g) (As := [.int 9999, .int x_26]) (rest := [.int 1, .int x, .ref o]) St hK hT hA hP hD hS hl.1 [] [0] rfl rfl rfl (m_lesser l g 9999 x_26 ) (va_cwS 2 hts (zgL (zl3 k1000 k1001 k839) k827) rfl rfl rfl (by decide +kernel) ⟨Nat.le_of_ble_eq_true rfl, Nat.le_of_ble_eq_true rfl⟩) rfl rfl (Nat.le_of_ble_eq_true rfl) dX12_sell_94 ⟨(Nat.le_of_ble_eq_true rfl), (Nat.le_of_ble_eq_true rfl)⟩ (fun q_27 H locs hq28 hP hD hS => ?_)
          replace hq28 : (q_27.toInt ≤ (9999 : Int32).toInt ∧ q_27.toInt ≤ x_26.toInt ∧ (q_27.toInt = (9999 : Int32).toInt ∨ q_27.toInt = x_26.toInt)) := hq28
          have hP : va_P g.1 vwCl (List.flatten [bMo g o a 0 hi ac2_18 tp ba en tA fl de iD iO tU fm fk fa fc2_19 ft ff fb fi]) H := hP
          have hD : va_D A (List.flatten [bMo g o a 0 hi ac2_18 tp ba en tA fl de iD iO tU fm fk fa fc2_19 ft ff fb fi]) := hD
          refine W.widen (k := 0) (n := 0) (Nat.le_of_ble_eq_true rfl) (Nat.le_of_ble_eq_true rfl) ?_
          refine W.eq (g2 := F0 m 97 ls [.int q_27, .int 1, .int x, .ref o]) rfl ?_
          refine mcallV' (g := g) (q0 := 0) (ci := 10) (As := [.int x, .int 1, .int q_27]) (rest := []) St hK hT hA hP hD hS hl.1 [0] [] rfl rfl rfl (m_put l g o a 0 hi ac2_18 tp ba en tA fl de iD iO tU fm fk fa fc2_19 ft ff fb fi x 1 q_27 rfm (by first | assumption | omega | decide | exact Or.inl (by decide) | exact Or.inr (by decide)) (by decide)) (cwV 3 hts (zgL (zl4 k909 k910 k911 k839) k832) rfl rfl rfl (by decide +kernel) ⟨Nat.le_of_ble_eq_true rfl, Nat.le_of_ble_eq_true rfl⟩) rfl rfl rfl rfl (Nat.le_of_ble_eq_true rfl) dX12_sell_97 ⟨(Nat.le_of_ble_eq_true rfl), (Nat.le_of_ble_eq_true rfl)⟩ (fun fm2_29 H locs hq30 hP hD hS => ?_)
          replace hq30 : ((fm2_29 0).toInt = (fm 0).toInt ∧ (fm2_29 3).toInt = (fm 3).toInt ∧ (fm2_29 4).toInt = (fm 4).toInt) ∧ (rM fm2_29) ∧ ((fm2_29 3).toInt = (fm 3).toInt ∧ (fm2_29 4).toInt = (fm 4).toInt) := hq30
          have hP : va_P g.1 vwCl (List.flatten [bMo g o a 0 hi ac2_18 tp ba en tA fl de iD iO tU fm2_29 fk fa fc2_19 ft ff fb fi]) H := hP
          have hD : va_D A (List.flatten [bMo g o a 0 hi ac2_18 tp ba en tA fl de iD iO tU fm2_29 fk fa fc2_19 ft ff fb fi]) := hD
          refine W.widen (k := 0) (n := 0) (Nat.le_of_ble_eq_true rfl) (Nat.le_of_ble_eq_true rfl) ?_
          refine W.eq (g2 := F0 m 100 ls []) rfl ?_
          obtain ⟨hq30_0, rfm2_29, hq30_2⟩ := hq30
          refine lv_aload_n hx hb dX12_sell_100 rfl (lv_at hl 1 rfl) ?_
          refine lv_iload_n hx hb dX12_sell_101 rfl (lv_at hl 2 rfl) ?_
          refine lv_iconst (v := 2) hx hb dX12_sell_102 (by decide) ?_
          refine lv_aload_n hx hb dX12_sell_103 rfl (lv_at hl 1 rfl) ?_
          refine lv_iload_n hx hb dX12_sell_104 rfl (lv_at hl 2 rfl) ?_
          refine lv_iconst (v := 2) hx hb dX12_sell_105 (by decide) ?_
          refine mcallV' (g := g) (q0 := 0) (ci := 10) (As := [.int x, .int 2]) (rest := [.int 2, .int x, .ref o]) St hK hT hA hP hD hS hl.1 [0] [] rfl rfl rfl (m_of l g o a 0 hi ac2_18 tp ba en tA fl de iD iO tU fm2_29 fk fa fc2_19 ft ff fb fi x 2 (by first | assumption | omega | decide | exact Or.inl (by decide) | exact Or.inr (by decide)) (by decide)) (cwV 2 hts (zgL (zl4 k842 k843 k844 k839) k831) rfl rfl rfl (by decide +kernel) ⟨Nat.le_of_ble_eq_true rfl, Nat.le_of_ble_eq_true rfl⟩) rfl rfl rfl rfl (Nat.le_of_ble_eq_true rfl) dX12_sell_106 ⟨(Nat.le_of_ble_eq_true rfl), (Nat.le_of_ble_eq_true rfl)⟩ (fun q_31 H locs hq32 hP hD hS => ?_)
          have hP : va_P g.1 vwCl (List.flatten [bMo g o a 0 hi ac2_18 tp ba en tA fl de iD iO tU fm2_29 fk fa fc2_19 ft ff fb fi]) H := hP
          have hD : va_D A (List.flatten [bMo g o a 0 hi ac2_18 tp ba en tA fl de iD iO tU fm2_29 fk fa fc2_19 ft ff fb fi]) := hD
          refine W.widen (k := 0) (n := 0) (Nat.le_of_ble_eq_true rfl) (Nat.le_of_ble_eq_true rfl) ?_
          refine W.eq (g2 := F0 m 109 ls [.int q_31, .int 2, .int x, .ref o]) rfl ?_
          refine lv_iload_n hx hb dX12_sell_109 rfl (lv_at hl 3 rfl) ?_
          refine lv_isub hx hb dX12_sell_110 ?_
          refine zg (fun x_33 => ?_)
          refine mcallV' (g := g) (q0 := 0) (ci := 10) (As := [.int x, .int 2, .int x_33]) (rest := []) St hK hT hA hP hD hS hl.1 [0] [] rfl rfl rfl (m_put l g o a 0 hi ac2_18 tp ba en tA fl de iD iO tU fm2_29 fk fa fc2_19 ft ff fb fi x 2 x_33 rfm2_29 (by first | assumption | omega | decide | exact Or.inl (by decide) | exact Or.inr (by decide)) (by decide)) (cwV 3 hts (zgL (zl4 k909 k910 k911 k839) k832) rfl rfl rfl (by decide +kernel) ⟨Nat.le_of_ble_eq_true rfl, Nat.le_of_ble_eq_true rfl⟩) rfl rfl rfl rfl (Nat.le_of_ble_eq_true rfl) dX12_sell_111 ⟨(Nat.le_of_ble_eq_true rfl), (Nat.le_of_ble_eq_true rfl)⟩ (fun fm2_34 H locs hq35 hP hD hS => ?_)
          replace hq35 : ((fm2_34 0).toInt = (fm2_29 0).toInt ∧ (fm2_34 3).toInt = (fm2_29 3).toInt ∧ (fm2_34 4).toInt = (fm2_29 4).toInt) ∧ (rM fm2_34) ∧ ((fm2_34 3).toInt = (fm2_29 3).toInt ∧ (fm2_34 4).toInt = (fm2_29 4).toInt) := hq35
          have hP : va_P g.1 vwCl (List.flatten [bMo g o a 0 hi ac2_18 tp ba en tA fl de iD iO tU fm2_34 fk fa fc2_19 ft ff fb fi]) H := hP
          have hD : va_D A (List.flatten [bMo g o a 0 hi ac2_18 tp ba en tA fl de iD iO tU fm2_34 fk fa fc2_19 ft ff fb fi]) := hD
          refine W.widen (k := 0) (n := 0) (Nat.le_of_ble_eq_true rfl) (Nat.le_of_ble_eq_true rfl) ?_
          refine W.eq (g2 := F0 m 114 ls []) rfl ?_
          obtain ⟨hq35_0, rfm2_34, hq35_2⟩ := hq35
          refine lv_aload_n hx hb dX12_sell_114 rfl (lv_at hl 1 rfl) ?_
          refine va_get (D := g.1) (ci := 10) (v := .ref (a 0)) (C := RX12) (T := TX12) (N := 20) hx hb hts izRX12 hown hK hP 0 rfl rfl 1 (by decide) (hts _ k815) (fun _ h9 => h9) rfl dX12_sell_115 ?_
          refine lv_iconst (v := 5) hx hb dX12_sell_118 (by decide) ?_
          refine lv_dup2_11 hx hb dX12_sell_119 rfl rfl ?_
          refine va_iald hx hb hK hP 1 0 rfl rfl (zin rfl) dX12_sell_120 ?_
          refine zg (fun x_36 => ?_)
          refine lv_iload_n hx hb dX12_sell_121 rfl (lv_at hl 0 rfl) ?_
          refine lv_isub hx hb dX12_sell_122 ?_
          refine zg (fun x_37 => ?_)
          refine va_iast hx hb hK hP hD hS 1 0 rfl rfl (zin rfl) dX12_sell_123 (fun H locs hP hD hS => ?_)
          obtain ⟨fm_38, rfm_38, hkfm_38, hP, hD⟩ : ∃ fm_38 : Nat → Int32, rM fm_38 ∧ ((fm_38 0).toInt = (fm2_34 0).toInt ∧ (fm_38 3).toInt = (fm2_34 3).toInt ∧ (fm_38 4).toInt = (fm2_34 4).toInt) ∧ va_P g.1 vwCl (List.flatten [bMo g o a 0 hi ac2_18 tp ba en tA fl de iD iO tU fm_38 fk fa fc2_19 ft ff fb fi]) H ∧ va_D A (List.flatten [bMo g o a 0 hi ac2_18 tp ba en tA fl de iD iO tU fm_38 fk fa fc2_19 ft ff fb fi]) := ⟨upd fm2_34 5 x_37, (rM_stL rfm2_34 (by decide)), ⟨rfl, rfl, rfl⟩, hP, hD⟩
          refine lv_aload_n hx hb dX12_sell_124 rfl (lv_at hl 1 rfl) ?_
          refine lv_iload_n hx hb dX12_sell_125 rfl (lv_at hl 2 rfl) ?_
          refine lv_iconst (v := 1) hx hb dX12_sell_126 (by decide) ?_
          refine mcallV' (g := g) (q0 := 0) (ci := 10) (As := [.int x, .int 1]) (rest := []) St hK hT hA hP hD hS hl.1 [0] [] rfl rfl rfl (m_of l g o a 0 hi ac2_18 tp ba en tA fl de iD iO tU fm_38 fk fa fc2_19 ft ff fb fi x 1 (by first | assumption | omega | decide | exact Or.inl (by decide) | exact Or.inr (by decide)) (by decide)) (cwV 2 hts (zgL (zl4 k842 k843 k844 k839) k831) rfl rfl rfl (by decide +kernel) ⟨Nat.le_of_ble_eq_true rfl, Nat.le_of_ble_eq_true rfl⟩) rfl rfl rfl rfl (Nat.le_of_ble_eq_true rfl) dX12_sell_127 ⟨(Nat.le_of_ble_eq_true rfl), (Nat.le_of_ble_eq_true rfl)⟩ (fun q_39 H locs hq40 hP hD hS => ?_)
          have hP : va_P g.1 vwCl (List.flatten [bMo g o a 0 hi ac2_18 tp ba en tA fl de iD iO tU fm_38 fk fa fc2_19 ft ff fb fi]) H := hP
          have hD : va_D A (List.flatten [bMo g o a 0 hi ac2_18 tp ba en tA fl de iD iO tU fm_38 fk fa fc2_19 ft ff fb fi]) := hD
          refine W.widen (k := 0) (n := 0) (Nat.le_of_ble_eq_true rfl) (Nat.le_of_ble_eq_true rfl) ?_
          refine W.eq (g2 := F0 m 130 ls [.int q_39]) rfl ?_
          have hP : va_P g.1 vwCl (List.flatten [bMo g o a 0 hi ac2_18 tp ba en tA fl de iD iO tU fm_38 fk fa fc2_19 ft ff fb fi]) H := hP
          have hD : va_D A (List.flatten [bMo g o a 0 hi ac2_18 tp ba en tA fl de iD iO tU fm_38 fk fa fc2_19 ft ff fb fi]) := hD
          exact mret_i hx hb hr hlocks hS (Nat.le_of_ble_eq_true rfl) (Nat.le_of_ble_eq_true rfl) dX12_sell_130 ((0 : Int32), ac2_18, fc2_19, fm_38, q_39) rfl (show ((fm_38 0).toInt = (fm 0).toInt ∧ (fm_38 3).toInt = (fm 3).toInt ∧ (fm_38 4).toInt = (fm 4).toInt) ∧ (rM fm_38) ∧ (rC fc2_19) ∧ (0 ≤ ac2_18.toInt ∧ ac2_18.toInt ≤ 12) ∧ (zMa fc fc2_19 ac.toInt ac2_18.toInt fm) from ⟨(by first | assumption | omega | decide | exact rfl | exact zb01 (by omega) | exact Or.inl (by decide) | exact Or.inr (by first | omega | decide)), rfm_38, rfc2_19, hq20_1, (Or.inr hq20_2)⟩) hP hD
        · skip
          have c41 : x_12.toInt < x_15.toInt := zlti (Int32.not_le.mp cb9) rfl rfl
          refine lv_iconst (v := 3) hx hb dX12_sell_52 (by decide) ?_
          refine lv_goto (tgt := 57) hx hb dX12_sell_53 (by decide) ?_
          refine va_put (D := g.1) (ci := 10) (v := .int 3) (ty := .int) (C := RX12) (T := TX12) (N := 20) hx hb hts izRX12 tyX12 tyX12_ok nmX12 hown hK hP hD hS 0 rfl rfl 0 (by decide) (hts _ k825) (fun _ h9 => h9) rfl (by decide +kernel) rfl rfl (Nat.le_of_ble_eq_true rfl) dX12_sell_57 (fun H locs hP hD hS => ?_)
          have hP : va_P g.1 vwCl (List.flatten [bMo g o a 3 hi ac tp ba en tA fl de iD iO tU fm fk fa fc ft ff fb fi]) H := hP
          have hD : va_D A (List.flatten [bMo g o a 3 hi ac tp ba en tA fl de iD iO tU fm fk fa fc ft ff fb fi]) := hD
          refine lv_aload_n hx hb dX12_sell_60 rfl (lv_at hl 0 rfl) ?_
          refine va_get (D := g.1) (ci := 10) (v := .int 3) (C := RX12) (T := TX12) (N := 20) hx hb hts izRX12 hown hK hP 0 rfl rfl 0 (by decide) (hts _ k825) (fun _ h9 => h9) rfl dX12_sell_61 ?_
          refine lv_if_le (tgt := 69) hx hb dX12_sell_64 (by decide) (fun c42 => absurd c42 (by decide)) (fun _ => ?_)
          refine lv_iconst (v := 0) hx hb dX12_sell_67 (by decide) ?_
          have hP : va_P g.1 vwCl (List.flatten [bMo g o a 3 hi ac tp ba en tA fl de iD iO tU fm fk fa fc ft ff fb fi]) H := hP
          have hD : va_D A (List.flatten [bMo g o a 3 hi ac tp ba en tA fl de iD iO tU fm fk fa fc ft ff fb fi]) := hD
          exact mret_i hx hb hr hlocks hS (Nat.le_of_ble_eq_true rfl) (Nat.le_of_ble_eq_true rfl) dX12_sell_68 ((3 : Int32), ac, fc, fm, (0 : Int32)) rfl (show ((fm 0).toInt = (fm 0).toInt ∧ (fm 3).toInt = (fm 3).toInt ∧ (fm 4).toInt = (fm 4).toInt) ∧ (rM fm) ∧ (rC fc) ∧ (0 ≤ ac.toInt ∧ ac.toInt ≤ 12) ∧ (zMa fc fc ac.toInt ac.toInt fm) from ⟨(by first | assumption | omega | decide | exact rfl | exact zb01 (by omega) | exact Or.inl (by decide) | exact Or.inr (by first | omega | decide)), rfm, rfc, hac, zMa_0⟩) hP hD
    · skip
      refine lv_if_ne (tgt := 27) hx hb dX12_sell_20 (by decide) (fun c43 => absurd (by decide) c43) (fun _ => ?_)
      refine lv_iconst (v := 2) hx hb dX12_sell_23 (by decide) ?_
      refine lv_goto (tgt := 57) hx hb dX12_sell_24 (by decide) ?_
      refine va_put (D := g.1) (ci := 10) (v := .int 2) (ty := .int) (C := RX12) (T := TX12) (N := 20) hx hb hts izRX12 tyX12 tyX12_ok nmX12 hown hK hP hD hS 0 rfl rfl 0 (by decide) (hts _ k825) (fun _ h9 => h9) rfl (by decide +kernel) rfl rfl (Nat.le_of_ble_eq_true rfl) dX12_sell_57 (fun H locs hP hD hS => ?_)
      have hP : va_P g.1 vwCl (List.flatten [bMo g o a 2 hi ac tp ba en tA fl de iD iO tU fm fk fa fc ft ff fb fi]) H := hP
      have hD : va_D A (List.flatten [bMo g o a 2 hi ac tp ba en tA fl de iD iO tU fm fk fa fc ft ff fb fi]) := hD
      refine lv_aload_n hx hb dX12_sell_60 rfl (lv_at hl 0 rfl) ?_
      refine va_get (D := g.1) (ci := 10) (v := .int 2) (C := RX12) (T := TX12) (N := 20) hx hb hts izRX12 hown hK hP 0 rfl rfl 0 (by decide) (hts _ k825) (fun _ h9 => h9) rfl dX12_sell_61 ?_
      refine lv_if_le (tgt := 69) hx hb dX12_sell_64 (by decide) (fun c44 => absurd c44 (by decide)) (fun _ => ?_)
      refine lv_iconst (v := 0) hx hb dX12_sell_67 (by decide) ?_
      have hP : va_P g.1 vwCl (List.flatten [bMo g o a 2 hi ac tp ba en tA fl de iD iO tU fm fk fa fc ft ff fb fi]) H := hP
      have hD : va_D A (List.flatten [bMo g o a 2 hi ac tp ba en tA fl de iD iO tU fm fk fa fc ft ff fb fi]) := hD
      exact mret_i hx hb hr hlocks hS (Nat.le_of_ble_eq_true rfl) (Nat.le_of_ble_eq_true rfl) dX12_sell_68 ((2 : Int32), ac, fc, fm, (0 : Int32)) rfl (show ((fm 0).toInt = (fm 0).toInt ∧ (fm 3).toInt = (fm 3).toInt ∧ (fm 4).toInt = (fm 4).toInt) ∧ (rM fm) ∧ (rC fc) ∧ (0 ≤ ac.toInt ∧ ac.toInt ≤ 12) ∧ (zMa fc fc ac.toInt ac.toInt fm) from ⟨(by first | assumption | omega | decide | exact rfl | exact zb01 (by omega) | exact Or.inl (by decide) | exact Or.inr (by first | omega | decide)), rfm, rfc, hac, zMa_0⟩) hP hD
  · skip
    refine lv_if_ne (tgt := 13) hx hb dX12_sell_6 (by decide) (fun c45 => absurd (by decide) c45) (fun _ => ?_)
    refine lv_iconst (v := 1) hx hb dX12_sell_9 (by decide) ?_
    refine lv_goto (tgt := 57) hx hb dX12_sell_10 (by decide) ?_
    refine va_put (D := g.1) (ci := 10) (v := .int 1) (ty := .int) (C := RX12) (T := TX12) (N := 20) hx hb hts izRX12 tyX12 tyX12_ok nmX12 hown hK hP hD hS 0 rfl rfl 0 (by decide) (hts _ k825) (fun _ h9 => h9) rfl (by decide +kernel) rfl rfl (Nat.le_of_ble_eq_true rfl) dX12_sell_57 (fun H locs hP hD hS => ?_)
    have hP : va_P g.1 vwCl (List.flatten [bMo g o a 1 hi ac tp ba en tA fl de iD iO tU fm fk fa fc ft ff fb fi]) H := hP
    have hD : va_D A (List.flatten [bMo g o a 1 hi ac tp ba en tA fl de iD iO tU fm fk fa fc ft ff fb fi]) := hD
    refine lv_aload_n hx hb dX12_sell_60 rfl (lv_at hl 0 rfl) ?_
    refine va_get (D := g.1) (ci := 10) (v := .int 1) (C := RX12) (T := TX12) (N := 20) hx hb hts izRX12 hown hK hP 0 rfl rfl 0 (by decide) (hts _ k825) (fun _ h9 => h9) rfl dX12_sell_61 ?_
    refine lv_if_le (tgt := 69) hx hb dX12_sell_64 (by decide) (fun c46 => absurd c46 (by decide)) (fun _ => ?_)
    refine lv_iconst (v := 0) hx hb dX12_sell_67 (by decide) ?_
    have hP : va_P g.1 vwCl (List.flatten [bMo g o a 1 hi ac tp ba en tA fl de iD iO tU fm fk fa fc ft ff fb fi]) H := hP
    have hD : va_D A (List.flatten [bMo g o a 1 hi ac tp ba en tA fl de iD iO tU fm fk fa fc ft ff fb fi]) := hD
    exact mret_i hx hb hr hlocks hS (Nat.le_of_ble_eq_true rfl) (Nat.le_of_ble_eq_true rfl) dX12_sell_68 ((1 : Int32), ac, fc, fm, (0 : Int32)) rfl (show ((fm 0).toInt = (fm 0).toInt ∧ (fm 3).toInt = (fm 3).toInt ∧ (fm 4).toInt = (fm 4).toInt) ∧ (rM fm) ∧ (rC fc) ∧ (0 ≤ ac.toInt ∧ ac.toInt ≤ 12) ∧ (zMa fc fc ac.toInt ac.toInt fm) from ⟨(by first | assumption | omega | decide | exact rfl | exact zb01 (by omega) | exact Or.inl (by decide) | exact Or.inr (by first | omega | decide)), rfm, rfc, hac, zMa_0⟩) hP hD
set_option maxRecDepth 100000 in
set_option maxHeartbeats 4000000 in
theorem m_dry (l : Launch) (g : zG) (o : Nat) (a : Nat → Nat) (th : Int32) (hi : Int32) (ac : Int32) (tp : Int32) (ba : Int32) (en : Int32) (tA : Int32) (fl : Int32) (de : Int32) (iD : Int32) (iO : Int32) (tU : Int32) (fm : Nat → Int32) (fk : Nat → Int32) (fa : Nat → Int32) (fc : Nat → Int32) (ft : Nat → Int32) (ff : Nat → Int32) (fb : Nat → Int32) (fi : Nat → Int32) (x : Int32) (is : Int32) (rfm : rM fm) (rfc : rC fc) (hac : 0 ≤ ac.toInt ∧ ac.toInt ≤ 12) : zM' g l yX12_dry (Cond.code yX12_dry cX12_dry 4 (some .boolean) :: zB) ({ frames := 2, cells := 0, slots := 0, locals := 43 } : Room) [.ref o, .int x, .int is] [bMo g o a th hi ac tp ba en tA fl de iD iO tU fm fk fa fc ft ff fb fi] (fun u : Int32 × Int32 × (Nat → Int32) × (Nat → Int32) × Int32 => (fun (th2 : Int32) (ac2 : Int32) (fc2 : Nat → Int32) (fm2 : Nat → Int32) (q : Int32) => some (.int q)) (u.1) (u.2.1) (u.2.2.1) (u.2.2.2.1) (u.2.2.2.2)) (fun u : Int32 × Int32 × (Nat → Int32) × (Nat → Int32) × Int32 => (fun (th2 : Int32) (ac2 : Int32) (fc2 : Nat → Int32) (fm2 : Nat → Int32) (q : Int32) => ((fm2 0).toInt = (fm 0).toInt ∧ (fm2 3).toInt = (fm 3).toInt ∧ (fm2 4).toInt = (fm 4).toInt) ∧ (rM fm2) ∧ (rC fc2) ∧ (0 ≤ ac2.toInt ∧ ac2.toInt ≤ 12) ∧ (zMa fc fc2 ac.toInt ac2.toInt fm) ∧ (q = 0 ∨ q = 1)) (u.1) (u.2.1) (u.2.2.1) (u.2.2.2.1) (u.2.2.2.2)) (fun u : Int32 × Int32 × (Nat → Int32) × (Nat → Int32) × Int32 => (fun (th2 : Int32) (ac2 : Int32) (fc2 : Nat → Int32) (fm2 : Nat → Int32) (q : Int32) => [bMo g o a th2 hi ac2 tp ba en tA fl de iD iO tU fm2 fk fa fc2 ft ff fb fi]) (u.1) (u.2.1) (u.2.2.1) (u.2.2.2.1) (u.2.2.2.2)) := by
  refine zM'.of (cc := cX12_dry) (maxL := 4) (rt := (some .boolean)) (by decide) rfl (Nat.le_of_ble_eq_true rfl) ?_
  intro p e s m args below meth c A ls St hr hlocks hin hK hT hA hP hD hS hl
  obtain ⟨hx, hb, hml, hown, hts⟩ := id St
  have hl : lv_has ls 4 [(0, .ref o), (1, .int x), (2, .int is)] := hl
  refine lv_aload_n hx hb dX12_dry_0 rfl (lv_at hl 0 rfl) ?_
  refine lv_aload_n hx hb dX12_dry_1 rfl (lv_at hl 0 rfl) ?_
  refine lv_iload_n hx hb dX12_dry_2 rfl (lv_at hl 1 rfl) ?_
  refine mcallV' (g := g) (q0 := 0) (ci := 10) (As := [.int x]) (rest := [.ref o]) St hK hT hA hP hD hS hl.1 [0] [] rfl rfl rfl (m_isPerson l g o a th hi ac tp ba en tA fl de iD iO tU fm fk fa fc ft ff fb fi x rfm) (cwV 1 hts (zgL (zl4 k1033 k1034 k1035 k839) k836) rfl rfl rfl (by decide +kernel) ⟨Nat.le_of_ble_eq_true rfl, Nat.le_of_ble_eq_true rfl⟩) rfl rfl rfl rfl (Nat.le_of_ble_eq_true rfl) dX12_dry_3 ⟨(Nat.le_of_ble_eq_true rfl), (Nat.le_of_ble_eq_true rfl)⟩ (fun q_1 H locs hq2 hP hD hS => ?_)
  replace hq2 : (q_1 = 1 ∧ 0 ≤ x.toInt ∧ x.toInt ≤ 7 ∧ x.toInt < (fm 3).toInt ∨ q_1 = 0) := hq2
  have hP : va_P g.1 vwCl (List.flatten [bMo g o a th hi ac tp ba en tA fl de iD iO tU fm fk fa fc ft ff fb fi]) H := hP
  have hD : va_D A (List.flatten [bMo g o a th hi ac tp ba en tA fl de iD iO tU fm fk fa fc ft ff fb fi]) := hD
  refine W.widen (k := 0) (n := 0) (Nat.le_of_ble_eq_true rfl) (Nat.le_of_ble_eq_true rfl) ?_
  refine W.eq (g2 := F0 m 6 ls [.int q_1, .ref o]) rfl ?_
  rcases hq2 with ⟨rfl, hq2_k⟩ | rfl
  · skip
    refine lv_if_ne (tgt := 13) hx hb dX12_dry_6 (by decide) (fun _ => ?_) (fun c3 => absurd c3 (by decide))
    refine lv_iconst (v := 0) hx hb dX12_dry_13 (by decide) ?_
    refine va_put (D := g.1) (ci := 10) (v := .int 0) (ty := .int) (C := RX12) (T := TX12) (N := 20) hx hb hts izRX12 tyX12 tyX12_ok nmX12 hown hK hP hD hS 0 rfl rfl 0 (by decide) (hts _ k825) (fun _ h9 => h9) rfl (by decide +kernel) rfl rfl (Nat.le_of_ble_eq_true rfl) dX12_dry_14 (fun H locs hP hD hS => ?_)
    have hP : va_P g.1 vwCl (List.flatten [bMo g o a 0 hi ac tp ba en tA fl de iD iO tU fm fk fa fc ft ff fb fi]) H := hP
    have hD : va_D A (List.flatten [bMo g o a 0 hi ac tp ba en tA fl de iD iO tU fm fk fa fc ft ff fb fi]) := hD
    refine lv_aload_n hx hb dX12_dry_17 rfl (lv_at hl 0 rfl) ?_
    refine va_get (D := g.1) (ci := 10) (v := .int 0) (C := RX12) (T := TX12) (N := 20) hx hb hts izRX12 hown hK hP 0 rfl rfl 0 (by decide) (hts _ k825) (fun _ h9 => h9) rfl dX12_dry_18 ?_
    refine lv_if_le (tgt := 26) hx hb dX12_dry_21 (by decide) (fun _ => ?_) (fun c4 => absurd (by decide) c4)
    refine lv_aload_n hx hb dX12_dry_26 rfl (lv_at hl 0 rfl) ?_
    refine mcallV' (g := g) (q0 := 0) (ci := 10) (As := []) (rest := []) St hK hT hA hP hD hS hl.1 [0] [] rfl rfl rfl (m_remembers l g o a 0 hi ac tp ba en tA fl de iD iO tU fm fk fa fc ft ff fb fi rfm rfc hac) (cwV 0 hts (zgL (zl4 k1047 k1048 k1049 k839) k1046) rfl rfl rfl (by decide +kernel) ⟨Nat.le_of_ble_eq_true rfl, Nat.le_of_ble_eq_true rfl⟩) rfl rfl rfl rfl (Nat.le_of_ble_eq_true rfl) dX12_dry_27 ⟨(Nat.le_of_ble_eq_true rfl), (Nat.le_of_ble_eq_true rfl)⟩ (fun u_ H locs hq7 hP hD hS => ?_)
    obtain ⟨ac2_5, fc2_6⟩ := u_
    replace hq7 : (rC fc2_6) ∧ (0 ≤ ac2_5.toInt ∧ ac2_5.toInt ≤ 12) ∧ (zRem fc fc2_6 ac.toInt ac2_5.toInt fm) := hq7
    have hP : va_P g.1 vwCl (List.flatten [bMo g o a 0 hi ac2_5 tp ba en tA fl de iD iO tU fm fk fa fc2_6 ft ff fb fi]) H := hP
    have hD : va_D A (List.flatten [bMo g o a 0 hi ac2_5 tp ba en tA fl de iD iO tU fm fk fa fc2_6 ft ff fb fi]) := hD
    refine W.widen (k := 0) (n := 0) (Nat.le_of_ble_eq_true rfl) (Nat.le_of_ble_eq_true rfl) ?_
    refine W.eq (g2 := F0 m 30 ls []) rfl ?_
    obtain ⟨rfc2_6, hq7_1, hq7_2⟩ := hq7
    refine lv_aload_n hx hb dX12_dry_30 rfl (lv_at hl 0 rfl) ?_
    refine lv_iload_n hx hb dX12_dry_31 rfl (lv_at hl 1 rfl) ?_
    refine lv_iconst (v := 3) hx hb dX12_dry_32 (by decide) ?_
    have hL3 : (3 : Int32).toInt = 3 := by decide
    refine mcallV' (g := g) (q0 := 0) (ci := 10) (As := [.int x, .int 3]) (rest := []) St hK hT hA hP hD hS hl.1 [0] [] rfl rfl rfl (m_of l g o a 0 hi ac2_5 tp ba en tA fl de iD iO tU fm fk fa fc2_6 ft ff fb fi x 3 (by first | assumption | omega | decide | exact Or.inl (by decide) | exact Or.inr (by decide)) (by decide)) (cwV 2 hts (zgL (zl4 k842 k843 k844 k839) k831) rfl rfl rfl (by decide +kernel) ⟨Nat.le_of_ble_eq_true rfl, Nat.le_of_ble_eq_true rfl⟩) rfl rfl rfl rfl (Nat.le_of_ble_eq_true rfl) dX12_dry_33 ⟨(Nat.le_of_ble_eq_true rfl), (Nat.le_of_ble_eq_true rfl)⟩ (fun q_8 H locs hq9 hP hD hS => ?_)
    have hP : va_P g.1 vwCl (List.flatten [bMo g o a 0 hi ac2_5 tp ba en tA fl de iD iO tU fm fk fa fc2_6 ft ff fb fi]) H := hP
    have hD : va_D A (List.flatten [bMo g o a 0 hi ac2_5 tp ba en tA fl de iD iO tU fm fk fa fc2_6 ft ff fb fi]) := hD
    refine W.widen (k := 0) (n := 0) (Nat.le_of_ble_eq_true rfl) (Nat.le_of_ble_eq_true rfl) ?_
    refine W.eq (g2 := F0 m 36 ls [.int q_8]) rfl ?_
    refine lv_iconst (v := 1) hx hb dX12_dry_36 (by decide) ?_
    refine lv_icmp_ne (tgt := 44) hx hb dX12_dry_37 (by decide) (fun cb9 => ?_) (fun cb9 => ?_)
    · skip
      have c10 : ¬ q_8.toInt = 1 := zne cb9 rfl (by decide)
      refine lv_iconst (v := 0) hx hb dX12_dry_44 (by decide) ?_
      refine lv_istore_n (lv' := [(3, .int 0), (0, .ref o), (1, .int x), (2, .int is)]) hx hb dX12_dry_45 rfl hl (by decide) rfl (fun ls hl => ?_)
      refine lv_aload_n hx hb dX12_dry_46 rfl (lv_at hl 1 rfl) ?_
      refine lv_iload_n hx hb dX12_dry_47 rfl (lv_at hl 2 rfl) ?_
      refine lv_iconst (v := 3) hx hb dX12_dry_48 (by decide) ?_
      refine lv_iload_n hx hb dX12_dry_49 rfl (lv_at hl 3 rfl) ?_
      refine lv_if_eq (tgt := 57) hx hb dX12_dry_50 (by decide) (fun cb9 => ?_) (fun cb9 => ?_)
      · skip
        have c11 : is.toInt = 0 := zeq cb9 rfl (by decide)
        have n12 : 0 ≤ is.toInt := Int.le_trans (Int.le_refl _) (Int.le_of_eq c11.symm)
        have n13 : is.toInt ≤ 0 := Int.le_trans (Int.le_of_eq c11) (Int.le_refl _)
        refine lv_iconst (v := 0) hx hb dX12_dry_57 (by decide) ?_
        refine mcallV' (g := g) (q0 := 0) (ci := 10) (As := [.int x, .int 3, .int 0]) (rest := []) St hK hT hA hP hD hS hl.1 [0] [] rfl rfl rfl (m_put l g o a 0 hi ac2_5 tp ba en tA fl de iD iO tU fm fk fa fc2_6 ft ff fb fi x 3 0 rfm (by first | assumption | omega | decide | exact Or.inl (by decide) | exact Or.inr (by decide)) (by decide)) (cwV 3 hts (zgL (zl4 k909 k910 k911 k839) k832) rfl rfl rfl (by decide +kernel) ⟨Nat.le_of_ble_eq_true rfl, Nat.le_of_ble_eq_true rfl⟩) rfl rfl rfl rfl (Nat.le_of_ble_eq_true rfl) dX12_dry_58 ⟨(Nat.le_of_ble_eq_true rfl), (Nat.le_of_ble_eq_true rfl)⟩ (fun fm2_14 H locs hq15 hP hD hS => ?_)
        replace hq15 : ((fm2_14 0).toInt = (fm 0).toInt ∧ (fm2_14 3).toInt = (fm 3).toInt ∧ (fm2_14 4).toInt = (fm 4).toInt) ∧ (rM fm2_14) ∧ ((fm2_14 3).toInt = (fm 3).toInt ∧ (fm2_14 4).toInt = (fm 4).toInt) := hq15
        have hP : va_P g.1 vwCl (List.flatten [bMo g o a 0 hi ac2_5 tp ba en tA fl de iD iO tU fm2_14 fk fa fc2_6 ft ff fb fi]) H := hP
        have hD : va_D A (List.flatten [bMo g o a 0 hi ac2_5 tp ba en tA fl de iD iO tU fm2_14 fk fa fc2_6 ft ff fb fi]) := hD
        refine W.widen (k := 0) (n := 0) (Nat.le_of_ble_eq_true rfl) (Nat.le_of_ble_eq_true rfl) ?_
        refine W.eq (g2 := F0 m 61 ls []) rfl ?_
        obtain ⟨hq15_0, rfm2_14, hq15_2⟩ := hq15
        refine lv_iload_n hx hb dX12_dry_61 rfl (lv_at hl 0 rfl) ?_
        refine lv_iload_n hx hb dX12_dry_62 rfl (lv_at hl 3 rfl) ?_
        refine lv_icmp_eq (tgt := 70) hx hb dX12_dry_63 (by decide) (fun cb9 => ?_) (fun cb9 => ?_)
        · skip
          have c16 : 0 = is.toInt := zeq cb9 (by decide) rfl
          refine lv_iconst (v := 0) hx hb dX12_dry_70 (by decide) ?_
          have hP : va_P g.1 vwCl (List.flatten [bMo g o a 0 hi ac2_5 tp ba en tA fl de iD iO tU fm2_14 fk fa fc2_6 ft ff fb fi]) H := hP
          have hD : va_D A (List.flatten [bMo g o a 0 hi ac2_5 tp ba en tA fl de iD iO tU fm2_14 fk fa fc2_6 ft ff fb fi]) := hD
          exact mret_z hx hb hr hlocks hS (Nat.le_of_ble_eq_true rfl) (Nat.le_of_ble_eq_true rfl) dX12_dry_71 ((0 : Int32), ac2_5, fc2_6, fm2_14, (0 : Int32)) rfl (by decide) (show ((fm2_14 0).toInt = (fm 0).toInt ∧ (fm2_14 3).toInt = (fm 3).toInt ∧ (fm2_14 4).toInt = (fm 4).toInt) ∧ (rM fm2_14) ∧ (rC fc2_6) ∧ (0 ≤ ac2_5.toInt ∧ ac2_5.toInt ≤ 12) ∧ (zMa fc fc2_6 ac.toInt ac2_5.toInt fm) ∧ (0 = 0 ∨ 0 = 1) from ⟨hq15_0, rfm2_14, rfc2_6, hq7_1, (Or.inr hq7_2), (by decide)⟩) hP hD
        · skip
          exact absurd (show ¬ 0 = is.toInt from zne cb9 (by decide) rfl) (by omega)
      · skip
        have c18 : ¬ is.toInt = 0 := zne cb9 rfl (by decide)
        refine lv_iconst (v := 1) hx hb dX12_dry_53 (by decide) ?_
        refine lv_goto (tgt := 58) hx hb dX12_dry_54 (by decide) ?_
        refine mcallV' (g := g) (q0 := 0) (ci := 10) (As := [.int x, .int 3, .int 1]) (rest := []) St hK hT hA hP hD hS hl.1 [0] [] rfl rfl rfl (m_put l g o a 0 hi ac2_5 tp ba en tA fl de iD iO tU fm fk fa fc2_6 ft ff fb fi x 3 1 rfm (by first | assumption | omega | decide | exact Or.inl (by decide) | exact Or.inr (by decide)) (by decide)) (cwV 3 hts (zgL (zl4 k909 k910 k911 k839) k832) rfl rfl rfl (by decide +kernel) ⟨Nat.le_of_ble_eq_true rfl, Nat.le_of_ble_eq_true rfl⟩) rfl rfl rfl rfl (Nat.le_of_ble_eq_true rfl) dX12_dry_58 ⟨(Nat.le_of_ble_eq_true rfl), (Nat.le_of_ble_eq_true rfl)⟩ (fun fm2_19 H locs hq20 hP hD hS => ?_)
        replace hq20 : ((fm2_19 0).toInt = (fm 0).toInt ∧ (fm2_19 3).toInt = (fm 3).toInt ∧ (fm2_19 4).toInt = (fm 4).toInt) ∧ (rM fm2_19) ∧ ((fm2_19 3).toInt = (fm 3).toInt ∧ (fm2_19 4).toInt = (fm 4).toInt) := hq20
        have hP : va_P g.1 vwCl (List.flatten [bMo g o a 0 hi ac2_5 tp ba en tA fl de iD iO tU fm2_19 fk fa fc2_6 ft ff fb fi]) H := hP
        have hD : va_D A (List.flatten [bMo g o a 0 hi ac2_5 tp ba en tA fl de iD iO tU fm2_19 fk fa fc2_6 ft ff fb fi]) := hD
        refine W.widen (k := 0) (n := 0) (Nat.le_of_ble_eq_true rfl) (Nat.le_of_ble_eq_true rfl) ?_
        refine W.eq (g2 := F0 m 61 ls []) rfl ?_
        obtain ⟨hq20_0, rfm2_19, hq20_2⟩ := hq20
        refine lv_iload_n hx hb dX12_dry_61 rfl (lv_at hl 0 rfl) ?_
        refine lv_iload_n hx hb dX12_dry_62 rfl (lv_at hl 3 rfl) ?_
        refine lv_icmp_eq (tgt := 70) hx hb dX12_dry_63 (by decide) (fun cb9 => ?_) (fun cb9 => ?_)
        · skip
          have c21 : 0 = is.toInt := zeq cb9 (by decide) rfl
          have n22 : 0 ≤ is.toInt := Int.le_trans (Int.le_refl _) (Int.le_of_eq c21)
          have n23 : is.toInt ≤ 0 := Int.le_trans (Int.le_of_eq c21.symm) (Int.le_refl _)
          refine lv_iconst (v := 0) hx hb dX12_dry_70 (by decide) ?_
          have hP : va_P g.1 vwCl (List.flatten [bMo g o a 0 hi ac2_5 tp ba en tA fl de iD iO tU fm2_19 fk fa fc2_6 ft ff fb fi]) H := hP
          have hD : va_D A (List.flatten [bMo g o a 0 hi ac2_5 tp ba en tA fl de iD iO tU fm2_19 fk fa fc2_6 ft ff fb fi]) := hD
          exact mret_z hx hb hr hlocks hS (Nat.le_of_ble_eq_true rfl) (Nat.le_of_ble_eq_true rfl) dX12_dry_71 ((0 : Int32), ac2_5, fc2_6, fm2_19, (0 : Int32)) rfl (by decide) (show ((fm2_19 0).toInt = (fm 0).toInt ∧ (fm2_19 3).toInt = (fm 3).toInt ∧ (fm2_19 4).toInt = (fm 4).toInt) ∧ (rM fm2_19) ∧ (rC fc2_6) ∧ (0 ≤ ac2_5.toInt ∧ ac2_5.toInt ≤ 12) ∧ (zMa fc fc2_6 ac.toInt ac2_5.toInt fm) ∧ (0 = 0 ∨ 0 = 1) from ⟨hq20_0, rfm2_19, rfc2_6, hq7_1, (Or.inr hq7_2), (by decide)⟩) hP hD
        · skip
          have c24 : ¬ 0 = is.toInt := zne cb9 (by decide) rfl
          refine lv_iconst (v := 1) hx hb dX12_dry_66 (by decide) ?_
          refine lv_goto (tgt := 71) hx hb dX12_dry_67 (by decide) ?_
          have hP : va_P g.1 vwCl (List.flatten [bMo g o a 0 hi ac2_5 tp ba en tA fl de iD iO tU fm2_19 fk fa fc2_6 ft ff fb fi]) H := hP
          have hD : va_D A (List.flatten [bMo g o a 0 hi ac2_5 tp ba en tA fl de iD iO tU fm2_19 fk fa fc2_6 ft ff fb fi]) := hD
          exact mret_z hx hb hr hlocks hS (Nat.le_of_ble_eq_true rfl) (Nat.le_of_ble_eq_true rfl) dX12_dry_71 ((0 : Int32), ac2_5, fc2_6, fm2_19, (1 : Int32)) rfl (by decide) (show ((fm2_19 0).toInt = (fm 0).toInt ∧ (fm2_19 3).toInt = (fm 3).toInt ∧ (fm2_19 4).toInt = (fm 4).toInt) ∧ (rM fm2_19) ∧ (rC fc2_6) ∧ (0 ≤ ac2_5.toInt ∧ ac2_5.toInt ≤ 12) ∧ (zMa fc fc2_6 ac.toInt ac2_5.toInt fm) ∧ (1 = 0 ∨ 1 = 1) from ⟨hq20_0, rfm2_19, rfc2_6, hq7_1, (Or.inr hq7_2), (by decide)⟩) hP hD
    · skip
      have c25 : q_8.toInt = 1 := zeq cb9 rfl (by decide)
      have n26 : 1 ≤ q_8.toInt := Int.le_trans (Int.le_refl _) (Int.le_of_eq c25.symm)
      have n27 : q_8.toInt ≤ 1 := Int.le_trans (Int.le_of_eq c25) (Int.le_refl _)
      refine lv_iconst (v := 1) hx hb dX12_dry_40 (by decide) ?_
      refine lv_goto (tgt := 45) hx hb dX12_dry_41 (by decide) ?_
      refine lv_istore_n (lv' := [(3, .int 1), (0, .ref o), (1, .int x), (2, .int is)]) hx hb dX12_dry_45 rfl hl (by decide) rfl (fun ls hl => ?_)
      refine lv_aload_n hx hb dX12_dry_46 rfl (lv_at hl 1 rfl) ?_
      refine lv_iload_n hx hb dX12_dry_47 rfl (lv_at hl 2 rfl) ?_
      refine lv_iconst (v := 3) hx hb dX12_dry_48 (by decide) ?_
      refine lv_iload_n hx hb dX12_dry_49 rfl (lv_at hl 3 rfl) ?_
      refine lv_if_eq (tgt := 57) hx hb dX12_dry_50 (by decide) (fun cb9 => ?_) (fun cb9 => ?_)
      · skip
        have c28 : is.toInt = 0 := zeq cb9 rfl (by decide)
        have n29 : 0 ≤ is.toInt := Int.le_trans (Int.le_refl _) (Int.le_of_eq c28.symm)
        have n30 : is.toInt ≤ 0 := Int.le_trans (Int.le_of_eq c28) (Int.le_refl _)
        refine lv_iconst (v := 0) hx hb dX12_dry_57 (by decide) ?_
        refine mcallV' (g := g) (q0 := 0) (ci := 10) (As := [.int x, .int 3, .int 0]) (rest := []) St hK hT hA hP hD hS hl.1 [0] [] rfl rfl rfl (m_put l g o a 0 hi ac2_5 tp ba en tA fl de iD iO tU fm fk fa fc2_6 ft ff fb fi x 3 0 rfm (by first | assumption | omega | decide | exact Or.inl (by decide) | exact Or.inr (by decide)) (by decide)) (cwV 3 hts (zgL (zl4 k909 k910 k911 k839) k832) rfl rfl rfl (by decide +kernel) ⟨Nat.le_of_ble_eq_true rfl, Nat.le_of_ble_eq_true rfl⟩) rfl rfl rfl rfl (Nat.le_of_ble_eq_true rfl) dX12_dry_58 ⟨(Nat.le_of_ble_eq_true rfl), (Nat.le_of_ble_eq_true rfl)⟩ (fun fm2_31 H locs hq32 hP hD hS => ?_)
        replace hq32 : ((fm2_31 0).toInt = (fm 0).toInt ∧ (fm2_31 3).toInt = (fm 3).toInt ∧ (fm2_31 4).toInt = (fm 4).toInt) ∧ (rM fm2_31) ∧ ((fm2_31 3).toInt = (fm 3).toInt ∧ (fm2_31 4).toInt = (fm 4).toInt) := hq32
        have hP : va_P g.1 vwCl (List.flatten [bMo g o a 0 hi ac2_5 tp ba en tA fl de iD iO tU fm2_31 fk fa fc2_6 ft ff fb fi]) H := hP
        have hD : va_D A (List.flatten [bMo g o a 0 hi ac2_5 tp ba en tA fl de iD iO tU fm2_31 fk fa fc2_6 ft ff fb fi]) := hD
        refine W.widen (k := 0) (n := 0) (Nat.le_of_ble_eq_true rfl) (Nat.le_of_ble_eq_true rfl) ?_
        refine W.eq (g2 := F0 m 61 ls []) rfl ?_
        obtain ⟨hq32_0, rfm2_31, hq32_2⟩ := hq32
        refine lv_iload_n hx hb dX12_dry_61 rfl (lv_at hl 0 rfl) ?_
        refine lv_iload_n hx hb dX12_dry_62 rfl (lv_at hl 3 rfl) ?_
        refine lv_icmp_eq (tgt := 70) hx hb dX12_dry_63 (by decide) (fun cb9 => ?_) (fun cb9 => ?_)
        · skip
          exact absurd (show 1 = is.toInt from zeq cb9 (by decide) rfl) (zDeq2 (a := 1) (b := 0) (Int.le_refl _) n30 (by decide))
        · skip
          have c34 : ¬ 1 = is.toInt := zne cb9 (by decide) rfl
          refine lv_iconst (v := 1) hx hb dX12_dry_66 (by decide) ?_
          refine lv_goto (tgt := 71) hx hb dX12_dry_67 (by decide) ?_
          have hP : va_P g.1 vwCl (List.flatten [bMo g o a 0 hi ac2_5 tp ba en tA fl de iD iO tU fm2_31 fk fa fc2_6 ft ff fb fi]) H := hP
          have hD : va_D A (List.flatten [bMo g o a 0 hi ac2_5 tp ba en tA fl de iD iO tU fm2_31 fk fa fc2_6 ft ff fb fi]) := hD
          exact mret_z hx hb hr hlocks hS (Nat.le_of_ble_eq_true rfl) (Nat.le_of_ble_eq_true rfl) dX12_dry_71 ((0 : Int32), ac2_5, fc2_6, fm2_31, (1 : Int32)) rfl (by decide) (show ((fm2_31 0).toInt = (fm 0).toInt ∧ (fm2_31 3).toInt = (fm 3).toInt ∧ (fm2_31 4).toInt = (fm 4).toInt) ∧ (rM fm2_31) ∧ (rC fc2_6) ∧ (0 ≤ ac2_5.toInt ∧ ac2_5.toInt ≤ 12) ∧ (zMa fc fc2_6 ac.toInt ac2_5.toInt fm) ∧ (1 = 0 ∨ 1 = 1) from ⟨hq32_0, rfm2_31, rfc2_6, hq7_1, (Or.inr hq7_2), (by decide)⟩) hP hD
      · skip
        have c35 : ¬ is.toInt = 0 := zne cb9 rfl (by decide)
        refine lv_iconst (v := 1) hx hb dX12_dry_53 (by decide) ?_
        refine lv_goto (tgt := 58) hx hb dX12_dry_54 (by decide) ?_
        refine mcallV' (g := g) (q0 := 0) (ci := 10) (As := [.int x, .int 3, .int 1]) (rest := []) St hK hT hA hP hD hS hl.1 [0] [] rfl rfl rfl (m_put l g o a 0 hi ac2_5 tp ba en tA fl de iD iO tU fm fk fa fc2_6 ft ff fb fi x 3 1 rfm (by first | assumption | omega | decide | exact Or.inl (by decide) | exact Or.inr (by decide)) (by decide)) (cwV 3 hts (zgL (zl4 k909 k910 k911 k839) k832) rfl rfl rfl (by decide +kernel) ⟨Nat.le_of_ble_eq_true rfl, Nat.le_of_ble_eq_true rfl⟩) rfl rfl rfl rfl (Nat.le_of_ble_eq_true rfl) dX12_dry_58 ⟨(Nat.le_of_ble_eq_true rfl), (Nat.le_of_ble_eq_true rfl)⟩ (fun fm2_36 H locs hq37 hP hD hS => ?_)
        replace hq37 : ((fm2_36 0).toInt = (fm 0).toInt ∧ (fm2_36 3).toInt = (fm 3).toInt ∧ (fm2_36 4).toInt = (fm 4).toInt) ∧ (rM fm2_36) ∧ ((fm2_36 3).toInt = (fm 3).toInt ∧ (fm2_36 4).toInt = (fm 4).toInt) := hq37
        have hP : va_P g.1 vwCl (List.flatten [bMo g o a 0 hi ac2_5 tp ba en tA fl de iD iO tU fm2_36 fk fa fc2_6 ft ff fb fi]) H := hP
        have hD : va_D A (List.flatten [bMo g o a 0 hi ac2_5 tp ba en tA fl de iD iO tU fm2_36 fk fa fc2_6 ft ff fb fi]) := hD
        refine W.widen (k := 0) (n := 0) (Nat.le_of_ble_eq_true rfl) (Nat.le_of_ble_eq_true rfl) ?_
        refine W.eq (g2 := F0 m 61 ls []) rfl ?_
        obtain ⟨hq37_0, rfm2_36, hq37_2⟩ := hq37
        refine lv_iload_n hx hb dX12_dry_61 rfl (lv_at hl 0 rfl) ?_
        refine lv_iload_n hx hb dX12_dry_62 rfl (lv_at hl 3 rfl) ?_
        refine lv_icmp_eq (tgt := 70) hx hb dX12_dry_63 (by decide) (fun cb9 => ?_) (fun cb9 => ?_)
        · skip
          have c38 : 1 = is.toInt := zeq cb9 (by decide) rfl
          have n39 : 1 ≤ is.toInt := Int.le_trans (Int.le_refl _) (Int.le_of_eq c38)
          have n40 : is.toInt ≤ 1 := Int.le_trans (Int.le_of_eq c38.symm) (Int.le_refl _)
          refine lv_iconst (v := 0) hx hb dX12_dry_70 (by decide) ?_
          have hP : va_P g.1 vwCl (List.flatten [bMo g o a 0 hi ac2_5 tp ba en tA fl de iD iO tU fm2_36 fk fa fc2_6 ft ff fb fi]) H := hP
          have hD : va_D A (List.flatten [bMo g o a 0 hi ac2_5 tp ba en tA fl de iD iO tU fm2_36 fk fa fc2_6 ft ff fb fi]) := hD
          exact mret_z hx hb hr hlocks hS (Nat.le_of_ble_eq_true rfl) (Nat.le_of_ble_eq_true rfl) dX12_dry_71 ((0 : Int32), ac2_5, fc2_6, fm2_36, (0 : Int32)) rfl (by decide) (show ((fm2_36 0).toInt = (fm 0).toInt ∧ (fm2_36 3).toInt = (fm 3).toInt ∧ (fm2_36 4).toInt = (fm 4).toInt) ∧ (rM fm2_36) ∧ (rC fc2_6) ∧ (0 ≤ ac2_5.toInt ∧ ac2_5.toInt ≤ 12) ∧ (zMa fc fc2_6 ac.toInt ac2_5.toInt fm) ∧ (0 = 0 ∨ 0 = 1) from ⟨hq37_0, rfm2_36, rfc2_6, hq7_1, (Or.inr hq7_2), (by decide)⟩) hP hD
        · skip
          have c41 : ¬ 1 = is.toInt := zne cb9 (by decide) rfl
          refine lv_iconst (v := 1) hx hb dX12_dry_66 (by decide) ?_
          refine lv_goto (tgt := 71) hx hb dX12_dry_67 (by decide) ?_
          have hP : va_P g.1 vwCl (List.flatten [bMo g o a 0 hi ac2_5 tp ba en tA fl de iD iO tU fm2_36 fk fa fc2_6 ft ff fb fi]) H := hP
          have hD : va_D A (List.flatten [bMo g o a 0 hi ac2_5 tp ba en tA fl de iD iO tU fm2_36 fk fa fc2_6 ft ff fb fi]) := hD
          exact mret_z hx hb hr hlocks hS (Nat.le_of_ble_eq_true rfl) (Nat.le_of_ble_eq_true rfl) dX12_dry_71 ((0 : Int32), ac2_5, fc2_6, fm2_36, (1 : Int32)) rfl (by decide) (show ((fm2_36 0).toInt = (fm 0).toInt ∧ (fm2_36 3).toInt = (fm 3).toInt ∧ (fm2_36 4).toInt = (fm 4).toInt) ∧ (rM fm2_36) ∧ (rC fc2_6) ∧ (0 ≤ ac2_5.toInt ∧ ac2_5.toInt ≤ 12) ∧ (zMa fc fc2_6 ac.toInt ac2_5.toInt fm) ∧ (1 = 0 ∨ 1 = 1) from ⟨hq37_0, rfm2_36, rfc2_6, hq7_1, (Or.inr hq7_2), (by decide)⟩) hP hD
  · skip
    refine lv_if_ne (tgt := 13) hx hb dX12_dry_6 (by decide) (fun c42 => absurd (by decide) c42) (fun _ => ?_)
    refine lv_iconst (v := 1) hx hb dX12_dry_9 (by decide) ?_
    refine lv_goto (tgt := 14) hx hb dX12_dry_10 (by decide) ?_
    refine va_put (D := g.1) (ci := 10) (v := .int 1) (ty := .int) (C := RX12) (T := TX12) (N := 20) hx hb hts izRX12 tyX12 tyX12_ok nmX12 hown hK hP hD hS 0 rfl rfl 0 (by decide) (hts _ k825) (fun _ h9 => h9) rfl (by decide +kernel) rfl rfl (Nat.le_of_ble_eq_true rfl) dX12_dry_14 (fun H locs hP hD hS => ?_)
    have hP : va_P g.1 vwCl (List.flatten [bMo g o a 1 hi ac tp ba en tA fl de iD iO tU fm fk fa fc ft ff fb fi]) H := hP
    have hD : va_D A (List.flatten [bMo g o a 1 hi ac tp ba en tA fl de iD iO tU fm fk fa fc ft ff fb fi]) := hD
    refine lv_aload_n hx hb dX12_dry_17 rfl (lv_at hl 0 rfl) ?_
    refine va_get (D := g.1) (ci := 10) (v := .int 1) (C := RX12) (T := TX12) (N := 20) hx hb hts izRX12 hown hK hP 0 rfl rfl 0 (by decide) (hts _ k825) (fun _ h9 => h9) rfl dX12_dry_18 ?_
    refine lv_if_le (tgt := 26) hx hb dX12_dry_21 (by decide) (fun c43 => absurd c43 (by decide)) (fun _ => ?_)
    refine lv_iconst (v := 0) hx hb dX12_dry_24 (by decide) ?_
    have hP : va_P g.1 vwCl (List.flatten [bMo g o a 1 hi ac tp ba en tA fl de iD iO tU fm fk fa fc ft ff fb fi]) H := hP
    have hD : va_D A (List.flatten [bMo g o a 1 hi ac tp ba en tA fl de iD iO tU fm fk fa fc ft ff fb fi]) := hD
    exact mret_z hx hb hr hlocks hS (Nat.le_of_ble_eq_true rfl) (Nat.le_of_ble_eq_true rfl) dX12_dry_25 ((1 : Int32), ac, fc, fm, (0 : Int32)) rfl (by decide) (show ((fm 0).toInt = (fm 0).toInt ∧ (fm 3).toInt = (fm 3).toInt ∧ (fm 4).toInt = (fm 4).toInt) ∧ (rM fm) ∧ (rC fc) ∧ (0 ≤ ac.toInt ∧ ac.toInt ≤ 12) ∧ (zMa fc fc ac.toInt ac.toInt fm) ∧ (0 = 0 ∨ 0 = 1) from ⟨(by first | assumption | omega | decide | exact rfl | exact zb01 (by omega) | exact Or.inl (by decide) | exact Or.inr (by first | omega | decide)), rfm, rfc, hac, zMa_0, (by decide)⟩) hP hD
set_option maxRecDepth 100000 in
set_option maxHeartbeats 4000000 in
theorem m_days (l : Launch) (g : zG) (o : Nat) (a : Nat → Nat) (th : Int32) (hi : Int32) (ac : Int32) (tp : Int32) (ba : Int32) (en : Int32) (tA : Int32) (fl : Int32) (de : Int32) (iD : Int32) (iO : Int32) (tU : Int32) (fm : Nat → Int32) (fk : Nat → Int32) (fa : Nat → Int32) (fc : Nat → Int32) (ft : Nat → Int32) (ff : Nat → Int32) (fb : Nat → Int32) (fi : Nat → Int32) (n : Int32) (rfm : rM fm) (rfc : rC fc) (hac : 0 ≤ ac.toInt ∧ ac.toInt ≤ 12) (hiD : 0 ≤ iD.toInt ∧ iD.toInt ≤ 1) (hiO : 0 ≤ iO.toInt ∧ iO.toInt ≤ 1) : zM' g l yX12_days (Cond.code yX12_days cX12_days 2 (some .int) :: zB) ({ frames := 33, cells := 0, slots := 0, locals := 736 } : Room) [.ref o, .int n] [bMo g o a th hi ac tp ba en tA fl de iD iO tU fm fk fa fc ft ff fb fi] (fun u : Int32 × Int32 × Int32 × Int32 × Int32 × Int32 × Int32 × Int32 × (Nat → Int32) × (Nat → Int32) × (Nat → Int32) × Int32 × (Nat → Int32) × Int32 => (fun (th2 : Int32) (ba2 : Int32) (en2 : Int32) (at2 : Int32) (de2 : Int32) (iD2 : Int32) (iO2 : Int32) (tU2 : Int32) (ff2 : Nat → Int32) (fm2 : Nat → Int32) (fb2 : Nat → Int32) (ac2 : Int32) (fc2 : Nat → Int32) (q : Int32) => some (.int q)) (u.1) (u.2.1) (u.2.2.1) (u.2.2.2.1) (u.2.2.2.2.1) (u.2.2.2.2.2.1) (u.2.2.2.2.2.2.1) (u.2.2.2.2.2.2.2.1) (u.2.2.2.2.2.2.2.2.1) (u.2.2.2.2.2.2.2.2.2.1) (u.2.2.2.2.2.2.2.2.2.2.1) (u.2.2.2.2.2.2.2.2.2.2.2.1) (u.2.2.2.2.2.2.2.2.2.2.2.2.1) (u.2.2.2.2.2.2.2.2.2.2.2.2.2)) (fun u : Int32 × Int32 × Int32 × Int32 × Int32 × Int32 × Int32 × Int32 × (Nat → Int32) × (Nat → Int32) × (Nat → Int32) × Int32 × (Nat → Int32) × Int32 => (fun (th2 : Int32) (ba2 : Int32) (en2 : Int32) (at2 : Int32) (de2 : Int32) (iD2 : Int32) (iO2 : Int32) (tU2 : Int32) (ff2 : Nat → Int32) (fm2 : Nat → Int32) (fb2 : Nat → Int32) (ac2 : Int32) (fc2 : Nat → Int32) (q : Int32) => ((fm2 0).toInt = (fm 0).toInt ∧ (fm2 3).toInt = (fm 3).toInt ∧ (fm2 4).toInt = (fm 4).toInt) ∧ (rC fc2) ∧ (0 ≤ ac2.toInt ∧ ac2.toInt ≤ 12) ∧ (rM fm2) ∧ (0 ≤ iO2.toInt ∧ iO2.toInt ≤ 1) ∧ (0 ≤ iD2.toInt ∧ iD2.toInt ≤ 1) ∧ (zMa fc fc2 ac.toInt ac2.toInt fm)) (u.1) (u.2.1) (u.2.2.1) (u.2.2.2.1) (u.2.2.2.2.1) (u.2.2.2.2.2.1) (u.2.2.2.2.2.2.1) (u.2.2.2.2.2.2.2.1) (u.2.2.2.2.2.2.2.2.1) (u.2.2.2.2.2.2.2.2.2.1) (u.2.2.2.2.2.2.2.2.2.2.1) (u.2.2.2.2.2.2.2.2.2.2.2.1) (u.2.2.2.2.2.2.2.2.2.2.2.2.1) (u.2.2.2.2.2.2.2.2.2.2.2.2.2)) (fun u : Int32 × Int32 × Int32 × Int32 × Int32 × Int32 × Int32 × Int32 × (Nat → Int32) × (Nat → Int32) × (Nat → Int32) × Int32 × (Nat → Int32) × Int32 => (fun (th2 : Int32) (ba2 : Int32) (en2 : Int32) (at2 : Int32) (de2 : Int32) (iD2 : Int32) (iO2 : Int32) (tU2 : Int32) (ff2 : Nat → Int32) (fm2 : Nat → Int32) (fb2 : Nat → Int32) (ac2 : Int32) (fc2 : Nat → Int32) (q : Int32) => [bMo g o a th2 hi ac2 tp ba2 en2 at2 fl de2 iD2 iO2 tU2 fm2 fk fa fc2 ft ff2 fb2 fi]) (u.1) (u.2.1) (u.2.2.1) (u.2.2.2.1) (u.2.2.2.2.1) (u.2.2.2.2.2.1) (u.2.2.2.2.2.2.1) (u.2.2.2.2.2.2.2.1) (u.2.2.2.2.2.2.2.2.1) (u.2.2.2.2.2.2.2.2.2.1) (u.2.2.2.2.2.2.2.2.2.2.1) (u.2.2.2.2.2.2.2.2.2.2.2.1) (u.2.2.2.2.2.2.2.2.2.2.2.2.1) (u.2.2.2.2.2.2.2.2.2.2.2.2.2)) := by
  refine zM'.of (cc := cX12_days) (maxL := 2) (rt := (some .int)) (by decide) rfl (Nat.le_of_ble_eq_true rfl) ?_
  intro p e s m args below meth c A ls St hr hlocks hin hK hT hA hP hD hS hl
  obtain ⟨hx, hb, hml, hown, hts⟩ := id St
  have hl : lv_has ls 2 [(0, .ref o), (1, .int n)] := hl
  refine lv_aload_n hx hb dX12_days_0 rfl (lv_at hl 0 rfl) ?_
  refine lv_iload_n hx hb dX12_days_1 rfl (lv_at hl 1 rfl) ?_
  refine lv_iconst (v := 1) hx hb dX12_days_2 (by decide) ?_
  refine lv_bipush (v := 60) hx hb dX12_days_3 (by decide) ?_
  have hL1 : (1 : Int32).toInt = 1 := by decide
  have hL60 : (60 : Int32).toInt = 60 := by decide
  refine mcallS' (g := g) (As := [.int n, .int 1, .int 60]) (rest := [.ref o]) St hK hT hA hP hD hS hl.1 [] [0] rfl rfl rfl (m_isIn l g n 1 60 ) (va_cwS 3 hts (zgL (zl3 k837 k838 k839) k826) rfl rfl rfl (by decide +kernel) ⟨Nat.le_of_ble_eq_true rfl, Nat.le_of_ble_eq_true rfl⟩) rfl rfl (Nat.le_of_ble_eq_true rfl) dX12_days_5 ⟨(Nat.le_of_ble_eq_true rfl), (Nat.le_of_ble_eq_true rfl)⟩ (fun q_1 H locs hq2 hP hD hS => ?_)
  replace hq2 : (q_1 = 1 ∧ (1 : Int32).toInt ≤ n.toInt ∧ n.toInt ≤ (60 : Int32).toInt ∨ q_1 = 0 ∧ (n.toInt < (1 : Int32).toInt ∨ (60 : Int32).toInt < n.toInt)) := hq2
  have hP : va_P g.1 vwCl (List.flatten [bMo g o a th hi ac tp ba en tA fl de iD iO tU fm fk fa fc ft ff fb fi]) H := hP
  have hD : va_D A (List.flatten [bMo g o a th hi ac tp ba en tA fl de iD iO tU fm fk fa fc ft ff fb fi]) := hD
  refine W.widen (k := 0) (n := 0) (Nat.le_of_ble_eq_true rfl) (Nat.le_of_ble_eq_true rfl) ?_
  refine W.eq (g2 := F0 m 8 ls [.int q_1, .ref o]) rfl ?_
  rcases hq2 with ⟨rfl, hq2_k⟩ | ⟨rfl, hq2_k⟩
  · skip
    refine lv_if_ne (tgt := 15) hx hb dX12_days_8 (by decide) (fun _ => ?_) (fun c3 => absurd c3 (by decide))
    refine lv_iconst (v := 0) hx hb dX12_days_15 (by decide) ?_
    refine va_put (D := g.1) (ci := 10) (v := .int 0) (ty := .int) (C := RX12) (T := TX12) (N := 20) hx hb hts izRX12 tyX12 tyX12_ok nmX12 hown hK hP hD hS 0 rfl rfl 0 (by decide) (hts _ k825) (fun _ h9 => h9) rfl (by decide +kernel) rfl rfl (Nat.le_of_ble_eq_true rfl) dX12_days_16 (fun H locs hP hD hS => ?_)
    have hP : va_P g.1 vwCl (List.flatten [bMo g o a 0 hi ac tp ba en tA fl de iD iO tU fm fk fa fc ft ff fb fi]) H := hP
    have hD : va_D A (List.flatten [bMo g o a 0 hi ac tp ba en tA fl de iD iO tU fm fk fa fc ft ff fb fi]) := hD
    refine lv_aload_n hx hb dX12_days_19 rfl (lv_at hl 0 rfl) ?_
    refine va_get (D := g.1) (ci := 10) (v := .int 0) (C := RX12) (T := TX12) (N := 20) hx hb hts izRX12 hown hK hP 0 rfl rfl 0 (by decide) (hts _ k825) (fun _ h9 => h9) rfl dX12_days_20 ?_
    refine lv_if_le (tgt := 28) hx hb dX12_days_23 (by decide) (fun _ => ?_) (fun c4 => absurd (by decide) c4)
    refine lv_aload_n hx hb dX12_days_28 rfl (lv_at hl 0 rfl) ?_
    refine mcallV' (g := g) (q0 := 0) (ci := 10) (As := []) (rest := []) St hK hT hA hP hD hS hl.1 [0] [] rfl rfl rfl (m_remembers l g o a 0 hi ac tp ba en tA fl de iD iO tU fm fk fa fc ft ff fb fi rfm rfc hac) (cwV 0 hts (zgL (zl4 k1047 k1048 k1049 k839) k1046) rfl rfl rfl (by decide +kernel) ⟨Nat.le_of_ble_eq_true rfl, Nat.le_of_ble_eq_true rfl⟩) rfl rfl rfl rfl (Nat.le_of_ble_eq_true rfl) dX12_days_29 ⟨(Nat.le_of_ble_eq_true rfl), (Nat.le_of_ble_eq_true rfl)⟩ (fun u_ H locs hq7 hP hD hS => ?_)
    obtain ⟨ac2_5, fc2_6⟩ := u_
    replace hq7 : (rC fc2_6) ∧ (0 ≤ ac2_5.toInt ∧ ac2_5.toInt ≤ 12) ∧ (zRem fc fc2_6 ac.toInt ac2_5.toInt fm) := hq7
    have hP : va_P g.1 vwCl (List.flatten [bMo g o a 0 hi ac2_5 tp ba en tA fl de iD iO tU fm fk fa fc2_6 ft ff fb fi]) H := hP
    have hD : va_D A (List.flatten [bMo g o a 0 hi ac2_5 tp ba en tA fl de iD iO tU fm fk fa fc2_6 ft ff fb fi]) := hD
    refine W.widen (k := 0) (n := 0) (Nat.le_of_ble_eq_true rfl) (Nat.le_of_ble_eq_true rfl) ?_
    refine W.eq (g2 := F0 m 32 ls []) rfl ?_
    obtain ⟨rfc2_6, hq7_1, hq7_2⟩ := hq7
    refine lv_aload_n hx hb dX12_days_32 rfl (lv_at hl 0 rfl) ?_
    refine lv_iload_n hx hb dX12_days_33 rfl (lv_at hl 1 rfl) ?_
    refine lv_iconst (v := 1) hx hb dX12_days_34 (by decide) ?_
    refine mcallV' (g := g) (q0 := 0) (ci := 10) (As := [.int n, .int 1]) (rest := []) St hK hT hA hP hD hS hl.1 [0] [] rfl rfl rfl (m_goes l g o a 0 hi ac2_5 tp ba en tA fl de iD iO tU fm fk fa fc2_6 ft ff fb fi n 1 rfm hiD hiO (by first | assumption | omega | decide | exact Or.inl (by decide) | exact Or.inr (by decide))) (cwV 2 hts (zgL (zl4 k1057 k1058 k1059 k839) k1028) rfl rfl rfl (by decide +kernel) ⟨Nat.le_of_ble_eq_true rfl, Nat.le_of_ble_eq_true rfl⟩) rfl rfl rfl rfl (Nat.le_of_ble_eq_true rfl) dX12_days_35 ⟨(Nat.le_of_ble_eq_true rfl), (Nat.le_of_ble_eq_true rfl)⟩ (fun u_ H locs hq19 hP hD hS => ?_)
    obtain ⟨ba2_8, en2_9, at2_10, de2_11, iD2_12, iO2_13, tU2_14, ff2_15, fm2_16, fb2_17, q_18⟩ := u_
    replace hq19 : ((fm2_16 0).toInt = (fm 0).toInt ∧ (fm2_16 3).toInt = (fm 3).toInt ∧ (fm2_16 4).toInt = (fm 4).toInt) ∧ (rM fm2_16) ∧ (0 ≤ iO2_13.toInt ∧ iO2_13.toInt ≤ 1) ∧ (0 ≤ iD2_12.toInt ∧ iD2_12.toInt ≤ 1) := hq19
    have hP : va_P g.1 vwCl (List.flatten [bMo g o a 0 hi ac2_5 tp ba2_8 en2_9 at2_10 fl de2_11 iD2_12 iO2_13 tU2_14 fm2_16 fk fa fc2_6 ft ff2_15 fb2_17 fi]) H := hP
    have hD : va_D A (List.flatten [bMo g o a 0 hi ac2_5 tp ba2_8 en2_9 at2_10 fl de2_11 iD2_12 iO2_13 tU2_14 fm2_16 fk fa fc2_6 ft ff2_15 fb2_17 fi]) := hD
    refine W.widen (k := 0) (n := 0) (Nat.le_of_ble_eq_true rfl) (Nat.le_of_ble_eq_true rfl) ?_
    refine W.eq (g2 := F0 m 38 ls [.int q_18]) rfl ?_
    obtain ⟨hq19_0, rfm2_16, hq19_2, hq19_3⟩ := hq19
    have hP : va_P g.1 vwCl (List.flatten [bMo g o a 0 hi ac2_5 tp ba2_8 en2_9 at2_10 fl de2_11 iD2_12 iO2_13 tU2_14 fm2_16 fk fa fc2_6 ft ff2_15 fb2_17 fi]) H := hP
    have hD : va_D A (List.flatten [bMo g o a 0 hi ac2_5 tp ba2_8 en2_9 at2_10 fl de2_11 iD2_12 iO2_13 tU2_14 fm2_16 fk fa fc2_6 ft ff2_15 fb2_17 fi]) := hD
    exact mret_i hx hb hr hlocks hS (Nat.le_of_ble_eq_true rfl) (Nat.le_of_ble_eq_true rfl) dX12_days_38 ((0 : Int32), ba2_8, en2_9, at2_10, de2_11, iD2_12, iO2_13, tU2_14, ff2_15, fm2_16, fb2_17, ac2_5, fc2_6, q_18) rfl (show ((fm2_16 0).toInt = (fm 0).toInt ∧ (fm2_16 3).toInt = (fm 3).toInt ∧ (fm2_16 4).toInt = (fm 4).toInt) ∧ (rC fc2_6) ∧ (0 ≤ ac2_5.toInt ∧ ac2_5.toInt ≤ 12) ∧ (rM fm2_16) ∧ (0 ≤ iO2_13.toInt ∧ iO2_13.toInt ≤ 1) ∧ (0 ≤ iD2_12.toInt ∧ iD2_12.toInt ≤ 1) ∧ (zMa fc fc2_6 ac.toInt ac2_5.toInt fm) from ⟨hq19_0, rfc2_6, hq7_1, rfm2_16, hq19_2, hq19_3, (Or.inr hq7_2)⟩) hP hD
  · skip
    refine lv_if_ne (tgt := 15) hx hb dX12_days_8 (by decide) (fun c20 => absurd (by decide) c20) (fun _ => ?_)
    refine lv_iconst (v := 1) hx hb dX12_days_11 (by decide) ?_
    refine lv_goto (tgt := 16) hx hb dX12_days_12 (by decide) ?_
    refine va_put (D := g.1) (ci := 10) (v := .int 1) (ty := .int) (C := RX12) (T := TX12) (N := 20) hx hb hts izRX12 tyX12 tyX12_ok nmX12 hown hK hP hD hS 0 rfl rfl 0 (by decide) (hts _ k825) (fun _ h9 => h9) rfl (by decide +kernel) rfl rfl (Nat.le_of_ble_eq_true rfl) dX12_days_16 (fun H locs hP hD hS => ?_)
    have hP : va_P g.1 vwCl (List.flatten [bMo g o a 1 hi ac tp ba en tA fl de iD iO tU fm fk fa fc ft ff fb fi]) H := hP
    have hD : va_D A (List.flatten [bMo g o a 1 hi ac tp ba en tA fl de iD iO tU fm fk fa fc ft ff fb fi]) := hD
    refine lv_aload_n hx hb dX12_days_19 rfl (lv_at hl 0 rfl) ?_
    refine va_get (D := g.1) (ci := 10) (v := .int 1) (C := RX12) (T := TX12) (N := 20) hx hb hts izRX12 hown hK hP 0 rfl rfl 0 (by decide) (hts _ k825) (fun _ h9 => h9) rfl dX12_days_20 ?_
    refine lv_if_le (tgt := 28) hx hb dX12_days_23 (by decide) (fun c21 => absurd c21 (by decide)) (fun _ => ?_)
    refine lv_iconst (v := 0) hx hb dX12_days_26 (by decide) ?_
    have hP : va_P g.1 vwCl (List.flatten [bMo g o a 1 hi ac tp ba en tA fl de iD iO tU fm fk fa fc ft ff fb fi]) H := hP
    have hD : va_D A (List.flatten [bMo g o a 1 hi ac tp ba en tA fl de iD iO tU fm fk fa fc ft ff fb fi]) := hD
    exact mret_i hx hb hr hlocks hS (Nat.le_of_ble_eq_true rfl) (Nat.le_of_ble_eq_true rfl) dX12_days_27 ((1 : Int32), ba, en, tA, de, iD, iO, tU, ff, fm, fb, ac, fc, (0 : Int32)) rfl (show ((fm 0).toInt = (fm 0).toInt ∧ (fm 3).toInt = (fm 3).toInt ∧ (fm 4).toInt = (fm 4).toInt) ∧ (rC fc) ∧ (0 ≤ ac.toInt ∧ ac.toInt ≤ 12) ∧ (rM fm) ∧ (0 ≤ iO.toInt ∧ iO.toInt ≤ 1) ∧ (0 ≤ iD.toInt ∧ iD.toInt ≤ 1) ∧ (zMa fc fc ac.toInt ac.toInt fm) from ⟨(by first | assumption | omega | decide | exact rfl | exact zb01 (by omega) | exact Or.inl (by decide) | exact Or.inr (by first | omega | decide)), rfc, hac, rfm, hiO, hiD, zMa_0⟩) hP hD
set_option maxRecDepth 100000 in
set_option maxHeartbeats 4000000 in
theorem m_ahead (l : Launch) (g : zG) (o : Nat) (a : Nat → Nat) (th : Int32) (hi : Int32) (ac : Int32) (tp : Int32) (ba : Int32) (en : Int32) (tA : Int32) (fl : Int32) (de : Int32) (iD : Int32) (iO : Int32) (tU : Int32) (fm : Nat → Int32) (fk : Nat → Int32) (fa : Nat → Int32) (fc : Nat → Int32) (ft : Nat → Int32) (ff : Nat → Int32) (fb : Nat → Int32) (fi : Nat → Int32) (x : Int32) (n : Int32) (rfm : rM fm) (rfa : rM fa) (hiD : 0 ≤ iD.toInt ∧ iD.toInt ≤ 1) (hiO : 0 ≤ iO.toInt ∧ iO.toInt ≤ 1) : zM' g l yX12_ahead (Cond.code yX12_ahead cX12_ahead 5 (some .int) :: zB) ({ frames := 33, cells := 0, slots := 0, locals := 736 } : Room) [.ref o, .int x, .int n] [bMo g o a th hi ac tp ba en tA fl de iD iO tU fm fk fa fc ft ff fb fi] (fun u : Int32 × Int32 × Int32 × Int32 × Int32 × Int32 × Int32 × Int32 × (Nat → Int32) × (Nat → Int32) × (Nat → Int32) × (Nat → Int32) × Int32 => (fun (th2 : Int32) (ba2 : Int32) (en2 : Int32) (at2 : Int32) (de2 : Int32) (iD2 : Int32) (iO2 : Int32) (tU2 : Int32) (ff2 : Nat → Int32) (fm2 : Nat → Int32) (fb2 : Nat → Int32) (fa2 : Nat → Int32) (q : Int32) => some (.int q)) (u.1) (u.2.1) (u.2.2.1) (u.2.2.2.1) (u.2.2.2.2.1) (u.2.2.2.2.2.1) (u.2.2.2.2.2.2.1) (u.2.2.2.2.2.2.2.1) (u.2.2.2.2.2.2.2.2.1) (u.2.2.2.2.2.2.2.2.2.1) (u.2.2.2.2.2.2.2.2.2.2.1) (u.2.2.2.2.2.2.2.2.2.2.2.1) (u.2.2.2.2.2.2.2.2.2.2.2.2)) (fun u : Int32 × Int32 × Int32 × Int32 × Int32 × Int32 × Int32 × Int32 × (Nat → Int32) × (Nat → Int32) × (Nat → Int32) × (Nat → Int32) × Int32 => (fun (th2 : Int32) (ba2 : Int32) (en2 : Int32) (at2 : Int32) (de2 : Int32) (iD2 : Int32) (iO2 : Int32) (tU2 : Int32) (ff2 : Nat → Int32) (fm2 : Nat → Int32) (fb2 : Nat → Int32) (fa2 : Nat → Int32) (q : Int32) => ((fm2 0).toInt = (fm 0).toInt ∧ (fm2 3).toInt = (fm 3).toInt ∧ (fm2 4).toInt = (fm 4).toInt) ∧ (rM fa2) ∧ (rM fm2) ∧ (0 ≤ iO2.toInt ∧ iO2.toInt ≤ 1) ∧ (0 ≤ iD2.toInt ∧ iD2.toInt ≤ 1)) (u.1) (u.2.1) (u.2.2.1) (u.2.2.2.1) (u.2.2.2.2.1) (u.2.2.2.2.2.1) (u.2.2.2.2.2.2.1) (u.2.2.2.2.2.2.2.1) (u.2.2.2.2.2.2.2.2.1) (u.2.2.2.2.2.2.2.2.2.1) (u.2.2.2.2.2.2.2.2.2.2.1) (u.2.2.2.2.2.2.2.2.2.2.2.1) (u.2.2.2.2.2.2.2.2.2.2.2.2)) (fun u : Int32 × Int32 × Int32 × Int32 × Int32 × Int32 × Int32 × Int32 × (Nat → Int32) × (Nat → Int32) × (Nat → Int32) × (Nat → Int32) × Int32 => (fun (th2 : Int32) (ba2 : Int32) (en2 : Int32) (at2 : Int32) (de2 : Int32) (iD2 : Int32) (iO2 : Int32) (tU2 : Int32) (ff2 : Nat → Int32) (fm2 : Nat → Int32) (fb2 : Nat → Int32) (fa2 : Nat → Int32) (q : Int32) => [bMo g o a th2 hi ac tp ba2 en2 at2 fl de2 iD2 iO2 tU2 fm2 fk fa2 fc ft ff2 fb2 fi]) (u.1) (u.2.1) (u.2.2.1) (u.2.2.2.1) (u.2.2.2.2.1) (u.2.2.2.2.2.1) (u.2.2.2.2.2.2.1) (u.2.2.2.2.2.2.2.1) (u.2.2.2.2.2.2.2.2.1) (u.2.2.2.2.2.2.2.2.2.1) (u.2.2.2.2.2.2.2.2.2.2.1) (u.2.2.2.2.2.2.2.2.2.2.2.1) (u.2.2.2.2.2.2.2.2.2.2.2.2)) := by
  refine zM'.of (cc := cX12_ahead) (maxL := 5) (rt := (some .int)) (by decide) rfl (Nat.le_of_ble_eq_true rfl) ?_
  intro p e s m args below meth c A ls St hr hlocks hin hK hT hA hP hD hS hl
  obtain ⟨hx, hb, hml, hown, hts⟩ := id St
  have hl : lv_has ls 5 [(0, .ref o), (1, .int x), (2, .int n)] := hl
  refine lv_aload_n hx hb dX12_ahead_0 rfl (lv_at hl 0 rfl) ?_
  refine lv_aload_n hx hb dX12_ahead_1 rfl (lv_at hl 0 rfl) ?_
  refine lv_iload_n hx hb dX12_ahead_2 rfl (lv_at hl 1 rfl) ?_
  refine mcallV' (g := g) (q0 := 0) (ci := 10) (As := [.int x]) (rest := [.ref o]) St hK hT hA hP hD hS hl.1 [0] [] rfl rfl rfl (m_isPerson l g o a th hi ac tp ba en tA fl de iD iO tU fm fk fa fc ft ff fb fi x rfm) (cwV 1 hts (zgL (zl4 k1033 k1034 k1035 k839) k836) rfl rfl rfl (by decide +kernel) ⟨Nat.le_of_ble_eq_true rfl, Nat.le_of_ble_eq_true rfl⟩) rfl rfl rfl rfl (Nat.le_of_ble_eq_true rfl) dX12_ahead_3 ⟨(Nat.le_of_ble_eq_true rfl), (Nat.le_of_ble_eq_true rfl)⟩ (fun q_1 H locs hq2 hP hD hS => ?_)
  replace hq2 : (q_1 = 1 ∧ 0 ≤ x.toInt ∧ x.toInt ≤ 7 ∧ x.toInt < (fm 3).toInt ∨ q_1 = 0) := hq2
  have hP : va_P g.1 vwCl (List.flatten [bMo g o a th hi ac tp ba en tA fl de iD iO tU fm fk fa fc ft ff fb fi]) H := hP
  have hD : va_D A (List.flatten [bMo g o a th hi ac tp ba en tA fl de iD iO tU fm fk fa fc ft ff fb fi]) := hD
  refine W.widen (k := 0) (n := 0) (Nat.le_of_ble_eq_true rfl) (Nat.le_of_ble_eq_true rfl) ?_
  refine W.eq (g2 := F0 m 6 ls [.int q_1, .ref o]) rfl ?_
  rcases hq2 with ⟨rfl, hq2_k⟩ | rfl
  · skip
    refine lv_if_ne (tgt := 13) hx hb dX12_ahead_6 (by decide) (fun _ => ?_) (fun c3 => absurd c3 (by decide))
    refine lv_iload_n hx hb dX12_ahead_13 rfl (lv_at hl 2 rfl) ?_
    refine lv_iconst (v := 0) hx hb dX12_ahead_14 (by decide) ?_
    refine lv_bipush (v := 100) hx hb dX12_ahead_15 (by decide) ?_
    have hL0 : (0 : Int32).toInt = 0 := by decide
    have hL100 : (100 : Int32).toInt = 100 := by decide
    refine mcallS' (g := g) (As := [.int n, .int 0, .int 100]) (rest := [.ref o]) St hK hT hA hP hD hS hl.1 [] [0] rfl rfl rfl (m_isIn l g n 0 100 ) (va_cwS 3 hts (zgL (zl3 k837 k838 k839) k826) rfl rfl rfl (by decide +kernel) ⟨Nat.le_of_ble_eq_true rfl, Nat.le_of_ble_eq_true rfl⟩) rfl rfl (Nat.le_of_ble_eq_true rfl) dX12_ahead_17 ⟨(Nat.le_of_ble_eq_true rfl), (Nat.le_of_ble_eq_true rfl)⟩ (fun q_4 H locs hq5 hP hD hS => ?_)
    replace hq5 : (q_4 = 1 ∧ (0 : Int32).toInt ≤ n.toInt ∧ n.toInt ≤ (100 : Int32).toInt ∨ q_4 = 0 ∧ (n.toInt < (0 : Int32).toInt ∨ (100 : Int32).toInt < n.toInt)) := hq5
    have hP : va_P g.1 vwCl (List.flatten [bMo g o a th hi ac tp ba en tA fl de iD iO tU fm fk fa fc ft ff fb fi]) H := hP
    have hD : va_D A (List.flatten [bMo g o a th hi ac tp ba en tA fl de iD iO tU fm fk fa fc ft ff fb fi]) := hD
    refine W.widen (k := 0) (n := 0) (Nat.le_of_ble_eq_true rfl) (Nat.le_of_ble_eq_true rfl) ?_
    refine W.eq (g2 := F0 m 20 ls [.int q_4, .ref o]) rfl ?_
    rcases hq5 with ⟨rfl, hq5_k⟩ | ⟨rfl, hq5_k⟩
    · skip
      refine lv_if_ne (tgt := 27) hx hb dX12_ahead_20 (by decide) (fun _ => ?_) (fun c6 => absurd c6 (by decide))
      refine lv_iconst (v := 0) hx hb dX12_ahead_27 (by decide) ?_
      refine va_put (D := g.1) (ci := 10) (v := .int 0) (ty := .int) (C := RX12) (T := TX12) (N := 20) hx hb hts izRX12 tyX12 tyX12_ok nmX12 hown hK hP hD hS 0 rfl rfl 0 (by decide) (hts _ k825) (fun _ h9 => h9) rfl (by decide +kernel) rfl rfl (Nat.le_of_ble_eq_true rfl) dX12_ahead_28 (fun H locs hP hD hS => ?_)
      have hP : va_P g.1 vwCl (List.flatten [bMo g o a 0 hi ac tp ba en tA fl de iD iO tU fm fk fa fc ft ff fb fi]) H := hP
      have hD : va_D A (List.flatten [bMo g o a 0 hi ac tp ba en tA fl de iD iO tU fm fk fa fc ft ff fb fi]) := hD
      refine lv_aload_n hx hb dX12_ahead_31 rfl (lv_at hl 0 rfl) ?_
      refine va_get (D := g.1) (ci := 10) (v := .int 0) (C := RX12) (T := TX12) (N := 20) hx hb hts izRX12 hown hK hP 0 rfl rfl 0 (by decide) (hts _ k825) (fun _ h9 => h9) rfl dX12_ahead_32 ?_
      refine lv_if_le (tgt := 40) hx hb dX12_ahead_35 (by decide) (fun _ => ?_) (fun c7 => absurd (by decide) c7)
      refine lv_aload_n hx hb dX12_ahead_40 rfl (lv_at hl 0 rfl) ?_
      refine mcallV' (g := g) (q0 := 0) (ci := 10) (As := []) (rest := []) St hK hT hA hP hD hS hl.1 [0] [] rfl rfl rfl (m_putsAside l g o a 0 hi ac tp ba en tA fl de iD iO tU fm fk fa fc ft ff fb fi rfm rfa) (cwV 0 hts (zgL (zl4 k975 k976 k977 k839) k972) rfl rfl rfl (by decide +kernel) ⟨Nat.le_of_ble_eq_true rfl, Nat.le_of_ble_eq_true rfl⟩) rfl rfl rfl rfl (Nat.le_of_ble_eq_true rfl) dX12_ahead_41 ⟨(Nat.le_of_ble_eq_true rfl), (Nat.le_of_ble_eq_true rfl)⟩ (fun fa2_8 H locs hq9 hP hD hS => ?_)
      replace hq9 : (rM fa2_8) ∧ (zCy fa fa2_8 0 fm 0 379) ∧ ((fa2_8 0).toInt = (fm 0).toInt ∧ (fa2_8 3).toInt = (fm 3).toInt ∧ (fa2_8 4).toInt = (fm 4).toInt) := hq9
      have hP : va_P g.1 vwCl (List.flatten [bMo g o a 0 hi ac tp ba en tA fl de iD iO tU fm fk fa2_8 fc ft ff fb fi]) H := hP
      have hD : va_D A (List.flatten [bMo g o a 0 hi ac tp ba en tA fl de iD iO tU fm fk fa2_8 fc ft ff fb fi]) := hD
      refine W.widen (k := 0) (n := 0) (Nat.le_of_ble_eq_true rfl) (Nat.le_of_ble_eq_true rfl) ?_
      refine W.eq (g2 := F0 m 44 ls []) rfl ?_
      obtain ⟨rfa2_8, hq9_1, hq9_2⟩ := hq9
      refine lv_aload_n hx hb dX12_ahead_44 rfl (lv_at hl 0 rfl) ?_
      refine lv_iload_n hx hb dX12_ahead_45 rfl (lv_at hl 2 rfl) ?_
      refine lv_iconst (v := 0) hx hb dX12_ahead_46 (by decide) ?_
      refine mcallV' (g := g) (q0 := 0) (ci := 10) (As := [.int n, .int 0]) (rest := []) St hK hT hA hP hD hS hl.1 [0] [] rfl rfl rfl (m_goes l g o a 0 hi ac tp ba en tA fl de iD iO tU fm fk fa2_8 fc ft ff fb fi n 0 rfm hiD hiO (by first | assumption | omega | decide | exact Or.inl (by decide) | exact Or.inr (by decide))) (cwV 2 hts (zgL (zl4 k1057 k1058 k1059 k839) k1028) rfl rfl rfl (by decide +kernel) ⟨Nat.le_of_ble_eq_true rfl, Nat.le_of_ble_eq_true rfl⟩) rfl rfl rfl rfl (Nat.le_of_ble_eq_true rfl) dX12_ahead_47 ⟨(Nat.le_of_ble_eq_true rfl), (Nat.le_of_ble_eq_true rfl)⟩ (fun u_ H locs hq21 hP hD hS => ?_)
      obtain ⟨ba2_10, en2_11, at2_12, de2_13, iD2_14, iO2_15, tU2_16, ff2_17, fm2_18, fb2_19, q_20⟩ := u_
      replace hq21 : ((fm2_18 0).toInt = (fm 0).toInt ∧ (fm2_18 3).toInt = (fm 3).toInt ∧ (fm2_18 4).toInt = (fm 4).toInt) ∧ (rM fm2_18) ∧ (0 ≤ iO2_15.toInt ∧ iO2_15.toInt ≤ 1) ∧ (0 ≤ iD2_14.toInt ∧ iD2_14.toInt ≤ 1) := hq21
      have hP : va_P g.1 vwCl (List.flatten [bMo g o a 0 hi ac tp ba2_10 en2_11 at2_12 fl de2_13 iD2_14 iO2_15 tU2_16 fm2_18 fk fa2_8 fc ft ff2_17 fb2_19 fi]) H := hP
      have hD : va_D A (List.flatten [bMo g o a 0 hi ac tp ba2_10 en2_11 at2_12 fl de2_13 iD2_14 iO2_15 tU2_16 fm2_18 fk fa2_8 fc ft ff2_17 fb2_19 fi]) := hD
      refine W.widen (k := 0) (n := 0) (Nat.le_of_ble_eq_true rfl) (Nat.le_of_ble_eq_true rfl) ?_
      refine W.eq (g2 := F0 m 50 ls [.int q_20]) rfl ?_
      obtain ⟨hq21_0, rfm2_18, hq21_2, hq21_3⟩ := hq21
      refine lv_istore_n (lv' := [(3, .int q_20), (0, .ref o), (1, .int x), (2, .int n)]) hx hb dX12_ahead_50 rfl hl (by decide) rfl (fun ls hl => ?_)
      refine lv_aload_n hx hb dX12_ahead_51 rfl (lv_at hl 1 rfl) ?_
      refine lv_iload_n hx hb dX12_ahead_52 rfl (lv_at hl 2 rfl) ?_
      refine lv_iconst (v := 0) hx hb dX12_ahead_53 (by decide) ?_
      refine mcallV' (g := g) (q0 := 0) (ci := 10) (As := [.int x, .int 0]) (rest := []) St hK hT hA hP hD hS hl.1 [0] [] rfl rfl rfl (m_of l g o a 0 hi ac tp ba2_10 en2_11 at2_12 fl de2_13 iD2_14 iO2_15 tU2_16 fm2_18 fk fa2_8 fc ft ff2_17 fb2_19 fi x 0 (by first | assumption | omega | decide | exact Or.inl (by decide) | exact Or.inr (by decide)) (by decide)) (cwV 2 hts (zgL (zl4 k842 k843 k844 k839) k831) rfl rfl rfl (by decide +kernel) ⟨Nat.le_of_ble_eq_true rfl, Nat.le_of_ble_eq_true rfl⟩) rfl rfl rfl rfl (Nat.le_of_ble_eq_true rfl) dX12_ahead_54 ⟨(Nat.le_of_ble_eq_true rfl), (Nat.le_of_ble_eq_true rfl)⟩ (fun q_22 H locs hq23 hP hD hS => ?_)
      have hP : va_P g.1 vwCl (List.flatten [bMo g o a 0 hi ac tp ba2_10 en2_11 at2_12 fl de2_13 iD2_14 iO2_15 tU2_16 fm2_18 fk fa2_8 fc ft ff2_17 fb2_19 fi]) H := hP
      have hD : va_D A (List.flatten [bMo g o a 0 hi ac tp ba2_10 en2_11 at2_12 fl de2_13 iD2_14 iO2_15 tU2_16 fm2_18 fk fa2_8 fc ft ff2_17 fb2_19 fi]) := hD
      refine W.widen (k := 0) (n := 0) (Nat.le_of_ble_eq_true rfl) (Nat.le_of_ble_eq_true rfl) ?_
      refine W.eq (g2 := F0 m 57 ls [.int q_22]) rfl ?_
      refine lv_istore (lv' := [(4, .int q_22), (3, .int q_20), (0, .ref o), (1, .int x), (2, .int n)]) hx hb dX12_ahead_57 hl (by decide) rfl (fun ls hl => ?_)
      refine lv_aload_n hx hb dX12_ahead_59 rfl (lv_at hl 2 rfl) ?_
      refine mcallV' (g := g) (q0 := 0) (ci := 10) (As := []) (rest := []) St hK hT hA hP hD hS hl.1 [0] [] rfl rfl rfl (m_comesBack l g o a 0 hi ac tp ba2_10 en2_11 at2_12 fl de2_13 iD2_14 iO2_15 tU2_16 fm2_18 fk fa2_8 fc ft ff2_17 fb2_19 fi rfm2_18 rfa2_8) (cwV 0 hts (zgL (zl4 k984 k985 k986 k839) k973) rfl rfl rfl (by decide +kernel) ⟨Nat.le_of_ble_eq_true rfl, Nat.le_of_ble_eq_true rfl⟩) rfl rfl rfl rfl (Nat.le_of_ble_eq_true rfl) dX12_ahead_60 ⟨(Nat.le_of_ble_eq_true rfl), (Nat.le_of_ble_eq_true rfl)⟩ (fun fm2_24 H locs hq25 hP hD hS => ?_)
      replace hq25 : (rM fm2_24) ∧ (zCy fm2_18 fm2_24 0 fa2_8 0 379) ∧ ((fm2_24 0).toInt = (fa2_8 0).toInt ∧ (fm2_24 3).toInt = (fa2_8 3).toInt ∧ (fm2_24 4).toInt = (fa2_8 4).toInt) := hq25
      have hP : va_P g.1 vwCl (List.flatten [bMo g o a 0 hi ac tp ba2_10 en2_11 at2_12 fl de2_13 iD2_14 iO2_15 tU2_16 fm2_24 fk fa2_8 fc ft ff2_17 fb2_19 fi]) H := hP
      have hD : va_D A (List.flatten [bMo g o a 0 hi ac tp ba2_10 en2_11 at2_12 fl de2_13 iD2_14 iO2_15 tU2_16 fm2_24 fk fa2_8 fc ft ff2_17 fb2_19 fi]) := hD
      refine W.widen (k := 0) (n := 0) (Nat.le_of_ble_eq_true rfl) (Nat.le_of_ble_eq_true rfl) ?_
      refine W.eq (g2 := F0 m 63 ls []) rfl ?_
      obtain ⟨rfm2_24, hq25_1, hq25_2⟩ := hq25
      refine lv_iload hx hb dX12_ahead_63 (lv_at hl 0 rfl) ?_
      have hP : va_P g.1 vwCl (List.flatten [bMo g o a 0 hi ac tp ba2_10 en2_11 at2_12 fl de2_13 iD2_14 iO2_15 tU2_16 fm2_24 fk fa2_8 fc ft ff2_17 fb2_19 fi]) H := hP
      have hD : va_D A (List.flatten [bMo g o a 0 hi ac tp ba2_10 en2_11 at2_12 fl de2_13 iD2_14 iO2_15 tU2_16 fm2_24 fk fa2_8 fc ft ff2_17 fb2_19 fi]) := hD
      exact mret_i hx hb hr hlocks hS (Nat.le_of_ble_eq_true rfl) (Nat.le_of_ble_eq_true rfl) dX12_ahead_65 ((0 : Int32), ba2_10, en2_11, at2_12, de2_13, iD2_14, iO2_15, tU2_16, ff2_17, fm2_24, fb2_19, fa2_8, q_22) rfl (show ((fm2_24 0).toInt = (fm 0).toInt ∧ (fm2_24 3).toInt = (fm 3).toInt ∧ (fm2_24 4).toInt = (fm 4).toInt) ∧ (rM fa2_8) ∧ (rM fm2_24) ∧ (0 ≤ iO2_15.toInt ∧ iO2_15.toInt ≤ 1) ∧ (0 ≤ iD2_14.toInt ∧ iD2_14.toInt ≤ 1) from ⟨(by first | assumption | omega | decide | exact rfl | exact zb01 (by omega) | exact Or.inl (by decide) | exact Or.inr (by first | omega | decide)), rfa2_8, rfm2_24, hq21_2, hq21_3⟩) hP hD
    · skip
      refine lv_if_ne (tgt := 27) hx hb dX12_ahead_20 (by decide) (fun c26 => absurd (by decide) c26) (fun _ => ?_)
      refine lv_iconst (v := 2) hx hb dX12_ahead_23 (by decide) ?_
      refine lv_goto (tgt := 28) hx hb dX12_ahead_24 (by decide) ?_
      refine va_put (D := g.1) (ci := 10) (v := .int 2) (ty := .int) (C := RX12) (T := TX12) (N := 20) hx hb hts izRX12 tyX12 tyX12_ok nmX12 hown hK hP hD hS 0 rfl rfl 0 (by decide) (hts _ k825) (fun _ h9 => h9) rfl (by decide +kernel) rfl rfl (Nat.le_of_ble_eq_true rfl) dX12_ahead_28 (fun H locs hP hD hS => ?_)
      have hP : va_P g.1 vwCl (List.flatten [bMo g o a 2 hi ac tp ba en tA fl de iD iO tU fm fk fa fc ft ff fb fi]) H := hP
      have hD : va_D A (List.flatten [bMo g o a 2 hi ac tp ba en tA fl de iD iO tU fm fk fa fc ft ff fb fi]) := hD
      refine lv_aload_n hx hb dX12_ahead_31 rfl (lv_at hl 0 rfl) ?_
      refine va_get (D := g.1) (ci := 10) (v := .int 2) (C := RX12) (T := TX12) (N := 20) hx hb hts izRX12 hown hK hP 0 rfl rfl 0 (by decide) (hts _ k825) (fun _ h9 => h9) rfl dX12_ahead_32 ?_
      refine lv_if_le (tgt := 40) hx hb dX12_ahead_35 (by decide) (fun c27 => absurd c27 (by decide)) (fun _ => ?_)
      refine lv_iconst (v := 0) hx hb dX12_ahead_38 (by decide) ?_
      have hP : va_P g.1 vwCl (List.flatten [bMo g o a 2 hi ac tp ba en tA fl de iD iO tU fm fk fa fc ft ff fb fi]) H := hP
      have hD : va_D A (List.flatten [bMo g o a 2 hi ac tp ba en tA fl de iD iO tU fm fk fa fc ft ff fb fi]) := hD
      exact mret_i hx hb hr hlocks hS (Nat.le_of_ble_eq_true rfl) (Nat.le_of_ble_eq_true rfl) dX12_ahead_39 ((2 : Int32), ba, en, tA, de, iD, iO, tU, ff, fm, fb, fa, (0 : Int32)) rfl (show ((fm 0).toInt = (fm 0).toInt ∧ (fm 3).toInt = (fm 3).toInt ∧ (fm 4).toInt = (fm 4).toInt) ∧ (rM fa) ∧ (rM fm) ∧ (0 ≤ iO.toInt ∧ iO.toInt ≤ 1) ∧ (0 ≤ iD.toInt ∧ iD.toInt ≤ 1) from ⟨(by first | assumption | omega | decide | exact rfl | exact zb01 (by omega) | exact Or.inl (by decide) | exact Or.inr (by first | omega | decide)), rfa, rfm, hiO, hiD⟩) hP hD
  · skip
    refine lv_if_ne (tgt := 13) hx hb dX12_ahead_6 (by decide) (fun c28 => absurd (by decide) c28) (fun _ => ?_)
    refine lv_iconst (v := 1) hx hb dX12_ahead_9 (by decide) ?_
    refine lv_goto (tgt := 28) hx hb dX12_ahead_10 (by decide) ?_
    refine va_put (D := g.1) (ci := 10) (v := .int 1) (ty := .int) (C := RX12) (T := TX12) (N := 20) hx hb hts izRX12 tyX12 tyX12_ok nmX12 hown hK hP hD hS 0 rfl rfl 0 (by decide) (hts _ k825) (fun _ h9 => h9) rfl (by decide +kernel) rfl rfl (Nat.le_of_ble_eq_true rfl) dX12_ahead_28 (fun H locs hP hD hS => ?_)
    have hP : va_P g.1 vwCl (List.flatten [bMo g o a 1 hi ac tp ba en tA fl de iD iO tU fm fk fa fc ft ff fb fi]) H := hP
    have hD : va_D A (List.flatten [bMo g o a 1 hi ac tp ba en tA fl de iD iO tU fm fk fa fc ft ff fb fi]) := hD
    refine lv_aload_n hx hb dX12_ahead_31 rfl (lv_at hl 0 rfl) ?_
    refine va_get (D := g.1) (ci := 10) (v := .int 1) (C := RX12) (T := TX12) (N := 20) hx hb hts izRX12 hown hK hP 0 rfl rfl 0 (by decide) (hts _ k825) (fun _ h9 => h9) rfl dX12_ahead_32 ?_
    refine lv_if_le (tgt := 40) hx hb dX12_ahead_35 (by decide) (fun c29 => absurd c29 (by decide)) (fun _ => ?_)
    refine lv_iconst (v := 0) hx hb dX12_ahead_38 (by decide) ?_
    have hP : va_P g.1 vwCl (List.flatten [bMo g o a 1 hi ac tp ba en tA fl de iD iO tU fm fk fa fc ft ff fb fi]) H := hP
    have hD : va_D A (List.flatten [bMo g o a 1 hi ac tp ba en tA fl de iD iO tU fm fk fa fc ft ff fb fi]) := hD
    exact mret_i hx hb hr hlocks hS (Nat.le_of_ble_eq_true rfl) (Nat.le_of_ble_eq_true rfl) dX12_ahead_39 ((1 : Int32), ba, en, tA, de, iD, iO, tU, ff, fm, fb, fa, (0 : Int32)) rfl (show ((fm 0).toInt = (fm 0).toInt ∧ (fm 3).toInt = (fm 3).toInt ∧ (fm 4).toInt = (fm 4).toInt) ∧ (rM fa) ∧ (rM fm) ∧ (0 ≤ iO.toInt ∧ iO.toInt ≤ 1) ∧ (0 ≤ iD.toInt ∧ iD.toInt ≤ 1) from ⟨(by first | assumption | omega | decide | exact rfl | exact zb01 (by omega) | exact Or.inl (by decide) | exact Or.inr (by first | omega | decide)), rfa, rfm, hiO, hiD⟩) hP hD
set_option maxRecDepth 100000 in
set_option maxHeartbeats 4000000 in
theorem m_then (l : Launch) (g : zG) (o : Nat) (a : Nat → Nat) (th : Int32) (hi : Int32) (ac : Int32) (tp : Int32) (ba : Int32) (en : Int32) (tA : Int32) (fl : Int32) (de : Int32) (iD : Int32) (iO : Int32) (tU : Int32) (fm : Nat → Int32) (fk : Nat → Int32) (fa : Nat → Int32) (fc : Nat → Int32) (ft : Nat → Int32) (ff : Nat → Int32) (fb : Nat → Int32) (fi : Nat → Int32) (n : Int32) (ch : Int32) (rfm : rM fm) (rfa : rM fa) (hiD : 0 ≤ iD.toInt ∧ iD.toInt ≤ 1) (hiO : 0 ≤ iO.toInt ∧ iO.toInt ≤ 1) : zM' g l yX12_then (Cond.code yX12_then cX12_then 5 (some .int) :: zB) ({ frames := 33, cells := 0, slots := 0, locals := 736 } : Room) [.ref o, .int n, .int ch] [bMo g o a th hi ac tp ba en tA fl de iD iO tU fm fk fa fc ft ff fb fi] (fun u : Int32 × Int32 × Int32 × Int32 × Int32 × Int32 × Int32 × Int32 × (Nat → Int32) × (Nat → Int32) × (Nat → Int32) × (Nat → Int32) × Int32 => (fun (th2 : Int32) (ba2 : Int32) (en2 : Int32) (at2 : Int32) (de2 : Int32) (iD2 : Int32) (iO2 : Int32) (tU2 : Int32) (ff2 : Nat → Int32) (fm2 : Nat → Int32) (fb2 : Nat → Int32) (fa2 : Nat → Int32) (q : Int32) => some (.int q)) (u.1) (u.2.1) (u.2.2.1) (u.2.2.2.1) (u.2.2.2.2.1) (u.2.2.2.2.2.1) (u.2.2.2.2.2.2.1) (u.2.2.2.2.2.2.2.1) (u.2.2.2.2.2.2.2.2.1) (u.2.2.2.2.2.2.2.2.2.1) (u.2.2.2.2.2.2.2.2.2.2.1) (u.2.2.2.2.2.2.2.2.2.2.2.1) (u.2.2.2.2.2.2.2.2.2.2.2.2)) (fun u : Int32 × Int32 × Int32 × Int32 × Int32 × Int32 × Int32 × Int32 × (Nat → Int32) × (Nat → Int32) × (Nat → Int32) × (Nat → Int32) × Int32 => (fun (th2 : Int32) (ba2 : Int32) (en2 : Int32) (at2 : Int32) (de2 : Int32) (iD2 : Int32) (iO2 : Int32) (tU2 : Int32) (ff2 : Nat → Int32) (fm2 : Nat → Int32) (fb2 : Nat → Int32) (fa2 : Nat → Int32) (q : Int32) => ((fm2 0).toInt = (fm 0).toInt ∧ (fm2 3).toInt = (fm 3).toInt ∧ (fm2 4).toInt = (fm 4).toInt) ∧ (rM fa2) ∧ (rM fm2) ∧ (0 ≤ iO2.toInt ∧ iO2.toInt ≤ 1) ∧ (0 ≤ iD2.toInt ∧ iD2.toInt ≤ 1)) (u.1) (u.2.1) (u.2.2.1) (u.2.2.2.1) (u.2.2.2.2.1) (u.2.2.2.2.2.1) (u.2.2.2.2.2.2.1) (u.2.2.2.2.2.2.2.1) (u.2.2.2.2.2.2.2.2.1) (u.2.2.2.2.2.2.2.2.2.1) (u.2.2.2.2.2.2.2.2.2.2.1) (u.2.2.2.2.2.2.2.2.2.2.2.1) (u.2.2.2.2.2.2.2.2.2.2.2.2)) (fun u : Int32 × Int32 × Int32 × Int32 × Int32 × Int32 × Int32 × Int32 × (Nat → Int32) × (Nat → Int32) × (Nat → Int32) × (Nat → Int32) × Int32 => (fun (th2 : Int32) (ba2 : Int32) (en2 : Int32) (at2 : Int32) (de2 : Int32) (iD2 : Int32) (iO2 : Int32) (tU2 : Int32) (ff2 : Nat → Int32) (fm2 : Nat → Int32) (fb2 : Nat → Int32) (fa2 : Nat → Int32) (q : Int32) => [bMo g o a th2 hi ac tp ba2 en2 at2 fl de2 iD2 iO2 tU2 fm2 fk fa2 fc ft ff2 fb2 fi]) (u.1) (u.2.1) (u.2.2.1) (u.2.2.2.1) (u.2.2.2.2.1) (u.2.2.2.2.2.1) (u.2.2.2.2.2.2.1) (u.2.2.2.2.2.2.2.1) (u.2.2.2.2.2.2.2.2.1) (u.2.2.2.2.2.2.2.2.2.1) (u.2.2.2.2.2.2.2.2.2.2.1) (u.2.2.2.2.2.2.2.2.2.2.2.1) (u.2.2.2.2.2.2.2.2.2.2.2.2)) := by
  refine zM'.of (cc := cX12_then) (maxL := 5) (rt := (some .int)) (by decide) rfl (Nat.le_of_ble_eq_true rfl) ?_
  intro p e s m args below meth c A ls St hr hlocks hin hK hT hA hP hD hS hl
  obtain ⟨hx, hb, hml, hown, hts⟩ := id St
  have hl : lv_has ls 5 [(0, .ref o), (1, .int n), (2, .int ch)] := hl
  refine lv_aload_n hx hb dX12_then_0 rfl (lv_at hl 0 rfl) ?_
  refine lv_iload_n hx hb dX12_then_1 rfl (lv_at hl 1 rfl) ?_
  refine lv_iconst (v := 0) hx hb dX12_then_2 (by decide) ?_
  refine lv_bipush (v := 100) hx hb dX12_then_3 (by decide) ?_
  have hL0 : (0 : Int32).toInt = 0 := by decide
  have hL100 : (100 : Int32).toInt = 100 := by decide
  refine mcallS' (g := g) (As := [.int n, .int 0, .int 100]) (rest := [.ref o]) St hK hT hA hP hD hS hl.1 [] [0] rfl rfl rfl (m_isIn l g n 0 100 ) (va_cwS 3 hts (zgL (zl3 k837 k838 k839) k826) rfl rfl rfl (by decide +kernel) ⟨Nat.le_of_ble_eq_true rfl, Nat.le_of_ble_eq_true rfl⟩) rfl rfl (Nat.le_of_ble_eq_true rfl) dX12_then_5 ⟨(Nat.le_of_ble_eq_true rfl), (Nat.le_of_ble_eq_true rfl)⟩ (fun q_1 H locs hq2 hP hD hS => ?_)
  replace hq2 : (q_1 = 1 ∧ (0 : Int32).toInt ≤ n.toInt ∧ n.toInt ≤ (100 : Int32).toInt ∨ q_1 = 0 ∧ (n.toInt < (0 : Int32).toInt ∨ (100 : Int32).toInt < n.toInt)) := hq2
  have hP : va_P g.1 vwCl (List.flatten [bMo g o a th hi ac tp ba en tA fl de iD iO tU fm fk fa fc ft ff fb fi]) H := hP
  have hD : va_D A (List.flatten [bMo g o a th hi ac tp ba en tA fl de iD iO tU fm fk fa fc ft ff fb fi]) := hD
  refine W.widen (k := 0) (n := 0) (Nat.le_of_ble_eq_true rfl) (Nat.le_of_ble_eq_true rfl) ?_
  refine W.eq (g2 := F0 m 8 ls [.int q_1, .ref o]) rfl ?_
  rcases hq2 with ⟨rfl, hq2_k⟩ | ⟨rfl, hq2_k⟩
  · skip
    refine lv_if_ne (tgt := 15) hx hb dX12_then_8 (by decide) (fun _ => ?_) (fun c3 => absurd c3 (by decide))
    refine lv_iconst (v := 0) hx hb dX12_then_15 (by decide) ?_
    refine va_put (D := g.1) (ci := 10) (v := .int 0) (ty := .int) (C := RX12) (T := TX12) (N := 20) hx hb hts izRX12 tyX12 tyX12_ok nmX12 hown hK hP hD hS 0 rfl rfl 0 (by decide) (hts _ k825) (fun _ h9 => h9) rfl (by decide +kernel) rfl rfl (Nat.le_of_ble_eq_true rfl) dX12_then_16 (fun H locs hP hD hS => ?_)
    have hP : va_P g.1 vwCl (List.flatten [bMo g o a 0 hi ac tp ba en tA fl de iD iO tU fm fk fa fc ft ff fb fi]) H := hP
    have hD : va_D A (List.flatten [bMo g o a 0 hi ac tp ba en tA fl de iD iO tU fm fk fa fc ft ff fb fi]) := hD
    refine lv_aload_n hx hb dX12_then_19 rfl (lv_at hl 0 rfl) ?_
    refine va_get (D := g.1) (ci := 10) (v := .int 0) (C := RX12) (T := TX12) (N := 20) hx hb hts izRX12 hown hK hP 0 rfl rfl 0 (by decide) (hts _ k825) (fun _ h9 => h9) rfl dX12_then_20 ?_
    refine lv_if_le (tgt := 28) hx hb dX12_then_23 (by decide) (fun _ => ?_) (fun c4 => absurd (by decide) c4)
    refine lv_aload_n hx hb dX12_then_28 rfl (lv_at hl 0 rfl) ?_
    refine mcallV' (g := g) (q0 := 0) (ci := 10) (As := []) (rest := []) St hK hT hA hP hD hS hl.1 [0] [] rfl rfl rfl (m_putsAside l g o a 0 hi ac tp ba en tA fl de iD iO tU fm fk fa fc ft ff fb fi rfm rfa) (cwV 0 hts (zgL (zl4 k975 k976 k977 k839) k972) rfl rfl rfl (by decide +kernel) ⟨Nat.le_of_ble_eq_true rfl, Nat.le_of_ble_eq_true rfl⟩) rfl rfl rfl rfl (Nat.le_of_ble_eq_true rfl) dX12_then_29 ⟨(Nat.le_of_ble_eq_true rfl), (Nat.le_of_ble_eq_true rfl)⟩ (fun fa2_5 H locs hq6 hP hD hS => ?_)
    replace hq6 : (rM fa2_5) ∧ (zCy fa fa2_5 0 fm 0 379) ∧ ((fa2_5 0).toInt = (fm 0).toInt ∧ (fa2_5 3).toInt = (fm 3).toInt ∧ (fa2_5 4).toInt = (fm 4).toInt) := hq6
    have hP : va_P g.1 vwCl (List.flatten [bMo g o a 0 hi ac tp ba en tA fl de iD iO tU fm fk fa2_5 fc ft ff fb fi]) H := hP
    have hD : va_D A (List.flatten [bMo g o a 0 hi ac tp ba en tA fl de iD iO tU fm fk fa2_5 fc ft ff fb fi]) := hD
    refine W.widen (k := 0) (n := 0) (Nat.le_of_ble_eq_true rfl) (Nat.le_of_ble_eq_true rfl) ?_
    refine W.eq (g2 := F0 m 32 ls []) rfl ?_
    obtain ⟨rfa2_5, hq6_1, hq6_2⟩ := hq6
    refine lv_aload_n hx hb dX12_then_32 rfl (lv_at hl 0 rfl) ?_
    refine lv_iload_n hx hb dX12_then_33 rfl (lv_at hl 1 rfl) ?_
    refine lv_iconst (v := 0) hx hb dX12_then_34 (by decide) ?_
    refine mcallV' (g := g) (q0 := 0) (ci := 10) (As := [.int n, .int 0]) (rest := []) St hK hT hA hP hD hS hl.1 [0] [] rfl rfl rfl (m_goes l g o a 0 hi ac tp ba en tA fl de iD iO tU fm fk fa2_5 fc ft ff fb fi n 0 rfm hiD hiO (by first | assumption | omega | decide | exact Or.inl (by decide) | exact Or.inr (by decide))) (cwV 2 hts (zgL (zl4 k1057 k1058 k1059 k839) k1028) rfl rfl rfl (by decide +kernel) ⟨Nat.le_of_ble_eq_true rfl, Nat.le_of_ble_eq_true rfl⟩) rfl rfl rfl rfl (Nat.le_of_ble_eq_true rfl) dX12_then_35 ⟨(Nat.le_of_ble_eq_true rfl), (Nat.le_of_ble_eq_true rfl)⟩ (fun u_ H locs hq18 hP hD hS => ?_)
    obtain ⟨ba2_7, en2_8, at2_9, de2_10, iD2_11, iO2_12, tU2_13, ff2_14, fm2_15, fb2_16, q_17⟩ := u_
    replace hq18 : ((fm2_15 0).toInt = (fm 0).toInt ∧ (fm2_15 3).toInt = (fm 3).toInt ∧ (fm2_15 4).toInt = (fm 4).toInt) ∧ (rM fm2_15) ∧ (0 ≤ iO2_12.toInt ∧ iO2_12.toInt ≤ 1) ∧ (0 ≤ iD2_11.toInt ∧ iD2_11.toInt ≤ 1) := hq18
    have hP : va_P g.1 vwCl (List.flatten [bMo g o a 0 hi ac tp ba2_7 en2_8 at2_9 fl de2_10 iD2_11 iO2_12 tU2_13 fm2_15 fk fa2_5 fc ft ff2_14 fb2_16 fi]) H := hP
    have hD : va_D A (List.flatten [bMo g o a 0 hi ac tp ba2_7 en2_8 at2_9 fl de2_10 iD2_11 iO2_12 tU2_13 fm2_15 fk fa2_5 fc ft ff2_14 fb2_16 fi]) := hD
    refine W.widen (k := 0) (n := 0) (Nat.le_of_ble_eq_true rfl) (Nat.le_of_ble_eq_true rfl) ?_
    refine W.eq (g2 := F0 m 38 ls [.int q_17]) rfl ?_
    obtain ⟨hq18_0, rfm2_15, hq18_2, hq18_3⟩ := hq18
    refine lv_istore_n (lv' := [(3, .int q_17), (0, .ref o), (1, .int n), (2, .int ch)]) hx hb dX12_then_38 rfl hl (by decide) rfl (fun ls hl => ?_)
    refine lv_iload_n hx hb dX12_then_39 rfl (lv_at hl 3 rfl) ?_
    refine lv_if_eq (tgt := 52) hx hb dX12_then_40 (by decide) (fun cb9 => ?_) (fun cb9 => ?_)
    · skip
      have c19 : ch.toInt = 0 := zeq cb9 rfl (by decide)
      have n20 : 0 ≤ ch.toInt := Int.le_trans (Int.le_refl _) (Int.le_of_eq c19.symm)
      have n21 : ch.toInt ≤ 0 := Int.le_trans (Int.le_of_eq c19) (Int.le_refl _)
      refine lv_aload_n hx hb dX12_then_52 rfl (lv_at hl 1 rfl) ?_
      refine mcallV' (g := g) (q0 := 0) (ci := 10) (As := []) (rest := []) St hK hT hA hP hD hS hl.1 [0] [] rfl rfl rfl (m_believed l g o a 0 hi ac tp ba2_7 en2_8 at2_9 fl de2_10 iD2_11 iO2_12 tU2_13 fm2_15 fk fa2_5 fc ft ff2_14 fb2_16 fi rfm2_15) (cwV 0 hts (zgL (zl4 k856 k857 k858 k839) k849) rfl rfl rfl (by decide +kernel) ⟨Nat.le_of_ble_eq_true rfl, Nat.le_of_ble_eq_true rfl⟩) rfl rfl rfl rfl (Nat.le_of_ble_eq_true rfl) dX12_then_53 ⟨(Nat.le_of_ble_eq_true rfl), (Nat.le_of_ble_eq_true rfl)⟩ (fun q_22 H locs hq23 hP hD hS => ?_)
      have hP : va_P g.1 vwCl (List.flatten [bMo g o a 0 hi ac tp ba2_7 en2_8 at2_9 fl de2_10 iD2_11 iO2_12 tU2_13 fm2_15 fk fa2_5 fc ft ff2_14 fb2_16 fi]) H := hP
      have hD : va_D A (List.flatten [bMo g o a 0 hi ac tp ba2_7 en2_8 at2_9 fl de2_10 iD2_11 iO2_12 tU2_13 fm2_15 fk fa2_5 fc ft ff2_14 fb2_16 fi]) := hD
      refine W.widen (k := 0) (n := 0) (Nat.le_of_ble_eq_true rfl) (Nat.le_of_ble_eq_true rfl) ?_
      refine W.eq (g2 := F0 m 56 ls [.int q_22]) rfl ?_
      refine lv_istore (lv' := [(4, .int q_22), (3, .int q_17), (0, .ref o), (1, .int n), (2, .int ch)]) hx hb dX12_then_56 hl (by decide) rfl (fun ls hl => ?_)
      refine lv_aload_n hx hb dX12_then_58 rfl (lv_at hl 2 rfl) ?_
      refine mcallV' (g := g) (q0 := 0) (ci := 10) (As := []) (rest := []) St hK hT hA hP hD hS hl.1 [0] [] rfl rfl rfl (m_comesBack l g o a 0 hi ac tp ba2_7 en2_8 at2_9 fl de2_10 iD2_11 iO2_12 tU2_13 fm2_15 fk fa2_5 fc ft ff2_14 fb2_16 fi rfm2_15 rfa2_5) (cwV 0 hts (zgL (zl4 k984 k985 k986 k839) k973) rfl rfl rfl (by decide +kernel) ⟨Nat.le_of_ble_eq_true rfl, Nat.le_of_ble_eq_true rfl⟩) rfl rfl rfl rfl (Nat.le_of_ble_eq_true rfl) dX12_then_59 ⟨(Nat.le_of_ble_eq_true rfl), (Nat.le_of_ble_eq_true rfl)⟩ (fun fm2_24 H locs hq25 hP hD hS => ?_)
      replace hq25 : (rM fm2_24) ∧ (zCy fm2_15 fm2_24 0 fa2_5 0 379) ∧ ((fm2_24 0).toInt = (fa2_5 0).toInt ∧ (fm2_24 3).toInt = (fa2_5 3).toInt ∧ (fm2_24 4).toInt = (fa2_5 4).toInt) := hq25
      have hP : va_P g.1 vwCl (List.flatten [bMo g o a 0 hi ac tp ba2_7 en2_8 at2_9 fl de2_10 iD2_11 iO2_12 tU2_13 fm2_24 fk fa2_5 fc ft ff2_14 fb2_16 fi]) H := hP
      have hD : va_D A (List.flatten [bMo g o a 0 hi ac tp ba2_7 en2_8 at2_9 fl de2_10 iD2_11 iO2_12 tU2_13 fm2_24 fk fa2_5 fc ft ff2_14 fb2_16 fi]) := hD
      refine W.widen (k := 0) (n := 0) (Nat.le_of_ble_eq_true rfl) (Nat.le_of_ble_eq_true rfl) ?_
      refine W.eq (g2 := F0 m 62 ls []) rfl ?_
      obtain ⟨rfm2_24, hq25_1, hq25_2⟩ := hq25
      refine lv_iload hx hb dX12_then_62 (lv_at hl 0 rfl) ?_
      have hP : va_P g.1 vwCl (List.flatten [bMo g o a 0 hi ac tp ba2_7 en2_8 at2_9 fl de2_10 iD2_11 iO2_12 tU2_13 fm2_24 fk fa2_5 fc ft ff2_14 fb2_16 fi]) H := hP
      have hD : va_D A (List.flatten [bMo g o a 0 hi ac tp ba2_7 en2_8 at2_9 fl de2_10 iD2_11 iO2_12 tU2_13 fm2_24 fk fa2_5 fc ft ff2_14 fb2_16 fi]) := hD
      exact mret_i hx hb hr hlocks hS (Nat.le_of_ble_eq_true rfl) (Nat.le_of_ble_eq_true rfl) dX12_then_64 ((0 : Int32), ba2_7, en2_8, at2_9, de2_10, iD2_11, iO2_12, tU2_13, ff2_14, fm2_24, fb2_16, fa2_5, q_22) rfl (show ((fm2_24 0).toInt = (fm 0).toInt ∧ (fm2_24 3).toInt = (fm 3).toInt ∧ (fm2_24 4).toInt = (fm 4).toInt) ∧ (rM fa2_5) ∧ (rM fm2_24) ∧ (0 ≤ iO2_12.toInt ∧ iO2_12.toInt ≤ 1) ∧ (0 ≤ iD2_11.toInt ∧ iD2_11.toInt ≤ 1) from ⟨(by first | assumption | omega | decide | exact rfl | exact zb01 (by omega) | exact Or.inl (by decide) | exact Or.inr (by first | omega | decide)), rfa2_5, rfm2_24, hq18_2, hq18_3⟩) hP hD
    · skip
      have c26 : ¬ ch.toInt = 0 := zne cb9 rfl (by decide)
      refine lv_aload_n hx hb dX12_then_43 rfl (lv_at hl 1 rfl) ?_
      refine va_get (D := g.1) (ci := 10) (v := .ref (a 0)) (C := RX12) (T := TX12) (N := 20) hx hb hts izRX12 hown hK hP 0 rfl rfl 1 (by decide) (hts _ k815) (fun _ h9 => h9) rfl dX12_then_44 ?_
      refine lv_iconst (v := 5) hx hb dX12_then_47 (by decide) ?_
      refine va_iald hx hb hK hP 1 0 rfl rfl (zin rfl) dX12_then_48 ?_
      refine zg (fun x_27 => ?_)
      refine lv_goto (tgt := 56) hx hb dX12_then_49 (by decide) ?_
      refine lv_istore (lv' := [(4, .int x_27), (3, .int q_17), (0, .ref o), (1, .int n), (2, .int ch)]) hx hb dX12_then_56 hl (by decide) rfl (fun ls hl => ?_)
      refine lv_aload_n hx hb dX12_then_58 rfl (lv_at hl 2 rfl) ?_
      refine mcallV' (g := g) (q0 := 0) (ci := 10) (As := []) (rest := []) St hK hT hA hP hD hS hl.1 [0] [] rfl rfl rfl (m_comesBack l g o a 0 hi ac tp ba2_7 en2_8 at2_9 fl de2_10 iD2_11 iO2_12 tU2_13 fm2_15 fk fa2_5 fc ft ff2_14 fb2_16 fi rfm2_15 rfa2_5) (cwV 0 hts (zgL (zl4 k984 k985 k986 k839) k973) rfl rfl rfl (by decide +kernel) ⟨Nat.le_of_ble_eq_true rfl, Nat.le_of_ble_eq_true rfl⟩) rfl rfl rfl rfl (Nat.le_of_ble_eq_true rfl) dX12_then_59 ⟨(Nat.le_of_ble_eq_true rfl), (Nat.le_of_ble_eq_true rfl)⟩ (fun fm2_28 H locs hq29 hP hD hS => ?_)
      replace hq29 : (rM fm2_28) ∧ (zCy fm2_15 fm2_28 0 fa2_5 0 379) ∧ ((fm2_28 0).toInt = (fa2_5 0).toInt ∧ (fm2_28 3).toInt = (fa2_5 3).toInt ∧ (fm2_28 4).toInt = (fa2_5 4).toInt) := hq29
      have hP : va_P g.1 vwCl (List.flatten [bMo g o a 0 hi ac tp ba2_7 en2_8 at2_9 fl de2_10 iD2_11 iO2_12 tU2_13 fm2_28 fk fa2_5 fc ft ff2_14 fb2_16 fi]) H := hP
      have hD : va_D A (List.flatten [bMo g o a 0 hi ac tp ba2_7 en2_8 at2_9 fl de2_10 iD2_11 iO2_12 tU2_13 fm2_28 fk fa2_5 fc ft ff2_14 fb2_16 fi]) := hD
      refine W.widen (k := 0) (n := 0) (Nat.le_of_ble_eq_true rfl) (Nat.le_of_ble_eq_true rfl) ?_
      refine W.eq (g2 := F0 m 62 ls []) rfl ?_
      obtain ⟨rfm2_28, hq29_1, hq29_2⟩ := hq29
      refine lv_iload hx hb dX12_then_62 (lv_at hl 0 rfl) ?_
      have hP : va_P g.1 vwCl (List.flatten [bMo g o a 0 hi ac tp ba2_7 en2_8 at2_9 fl de2_10 iD2_11 iO2_12 tU2_13 fm2_28 fk fa2_5 fc ft ff2_14 fb2_16 fi]) H := hP
      have hD : va_D A (List.flatten [bMo g o a 0 hi ac tp ba2_7 en2_8 at2_9 fl de2_10 iD2_11 iO2_12 tU2_13 fm2_28 fk fa2_5 fc ft ff2_14 fb2_16 fi]) := hD
      exact mret_i hx hb hr hlocks hS (Nat.le_of_ble_eq_true rfl) (Nat.le_of_ble_eq_true rfl) dX12_then_64 ((0 : Int32), ba2_7, en2_8, at2_9, de2_10, iD2_11, iO2_12, tU2_13, ff2_14, fm2_28, fb2_16, fa2_5, x_27) rfl (show ((fm2_28 0).toInt = (fm 0).toInt ∧ (fm2_28 3).toInt = (fm 3).toInt ∧ (fm2_28 4).toInt = (fm 4).toInt) ∧ (rM fa2_5) ∧ (rM fm2_28) ∧ (0 ≤ iO2_12.toInt ∧ iO2_12.toInt ≤ 1) ∧ (0 ≤ iD2_11.toInt ∧ iD2_11.toInt ≤ 1) from ⟨(by first | assumption | omega | decide | exact rfl | exact zb01 (by omega) | exact Or.inl (by decide) | exact Or.inr (by first | omega | decide)), rfa2_5, rfm2_28, hq18_2, hq18_3⟩) hP hD
  · skip
    refine lv_if_ne (tgt := 15) hx hb dX12_then_8 (by decide) (fun c30 => absurd (by decide) c30) (fun _ => ?_)
    refine lv_iconst (v := 1) hx hb dX12_then_11 (by decide) ?_
    refine lv_goto (tgt := 16) hx hb dX12_then_12 (by decide) ?_
    refine va_put (D := g.1) (ci := 10) (v := .int 1) (ty := .int) (C := RX12) (T := TX12) (N := 20) hx hb hts izRX12 tyX12 tyX12_ok nmX12 hown hK hP hD hS 0 rfl rfl 0 (by decide) (hts _ k825) (fun _ h9 => h9) rfl (by decide +kernel) rfl rfl (Nat.le_of_ble_eq_true rfl) dX12_then_16 (fun H locs hP hD hS => ?_)
    have hP : va_P g.1 vwCl (List.flatten [bMo g o a 1 hi ac tp ba en tA fl de iD iO tU fm fk fa fc ft ff fb fi]) H := hP
    have hD : va_D A (List.flatten [bMo g o a 1 hi ac tp ba en tA fl de iD iO tU fm fk fa fc ft ff fb fi]) := hD
    refine lv_aload_n hx hb dX12_then_19 rfl (lv_at hl 0 rfl) ?_
    refine va_get (D := g.1) (ci := 10) (v := .int 1) (C := RX12) (T := TX12) (N := 20) hx hb hts izRX12 hown hK hP 0 rfl rfl 0 (by decide) (hts _ k825) (fun _ h9 => h9) rfl dX12_then_20 ?_
    refine lv_if_le (tgt := 28) hx hb dX12_then_23 (by decide) (fun c31 => absurd c31 (by decide)) (fun _ => ?_)
    refine lv_iconst (v := 0) hx hb dX12_then_26 (by decide) ?_
    have hP : va_P g.1 vwCl (List.flatten [bMo g o a 1 hi ac tp ba en tA fl de iD iO tU fm fk fa fc ft ff fb fi]) H := hP
    have hD : va_D A (List.flatten [bMo g o a 1 hi ac tp ba en tA fl de iD iO tU fm fk fa fc ft ff fb fi]) := hD
    exact mret_i hx hb hr hlocks hS (Nat.le_of_ble_eq_true rfl) (Nat.le_of_ble_eq_true rfl) dX12_then_27 ((1 : Int32), ba, en, tA, de, iD, iO, tU, ff, fm, fb, fa, (0 : Int32)) rfl (show ((fm 0).toInt = (fm 0).toInt ∧ (fm 3).toInt = (fm 3).toInt ∧ (fm 4).toInt = (fm 4).toInt) ∧ (rM fa) ∧ (rM fm) ∧ (0 ≤ iO.toInt ∧ iO.toInt ≤ 1) ∧ (0 ≤ iD.toInt ∧ iD.toInt ≤ 1) from ⟨(by first | assumption | omega | decide | exact rfl | exact zb01 (by omega) | exact Or.inl (by decide) | exact Or.inr (by first | omega | decide)), rfa, rfm, hiO, hiD⟩) hP hD
set_option maxRecDepth 100000 in
set_option maxHeartbeats 4000000 in
theorem m_sways (l : Launch) (g : zG) (o : Nat) (a : Nat → Nat) (th : Int32) (hi : Int32) (ac : Int32) (tp : Int32) (ba : Int32) (en : Int32) (tA : Int32) (fl : Int32) (de : Int32) (iD : Int32) (iO : Int32) (tU : Int32) (fm : Nat → Int32) (fk : Nat → Int32) (fa : Nat → Int32) (fc : Nat → Int32) (ft : Nat → Int32) (ff : Nat → Int32) (fb : Nat → Int32) (fi : Nat → Int32) (x : Int32) (n : Int32) (rfm : rM fm) (rfa : rM fa) (hiD : 0 ≤ iD.toInt ∧ iD.toInt ≤ 1) (hiO : 0 ≤ iO.toInt ∧ iO.toInt ≤ 1) : zM' g l yX12_sways (Cond.code yX12_sways cX12_sways 3 (some .int) :: zB) ({ frames := 34, cells := 0, slots := 0, locals := 761 } : Room) [.ref o, .int x, .int n] [bMo g o a th hi ac tp ba en tA fl de iD iO tU fm fk fa fc ft ff fb fi] (fun u : Int32 × Int32 × Int32 × Int32 × Int32 × Int32 × Int32 × Int32 × (Nat → Int32) × (Nat → Int32) × (Nat → Int32) × (Nat → Int32) × Int32 => (fun (th2 : Int32) (ba2 : Int32) (en2 : Int32) (at2 : Int32) (de2 : Int32) (iD2 : Int32) (iO2 : Int32) (tU2 : Int32) (ff2 : Nat → Int32) (fm2 : Nat → Int32) (fb2 : Nat → Int32) (fa2 : Nat → Int32) (q : Int32) => some (.int q)) (u.1) (u.2.1) (u.2.2.1) (u.2.2.2.1) (u.2.2.2.2.1) (u.2.2.2.2.2.1) (u.2.2.2.2.2.2.1) (u.2.2.2.2.2.2.2.1) (u.2.2.2.2.2.2.2.2.1) (u.2.2.2.2.2.2.2.2.2.1) (u.2.2.2.2.2.2.2.2.2.2.1) (u.2.2.2.2.2.2.2.2.2.2.2.1) (u.2.2.2.2.2.2.2.2.2.2.2.2)) (fun u : Int32 × Int32 × Int32 × Int32 × Int32 × Int32 × Int32 × Int32 × (Nat → Int32) × (Nat → Int32) × (Nat → Int32) × (Nat → Int32) × Int32 => (fun (th2 : Int32) (ba2 : Int32) (en2 : Int32) (at2 : Int32) (de2 : Int32) (iD2 : Int32) (iO2 : Int32) (tU2 : Int32) (ff2 : Nat → Int32) (fm2 : Nat → Int32) (fb2 : Nat → Int32) (fa2 : Nat → Int32) (q : Int32) => ((fm2 0).toInt = (fm 0).toInt ∧ (fm2 3).toInt = (fm 3).toInt ∧ (fm2 4).toInt = (fm 4).toInt) ∧ (rM fa2) ∧ (rM fm2) ∧ (0 ≤ iO2.toInt ∧ iO2.toInt ≤ 1) ∧ (0 ≤ iD2.toInt ∧ iD2.toInt ≤ 1)) (u.1) (u.2.1) (u.2.2.1) (u.2.2.2.1) (u.2.2.2.2.1) (u.2.2.2.2.2.1) (u.2.2.2.2.2.2.1) (u.2.2.2.2.2.2.2.1) (u.2.2.2.2.2.2.2.2.1) (u.2.2.2.2.2.2.2.2.2.1) (u.2.2.2.2.2.2.2.2.2.2.1) (u.2.2.2.2.2.2.2.2.2.2.2.1) (u.2.2.2.2.2.2.2.2.2.2.2.2)) (fun u : Int32 × Int32 × Int32 × Int32 × Int32 × Int32 × Int32 × Int32 × (Nat → Int32) × (Nat → Int32) × (Nat → Int32) × (Nat → Int32) × Int32 => (fun (th2 : Int32) (ba2 : Int32) (en2 : Int32) (at2 : Int32) (de2 : Int32) (iD2 : Int32) (iO2 : Int32) (tU2 : Int32) (ff2 : Nat → Int32) (fm2 : Nat → Int32) (fb2 : Nat → Int32) (fa2 : Nat → Int32) (q : Int32) => [bMo g o a th2 hi ac tp ba2 en2 at2 fl de2 iD2 iO2 tU2 fm2 fk fa2 fc ft ff2 fb2 fi]) (u.1) (u.2.1) (u.2.2.1) (u.2.2.2.1) (u.2.2.2.2.1) (u.2.2.2.2.2.1) (u.2.2.2.2.2.2.1) (u.2.2.2.2.2.2.2.1) (u.2.2.2.2.2.2.2.2.1) (u.2.2.2.2.2.2.2.2.2.1) (u.2.2.2.2.2.2.2.2.2.2.1) (u.2.2.2.2.2.2.2.2.2.2.2.1) (u.2.2.2.2.2.2.2.2.2.2.2.2)) := by
  refine zM'.of (cc := cX12_sways) (maxL := 3) (rt := (some .int)) (by decide) rfl (Nat.le_of_ble_eq_true rfl) ?_
  intro p e s m args below meth c A ls St hr hlocks hin hK hT hA hP hD hS hl
  obtain ⟨hx, hb, hml, hown, hts⟩ := id St
  have hl : lv_has ls 3 [(0, .ref o), (1, .int x), (2, .int n)] := hl
  refine lv_aload_n hx hb dX12_sways_0 rfl (lv_at hl 0 rfl) ?_
  refine lv_aload_n hx hb dX12_sways_1 rfl (lv_at hl 0 rfl) ?_
  refine lv_iload_n hx hb dX12_sways_2 rfl (lv_at hl 1 rfl) ?_
  refine mcallV' (g := g) (q0 := 0) (ci := 10) (As := [.int x]) (rest := [.ref o]) St hK hT hA hP hD hS hl.1 [0] [] rfl rfl rfl (m_isPerson l g o a th hi ac tp ba en tA fl de iD iO tU fm fk fa fc ft ff fb fi x rfm) (cwV 1 hts (zgL (zl4 k1033 k1034 k1035 k839) k836) rfl rfl rfl (by decide +kernel) ⟨Nat.le_of_ble_eq_true rfl, Nat.le_of_ble_eq_true rfl⟩) rfl rfl rfl rfl (Nat.le_of_ble_eq_true rfl) dX12_sways_3 ⟨(Nat.le_of_ble_eq_true rfl), (Nat.le_of_ble_eq_true rfl)⟩ (fun q_1 H locs hq2 hP hD hS => ?_)
  replace hq2 : (q_1 = 1 ∧ 0 ≤ x.toInt ∧ x.toInt ≤ 7 ∧ x.toInt < (fm 3).toInt ∨ q_1 = 0) := hq2
  have hP : va_P g.1 vwCl (List.flatten [bMo g o a th hi ac tp ba en tA fl de iD iO tU fm fk fa fc ft ff fb fi]) H := hP
  have hD : va_D A (List.flatten [bMo g o a th hi ac tp ba en tA fl de iD iO tU fm fk fa fc ft ff fb fi]) := hD
  refine W.widen (k := 0) (n := 0) (Nat.le_of_ble_eq_true rfl) (Nat.le_of_ble_eq_true rfl) ?_
  refine W.eq (g2 := F0 m 6 ls [.int q_1, .ref o]) rfl ?_
  rcases hq2 with ⟨rfl, hq2_k⟩ | rfl
  · skip
    refine lv_if_ne (tgt := 13) hx hb dX12_sways_6 (by decide) (fun _ => ?_) (fun c3 => absurd c3 (by decide))
    refine lv_iload_n hx hb dX12_sways_13 rfl (lv_at hl 2 rfl) ?_
    refine lv_iconst (v := 0) hx hb dX12_sways_14 (by decide) ?_
    refine lv_bipush (v := 30) hx hb dX12_sways_15 (by decide) ?_
    have hL0 : (0 : Int32).toInt = 0 := by decide
    have hL30 : (30 : Int32).toInt = 30 := by decide
    refine mcallS' (g := g) (As := [.int n, .int 0, .int 30]) (rest := [.ref o]) St hK hT hA hP hD hS hl.1 [] [0] rfl rfl rfl (m_isIn l g n 0 30 ) (va_cwS 3 hts (zgL (zl3 k837 k838 k839) k826) rfl rfl rfl (by decide +kernel) ⟨Nat.le_of_ble_eq_true rfl, Nat.le_of_ble_eq_true rfl⟩) rfl rfl (Nat.le_of_ble_eq_true rfl) dX12_sways_17 ⟨(Nat.le_of_ble_eq_true rfl), (Nat.le_of_ble_eq_true rfl)⟩ (fun q_4 H locs hq5 hP hD hS => ?_)
    replace hq5 : (q_4 = 1 ∧ (0 : Int32).toInt ≤ n.toInt ∧ n.toInt ≤ (30 : Int32).toInt ∨ q_4 = 0 ∧ (n.toInt < (0 : Int32).toInt ∨ (30 : Int32).toInt < n.toInt)) := hq5
    have hP : va_P g.1 vwCl (List.flatten [bMo g o a th hi ac tp ba en tA fl de iD iO tU fm fk fa fc ft ff fb fi]) H := hP
    have hD : va_D A (List.flatten [bMo g o a th hi ac tp ba en tA fl de iD iO tU fm fk fa fc ft ff fb fi]) := hD
    refine W.widen (k := 0) (n := 0) (Nat.le_of_ble_eq_true rfl) (Nat.le_of_ble_eq_true rfl) ?_
    refine W.eq (g2 := F0 m 20 ls [.int q_4, .ref o]) rfl ?_
    rcases hq5 with ⟨rfl, hq5_k⟩ | ⟨rfl, hq5_k⟩
    · skip
      refine lv_if_ne (tgt := 27) hx hb dX12_sways_20 (by decide) (fun _ => ?_) (fun c6 => absurd c6 (by decide))
      refine lv_iconst (v := 0) hx hb dX12_sways_27 (by decide) ?_
      refine va_put (D := g.1) (ci := 10) (v := .int 0) (ty := .int) (C := RX12) (T := TX12) (N := 20) hx hb hts izRX12 tyX12 tyX12_ok nmX12 hown hK hP hD hS 0 rfl rfl 0 (by decide) (hts _ k825) (fun _ h9 => h9) rfl (by decide +kernel) rfl rfl (Nat.le_of_ble_eq_true rfl) dX12_sways_28 (fun H locs hP hD hS => ?_)
      have hP : va_P g.1 vwCl (List.flatten [bMo g o a 0 hi ac tp ba en tA fl de iD iO tU fm fk fa fc ft ff fb fi]) H := hP
      have hD : va_D A (List.flatten [bMo g o a 0 hi ac tp ba en tA fl de iD iO tU fm fk fa fc ft ff fb fi]) := hD
      refine lv_aload_n hx hb dX12_sways_31 rfl (lv_at hl 0 rfl) ?_
      refine va_get (D := g.1) (ci := 10) (v := .int 0) (C := RX12) (T := TX12) (N := 20) hx hb hts izRX12 hown hK hP 0 rfl rfl 0 (by decide) (hts _ k825) (fun _ h9 => h9) rfl dX12_sways_32 ?_
      refine lv_if_le (tgt := 42) hx hb dX12_sways_35 (by decide) (fun _ => ?_) (fun c7 => absurd (by decide) c7)
      refine lv_aload_n hx hb dX12_sways_42 rfl (lv_at hl 0 rfl) ?_
      refine lv_iload_n hx hb dX12_sways_43 rfl (lv_at hl 2 rfl) ?_
      refine lv_iconst (v := 1) hx hb dX12_sways_44 (by decide) ?_
      refine lv_iload_n hx hb dX12_sways_45 rfl (lv_at hl 1 rfl) ?_
      refine lv_ishl hx hb dX12_sways_46 ?_
      refine zgb (zshl1 (j := x.toInt) rfl 7 128 (by decide) (by decide) (by omega)) (fun x_8 hx_8 => ?_)
      refine lv_bipush (v := 10) hx hb dX12_sways_47 (by decide) ?_
      refine mcallV' (g := g) (q0 := 0) (ci := 10) (As := [.int n, .int x_8, .int 10]) (rest := []) St hK hT hA hP hD hS hl.1 [0] [] rfl rfl rfl (m_believedBy l g o a 0 hi ac tp ba en tA fl de iD iO tU fm fk fa fc ft ff fb fi n x_8 10 rfm rfa hiD hiO (by first | assumption | omega | decide | exact Or.inl (by decide) | exact Or.inr (by decide))) (cwV 3 hts (zgL (zl4 k1066 k1067 k1068 k839) k1064) rfl rfl rfl (by decide +kernel) ⟨Nat.le_of_ble_eq_true rfl, Nat.le_of_ble_eq_true rfl⟩) rfl rfl rfl rfl (Nat.le_of_ble_eq_true rfl) dX12_sways_49 ⟨(Nat.le_of_ble_eq_true rfl), (Nat.le_of_ble_eq_true rfl)⟩ (fun u_ H locs hq21 hP hD hS => ?_)
      obtain ⟨ba2_9, en2_10, at2_11, de2_12, iD2_13, iO2_14, tU2_15, ff2_16, fm2_17, fb2_18, fa2_19, q_20⟩ := u_
      replace hq21 : ((fm2_17 0).toInt = (fm 0).toInt ∧ (fm2_17 3).toInt = (fm 3).toInt ∧ (fm2_17 4).toInt = (fm 4).toInt) ∧ (rM fa2_19) ∧ (rM fm2_17) ∧ (0 ≤ iO2_14.toInt ∧ iO2_14.toInt ≤ 1) ∧ (0 ≤ iD2_13.toInt ∧ iD2_13.toInt ≤ 1) := hq21
      have hP : va_P g.1 vwCl (List.flatten [bMo g o a 0 hi ac tp ba2_9 en2_10 at2_11 fl de2_12 iD2_13 iO2_14 tU2_15 fm2_17 fk fa2_19 fc ft ff2_16 fb2_18 fi]) H := hP
      have hD : va_D A (List.flatten [bMo g o a 0 hi ac tp ba2_9 en2_10 at2_11 fl de2_12 iD2_13 iO2_14 tU2_15 fm2_17 fk fa2_19 fc ft ff2_16 fb2_18 fi]) := hD
      refine W.widen (k := 0) (n := 0) (Nat.le_of_ble_eq_true rfl) (Nat.le_of_ble_eq_true rfl) ?_
      refine W.eq (g2 := F0 m 52 ls [.int q_20]) rfl ?_
      obtain ⟨hq21_0, rfa2_19, rfm2_17, hq21_3, hq21_4⟩ := hq21
      refine lv_aload_n hx hb dX12_sways_52 rfl (lv_at hl 0 rfl) ?_
      refine lv_iload_n hx hb dX12_sways_53 rfl (lv_at hl 2 rfl) ?_
      refine lv_iconst (v := 0) hx hb dX12_sways_54 (by decide) ?_
      refine lv_iconst (v := 0) hx hb dX12_sways_55 (by decide) ?_
      refine mcallV' (g := g) (q0 := 0) (ci := 10) (As := [.int n, .int 0, .int 0]) (rest := [.int q_20]) St hK hT hA hP hD hS hl.1 [0] [] rfl rfl rfl (m_believedBy l g o a 0 hi ac tp ba2_9 en2_10 at2_11 fl de2_12 iD2_13 iO2_14 tU2_15 fm2_17 fk fa2_19 fc ft ff2_16 fb2_18 fi n 0 0 rfm2_17 rfa2_19 hq21_4 hq21_3 (by first | assumption | omega | decide | exact Or.inl (by decide) | exact Or.inr (by decide))) (cwV 3 hts (zgL (zl4 k1066 k1067 k1068 k839) k1064) rfl rfl rfl (by decide +kernel) ⟨Nat.le_of_ble_eq_true rfl, Nat.le_of_ble_eq_true rfl⟩) rfl rfl rfl rfl (Nat.le_of_ble_eq_true rfl) dX12_sways_56 ⟨(Nat.le_of_ble_eq_true rfl), (Nat.le_of_ble_eq_true rfl)⟩ (fun u_ H locs hq34 hP hD hS => ?_)
      obtain ⟨ba2_22, en2_23, at2_24, de2_25, iD2_26, iO2_27, tU2_28, ff2_29, fm2_30, fb2_31, fa2_32, q_33⟩ := u_
      replace hq34 : ((fm2_30 0).toInt = (fm2_17 0).toInt ∧ (fm2_30 3).toInt = (fm2_17 3).toInt ∧ (fm2_30 4).toInt = (fm2_17 4).toInt) ∧ (rM fa2_32) ∧ (rM fm2_30) ∧ (0 ≤ iO2_27.toInt ∧ iO2_27.toInt ≤ 1) ∧ (0 ≤ iD2_26.toInt ∧ iD2_26.toInt ≤ 1) := hq34
      have hP : va_P g.1 vwCl (List.flatten [bMo g o a 0 hi ac tp ba2_22 en2_23 at2_24 fl de2_25 iD2_26 iO2_27 tU2_28 fm2_30 fk fa2_32 fc ft ff2_29 fb2_31 fi]) H := hP
      have hD : va_D A (List.flatten [bMo g o a 0 hi ac tp ba2_22 en2_23 at2_24 fl de2_25 iD2_26 iO2_27 tU2_28 fm2_30 fk fa2_32 fc ft ff2_29 fb2_31 fi]) := hD
      refine W.widen (k := 0) (n := 0) (Nat.le_of_ble_eq_true rfl) (Nat.le_of_ble_eq_true rfl) ?_
      refine W.eq (g2 := F0 m 59 ls [.int q_33, .int q_20]) rfl ?_
      obtain ⟨hq34_0, rfa2_32, rfm2_30, hq34_3, hq34_4⟩ := hq34
      refine lv_isub hx hb dX12_sways_59 ?_
      refine zg (fun x_35 => ?_)
      have hP : va_P g.1 vwCl (List.flatten [bMo g o a 0 hi ac tp ba2_22 en2_23 at2_24 fl de2_25 iD2_26 iO2_27 tU2_28 fm2_30 fk fa2_32 fc ft ff2_29 fb2_31 fi]) H := hP
      have hD : va_D A (List.flatten [bMo g o a 0 hi ac tp ba2_22 en2_23 at2_24 fl de2_25 iD2_26 iO2_27 tU2_28 fm2_30 fk fa2_32 fc ft ff2_29 fb2_31 fi]) := hD
      exact mret_i hx hb hr hlocks hS (Nat.le_of_ble_eq_true rfl) (Nat.le_of_ble_eq_true rfl) dX12_sways_60 ((0 : Int32), ba2_22, en2_23, at2_24, de2_25, iD2_26, iO2_27, tU2_28, ff2_29, fm2_30, fb2_31, fa2_32, x_35) rfl (show ((fm2_30 0).toInt = (fm 0).toInt ∧ (fm2_30 3).toInt = (fm 3).toInt ∧ (fm2_30 4).toInt = (fm 4).toInt) ∧ (rM fa2_32) ∧ (rM fm2_30) ∧ (0 ≤ iO2_27.toInt ∧ iO2_27.toInt ≤ 1) ∧ (0 ≤ iD2_26.toInt ∧ iD2_26.toInt ≤ 1) from ⟨(by first | assumption | omega | decide | exact rfl | exact zb01 (by omega) | exact Or.inl (by decide) | exact Or.inr (by first | omega | decide)), rfa2_32, rfm2_30, hq34_3, hq34_4⟩) hP hD
    · skip
      refine lv_if_ne (tgt := 27) hx hb dX12_sways_20 (by decide) (fun c36 => absurd (by decide) c36) (fun _ => ?_)
      refine lv_iconst (v := 2) hx hb dX12_sways_23 (by decide) ?_
      refine lv_goto (tgt := 28) hx hb dX12_sways_24 (by decide) ?_
      refine va_put (D := g.1) (ci := 10) (v := .int 2) (ty := .int) (C := RX12) (T := TX12) (N := 20) hx hb hts izRX12 tyX12 tyX12_ok nmX12 hown hK hP hD hS 0 rfl rfl 0 (by decide) (hts _ k825) (fun _ h9 => h9) rfl (by decide +kernel) rfl rfl (Nat.le_of_ble_eq_true rfl) dX12_sways_28 (fun H locs hP hD hS => ?_)
      have hP : va_P g.1 vwCl (List.flatten [bMo g o a 2 hi ac tp ba en tA fl de iD iO tU fm fk fa fc ft ff fb fi]) H := hP
      have hD : va_D A (List.flatten [bMo g o a 2 hi ac tp ba en tA fl de iD iO tU fm fk fa fc ft ff fb fi]) := hD
      refine lv_aload_n hx hb dX12_sways_31 rfl (lv_at hl 0 rfl) ?_
      refine va_get (D := g.1) (ci := 10) (v := .int 2) (C := RX12) (T := TX12) (N := 20) hx hb hts izRX12 hown hK hP 0 rfl rfl 0 (by decide) (hts _ k825) (fun _ h9 => h9) rfl dX12_sways_32 ?_
      refine lv_if_le (tgt := 42) hx hb dX12_sways_35 (by decide) (fun c37 => absurd c37 (by decide)) (fun _ => ?_)
      refine lv_iconst (v := 0) hx hb dX12_sways_38 (by decide) ?_
      refine lv_goto (tgt := 60) hx hb dX12_sways_39 (by decide) ?_
      have hP : va_P g.1 vwCl (List.flatten [bMo g o a 2 hi ac tp ba en tA fl de iD iO tU fm fk fa fc ft ff fb fi]) H := hP
      have hD : va_D A (List.flatten [bMo g o a 2 hi ac tp ba en tA fl de iD iO tU fm fk fa fc ft ff fb fi]) := hD
      exact mret_i hx hb hr hlocks hS (Nat.le_of_ble_eq_true rfl) (Nat.le_of_ble_eq_true rfl) dX12_sways_60 ((2 : Int32), ba, en, tA, de, iD, iO, tU, ff, fm, fb, fa, (0 : Int32)) rfl (show ((fm 0).toInt = (fm 0).toInt ∧ (fm 3).toInt = (fm 3).toInt ∧ (fm 4).toInt = (fm 4).toInt) ∧ (rM fa) ∧ (rM fm) ∧ (0 ≤ iO.toInt ∧ iO.toInt ≤ 1) ∧ (0 ≤ iD.toInt ∧ iD.toInt ≤ 1) from ⟨(by first | assumption | omega | decide | exact rfl | exact zb01 (by omega) | exact Or.inl (by decide) | exact Or.inr (by first | omega | decide)), rfa, rfm, hiO, hiD⟩) hP hD
  · skip
    refine lv_if_ne (tgt := 13) hx hb dX12_sways_6 (by decide) (fun c38 => absurd (by decide) c38) (fun _ => ?_)
    refine lv_iconst (v := 1) hx hb dX12_sways_9 (by decide) ?_
    refine lv_goto (tgt := 28) hx hb dX12_sways_10 (by decide) ?_
    refine va_put (D := g.1) (ci := 10) (v := .int 1) (ty := .int) (C := RX12) (T := TX12) (N := 20) hx hb hts izRX12 tyX12 tyX12_ok nmX12 hown hK hP hD hS 0 rfl rfl 0 (by decide) (hts _ k825) (fun _ h9 => h9) rfl (by decide +kernel) rfl rfl (Nat.le_of_ble_eq_true rfl) dX12_sways_28 (fun H locs hP hD hS => ?_)
    have hP : va_P g.1 vwCl (List.flatten [bMo g o a 1 hi ac tp ba en tA fl de iD iO tU fm fk fa fc ft ff fb fi]) H := hP
    have hD : va_D A (List.flatten [bMo g o a 1 hi ac tp ba en tA fl de iD iO tU fm fk fa fc ft ff fb fi]) := hD
    refine lv_aload_n hx hb dX12_sways_31 rfl (lv_at hl 0 rfl) ?_
    refine va_get (D := g.1) (ci := 10) (v := .int 1) (C := RX12) (T := TX12) (N := 20) hx hb hts izRX12 hown hK hP 0 rfl rfl 0 (by decide) (hts _ k825) (fun _ h9 => h9) rfl dX12_sways_32 ?_
    refine lv_if_le (tgt := 42) hx hb dX12_sways_35 (by decide) (fun c39 => absurd c39 (by decide)) (fun _ => ?_)
    refine lv_iconst (v := 0) hx hb dX12_sways_38 (by decide) ?_
    refine lv_goto (tgt := 60) hx hb dX12_sways_39 (by decide) ?_
    have hP : va_P g.1 vwCl (List.flatten [bMo g o a 1 hi ac tp ba en tA fl de iD iO tU fm fk fa fc ft ff fb fi]) H := hP
    have hD : va_D A (List.flatten [bMo g o a 1 hi ac tp ba en tA fl de iD iO tU fm fk fa fc ft ff fb fi]) := hD
    exact mret_i hx hb hr hlocks hS (Nat.le_of_ble_eq_true rfl) (Nat.le_of_ble_eq_true rfl) dX12_sways_60 ((1 : Int32), ba, en, tA, de, iD, iO, tU, ff, fm, fb, fa, (0 : Int32)) rfl (show ((fm 0).toInt = (fm 0).toInt ∧ (fm 3).toInt = (fm 3).toInt ∧ (fm 4).toInt = (fm 4).toInt) ∧ (rM fa) ∧ (rM fm) ∧ (0 ≤ iO.toInt ∧ iO.toInt ≤ 1) ∧ (0 ≤ iD.toInt ∧ iD.toInt ≤ 1) from ⟨(by first | assumption | omega | decide | exact rfl | exact zb01 (by omega) | exact Or.inl (by decide) | exact Or.inr (by first | omega | decide)), rfa, rfm, hiO, hiD⟩) hP hD
set_option maxRecDepth 100000 in
set_option maxHeartbeats 4000000 in
theorem m_guru (l : Launch) (g : zG) (o : Nat) (a : Nat → Nat) (th : Int32) (hi : Int32) (ac : Int32) (tp : Int32) (ba : Int32) (en : Int32) (tA : Int32) (fl : Int32) (de : Int32) (iD : Int32) (iO : Int32) (tU : Int32) (fm : Nat → Int32) (fk : Nat → Int32) (fa : Nat → Int32) (fc : Nat → Int32) (ft : Nat → Int32) (ff : Nat → Int32) (fb : Nat → Int32) (fi : Nat → Int32) (n : Int32) (rfm : rM fm) (rfa : rM fa) (hiD : 0 ≤ iD.toInt ∧ iD.toInt ≤ 1) (hiO : 0 ≤ iO.toInt ∧ iO.toInt ≤ 1) : zM' g l yX12_guru (Cond.code yX12_guru cX12_guru 6 (some .int) :: zB) ({ frames := 34, cells := 0, slots := 0, locals := 761 } : Room) [.ref o, .int n] [bMo g o a th hi ac tp ba en tA fl de iD iO tU fm fk fa fc ft ff fb fi] (fun u : Int32 × Int32 × Int32 × Int32 × Int32 × Int32 × Int32 × Int32 × (Nat → Int32) × (Nat → Int32) × (Nat → Int32) × (Nat → Int32) × Int32 => (fun (th2 : Int32) (ba2 : Int32) (en2 : Int32) (at2 : Int32) (de2 : Int32) (iD2 : Int32) (iO2 : Int32) (tU2 : Int32) (ff2 : Nat → Int32) (fm2 : Nat → Int32) (fb2 : Nat → Int32) (fa2 : Nat → Int32) (q : Int32) => some (.int q)) (u.1) (u.2.1) (u.2.2.1) (u.2.2.2.1) (u.2.2.2.2.1) (u.2.2.2.2.2.1) (u.2.2.2.2.2.2.1) (u.2.2.2.2.2.2.2.1) (u.2.2.2.2.2.2.2.2.1) (u.2.2.2.2.2.2.2.2.2.1) (u.2.2.2.2.2.2.2.2.2.2.1) (u.2.2.2.2.2.2.2.2.2.2.2.1) (u.2.2.2.2.2.2.2.2.2.2.2.2)) (fun u : Int32 × Int32 × Int32 × Int32 × Int32 × Int32 × Int32 × Int32 × (Nat → Int32) × (Nat → Int32) × (Nat → Int32) × (Nat → Int32) × Int32 => (fun (th2 : Int32) (ba2 : Int32) (en2 : Int32) (at2 : Int32) (de2 : Int32) (iD2 : Int32) (iO2 : Int32) (tU2 : Int32) (ff2 : Nat → Int32) (fm2 : Nat → Int32) (fb2 : Nat → Int32) (fa2 : Nat → Int32) (q : Int32) => ((fm2 0).toInt = (fm 0).toInt ∧ (fm2 3).toInt = (fm 3).toInt ∧ (fm2 4).toInt = (fm 4).toInt) ∧ (rM fa2) ∧ (rM fm2) ∧ (0 ≤ iO2.toInt ∧ iO2.toInt ≤ 1) ∧ (0 ≤ iD2.toInt ∧ iD2.toInt ≤ 1)) (u.1) (u.2.1) (u.2.2.1) (u.2.2.2.1) (u.2.2.2.2.1) (u.2.2.2.2.2.1) (u.2.2.2.2.2.2.1) (u.2.2.2.2.2.2.2.1) (u.2.2.2.2.2.2.2.2.1) (u.2.2.2.2.2.2.2.2.2.1) (u.2.2.2.2.2.2.2.2.2.2.1) (u.2.2.2.2.2.2.2.2.2.2.2.1) (u.2.2.2.2.2.2.2.2.2.2.2.2)) (fun u : Int32 × Int32 × Int32 × Int32 × Int32 × Int32 × Int32 × Int32 × (Nat → Int32) × (Nat → Int32) × (Nat → Int32) × (Nat → Int32) × Int32 => (fun (th2 : Int32) (ba2 : Int32) (en2 : Int32) (at2 : Int32) (de2 : Int32) (iD2 : Int32) (iO2 : Int32) (tU2 : Int32) (ff2 : Nat → Int32) (fm2 : Nat → Int32) (fb2 : Nat → Int32) (fa2 : Nat → Int32) (q : Int32) => [bMo g o a th2 hi ac tp ba2 en2 at2 fl de2 iD2 iO2 tU2 fm2 fk fa2 fc ft ff2 fb2 fi]) (u.1) (u.2.1) (u.2.2.1) (u.2.2.2.1) (u.2.2.2.2.1) (u.2.2.2.2.2.1) (u.2.2.2.2.2.2.1) (u.2.2.2.2.2.2.2.1) (u.2.2.2.2.2.2.2.2.1) (u.2.2.2.2.2.2.2.2.2.1) (u.2.2.2.2.2.2.2.2.2.2.1) (u.2.2.2.2.2.2.2.2.2.2.2.1) (u.2.2.2.2.2.2.2.2.2.2.2.2)) := by
  refine zM'.of (cc := cX12_guru) (maxL := 6) (rt := (some .int)) (by decide) rfl (Nat.le_of_ble_eq_true rfl) ?_
  intro p e s m args below meth c A ls St hr hlocks hin hK hT hA hP hD hS hl
  obtain ⟨hx, hb, hml, hown, hts⟩ := id St
  have hl : lv_has ls 6 [(0, .ref o), (1, .int n)] := hl
  refine lv_aload_n hx hb dX12_guru_0 rfl (lv_at hl 0 rfl) ?_
  refine lv_iload_n hx hb dX12_guru_1 rfl (lv_at hl 1 rfl) ?_
  refine lv_iconst (v := 0) hx hb dX12_guru_2 (by decide) ?_
  refine lv_bipush (v := 30) hx hb dX12_guru_3 (by decide) ?_
  have hL0 : (0 : Int32).toInt = 0 := by decide
  have hL30 : (30 : Int32).toInt = 30 := by decide
  refine mcallS' (g := g) (As := [.int n, .int 0, .int 30]) (rest := [.ref o]) St hK hT hA hP hD hS hl.1 [] [0] rfl rfl rfl (m_isIn l g n 0 30 ) (va_cwS 3 hts (zgL (zl3 k837 k838 k839) k826) rfl rfl rfl (by decide +kernel) ⟨Nat.le_of_ble_eq_true rfl, Nat.le_of_ble_eq_true rfl⟩) rfl rfl (Nat.le_of_ble_eq_true rfl) dX12_guru_5 ⟨(Nat.le_of_ble_eq_true rfl), (Nat.le_of_ble_eq_true rfl)⟩ (fun q_1 H locs hq2 hP hD hS => ?_)
  replace hq2 : (q_1 = 1 ∧ (0 : Int32).toInt ≤ n.toInt ∧ n.toInt ≤ (30 : Int32).toInt ∨ q_1 = 0 ∧ (n.toInt < (0 : Int32).toInt ∨ (30 : Int32).toInt < n.toInt)) := hq2
  have hP : va_P g.1 vwCl (List.flatten [bMo g o a th hi ac tp ba en tA fl de iD iO tU fm fk fa fc ft ff fb fi]) H := hP
  have hD : va_D A (List.flatten [bMo g o a th hi ac tp ba en tA fl de iD iO tU fm fk fa fc ft ff fb fi]) := hD
  refine W.widen (k := 0) (n := 0) (Nat.le_of_ble_eq_true rfl) (Nat.le_of_ble_eq_true rfl) ?_
  refine W.eq (g2 := F0 m 8 ls [.int q_1, .ref o]) rfl ?_
  rcases hq2 with ⟨rfl, hq2_k⟩ | ⟨rfl, hq2_k⟩
  · skip
    refine lv_if_ne (tgt := 15) hx hb dX12_guru_8 (by decide) (fun _ => ?_) (fun c3 => absurd c3 (by decide))
    refine lv_iconst (v := 0) hx hb dX12_guru_15 (by decide) ?_
    refine va_put (D := g.1) (ci := 10) (v := .int 0) (ty := .int) (C := RX12) (T := TX12) (N := 20) hx hb hts izRX12 tyX12 tyX12_ok nmX12 hown hK hP hD hS 0 rfl rfl 0 (by decide) (hts _ k825) (fun _ h9 => h9) rfl (by decide +kernel) rfl rfl (Nat.le_of_ble_eq_true rfl) dX12_guru_16 (fun H locs hP hD hS => ?_)
    have hP : va_P g.1 vwCl (List.flatten [bMo g o a 0 hi ac tp ba en tA fl de iD iO tU fm fk fa fc ft ff fb fi]) H := hP
    have hD : va_D A (List.flatten [bMo g o a 0 hi ac tp ba en tA fl de iD iO tU fm fk fa fc ft ff fb fi]) := hD
    refine lv_aload_n hx hb dX12_guru_19 rfl (lv_at hl 0 rfl) ?_
    refine va_get (D := g.1) (ci := 10) (v := .int 0) (C := RX12) (T := TX12) (N := 20) hx hb hts izRX12 hown hK hP 0 rfl rfl 0 (by decide) (hts _ k825) (fun _ h9 => h9) rfl dX12_guru_20 ?_
    refine lv_if_le (tgt := 28) hx hb dX12_guru_23 (by decide) (fun _ => ?_) (fun c4 => absurd (by decide) c4)
    refine lv_iconst (v := (-1)) hx hb dX12_guru_28 (by decide) ?_
    refine lv_istore_n (lv' := [(2, .int (-1)), (0, .ref o), (1, .int n)]) hx hb dX12_guru_29 rfl hl (by decide) rfl (fun ls hl => ?_)
    refine lv_iconst (v := 0) hx hb dX12_guru_30 (by decide) ?_
    refine lv_istore_n (lv' := [(3, .int 0), (2, .int (-1)), (0, .ref o), (1, .int n)]) hx hb dX12_guru_31 rfl hl (by decide) rfl (fun ls hl => ?_)
    refine lv_iconst (v := 0) hx hb dX12_guru_32 (by decide) ?_
    refine lv_istore (lv' := [(4, .int 0), (3, .int 0), (2, .int (-1)), (0, .ref o), (1, .int n)]) hx hb dX12_guru_33 hl (by decide) rfl (fun ls hl => ?_)
    have hl := lv_sub (l' := [(0, .ref o), (1, .int n), (2, .int (-1)), (3, .int 0), (4, .int 0)]) hl [3, 4, 2, 1, 0] rfl
    have LP35_24 : ∀ (kf : Nat) (x_5 : Int32) (x_6 : Int32) (x_7 : Int32) (x_8 : Int32) (x_9 : Int32) (x_10 : Int32) (x_11 : Int32) (x_12 : Int32) (x_13 : Int32) (x_14 : Int32) (fm_15 : Nat → Int32) (fa_16 : Nat → Int32) (ff_17 : Nat → Int32) (fb_18 : Nat → Int32), ((-1) ≤ x_5.toInt ∧ x_5.toInt ≤ 7) → (0 ≤ x_7.toInt ∧ x_7.toInt ≤ 8) → (0 ≤ x_12.toInt ∧ x_12.toInt ≤ 1) → (0 ≤ x_13.toInt ∧ x_13.toInt ≤ 1) → (rM fm_15) → (rM fa_16) → ((fm_15 0).toInt = (fm 0).toInt ∧ (fm_15 3).toInt = (fm 3).toInt ∧ (fm_15 4).toInt = (fm 4).toInt) → ∀ (H : Heap) (locs : List Loc) (ls : Array Slot), ((9 - x_7.toInt).toNat) < kf → va_P g.1 vwCl (List.flatten [bMo g o a 0 hi ac tp x_8 x_9 x_10 fl x_11 x_12 x_13 x_14 fm_15 fk fa_16 fc ft ff_17 fb_18 fi]) H → va_D A (List.flatten [bMo g o a 0 hi ac tp x_8 x_9 x_10 fl x_11 x_12 x_13 x_14 fm_15 fk fa_16 fc ft ff_17 fb_18 fi]) → va_S A s.heap H locs → lv_has ls 6 [(0, .ref o), (1, .int n), (2, .int x_5), (3, .int x_6), (4, .int x_7)] → W p l e ({ frames := 34, cells := 0, slots := 0, locals := 761 } : Room) s m args below meth c H locs (0) (0) (zF g (fun u : Int32 × Int32 × Int32 × Int32 × Int32 × Int32 × Int32 × Int32 × (Nat → Int32) × (Nat → Int32) × (Nat → Int32) × (Nat → Int32) × Int32 => (fun (th2 : Int32) (ba2 : Int32) (en2 : Int32) (at2 : Int32) (de2 : Int32) (iD2 : Int32) (iO2 : Int32) (tU2 : Int32) (ff2 : Nat → Int32) (fm2 : Nat → Int32) (fb2 : Nat → Int32) (fa2 : Nat → Int32) (q : Int32) => some (.int q)) (u.1) (u.2.1) (u.2.2.1) (u.2.2.2.1) (u.2.2.2.2.1) (u.2.2.2.2.2.1) (u.2.2.2.2.2.2.1) (u.2.2.2.2.2.2.2.1) (u.2.2.2.2.2.2.2.2.1) (u.2.2.2.2.2.2.2.2.2.1) (u.2.2.2.2.2.2.2.2.2.2.1) (u.2.2.2.2.2.2.2.2.2.2.2.1) (u.2.2.2.2.2.2.2.2.2.2.2.2)) (fun u : Int32 × Int32 × Int32 × Int32 × Int32 × Int32 × Int32 × Int32 × (Nat → Int32) × (Nat → Int32) × (Nat → Int32) × (Nat → Int32) × Int32 => (fun (th2 : Int32) (ba2 : Int32) (en2 : Int32) (at2 : Int32) (de2 : Int32) (iD2 : Int32) (iO2 : Int32) (tU2 : Int32) (ff2 : Nat → Int32) (fm2 : Nat → Int32) (fb2 : Nat → Int32) (fa2 : Nat → Int32) (q : Int32) => ((fm2 0).toInt = (fm 0).toInt ∧ (fm2 3).toInt = (fm 3).toInt ∧ (fm2 4).toInt = (fm 4).toInt) ∧ (rM fa2) ∧ (rM fm2) ∧ (0 ≤ iO2.toInt ∧ iO2.toInt ≤ 1) ∧ (0 ≤ iD2.toInt ∧ iD2.toInt ≤ 1)) (u.1) (u.2.1) (u.2.2.1) (u.2.2.2.1) (u.2.2.2.2.1) (u.2.2.2.2.2.1) (u.2.2.2.2.2.2.1) (u.2.2.2.2.2.2.2.1) (u.2.2.2.2.2.2.2.2.1) (u.2.2.2.2.2.2.2.2.2.1) (u.2.2.2.2.2.2.2.2.2.2.1) (u.2.2.2.2.2.2.2.2.2.2.2.1) (u.2.2.2.2.2.2.2.2.2.2.2.2)) (fun u : Int32 × Int32 × Int32 × Int32 × Int32 × Int32 × Int32 × Int32 × (Nat → Int32) × (Nat → Int32) × (Nat → Int32) × (Nat → Int32) × Int32 => (fun (th2 : Int32) (ba2 : Int32) (en2 : Int32) (at2 : Int32) (de2 : Int32) (iD2 : Int32) (iO2 : Int32) (tU2 : Int32) (ff2 : Nat → Int32) (fm2 : Nat → Int32) (fb2 : Nat → Int32) (fa2 : Nat → Int32) (q : Int32) => [bMo g o a th2 hi ac tp ba2 en2 at2 fl de2 iD2 iO2 tU2 fm2 fk fa2 fc ft ff2 fb2 fi]) (u.1) (u.2.1) (u.2.2.1) (u.2.2.2.1) (u.2.2.2.2.1) (u.2.2.2.2.2.1) (u.2.2.2.2.2.2.1) (u.2.2.2.2.2.2.2.1) (u.2.2.2.2.2.2.2.2.1) (u.2.2.2.2.2.2.2.2.2.1) (u.2.2.2.2.2.2.2.2.2.2.1) (u.2.2.2.2.2.2.2.2.2.2.2.1) (u.2.2.2.2.2.2.2.2.2.2.2.2)) ({ frames := 34, cells := 0, slots := 0, locals := 761 } : Room) below args s A) (F0 m 35 ls []) := by
      intro kf
      induction kf with
      | zero => intro x_5 x_6 x_7 x_8 x_9 x_10 x_11 x_12 x_13 x_14 fm_15 fa_16 ff_17 fb_18 i19 i20 i21 i22 rfm_15 rfa_16 i23 H locs ls hk; exact absurd hk (Nat.not_lt_zero _)
      | succ kf ih35_25 =>
        intro x_5 x_6 x_7 x_8 x_9 x_10 x_11 x_12 x_13 x_14 fm_15 fa_16 ff_17 fb_18 i19 i20 i21 i22 rfm_15 rfa_16 i23 H locs ls hk35_25 hP hD hS hl
        refine lv_iload hx hb dX12_guru_35 (lv_at hl 4 rfl) ?_
        refine lv_aload_n hx hb dX12_guru_37 rfl (lv_at hl 0 rfl) ?_
        refine va_get (D := g.1) (ci := 10) (v := .ref (a 0)) (C := RX12) (T := TX12) (N := 20) hx hb hts izRX12 hown hK hP 0 rfl rfl 1 (by decide) (hts _ k815) (fun _ h9 => h9) rfl dX12_guru_38 ?_
        refine lv_iconst (v := 3) hx hb dX12_guru_41 (by decide) ?_
        refine va_iald hx hb hK hP 1 0 rfl rfl (zin rfl) dX12_guru_42 ?_
        refine zgq (r := fm_15 3) rfl (rM3 rfm_15) (fun x_26 hx_26 => ?_)
        refine lv_icmp_ge (tgt := 107) hx hb dX12_guru_43 (by decide) (fun cb9 => ?_) (fun cb9 => ?_)
        · skip
          have c27 : x_26.toInt ≤ x_7.toInt := zle cb9 rfl rfl
          refine lv_iload_n hx hb dX12_guru_107 rfl (lv_at hl 2 rfl) ?_
          have hP : va_P g.1 vwCl (List.flatten [bMo g o a 0 hi ac tp x_8 x_9 x_10 fl x_11 x_12 x_13 x_14 fm_15 fk fa_16 fc ft ff_17 fb_18 fi]) H := hP
          have hD : va_D A (List.flatten [bMo g o a 0 hi ac tp x_8 x_9 x_10 fl x_11 x_12 x_13 x_14 fm_15 fk fa_16 fc ft ff_17 fb_18 fi]) := hD
          exact mret_i hx hb hr hlocks hS (Nat.le_of_ble_eq_true rfl) (Nat.le_of_ble_eq_true rfl) dX12_guru_108 ((0 : Int32), x_8, x_9, x_10, x_11, x_12, x_13, x_14, ff_17, fm_15, fb_18, fa_16, x_5) rfl (show ((fm_15 0).toInt = (fm 0).toInt ∧ (fm_15 3).toInt = (fm 3).toInt ∧ (fm_15 4).toInt = (fm 4).toInt) ∧ (rM fa_16) ∧ (rM fm_15) ∧ (0 ≤ x_13.toInt ∧ x_13.toInt ≤ 1) ∧ (0 ≤ x_12.toInt ∧ x_12.toInt ≤ 1) from ⟨i23, rfa_16, rfm_15, i22, i21⟩) hP hD
        · skip
          have c28 : x_7.toInt < x_26.toInt := zlti (Int32.not_le.mp cb9) rfl rfl
          have n29 : x_7.toInt ≤ 7 := zL1 (b := 8) c28 hx_26.2.1 (by decide)
          have n30 : 1 ≤ x_26.toInt := zL2 (a := 0) c28 i20.1 (by decide)
          refine lv_aload_n hx hb dX12_guru_46 rfl (lv_at hl 0 rfl) ?_
          refine lv_iload hx hb dX12_guru_47 (lv_at hl 4 rfl) ?_
          refine mcallV' (g := g) (q0 := 0) (ci := 10) (As := [.int x_7]) (rest := []) St hK hT hA hP hD hS hl.1 [0] [] rfl rfl rfl (m_isHere l g o a 0 hi ac tp x_8 x_9 x_10 fl x_11 x_12 x_13 x_14 fm_15 fk fa_16 fc ft ff_17 fb_18 fi x_7 (⟨i20.1, n29⟩)) (cwV 1 hts (zgL (zl4 k846 k847 k848 k839) k841) rfl rfl rfl (by decide +kernel) ⟨Nat.le_of_ble_eq_true rfl, Nat.le_of_ble_eq_true rfl⟩) rfl rfl rfl rfl (Nat.le_of_ble_eq_true rfl) dX12_guru_49 ⟨(Nat.le_of_ble_eq_true rfl), (Nat.le_of_ble_eq_true rfl)⟩ (fun q_31 H locs hq32 hP hD hS => ?_)
          replace hq32 : (q_31 = 0 ∨ q_31 = 1) := hq32
          have hP : va_P g.1 vwCl (List.flatten [bMo g o a 0 hi ac tp x_8 x_9 x_10 fl x_11 x_12 x_13 x_14 fm_15 fk fa_16 fc ft ff_17 fb_18 fi]) H := hP
          have hD : va_D A (List.flatten [bMo g o a 0 hi ac tp x_8 x_9 x_10 fl x_11 x_12 x_13 x_14 fm_15 fk fa_16 fc ft ff_17 fb_18 fi]) := hD
          refine W.widen (k := 0) (n := 0) (Nat.le_of_ble_eq_true rfl) (Nat.le_of_ble_eq_true rfl) ?_
          refine W.eq (g2 := F0 m 52 ls [.int q_31]) rfl ?_
          rcases hq32 with rfl | rfl
          · skip
            refine lv_if_eq (tgt := 69) hx hb dX12_guru_52 (by decide) (fun _ => ?_) (fun c33 => absurd (by decide) c33)
            refine lv_iconst (v := 0) hx hb dX12_guru_69 (by decide) ?_
            refine lv_istore (lv' := [(5, .int 0), (0, .ref o), (1, .int n), (2, .int x_5), (3, .int x_6), (4, .int x_7)]) hx hb dX12_guru_70 hl (by decide) rfl (fun ls hl => ?_)
            refine lv_aload_n hx hb dX12_guru_72 rfl (lv_at hl 1 rfl) ?_
            refine lv_iload hx hb dX12_guru_73 (lv_at hl 5 rfl) ?_
            refine mcallV' (g := g) (q0 := 0) (ci := 10) (As := [.int x_7]) (rest := []) St hK hT hA hP hD hS hl.1 [0] [] rfl rfl rfl (m_isHere l g o a 0 hi ac tp x_8 x_9 x_10 fl x_11 x_12 x_13 x_14 fm_15 fk fa_16 fc ft ff_17 fb_18 fi x_7 (⟨i20.1, n29⟩)) (cwV 1 hts (zgL (zl4 k846 k847 k848 k839) k841) rfl rfl rfl (by decide +kernel) ⟨Nat.le_of_ble_eq_true rfl, Nat.le_of_ble_eq_true rfl⟩) rfl rfl rfl rfl (Nat.le_of_ble_eq_true rfl) dX12_guru_75 ⟨(Nat.le_of_ble_eq_true rfl), (Nat.le_of_ble_eq_true rfl)⟩ (fun q_34 H locs hq35 hP hD hS => ?_)
            replace hq35 : (q_34 = 0 ∨ q_34 = 1) := hq35
            have hP : va_P g.1 vwCl (List.flatten [bMo g o a 0 hi ac tp x_8 x_9 x_10 fl x_11 x_12 x_13 x_14 fm_15 fk fa_16 fc ft ff_17 fb_18 fi]) H := hP
            have hD : va_D A (List.flatten [bMo g o a 0 hi ac tp x_8 x_9 x_10 fl x_11 x_12 x_13 x_14 fm_15 fk fa_16 fc ft ff_17 fb_18 fi]) := hD
            refine W.widen (k := 0) (n := 0) (Nat.le_of_ble_eq_true rfl) (Nat.le_of_ble_eq_true rfl) ?_
            refine W.eq (g2 := F0 m 78 ls [.int q_34]) rfl ?_
            rcases hq35 with rfl | rfl
            · skip
              refine lv_if_eq (tgt := 101) hx hb dX12_guru_78 (by decide) (fun _ => ?_) (fun c36 => absurd (by decide) c36)
              refine ziinc3 (n' := 1) (a' := 1) (b' := 8) (lv' := fun v9 => [(4, .int v9), (5, .int 0), (0, .ref o), (1, .int n), (2, .int x_5), (3, .int x_6)]) hx hb dX12_guru_101 hl (k := 5) rfl (by decide) (fun _ => rfl) (zaddK (i := x_7.toInt) (j := 1) rfl (by decide) i20.1 n29 (Int.le_refl _) (Int.le_refl _) (by decide)) (fun x_37 ls hx_37 hl => ?_)
              refine lv_goto (tgt := 35) hx hb dX12_guru_104 (by decide) ?_
              have hl := lv_sub (l' := [(0, .ref o), (1, .int n), (2, .int x_5), (3, .int x_6), (4, .int x_37), (5, .int 0)]) hl [2, 3, 4, 5, 0, 1] rfl
              have hP : va_P g.1 vwCl (List.flatten [bMo g o a 0 hi ac tp x_8 x_9 x_10 fl x_11 x_12 x_13 x_14 fm_15 fk fa_16 fc ft ff_17 fb_18 fi]) H := hP
              have hD : va_D A (List.flatten [bMo g o a 0 hi ac tp x_8 x_9 x_10 fl x_11 x_12 x_13 x_14 fm_15 fk fa_16 fc ft ff_17 fb_18 fi]) := hD
              exact ih35_25 x_5 x_6 x_37 x_8 x_9 x_10 x_11 x_12 x_13 x_14 fm_15 fa_16 ff_17 fb_18 ⟨i19.1, i19.2⟩ ⟨(Int.le_trans (by decide) hx_37.2.1), hx_37.2.2⟩ ⟨i21.1, i21.2⟩ ⟨i22.1, i22.2⟩ rfm_15 rfa_16 i23 H _ ls (zmK hx_37.1 (by decide) n29 (by decide) hk35_25)  hP hD hS (lv_sub hl [0, 1, 2, 3, 4] rfl)
            · skip
              refine lv_if_eq (tgt := 101) hx hb dX12_guru_78 (by decide) (fun c38 => absurd c38 (by decide)) (fun _ => ?_)
              refine lv_iload_n hx hb dX12_guru_81 rfl (lv_at hl 3 rfl) ?_
              refine lv_iconst (v := (-1)) hx hb dX12_guru_82 (by decide) ?_
              refine lv_icmp_eq (tgt := 95) hx hb dX12_guru_83 (by decide) (fun cb9 => ?_) (fun cb9 => ?_)
              · skip
                have c39 : x_5.toInt = (-1) := zeq cb9 rfl (by decide)
                have n40 : x_5.toInt ≤ (-1) := Int.le_trans (Int.le_of_eq c39) (Int.le_refl _)
                refine lv_iload hx hb dX12_guru_95 (lv_at hl 0 rfl) ?_
                refine lv_istore_n (lv' := [(3, .int 0), (5, .int 0), (0, .ref o), (1, .int n), (2, .int x_5), (4, .int x_7)]) hx hb dX12_guru_97 rfl hl (by decide) rfl (fun ls hl => ?_)
                refine lv_iload hx hb dX12_guru_98 (lv_at hl 5 rfl) ?_
                refine lv_istore_n (lv' := [(2, .int x_7), (3, .int 0), (5, .int 0), (0, .ref o), (1, .int n), (4, .int x_7)]) hx hb dX12_guru_100 rfl hl (by decide) rfl (fun ls hl => ?_)
                refine ziinc3 (n' := 1) (a' := 1) (b' := 8) (lv' := fun v9 => [(4, .int v9), (2, .int x_7), (3, .int 0), (5, .int 0), (0, .ref o), (1, .int n)]) hx hb dX12_guru_101 hl (k := 5) rfl (by decide) (fun _ => rfl) (zaddK (i := x_7.toInt) (j := 1) rfl (by decide) i20.1 n29 (Int.le_refl _) (Int.le_refl _) (by decide)) (fun x_41 ls hx_41 hl => ?_)
                refine lv_goto (tgt := 35) hx hb dX12_guru_104 (by decide) ?_
                have hl := lv_sub (l' := [(0, .ref o), (1, .int n), (2, .int x_7), (3, .int 0), (4, .int x_41), (5, .int 0)]) hl [4, 5, 1, 2, 0, 3] rfl
                have hP : va_P g.1 vwCl (List.flatten [bMo g o a 0 hi ac tp x_8 x_9 x_10 fl x_11 x_12 x_13 x_14 fm_15 fk fa_16 fc ft ff_17 fb_18 fi]) H := hP
                have hD : va_D A (List.flatten [bMo g o a 0 hi ac tp x_8 x_9 x_10 fl x_11 x_12 x_13 x_14 fm_15 fk fa_16 fc ft ff_17 fb_18 fi]) := hD
                exact ih35_25 x_7 0 x_41 x_8 x_9 x_10 x_11 x_12 x_13 x_14 fm_15 fa_16 ff_17 fb_18 ⟨(Int.le_trans (by decide) i20.1), n29⟩ ⟨(Int.le_trans (by decide) hx_41.2.1), hx_41.2.2⟩ ⟨i21.1, i21.2⟩ ⟨i22.1, i22.2⟩ rfm_15 rfa_16 i23 H _ ls (zmK hx_41.1 (by decide) n29 (by decide) hk35_25)  hP hD hS (lv_sub hl [0, 1, 2, 3, 4] rfl)
              · skip
                have c42 : ¬ x_5.toInt = (-1) := zne cb9 rfl (by decide)
                have n43 : 0 ≤ x_5.toInt := zN1 c42 i19.1 (by decide)
                refine lv_iload hx hb dX12_guru_86 (lv_at hl 0 rfl) ?_
                refine lv_iload_n hx hb dX12_guru_88 rfl (lv_at hl 4 rfl) ?_
                refine lv_icmp_gt (tgt := 95) hx hb dX12_guru_89 (by decide) (fun cb9 => ?_) (fun cb9 => ?_)
                · skip
                  have c44 : x_6.toInt < 0 := zlti cb9 rfl (by decide)
                  have n45 : x_6.toInt ≤ (-1) := zL1 (b := 0) c44 (Int.le_refl _) (by decide)
                  refine lv_iload hx hb dX12_guru_95 (lv_at hl 0 rfl) ?_
                  refine lv_istore_n (lv' := [(3, .int 0), (5, .int 0), (0, .ref o), (1, .int n), (2, .int x_5), (4, .int x_7)]) hx hb dX12_guru_97 rfl hl (by decide) rfl (fun ls hl => ?_)
                  refine lv_iload hx hb dX12_guru_98 (lv_at hl 5 rfl) ?_
                  refine lv_istore_n (lv' := [(2, .int x_7), (3, .int 0), (5, .int 0), (0, .ref o), (1, .int n), (4, .int x_7)]) hx hb dX12_guru_100 rfl hl (by decide) rfl (fun ls hl => ?_)
                  refine ziinc3 (n' := 1) (a' := 1) (b' := 8) (lv' := fun v9 => [(4, .int v9), (2, .int x_7), (3, .int 0), (5, .int 0), (0, .ref o), (1, .int n)]) hx hb dX12_guru_101 hl (k := 5) rfl (by decide) (fun _ => rfl) (zaddK (i := x_7.toInt) (j := 1) rfl (by decide) i20.1 n29 (Int.le_refl _) (Int.le_refl _) (by decide)) (fun x_46 ls hx_46 hl => ?_)
                  refine lv_goto (tgt := 35) hx hb dX12_guru_104 (by decide) ?_
                  have hl := lv_sub (l' := [(0, .ref o), (1, .int n), (2, .int x_7), (3, .int 0), (4, .int x_46), (5, .int 0)]) hl [4, 5, 1, 2, 0, 3] rfl
                  have hP : va_P g.1 vwCl (List.flatten [bMo g o a 0 hi ac tp x_8 x_9 x_10 fl x_11 x_12 x_13 x_14 fm_15 fk fa_16 fc ft ff_17 fb_18 fi]) H := hP
                  have hD : va_D A (List.flatten [bMo g o a 0 hi ac tp x_8 x_9 x_10 fl x_11 x_12 x_13 x_14 fm_15 fk fa_16 fc ft ff_17 fb_18 fi]) := hD
                  exact ih35_25 x_7 0 x_46 x_8 x_9 x_10 x_11 x_12 x_13 x_14 fm_15 fa_16 ff_17 fb_18 ⟨(Int.le_trans (by decide) i20.1), n29⟩ ⟨(Int.le_trans (by decide) hx_46.2.1), hx_46.2.2⟩ ⟨i21.1, i21.2⟩ ⟨i22.1, i22.2⟩ rfm_15 rfa_16 i23 H _ ls (zmK hx_46.1 (by decide) n29 (by decide) hk35_25)  hP hD hS (lv_sub hl [0, 1, 2, 3, 4] rfl)
                · skip
                  have c47 : 0 ≤ x_6.toInt := zle (Int32.not_lt.mp cb9) (by decide) rfl
                  have n48 : 0 ≤ x_6.toInt := Int.le_trans (Int.le_refl _) c47
                  refine lv_goto (tgt := 101) hx hb dX12_guru_92 (by decide) ?_
                  refine ziinc3 (n' := 1) (a' := 1) (b' := 8) (lv' := fun v9 => [(4, .int v9), (5, .int 0), (0, .ref o), (1, .int n), (2, .int x_5), (3, .int x_6)]) hx hb dX12_guru_101 hl (k := 5) rfl (by decide) (fun _ => rfl) (zaddK (i := x_7.toInt) (j := 1) rfl (by decide) i20.1 n29 (Int.le_refl _) (Int.le_refl _) (by decide)) (fun x_49 ls hx_49 hl => ?_)
                  refine lv_goto (tgt := 35) hx hb dX12_guru_104 (by decide) ?_
                  have hl := lv_sub (l' := [(0, .ref o), (1, .int n), (2, .int x_5), (3, .int x_6), (4, .int x_49), (5, .int 0)]) hl [2, 3, 4, 5, 0, 1] rfl
                  have hP : va_P g.1 vwCl (List.flatten [bMo g o a 0 hi ac tp x_8 x_9 x_10 fl x_11 x_12 x_13 x_14 fm_15 fk fa_16 fc ft ff_17 fb_18 fi]) H := hP
                  have hD : va_D A (List.flatten [bMo g o a 0 hi ac tp x_8 x_9 x_10 fl x_11 x_12 x_13 x_14 fm_15 fk fa_16 fc ft ff_17 fb_18 fi]) := hD
                  exact ih35_25 x_5 x_6 x_49 x_8 x_9 x_10 x_11 x_12 x_13 x_14 fm_15 fa_16 ff_17 fb_18 ⟨(Int.le_trans (by decide) n43), i19.2⟩ ⟨(Int.le_trans (by decide) hx_49.2.1), hx_49.2.2⟩ ⟨i21.1, i21.2⟩ ⟨i22.1, i22.2⟩ rfm_15 rfa_16 i23 H _ ls (zmK hx_49.1 (by decide) n29 (by decide) hk35_25)  hP hD hS (lv_sub hl [0, 1, 2, 3, 4] rfl)
          · skip
            refine lv_if_eq (tgt := 69) hx hb dX12_guru_52 (by decide) (fun c50 => absurd c50 (by decide)) (fun _ => ?_)
            refine lv_aload_n hx hb dX12_guru_55 rfl (lv_at hl 0 rfl) ?_
            refine lv_iload_n hx hb dX12_guru_56 rfl (lv_at hl 1 rfl) ?_
            refine lv_iconst (v := 1) hx hb dX12_guru_57 (by decide) ?_
            refine lv_iload hx hb dX12_guru_58 (lv_at hl 4 rfl) ?_
            refine lv_ishl hx hb dX12_guru_60 ?_
            refine zgb (zshl1 (j := x_7.toInt) rfl 7 128 (by decide) (by decide) ⟨i20.1, n29⟩) (fun x_51 hx_51 => ?_)
            refine lv_bipush (v := 10) hx hb dX12_guru_61 (by decide) ?_
            refine mcallV' (g := g) (q0 := 0) (ci := 10) (As := [.int n, .int x_51, .int 10]) (rest := []) St hK hT hA hP hD hS hl.1 [0] [] rfl rfl rfl (m_believedBy l g o a 0 hi ac tp x_8 x_9 x_10 fl x_11 x_12 x_13 x_14 fm_15 fk fa_16 fc ft ff_17 fb_18 fi n x_51 10 rfm_15 rfa_16 i21 i22 (by first | assumption | omega | decide | exact Or.inl (by decide) | exact Or.inr (by decide))) (cwV 3 hts (zgL (zl4 k1066 k1067 k1068 k839) k1064) rfl rfl rfl (by decide +kernel) ⟨Nat.le_of_ble_eq_true rfl, Nat.le_of_ble_eq_true rfl⟩) rfl rfl rfl rfl (Nat.le_of_ble_eq_true rfl) dX12_guru_63 ⟨(Nat.le_of_ble_eq_true rfl), (Nat.le_of_ble_eq_true rfl)⟩ (fun u_ H locs hq64 hP hD hS => ?_)
            obtain ⟨ba2_52, en2_53, at2_54, de2_55, iD2_56, iO2_57, tU2_58, ff2_59, fm2_60, fb2_61, fa2_62, q_63⟩ := u_
            replace hq64 : ((fm2_60 0).toInt = (fm_15 0).toInt ∧ (fm2_60 3).toInt = (fm_15 3).toInt ∧ (fm2_60 4).toInt = (fm_15 4).toInt) ∧ (rM fa2_62) ∧ (rM fm2_60) ∧ (0 ≤ iO2_57.toInt ∧ iO2_57.toInt ≤ 1) ∧ (0 ≤ iD2_56.toInt ∧ iD2_56.toInt ≤ 1) := hq64
            have hP : va_P g.1 vwCl (List.flatten [bMo g o a 0 hi ac tp ba2_52 en2_53 at2_54 fl de2_55 iD2_56 iO2_57 tU2_58 fm2_60 fk fa2_62 fc ft ff2_59 fb2_61 fi]) H := hP
            have hD : va_D A (List.flatten [bMo g o a 0 hi ac tp ba2_52 en2_53 at2_54 fl de2_55 iD2_56 iO2_57 tU2_58 fm2_60 fk fa2_62 fc ft ff2_59 fb2_61 fi]) := hD
            refine W.widen (k := 0) (n := 0) (Nat.le_of_ble_eq_true rfl) (Nat.le_of_ble_eq_true rfl) ?_
            refine W.eq (g2 := F0 m 66 ls [.int q_63]) rfl ?_
            obtain ⟨hq64_0, rfa2_62, rfm2_60, hq64_3, hq64_4⟩ := hq64
            refine lv_goto (tgt := 70) hx hb dX12_guru_66 (by decide) ?_
            refine lv_istore (lv' := [(5, .int q_63), (0, .ref o), (1, .int n), (2, .int x_5), (3, .int x_6), (4, .int x_7)]) hx hb dX12_guru_70 hl (by decide) rfl (fun ls hl => ?_)
            refine lv_aload_n hx hb dX12_guru_72 rfl (lv_at hl 1 rfl) ?_
            refine lv_iload hx hb dX12_guru_73 (lv_at hl 5 rfl) ?_
            refine mcallV' (g := g) (q0 := 0) (ci := 10) (As := [.int x_7]) (rest := []) St hK hT hA hP hD hS hl.1 [0] [] rfl rfl rfl (m_isHere l g o a 0 hi ac tp ba2_52 en2_53 at2_54 fl de2_55 iD2_56 iO2_57 tU2_58 fm2_60 fk fa2_62 fc ft ff2_59 fb2_61 fi x_7 (⟨i20.1, n29⟩)) (cwV 1 hts (zgL (zl4 k846 k847 k848 k839) k841) rfl rfl rfl (by decide +kernel) ⟨Nat.le_of_ble_eq_true rfl, Nat.le_of_ble_eq_true rfl⟩) rfl rfl rfl rfl (Nat.le_of_ble_eq_true rfl) dX12_guru_75 ⟨(Nat.le_of_ble_eq_true rfl), (Nat.le_of_ble_eq_true rfl)⟩ (fun q_65 H locs hq66 hP hD hS => ?_)
            replace hq66 : (q_65 = 0 ∨ q_65 = 1) := hq66
            have hP : va_P g.1 vwCl (List.flatten [bMo g o a 0 hi ac tp ba2_52 en2_53 at2_54 fl de2_55 iD2_56 iO2_57 tU2_58 fm2_60 fk fa2_62 fc ft ff2_59 fb2_61 fi]) H := hP
            have hD : va_D A (List.flatten [bMo g o a 0 hi ac tp ba2_52 en2_53 at2_54 fl de2_55 iD2_56 iO2_57 tU2_58 fm2_60 fk fa2_62 fc ft ff2_59 fb2_61 fi]) := hD
            refine W.widen (k := 0) (n := 0) (Nat.le_of_ble_eq_true rfl) (Nat.le_of_ble_eq_true rfl) ?_
            refine W.eq (g2 := F0 m 78 ls [.int q_65]) rfl ?_
            rcases hq66 with rfl | rfl
            · skip
              refine lv_if_eq (tgt := 101) hx hb dX12_guru_78 (by decide) (fun _ => ?_) (fun c67 => absurd (by decide) c67)
              refine ziinc3 (n' := 1) (a' := 1) (b' := 8) (lv' := fun v9 => [(4, .int v9), (5, .int q_63), (0, .ref o), (1, .int n), (2, .int x_5), (3, .int x_6)]) hx hb dX12_guru_101 hl (k := 5) rfl (by decide) (fun _ => rfl) (zaddK (i := x_7.toInt) (j := 1) rfl (by decide) i20.1 n29 (Int.le_refl _) (Int.le_refl _) (by decide)) (fun x_68 ls hx_68 hl => ?_)
              refine lv_goto (tgt := 35) hx hb dX12_guru_104 (by decide) ?_
              have hl := lv_sub (l' := [(0, .ref o), (1, .int n), (2, .int x_5), (3, .int x_6), (4, .int x_68), (5, .int q_63)]) hl [2, 3, 4, 5, 0, 1] rfl
              have hP : va_P g.1 vwCl (List.flatten [bMo g o a 0 hi ac tp ba2_52 en2_53 at2_54 fl de2_55 iD2_56 iO2_57 tU2_58 fm2_60 fk fa2_62 fc ft ff2_59 fb2_61 fi]) H := hP
              have hD : va_D A (List.flatten [bMo g o a 0 hi ac tp ba2_52 en2_53 at2_54 fl de2_55 iD2_56 iO2_57 tU2_58 fm2_60 fk fa2_62 fc ft ff2_59 fb2_61 fi]) := hD
              exact ih35_25 x_5 x_6 x_68 ba2_52 en2_53 at2_54 de2_55 iD2_56 iO2_57 tU2_58 fm2_60 fa2_62 ff2_59 fb2_61 ⟨i19.1, i19.2⟩ ⟨(Int.le_trans (by decide) hx_68.2.1), hx_68.2.2⟩ ⟨hq64_4.1, hq64_4.2⟩ ⟨hq64_3.1, hq64_3.2⟩ rfm2_60 rfa2_62 (by first | omega | assumption | decide) H _ ls (zmK hx_68.1 (by decide) n29 (by decide) hk35_25)  hP hD hS (lv_sub hl [0, 1, 2, 3, 4] rfl)
            · skip
              refine lv_if_eq (tgt := 101) hx hb dX12_guru_78 (by decide) (fun c69 => absurd c69 (by decide)) (fun _ => ?_)
              refine lv_iload_n hx hb dX12_guru_81 rfl (lv_at hl 3 rfl) ?_
              refine lv_iconst (v := (-1)) hx hb dX12_guru_82 (by decide) ?_
              refine lv_icmp_eq (tgt := 95) hx hb dX12_guru_83 (by decide) (fun cb9 => ?_) (fun cb9 => ?_)
              · skip
                have c70 : x_5.toInt = (-1) := zeq cb9 rfl (by decide)
                have n71 : x_5.toInt ≤ (-1) := Int.le_trans (Int.le_of_eq c70) (Int.le_refl _)
                refine lv_iload hx hb dX12_guru_95 (lv_at hl 0 rfl) ?_
                refine lv_istore_n (lv' := [(3, .int q_63), (5, .int q_63), (0, .ref o), (1, .int n), (2, .int x_5), (4, .int x_7)]) hx hb dX12_guru_97 rfl hl (by decide) rfl (fun ls hl => ?_)
                refine lv_iload hx hb dX12_guru_98 (lv_at hl 5 rfl) ?_
                refine lv_istore_n (lv' := [(2, .int x_7), (3, .int q_63), (5, .int q_63), (0, .ref o), (1, .int n), (4, .int x_7)]) hx hb dX12_guru_100 rfl hl (by decide) rfl (fun ls hl => ?_)
                refine ziinc3 (n' := 1) (a' := 1) (b' := 8) (lv' := fun v9 => [(4, .int v9), (2, .int x_7), (3, .int q_63), (5, .int q_63), (0, .ref o), (1, .int n)]) hx hb dX12_guru_101 hl (k := 5) rfl (by decide) (fun _ => rfl) (zaddK (i := x_7.toInt) (j := 1) rfl (by decide) i20.1 n29 (Int.le_refl _) (Int.le_refl _) (by decide)) (fun x_72 ls hx_72 hl => ?_)
                refine lv_goto (tgt := 35) hx hb dX12_guru_104 (by decide) ?_
                have hl := lv_sub (l' := [(0, .ref o), (1, .int n), (2, .int x_7), (3, .int q_63), (4, .int x_72), (5, .int q_63)]) hl [4, 5, 1, 2, 0, 3] rfl
                have hP : va_P g.1 vwCl (List.flatten [bMo g o a 0 hi ac tp ba2_52 en2_53 at2_54 fl de2_55 iD2_56 iO2_57 tU2_58 fm2_60 fk fa2_62 fc ft ff2_59 fb2_61 fi]) H := hP
                have hD : va_D A (List.flatten [bMo g o a 0 hi ac tp ba2_52 en2_53 at2_54 fl de2_55 iD2_56 iO2_57 tU2_58 fm2_60 fk fa2_62 fc ft ff2_59 fb2_61 fi]) := hD
                exact ih35_25 x_7 q_63 x_72 ba2_52 en2_53 at2_54 de2_55 iD2_56 iO2_57 tU2_58 fm2_60 fa2_62 ff2_59 fb2_61 ⟨(Int.le_trans (by decide) i20.1), n29⟩ ⟨(Int.le_trans (by decide) hx_72.2.1), hx_72.2.2⟩ ⟨hq64_4.1, hq64_4.2⟩ ⟨hq64_3.1, hq64_3.2⟩ rfm2_60 rfa2_62 (by first | omega | assumption | decide) H _ ls (zmK hx_72.1 (by decide) n29 (by decide) hk35_25)  hP hD hS (lv_sub hl [0, 1, 2, 3, 4] rfl)
              · skip
                have c73 : ¬ x_5.toInt = (-1) := zne cb9 rfl (by decide)
                have n74 : 0 ≤ x_5.toInt := zN1 c73 i19.1 (by decide)
                refine lv_iload hx hb dX12_guru_86 (lv_at hl 0 rfl) ?_
                refine lv_iload_n hx hb dX12_guru_88 rfl (lv_at hl 4 rfl) ?_
                refine lv_icmp_gt (tgt := 95) hx hb dX12_guru_89 (by decide) (fun cb9 => ?_) (fun cb9 => ?_)
                · skip
                  have c75 : x_6.toInt < q_63.toInt := zlti cb9 rfl rfl
                  refine lv_iload hx hb dX12_guru_95 (lv_at hl 0 rfl) ?_
                  refine lv_istore_n (lv' := [(3, .int q_63), (5, .int q_63), (0, .ref o), (1, .int n), (2, .int x_5), (4, .int x_7)]) hx hb dX12_guru_97 rfl hl (by decide) rfl (fun ls hl => ?_)
                  refine lv_iload hx hb dX12_guru_98 (lv_at hl 5 rfl) ?_
                  refine lv_istore_n (lv' := [(2, .int x_7), (3, .int q_63), (5, .int q_63), (0, .ref o), (1, .int n), (4, .int x_7)]) hx hb dX12_guru_100 rfl hl (by decide) rfl (fun ls hl => ?_)
                  refine ziinc3 (n' := 1) (a' := 1) (b' := 8) (lv' := fun v9 => [(4, .int v9), (2, .int x_7), (3, .int q_63), (5, .int q_63), (0, .ref o), (1, .int n)]) hx hb dX12_guru_101 hl (k := 5) rfl (by decide) (fun _ => rfl) (zaddK (i := x_7.toInt) (j := 1) rfl (by decide) i20.1 n29 (Int.le_refl _) (Int.le_refl _) (by decide)) (fun x_76 ls hx_76 hl => ?_)
                  refine lv_goto (tgt := 35) hx hb dX12_guru_104 (by decide) ?_
                  have hl := lv_sub (l' := [(0, .ref o), (1, .int n), (2, .int x_7), (3, .int q_63), (4, .int x_76), (5, .int q_63)]) hl [4, 5, 1, 2, 0, 3] rfl
                  have hP : va_P g.1 vwCl (List.flatten [bMo g o a 0 hi ac tp ba2_52 en2_53 at2_54 fl de2_55 iD2_56 iO2_57 tU2_58 fm2_60 fk fa2_62 fc ft ff2_59 fb2_61 fi]) H := hP
                  have hD : va_D A (List.flatten [bMo g o a 0 hi ac tp ba2_52 en2_53 at2_54 fl de2_55 iD2_56 iO2_57 tU2_58 fm2_60 fk fa2_62 fc ft ff2_59 fb2_61 fi]) := hD
                  exact ih35_25 x_7 q_63 x_76 ba2_52 en2_53 at2_54 de2_55 iD2_56 iO2_57 tU2_58 fm2_60 fa2_62 ff2_59 fb2_61 ⟨(Int.le_trans (by decide) i20.1), n29⟩ ⟨(Int.le_trans (by decide) hx_76.2.1), hx_76.2.2⟩ ⟨hq64_4.1, hq64_4.2⟩ ⟨hq64_3.1, hq64_3.2⟩ rfm2_60 rfa2_62 (by first | omega | assumption | decide) H _ ls (zmK hx_76.1 (by decide) n29 (by decide) hk35_25)  hP hD hS (lv_sub hl [0, 1, 2, 3, 4] rfl)
                · skip
                  have c77 : q_63.toInt ≤ x_6.toInt := zle (Int32.not_lt.mp cb9) rfl rfl
                  refine lv_goto (tgt := 101) hx hb dX12_guru_92 (by decide) ?_
                  refine ziinc3 (n' := 1) (a' := 1) (b' := 8) (lv' := fun v9 => [(4, .int v9), (5, .int q_63), (0, .ref o), (1, .int n), (2, .int x_5), (3, .int x_6)]) hx hb dX12_guru_101 hl (k := 5) rfl (by decide) (fun _ => rfl) (zaddK (i := x_7.toInt) (j := 1) rfl (by decide) i20.1 n29 (Int.le_refl _) (Int.le_refl _) (by decide)) (fun x_78 ls hx_78 hl => ?_)
                  refine lv_goto (tgt := 35) hx hb dX12_guru_104 (by decide) ?_
                  have hl := lv_sub (l' := [(0, .ref o), (1, .int n), (2, .int x_5), (3, .int x_6), (4, .int x_78), (5, .int q_63)]) hl [2, 3, 4, 5, 0, 1] rfl
                  have hP : va_P g.1 vwCl (List.flatten [bMo g o a 0 hi ac tp ba2_52 en2_53 at2_54 fl de2_55 iD2_56 iO2_57 tU2_58 fm2_60 fk fa2_62 fc ft ff2_59 fb2_61 fi]) H := hP
                  have hD : va_D A (List.flatten [bMo g o a 0 hi ac tp ba2_52 en2_53 at2_54 fl de2_55 iD2_56 iO2_57 tU2_58 fm2_60 fk fa2_62 fc ft ff2_59 fb2_61 fi]) := hD
                  exact ih35_25 x_5 x_6 x_78 ba2_52 en2_53 at2_54 de2_55 iD2_56 iO2_57 tU2_58 fm2_60 fa2_62 ff2_59 fb2_61 ⟨(Int.le_trans (by decide) n74), i19.2⟩ ⟨(Int.le_trans (by decide) hx_78.2.1), hx_78.2.2⟩ ⟨hq64_4.1, hq64_4.2⟩ ⟨hq64_3.1, hq64_3.2⟩ rfm2_60 rfa2_62 (by first | omega | assumption | decide) H _ ls (zmK hx_78.1 (by decide) n29 (by decide) hk35_25)  hP hD hS (lv_sub hl [0, 1, 2, 3, 4] rfl)
    have hLn1 : ((-1) : Int32).toInt = (-1) := by decide
    have hP : va_P g.1 vwCl (List.flatten [bMo g o a 0 hi ac tp ba en tA fl de iD iO tU fm fk fa fc ft ff fb fi]) H := hP
    have hD : va_D A (List.flatten [bMo g o a 0 hi ac tp ba en tA fl de iD iO tU fm fk fa fc ft ff fb fi]) := hD
    exact LP35_24 _ (-1) 0 0 ba en tA de iD iO tU fm fa ff fb (by decide) (by decide) ⟨hiD.1, hiD.2⟩ ⟨hiO.1, hiO.2⟩ rfm rfa (by first | omega | assumption | decide) H _ ls (Nat.lt_succ_self _)  hP hD hS (lv_sub hl [0, 1, 2, 3, 4] rfl)
  · skip
    refine lv_if_ne (tgt := 15) hx hb dX12_guru_8 (by decide) (fun c79 => absurd (by decide) c79) (fun _ => ?_)
    refine lv_iconst (v := 1) hx hb dX12_guru_11 (by decide) ?_
    refine lv_goto (tgt := 16) hx hb dX12_guru_12 (by decide) ?_
    refine va_put (D := g.1) (ci := 10) (v := .int 1) (ty := .int) (C := RX12) (T := TX12) (N := 20) hx hb hts izRX12 tyX12 tyX12_ok nmX12 hown hK hP hD hS 0 rfl rfl 0 (by decide) (hts _ k825) (fun _ h9 => h9) rfl (by decide +kernel) rfl rfl (Nat.le_of_ble_eq_true rfl) dX12_guru_16 (fun H locs hP hD hS => ?_)
    have hP : va_P g.1 vwCl (List.flatten [bMo g o a 1 hi ac tp ba en tA fl de iD iO tU fm fk fa fc ft ff fb fi]) H := hP
    have hD : va_D A (List.flatten [bMo g o a 1 hi ac tp ba en tA fl de iD iO tU fm fk fa fc ft ff fb fi]) := hD
    refine lv_aload_n hx hb dX12_guru_19 rfl (lv_at hl 0 rfl) ?_
    refine va_get (D := g.1) (ci := 10) (v := .int 1) (C := RX12) (T := TX12) (N := 20) hx hb hts izRX12 hown hK hP 0 rfl rfl 0 (by decide) (hts _ k825) (fun _ h9 => h9) rfl dX12_guru_20 ?_
    refine lv_if_le (tgt := 28) hx hb dX12_guru_23 (by decide) (fun c80 => absurd c80 (by decide)) (fun _ => ?_)
    refine lv_iconst (v := 0) hx hb dX12_guru_26 (by decide) ?_
    have hP : va_P g.1 vwCl (List.flatten [bMo g o a 1 hi ac tp ba en tA fl de iD iO tU fm fk fa fc ft ff fb fi]) H := hP
    have hD : va_D A (List.flatten [bMo g o a 1 hi ac tp ba en tA fl de iD iO tU fm fk fa fc ft ff fb fi]) := hD
    exact mret_i hx hb hr hlocks hS (Nat.le_of_ble_eq_true rfl) (Nat.le_of_ble_eq_true rfl) dX12_guru_27 ((1 : Int32), ba, en, tA, de, iD, iO, tU, ff, fm, fb, fa, (0 : Int32)) rfl (show ((fm 0).toInt = (fm 0).toInt ∧ (fm 3).toInt = (fm 3).toInt ∧ (fm 4).toInt = (fm 4).toInt) ∧ (rM fa) ∧ (rM fm) ∧ (0 ≤ iO.toInt ∧ iO.toInt ≤ 1) ∧ (0 ≤ iD.toInt ∧ iD.toInt ≤ 1) from ⟨(by first | assumption | omega | decide | exact rfl | exact zb01 (by omega) | exact Or.inl (by decide) | exact Or.inr (by first | omega | decide)), rfa, rfm, hiO, hiD⟩) hP hD
set_option maxRecDepth 100000 in
set_option maxHeartbeats 4000000 in
theorem m_must (l : Launch) (g : zG) (o : Nat) (a : Nat → Nat) (th : Int32) (hi : Int32) (ac : Int32) (tp : Int32) (ba : Int32) (en : Int32) (tA : Int32) (fl : Int32) (de : Int32) (iD : Int32) (iO : Int32) (tU : Int32) (fm : Nat → Int32) (fk : Nat → Int32) (fa : Nat → Int32) (fc : Nat → Int32) (ft : Nat → Int32) (ff : Nat → Int32) (fb : Nat → Int32) (fi : Nat → Int32) (x : Int32) (n : Int32) (rfm : rM fm) (rfa : rM fa) (hiD : 0 ≤ iD.toInt ∧ iD.toInt ≤ 1) (hiO : 0 ≤ iO.toInt ∧ iO.toInt ≤ 1) : zM' g l yX12_must (Cond.code yX12_must cX12_must 6 (some .int) :: zB) ({ frames := 34, cells := 0, slots := 0, locals := 761 } : Room) [.ref o, .int x, .int n] [bMo g o a th hi ac tp ba en tA fl de iD iO tU fm fk fa fc ft ff fb fi] (fun u : Int32 × Int32 × Int32 × Int32 × Int32 × Int32 × Int32 × Int32 × (Nat → Int32) × (Nat → Int32) × (Nat → Int32) × (Nat → Int32) × Int32 => (fun (th2 : Int32) (ba2 : Int32) (en2 : Int32) (at2 : Int32) (de2 : Int32) (iD2 : Int32) (iO2 : Int32) (tU2 : Int32) (ff2 : Nat → Int32) (fm2 : Nat → Int32) (fb2 : Nat → Int32) (fa2 : Nat → Int32) (q : Int32) => some (.int q)) (u.1) (u.2.1) (u.2.2.1) (u.2.2.2.1) (u.2.2.2.2.1) (u.2.2.2.2.2.1) (u.2.2.2.2.2.2.1) (u.2.2.2.2.2.2.2.1) (u.2.2.2.2.2.2.2.2.1) (u.2.2.2.2.2.2.2.2.2.1) (u.2.2.2.2.2.2.2.2.2.2.1) (u.2.2.2.2.2.2.2.2.2.2.2.1) (u.2.2.2.2.2.2.2.2.2.2.2.2)) (fun u : Int32 × Int32 × Int32 × Int32 × Int32 × Int32 × Int32 × Int32 × (Nat → Int32) × (Nat → Int32) × (Nat → Int32) × (Nat → Int32) × Int32 => (fun (th2 : Int32) (ba2 : Int32) (en2 : Int32) (at2 : Int32) (de2 : Int32) (iD2 : Int32) (iO2 : Int32) (tU2 : Int32) (ff2 : Nat → Int32) (fm2 : Nat → Int32) (fb2 : Nat → Int32) (fa2 : Nat → Int32) (q : Int32) => ((fm2 0).toInt = (fm 0).toInt ∧ (fm2 3).toInt = (fm 3).toInt ∧ (fm2 4).toInt = (fm 4).toInt) ∧ (rM fa2) ∧ (rM fm2) ∧ (0 ≤ iO2.toInt ∧ iO2.toInt ≤ 1) ∧ (0 ≤ iD2.toInt ∧ iD2.toInt ≤ 1)) (u.1) (u.2.1) (u.2.2.1) (u.2.2.2.1) (u.2.2.2.2.1) (u.2.2.2.2.2.1) (u.2.2.2.2.2.2.1) (u.2.2.2.2.2.2.2.1) (u.2.2.2.2.2.2.2.2.1) (u.2.2.2.2.2.2.2.2.2.1) (u.2.2.2.2.2.2.2.2.2.2.1) (u.2.2.2.2.2.2.2.2.2.2.2.1) (u.2.2.2.2.2.2.2.2.2.2.2.2)) (fun u : Int32 × Int32 × Int32 × Int32 × Int32 × Int32 × Int32 × Int32 × (Nat → Int32) × (Nat → Int32) × (Nat → Int32) × (Nat → Int32) × Int32 => (fun (th2 : Int32) (ba2 : Int32) (en2 : Int32) (at2 : Int32) (de2 : Int32) (iD2 : Int32) (iO2 : Int32) (tU2 : Int32) (ff2 : Nat → Int32) (fm2 : Nat → Int32) (fb2 : Nat → Int32) (fa2 : Nat → Int32) (q : Int32) => [bMo g o a th2 hi ac tp ba2 en2 at2 fl de2 iD2 iO2 tU2 fm2 fk fa2 fc ft ff2 fb2 fi]) (u.1) (u.2.1) (u.2.2.1) (u.2.2.2.1) (u.2.2.2.2.1) (u.2.2.2.2.2.1) (u.2.2.2.2.2.2.1) (u.2.2.2.2.2.2.2.1) (u.2.2.2.2.2.2.2.2.1) (u.2.2.2.2.2.2.2.2.2.1) (u.2.2.2.2.2.2.2.2.2.2.1) (u.2.2.2.2.2.2.2.2.2.2.2.1) (u.2.2.2.2.2.2.2.2.2.2.2.2)) := by
  refine zM'.of (cc := cX12_must) (maxL := 6) (rt := (some .int)) (by decide) rfl (Nat.le_of_ble_eq_true rfl) ?_
  intro p e s m args below meth c A ls St hr hlocks hin hK hT hA hP hD hS hl
  obtain ⟨hx, hb, hml, hown, hts⟩ := id St
  have hl : lv_has ls 6 [(0, .ref o), (1, .int x), (2, .int n)] := hl
  refine lv_aload_n hx hb dX12_must_0 rfl (lv_at hl 0 rfl) ?_
  refine lv_iload_n hx hb dX12_must_1 rfl (lv_at hl 1 rfl) ?_
  refine lv_iconst (v := 1) hx hb dX12_must_2 (by decide) ?_
  refine lv_sipush (v := 792) hx hb dX12_must_3 (by decide) ?_
  have hL1 : (1 : Int32).toInt = 1 := by decide
  have hL792 : (792 : Int32).toInt = 792 := by decide
  refine mcallS' (g := g) (As := [.int x, .int 1, .int 792]) (rest := [.ref o]) St hK hT hA hP hD hS hl.1 [] [0] rfl rfl rfl (m_isIn l g x 1 792 ) (va_cwS 3 hts (zgL (zl3 k837 k838 k839) k826) rfl rfl rfl (by decide +kernel) ⟨Nat.le_of_ble_eq_true rfl, Nat.le_of_ble_eq_true rfl⟩) rfl rfl (Nat.le_of_ble_eq_true rfl) dX12_must_6 ⟨(Nat.le_of_ble_eq_true rfl), (Nat.le_of_ble_eq_true rfl)⟩ (fun q_1 H locs hq2 hP hD hS => ?_)
  replace hq2 : (q_1 = 1 ∧ (1 : Int32).toInt ≤ x.toInt ∧ x.toInt ≤ (792 : Int32).toInt ∨ q_1 = 0 ∧ (x.toInt < (1 : Int32).toInt ∨ (792 : Int32).toInt < x.toInt)) := hq2
  have hP : va_P g.1 vwCl (List.flatten [bMo g o a th hi ac tp ba en tA fl de iD iO tU fm fk fa fc ft ff fb fi]) H := hP
  have hD : va_D A (List.flatten [bMo g o a th hi ac tp ba en tA fl de iD iO tU fm fk fa fc ft ff fb fi]) := hD
  refine W.widen (k := 0) (n := 0) (Nat.le_of_ble_eq_true rfl) (Nat.le_of_ble_eq_true rfl) ?_
  refine W.eq (g2 := F0 m 9 ls [.int q_1, .ref o]) rfl ?_
  rcases hq2 with ⟨rfl, hq2_k⟩ | ⟨rfl, hq2_k⟩
  · skip
    refine lv_if_eq (tgt := 22) hx hb dX12_must_9 (by decide) (fun c3 => absurd c3 (by decide)) (fun _ => ?_)
    refine lv_iload_n hx hb dX12_must_12 rfl (lv_at hl 2 rfl) ?_
    refine lv_iconst (v := 0) hx hb dX12_must_13 (by decide) ?_
    refine lv_bipush (v := 30) hx hb dX12_must_14 (by decide) ?_
    have hL0 : (0 : Int32).toInt = 0 := by decide
    have hL30 : (30 : Int32).toInt = 30 := by decide
    refine mcallS' (g := g) (As := [.int n, .int 0, .int 30]) (rest := [.ref o]) St hK hT hA hP hD hS hl.1 [] [0] rfl rfl rfl (m_isIn l g n 0 30 ) (va_cwS 3 hts (zgL (zl3 k837 k838 k839) k826) rfl rfl rfl (by decide +kernel) ⟨Nat.le_of_ble_eq_true rfl, Nat.le_of_ble_eq_true rfl⟩) rfl rfl (Nat.le_of_ble_eq_true rfl) dX12_must_16 ⟨(Nat.le_of_ble_eq_true rfl), (Nat.le_of_ble_eq_true rfl)⟩ (fun q_4 H locs hq5 hP hD hS => ?_)
    replace hq5 : (q_4 = 1 ∧ (0 : Int32).toInt ≤ n.toInt ∧ n.toInt ≤ (30 : Int32).toInt ∨ q_4 = 0 ∧ (n.toInt < (0 : Int32).toInt ∨ (30 : Int32).toInt < n.toInt)) := hq5
    have hP : va_P g.1 vwCl (List.flatten [bMo g o a th hi ac tp ba en tA fl de iD iO tU fm fk fa fc ft ff fb fi]) H := hP
    have hD : va_D A (List.flatten [bMo g o a th hi ac tp ba en tA fl de iD iO tU fm fk fa fc ft ff fb fi]) := hD
    refine W.widen (k := 0) (n := 0) (Nat.le_of_ble_eq_true rfl) (Nat.le_of_ble_eq_true rfl) ?_
    refine W.eq (g2 := F0 m 19 ls [.int q_4, .ref o]) rfl ?_
    rcases hq5 with ⟨rfl, hq5_k⟩ | ⟨rfl, hq5_k⟩
    · skip
      refine lv_if_ne (tgt := 26) hx hb dX12_must_19 (by decide) (fun _ => ?_) (fun c6 => absurd c6 (by decide))
      refine lv_iconst (v := 0) hx hb dX12_must_26 (by decide) ?_
      refine va_put (D := g.1) (ci := 10) (v := .int 0) (ty := .int) (C := RX12) (T := TX12) (N := 20) hx hb hts izRX12 tyX12 tyX12_ok nmX12 hown hK hP hD hS 0 rfl rfl 0 (by decide) (hts _ k825) (fun _ h9 => h9) rfl (by decide +kernel) rfl rfl (Nat.le_of_ble_eq_true rfl) dX12_must_27 (fun H locs hP hD hS => ?_)
      have hP : va_P g.1 vwCl (List.flatten [bMo g o a 0 hi ac tp ba en tA fl de iD iO tU fm fk fa fc ft ff fb fi]) H := hP
      have hD : va_D A (List.flatten [bMo g o a 0 hi ac tp ba en tA fl de iD iO tU fm fk fa fc ft ff fb fi]) := hD
      refine lv_aload_n hx hb dX12_must_30 rfl (lv_at hl 0 rfl) ?_
      refine va_get (D := g.1) (ci := 10) (v := .int 0) (C := RX12) (T := TX12) (N := 20) hx hb hts izRX12 hown hK hP 0 rfl rfl 0 (by decide) (hts _ k825) (fun _ h9 => h9) rfl dX12_must_31 ?_
      refine lv_if_le (tgt := 39) hx hb dX12_must_34 (by decide) (fun _ => ?_) (fun c7 => absurd (by decide) c7)
      refine lv_aload_n hx hb dX12_must_39 rfl (lv_at hl 0 rfl) ?_
      refine mcallV' (g := g) (q0 := 0) (ci := 10) (As := []) (rest := []) St hK hT hA hP hD hS hl.1 [0] [] rfl rfl rfl (m_hereOnes l g o a 0 hi ac tp ba en tA fl de iD iO tU fm fk fa fc ft ff fb fi rfm) (cwV 0 hts (zgL (zl4 k851 k852 k853 k839) k845) rfl rfl rfl (by decide +kernel) ⟨Nat.le_of_ble_eq_true rfl, Nat.le_of_ble_eq_true rfl⟩) rfl rfl rfl rfl (Nat.le_of_ble_eq_true rfl) dX12_must_40 ⟨(Nat.le_of_ble_eq_true rfl), (Nat.le_of_ble_eq_true rfl)⟩ (fun q_8 H locs hq9 hP hD hS => ?_)
      have hP : va_P g.1 vwCl (List.flatten [bMo g o a 0 hi ac tp ba en tA fl de iD iO tU fm fk fa fc ft ff fb fi]) H := hP
      have hD : va_D A (List.flatten [bMo g o a 0 hi ac tp ba en tA fl de iD iO tU fm fk fa fc ft ff fb fi]) := hD
      refine W.widen (k := 0) (n := 0) (Nat.le_of_ble_eq_true rfl) (Nat.le_of_ble_eq_true rfl) ?_
      refine W.eq (g2 := F0 m 43 ls [.int q_8]) rfl ?_
      refine lv_istore_n (lv' := [(3, .int q_8), (0, .ref o), (1, .int x), (2, .int n)]) hx hb dX12_must_43 rfl hl (by decide) rfl (fun ls hl => ?_)
      refine lv_iconst (v := (-1)) hx hb dX12_must_44 (by decide) ?_
      refine lv_istore (lv' := [(4, .int (-1)), (3, .int q_8), (0, .ref o), (1, .int x), (2, .int n)]) hx hb dX12_must_45 hl (by decide) rfl (fun ls hl => ?_)
      refine lv_iconst (v := 0) hx hb dX12_must_47 (by decide) ?_
      refine lv_istore (lv' := [(5, .int 0), (4, .int (-1)), (3, .int q_8), (0, .ref o), (1, .int x), (2, .int n)]) hx hb dX12_must_48 hl (by decide) rfl (fun ls hl => ?_)
      have hl := lv_sub (l' := [(0, .ref o), (1, .int x), (2, .int n), (3, .int q_8), (4, .int (-1)), (5, .int 0)]) hl [3, 4, 5, 2, 1, 0] rfl
      have LP50_28 : ∀ (kf : Nat) (x_10 : Int32) (x_11 : Int32) (x_12 : Int32) (x_13 : Int32) (x_14 : Int32) (x_15 : Int32) (x_16 : Int32) (x_17 : Int32) (x_18 : Int32) (fm_19 : Nat → Int32) (fa_20 : Nat → Int32) (ff_21 : Nat → Int32) (fb_22 : Nat → Int32), ((-1) ≤ x_10.toInt ∧ x_10.toInt ≤ 255) → (0 ≤ x_11.toInt ∧ x_11.toInt ≤ 256) → (0 ≤ x_16.toInt ∧ x_16.toInt ≤ 1) → (0 ≤ x_17.toInt ∧ x_17.toInt ≤ 1) → (rM fm_19) → (rM fa_20) → ((fm_19 0).toInt = (fm 0).toInt ∧ (fm_19 3).toInt = (fm 3).toInt ∧ (fm_19 4).toInt = (fm 4).toInt) → ∀ (H : Heap) (locs : List Loc) (ls : Array Slot), ((257 - x_11.toInt).toNat) < kf → va_P g.1 vwCl (List.flatten [bMo g o a 0 hi ac tp x_12 x_13 x_14 fl x_15 x_16 x_17 x_18 fm_19 fk fa_20 fc ft ff_21 fb_22 fi]) H → va_D A (List.flatten [bMo g o a 0 hi ac tp x_12 x_13 x_14 fl x_15 x_16 x_17 x_18 fm_19 fk fa_20 fc ft ff_21 fb_22 fi]) → va_S A s.heap H locs → lv_has ls 6 [(0, .ref o), (1, .int x), (2, .int n), (3, .int q_8), (4, .int x_10), (5, .int x_11)] → W p l e ({ frames := 34, cells := 0, slots := 0, locals := 761 } : Room) s m args below meth c H locs (0) (0) (zF g (fun u : Int32 × Int32 × Int32 × Int32 × Int32 × Int32 × Int32 × Int32 × (Nat → Int32) × (Nat → Int32) × (Nat → Int32) × (Nat → Int32) × Int32 => (fun (th2 : Int32) (ba2 : Int32) (en2 : Int32) (at2 : Int32) (de2 : Int32) (iD2 : Int32) (iO2 : Int32) (tU2 : Int32) (ff2 : Nat → Int32) (fm2 : Nat → Int32) (fb2 : Nat → Int32) (fa2 : Nat → Int32) (q : Int32) => some (.int q)) (u.1) (u.2.1) (u.2.2.1) (u.2.2.2.1) (u.2.2.2.2.1) (u.2.2.2.2.2.1) (u.2.2.2.2.2.2.1) (u.2.2.2.2.2.2.2.1) (u.2.2.2.2.2.2.2.2.1) (u.2.2.2.2.2.2.2.2.2.1) (u.2.2.2.2.2.2.2.2.2.2.1) (u.2.2.2.2.2.2.2.2.2.2.2.1) (u.2.2.2.2.2.2.2.2.2.2.2.2)) (fun u : Int32 × Int32 × Int32 × Int32 × Int32 × Int32 × Int32 × Int32 × (Nat → Int32) × (Nat → Int32) × (Nat → Int32) × (Nat → Int32) × Int32 => (fun (th2 : Int32) (ba2 : Int32) (en2 : Int32) (at2 : Int32) (de2 : Int32) (iD2 : Int32) (iO2 : Int32) (tU2 : Int32) (ff2 : Nat → Int32) (fm2 : Nat → Int32) (fb2 : Nat → Int32) (fa2 : Nat → Int32) (q : Int32) => ((fm2 0).toInt = (fm 0).toInt ∧ (fm2 3).toInt = (fm 3).toInt ∧ (fm2 4).toInt = (fm 4).toInt) ∧ (rM fa2) ∧ (rM fm2) ∧ (0 ≤ iO2.toInt ∧ iO2.toInt ≤ 1) ∧ (0 ≤ iD2.toInt ∧ iD2.toInt ≤ 1)) (u.1) (u.2.1) (u.2.2.1) (u.2.2.2.1) (u.2.2.2.2.1) (u.2.2.2.2.2.1) (u.2.2.2.2.2.2.1) (u.2.2.2.2.2.2.2.1) (u.2.2.2.2.2.2.2.2.1) (u.2.2.2.2.2.2.2.2.2.1) (u.2.2.2.2.2.2.2.2.2.2.1) (u.2.2.2.2.2.2.2.2.2.2.2.1) (u.2.2.2.2.2.2.2.2.2.2.2.2)) (fun u : Int32 × Int32 × Int32 × Int32 × Int32 × Int32 × Int32 × Int32 × (Nat → Int32) × (Nat → Int32) × (Nat → Int32) × (Nat → Int32) × Int32 => (fun (th2 : Int32) (ba2 : Int32) (en2 : Int32) (at2 : Int32) (de2 : Int32) (iD2 : Int32) (iO2 : Int32) (tU2 : Int32) (ff2 : Nat → Int32) (fm2 : Nat → Int32) (fb2 : Nat → Int32) (fa2 : Nat → Int32) (q : Int32) => [bMo g o a th2 hi ac tp ba2 en2 at2 fl de2 iD2 iO2 tU2 fm2 fk fa2 fc ft ff2 fb2 fi]) (u.1) (u.2.1) (u.2.2.1) (u.2.2.2.1) (u.2.2.2.2.1) (u.2.2.2.2.2.1) (u.2.2.2.2.2.2.1) (u.2.2.2.2.2.2.2.1) (u.2.2.2.2.2.2.2.2.1) (u.2.2.2.2.2.2.2.2.2.1) (u.2.2.2.2.2.2.2.2.2.2.1) (u.2.2.2.2.2.2.2.2.2.2.2.1) (u.2.2.2.2.2.2.2.2.2.2.2.2)) ({ frames := 34, cells := 0, slots := 0, locals := 761 } : Room) below args s A) (F0 m 50 ls []) := by
        intro kf
        induction kf with
        | zero => intro x_10 x_11 x_12 x_13 x_14 x_15 x_16 x_17 x_18 fm_19 fa_20 ff_21 fb_22 i23 i24 i25 i26 rfm_19 rfa_20 i27 H locs ls hk; exact absurd hk (Nat.not_lt_zero _)
        | succ kf ih50_29 =>
          intro x_10 x_11 x_12 x_13 x_14 x_15 x_16 x_17 x_18 fm_19 fa_20 ff_21 fb_22 i23 i24 i25 i26 rfm_19 rfa_20 i27 H locs ls hk50_29 hP hD hS hl
          refine lv_iload hx hb dX12_must_50 (lv_at hl 5 rfl) ?_
          refine lv_iconst (v := 1) hx hb dX12_must_52 (by decide) ?_
          refine lv_aload_n hx hb dX12_must_53 rfl (lv_at hl 0 rfl) ?_
          refine va_get (D := g.1) (ci := 10) (v := .ref (a 0)) (C := RX12) (T := TX12) (N := 20) hx hb hts izRX12 hown hK hP 0 rfl rfl 1 (by decide) (hts _ k815) (fun _ h9 => h9) rfl dX12_must_54 ?_
          refine lv_iconst (v := 3) hx hb dX12_must_57 (by decide) ?_
          refine va_iald hx hb hK hP 1 0 rfl rfl (zin rfl) dX12_must_58 ?_
          refine zgq (r := fm_19 3) rfl (rM3 rfm_19) (fun x_30 hx_30 => ?_)
          refine lv_ishl hx hb dX12_must_59 ?_
          refine zgb (zshl1 (j := x_30.toInt) rfl 8 256 (by decide) (by decide) ⟨hx_30.1, hx_30.2.1⟩) (fun x_31 hx_31 => ?_)
          refine lv_icmp_ge (tgt := 114) hx hb dX12_must_60 (by decide) (fun cb9 => ?_) (fun cb9 => ?_)
          · skip
            have c32 : x_31.toInt ≤ x_11.toInt := zle cb9 rfl rfl
            have n33 : 1 ≤ x_11.toInt := Int.le_trans hx_31.1 c32
            refine lv_iload hx hb dX12_must_114 (lv_at hl 4 rfl) ?_
            have hP : va_P g.1 vwCl (List.flatten [bMo g o a 0 hi ac tp x_12 x_13 x_14 fl x_15 x_16 x_17 x_18 fm_19 fk fa_20 fc ft ff_21 fb_22 fi]) H := hP
            have hD : va_D A (List.flatten [bMo g o a 0 hi ac tp x_12 x_13 x_14 fl x_15 x_16 x_17 x_18 fm_19 fk fa_20 fc ft ff_21 fb_22 fi]) := hD
            exact mret_i hx hb hr hlocks hS (Nat.le_of_ble_eq_true rfl) (Nat.le_of_ble_eq_true rfl) dX12_must_116 ((0 : Int32), x_12, x_13, x_14, x_15, x_16, x_17, x_18, ff_21, fm_19, fb_22, fa_20, x_10) rfl (show ((fm_19 0).toInt = (fm 0).toInt ∧ (fm_19 3).toInt = (fm 3).toInt ∧ (fm_19 4).toInt = (fm 4).toInt) ∧ (rM fa_20) ∧ (rM fm_19) ∧ (0 ≤ x_17.toInt ∧ x_17.toInt ≤ 1) ∧ (0 ≤ x_16.toInt ∧ x_16.toInt ≤ 1) from ⟨i27, rfa_20, rfm_19, i26, i25⟩) hP hD
          · skip
            have c34 : x_11.toInt < x_31.toInt := zlti (Int32.not_le.mp cb9) rfl rfl
            have n35 : x_11.toInt ≤ 255 := zL1 (b := 256) c34 hx_31.2 (by decide)
            refine lv_iload hx hb dX12_must_63 (lv_at hl 5 rfl) ?_
            refine lv_iload_n hx hb dX12_must_65 rfl (lv_at hl 3 rfl) ?_
            refine lv_iconst (v := (-1)) hx hb dX12_must_66 (by decide) ?_
            refine lv_ixor hx hb dX12_must_67 ?_
            refine zg (fun x_36 => ?_)
            refine lv_iand hx hb dX12_must_68 ?_
            refine zg (fun x_37 => ?_)
            refine lv_if_ne (tgt := 108) hx hb dX12_must_69 (by decide) (fun cb9 => ?_) (fun cb9 => ?_)
            · skip
              have c38 : ¬ x_37.toInt = 0 := zne cb9 rfl (by decide)
              refine ziinc3 (n' := 1) (a' := 1) (b' := 256) (lv' := fun v9 => [(5, .int v9), (0, .ref o), (1, .int x), (2, .int n), (3, .int q_8), (4, .int x_10)]) hx hb dX12_must_108 hl (k := 5) rfl (by decide) (fun _ => rfl) (zaddK (i := x_11.toInt) (j := 1) rfl (by decide) i24.1 n35 (Int.le_refl _) (Int.le_refl _) (by decide)) (fun x_39 ls hx_39 hl => ?_)
              refine lv_goto (tgt := 50) hx hb dX12_must_111 (by decide) ?_
              have hl := lv_sub (l' := [(0, .ref o), (1, .int x), (2, .int n), (3, .int q_8), (4, .int x_10), (5, .int x_39)]) hl [1, 2, 3, 4, 5, 0] rfl
              have hP : va_P g.1 vwCl (List.flatten [bMo g o a 0 hi ac tp x_12 x_13 x_14 fl x_15 x_16 x_17 x_18 fm_19 fk fa_20 fc ft ff_21 fb_22 fi]) H := hP
              have hD : va_D A (List.flatten [bMo g o a 0 hi ac tp x_12 x_13 x_14 fl x_15 x_16 x_17 x_18 fm_19 fk fa_20 fc ft ff_21 fb_22 fi]) := hD
              exact ih50_29 x_10 x_39 x_12 x_13 x_14 x_15 x_16 x_17 x_18 fm_19 fa_20 ff_21 fb_22 ⟨i23.1, i23.2⟩ ⟨(Int.le_trans (by decide) hx_39.2.1), hx_39.2.2⟩ ⟨i25.1, i25.2⟩ ⟨i26.1, i26.2⟩ rfm_19 rfa_20 i27 H _ ls (zmK hx_39.1 (by decide) n35 (by decide) hk50_29)  hP hD hS (lv_sub hl [0, 1, 2, 3, 4, 5] rfl)
            · skip
              have c40 : x_37.toInt = 0 := zeq cb9 rfl (by decide)
              have n41 : 0 ≤ x_37.toInt := Int.le_trans (Int.le_refl _) (Int.le_of_eq c40.symm)
              have n42 : x_37.toInt ≤ 0 := Int.le_trans (Int.le_of_eq c40) (Int.le_refl _)
              refine lv_iload hx hb dX12_must_72 (lv_at hl 4 rfl) ?_
              refine lv_iconst (v := (-1)) hx hb dX12_must_74 (by decide) ?_
              refine lv_icmp_eq (tgt := 91) hx hb dX12_must_75 (by decide) (fun cb9 => ?_) (fun cb9 => ?_)
              · skip
                have c43 : x_10.toInt = (-1) := zeq cb9 rfl (by decide)
                have n44 : x_10.toInt ≤ (-1) := Int.le_trans (Int.le_of_eq c43) (Int.le_refl _)
                refine lv_aload_n hx hb dX12_must_91 rfl (lv_at hl 0 rfl) ?_
                refine lv_iload_n hx hb dX12_must_92 rfl (lv_at hl 2 rfl) ?_
                refine lv_iload hx hb dX12_must_93 (lv_at hl 5 rfl) ?_
                refine lv_bipush (v := 20) hx hb dX12_must_95 (by decide) ?_
                refine mcallV' (g := g) (q0 := 0) (ci := 10) (As := [.int n, .int x_11, .int 20]) (rest := []) St hK hT hA hP hD hS hl.1 [0] [] rfl rfl rfl (m_believedBy l g o a 0 hi ac tp x_12 x_13 x_14 fl x_15 x_16 x_17 x_18 fm_19 fk fa_20 fc ft ff_21 fb_22 fi n x_11 20 rfm_19 rfa_20 i25 i26 (by first | assumption | omega | decide | exact Or.inl (by decide) | exact Or.inr (by decide))) (cwV 3 hts (zgL (zl4 k1066 k1067 k1068 k839) k1064) rfl rfl rfl (by decide +kernel) ⟨Nat.le_of_ble_eq_true rfl, Nat.le_of_ble_eq_true rfl⟩) rfl rfl rfl rfl (Nat.le_of_ble_eq_true rfl) dX12_must_97 ⟨(Nat.le_of_ble_eq_true rfl), (Nat.le_of_ble_eq_true rfl)⟩ (fun u_ H locs hq57 hP hD hS => ?_)
                obtain ⟨ba2_45, en2_46, at2_47, de2_48, iD2_49, iO2_50, tU2_51, ff2_52, fm2_53, fb2_54, fa2_55, q_56⟩ := u_
                replace hq57 : ((fm2_53 0).toInt = (fm_19 0).toInt ∧ (fm2_53 3).toInt = (fm_19 3).toInt ∧ (fm2_53 4).toInt = (fm_19 4).toInt) ∧ (rM fa2_55) ∧ (rM fm2_53) ∧ (0 ≤ iO2_50.toInt ∧ iO2_50.toInt ≤ 1) ∧ (0 ≤ iD2_49.toInt ∧ iD2_49.toInt ≤ 1) := hq57
                have hP : va_P g.1 vwCl (List.flatten [bMo g o a 0 hi ac tp ba2_45 en2_46 at2_47 fl de2_48 iD2_49 iO2_50 tU2_51 fm2_53 fk fa2_55 fc ft ff2_52 fb2_54 fi]) H := hP
                have hD : va_D A (List.flatten [bMo g o a 0 hi ac tp ba2_45 en2_46 at2_47 fl de2_48 iD2_49 iO2_50 tU2_51 fm2_53 fk fa2_55 fc ft ff2_52 fb2_54 fi]) := hD
                refine W.widen (k := 0) (n := 0) (Nat.le_of_ble_eq_true rfl) (Nat.le_of_ble_eq_true rfl) ?_
                refine W.eq (g2 := F0 m 100 ls [.int q_56]) rfl ?_
                obtain ⟨hq57_0, rfa2_55, rfm2_53, hq57_3, hq57_4⟩ := hq57
                refine lv_iload_n hx hb dX12_must_100 rfl (lv_at hl 1 rfl) ?_
                refine lv_icmp_lt (tgt := 108) hx hb dX12_must_101 (by decide) (fun cb9 => ?_) (fun cb9 => ?_)
                · skip
                  have c58 : q_56.toInt < x.toInt := zlti cb9 rfl rfl
                  refine ziinc3 (n' := 1) (a' := 1) (b' := 256) (lv' := fun v9 => [(5, .int v9), (0, .ref o), (1, .int x), (2, .int n), (3, .int q_8), (4, .int x_10)]) hx hb dX12_must_108 hl (k := 5) rfl (by decide) (fun _ => rfl) (zaddK (i := x_11.toInt) (j := 1) rfl (by decide) i24.1 n35 (Int.le_refl _) (Int.le_refl _) (by decide)) (fun x_59 ls hx_59 hl => ?_)
                  refine lv_goto (tgt := 50) hx hb dX12_must_111 (by decide) ?_
                  have hl := lv_sub (l' := [(0, .ref o), (1, .int x), (2, .int n), (3, .int q_8), (4, .int x_10), (5, .int x_59)]) hl [1, 2, 3, 4, 5, 0] rfl
                  have hP : va_P g.1 vwCl (List.flatten [bMo g o a 0 hi ac tp ba2_45 en2_46 at2_47 fl de2_48 iD2_49 iO2_50 tU2_51 fm2_53 fk fa2_55 fc ft ff2_52 fb2_54 fi]) H := hP
                  have hD : va_D A (List.flatten [bMo g o a 0 hi ac tp ba2_45 en2_46 at2_47 fl de2_48 iD2_49 iO2_50 tU2_51 fm2_53 fk fa2_55 fc ft ff2_52 fb2_54 fi]) := hD
                  exact ih50_29 x_10 x_59 ba2_45 en2_46 at2_47 de2_48 iD2_49 iO2_50 tU2_51 fm2_53 fa2_55 ff2_52 fb2_54 ⟨i23.1, (Int.le_trans n44 (by decide))⟩ ⟨(Int.le_trans (by decide) hx_59.2.1), hx_59.2.2⟩ ⟨hq57_4.1, hq57_4.2⟩ ⟨hq57_3.1, hq57_3.2⟩ rfm2_53 rfa2_55 (by first | omega | assumption | decide) H _ ls (zmK hx_59.1 (by decide) n35 (by decide) hk50_29)  hP hD hS (lv_sub hl [0, 1, 2, 3, 4, 5] rfl)
                · skip
                  have c60 : x.toInt ≤ q_56.toInt := zle (Int32.not_lt.mp cb9) rfl rfl
                  refine lv_iload hx hb dX12_must_104 (lv_at hl 5 rfl) ?_
                  refine lv_istore (lv' := [(4, .int x_11), (0, .ref o), (1, .int x), (2, .int n), (3, .int q_8), (5, .int x_11)]) hx hb dX12_must_106 hl (by decide) rfl (fun ls hl => ?_)
                  refine ziinc3 (n' := 1) (a' := 1) (b' := 256) (lv' := fun v9 => [(5, .int v9), (4, .int x_11), (0, .ref o), (1, .int x), (2, .int n), (3, .int q_8)]) hx hb dX12_must_108 hl (k := 5) rfl (by decide) (fun _ => rfl) (zaddK (i := x_11.toInt) (j := 1) rfl (by decide) i24.1 n35 (Int.le_refl _) (Int.le_refl _) (by decide)) (fun x_61 ls hx_61 hl => ?_)
                  refine lv_goto (tgt := 50) hx hb dX12_must_111 (by decide) ?_
                  have hl := lv_sub (l' := [(0, .ref o), (1, .int x), (2, .int n), (3, .int q_8), (4, .int x_11), (5, .int x_61)]) hl [2, 3, 4, 5, 1, 0] rfl
                  have hP : va_P g.1 vwCl (List.flatten [bMo g o a 0 hi ac tp ba2_45 en2_46 at2_47 fl de2_48 iD2_49 iO2_50 tU2_51 fm2_53 fk fa2_55 fc ft ff2_52 fb2_54 fi]) H := hP
                  have hD : va_D A (List.flatten [bMo g o a 0 hi ac tp ba2_45 en2_46 at2_47 fl de2_48 iD2_49 iO2_50 tU2_51 fm2_53 fk fa2_55 fc ft ff2_52 fb2_54 fi]) := hD
                  exact ih50_29 x_11 x_61 ba2_45 en2_46 at2_47 de2_48 iD2_49 iO2_50 tU2_51 fm2_53 fa2_55 ff2_52 fb2_54 ⟨(Int.le_trans (by decide) i24.1), n35⟩ ⟨(Int.le_trans (by decide) hx_61.2.1), hx_61.2.2⟩ ⟨hq57_4.1, hq57_4.2⟩ ⟨hq57_3.1, hq57_3.2⟩ rfm2_53 rfa2_55 (by first | omega | assumption | decide) H _ ls (zmK hx_61.1 (by decide) n35 (by decide) hk50_29)  hP hD hS (lv_sub hl [0, 1, 2, 3, 4, 5] rfl)
              · skip
                have c62 : ¬ x_10.toInt = (-1) := zne cb9 rfl (by decide)
                have n63 : 0 ≤ x_10.toInt := zN1 c62 i23.1 (by decide)
                refine lv_iload hx hb dX12_must_78 (lv_at hl 5 rfl) ?_
                refine mcallS' (g := g) (As := [.int x_11]) (rest := []) St hK hT hA hP hD hS hl.1 [] [0] rfl rfl rfl (m_bits l g x_11 ) (va_cwS 1 hts (zgL (zl3 k854 k855 k839) k830) rfl rfl rfl (by decide +kernel) ⟨Nat.le_of_ble_eq_true rfl, Nat.le_of_ble_eq_true rfl⟩) rfl rfl (Nat.le_of_ble_eq_true rfl) dX12_must_80 ⟨(Nat.le_of_ble_eq_true rfl), (Nat.le_of_ble_eq_true rfl)⟩ (fun q_64 H locs hq65 hP hD hS => ?_)
                have hP : va_P g.1 vwCl (List.flatten [bMo g o a 0 hi ac tp x_12 x_13 x_14 fl x_15 x_16 x_17 x_18 fm_19 fk fa_20 fc ft ff_21 fb_22 fi]) H := hP
                have hD : va_D A (List.flatten [bMo g o a 0 hi ac tp x_12 x_13 x_14 fl x_15 x_16 x_17 x_18 fm_19 fk fa_20 fc ft ff_21 fb_22 fi]) := hD
                refine W.widen (k := 0) (n := 0) (Nat.le_of_ble_eq_true rfl) (Nat.le_of_ble_eq_true rfl) ?_
                refine W.eq (g2 := F0 m 83 ls [.int q_64]) rfl ?_
                refine lv_iload hx hb dX12_must_83 (lv_at hl 4 rfl) ?_
                refine mcallS' (g := g) (As := [.int x_10]) (rest := [.int q_64]) St hK hT hA hP hD hS hl.1 [] [0] rfl rfl rfl (m_bits l g x_10 ) (va_cwS 1 hts (zgL (zl3 k854 k855 k839) k830) rfl rfl rfl (by decide +kernel) ⟨Nat.le_of_ble_eq_true rfl, Nat.le_of_ble_eq_true rfl⟩) rfl rfl (Nat.le_of_ble_eq_true rfl) dX12_must_85 ⟨(Nat.le_of_ble_eq_true rfl), (Nat.le_of_ble_eq_true rfl)⟩ (fun q_66 H locs hq67 hP hD hS => ?_)
                have hP : va_P g.1 vwCl (List.flatten [bMo g o a 0 hi ac tp x_12 x_13 x_14 fl x_15 x_16 x_17 x_18 fm_19 fk fa_20 fc ft ff_21 fb_22 fi]) H := hP
                have hD : va_D A (List.flatten [bMo g o a 0 hi ac tp x_12 x_13 x_14 fl x_15 x_16 x_17 x_18 fm_19 fk fa_20 fc ft ff_21 fb_22 fi]) := hD
                refine W.widen (k := 0) (n := 0) (Nat.le_of_ble_eq_true rfl) (Nat.le_of_ble_eq_true rfl) ?_
                refine W.eq (g2 := F0 m 88 ls [.int q_66, .int q_64]) rfl ?_
                refine lv_icmp_ge (tgt := 108) hx hb dX12_must_88 (by decide) (fun cb9 => ?_) (fun cb9 => ?_)
                · skip
                  have c68 : q_66.toInt ≤ q_64.toInt := zle cb9 rfl rfl
                  refine ziinc3 (n' := 1) (a' := 1) (b' := 256) (lv' := fun v9 => [(5, .int v9), (0, .ref o), (1, .int x), (2, .int n), (3, .int q_8), (4, .int x_10)]) hx hb dX12_must_108 hl (k := 5) rfl (by decide) (fun _ => rfl) (zaddK (i := x_11.toInt) (j := 1) rfl (by decide) i24.1 n35 (Int.le_refl _) (Int.le_refl _) (by decide)) (fun x_69 ls hx_69 hl => ?_)
                  refine lv_goto (tgt := 50) hx hb dX12_must_111 (by decide) ?_
                  have hl := lv_sub (l' := [(0, .ref o), (1, .int x), (2, .int n), (3, .int q_8), (4, .int x_10), (5, .int x_69)]) hl [1, 2, 3, 4, 5, 0] rfl
                  have hP : va_P g.1 vwCl (List.flatten [bMo g o a 0 hi ac tp x_12 x_13 x_14 fl x_15 x_16 x_17 x_18 fm_19 fk fa_20 fc ft ff_21 fb_22 fi]) H := hP
                  have hD : va_D A (List.flatten [bMo g o a 0 hi ac tp x_12 x_13 x_14 fl x_15 x_16 x_17 x_18 fm_19 fk fa_20 fc ft ff_21 fb_22 fi]) := hD
                  exact ih50_29 x_10 x_69 x_12 x_13 x_14 x_15 x_16 x_17 x_18 fm_19 fa_20 ff_21 fb_22 ⟨(Int.le_trans (by decide) n63), i23.2⟩ ⟨(Int.le_trans (by decide) hx_69.2.1), hx_69.2.2⟩ ⟨i25.1, i25.2⟩ ⟨i26.1, i26.2⟩ rfm_19 rfa_20 i27 H _ ls (zmK hx_69.1 (by decide) n35 (by decide) hk50_29)  hP hD hS (lv_sub hl [0, 1, 2, 3, 4, 5] rfl)
                · skip
                  have c70 : q_64.toInt < q_66.toInt := zlti (Int32.not_le.mp cb9) rfl rfl
                  refine lv_aload_n hx hb dX12_must_91 rfl (lv_at hl 0 rfl) ?_
                  refine lv_iload_n hx hb dX12_must_92 rfl (lv_at hl 2 rfl) ?_
                  refine lv_iload hx hb dX12_must_93 (lv_at hl 5 rfl) ?_
                  refine lv_bipush (v := 20) hx hb dX12_must_95 (by decide) ?_
                  refine mcallV' (g := g) (q0 := 0) (ci := 10) (As := [.int n, .int x_11, .int 20]) (rest := []) St hK hT hA hP hD hS hl.1 [0] [] rfl rfl rfl (m_believedBy l g o a 0 hi ac tp x_12 x_13 x_14 fl x_15 x_16 x_17 x_18 fm_19 fk fa_20 fc ft ff_21 fb_22 fi n x_11 20 rfm_19 rfa_20 i25 i26 (by first | assumption | omega | decide | exact Or.inl (by decide) | exact Or.inr (by decide))) (cwV 3 hts (zgL (zl4 k1066 k1067 k1068 k839) k1064) rfl rfl rfl (by decide +kernel) ⟨Nat.le_of_ble_eq_true rfl, Nat.le_of_ble_eq_true rfl⟩) rfl rfl rfl rfl (Nat.le_of_ble_eq_true rfl) dX12_must_97 ⟨(Nat.le_of_ble_eq_true rfl), (Nat.le_of_ble_eq_true rfl)⟩ (fun u_ H locs hq83 hP hD hS => ?_)
                  obtain ⟨ba2_71, en2_72, at2_73, de2_74, iD2_75, iO2_76, tU2_77, ff2_78, fm2_79, fb2_80, fa2_81, q_82⟩ := u_
                  replace hq83 : ((fm2_79 0).toInt = (fm_19 0).toInt ∧ (fm2_79 3).toInt = (fm_19 3).toInt ∧ (fm2_79 4).toInt = (fm_19 4).toInt) ∧ (rM fa2_81) ∧ (rM fm2_79) ∧ (0 ≤ iO2_76.toInt ∧ iO2_76.toInt ≤ 1) ∧ (0 ≤ iD2_75.toInt ∧ iD2_75.toInt ≤ 1) := hq83
                  have hP : va_P g.1 vwCl (List.flatten [bMo g o a 0 hi ac tp ba2_71 en2_72 at2_73 fl de2_74 iD2_75 iO2_76 tU2_77 fm2_79 fk fa2_81 fc ft ff2_78 fb2_80 fi]) H := hP
                  have hD : va_D A (List.flatten [bMo g o a 0 hi ac tp ba2_71 en2_72 at2_73 fl de2_74 iD2_75 iO2_76 tU2_77 fm2_79 fk fa2_81 fc ft ff2_78 fb2_80 fi]) := hD
                  refine W.widen (k := 0) (n := 0) (Nat.le_of_ble_eq_true rfl) (Nat.le_of_ble_eq_true rfl) ?_
                  refine W.eq (g2 := F0 m 100 ls [.int q_82]) rfl ?_
                  obtain ⟨hq83_0, rfa2_81, rfm2_79, hq83_3, hq83_4⟩ := hq83
                  refine lv_iload_n hx hb dX12_must_100 rfl (lv_at hl 1 rfl) ?_
                  refine lv_icmp_lt (tgt := 108) hx hb dX12_must_101 (by decide) (fun cb9 => ?_) (fun cb9 => ?_)
                  · skip
                    have c84 : q_82.toInt < x.toInt := zlti cb9 rfl rfl
                    refine ziinc3 (n' := 1) (a' := 1) (b' := 256) (lv' := fun v9 => [(5, .int v9), (0, .ref o), (1, .int x), (2, .int n), (3, .int q_8), (4, .int x_10)]) hx hb dX12_must_108 hl (k := 5) rfl (by decide) (fun _ => rfl) (zaddK (i := x_11.toInt) (j := 1) rfl (by decide) i24.1 n35 (Int.le_refl _) (Int.le_refl _) (by decide)) (fun x_85 ls hx_85 hl => ?_)
                    refine lv_goto (tgt := 50) hx hb dX12_must_111 (by decide) ?_
                    have hl := lv_sub (l' := [(0, .ref o), (1, .int x), (2, .int n), (3, .int q_8), (4, .int x_10), (5, .int x_85)]) hl [1, 2, 3, 4, 5, 0] rfl
                    have hP : va_P g.1 vwCl (List.flatten [bMo g o a 0 hi ac tp ba2_71 en2_72 at2_73 fl de2_74 iD2_75 iO2_76 tU2_77 fm2_79 fk fa2_81 fc ft ff2_78 fb2_80 fi]) H := hP
                    have hD : va_D A (List.flatten [bMo g o a 0 hi ac tp ba2_71 en2_72 at2_73 fl de2_74 iD2_75 iO2_76 tU2_77 fm2_79 fk fa2_81 fc ft ff2_78 fb2_80 fi]) := hD
                    exact ih50_29 x_10 x_85 ba2_71 en2_72 at2_73 de2_74 iD2_75 iO2_76 tU2_77 fm2_79 fa2_81 ff2_78 fb2_80 ⟨(Int.le_trans (by decide) n63), i23.2⟩ ⟨(Int.le_trans (by decide) hx_85.2.1), hx_85.2.2⟩ ⟨hq83_4.1, hq83_4.2⟩ ⟨hq83_3.1, hq83_3.2⟩ rfm2_79 rfa2_81 (by first | omega | assumption | decide) H _ ls (zmK hx_85.1 (by decide) n35 (by decide) hk50_29)  hP hD hS (lv_sub hl [0, 1, 2, 3, 4, 5] rfl)
                  · skip
                    have c86 : x.toInt ≤ q_82.toInt := zle (Int32.not_lt.mp cb9) rfl rfl
                    refine lv_iload hx hb dX12_must_104 (lv_at hl 5 rfl) ?_
                    refine lv_istore (lv' := [(4, .int x_11), (0, .ref o), (1, .int x), (2, .int n), (3, .int q_8), (5, .int x_11)]) hx hb dX12_must_106 hl (by decide) rfl (fun ls hl => ?_)
                    refine ziinc3 (n' := 1) (a' := 1) (b' := 256) (lv' := fun v9 => [(5, .int v9), (4, .int x_11), (0, .ref o), (1, .int x), (2, .int n), (3, .int q_8)]) hx hb dX12_must_108 hl (k := 5) rfl (by decide) (fun _ => rfl) (zaddK (i := x_11.toInt) (j := 1) rfl (by decide) i24.1 n35 (Int.le_refl _) (Int.le_refl _) (by decide)) (fun x_87 ls hx_87 hl => ?_)
                    refine lv_goto (tgt := 50) hx hb dX12_must_111 (by decide) ?_
                    have hl := lv_sub (l' := [(0, .ref o), (1, .int x), (2, .int n), (3, .int q_8), (4, .int x_11), (5, .int x_87)]) hl [2, 3, 4, 5, 1, 0] rfl
                    have hP : va_P g.1 vwCl (List.flatten [bMo g o a 0 hi ac tp ba2_71 en2_72 at2_73 fl de2_74 iD2_75 iO2_76 tU2_77 fm2_79 fk fa2_81 fc ft ff2_78 fb2_80 fi]) H := hP
                    have hD : va_D A (List.flatten [bMo g o a 0 hi ac tp ba2_71 en2_72 at2_73 fl de2_74 iD2_75 iO2_76 tU2_77 fm2_79 fk fa2_81 fc ft ff2_78 fb2_80 fi]) := hD
                    exact ih50_29 x_11 x_87 ba2_71 en2_72 at2_73 de2_74 iD2_75 iO2_76 tU2_77 fm2_79 fa2_81 ff2_78 fb2_80 ⟨(Int.le_trans (by decide) i24.1), n35⟩ ⟨(Int.le_trans (by decide) hx_87.2.1), hx_87.2.2⟩ ⟨hq83_4.1, hq83_4.2⟩ ⟨hq83_3.1, hq83_3.2⟩ rfm2_79 rfa2_81 (by first | omega | assumption | decide) H _ ls (zmK hx_87.1 (by decide) n35 (by decide) hk50_29)  hP hD hS (lv_sub hl [0, 1, 2, 3, 4, 5] rfl)
      have hLn1 : ((-1) : Int32).toInt = (-1) := by decide
      have hP : va_P g.1 vwCl (List.flatten [bMo g o a 0 hi ac tp ba en tA fl de iD iO tU fm fk fa fc ft ff fb fi]) H := hP
      have hD : va_D A (List.flatten [bMo g o a 0 hi ac tp ba en tA fl de iD iO tU fm fk fa fc ft ff fb fi]) := hD
      exact LP50_28 _ (-1) 0 ba en tA de iD iO tU fm fa ff fb (by decide) (by decide) ⟨hiD.1, hiD.2⟩ ⟨hiO.1, hiO.2⟩ rfm rfa (by first | omega | assumption | decide) H _ ls (Nat.lt_succ_self _)  hP hD hS (lv_sub hl [0, 1, 2, 3, 4, 5] rfl)
    · skip
      refine lv_if_ne (tgt := 26) hx hb dX12_must_19 (by decide) (fun c88 => absurd (by decide) c88) (fun _ => ?_)
      refine lv_iconst (v := 1) hx hb dX12_must_22 (by decide) ?_
      refine lv_goto (tgt := 27) hx hb dX12_must_23 (by decide) ?_
      refine va_put (D := g.1) (ci := 10) (v := .int 1) (ty := .int) (C := RX12) (T := TX12) (N := 20) hx hb hts izRX12 tyX12 tyX12_ok nmX12 hown hK hP hD hS 0 rfl rfl 0 (by decide) (hts _ k825) (fun _ h9 => h9) rfl (by decide +kernel) rfl rfl (Nat.le_of_ble_eq_true rfl) dX12_must_27 (fun H locs hP hD hS => ?_)
      have hP : va_P g.1 vwCl (List.flatten [bMo g o a 1 hi ac tp ba en tA fl de iD iO tU fm fk fa fc ft ff fb fi]) H := hP
      have hD : va_D A (List.flatten [bMo g o a 1 hi ac tp ba en tA fl de iD iO tU fm fk fa fc ft ff fb fi]) := hD
      refine lv_aload_n hx hb dX12_must_30 rfl (lv_at hl 0 rfl) ?_
      refine va_get (D := g.1) (ci := 10) (v := .int 1) (C := RX12) (T := TX12) (N := 20) hx hb hts izRX12 hown hK hP 0 rfl rfl 0 (by decide) (hts _ k825) (fun _ h9 => h9) rfl dX12_must_31 ?_
      refine lv_if_le (tgt := 39) hx hb dX12_must_34 (by decide) (fun c89 => absurd c89 (by decide)) (fun _ => ?_)
      refine lv_iconst (v := 0) hx hb dX12_must_37 (by decide) ?_
      have hP : va_P g.1 vwCl (List.flatten [bMo g o a 1 hi ac tp ba en tA fl de iD iO tU fm fk fa fc ft ff fb fi]) H := hP
      have hD : va_D A (List.flatten [bMo g o a 1 hi ac tp ba en tA fl de iD iO tU fm fk fa fc ft ff fb fi]) := hD
      exact mret_i hx hb hr hlocks hS (Nat.le_of_ble_eq_true rfl) (Nat.le_of_ble_eq_true rfl) dX12_must_38 ((1 : Int32), ba, en, tA, de, iD, iO, tU, ff, fm, fb, fa, (0 : Int32)) rfl (show ((fm 0).toInt = (fm 0).toInt ∧ (fm 3).toInt = (fm 3).toInt ∧ (fm 4).toInt = (fm 4).toInt) ∧ (rM fa) ∧ (rM fm) ∧ (0 ≤ iO.toInt ∧ iO.toInt ≤ 1) ∧ (0 ≤ iD.toInt ∧ iD.toInt ≤ 1) from ⟨(by first | assumption | omega | decide | exact rfl | exact zb01 (by omega) | exact Or.inl (by decide) | exact Or.inr (by first | omega | decide)), rfa, rfm, hiO, hiD⟩) hP hD
  · skip
    refine lv_if_eq (tgt := 22) hx hb dX12_must_9 (by decide) (fun _ => ?_) (fun c90 => absurd (by decide) c90)
    refine lv_iconst (v := 1) hx hb dX12_must_22 (by decide) ?_
    refine lv_goto (tgt := 27) hx hb dX12_must_23 (by decide) ?_
    refine va_put (D := g.1) (ci := 10) (v := .int 1) (ty := .int) (C := RX12) (T := TX12) (N := 20) hx hb hts izRX12 tyX12 tyX12_ok nmX12 hown hK hP hD hS 0 rfl rfl 0 (by decide) (hts _ k825) (fun _ h9 => h9) rfl (by decide +kernel) rfl rfl (Nat.le_of_ble_eq_true rfl) dX12_must_27 (fun H locs hP hD hS => ?_)
    have hP : va_P g.1 vwCl (List.flatten [bMo g o a 1 hi ac tp ba en tA fl de iD iO tU fm fk fa fc ft ff fb fi]) H := hP
    have hD : va_D A (List.flatten [bMo g o a 1 hi ac tp ba en tA fl de iD iO tU fm fk fa fc ft ff fb fi]) := hD
    refine lv_aload_n hx hb dX12_must_30 rfl (lv_at hl 0 rfl) ?_
    refine va_get (D := g.1) (ci := 10) (v := .int 1) (C := RX12) (T := TX12) (N := 20) hx hb hts izRX12 hown hK hP 0 rfl rfl 0 (by decide) (hts _ k825) (fun _ h9 => h9) rfl dX12_must_31 ?_
    refine lv_if_le (tgt := 39) hx hb dX12_must_34 (by decide) (fun c91 => absurd c91 (by decide)) (fun _ => ?_)
    refine lv_iconst (v := 0) hx hb dX12_must_37 (by decide) ?_
    have hP : va_P g.1 vwCl (List.flatten [bMo g o a 1 hi ac tp ba en tA fl de iD iO tU fm fk fa fc ft ff fb fi]) H := hP
    have hD : va_D A (List.flatten [bMo g o a 1 hi ac tp ba en tA fl de iD iO tU fm fk fa fc ft ff fb fi]) := hD
    exact mret_i hx hb hr hlocks hS (Nat.le_of_ble_eq_true rfl) (Nat.le_of_ble_eq_true rfl) dX12_must_38 ((1 : Int32), ba, en, tA, de, iD, iO, tU, ff, fm, fb, fa, (0 : Int32)) rfl (show ((fm 0).toInt = (fm 0).toInt ∧ (fm 3).toInt = (fm 3).toInt ∧ (fm 4).toInt = (fm 4).toInt) ∧ (rM fa) ∧ (rM fm) ∧ (0 ≤ iO.toInt ∧ iO.toInt ≤ 1) ∧ (0 ≤ iD.toInt ∧ iD.toInt ≤ 1) from ⟨(by first | assumption | omega | decide | exact rfl | exact zb01 (by omega) | exact Or.inl (by decide) | exact Or.inr (by first | omega | decide)), rfa, rfm, hiO, hiD⟩) hP hD
set_option maxRecDepth 100000 in
set_option maxHeartbeats 4000000 in
theorem m_reaches (l : Launch) (g : zG) (o : Nat) (a : Nat → Nat) (th : Int32) (hi : Int32) (ac : Int32) (tp : Int32) (ba : Int32) (en : Int32) (tA : Int32) (fl : Int32) (de : Int32) (iD : Int32) (iO : Int32) (tU : Int32) (fm : Nat → Int32) (fk : Nat → Int32) (fa : Nat → Int32) (fc : Nat → Int32) (ft : Nat → Int32) (ff : Nat → Int32) (fb : Nat → Int32) (fi : Nat → Int32) (x : Int32) (rfm : rM fm) (rfa : rM fa) (hiD : 0 ≤ iD.toInt ∧ iD.toInt ≤ 1) (hiO : 0 ≤ iO.toInt ∧ iO.toInt ≤ 1) : zM' g l yX12_reaches (Cond.code yX12_reaches cX12_reaches 5 (some .int) :: zB) ({ frames := 33, cells := 0, slots := 0, locals := 736 } : Room) [.ref o, .int x] [bMo g o a th hi ac tp ba en tA fl de iD iO tU fm fk fa fc ft ff fb fi] (fun u : Int32 × Int32 × Int32 × Int32 × Int32 × Int32 × Int32 × Int32 × (Nat → Int32) × (Nat → Int32) × (Nat → Int32) × (Nat → Int32) × Int32 => (fun (th2 : Int32) (ba2 : Int32) (en2 : Int32) (at2 : Int32) (de2 : Int32) (iD2 : Int32) (iO2 : Int32) (tU2 : Int32) (ff2 : Nat → Int32) (fm2 : Nat → Int32) (fb2 : Nat → Int32) (fa2 : Nat → Int32) (q : Int32) => some (.int q)) (u.1) (u.2.1) (u.2.2.1) (u.2.2.2.1) (u.2.2.2.2.1) (u.2.2.2.2.2.1) (u.2.2.2.2.2.2.1) (u.2.2.2.2.2.2.2.1) (u.2.2.2.2.2.2.2.2.1) (u.2.2.2.2.2.2.2.2.2.1) (u.2.2.2.2.2.2.2.2.2.2.1) (u.2.2.2.2.2.2.2.2.2.2.2.1) (u.2.2.2.2.2.2.2.2.2.2.2.2)) (fun u : Int32 × Int32 × Int32 × Int32 × Int32 × Int32 × Int32 × Int32 × (Nat → Int32) × (Nat → Int32) × (Nat → Int32) × (Nat → Int32) × Int32 => (fun (th2 : Int32) (ba2 : Int32) (en2 : Int32) (at2 : Int32) (de2 : Int32) (iD2 : Int32) (iO2 : Int32) (tU2 : Int32) (ff2 : Nat → Int32) (fm2 : Nat → Int32) (fb2 : Nat → Int32) (fa2 : Nat → Int32) (q : Int32) => ((fm2 0).toInt = (fm 0).toInt ∧ (fm2 3).toInt = (fm 3).toInt ∧ (fm2 4).toInt = (fm 4).toInt) ∧ (rM fa2) ∧ (rM fm2) ∧ (0 ≤ iO2.toInt ∧ iO2.toInt ≤ 1) ∧ (0 ≤ iD2.toInt ∧ iD2.toInt ≤ 1)) (u.1) (u.2.1) (u.2.2.1) (u.2.2.2.1) (u.2.2.2.2.1) (u.2.2.2.2.2.1) (u.2.2.2.2.2.2.1) (u.2.2.2.2.2.2.2.1) (u.2.2.2.2.2.2.2.2.1) (u.2.2.2.2.2.2.2.2.2.1) (u.2.2.2.2.2.2.2.2.2.2.1) (u.2.2.2.2.2.2.2.2.2.2.2.1) (u.2.2.2.2.2.2.2.2.2.2.2.2)) (fun u : Int32 × Int32 × Int32 × Int32 × Int32 × Int32 × Int32 × Int32 × (Nat → Int32) × (Nat → Int32) × (Nat → Int32) × (Nat → Int32) × Int32 => (fun (th2 : Int32) (ba2 : Int32) (en2 : Int32) (at2 : Int32) (de2 : Int32) (iD2 : Int32) (iO2 : Int32) (tU2 : Int32) (ff2 : Nat → Int32) (fm2 : Nat → Int32) (fb2 : Nat → Int32) (fa2 : Nat → Int32) (q : Int32) => [bMo g o a th2 hi ac tp ba2 en2 at2 fl de2 iD2 iO2 tU2 fm2 fk fa2 fc ft ff2 fb2 fi]) (u.1) (u.2.1) (u.2.2.1) (u.2.2.2.1) (u.2.2.2.2.1) (u.2.2.2.2.2.1) (u.2.2.2.2.2.2.1) (u.2.2.2.2.2.2.2.1) (u.2.2.2.2.2.2.2.2.1) (u.2.2.2.2.2.2.2.2.2.1) (u.2.2.2.2.2.2.2.2.2.2.1) (u.2.2.2.2.2.2.2.2.2.2.2.1) (u.2.2.2.2.2.2.2.2.2.2.2.2)) := by
  refine zM'.of (cc := cX12_reaches) (maxL := 5) (rt := (some .int)) (by decide) rfl (Nat.le_of_ble_eq_true rfl) ?_
  intro p e s m args below meth c A ls St hr hlocks hin hK hT hA hP hD hS hl
  obtain ⟨hx, hb, hml, hown, hts⟩ := id St
  have hl : lv_has ls 5 [(0, .ref o), (1, .int x)] := hl
  refine lv_aload_n hx hb dX12_reaches_0 rfl (lv_at hl 0 rfl) ?_
  refine lv_iload_n hx hb dX12_reaches_1 rfl (lv_at hl 1 rfl) ?_
  refine lv_iconst (v := 1) hx hb dX12_reaches_2 (by decide) ?_
  refine lv_sipush (v := 792) hx hb dX12_reaches_3 (by decide) ?_
  have hL1 : (1 : Int32).toInt = 1 := by decide
  have hL792 : (792 : Int32).toInt = 792 := by decide
  refine mcallS' (g := g) (As := [.int x, .int 1, .int 792]) (rest := [.ref o]) St hK hT hA hP hD hS hl.1 [] [0] rfl rfl rfl (m_isIn l g x 1 792 ) (va_cwS 3 hts (zgL (zl3 k837 k838 k839) k826) rfl rfl rfl (by decide +kernel) ⟨Nat.le_of_ble_eq_true rfl, Nat.le_of_ble_eq_true rfl⟩) rfl rfl (Nat.le_of_ble_eq_true rfl) dX12_reaches_6 ⟨(Nat.le_of_ble_eq_true rfl), (Nat.le_of_ble_eq_true rfl)⟩ (fun q_1 H locs hq2 hP hD hS => ?_)
  replace hq2 : (q_1 = 1 ∧ (1 : Int32).toInt ≤ x.toInt ∧ x.toInt ≤ (792 : Int32).toInt ∨ q_1 = 0 ∧ (x.toInt < (1 : Int32).toInt ∨ (792 : Int32).toInt < x.toInt)) := hq2
  have hP : va_P g.1 vwCl (List.flatten [bMo g o a th hi ac tp ba en tA fl de iD iO tU fm fk fa fc ft ff fb fi]) H := hP
  have hD : va_D A (List.flatten [bMo g o a th hi ac tp ba en tA fl de iD iO tU fm fk fa fc ft ff fb fi]) := hD
  refine W.widen (k := 0) (n := 0) (Nat.le_of_ble_eq_true rfl) (Nat.le_of_ble_eq_true rfl) ?_
  refine W.eq (g2 := F0 m 9 ls [.int q_1, .ref o]) rfl ?_
  rcases hq2 with ⟨rfl, hq2_k⟩ | ⟨rfl, hq2_k⟩
  · skip
    refine lv_if_ne (tgt := 16) hx hb dX12_reaches_9 (by decide) (fun _ => ?_) (fun c3 => absurd c3 (by decide))
    refine lv_iconst (v := 0) hx hb dX12_reaches_16 (by decide) ?_
    refine va_put (D := g.1) (ci := 10) (v := .int 0) (ty := .int) (C := RX12) (T := TX12) (N := 20) hx hb hts izRX12 tyX12 tyX12_ok nmX12 hown hK hP hD hS 0 rfl rfl 0 (by decide) (hts _ k825) (fun _ h9 => h9) rfl (by decide +kernel) rfl rfl (Nat.le_of_ble_eq_true rfl) dX12_reaches_17 (fun H locs hP hD hS => ?_)
    have hP : va_P g.1 vwCl (List.flatten [bMo g o a 0 hi ac tp ba en tA fl de iD iO tU fm fk fa fc ft ff fb fi]) H := hP
    have hD : va_D A (List.flatten [bMo g o a 0 hi ac tp ba en tA fl de iD iO tU fm fk fa fc ft ff fb fi]) := hD
    refine lv_aload_n hx hb dX12_reaches_20 rfl (lv_at hl 0 rfl) ?_
    refine va_get (D := g.1) (ci := 10) (v := .int 0) (C := RX12) (T := TX12) (N := 20) hx hb hts izRX12 hown hK hP 0 rfl rfl 0 (by decide) (hts _ k825) (fun _ h9 => h9) rfl dX12_reaches_21 ?_
    refine lv_if_le (tgt := 29) hx hb dX12_reaches_24 (by decide) (fun _ => ?_) (fun c4 => absurd (by decide) c4)
    refine lv_aload_n hx hb dX12_reaches_29 rfl (lv_at hl 0 rfl) ?_
    refine mcallV' (g := g) (q0 := 0) (ci := 10) (As := []) (rest := []) St hK hT hA hP hD hS hl.1 [0] [] rfl rfl rfl (m_putsAside l g o a 0 hi ac tp ba en tA fl de iD iO tU fm fk fa fc ft ff fb fi rfm rfa) (cwV 0 hts (zgL (zl4 k975 k976 k977 k839) k972) rfl rfl rfl (by decide +kernel) ⟨Nat.le_of_ble_eq_true rfl, Nat.le_of_ble_eq_true rfl⟩) rfl rfl rfl rfl (Nat.le_of_ble_eq_true rfl) dX12_reaches_30 ⟨(Nat.le_of_ble_eq_true rfl), (Nat.le_of_ble_eq_true rfl)⟩ (fun fa2_5 H locs hq6 hP hD hS => ?_)
    replace hq6 : (rM fa2_5) ∧ (zCy fa fa2_5 0 fm 0 379) ∧ ((fa2_5 0).toInt = (fm 0).toInt ∧ (fa2_5 3).toInt = (fm 3).toInt ∧ (fa2_5 4).toInt = (fm 4).toInt) := hq6
    have hP : va_P g.1 vwCl (List.flatten [bMo g o a 0 hi ac tp ba en tA fl de iD iO tU fm fk fa2_5 fc ft ff fb fi]) H := hP
    have hD : va_D A (List.flatten [bMo g o a 0 hi ac tp ba en tA fl de iD iO tU fm fk fa2_5 fc ft ff fb fi]) := hD
    refine W.widen (k := 0) (n := 0) (Nat.le_of_ble_eq_true rfl) (Nat.le_of_ble_eq_true rfl) ?_
    refine W.eq (g2 := F0 m 33 ls []) rfl ?_
    obtain ⟨rfa2_5, hq6_1, hq6_2⟩ := hq6
    refine lv_iconst (v := (-1)) hx hb dX12_reaches_33 (by decide) ?_
    refine lv_istore_n (lv' := [(2, .int (-1)), (0, .ref o), (1, .int x)]) hx hb dX12_reaches_34 rfl hl (by decide) rfl (fun ls hl => ?_)
    refine lv_iconst (v := 0) hx hb dX12_reaches_35 (by decide) ?_
    refine lv_istore_n (lv' := [(3, .int 0), (2, .int (-1)), (0, .ref o), (1, .int x)]) hx hb dX12_reaches_36 rfl hl (by decide) rfl (fun ls hl => ?_)
    have hl := lv_sub (l' := [(0, .ref o), (1, .int x), (2, .int (-1)), (3, .int 0)]) hl [2, 3, 1, 0] rfl
    have LP37_24 : ∀ (kf : Nat) (x_7 : Int32) (x_8 : Int32) (x_9 : Int32) (x_10 : Int32) (x_11 : Int32) (x_12 : Int32) (x_13 : Int32) (x_14 : Int32) (x_15 : Int32) (fm_16 : Nat → Int32) (ff_17 : Nat → Int32) (fb_18 : Nat → Int32), ((-1) ≤ x_7.toInt ∧ x_7.toInt ≤ 100) → (0 ≤ x_8.toInt ∧ x_8.toInt ≤ 101) → (0 ≤ x_13.toInt ∧ x_13.toInt ≤ 1) → (0 ≤ x_14.toInt ∧ x_14.toInt ≤ 1) → (rM fm_16) → ((fm_16 0).toInt = (fm 0).toInt ∧ (fm_16 3).toInt = (fm 3).toInt ∧ (fm_16 4).toInt = (fm 4).toInt) → ∀ (H : Heap) (locs : List Loc) (ls : Array Slot), ((102 - x_8.toInt).toNat) < kf → va_P g.1 vwCl (List.flatten [bMo g o a 0 hi ac tp x_9 x_10 x_11 fl x_12 x_13 x_14 x_15 fm_16 fk fa2_5 fc ft ff_17 fb_18 fi]) H → va_D A (List.flatten [bMo g o a 0 hi ac tp x_9 x_10 x_11 fl x_12 x_13 x_14 x_15 fm_16 fk fa2_5 fc ft ff_17 fb_18 fi]) → va_S A s.heap H locs → lv_has ls 5 [(0, .ref o), (1, .int x), (2, .int x_7), (3, .int x_8)] → W p l e ({ frames := 33, cells := 0, slots := 0, locals := 736 } : Room) s m args below meth c H locs (0) (0) (zF g (fun u : Int32 × Int32 × Int32 × Int32 × Int32 × Int32 × Int32 × Int32 × (Nat → Int32) × (Nat → Int32) × (Nat → Int32) × (Nat → Int32) × Int32 => (fun (th2 : Int32) (ba2 : Int32) (en2 : Int32) (at2 : Int32) (de2 : Int32) (iD2 : Int32) (iO2 : Int32) (tU2 : Int32) (ff2 : Nat → Int32) (fm2 : Nat → Int32) (fb2 : Nat → Int32) (fa2 : Nat → Int32) (q : Int32) => some (.int q)) (u.1) (u.2.1) (u.2.2.1) (u.2.2.2.1) (u.2.2.2.2.1) (u.2.2.2.2.2.1) (u.2.2.2.2.2.2.1) (u.2.2.2.2.2.2.2.1) (u.2.2.2.2.2.2.2.2.1) (u.2.2.2.2.2.2.2.2.2.1) (u.2.2.2.2.2.2.2.2.2.2.1) (u.2.2.2.2.2.2.2.2.2.2.2.1) (u.2.2.2.2.2.2.2.2.2.2.2.2)) (fun u : Int32 × Int32 × Int32 × Int32 × Int32 × Int32 × Int32 × Int32 × (Nat → Int32) × (Nat → Int32) × (Nat → Int32) × (Nat → Int32) × Int32 => (fun (th2 : Int32) (ba2 : Int32) (en2 : Int32) (at2 : Int32) (de2 : Int32) (iD2 : Int32) (iO2 : Int32) (tU2 : Int32) (ff2 : Nat → Int32) (fm2 : Nat → Int32) (fb2 : Nat → Int32) (fa2 : Nat → Int32) (q : Int32) => ((fm2 0).toInt = (fm 0).toInt ∧ (fm2 3).toInt = (fm 3).toInt ∧ (fm2 4).toInt = (fm 4).toInt) ∧ (rM fa2) ∧ (rM fm2) ∧ (0 ≤ iO2.toInt ∧ iO2.toInt ≤ 1) ∧ (0 ≤ iD2.toInt ∧ iD2.toInt ≤ 1)) (u.1) (u.2.1) (u.2.2.1) (u.2.2.2.1) (u.2.2.2.2.1) (u.2.2.2.2.2.1) (u.2.2.2.2.2.2.1) (u.2.2.2.2.2.2.2.1) (u.2.2.2.2.2.2.2.2.1) (u.2.2.2.2.2.2.2.2.2.1) (u.2.2.2.2.2.2.2.2.2.2.1) (u.2.2.2.2.2.2.2.2.2.2.2.1) (u.2.2.2.2.2.2.2.2.2.2.2.2)) (fun u : Int32 × Int32 × Int32 × Int32 × Int32 × Int32 × Int32 × Int32 × (Nat → Int32) × (Nat → Int32) × (Nat → Int32) × (Nat → Int32) × Int32 => (fun (th2 : Int32) (ba2 : Int32) (en2 : Int32) (at2 : Int32) (de2 : Int32) (iD2 : Int32) (iO2 : Int32) (tU2 : Int32) (ff2 : Nat → Int32) (fm2 : Nat → Int32) (fb2 : Nat → Int32) (fa2 : Nat → Int32) (q : Int32) => [bMo g o a th2 hi ac tp ba2 en2 at2 fl de2 iD2 iO2 tU2 fm2 fk fa2 fc ft ff2 fb2 fi]) (u.1) (u.2.1) (u.2.2.1) (u.2.2.2.1) (u.2.2.2.2.1) (u.2.2.2.2.2.1) (u.2.2.2.2.2.2.1) (u.2.2.2.2.2.2.2.1) (u.2.2.2.2.2.2.2.2.1) (u.2.2.2.2.2.2.2.2.2.1) (u.2.2.2.2.2.2.2.2.2.2.1) (u.2.2.2.2.2.2.2.2.2.2.2.1) (u.2.2.2.2.2.2.2.2.2.2.2.2)) ({ frames := 33, cells := 0, slots := 0, locals := 736 } : Room) below args s A) (F0 m 37 ls []) := by
      intro kf
      induction kf with
      | zero => intro x_7 x_8 x_9 x_10 x_11 x_12 x_13 x_14 x_15 fm_16 ff_17 fb_18 i19 i20 i21 i22 rfm_16 i23 H locs ls hk; exact absurd hk (Nat.not_lt_zero _)
      | succ kf ih37_25 =>
        intro x_7 x_8 x_9 x_10 x_11 x_12 x_13 x_14 x_15 fm_16 ff_17 fb_18 i19 i20 i21 i22 rfm_16 i23 H locs ls hk37_25 hP hD hS hl
        refine lv_iload_n hx hb dX12_reaches_37 rfl (lv_at hl 3 rfl) ?_
        refine lv_bipush (v := 100) hx hb dX12_reaches_38 (by decide) ?_
        refine lv_icmp_gt (tgt := 72) hx hb dX12_reaches_40 (by decide) (fun cb9 => ?_) (fun cb9 => ?_)
        · skip
          have c26 : 100 < x_8.toInt := zlti cb9 (by decide) rfl
          have n27 : 101 ≤ x_8.toInt := zL2 (a := 100) c26 (Int.le_refl _) (by decide)
          refine lv_aload_n hx hb dX12_reaches_72 rfl (lv_at hl 0 rfl) ?_
          refine mcallV' (g := g) (q0 := 0) (ci := 10) (As := []) (rest := []) St hK hT hA hP hD hS hl.1 [0] [] rfl rfl rfl (m_comesBack l g o a 0 hi ac tp x_9 x_10 x_11 fl x_12 x_13 x_14 x_15 fm_16 fk fa2_5 fc ft ff_17 fb_18 fi rfm_16 rfa2_5) (cwV 0 hts (zgL (zl4 k984 k985 k986 k839) k973) rfl rfl rfl (by decide +kernel) ⟨Nat.le_of_ble_eq_true rfl, Nat.le_of_ble_eq_true rfl⟩) rfl rfl rfl rfl (Nat.le_of_ble_eq_true rfl) dX12_reaches_73 ⟨(Nat.le_of_ble_eq_true rfl), (Nat.le_of_ble_eq_true rfl)⟩ (fun fm2_28 H locs hq29 hP hD hS => ?_)
          replace hq29 : (rM fm2_28) ∧ (zCy fm_16 fm2_28 0 fa2_5 0 379) ∧ ((fm2_28 0).toInt = (fa2_5 0).toInt ∧ (fm2_28 3).toInt = (fa2_5 3).toInt ∧ (fm2_28 4).toInt = (fa2_5 4).toInt) := hq29
          have hP : va_P g.1 vwCl (List.flatten [bMo g o a 0 hi ac tp x_9 x_10 x_11 fl x_12 x_13 x_14 x_15 fm2_28 fk fa2_5 fc ft ff_17 fb_18 fi]) H := hP
          have hD : va_D A (List.flatten [bMo g o a 0 hi ac tp x_9 x_10 x_11 fl x_12 x_13 x_14 x_15 fm2_28 fk fa2_5 fc ft ff_17 fb_18 fi]) := hD
          refine W.widen (k := 0) (n := 0) (Nat.le_of_ble_eq_true rfl) (Nat.le_of_ble_eq_true rfl) ?_
          refine W.eq (g2 := F0 m 76 ls []) rfl ?_
          obtain ⟨rfm2_28, hq29_1, hq29_2⟩ := hq29
          refine lv_iload_n hx hb dX12_reaches_76 rfl (lv_at hl 2 rfl) ?_
          have hP : va_P g.1 vwCl (List.flatten [bMo g o a 0 hi ac tp x_9 x_10 x_11 fl x_12 x_13 x_14 x_15 fm2_28 fk fa2_5 fc ft ff_17 fb_18 fi]) H := hP
          have hD : va_D A (List.flatten [bMo g o a 0 hi ac tp x_9 x_10 x_11 fl x_12 x_13 x_14 x_15 fm2_28 fk fa2_5 fc ft ff_17 fb_18 fi]) := hD
          exact mret_i hx hb hr hlocks hS (Nat.le_of_ble_eq_true rfl) (Nat.le_of_ble_eq_true rfl) dX12_reaches_77 ((0 : Int32), x_9, x_10, x_11, x_12, x_13, x_14, x_15, ff_17, fm2_28, fb_18, fa2_5, x_7) rfl (show ((fm2_28 0).toInt = (fm 0).toInt ∧ (fm2_28 3).toInt = (fm 3).toInt ∧ (fm2_28 4).toInt = (fm 4).toInt) ∧ (rM fa2_5) ∧ (rM fm2_28) ∧ (0 ≤ x_14.toInt ∧ x_14.toInt ≤ 1) ∧ (0 ≤ x_13.toInt ∧ x_13.toInt ≤ 1) from ⟨(by first | assumption | omega | decide | exact rfl | exact zb01 (by omega) | exact Or.inl (by decide) | exact Or.inr (by first | omega | decide)), rfa2_5, rfm2_28, i22, i21⟩) hP hD
        · skip
          have c30 : x_8.toInt ≤ 100 := zle (Int32.not_lt.mp cb9) rfl (by decide)
          have n31 : x_8.toInt ≤ 100 := Int.le_trans c30 (Int.le_refl _)
          refine lv_iload_n hx hb dX12_reaches_43 rfl (lv_at hl 2 rfl) ?_
          refine lv_iconst (v := (-1)) hx hb dX12_reaches_44 (by decide) ?_
          refine lv_icmp_ne (tgt := 72) hx hb dX12_reaches_45 (by decide) (fun cb9 => ?_) (fun cb9 => ?_)
          · skip
            have c32 : ¬ x_7.toInt = (-1) := zne cb9 rfl (by decide)
            have n33 : 0 ≤ x_7.toInt := zN1 c32 i19.1 (by decide)
            refine lv_aload_n hx hb dX12_reaches_72 rfl (lv_at hl 0 rfl) ?_
            refine mcallV' (g := g) (q0 := 0) (ci := 10) (As := []) (rest := []) St hK hT hA hP hD hS hl.1 [0] [] rfl rfl rfl (m_comesBack l g o a 0 hi ac tp x_9 x_10 x_11 fl x_12 x_13 x_14 x_15 fm_16 fk fa2_5 fc ft ff_17 fb_18 fi rfm_16 rfa2_5) (cwV 0 hts (zgL (zl4 k984 k985 k986 k839) k973) rfl rfl rfl (by decide +kernel) ⟨Nat.le_of_ble_eq_true rfl, Nat.le_of_ble_eq_true rfl⟩) rfl rfl rfl rfl (Nat.le_of_ble_eq_true rfl) dX12_reaches_73 ⟨(Nat.le_of_ble_eq_true rfl), (Nat.le_of_ble_eq_true rfl)⟩ (fun fm2_34 H locs hq35 hP hD hS => ?_)
            replace hq35 : (rM fm2_34) ∧ (zCy fm_16 fm2_34 0 fa2_5 0 379) ∧ ((fm2_34 0).toInt = (fa2_5 0).toInt ∧ (fm2_34 3).toInt = (fa2_5 3).toInt ∧ (fm2_34 4).toInt = (fa2_5 4).toInt) := hq35
            have hP : va_P g.1 vwCl (List.flatten [bMo g o a 0 hi ac tp x_9 x_10 x_11 fl x_12 x_13 x_14 x_15 fm2_34 fk fa2_5 fc ft ff_17 fb_18 fi]) H := hP
            have hD : va_D A (List.flatten [bMo g o a 0 hi ac tp x_9 x_10 x_11 fl x_12 x_13 x_14 x_15 fm2_34 fk fa2_5 fc ft ff_17 fb_18 fi]) := hD
            refine W.widen (k := 0) (n := 0) (Nat.le_of_ble_eq_true rfl) (Nat.le_of_ble_eq_true rfl) ?_
            refine W.eq (g2 := F0 m 76 ls []) rfl ?_
            obtain ⟨rfm2_34, hq35_1, hq35_2⟩ := hq35
            refine lv_iload_n hx hb dX12_reaches_76 rfl (lv_at hl 2 rfl) ?_
            have hP : va_P g.1 vwCl (List.flatten [bMo g o a 0 hi ac tp x_9 x_10 x_11 fl x_12 x_13 x_14 x_15 fm2_34 fk fa2_5 fc ft ff_17 fb_18 fi]) H := hP
            have hD : va_D A (List.flatten [bMo g o a 0 hi ac tp x_9 x_10 x_11 fl x_12 x_13 x_14 x_15 fm2_34 fk fa2_5 fc ft ff_17 fb_18 fi]) := hD
            exact mret_i hx hb hr hlocks hS (Nat.le_of_ble_eq_true rfl) (Nat.le_of_ble_eq_true rfl) dX12_reaches_77 ((0 : Int32), x_9, x_10, x_11, x_12, x_13, x_14, x_15, ff_17, fm2_34, fb_18, fa2_5, x_7) rfl (show ((fm2_34 0).toInt = (fm 0).toInt ∧ (fm2_34 3).toInt = (fm 3).toInt ∧ (fm2_34 4).toInt = (fm 4).toInt) ∧ (rM fa2_5) ∧ (rM fm2_34) ∧ (0 ≤ x_14.toInt ∧ x_14.toInt ≤ 1) ∧ (0 ≤ x_13.toInt ∧ x_13.toInt ≤ 1) from ⟨(by first | assumption | omega | decide | exact rfl | exact zb01 (by omega) | exact Or.inl (by decide) | exact Or.inr (by first | omega | decide)), rfa2_5, rfm2_34, i22, i21⟩) hP hD
          · skip
            have c36 : x_7.toInt = (-1) := zeq cb9 rfl (by decide)
            have n37 : x_7.toInt ≤ (-1) := Int.le_trans (Int.le_of_eq c36) (Int.le_refl _)
            refine lv_aload_n hx hb dX12_reaches_48 rfl (lv_at hl 0 rfl) ?_
            refine mcallV' (g := g) (q0 := 0) (ci := 10) (As := []) (rest := []) St hK hT hA hP hD hS hl.1 [0] [] rfl rfl rfl (m_believed l g o a 0 hi ac tp x_9 x_10 x_11 fl x_12 x_13 x_14 x_15 fm_16 fk fa2_5 fc ft ff_17 fb_18 fi rfm_16) (cwV 0 hts (zgL (zl4 k856 k857 k858 k839) k849) rfl rfl rfl (by decide +kernel) ⟨Nat.le_of_ble_eq_true rfl, Nat.le_of_ble_eq_true rfl⟩) rfl rfl rfl rfl (Nat.le_of_ble_eq_true rfl) dX12_reaches_49 ⟨(Nat.le_of_ble_eq_true rfl), (Nat.le_of_ble_eq_true rfl)⟩ (fun q_38 H locs hq39 hP hD hS => ?_)
            have hP : va_P g.1 vwCl (List.flatten [bMo g o a 0 hi ac tp x_9 x_10 x_11 fl x_12 x_13 x_14 x_15 fm_16 fk fa2_5 fc ft ff_17 fb_18 fi]) H := hP
            have hD : va_D A (List.flatten [bMo g o a 0 hi ac tp x_9 x_10 x_11 fl x_12 x_13 x_14 x_15 fm_16 fk fa2_5 fc ft ff_17 fb_18 fi]) := hD
            refine W.widen (k := 0) (n := 0) (Nat.le_of_ble_eq_true rfl) (Nat.le_of_ble_eq_true rfl) ?_
            refine W.eq (g2 := F0 m 52 ls [.int q_38]) rfl ?_
            refine lv_iload_n hx hb dX12_reaches_52 rfl (lv_at hl 1 rfl) ?_
            refine lv_icmp_lt (tgt := 58) hx hb dX12_reaches_53 (by decide) (fun cb9 => ?_) (fun cb9 => ?_)
            · skip
              have c40 : q_38.toInt < x.toInt := zlti cb9 rfl rfl
              refine lv_aload_n hx hb dX12_reaches_58 rfl (lv_at hl 0 rfl) ?_
              refine lv_iconst (v := 1) hx hb dX12_reaches_59 (by decide) ?_
              refine lv_iconst (v := 0) hx hb dX12_reaches_60 (by decide) ?_
              refine mcallV' (g := g) (q0 := 0) (ci := 10) (As := [.int 1, .int 0]) (rest := []) St hK hT hA hP hD hS hl.1 [0] [] rfl rfl rfl (m_goes l g o a 0 hi ac tp x_9 x_10 x_11 fl x_12 x_13 x_14 x_15 fm_16 fk fa2_5 fc ft ff_17 fb_18 fi 1 0 rfm_16 i21 i22 (by decide)) (cwV 2 hts (zgL (zl4 k1057 k1058 k1059 k839) k1028) rfl rfl rfl (by decide +kernel) ⟨Nat.le_of_ble_eq_true rfl, Nat.le_of_ble_eq_true rfl⟩) rfl rfl rfl rfl (Nat.le_of_ble_eq_true rfl) dX12_reaches_61 ⟨(Nat.le_of_ble_eq_true rfl), (Nat.le_of_ble_eq_true rfl)⟩ (fun u_ H locs hq52 hP hD hS => ?_)
              obtain ⟨ba2_41, en2_42, at2_43, de2_44, iD2_45, iO2_46, tU2_47, ff2_48, fm2_49, fb2_50, q_51⟩ := u_
              replace hq52 : ((fm2_49 0).toInt = (fm_16 0).toInt ∧ (fm2_49 3).toInt = (fm_16 3).toInt ∧ (fm2_49 4).toInt = (fm_16 4).toInt) ∧ (rM fm2_49) ∧ (0 ≤ iO2_46.toInt ∧ iO2_46.toInt ≤ 1) ∧ (0 ≤ iD2_45.toInt ∧ iD2_45.toInt ≤ 1) := hq52
              have hP : va_P g.1 vwCl (List.flatten [bMo g o a 0 hi ac tp ba2_41 en2_42 at2_43 fl de2_44 iD2_45 iO2_46 tU2_47 fm2_49 fk fa2_5 fc ft ff2_48 fb2_50 fi]) H := hP
              have hD : va_D A (List.flatten [bMo g o a 0 hi ac tp ba2_41 en2_42 at2_43 fl de2_44 iD2_45 iO2_46 tU2_47 fm2_49 fk fa2_5 fc ft ff2_48 fb2_50 fi]) := hD
              refine W.widen (k := 0) (n := 0) (Nat.le_of_ble_eq_true rfl) (Nat.le_of_ble_eq_true rfl) ?_
              refine W.eq (g2 := F0 m 64 ls [.int q_51]) rfl ?_
              obtain ⟨hq52_0, rfm2_49, hq52_2, hq52_3⟩ := hq52
              refine lv_istore (lv' := [(4, .int q_51), (0, .ref o), (1, .int x), (2, .int x_7), (3, .int x_8)]) hx hb dX12_reaches_64 hl (by decide) rfl (fun ls hl => ?_)
              refine ziinc3 (n' := 1) (a' := 1) (b' := 101) (lv' := fun v9 => [(3, .int v9), (4, .int q_51), (0, .ref o), (1, .int x), (2, .int x_7)]) hx hb dX12_reaches_66 hl (k := 4) rfl (by decide) (fun _ => rfl) (zaddK (i := x_8.toInt) (j := 1) rfl (by decide) i20.1 n31 (Int.le_refl _) (Int.le_refl _) (by decide)) (fun x_53 ls hx_53 hl => ?_)
              refine lv_goto (tgt := 37) hx hb dX12_reaches_69 (by decide) ?_
              have hl := lv_sub (l' := [(0, .ref o), (1, .int x), (2, .int x_7), (3, .int x_53), (4, .int q_51)]) hl [2, 3, 4, 0, 1] rfl
              have hP : va_P g.1 vwCl (List.flatten [bMo g o a 0 hi ac tp ba2_41 en2_42 at2_43 fl de2_44 iD2_45 iO2_46 tU2_47 fm2_49 fk fa2_5 fc ft ff2_48 fb2_50 fi]) H := hP
              have hD : va_D A (List.flatten [bMo g o a 0 hi ac tp ba2_41 en2_42 at2_43 fl de2_44 iD2_45 iO2_46 tU2_47 fm2_49 fk fa2_5 fc ft ff2_48 fb2_50 fi]) := hD
              exact ih37_25 x_7 x_53 ba2_41 en2_42 at2_43 de2_44 iD2_45 iO2_46 tU2_47 fm2_49 ff2_48 fb2_50 ⟨i19.1, (Int.le_trans n37 (by decide))⟩ ⟨(Int.le_trans (by decide) hx_53.2.1), hx_53.2.2⟩ ⟨hq52_3.1, hq52_3.2⟩ ⟨hq52_2.1, hq52_2.2⟩ rfm2_49 (by first | omega | assumption | decide) H _ ls (zmK hx_53.1 (by decide) n31 (by decide) hk37_25)  hP hD hS (lv_sub hl [0, 1, 2, 3] rfl)
            · skip
              have c54 : x.toInt ≤ q_38.toInt := zle (Int32.not_lt.mp cb9) rfl rfl
              refine lv_iload_n hx hb dX12_reaches_56 rfl (lv_at hl 3 rfl) ?_
              refine lv_istore_n (lv' := [(2, .int x_8), (0, .ref o), (1, .int x), (3, .int x_8)]) hx hb dX12_reaches_57 rfl hl (by decide) rfl (fun ls hl => ?_)
              refine lv_aload_n hx hb dX12_reaches_58 rfl (lv_at hl 1 rfl) ?_
              refine lv_iconst (v := 1) hx hb dX12_reaches_59 (by decide) ?_
              refine lv_iconst (v := 0) hx hb dX12_reaches_60 (by decide) ?_
              refine mcallV' (g := g) (q0 := 0) (ci := 10) (As := [.int 1, .int 0]) (rest := []) St hK hT hA hP hD hS hl.1 [0] [] rfl rfl rfl (m_goes l g o a 0 hi ac tp x_9 x_10 x_11 fl x_12 x_13 x_14 x_15 fm_16 fk fa2_5 fc ft ff_17 fb_18 fi 1 0 rfm_16 i21 i22 (by decide)) (cwV 2 hts (zgL (zl4 k1057 k1058 k1059 k839) k1028) rfl rfl rfl (by decide +kernel) ⟨Nat.le_of_ble_eq_true rfl, Nat.le_of_ble_eq_true rfl⟩) rfl rfl rfl rfl (Nat.le_of_ble_eq_true rfl) dX12_reaches_61 ⟨(Nat.le_of_ble_eq_true rfl), (Nat.le_of_ble_eq_true rfl)⟩ (fun u_ H locs hq66 hP hD hS => ?_)
              obtain ⟨ba2_55, en2_56, at2_57, de2_58, iD2_59, iO2_60, tU2_61, ff2_62, fm2_63, fb2_64, q_65⟩ := u_
              replace hq66 : ((fm2_63 0).toInt = (fm_16 0).toInt ∧ (fm2_63 3).toInt = (fm_16 3).toInt ∧ (fm2_63 4).toInt = (fm_16 4).toInt) ∧ (rM fm2_63) ∧ (0 ≤ iO2_60.toInt ∧ iO2_60.toInt ≤ 1) ∧ (0 ≤ iD2_59.toInt ∧ iD2_59.toInt ≤ 1) := hq66
              have hP : va_P g.1 vwCl (List.flatten [bMo g o a 0 hi ac tp ba2_55 en2_56 at2_57 fl de2_58 iD2_59 iO2_60 tU2_61 fm2_63 fk fa2_5 fc ft ff2_62 fb2_64 fi]) H := hP
              have hD : va_D A (List.flatten [bMo g o a 0 hi ac tp ba2_55 en2_56 at2_57 fl de2_58 iD2_59 iO2_60 tU2_61 fm2_63 fk fa2_5 fc ft ff2_62 fb2_64 fi]) := hD
              refine W.widen (k := 0) (n := 0) (Nat.le_of_ble_eq_true rfl) (Nat.le_of_ble_eq_true rfl) ?_
              refine W.eq (g2 := F0 m 64 ls [.int q_65]) rfl ?_
              obtain ⟨hq66_0, rfm2_63, hq66_2, hq66_3⟩ := hq66
              refine lv_istore (lv' := [(4, .int q_65), (2, .int x_8), (0, .ref o), (1, .int x), (3, .int x_8)]) hx hb dX12_reaches_64 hl (by decide) rfl (fun ls hl => ?_)
              refine ziinc3 (n' := 1) (a' := 1) (b' := 101) (lv' := fun v9 => [(3, .int v9), (4, .int q_65), (2, .int x_8), (0, .ref o), (1, .int x)]) hx hb dX12_reaches_66 hl (k := 4) rfl (by decide) (fun _ => rfl) (zaddK (i := x_8.toInt) (j := 1) rfl (by decide) i20.1 n31 (Int.le_refl _) (Int.le_refl _) (by decide)) (fun x_67 ls hx_67 hl => ?_)
              refine lv_goto (tgt := 37) hx hb dX12_reaches_69 (by decide) ?_
              have hl := lv_sub (l' := [(0, .ref o), (1, .int x), (2, .int x_8), (3, .int x_67), (4, .int q_65)]) hl [3, 4, 2, 0, 1] rfl
              have hP : va_P g.1 vwCl (List.flatten [bMo g o a 0 hi ac tp ba2_55 en2_56 at2_57 fl de2_58 iD2_59 iO2_60 tU2_61 fm2_63 fk fa2_5 fc ft ff2_62 fb2_64 fi]) H := hP
              have hD : va_D A (List.flatten [bMo g o a 0 hi ac tp ba2_55 en2_56 at2_57 fl de2_58 iD2_59 iO2_60 tU2_61 fm2_63 fk fa2_5 fc ft ff2_62 fb2_64 fi]) := hD
              exact ih37_25 x_8 x_67 ba2_55 en2_56 at2_57 de2_58 iD2_59 iO2_60 tU2_61 fm2_63 ff2_62 fb2_64 ⟨(Int.le_trans (by decide) i20.1), n31⟩ ⟨(Int.le_trans (by decide) hx_67.2.1), hx_67.2.2⟩ ⟨hq66_3.1, hq66_3.2⟩ ⟨hq66_2.1, hq66_2.2⟩ rfm2_63 (by first | omega | assumption | decide) H _ ls (zmK hx_67.1 (by decide) n31 (by decide) hk37_25)  hP hD hS (lv_sub hl [0, 1, 2, 3] rfl)
    have hLn1 : ((-1) : Int32).toInt = (-1) := by decide
    have hL0 : (0 : Int32).toInt = 0 := by decide
    have hP : va_P g.1 vwCl (List.flatten [bMo g o a 0 hi ac tp ba en tA fl de iD iO tU fm fk fa2_5 fc ft ff fb fi]) H := hP
    have hD : va_D A (List.flatten [bMo g o a 0 hi ac tp ba en tA fl de iD iO tU fm fk fa2_5 fc ft ff fb fi]) := hD
    exact LP37_24 _ (-1) 0 ba en tA de iD iO tU fm ff fb (by decide) (by decide) ⟨hiD.1, hiD.2⟩ ⟨hiO.1, hiO.2⟩ rfm (by first | omega | assumption | decide) H _ ls (Nat.lt_succ_self _)  hP hD hS (lv_sub hl [0, 1, 2, 3] rfl)
  · skip
    refine lv_if_ne (tgt := 16) hx hb dX12_reaches_9 (by decide) (fun c68 => absurd (by decide) c68) (fun _ => ?_)
    refine lv_iconst (v := 1) hx hb dX12_reaches_12 (by decide) ?_
    refine lv_goto (tgt := 17) hx hb dX12_reaches_13 (by decide) ?_
    refine va_put (D := g.1) (ci := 10) (v := .int 1) (ty := .int) (C := RX12) (T := TX12) (N := 20) hx hb hts izRX12 tyX12 tyX12_ok nmX12 hown hK hP hD hS 0 rfl rfl 0 (by decide) (hts _ k825) (fun _ h9 => h9) rfl (by decide +kernel) rfl rfl (Nat.le_of_ble_eq_true rfl) dX12_reaches_17 (fun H locs hP hD hS => ?_)
    have hP : va_P g.1 vwCl (List.flatten [bMo g o a 1 hi ac tp ba en tA fl de iD iO tU fm fk fa fc ft ff fb fi]) H := hP
    have hD : va_D A (List.flatten [bMo g o a 1 hi ac tp ba en tA fl de iD iO tU fm fk fa fc ft ff fb fi]) := hD
    refine lv_aload_n hx hb dX12_reaches_20 rfl (lv_at hl 0 rfl) ?_
    refine va_get (D := g.1) (ci := 10) (v := .int 1) (C := RX12) (T := TX12) (N := 20) hx hb hts izRX12 hown hK hP 0 rfl rfl 0 (by decide) (hts _ k825) (fun _ h9 => h9) rfl dX12_reaches_21 ?_
    refine lv_if_le (tgt := 29) hx hb dX12_reaches_24 (by decide) (fun c69 => absurd c69 (by decide)) (fun _ => ?_)
    refine lv_iconst (v := 0) hx hb dX12_reaches_27 (by decide) ?_
    have hP : va_P g.1 vwCl (List.flatten [bMo g o a 1 hi ac tp ba en tA fl de iD iO tU fm fk fa fc ft ff fb fi]) H := hP
    have hD : va_D A (List.flatten [bMo g o a 1 hi ac tp ba en tA fl de iD iO tU fm fk fa fc ft ff fb fi]) := hD
    exact mret_i hx hb hr hlocks hS (Nat.le_of_ble_eq_true rfl) (Nat.le_of_ble_eq_true rfl) dX12_reaches_28 ((1 : Int32), ba, en, tA, de, iD, iO, tU, ff, fm, fb, fa, (0 : Int32)) rfl (show ((fm 0).toInt = (fm 0).toInt ∧ (fm 3).toInt = (fm 3).toInt ∧ (fm 4).toInt = (fm 4).toInt) ∧ (rM fa) ∧ (rM fm) ∧ (0 ≤ iO.toInt ∧ iO.toInt ≤ 1) ∧ (0 ≤ iD.toInt ∧ iD.toInt ≤ 1) from ⟨(by first | assumption | omega | decide | exact rfl | exact zb01 (by omega) | exact Or.inl (by decide) | exact Or.inr (by first | omega | decide)), rfa, rfm, hiO, hiD⟩) hP hD
