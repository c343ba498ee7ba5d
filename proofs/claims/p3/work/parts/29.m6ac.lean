set_option maxRecDepth 100000 in
set_option maxHeartbeats 4000000 in
theorem m_river (l : Launch) (g : zG) (o : Nat) (a : Nat → Nat) (th : Int32) (hi : Int32) (ac : Int32) (tp : Int32) (ba : Int32) (en : Int32) (tA : Int32) (fl : Int32) (de : Int32) (iD : Int32) (iO : Int32) (tU : Int32) (fm : Nat → Int32) (fk : Nat → Int32) (fa : Nat → Int32) (fc : Nat → Int32) (ft : Nat → Int32) (ff : Nat → Int32) (fb : Nat → Int32) (fi : Nat → Int32) (n : Int32) (rfm : rM fm) (htp : 0 ≤ tp.toInt ∧ tp.toInt ≤ 400) : zM' g l yX12_river (Cond.code yX12_river cX12_river 7 (some .int) :: zB) ({ frames := 1, cells := 0, slots := 0, locals := 24 } : Room) [.ref o, .int n] [bMo g o a th hi ac tp ba en tA fl de iD iO tU fm fk fa fc ft ff fb fi] (fun u : Int32 × Int32 => (fun (th2 : Int32) (q : Int32) => some (.int q)) (u.1) (u.2)) (fun u : Int32 × Int32 => (fun (th2 : Int32) (q : Int32) => True) (u.1) (u.2)) (fun u : Int32 × Int32 => (fun (th2 : Int32) (q : Int32) => [bMo g o a th2 hi ac 0 ba en tA fl de iD iO tU fm fk fa fc ft ff fb fi]) (u.1) (u.2)) := by
  refine zM'.of (cc := cX12_river) (maxL := 7) (rt := (some .int)) (by decide) rfl (Nat.le_of_ble_eq_true rfl) ?_
  intro p e s m args below meth c A ls St hr hlocks hin hK hT hA hP hD hS hl
  obtain ⟨hx, hb, hml, hown, hts⟩ := id St
  have hl : lv_has ls 7 [(0, .ref o), (1, .int n)] := hl
  refine lv_aload_n hx hb dX12_river_0 rfl (lv_at hl 0 rfl) ?_
  refine mcallV' (g := g) (q0 := 0) (ci := 10) (As := []) (rest := []) St hK hT hA hP hD hS hl.1 [0] [] rfl rfl rfl (m_heard l g o a th hi ac tp ba en tA fl de iD iO tU fm fk fa fc ft ff fb fi htp) (cwV 0 hts (zgL (zl4 k1091 k1092 k1093 k837) k1086) rfl rfl rfl (by decide +kernel) ⟨Nat.le_of_ble_eq_true rfl, Nat.le_of_ble_eq_true rfl⟩) rfl rfl rfl rfl (Nat.le_of_ble_eq_true rfl) dX12_river_1 ⟨(Nat.le_of_ble_eq_true rfl), (Nat.le_of_ble_eq_true rfl)⟩ (fun q_1 H locs hq2 hP hD hS => ?_)
  replace hq2 : ((-12 ≤ q_1.toInt ∧ q_1.toInt ≤ 12) ∨ q_1.toInt = 100) := hq2
  have hP : va_P g.1 vwCl (List.flatten [bMo g o a th hi ac 0 ba en tA fl de iD iO tU fm fk fa fc ft ff fb fi]) H := hP
  have hD : va_D A (List.flatten [bMo g o a th hi ac 0 ba en tA fl de iD iO tU fm fk fa fc ft ff fb fi]) := hD
  refine W.widen (k := 0) (n := 0) (Nat.le_of_ble_eq_true rfl) (Nat.le_of_ble_eq_true rfl) ?_
  refine W.eq (g2 := F0 m 4 ls [.int q_1]) rfl ?_
  refine lv_istore_n (lv' := [(2, .int q_1), (0, .ref o), (1, .int n)]) hx hb dX12_river_4 rfl hl (by decide) rfl (fun ls hl => ?_)
  refine lv_aload_n hx hb dX12_river_5 rfl (lv_at hl 1 rfl) ?_
  refine lv_iload_n hx hb dX12_river_6 rfl (lv_at hl 0 rfl) ?_
  refine lv_bipush (v := 100) hx hb dX12_river_7 (by decide) ?_
  refine lv_icmp_eq (tgt := 22) hx hb dX12_river_9 (by decide) (fun cb9 => ?_) (fun cb9 => ?_)
  · skip
    have c3 : q_1.toInt = 100 := zeq cb9 rfl (by decide)
    have n4 : 100 ≤ q_1.toInt := Int.le_trans (Int.le_refl _) (Int.le_of_eq c3.symm)
    refine lv_iconst (v := 1) hx hb dX12_river_22 (by decide) ?_
    refine lv_goto (tgt := 27) hx hb dX12_river_23 (by decide) ?_
    refine va_put (D := g.1) (ci := 10) (v := .int 1) (ty := .int) (C := RX12) (T := TX12) (N := 20) hx hb hts izRX12 tyX12 tyX12_ok nmX12 hown hK hP hD hS 0 rfl rfl 0 (by decide) (hts _ k871) (fun _ h9 => h9) rfl (by decide +kernel) rfl rfl (Nat.le_of_ble_eq_true rfl) dX12_river_27 (fun H locs hP hD hS => ?_)
    have hP : va_P g.1 vwCl (List.flatten [bMo g o a 1 hi ac 0 ba en tA fl de iD iO tU fm fk fa fc ft ff fb fi]) H := hP
    have hD : va_D A (List.flatten [bMo g o a 1 hi ac 0 ba en tA fl de iD iO tU fm fk fa fc ft ff fb fi]) := hD
    refine lv_aload_n hx hb dX12_river_30 rfl (lv_at hl 1 rfl) ?_
    refine va_get (D := g.1) (ci := 10) (v := .int 1) (C := RX12) (T := TX12) (N := 20) hx hb hts izRX12 hown hK hP 0 rfl rfl 0 (by decide) (hts _ k871) (fun _ h9 => h9) rfl dX12_river_31 ?_
    refine lv_if_le (tgt := 39) hx hb dX12_river_34 (by decide) (fun c5 => absurd c5 (by decide)) (fun _ => ?_)
    refine lv_iconst (v := 0) hx hb dX12_river_37 (by decide) ?_
    have hP : va_P g.1 vwCl (List.flatten [bMo g o a 1 hi ac 0 ba en tA fl de iD iO tU fm fk fa fc ft ff fb fi]) H := hP
    have hD : va_D A (List.flatten [bMo g o a 1 hi ac 0 ba en tA fl de iD iO tU fm fk fa fc ft ff fb fi]) := hD
    exact mret_i hx hb hr hlocks hS (Nat.le_of_ble_eq_true rfl) (Nat.le_of_ble_eq_true rfl) dX12_river_38 ((1 : Int32), (0 : Int32)) rfl trivial hP hD
  · skip
    have c6 : ¬ q_1.toInt = 100 := zne cb9 rfl (by decide)
    refine lv_iload_n hx hb dX12_river_12 rfl (lv_at hl 2 rfl) ?_
    refine lv_iconst (v := 0) hx hb dX12_river_13 (by decide) ?_
    refine lv_bipush (v := 100) hx hb dX12_river_14 (by decide) ?_
    have hL0 : (0 : Int32).toInt = 0 := by decide
    have hL100 : (100 : Int32).toInt = 100 := by decide
    refine mcallS' (g := g) (As := [.int n, .int 0, .int 100]) (rest := [.ref o]) St hK hT hA hP hD hS hl.1 [] [0] rfl rfl rfl (m_isIn l g n 0 100 ) (va_cwS 3 hts (zgL (zl3 k835 k836 k837) k824) rfl rfl rfl (by decide +kernel) ⟨Nat.le_of_ble_eq_true rfl, Nat.le_of_ble_eq_true rfl⟩) rfl rfl (Nat.le_of_ble_eq_true rfl) dX12_river_16 ⟨(Nat.le_of_ble_eq_true rfl), (Nat.le_of_ble_eq_true rfl)⟩ (fun q_7 H locs hq8 hP hD hS => ?_)
    replace hq8 : (q_7 = 1 ∧ (0 : Int32).toInt ≤ n.toInt ∧ n.toInt ≤ (100 : Int32).toInt ∨ q_7 = 0 ∧ (n.toInt < (0 : Int32).toInt ∨ (100 : Int32).toInt < n.toInt)) := hq8
    have hP : va_P g.1 vwCl (List.flatten [bMo g o a th hi ac 0 ba en tA fl de iD iO tU fm fk fa fc ft ff fb fi]) H := hP
    have hD : va_D A (List.flatten [bMo g o a th hi ac 0 ba en tA fl de iD iO tU fm fk fa fc ft ff fb fi]) := hD
    refine W.widen (k := 0) (n := 0) (Nat.le_of_ble_eq_true rfl) (Nat.le_of_ble_eq_true rfl) ?_
    refine W.eq (g2 := F0 m 19 ls [.int q_7, .ref o]) rfl ?_
    rcases hq8 with ⟨rfl, hq8_k⟩ | ⟨rfl, hq8_k⟩
    · skip
      refine lv_if_ne (tgt := 26) hx hb dX12_river_19 (by decide) (fun _ => ?_) (fun c9 => absurd c9 (by decide))
      refine lv_iconst (v := 0) hx hb dX12_river_26 (by decide) ?_
      refine va_put (D := g.1) (ci := 10) (v := .int 0) (ty := .int) (C := RX12) (T := TX12) (N := 20) hx hb hts izRX12 tyX12 tyX12_ok nmX12 hown hK hP hD hS 0 rfl rfl 0 (by decide) (hts _ k871) (fun _ h9 => h9) rfl (by decide +kernel) rfl rfl (Nat.le_of_ble_eq_true rfl) dX12_river_27 (fun H locs hP hD hS => ?_)
      have hP : va_P g.1 vwCl (List.flatten [bMo g o a 0 hi ac 0 ba en tA fl de iD iO tU fm fk fa fc ft ff fb fi]) H := hP
      have hD : va_D A (List.flatten [bMo g o a 0 hi ac 0 ba en tA fl de iD iO tU fm fk fa fc ft ff fb fi]) := hD
      refine lv_aload_n hx hb dX12_river_30 rfl (lv_at hl 1 rfl) ?_
      refine va_get (D := g.1) (ci := 10) (v := .int 0) (C := RX12) (T := TX12) (N := 20) hx hb hts izRX12 hown hK hP 0 rfl rfl 0 (by decide) (hts _ k871) (fun _ h9 => h9) rfl dX12_river_31 ?_
      refine lv_if_le (tgt := 39) hx hb dX12_river_34 (by decide) (fun _ => ?_) (fun c10 => absurd (by decide) c10)
      have w11 : (-12) ≤ q_1.toInt ∧ q_1.toInt ≤ 12 := by omega
      have w12 : 0 ≤ n.toInt ∧ n.toInt ≤ 100 := by omega
      refine lv_iload_n hx hb dX12_river_39 rfl (lv_at hl 2 rfl) ?_
      refine lv_i2l (v := (n : Int32).toInt64) hx hb dX12_river_40 rfl ?_
      refine lv_iconst (v := 0) hx hb dX12_river_41 (by decide) ?_
      refine lv_iload_n hx hb dX12_river_42 rfl (lv_at hl 0 rfl) ?_
      refine mcallS' (g := g) (As := [.int 0, .int q_1]) (rest := [.long ((n : Int32).toInt64)]) St hK hT hA hP hD hS hl.1 [] [0] rfl rfl rfl (m_greater l g 0 q_1 ) (va_cwS 2 hts (zgL (zl3 k1002 k1003 k837) k826) rfl rfl rfl (by decide +kernel) ⟨Nat.le_of_ble_eq_true rfl, Nat.le_of_ble_eq_true rfl⟩) rfl rfl (Nat.le_of_ble_eq_true rfl) dX12_river_43 ⟨(Nat.le_of_ble_eq_true rfl), (Nat.le_of_ble_eq_true rfl)⟩ (fun q_13 H locs hq14 hP hD hS => ?_)
      replace hq14 : ((0 : Int32).toInt ≤ q_13.toInt ∧ q_1.toInt ≤ q_13.toInt ∧ (q_13.toInt = (0 : Int32).toInt ∨ q_13.toInt = q_1.toInt)) := hq14
      have hP : va_P g.1 vwCl (List.flatten [bMo g o a 0 hi ac 0 ba en tA fl de iD iO tU fm fk fa fc ft ff fb fi]) H := hP
      have hD : va_D A (List.flatten [bMo g o a 0 hi ac 0 ba en tA fl de iD iO tU fm fk fa fc ft ff fb fi]) := hD
      refine W.widen (k := 0) (n := 0) (Nat.le_of_ble_eq_true rfl) (Nat.le_of_ble_eq_true rfl) ?_
      refine W.eq (g2 := F0 m 46 ls [.int q_13, .long ((n : Int32).toInt64)]) rfl ?_
      refine mcallS' (g := g) (As := [.int q_13]) (rest := [.long ((n : Int32).toInt64)]) St hK hT hA hP hD hS hl.1 [] [0] rfl rfl rfl (m_nines l g q_13 q_13.toInt.toNat (by omega) (znat (by omega))) (va_cwS 1 hts (zgL (zl3 k1094 k1095 k837) k1087) rfl rfl rfl (by decide +kernel) ⟨Nat.le_of_ble_eq_true rfl, Nat.le_of_ble_eq_true rfl⟩) rfl rfl (Nat.le_of_ble_eq_true rfl) dX12_river_46 ⟨(Nat.le_of_ble_eq_true rfl), (Nat.le_of_ble_eq_true rfl)⟩ (fun _u H locs hq15 hP hD hS => ?_)
      have hP : va_P g.1 vwCl (List.flatten [bMo g o a 0 hi ac 0 ba en tA fl de iD iO tU fm fk fa fc ft ff fb fi]) H := hP
      have hD : va_D A (List.flatten [bMo g o a 0 hi ac 0 ba en tA fl de iD iO tU fm fk fa fc ft ff fb fi]) := hD
      refine W.widen (k := 0) (n := 0) (Nat.le_of_ble_eq_true rfl) (Nat.le_of_ble_eq_true rfl) ?_
      refine W.eq (g2 := F0 m 49 ls [.long (lN (9 ^ q_13.toInt.toNat)), .long ((n : Int32).toInt64)]) rfl ?_
      refine lv_lmul hx hb dX12_river_49 ?_
      refine lv_lstore_n (lv' := [(3, .long (((n : Int32).toInt64) * (lN (9 ^ q_13.toInt.toNat)))), (2, .int q_1), (0, .ref o), (1, .int n)]) hx hb dX12_river_50 rfl hl (by decide) rfl (fun ls hl => ?_)
      refine lv_bipush (v := 100) hx hb dX12_river_51 (by decide) ?_
      refine lv_iload_n hx hb dX12_river_53 rfl (lv_at hl 3 rfl) ?_
      refine lv_isub hx hb dX12_river_54 ?_
      refine zg3 (zsubK (i := 100) (j := n.toInt) (a' := 0) (b' := 100) (by decide) rfl (Int.le_refl _) (Int.le_refl _) w12.1 w12.2 (by decide)) (fun x_16 hx_16 => ?_)
      refine lv_i2l (v := (x_16 : Int32).toInt64) hx hb dX12_river_55 rfl ?_
      refine lv_iconst (v := 0) hx hb dX12_river_56 (by decide) ?_
      refine lv_iload_n hx hb dX12_river_57 rfl (lv_at hl 1 rfl) ?_
      refine lv_ineg hx hb dX12_river_58 ?_
      refine zgv (zneg (i := q_1.toInt) rfl (by omega)) (fun x_17 hx_17 => ?_)
      refine mcallS' (g := g) (As := [.int 0, .int x_17]) (rest := [.long ((x_16 : Int32).toInt64)]) St hK hT hA hP hD hS hl.1 [] [0] rfl rfl rfl (m_greater l g 0 x_17 ) (va_cwS 2 hts (zgL (zl3 k1002 k1003 k837) k826) rfl rfl rfl (by decide +kernel) ⟨Nat.le_of_ble_eq_true rfl, Nat.le_of_ble_eq_true rfl⟩) rfl rfl (Nat.le_of_ble_eq_true rfl) dX12_river_59 ⟨(Nat.le_of_ble_eq_true rfl), (Nat.le_of_ble_eq_true rfl)⟩ (fun q_18 H locs hq19 hP hD hS => ?_)
      replace hq19 : ((0 : Int32).toInt ≤ q_18.toInt ∧ x_17.toInt ≤ q_18.toInt ∧ (q_18.toInt = (0 : Int32).toInt ∨ q_18.toInt = x_17.toInt)) := hq19
      have hP : va_P g.1 vwCl (List.flatten [bMo g o a 0 hi ac 0 ba en tA fl de iD iO tU fm fk fa fc ft ff fb fi]) H := hP
      have hD : va_D A (List.flatten [bMo g o a 0 hi ac 0 ba en tA fl de iD iO tU fm fk fa fc ft ff fb fi]) := hD
      refine W.widen (k := 0) (n := 0) (Nat.le_of_ble_eq_true rfl) (Nat.le_of_ble_eq_true rfl) ?_
      refine W.eq (g2 := F0 m 62 ls [.int q_18, .long ((x_16 : Int32).toInt64)]) rfl ?_
      refine mcallS' (g := g) (As := [.int q_18]) (rest := [.long ((x_16 : Int32).toInt64)]) St hK hT hA hP hD hS hl.1 [] [0] rfl rfl rfl (m_nines l g q_18 q_18.toInt.toNat (by omega) (znat (by omega))) (va_cwS 1 hts (zgL (zl3 k1094 k1095 k837) k1087) rfl rfl rfl (by decide +kernel) ⟨Nat.le_of_ble_eq_true rfl, Nat.le_of_ble_eq_true rfl⟩) rfl rfl (Nat.le_of_ble_eq_true rfl) dX12_river_62 ⟨(Nat.le_of_ble_eq_true rfl), (Nat.le_of_ble_eq_true rfl)⟩ (fun _u H locs hq20 hP hD hS => ?_)
      have hP : va_P g.1 vwCl (List.flatten [bMo g o a 0 hi ac 0 ba en tA fl de iD iO tU fm fk fa fc ft ff fb fi]) H := hP
      have hD : va_D A (List.flatten [bMo g o a 0 hi ac 0 ba en tA fl de iD iO tU fm fk fa fc ft ff fb fi]) := hD
      refine W.widen (k := 0) (n := 0) (Nat.le_of_ble_eq_true rfl) (Nat.le_of_ble_eq_true rfl) ?_
      refine W.eq (g2 := F0 m 65 ls [.long (lN (9 ^ q_18.toInt.toNat)), .long ((x_16 : Int32).toInt64)]) rfl ?_
      refine lv_lmul hx hb dX12_river_65 ?_
      refine lv_lstore (lv' := [(5, .long (((x_16 : Int32).toInt64) * (lN (9 ^ q_18.toInt.toNat)))), (3, .long (((n : Int32).toInt64) * (lN (9 ^ q_13.toInt.toNat)))), (2, .int q_1), (0, .ref o), (1, .int n)]) hx hb dX12_river_66 hl (by decide) rfl (fun ls hl => ?_)
      refine lv_ldc2 (v := 10000) hx hb hown (hts _ k1090) dX12_river_68 ?_
      refine lv_lload_n hx hb dX12_river_71 rfl (lv_at hl 1 rfl) ?_
      refine lv_lmul hx hb dX12_river_72 (zgl (fun y21 => ?_))
      refine lv_lload_n hx hb dX12_river_73 rfl (lv_at hl 1 rfl) ?_
      refine lv_lload hx hb dX12_river_74 (lv_at hl 0 rfl) ?_
      refine lv_ladd hx hb dX12_river_76 ?_
      refine lv_ldiv hx hb dX12_river_77 (zrivN (by omega) (by omega) (by omega) (by omega)) (zgl (fun y22 => ?_))
      refine lv_l2i hx hb dX12_river_78 rfl ?_
      refine zg (fun x_23 => ?_)
      have hP : va_P g.1 vwCl (List.flatten [bMo g o a 0 hi ac 0 ba en tA fl de iD iO tU fm fk fa fc ft ff fb fi]) H := hP
      have hD : va_D A (List.flatten [bMo g o a 0 hi ac 0 ba en tA fl de iD iO tU fm fk fa fc ft ff fb fi]) := hD
      exact mret_i hx hb hr hlocks hS (Nat.le_of_ble_eq_true rfl) (Nat.le_of_ble_eq_true rfl) dX12_river_79 ((0 : Int32), x_23) rfl trivial hP hD
    · skip
      refine lv_if_ne (tgt := 26) hx hb dX12_river_19 (by decide) (fun c24 => absurd (by decide) c24) (fun _ => ?_)
      refine lv_iconst (v := 1) hx hb dX12_river_22 (by decide) ?_
      refine lv_goto (tgt := 27) hx hb dX12_river_23 (by decide) ?_
      refine va_put (D := g.1) (ci := 10) (v := .int 1) (ty := .int) (C := RX12) (T := TX12) (N := 20) hx hb hts izRX12 tyX12 tyX12_ok nmX12 hown hK hP hD hS 0 rfl rfl 0 (by decide) (hts _ k871) (fun _ h9 => h9) rfl (by decide +kernel) rfl rfl (Nat.le_of_ble_eq_true rfl) dX12_river_27 (fun H locs hP hD hS => ?_)
      have hP : va_P g.1 vwCl (List.flatten [bMo g o a 1 hi ac 0 ba en tA fl de iD iO tU fm fk fa fc ft ff fb fi]) H := hP
      have hD : va_D A (List.flatten [bMo g o a 1 hi ac 0 ba en tA fl de iD iO tU fm fk fa fc ft ff fb fi]) := hD
      refine lv_aload_n hx hb dX12_river_30 rfl (lv_at hl 1 rfl) ?_
      refine va_get (D := g.1) (ci := 10) (v := .int 1) (C := RX12) (T := TX12) (N := 20) hx hb hts izRX12 hown hK hP 0 rfl rfl 0 (by decide) (hts _ k871) (fun _ h9 => h9) rfl dX12_river_31 ?_
      refine lv_if_le (tgt := 39) hx hb dX12_river_34 (by decide) (fun c25 => absurd c25 (by decide)) (fun _ => ?_)
      refine lv_iconst (v := 0) hx hb dX12_river_37 (by decide) ?_
      have hP : va_P g.1 vwCl (List.flatten [bMo g o a 1 hi ac 0 ba en tA fl de iD iO tU fm fk fa fc ft ff fb fi]) H := hP
      have hD : va_D A (List.flatten [bMo g o a 1 hi ac 0 ba en tA fl de iD iO tU fm fk fa fc ft ff fb fi]) := hD
      exact mret_i hx hb hr hlocks hS (Nat.le_of_ble_eq_true rfl) (Nat.le_of_ble_eq_true rfl) dX12_river_38 ((1 : Int32), (0 : Int32)) rfl trivial hP hD
