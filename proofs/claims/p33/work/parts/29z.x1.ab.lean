set_option maxRecDepth 100000 in
set_option maxHeartbeats 4000000 in
theorem m_moreF (l : Launch) (g : zG) (o : Nat) (a : Nat → Nat) (th : Int32) (hi : Int32) (ac : Int32) (tp : Int32) (ba : Int32) (en : Int32) (tA : Int32) (fl : Int32) (de : Int32) (iD : Int32) (iO : Int32) (tU : Int32) (fm : Nat → Int32) (fk : Nat → Int32) (fa : Nat → Int32) (fc : Nat → Int32) (ft : Nat → Int32) (ff : Nat → Int32) (fb : Nat → Int32) (fi : Nat → Int32) (n : Int32) (rfm : rM fm) (htp : 0 ≤ tp.toInt ∧ tp.toInt ≤ 400) : zM' g l yX12_more (Cond.code yX12_more cX12_more 8 (some .int) :: zB) ({ frames := 1, cells := 0, slots := 0, locals := 24 } : Room) [.ref o, .int n] [bMo g o a th hi ac tp ba en tA fl de iD iO tU fm fk fa fc ft ff fb fi] (fun u : Int32 × Int32 => (fun (th2 : Int32) (q : Int32) => some (.int q)) (u.1) (u.2)) (fun u : Int32 × Int32 => (fun (th2 : Int32) (q : Int32) => (th2 = 0 ∧ ((0 ≤ n.toInt ∧ n.toInt ≤ 100) ∧ tp.toInt ≤ 12 ∧ zAl ft tp.toInt) ∧ zmor n (zLd ft tp.toInt.toNat) q.toInt ∨ th2 = 1 ∧ ¬ ((0 ≤ n.toInt ∧ n.toInt ≤ 100) ∧ tp.toInt ≤ 12 ∧ zAl ft tp.toInt))) (u.1) (u.2)) (fun u : Int32 × Int32 => (fun (th2 : Int32) (q : Int32) => [bMo g o a th2 hi ac 0 ba en tA fl de iD iO tU fm fk fa fc ft ff fb fi]) (u.1) (u.2)) := by
  refine zM'.of (cc := cX12_more) (maxL := 8) (rt := (some .int)) (by decide) rfl (Nat.le_of_ble_eq_true rfl) ?_
  intro p e s m args below meth c A ls St hr hlocks hin hK hT hA hP hD hS hl
  obtain ⟨hx, hb, hml, hown, hts⟩ := id St
  have hl : lv_has ls 8 [(0, .ref o), (1, .int n)] := hl
  refine lv_aload_n hx hb dX12_more_0 rfl (lv_at hl 0 rfl) ?_
  refine mcallV' (g := g) (q0 := 0) (ci := 10) (As := []) (rest := []) St hK hT hA hP hD hS hl.1 [0] [] rfl rfl rfl (m_heardF l g o a th hi ac tp ba en tA fl de iD iO tU fm fk fa fc ft ff fb fi htp) (cwV 0 hts (zgL (zl4 k1092 k1093 k1094 k839) k1087) rfl rfl rfl (by decide +kernel) ⟨Nat.le_of_ble_eq_true rfl, Nat.le_of_ble_eq_true rfl⟩) rfl rfl rfl rfl (Nat.le_of_ble_eq_true rfl) dX12_more_1 ⟨(Nat.le_of_ble_eq_true rfl), (Nat.le_of_ble_eq_true rfl)⟩ (fun q_1 H locs hq2 hP hD hS => ?_)
  replace hq2 : ((-12 ≤ q_1.toInt ∧ q_1.toInt ≤ 12) ∨ q_1.toInt = 100) ∧ (zHf ft tp.toInt q_1.toInt) := hq2
  have hP : va_P g.1 vwCl (List.flatten [bMo g o a th hi ac 0 ba en tA fl de iD iO tU fm fk fa fc ft ff fb fi]) H := hP
  have hD : va_D A (List.flatten [bMo g o a th hi ac 0 ba en tA fl de iD iO tU fm fk fa fc ft ff fb fi]) := hD
  refine W.widen (k := 0) (n := 0) (Nat.le_of_ble_eq_true rfl) (Nat.le_of_ble_eq_true rfl) ?_
  refine W.eq (g2 := F0 m 4 ls [.int q_1]) rfl ?_
  obtain ⟨hq2_0, hq2_1⟩ := hq2
  refine lv_istore_n (lv' := [(2, .int q_1), (0, .ref o), (1, .int n)]) hx hb dX12_more_4 rfl hl (by decide) rfl (fun ls hl => ?_)
  refine lv_aload_n hx hb dX12_more_5 rfl (lv_at hl 1 rfl) ?_
  refine lv_iload_n hx hb dX12_more_6 rfl (lv_at hl 0 rfl) ?_
  refine lv_bipush (v := 100) hx hb dX12_more_7 (by decide) ?_
  refine lv_icmp_eq (tgt := 22) hx hb dX12_more_9 (by decide) (fun cb9 => ?_) (fun cb9 => ?_)
  · skip
    have c3 : q_1.toInt = 100 := zeq cb9 rfl (by decide)
    have n4 : 100 ≤ q_1.toInt := Int.le_trans (Int.le_refl _) (Int.le_of_eq c3.symm)
    refine lv_iconst (v := 1) hx hb dX12_more_22 (by decide) ?_
    refine lv_goto (tgt := 27) hx hb dX12_more_23 (by decide) ?_
    refine va_put (D := g.1) (ci := 10) (v := .int 1) (ty := .int) (C := RX12) (T := TX12) (N := 20) hx hb hts izRX12 tyX12 tyX12_ok nmX12 hown hK hP hD hS 0 rfl rfl 0 (by decide) (hts _ k825) (fun _ h9 => h9) rfl (by decide +kernel) rfl rfl (Nat.le_of_ble_eq_true rfl) dX12_more_27 (fun H locs hP hD hS => ?_)
    have hP : va_P g.1 vwCl (List.flatten [bMo g o a 1 hi ac 0 ba en tA fl de iD iO tU fm fk fa fc ft ff fb fi]) H := hP
    have hD : va_D A (List.flatten [bMo g o a 1 hi ac 0 ba en tA fl de iD iO tU fm fk fa fc ft ff fb fi]) := hD
    refine lv_aload_n hx hb dX12_more_30 rfl (lv_at hl 1 rfl) ?_
    refine va_get (D := g.1) (ci := 10) (v := .int 1) (C := RX12) (T := TX12) (N := 20) hx hb hts izRX12 hown hK hP 0 rfl rfl 0 (by decide) (hts _ k825) (fun _ h9 => h9) rfl dX12_more_31 ?_
    refine lv_if_le (tgt := 39) hx hb dX12_more_34 (by decide) (fun c5 => absurd c5 (by decide)) (fun _ => ?_)
    refine lv_iconst (v := 0) hx hb dX12_more_37 (by decide) ?_
    have hL0 : (0 : Int32).toInt = 0 := by decide
    have hP : va_P g.1 vwCl (List.flatten [bMo g o a 1 hi ac 0 ba en tA fl de iD iO tU fm fk fa fc ft ff fb fi]) H := hP
    have hD : va_D A (List.flatten [bMo g o a 1 hi ac 0 ba en tA fl de iD iO tU fm fk fa fc ft ff fb fi]) := hD
    exact mret_i hx hb hr hlocks hS (Nat.le_of_ble_eq_true rfl) (Nat.le_of_ble_eq_true rfl) dX12_more_38 ((1 : Int32), (0 : Int32)) rfl (show (1 = 0 ∧ ((0 ≤ n.toInt ∧ n.toInt ≤ 100) ∧ tp.toInt ≤ 12 ∧ zAl ft tp.toInt) ∧ zmor n (zLd ft tp.toInt.toNat) (0 : Int32).toInt ∨ 1 = 1 ∧ ¬ ((0 ≤ n.toInt ∧ n.toInt ≤ 100) ∧ tp.toInt ≤ 12 ∧ zAl ft tp.toInt)) from Or.inr ⟨rfl, fun h9 => zHf_n hq2_1 (by omega) h9.2⟩) hP hD
  · skip
    have c6 : ¬ q_1.toInt = 100 := zne cb9 rfl (by decide)
    refine lv_iload_n hx hb dX12_more_12 rfl (lv_at hl 2 rfl) ?_
    refine lv_iconst (v := 0) hx hb dX12_more_13 (by decide) ?_
    refine lv_bipush (v := 100) hx hb dX12_more_14 (by decide) ?_
    have hL0 : (0 : Int32).toInt = 0 := by decide
    have hL100 : (100 : Int32).toInt = 100 := by decide
    refine mcallS' (g := g) (As := [.int n, .int 0, .int 100]) (rest := [.ref o]) St hK hT hA hP hD hS hl.1 [] [0] rfl rfl rfl (m_isIn l g n 0 100 ) (va_cwS 3 hts (zgL (zl3 k837 k838 k839) k826) rfl rfl rfl (by decide +kernel) ⟨Nat.le_of_ble_eq_true rfl, Nat.le_of_ble_eq_true rfl⟩) rfl rfl (Nat.le_of_ble_eq_true rfl) dX12_more_16 ⟨(Nat.le_of_ble_eq_true rfl), (Nat.le_of_ble_eq_true rfl)⟩ (fun q_7 H locs hq8 hP hD hS => ?_)
    replace hq8 : (q_7 = 1 ∧ (0 : Int32).toInt ≤ n.toInt ∧ n.toInt ≤ (100 : Int32).toInt ∨ q_7 = 0 ∧ (n.toInt < (0 : Int32).toInt ∨ (100 : Int32).toInt < n.toInt)) := hq8
    have hP : va_P g.1 vwCl (List.flatten [bMo g o a th hi ac 0 ba en tA fl de iD iO tU fm fk fa fc ft ff fb fi]) H := hP
    have hD : va_D A (List.flatten [bMo g o a th hi ac 0 ba en tA fl de iD iO tU fm fk fa fc ft ff fb fi]) := hD
    refine W.widen (k := 0) (n := 0) (Nat.le_of_ble_eq_true rfl) (Nat.le_of_ble_eq_true rfl) ?_
    refine W.eq (g2 := F0 m 19 ls [.int q_7, .ref o]) rfl ?_
    rcases hq8 with ⟨rfl, hq8_k⟩ | ⟨rfl, hq8_k⟩
    · skip
      refine lv_if_ne (tgt := 26) hx hb dX12_more_19 (by decide) (fun _ => ?_) (fun c9 => absurd c9 (by decide))
      refine lv_iconst (v := 0) hx hb dX12_more_26 (by decide) ?_
      refine va_put (D := g.1) (ci := 10) (v := .int 0) (ty := .int) (C := RX12) (T := TX12) (N := 20) hx hb hts izRX12 tyX12 tyX12_ok nmX12 hown hK hP hD hS 0 rfl rfl 0 (by decide) (hts _ k825) (fun _ h9 => h9) rfl (by decide +kernel) rfl rfl (Nat.le_of_ble_eq_true rfl) dX12_more_27 (fun H locs hP hD hS => ?_)
      have hP : va_P g.1 vwCl (List.flatten [bMo g o a 0 hi ac 0 ba en tA fl de iD iO tU fm fk fa fc ft ff fb fi]) H := hP
      have hD : va_D A (List.flatten [bMo g o a 0 hi ac 0 ba en tA fl de iD iO tU fm fk fa fc ft ff fb fi]) := hD
      refine lv_aload_n hx hb dX12_more_30 rfl (lv_at hl 1 rfl) ?_
      refine va_get (D := g.1) (ci := 10) (v := .int 0) (C := RX12) (T := TX12) (N := 20) hx hb hts izRX12 hown hK hP 0 rfl rfl 0 (by decide) (hts _ k825) (fun _ h9 => h9) rfl dX12_more_31 ?_
      refine lv_if_le (tgt := 39) hx hb dX12_more_34 (by decide) (fun _ => ?_) (fun c10 => absurd (by decide) c10)
      have w11 : (-12) ≤ q_1.toInt ∧ q_1.toInt ≤ 12 := by omega
      have w12 : 0 ≤ n.toInt ∧ n.toInt ≤ 100 := by omega
      refine lv_iconst (v := 0) hx hb dX12_more_39 (by decide) ?_
      refine lv_istore_n (lv' := [(3, .int 0), (2, .int q_1), (0, .ref o), (1, .int n)]) hx hb dX12_more_40 rfl hl (by decide) rfl (fun ls hl => ?_)
      have hl := lv_sub (l' := [(0, .ref o), (1, .int n), (2, .int q_1), (3, .int 0)]) hl [2, 3, 1, 0] rfl
      have LP41_16 : ∀ (kf : Nat) (x_13 : Int32), (0 ≤ x_13.toInt ∧ x_13.toInt ≤ 21) → (zNo2 n q_1.toInt x_13.toInt) → ∀ (H : Heap) (locs : List Loc) (ls : Array Slot), ((22 - x_13.toInt).toNat) < kf → va_P g.1 vwCl (List.flatten [bMo g o a 0 hi ac 0 ba en tA fl de iD iO tU fm fk fa fc ft ff fb fi]) H → va_D A (List.flatten [bMo g o a 0 hi ac 0 ba en tA fl de iD iO tU fm fk fa fc ft ff fb fi]) → va_S A s.heap H locs → lv_has ls 8 [(0, .ref o), (1, .int n), (2, .int q_1), (3, .int x_13)] → W p l e ({ frames := 1, cells := 0, slots := 0, locals := 24 } : Room) s m args below meth c H locs (0) (0) (zF g (fun u : Int32 × Int32 => (fun (th2 : Int32) (q : Int32) => some (.int q)) (u.1) (u.2)) (fun u : Int32 × Int32 => (fun (th2 : Int32) (q : Int32) => (th2 = 0 ∧ ((0 ≤ n.toInt ∧ n.toInt ≤ 100) ∧ tp.toInt ≤ 12 ∧ zAl ft tp.toInt) ∧ zmor n (zLd ft tp.toInt.toNat) q.toInt ∨ th2 = 1 ∧ ¬ ((0 ≤ n.toInt ∧ n.toInt ≤ 100) ∧ tp.toInt ≤ 12 ∧ zAl ft tp.toInt))) (u.1) (u.2)) (fun u : Int32 × Int32 => (fun (th2 : Int32) (q : Int32) => [bMo g o a th2 hi ac 0 ba en tA fl de iD iO tU fm fk fa fc ft ff fb fi]) (u.1) (u.2)) ({ frames := 1, cells := 0, slots := 0, locals := 24 } : Room) below args s A) (F0 m 41 ls []) := by
        intro kf
        induction kf with
        | zero => intro x_13 i14 i15 H locs ls hk; exact absurd hk (Nat.not_lt_zero _)
        | succ kf ih41_17 =>
          intro x_13 i14 i15 H locs ls hk41_17 hP hD hS hl
          refine lv_iload_n hx hb dX12_more_41 rfl (lv_at hl 3 rfl) ?_
          refine lv_bipush (v := 20) hx hb dX12_more_42 (by decide) ?_
          refine lv_icmp_gt (tgt := 106) hx hb dX12_more_44 (by decide) (fun cb9 => ?_) (fun cb9 => ?_)
          · skip
            have c18 : 20 < x_13.toInt := zlti cb9 (by decide) rfl
            have n19 : 21 ≤ x_13.toInt := zL2 (a := 20) c18 (Int.le_refl _) (by decide)
            refine lv_iconst (v := (-1)) hx hb dX12_more_106 (by decide) ?_
            have hLn1 : ((-1) : Int32).toInt = (-1) := by decide
            have hP : va_P g.1 vwCl (List.flatten [bMo g o a 0 hi ac 0 ba en tA fl de iD iO tU fm fk fa fc ft ff fb fi]) H := hP
            have hD : va_D A (List.flatten [bMo g o a 0 hi ac 0 ba en tA fl de iD iO tU fm fk fa fc ft ff fb fi]) := hD
            exact mret_i hx hb hr hlocks hS (Nat.le_of_ble_eq_true rfl) (Nat.le_of_ble_eq_true rfl) dX12_more_107 ((0 : Int32), -1) rfl (show (0 = 0 ∧ ((0 ≤ n.toInt ∧ n.toInt ≤ 100) ∧ tp.toInt ≤ 12 ∧ zAl ft tp.toInt) ∧ zmor n (zLd ft tp.toInt.toNat) ((-1) : Int32).toInt ∨ 0 = 1 ∧ ¬ ((0 ≤ n.toInt ∧ n.toInt ≤ 100) ∧ tp.toInt ≤ 12 ∧ zAl ft tp.toInt)) from Or.inl ⟨rfl, ⟨⟨(by omega), (by omega)⟩, (zHf_y hq2_1 (by omega)).1⟩, (by rw [← (zHf_y hq2_1 (by omega)).2]; exact (Or.inr ⟨(by decide), fun j h1 => i15 j (by omega)⟩))⟩) hP hD
          · skip
            have c20 : x_13.toInt ≤ 20 := zle (Int32.not_lt.mp cb9) rfl (by decide)
            have n21 : x_13.toInt ≤ 20 := Int.le_trans c20 (Int.le_refl _)
            refine lv_iload_n hx hb dX12_more_47 rfl (lv_at hl 1 rfl) ?_
            refine lv_i2l (v := (n : Int32).toInt64) hx hb dX12_more_48 rfl ?_
            refine lv_bipush (v := 14) hx hb dX12_more_49 (by decide) ?_
            refine lv_iconst (v := 0) hx hb dX12_more_51 (by decide) ?_
            refine lv_iload_n hx hb dX12_more_52 rfl (lv_at hl 2 rfl) ?_
            refine lv_iload_n hx hb dX12_more_53 rfl (lv_at hl 3 rfl) ?_
            refine lv_iadd hx hb dX12_more_54 ?_
            refine zg3 (zaddK (i := q_1.toInt) (j := x_13.toInt) (a' := (-12)) (b' := 32) rfl rfl w11.1 w11.2 i14.1 n21 (by decide)) (fun x_22 hx_22 => ?_)
            refine mcallS' (g := g) (As := [.int 0, .int x_22]) (rest := [.int 14, .long ((n : Int32).toInt64)]) St hK hT hA hP hD hS hl.1 [] [0] rfl rfl rfl (m_greater l g 0 x_22 ) (va_cwS 2 hts (zgL (zl3 k1003 k1004 k839) k828) rfl rfl rfl (by decide +kernel) ⟨Nat.le_of_ble_eq_true rfl, Nat.le_of_ble_eq_true rfl⟩) rfl rfl (Nat.le_of_ble_eq_true rfl) dX12_more_55 ⟨(Nat.le_of_ble_eq_true rfl), (Nat.le_of_ble_eq_true rfl)⟩ (fun q_23 H locs hq24 hP hD hS => ?_)
            replace hq24 : ((0 : Int32).toInt ≤ q_23.toInt ∧ x_22.toInt ≤ q_23.toInt ∧ (q_23.toInt = (0 : Int32).toInt ∨ q_23.toInt = x_22.toInt)) := hq24
            have hP : va_P g.1 vwCl (List.flatten [bMo g o a 0 hi ac 0 ba en tA fl de iD iO tU fm fk fa fc ft ff fb fi]) H := hP
            have hD : va_D A (List.flatten [bMo g o a 0 hi ac 0 ba en tA fl de iD iO tU fm fk fa fc ft ff fb fi]) := hD
            refine W.widen (k := 0) (n := 0) (Nat.le_of_ble_eq_true rfl) (Nat.le_of_ble_eq_true rfl) ?_
            refine W.eq (g2 := F0 m 58 ls [.int q_23, .int 14, .long ((n : Int32).toInt64)]) rfl ?_
            have hL14 : (14 : Int32).toInt = 14 := by decide
            refine mcallS' (g := g) (As := [.int 14, .int q_23]) (rest := [.long ((n : Int32).toInt64)]) St hK hT hA hP hD hS hl.1 [] [0] rfl rfl rfl (m_lesser l g 14 q_23 ) (va_cwS 2 hts (zgL (zl3 k1000 k1001 k839) k827) rfl rfl rfl (by decide +kernel) ⟨Nat.le_of_ble_eq_true rfl, Nat.le_of_ble_eq_true rfl⟩) rfl rfl (Nat.le_of_ble_eq_true rfl) dX12_more_58 ⟨(Nat.le_of_ble_eq_true rfl), (Nat.le_of_ble_eq_true rfl)⟩ (fun q_25 H locs hq26 hP hD hS => ?_)
            replace hq26 : (q_25.toInt ≤ (14 : Int32).toInt ∧ q_25.toInt ≤ q_23.toInt ∧ (q_25.toInt = (14 : Int32).toInt ∨ q_25.toInt = q_23.toInt)) := hq26
            have hP : va_P g.1 vwCl (List.flatten [bMo g o a 0 hi ac 0 ba en tA fl de iD iO tU fm fk fa fc ft ff fb fi]) H := hP
            have hD : va_D A (List.flatten [bMo g o a 0 hi ac 0 ba en tA fl de iD iO tU fm fk fa fc ft ff fb fi]) := hD
            refine W.widen (k := 0) (n := 0) (Nat.le_of_ble_eq_true rfl) (Nat.le_of_ble_eq_true rfl) ?_
            refine W.eq (g2 := F0 m 61 ls [.int q_25, .long ((n : Int32).toInt64)]) rfl ?_
            refine mcallS' (g := g) (As := [.int q_25]) (rest := [.long ((n : Int32).toInt64)]) St hK hT hA hP hD hS hl.1 [] [0] rfl rfl rfl (m_nines l g q_25 q_25.toInt.toNat (by omega) (znat (by omega))) (va_cwS 1 hts (zgL (zl3 k1095 k1096 k839) k1088) rfl rfl rfl (by decide +kernel) ⟨Nat.le_of_ble_eq_true rfl, Nat.le_of_ble_eq_true rfl⟩) rfl rfl (Nat.le_of_ble_eq_true rfl) dX12_more_61 ⟨(Nat.le_of_ble_eq_true rfl), (Nat.le_of_ble_eq_true rfl)⟩ (fun _u H locs hq27 hP hD hS => ?_)
            have hP : va_P g.1 vwCl (List.flatten [bMo g o a 0 hi ac 0 ba en tA fl de iD iO tU fm fk fa fc ft ff fb fi]) H := hP
            have hD : va_D A (List.flatten [bMo g o a 0 hi ac 0 ba en tA fl de iD iO tU fm fk fa fc ft ff fb fi]) := hD
            refine W.widen (k := 0) (n := 0) (Nat.le_of_ble_eq_true rfl) (Nat.le_of_ble_eq_true rfl) ?_
            refine W.eq (g2 := F0 m 64 ls [.long (lN (9 ^ q_25.toInt.toNat)), .long ((n : Int32).toInt64)]) rfl ?_
            refine lv_lmul hx hb dX12_more_64 ?_
            refine lv_lstore (lv' := [(4, .long (((n : Int32).toInt64) * (lN (9 ^ q_25.toInt.toNat)))), (0, .ref o), (1, .int n), (2, .int q_1), (3, .int x_13)]) hx hb dX12_more_65 hl (by decide) rfl (fun ls hl => ?_)
            refine lv_bipush (v := 100) hx hb dX12_more_67 (by decide) ?_
            refine lv_iload_n hx hb dX12_more_69 rfl (lv_at hl 2 rfl) ?_
            refine lv_isub hx hb dX12_more_70 ?_
            refine lv_i2l (v := (100 - n : Int32).toInt64) hx hb dX12_more_71 rfl ?_
            refine lv_iconst (v := 0) hx hb dX12_more_72 (by decide) ?_
            refine lv_iload_n hx hb dX12_more_73 rfl (lv_at hl 3 rfl) ?_
            refine lv_ineg hx hb dX12_more_74 ?_
            refine zgv (zneg (i := q_1.toInt) rfl (by omega)) (fun x_28 hx_28 => ?_)
            refine lv_iload_n hx hb dX12_more_75 rfl (lv_at hl 4 rfl) ?_
            refine lv_isub hx hb dX12_more_76 ?_
            refine zgv (zsub (i := x_28.toInt) (j := x_13.toInt) rfl rfl (by omega)) (fun x_29 hx_29 => ?_)
            refine mcallS' (g := g) (As := [.int 0, .int x_29]) (rest := [.long ((100 - n : Int32).toInt64)]) St hK hT hA hP hD hS hl.1 [] [0] rfl rfl rfl (m_greater l g 0 x_29 ) (va_cwS 2 hts (zgL (zl3 k1003 k1004 k839) k828) rfl rfl rfl (by decide +kernel) ⟨Nat.le_of_ble_eq_true rfl, Nat.le_of_ble_eq_true rfl⟩) rfl rfl (Nat.le_of_ble_eq_true rfl) dX12_more_77 ⟨(Nat.le_of_ble_eq_true rfl), (Nat.le_of_ble_eq_true rfl)⟩ (fun q_30 H locs hq31 hP hD hS => ?_)
            replace hq31 : ((0 : Int32).toInt ≤ q_30.toInt ∧ x_29.toInt ≤ q_30.toInt ∧ (q_30.toInt = (0 : Int32).toInt ∨ q_30.toInt = x_29.toInt)) := hq31
            have hP : va_P g.1 vwCl (List.flatten [bMo g o a 0 hi ac 0 ba en tA fl de iD iO tU fm fk fa fc ft ff fb fi]) H := hP
            have hD : va_D A (List.flatten [bMo g o a 0 hi ac 0 ba en tA fl de iD iO tU fm fk fa fc ft ff fb fi]) := hD
            refine W.widen (k := 0) (n := 0) (Nat.le_of_ble_eq_true rfl) (Nat.le_of_ble_eq_true rfl) ?_
            refine W.eq (g2 := F0 m 80 ls [.int q_30, .long ((100 - n : Int32).toInt64)]) rfl ?_
            refine mcallS' (g := g) (As := [.int q_30]) (rest := [.long ((100 - n : Int32).toInt64)]) St hK hT hA hP hD hS hl.1 [] [0] rfl rfl rfl (m_nines l g q_30 q_30.toInt.toNat (by omega) (znat (by omega))) (va_cwS 1 hts (zgL (zl3 k1095 k1096 k839) k1088) rfl rfl rfl (by decide +kernel) ⟨Nat.le_of_ble_eq_true rfl, Nat.le_of_ble_eq_true rfl⟩) rfl rfl (Nat.le_of_ble_eq_true rfl) dX12_more_80 ⟨(Nat.le_of_ble_eq_true rfl), (Nat.le_of_ble_eq_true rfl)⟩ (fun _u H locs hq32 hP hD hS => ?_)
            have hP : va_P g.1 vwCl (List.flatten [bMo g o a 0 hi ac 0 ba en tA fl de iD iO tU fm fk fa fc ft ff fb fi]) H := hP
            have hD : va_D A (List.flatten [bMo g o a 0 hi ac 0 ba en tA fl de iD iO tU fm fk fa fc ft ff fb fi]) := hD
            refine W.widen (k := 0) (n := 0) (Nat.le_of_ble_eq_true rfl) (Nat.le_of_ble_eq_true rfl) ?_
            refine W.eq (g2 := F0 m 83 ls [.long (lN (9 ^ q_30.toInt.toNat)), .long ((100 - n : Int32).toInt64)]) rfl ?_
            refine lv_lmul hx hb dX12_more_83 ?_
            refine lv_lstore (lv' := [(6, .long (((100 - n : Int32).toInt64) * (lN (9 ^ q_30.toInt.toNat)))), (4, .long (((n : Int32).toInt64) * (lN (9 ^ q_25.toInt.toNat)))), (0, .ref o), (1, .int n), (2, .int q_1), (3, .int x_13)]) hx hb dX12_more_84 hl (by decide) rfl (fun ls hl => ?_)
            refine lv_lload hx hb dX12_more_86 (lv_at hl 1 rfl) ?_
            refine lv_ldc2 (v := 99) hx hb hown (hts _ k1098) dX12_more_88 ?_
            refine lv_lload hx hb dX12_more_91 (lv_at hl 0 rfl) ?_
            refine lv_lmul hx hb dX12_more_93 ?_
            refine W.lcmp hx hb dX12_more_94 ?_
            refine lv_if_lt (tgt := 100) hx hb dX12_more_95 (by decide) (fun cb9 => ?_) (fun cb9 => ?_)
            · skip
              have c33 := zlc_lt cb9
              refine ziinc3 (n' := 1) (a' := 1) (b' := 21) (lv' := fun v9 => [(3, .int v9), (6, .long (((100 - n : Int32).toInt64) * (lN (9 ^ q_30.toInt.toNat)))), (4, .long (((n : Int32).toInt64) * (lN (9 ^ q_25.toInt.toNat)))), (0, .ref o), (1, .int n), (2, .int q_1)]) hx hb dX12_more_100 hl (k := 5) rfl (by decide) (fun _ => rfl) (zaddK (i := x_13.toInt) (j := 1) rfl (by decide) i14.1 n21 (Int.le_refl _) (Int.le_refl _) (by decide)) (fun x_34 ls hx_34 hl => ?_)
              refine lv_goto (tgt := 41) hx hb dX12_more_103 (by decide) ?_
              have hl := lv_sub (l' := [(0, .ref o), (1, .int n), (2, .int q_1), (3, .int x_34), (4, .long (((n : Int32).toInt64) * (lN (9 ^ q_25.toInt.toNat)))), (6, .long (((100 - n : Int32).toInt64) * (lN (9 ^ q_30.toInt.toNat))))]) hl [3, 4, 5, 0, 2, 1] rfl
              have hP : va_P g.1 vwCl (List.flatten [bMo g o a 0 hi ac 0 ba en tA fl de iD iO tU fm fk fa fc ft ff fb fi]) H := hP
              have hD : va_D A (List.flatten [bMo g o a 0 hi ac 0 ba en tA fl de iD iO tU fm fk fa fc ft ff fb fi]) := hD
              exact ih41_17 x_34 ⟨(Int.le_trans (by decide) hx_34.2.1), hx_34.2.2⟩ (zNo2_s i15 (zc2_n (by omega) (by omega) c33) (by omega) hx_34.1) H _ ls (zmK hx_34.1 (by decide) n21 (by decide) hk41_17)  hP hD hS (lv_sub hl [0, 1, 2, 3] rfl)
            · skip
              have c35 := zlc_nl cb9
              refine lv_iload_n hx hb dX12_more_98 rfl (lv_at hl 5 rfl) ?_
              have hP : va_P g.1 vwCl (List.flatten [bMo g o a 0 hi ac 0 ba en tA fl de iD iO tU fm fk fa fc ft ff fb fi]) H := hP
              have hD : va_D A (List.flatten [bMo g o a 0 hi ac 0 ba en tA fl de iD iO tU fm fk fa fc ft ff fb fi]) := hD
              exact mret_i hx hb hr hlocks hS (Nat.le_of_ble_eq_true rfl) (Nat.le_of_ble_eq_true rfl) dX12_more_99 ((0 : Int32), x_13) rfl (show (0 = 0 ∧ ((0 ≤ n.toInt ∧ n.toInt ≤ 100) ∧ tp.toInt ≤ 12 ∧ zAl ft tp.toInt) ∧ zmor n (zLd ft tp.toInt.toNat) x_13.toInt ∨ 0 = 1 ∧ ¬ ((0 ≤ n.toInt ∧ n.toInt ≤ 100) ∧ tp.toInt ≤ 12 ∧ zAl ft tp.toInt)) from Or.inl ⟨rfl, ⟨⟨(by omega), (by omega)⟩, (zHf_y hq2_1 (by omega)).1⟩, (by rw [← (zHf_y hq2_1 (by omega)).2]; exact (Or.inl ⟨(by omega), (by omega), (zc2_i (by omega) (by omega) c35), i15⟩))⟩) hP hD
      have hP : va_P g.1 vwCl (List.flatten [bMo g o a 0 hi ac 0 ba en tA fl de iD iO tU fm fk fa fc ft ff fb fi]) H := hP
      have hD : va_D A (List.flatten [bMo g o a 0 hi ac 0 ba en tA fl de iD iO tU fm fk fa fc ft ff fb fi]) := hD
      exact LP41_16 _ 0 (by decide) (zNo2_0 _ _) H _ ls (Nat.lt_succ_self _)  hP hD hS (lv_sub hl [0, 1, 2, 3] rfl)
    · skip
      refine lv_if_ne (tgt := 26) hx hb dX12_more_19 (by decide) (fun c36 => absurd (by decide) c36) (fun _ => ?_)
      refine lv_iconst (v := 1) hx hb dX12_more_22 (by decide) ?_
      refine lv_goto (tgt := 27) hx hb dX12_more_23 (by decide) ?_
      refine va_put (D := g.1) (ci := 10) (v := .int 1) (ty := .int) (C := RX12) (T := TX12) (N := 20) hx hb hts izRX12 tyX12 tyX12_ok nmX12 hown hK hP hD hS 0 rfl rfl 0 (by decide) (hts _ k825) (fun _ h9 => h9) rfl (by decide +kernel) rfl rfl (Nat.le_of_ble_eq_true rfl) dX12_more_27 (fun H locs hP hD hS => ?_)
      have hP : va_P g.1 vwCl (List.flatten [bMo g o a 1 hi ac 0 ba en tA fl de iD iO tU fm fk fa fc ft ff fb fi]) H := hP
      have hD : va_D A (List.flatten [bMo g o a 1 hi ac 0 ba en tA fl de iD iO tU fm fk fa fc ft ff fb fi]) := hD
      refine lv_aload_n hx hb dX12_more_30 rfl (lv_at hl 1 rfl) ?_
      refine va_get (D := g.1) (ci := 10) (v := .int 1) (C := RX12) (T := TX12) (N := 20) hx hb hts izRX12 hown hK hP 0 rfl rfl 0 (by decide) (hts _ k825) (fun _ h9 => h9) rfl dX12_more_31 ?_
      refine lv_if_le (tgt := 39) hx hb dX12_more_34 (by decide) (fun c37 => absurd c37 (by decide)) (fun _ => ?_)
      refine lv_iconst (v := 0) hx hb dX12_more_37 (by decide) ?_
      have hP : va_P g.1 vwCl (List.flatten [bMo g o a 1 hi ac 0 ba en tA fl de iD iO tU fm fk fa fc ft ff fb fi]) H := hP
      have hD : va_D A (List.flatten [bMo g o a 1 hi ac 0 ba en tA fl de iD iO tU fm fk fa fc ft ff fb fi]) := hD
      exact mret_i hx hb hr hlocks hS (Nat.le_of_ble_eq_true rfl) (Nat.le_of_ble_eq_true rfl) dX12_more_38 ((1 : Int32), (0 : Int32)) rfl (show (1 = 0 ∧ ((0 ≤ n.toInt ∧ n.toInt ≤ 100) ∧ tp.toInt ≤ 12 ∧ zAl ft tp.toInt) ∧ zmor n (zLd ft tp.toInt.toNat) (0 : Int32).toInt ∨ 1 = 1 ∧ ¬ ((0 ≤ n.toInt ∧ n.toInt ≤ 100) ∧ tp.toInt ≤ 12 ∧ zAl ft tp.toInt)) from Or.inr ⟨rfl, fun h9 => absurd h9.1 (by omega)⟩) hP hD
