set_option maxRecDepth 100000 in
set_option maxHeartbeats 4000000 in
theorem m_letter (l : Launch) (g : zG) (o : Nat) (a : Nat → Nat) (th : Int32) (hi : Int32) (ac : Int32) (tp : Int32) (ba : Int32) (en : Int32) (tA : Int32) (fl : Int32) (de : Int32) (iD : Int32) (iO : Int32) (tU : Int32) (fm : Nat → Int32) (fk : Nat → Int32) (fa : Nat → Int32) (fc : Nat → Int32) (ft : Nat → Int32) (ff : Nat → Int32) (fb : Nat → Int32) (fi : Nat → Int32) (k : Int32) (b_k : 0 ≤ k.toInt ∧ k.toInt ≤ 399) (hba : zBa ba.toInt) : zM' g l yX12_letter (Cond.code yX12_letter cX12_letter 2 (some .int) :: zB) ({ frames := 0, cells := 0, slots := 0, locals := 0 } : Room) [.ref o, .int k] [bMo g o a th hi ac tp ba en tA fl de iD iO tU fm fk fa fc ft ff fb fi] (fun (q : Int32) => some (.int q)) (fun (q : Int32) => True) (fun (q : Int32) => [bMo g o a th hi ac tp ba en tA fl de iD iO tU fm fk fa fc ft ff fb fi]) := by
  refine zM'.of (cc := cX12_letter) (maxL := 2) (rt := (some .int)) (by decide) rfl (Nat.le_of_ble_eq_true rfl) ?_
  intro p e s m args below meth c A ls St hr hlocks hin hK hT hA hP hD hS hl
  obtain ⟨hx, hb, hml, hown, hts⟩ := id St
  have hl : lv_has ls 2 [(0, .ref o), (1, .int k)] := hl
  have hba9 : ba.toInt = -1 ∨ ba.toInt = 379 := hba
  refine lv_aload_n hx hb dX12_letter_0 rfl (lv_at hl 0 rfl) ?_
  refine va_get (D := g.1) (ci := 10) (v := .int ba) (C := RX12) (T := TX12) (N := 20) hx hb hts izRX12 hown hK hP 0 rfl rfl 9 (by decide) (hts _ k876) (fun _ h9 => h9) rfl dX12_letter_1 ?_
  refine lv_iconst (v := (-1)) hx hb dX12_letter_4 (by decide) ?_
  refine lv_icmp_ne (tgt := 17) hx hb dX12_letter_5 (by decide) (fun cb9 => ?_) (fun cb9 => ?_)
  · skip
    have c1 : ¬ ba.toInt = (-1) := zne cb9 rfl (by decide)
    refine lv_aload_n hx hb dX12_letter_17 rfl (lv_at hl 0 rfl) ?_
    refine va_get (D := g.1) (ci := 10) (v := .ref (a 0)) (C := RX12) (T := TX12) (N := 20) hx hb hts izRX12 hown hK hP 0 rfl rfl 1 (by decide) (hts _ k815) (fun _ h9 => h9) rfl dX12_letter_18 ?_
    refine lv_aload_n hx hb dX12_letter_21 rfl (lv_at hl 0 rfl) ?_
    refine va_get (D := g.1) (ci := 10) (v := .int ba) (C := RX12) (T := TX12) (N := 20) hx hb hts izRX12 hown hK hP 0 rfl rfl 9 (by decide) (hts _ k876) (fun _ h9 => h9) rfl dX12_letter_22 ?_
    refine lv_iload_n hx hb dX12_letter_25 rfl (lv_at hl 1 rfl) ?_
    refine lv_iadd hx hb dX12_letter_26 ?_
    refine zgv (zadd (i := ba.toInt) (j := k.toInt) rfl rfl (by omega)) (fun x_2 hx_2 => ?_)
    refine va_iald hx hb hK hP 1 0 rfl rfl (zinI (by omega) (by omega)) dX12_letter_27 ?_
    refine zg (fun x_3 => ?_)
    have hP : va_P g.1 vwCl (List.flatten [bMo g o a th hi ac tp ba en tA fl de iD iO tU fm fk fa fc ft ff fb fi]) s.heap := hP
    have hD : va_D A (List.flatten [bMo g o a th hi ac tp ba en tA fl de iD iO tU fm fk fa fc ft ff fb fi]) := hD
    exact mret_i hx hb hr hlocks hS (Nat.le_of_ble_eq_true rfl) (Nat.le_of_ble_eq_true rfl) dX12_letter_28 (x_3) rfl trivial hP hD
  · skip
    have c4 : ba.toInt = (-1) := zeq cb9 rfl (by decide)
    have n5 : ba.toInt ≤ (-1) := Int.le_trans (Int.le_of_eq c4) (Int.le_refl _)
    refine lv_aload_n hx hb dX12_letter_8 rfl (lv_at hl 0 rfl) ?_
    refine va_get (D := g.1) (ci := 10) (v := .ref (a 4)) (C := RX12) (T := TX12) (N := 20) hx hb hts izRX12 hown hK hP 0 rfl rfl 7 (by decide) (hts _ k819) (fun _ h9 => h9) rfl dX12_letter_9 ?_
    refine lv_iload_n hx hb dX12_letter_12 rfl (lv_at hl 1 rfl) ?_
    refine va_iald hx hb hK hP 5 0 rfl rfl (zinK (a := 0) (b := 399) b_k.1 b_k.2 (by decide)) dX12_letter_13 ?_
    refine zg (fun x_6 => ?_)
    refine lv_goto (tgt := 28) hx hb dX12_letter_14 (by decide) ?_
    have hP : va_P g.1 vwCl (List.flatten [bMo g o a th hi ac tp ba en tA fl de iD iO tU fm fk fa fc ft ff fb fi]) s.heap := hP
    have hD : va_D A (List.flatten [bMo g o a th hi ac tp ba en tA fl de iD iO tU fm fk fa fc ft ff fb fi]) := hD
    exact mret_i hx hb hr hlocks hS (Nat.le_of_ble_eq_true rfl) (Nat.le_of_ble_eq_true rfl) dX12_letter_28 (x_6) rfl trivial hP hD
set_option maxRecDepth 100000 in
set_option maxHeartbeats 4000000 in
theorem m_skip (l : Launch) (g : zG) (o : Nat) (a : Nat → Nat) (th : Int32) (hi : Int32) (ac : Int32) (tp : Int32) (ba : Int32) (en : Int32) (tA : Int32) (fl : Int32) (de : Int32) (iD : Int32) (iO : Int32) (tU : Int32) (fm : Nat → Int32) (fk : Nat → Int32) (fa : Nat → Int32) (fc : Nat → Int32) (ft : Nat → Int32) (ff : Nat → Int32) (fb : Nat → Int32) (fi : Nat → Int32) (hba : zBa ba.toInt) (hen : 0 ≤ en.toInt ∧ en.toInt ≤ 400) (htA : 0 ≤ tA.toInt ∧ tA.toInt ≤ en.toInt + 7 - de.toInt) (hfl : -1 ≤ fl.toInt) (hde : 0 ≤ de.toInt ∧ de.toInt ≤ 6) : zM' g l yX12_skip (Cond.code yX12_skip cX12_skip 1 none :: zB) ({ frames := 1, cells := 0, slots := 0, locals := 21 } : Room) [.ref o] [bMo g o a th hi ac tp ba en tA fl de iD iO tU fm fk fa fc ft ff fb fi] (fun (at2 : Int32) => none) (fun (at2 : Int32) => (0 ≤ at2.toInt ∧ at2.toInt ≤ en.toInt + 7 - de.toInt) ∧ (tA.toInt ≤ at2.toInt)) (fun (at2 : Int32) => [bMo g o a th hi ac tp ba en at2 fl de iD iO tU fm fk fa fc ft ff fb fi]) := by
  refine zM'.of (cc := cX12_skip) (maxL := 1) (rt := none) (by decide) rfl (Nat.le_of_ble_eq_true rfl) ?_
  intro p e s m args below meth c A ls St hr hlocks hin hK hT hA hP hD hS hl
  obtain ⟨hx, hb, hml, hown, hts⟩ := id St
  have hl : lv_has ls 1 [(0, .ref o)] := hl
  have LP0_5 : ∀ (kf : Nat) (x_1 : Int32), (0 ≤ x_1.toInt ∧ x_1.toInt ≤ 407) → (tA.toInt ≤ x_1.toInt) → (x_1.toInt ≤ en.toInt + 7 - de.toInt) → ∀ (H : Heap) (locs : List Loc) (ls : Array Slot), ((en.toInt - x_1.toInt).toNat) < kf → va_P g.1 vwCl (List.flatten [bMo g o a th hi ac tp ba en x_1 fl de iD iO tU fm fk fa fc ft ff fb fi]) H → va_D A (List.flatten [bMo g o a th hi ac tp ba en x_1 fl de iD iO tU fm fk fa fc ft ff fb fi]) → va_S A s.heap H locs → lv_has ls 1 [(0, .ref o)] → W p l e ({ frames := 1, cells := 0, slots := 0, locals := 21 } : Room) s m args below meth c H locs (0) (0) (zF g (fun (at2 : Int32) => none) (fun (at2 : Int32) => (0 ≤ at2.toInt ∧ at2.toInt ≤ en.toInt + 7 - de.toInt) ∧ (tA.toInt ≤ at2.toInt)) (fun (at2 : Int32) => [bMo g o a th hi ac tp ba en at2 fl de iD iO tU fm fk fa fc ft ff fb fi]) ({ frames := 1, cells := 0, slots := 0, locals := 21 } : Room) below args s A) (F0 m 0 ls []) := by
    intro kf
    induction kf with
    | zero => intro x_1 i2 i3 i4 H locs ls hk; exact absurd hk (Nat.not_lt_zero _)
    | succ kf ih0_6 =>
      intro x_1 i2 i3 i4 H locs ls hk0_6 hP hD hS hl
      refine lv_aload_n hx hb dX12_skip_0 rfl (lv_at hl 0 rfl) ?_
      refine va_get (D := g.1) (ci := 10) (v := .int x_1) (C := RX12) (T := TX12) (N := 20) hx hb hts izRX12 hown hK hP 0 rfl rfl 11 (by decide) (hts _ k878) (fun _ h9 => h9) rfl dX12_skip_1 ?_
      refine lv_aload_n hx hb dX12_skip_4 rfl (lv_at hl 0 rfl) ?_
      refine va_get (D := g.1) (ci := 10) (v := .int en) (C := RX12) (T := TX12) (N := 20) hx hb hts izRX12 hown hK hP 0 rfl rfl 10 (by decide) (hts _ k879) (fun _ h9 => h9) rfl dX12_skip_5 ?_
      refine lv_icmp_ge (tgt := 37) hx hb dX12_skip_8 (by decide) (fun cb9 => ?_) (fun cb9 => ?_)
      · skip
        have c7 : en.toInt ≤ x_1.toInt := zle cb9 rfl rfl
        have hP : va_P g.1 vwCl (List.flatten [bMo g o a th hi ac tp ba en x_1 fl de iD iO tU fm fk fa fc ft ff fb fi]) H := hP
        have hD : va_D A (List.flatten [bMo g o a th hi ac tp ba en x_1 fl de iD iO tU fm fk fa fc ft ff fb fi]) := hD
        exact mret_v hx hb hr hlocks hS (Nat.le_of_ble_eq_true rfl) (Nat.le_of_ble_eq_true rfl) dX12_skip_37 (x_1) rfl (show (0 ≤ x_1.toInt ∧ x_1.toInt ≤ en.toInt + 7 - de.toInt) ∧ (tA.toInt ≤ x_1.toInt) from ⟨(by first | assumption | omega | decide | exact rfl | exact zb01 (by omega) | exact Or.inl (by decide) | exact Or.inr (by first | omega | decide)), i3⟩) hP hD
      · skip
        have c8 : x_1.toInt < en.toInt := zlti (Int32.not_le.mp cb9) rfl rfl
        have n9 : x_1.toInt ≤ 399 := zL1 (b := 400) c8 hen.2 (by decide)
        have n10 : 1 ≤ en.toInt := zL2 (a := 0) c8 i2.1 (by decide)
        refine lv_aload_n hx hb dX12_skip_11 rfl (lv_at hl 0 rfl) ?_
        refine lv_aload_n hx hb dX12_skip_12 rfl (lv_at hl 0 rfl) ?_
        refine va_get (D := g.1) (ci := 10) (v := .int x_1) (C := RX12) (T := TX12) (N := 20) hx hb hts izRX12 hown hK hP 0 rfl rfl 11 (by decide) (hts _ k878) (fun _ h9 => h9) rfl dX12_skip_13 ?_
        refine mcallV' (g := g) (q0 := 0) (ci := 10) (As := [.int x_1]) (rest := []) St hK hT hA hP hD hS hl.1 [0] [] rfl rfl rfl (m_letter l g o a th hi ac tp ba en x_1 fl de iD iO tU fm fk fa fc ft ff fb fi x_1 (⟨i2.1, n9⟩) hba) (cwV 1 hts (zgL (zl4 k880 k881 k882 k839) k875) rfl rfl rfl (by decide +kernel) ⟨Nat.le_of_ble_eq_true rfl, Nat.le_of_ble_eq_true rfl⟩) rfl rfl rfl rfl (Nat.le_of_ble_eq_true rfl) dX12_skip_16 ⟨(Nat.le_of_ble_eq_true rfl), (Nat.le_of_ble_eq_true rfl)⟩ (fun q_11 H locs hq12 hP hD hS => ?_)
        have hP : va_P g.1 vwCl (List.flatten [bMo g o a th hi ac tp ba en x_1 fl de iD iO tU fm fk fa fc ft ff fb fi]) H := hP
        have hD : va_D A (List.flatten [bMo g o a th hi ac tp ba en x_1 fl de iD iO tU fm fk fa fc ft ff fb fi]) := hD
        refine W.widen (k := 0) (n := 0) (Nat.le_of_ble_eq_true rfl) (Nat.le_of_ble_eq_true rfl) ?_
        refine W.eq (g2 := F0 m 19 ls [.int q_11]) rfl ?_
        refine lv_bipush (v := 32) hx hb dX12_skip_19 (by decide) ?_
        refine lv_icmp_ne (tgt := 37) hx hb dX12_skip_21 (by decide) (fun cb9 => ?_) (fun cb9 => ?_)
        · skip
          have c13 : ¬ q_11.toInt = 32 := zne cb9 rfl (by decide)
          have hP : va_P g.1 vwCl (List.flatten [bMo g o a th hi ac tp ba en x_1 fl de iD iO tU fm fk fa fc ft ff fb fi]) H := hP
          have hD : va_D A (List.flatten [bMo g o a th hi ac tp ba en x_1 fl de iD iO tU fm fk fa fc ft ff fb fi]) := hD
          exact mret_v hx hb hr hlocks hS (Nat.le_of_ble_eq_true rfl) (Nat.le_of_ble_eq_true rfl) dX12_skip_37 (x_1) rfl (show (0 ≤ x_1.toInt ∧ x_1.toInt ≤ en.toInt + 7 - de.toInt) ∧ (tA.toInt ≤ x_1.toInt) from ⟨(by first | assumption | omega | decide | exact rfl | exact zb01 (by omega) | exact Or.inl (by decide) | exact Or.inr (by first | omega | decide)), i3⟩) hP hD
        · skip
          have c14 : q_11.toInt = 32 := zeq cb9 rfl (by decide)
          have n15 : 32 ≤ q_11.toInt := Int.le_trans (Int.le_refl _) (Int.le_of_eq c14.symm)
          have n16 : q_11.toInt ≤ 32 := Int.le_trans (Int.le_of_eq c14) (Int.le_refl _)
          refine lv_aload_n hx hb dX12_skip_24 rfl (lv_at hl 0 rfl) ?_
          refine lv_dup hx hb dX12_skip_25 rfl ?_
          refine va_get (D := g.1) (ci := 10) (v := .int x_1) (C := RX12) (T := TX12) (N := 20) hx hb hts izRX12 hown hK hP 0 rfl rfl 11 (by decide) (hts _ k878) (fun _ h9 => h9) rfl dX12_skip_26 ?_
          refine lv_iconst (v := 1) hx hb dX12_skip_29 (by decide) ?_
          refine lv_iadd hx hb dX12_skip_30 ?_
          refine zg3 (zaddK (i := x_1.toInt) (j := 1) (a' := 1) (b' := 400) rfl (by decide) i2.1 n9 (Int.le_refl _) (Int.le_refl _) (by decide)) (fun x_17 hx_17 => ?_)
          refine va_put (D := g.1) (ci := 10) (v := .int x_17) (ty := .int) (C := RX12) (T := TX12) (N := 20) hx hb hts izRX12 tyX12 tyX12_ok nmX12 hown hK hP hD hS 0 rfl rfl 11 (by decide) (hts _ k878) (fun _ h9 => h9) rfl (by decide +kernel) rfl rfl (Nat.le_of_ble_eq_true rfl) dX12_skip_31 (fun H locs hP hD hS => ?_)
          have hP : va_P g.1 vwCl (List.flatten [bMo g o a th hi ac tp ba en x_17 fl de iD iO tU fm fk fa fc ft ff fb fi]) H := hP
          have hD : va_D A (List.flatten [bMo g o a th hi ac tp ba en x_17 fl de iD iO tU fm fk fa fc ft ff fb fi]) := hD
          refine lv_goto (tgt := 0) hx hb dX12_skip_34 (by decide) ?_
          have hP : va_P g.1 vwCl (List.flatten [bMo g o a th hi ac tp ba en x_17 fl de iD iO tU fm fk fa fc ft ff fb fi]) H := hP
          have hD : va_D A (List.flatten [bMo g o a th hi ac tp ba en x_17 fl de iD iO tU fm fk fa fc ft ff fb fi]) := hD
          exact ih0_6 x_17 ⟨(Int.le_trans (by decide) hx_17.2.1), (Int.le_trans hx_17.2.2 (by decide))⟩ (by first | omega | assumption | decide) (by first | omega | assumption | decide) H _ ls (by omega)  hP hD hS (lv_sub hl [0] rfl)
  have hP : va_P g.1 vwCl (List.flatten [bMo g o a th hi ac tp ba en tA fl de iD iO tU fm fk fa fc ft ff fb fi]) s.heap := hP
  have hD : va_D A (List.flatten [bMo g o a th hi ac tp ba en tA fl de iD iO tU fm fk fa fc ft ff fb fi]) := hD
  exact LP0_5 _ tA (by first | omega | assumption | decide) (by first | omega | assumption | decide) (by first | omega | assumption | decide) s.heap _ ls (Nat.lt_succ_self _)  hP hD hS (lv_sub hl [0] rfl)
set_option maxRecDepth 100000 in
set_option maxHeartbeats 4000000 in
theorem m_isSign (l : Launch) (g : zG) (o : Nat) (a : Nat → Nat) (th : Int32) (hi : Int32) (ac : Int32) (tp : Int32) (ba : Int32) (en : Int32) (tA : Int32) (fl : Int32) (de : Int32) (iD : Int32) (iO : Int32) (tU : Int32) (fm : Nat → Int32) (fk : Nat → Int32) (fa : Nat → Int32) (fc : Nat → Int32) (ft : Nat → Int32) (ff : Nat → Int32) (fb : Nat → Int32) (fi : Nat → Int32) (sg : Int32) (hba : zBa ba.toInt) (hen : 0 ≤ en.toInt ∧ en.toInt ≤ 400) (htA : 0 ≤ tA.toInt ∧ tA.toInt ≤ en.toInt + 7 - de.toInt) (hfl : -1 ≤ fl.toInt) (hde : 0 ≤ de.toInt ∧ de.toInt ≤ 6) : zM' g l yX12_isSign (Cond.code yX12_isSign cX12_isSign 2 (some .boolean) :: zB) ({ frames := 2, cells := 0, slots := 0, locals := 41 } : Room) [.ref o, .int sg] [bMo g o a th hi ac tp ba en tA fl de iD iO tU fm fk fa fc ft ff fb fi] (fun u : Int32 × Int32 => (fun (at2 : Int32) (q : Int32) => some (.int q)) (u.1) (u.2)) (fun u : Int32 × Int32 => (fun (at2 : Int32) (q : Int32) => (0 ≤ at2.toInt ∧ at2.toInt ≤ en.toInt + 7 - de.toInt) ∧ (tA.toInt ≤ at2.toInt) ∧ (q = 1 ∧ at2.toInt < en.toInt ∨ q = 0)) (u.1) (u.2)) (fun u : Int32 × Int32 => (fun (at2 : Int32) (q : Int32) => [bMo g o a th hi ac tp ba en at2 fl de iD iO tU fm fk fa fc ft ff fb fi]) (u.1) (u.2)) := by
  refine zM'.of (cc := cX12_isSign) (maxL := 2) (rt := (some .boolean)) (by decide) rfl (Nat.le_of_ble_eq_true rfl) ?_
  intro p e s m args below meth c A ls St hr hlocks hin hK hT hA hP hD hS hl
  obtain ⟨hx, hb, hml, hown, hts⟩ := id St
  have hl : lv_has ls 2 [(0, .ref o), (1, .int sg)] := hl
  refine lv_aload_n hx hb dX12_isSign_0 rfl (lv_at hl 0 rfl) ?_
  refine mcallV' (g := g) (q0 := 0) (ci := 10) (As := []) (rest := []) St hK hT hA hP hD hS hl.1 [0] [] rfl rfl rfl (m_skip l g o a th hi ac tp ba en tA fl de iD iO tU fm fk fa fc ft ff fb fi hba hen htA hfl hde) (cwV 0 hts (zgL (zl4 k884 k885 k886 k839) k877) rfl rfl rfl (by decide +kernel) ⟨Nat.le_of_ble_eq_true rfl, Nat.le_of_ble_eq_true rfl⟩) rfl rfl rfl rfl (Nat.le_of_ble_eq_true rfl) dX12_isSign_1 ⟨(Nat.le_of_ble_eq_true rfl), (Nat.le_of_ble_eq_true rfl)⟩ (fun at2_1 H locs hq2 hP hD hS => ?_)
  replace hq2 : (0 ≤ at2_1.toInt ∧ at2_1.toInt ≤ en.toInt + 7 - de.toInt) ∧ (tA.toInt ≤ at2_1.toInt) := hq2
  have hP : va_P g.1 vwCl (List.flatten [bMo g o a th hi ac tp ba en at2_1 fl de iD iO tU fm fk fa fc ft ff fb fi]) H := hP
  have hD : va_D A (List.flatten [bMo g o a th hi ac tp ba en at2_1 fl de iD iO tU fm fk fa fc ft ff fb fi]) := hD
  refine W.widen (k := 0) (n := 0) (Nat.le_of_ble_eq_true rfl) (Nat.le_of_ble_eq_true rfl) ?_
  refine W.eq (g2 := F0 m 4 ls []) rfl ?_
  obtain ⟨hq2_0, hq2_1⟩ := hq2
  refine lv_aload_n hx hb dX12_isSign_4 rfl (lv_at hl 0 rfl) ?_
  refine va_get (D := g.1) (ci := 10) (v := .int at2_1) (C := RX12) (T := TX12) (N := 20) hx hb hts izRX12 hown hK hP 0 rfl rfl 11 (by decide) (hts _ k878) (fun _ h9 => h9) rfl dX12_isSign_5 ?_
  refine lv_aload_n hx hb dX12_isSign_8 rfl (lv_at hl 0 rfl) ?_
  refine va_get (D := g.1) (ci := 10) (v := .int en) (C := RX12) (T := TX12) (N := 20) hx hb hts izRX12 hown hK hP 0 rfl rfl 10 (by decide) (hts _ k879) (fun _ h9 => h9) rfl dX12_isSign_9 ?_
  refine lv_icmp_ge (tgt := 31) hx hb dX12_isSign_12 (by decide) (fun cb9 => ?_) (fun cb9 => ?_)
  · skip
    have c3 : en.toInt ≤ at2_1.toInt := zle cb9 rfl rfl
    refine lv_iconst (v := 0) hx hb dX12_isSign_31 (by decide) ?_
    have hP : va_P g.1 vwCl (List.flatten [bMo g o a th hi ac tp ba en at2_1 fl de iD iO tU fm fk fa fc ft ff fb fi]) H := hP
    have hD : va_D A (List.flatten [bMo g o a th hi ac tp ba en at2_1 fl de iD iO tU fm fk fa fc ft ff fb fi]) := hD
    exact mret_z hx hb hr hlocks hS (Nat.le_of_ble_eq_true rfl) (Nat.le_of_ble_eq_true rfl) dX12_isSign_32 (at2_1, (0 : Int32)) rfl (by decide) (show (0 ≤ at2_1.toInt ∧ at2_1.toInt ≤ en.toInt + 7 - de.toInt) ∧ (tA.toInt ≤ at2_1.toInt) ∧ (0 = 1 ∧ at2_1.toInt < en.toInt ∨ 0 = 0) from ⟨(by first | assumption | omega), (by first | assumption | omega), by first | exact Or.inl ⟨rfl, by omega⟩ | exact Or.inr rfl⟩) hP hD
  · skip
    have c4 : at2_1.toInt < en.toInt := zlti (Int32.not_le.mp cb9) rfl rfl
    have n5 : at2_1.toInt ≤ 399 := zL1 (b := 400) c4 hen.2 (by decide)
    refine lv_aload_n hx hb dX12_isSign_15 rfl (lv_at hl 0 rfl) ?_
    refine lv_aload_n hx hb dX12_isSign_16 rfl (lv_at hl 0 rfl) ?_
    refine va_get (D := g.1) (ci := 10) (v := .int at2_1) (C := RX12) (T := TX12) (N := 20) hx hb hts izRX12 hown hK hP 0 rfl rfl 11 (by decide) (hts _ k878) (fun _ h9 => h9) rfl dX12_isSign_17 ?_
    refine mcallV' (g := g) (q0 := 0) (ci := 10) (As := [.int at2_1]) (rest := []) St hK hT hA hP hD hS hl.1 [0] [] rfl rfl rfl (m_letter l g o a th hi ac tp ba en at2_1 fl de iD iO tU fm fk fa fc ft ff fb fi at2_1 (by first | assumption | omega | decide | exact Or.inl (by decide) | exact Or.inr (by decide)) hba) (cwV 1 hts (zgL (zl4 k880 k881 k882 k839) k875) rfl rfl rfl (by decide +kernel) ⟨Nat.le_of_ble_eq_true rfl, Nat.le_of_ble_eq_true rfl⟩) rfl rfl rfl rfl (Nat.le_of_ble_eq_true rfl) dX12_isSign_20 ⟨(Nat.le_of_ble_eq_true rfl), (Nat.le_of_ble_eq_true rfl)⟩ (fun q_6 H locs hq7 hP hD hS => ?_)
    have hP : va_P g.1 vwCl (List.flatten [bMo g o a th hi ac tp ba en at2_1 fl de iD iO tU fm fk fa fc ft ff fb fi]) H := hP
    have hD : va_D A (List.flatten [bMo g o a th hi ac tp ba en at2_1 fl de iD iO tU fm fk fa fc ft ff fb fi]) := hD
    refine W.widen (k := 0) (n := 0) (Nat.le_of_ble_eq_true rfl) (Nat.le_of_ble_eq_true rfl) ?_
    refine W.eq (g2 := F0 m 23 ls [.int q_6]) rfl ?_
    refine lv_iload_n hx hb dX12_isSign_23 rfl (lv_at hl 1 rfl) ?_
    refine lv_icmp_ne (tgt := 31) hx hb dX12_isSign_24 (by decide) (fun cb9 => ?_) (fun cb9 => ?_)
    · skip
      have c8 : ¬ q_6.toInt = sg.toInt := zne cb9 rfl rfl
      refine lv_iconst (v := 0) hx hb dX12_isSign_31 (by decide) ?_
      have hP : va_P g.1 vwCl (List.flatten [bMo g o a th hi ac tp ba en at2_1 fl de iD iO tU fm fk fa fc ft ff fb fi]) H := hP
      have hD : va_D A (List.flatten [bMo g o a th hi ac tp ba en at2_1 fl de iD iO tU fm fk fa fc ft ff fb fi]) := hD
      exact mret_z hx hb hr hlocks hS (Nat.le_of_ble_eq_true rfl) (Nat.le_of_ble_eq_true rfl) dX12_isSign_32 (at2_1, (0 : Int32)) rfl (by decide) (show (0 ≤ at2_1.toInt ∧ at2_1.toInt ≤ en.toInt + 7 - de.toInt) ∧ (tA.toInt ≤ at2_1.toInt) ∧ (0 = 1 ∧ at2_1.toInt < en.toInt ∨ 0 = 0) from ⟨(by first | assumption | omega), (by first | assumption | omega), by first | exact Or.inl ⟨rfl, by omega⟩ | exact Or.inr rfl⟩) hP hD
    · skip
      have c9 : q_6.toInt = sg.toInt := zeq cb9 rfl rfl
      refine lv_iconst (v := 1) hx hb dX12_isSign_27 (by decide) ?_
      refine lv_goto (tgt := 32) hx hb dX12_isSign_28 (by decide) ?_
      have hP : va_P g.1 vwCl (List.flatten [bMo g o a th hi ac tp ba en at2_1 fl de iD iO tU fm fk fa fc ft ff fb fi]) H := hP
      have hD : va_D A (List.flatten [bMo g o a th hi ac tp ba en at2_1 fl de iD iO tU fm fk fa fc ft ff fb fi]) := hD
      exact mret_z hx hb hr hlocks hS (Nat.le_of_ble_eq_true rfl) (Nat.le_of_ble_eq_true rfl) dX12_isSign_32 (at2_1, (1 : Int32)) rfl (by decide) (show (0 ≤ at2_1.toInt ∧ at2_1.toInt ≤ en.toInt + 7 - de.toInt) ∧ (tA.toInt ≤ at2_1.toInt) ∧ (1 = 1 ∧ at2_1.toInt < en.toInt ∨ 1 = 0) from ⟨(by first | assumption | omega), (by first | assumption | omega), by first | exact Or.inl ⟨rfl, by omega⟩ | exact Or.inr rfl⟩) hP hD
set_option maxRecDepth 100000 in
set_option maxHeartbeats 4000000 in
theorem m_has (l : Launch) (g : zG) (o : Nat) (a : Nat → Nat) (th : Int32) (hi : Int32) (ac : Int32) (tp : Int32) (ba : Int32) (en : Int32) (tA : Int32) (fl : Int32) (de : Int32) (iD : Int32) (iO : Int32) (tU : Int32) (fm : Nat → Int32) (fk : Nat → Int32) (fa : Nat → Int32) (fc : Nat → Int32) (ft : Nat → Int32) (ff : Nat → Int32) (fb : Nat → Int32) (fi : Nat → Int32) (k : Nat) (j : Nat) (q : String × Nat × String × List Int32) (hba : zBa ba.toInt) (hen : 0 ≤ en.toInt ∧ en.toInt ≤ 400) (htA : 0 ≤ tA.toInt ∧ tA.toInt ≤ en.toInt + 7 - de.toInt) (hfl : -1 ≤ fl.toInt) (hde : 0 ≤ de.toInt ∧ de.toInt ≤ 6) (hk9 : k = g.2 (10 + 2 * j)) (hj9 : zLit[j]? = some q) (hql : 1 ≤ q.2.2.2.length ∧ q.2.2.2.length ≤ 7) : zM' g l yX12_has (Cond.code yX12_has cX12_has 4 (some .boolean) :: zB) ({ frames := 4, cells := 0, slots := 0, locals := 85 } : Room) [.ref o, .ref k] [bMo g o a th hi ac tp ba en tA fl de iD iO tU fm fk fa fc ft ff fb fi] (fun u : Int32 × Int32 => (fun (at2 : Int32) (r : Int32) => some (.int r)) (u.1) (u.2)) (fun u : Int32 × Int32 => (fun (at2 : Int32) (r : Int32) => (0 ≤ at2.toInt ∧ at2.toInt ≤ en.toInt + 7 - de.toInt) ∧ (tA.toInt ≤ at2.toInt) ∧ (r = 1 ∧ tA.toInt < at2.toInt ∧ at2.toInt ≤ en.toInt ∨ r = 0)) (u.1) (u.2)) (fun u : Int32 × Int32 => (fun (at2 : Int32) (r : Int32) => [bMo g o a th hi ac tp ba en at2 fl de iD iO tU fm fk fa fc ft ff fb fi]) (u.1) (u.2)) := by
  refine zM'.of (cc := cX12_has) (maxL := 4) (rt := (some .boolean)) (by decide) rfl (Nat.le_of_ble_eq_true rfl) ?_
  intro p e s m args below meth c A ls St hr hlocks hin hK hT hA hP hD hS hl
  obtain ⟨hx, hb, hml, hown, hts⟩ := id St
  have hl : lv_has ls 4 [(0, .ref o), (1, .ref k)] := hl
  obtain ⟨-, hSt⟩ := hT.2.1.2.2 j q hj9
  refine lv_aload_n hx hb dX12_has_0 rfl (lv_at hl 0 rfl) ?_
  refine mcallV' (g := g) (q0 := 0) (ci := 10) (As := []) (rest := []) St hK hT hA hP hD hS hl.1 [0] [] rfl rfl rfl (m_skip l g o a th hi ac tp ba en tA fl de iD iO tU fm fk fa fc ft ff fb fi hba hen htA hfl hde) (cwV 0 hts (zgL (zl4 k884 k885 k886 k839) k877) rfl rfl rfl (by decide +kernel) ⟨Nat.le_of_ble_eq_true rfl, Nat.le_of_ble_eq_true rfl⟩) rfl rfl rfl rfl (Nat.le_of_ble_eq_true rfl) dX12_has_1 ⟨(Nat.le_of_ble_eq_true rfl), (Nat.le_of_ble_eq_true rfl)⟩ (fun at2_1 H locs hq2 hP hD hS => ?_)
  replace hq2 : (0 ≤ at2_1.toInt ∧ at2_1.toInt ≤ en.toInt + 7 - de.toInt) ∧ (tA.toInt ≤ at2_1.toInt) := hq2
  have hP : va_P g.1 vwCl (List.flatten [bMo g o a th hi ac tp ba en at2_1 fl de iD iO tU fm fk fa fc ft ff fb fi]) H := hP
  have hD : va_D A (List.flatten [bMo g o a th hi ac tp ba en at2_1 fl de iD iO tU fm fk fa fc ft ff fb fi]) := hD
  refine W.widen (k := 0) (n := 0) (Nat.le_of_ble_eq_true rfl) (Nat.le_of_ble_eq_true rfl) ?_
  refine W.eq (g2 := F0 m 4 ls []) rfl ?_
  obtain ⟨hq2_0, hq2_1⟩ := hq2
  refine lv_aload_n hx hb dX12_has_4 rfl (lv_at hl 0 rfl) ?_
  refine va_get (D := g.1) (ci := 10) (v := .int at2_1) (C := RX12) (T := TX12) (N := 20) hx hb hts izRX12 hown hK hP 0 rfl rfl 11 (by decide) (hts _ k878) (fun _ h9 => h9) rfl dX12_has_5 ?_
  refine lv_istore_n (lv' := [(2, .int at2_1), (0, .ref o), (1, .ref k)]) hx hb dX12_has_8 rfl hl (by decide) rfl (fun ls hl => ?_)
  have hl := lv_sub (l' := [(0, .ref o), (1, .ref k), (2, .int at2_1)]) hl [1, 2, 0] rfl
  have LP9_7 : ∀ (kf : Nat) (x_3 : Int32), (0 ≤ x_3.toInt ∧ x_3.toInt ≤ 407) → (at2_1.toInt ≤ x_3.toInt) → (x_3.toInt = at2_1.toInt ∨ x_3.toInt ≤ en.toInt) → ∀ (H : Heap) (locs : List Loc) (ls : Array Slot), ((en.toInt - x_3.toInt).toNat) < kf → va_P g.1 vwCl (List.flatten [bMo g o a th hi ac tp ba en at2_1 fl de iD iO tU fm fk fa fc ft ff fb fi]) H → va_D A (List.flatten [bMo g o a th hi ac tp ba en at2_1 fl de iD iO tU fm fk fa fc ft ff fb fi]) → va_S A s.heap H locs → lv_has ls 4 [(0, .ref o), (1, .ref k), (2, .int x_3)] → W p l e ({ frames := 4, cells := 0, slots := 0, locals := 85 } : Room) s m args below meth c H locs (0) (0) (zF g (fun u : Int32 × Int32 => (fun (at2 : Int32) (r : Int32) => some (.int r)) (u.1) (u.2)) (fun u : Int32 × Int32 => (fun (at2 : Int32) (r : Int32) => (0 ≤ at2.toInt ∧ at2.toInt ≤ en.toInt + 7 - de.toInt) ∧ (tA.toInt ≤ at2.toInt) ∧ (r = 1 ∧ tA.toInt < at2.toInt ∧ at2.toInt ≤ en.toInt ∨ r = 0)) (u.1) (u.2)) (fun u : Int32 × Int32 => (fun (at2 : Int32) (r : Int32) => [bMo g o a th hi ac tp ba en at2 fl de iD iO tU fm fk fa fc ft ff fb fi]) (u.1) (u.2)) ({ frames := 4, cells := 0, slots := 0, locals := 85 } : Room) below args s A) (F0 m 9 ls []) := by
    intro kf
    induction kf with
    | zero => intro x_3 i4 i5 i6 H locs ls hk; exact absurd hk (Nat.not_lt_zero _)
    | succ kf ih9_8 =>
      intro x_3 i4 i5 i6 H locs ls hk9_8 hP hD hS hl
      refine lv_iload_n hx hb dX12_has_9 rfl (lv_at hl 2 rfl) ?_
      refine lv_aload_n hx hb dX12_has_10 rfl (lv_at hl 0 rfl) ?_
      refine va_get (D := g.1) (ci := 10) (v := .int en) (C := RX12) (T := TX12) (N := 20) hx hb hts izRX12 hown hK hP 0 rfl rfl 10 (by decide) (hts _ k879) (fun _ h9 => h9) rfl dX12_has_11 ?_
      refine lv_icmp_ge (tgt := 38) hx hb dX12_has_14 (by decide) (fun cb9 => ?_) (fun cb9 => ?_)
      · skip
        have c9 : en.toInt ≤ x_3.toInt := zle cb9 rfl rfl
        refine lv_iload_n hx hb dX12_has_38 rfl (lv_at hl 2 rfl) ?_
        refine lv_aload_n hx hb dX12_has_39 rfl (lv_at hl 0 rfl) ?_
        refine va_get (D := g.1) (ci := 10) (v := .int at2_1) (C := RX12) (T := TX12) (N := 20) hx hb hts izRX12 hown hK hP 0 rfl rfl 11 (by decide) (hts _ k878) (fun _ h9 => h9) rfl dX12_has_40 ?_
        refine lv_isub hx hb dX12_has_43 ?_
        refine zgv (zsub (i := x_3.toInt) (j := at2_1.toInt) rfl rfl (by omega)) (fun x_10 hx_10 => ?_)
        refine lv_aload_n hx hb dX12_has_44 rfl (lv_at hl 1 rfl) ?_
        refine mcallL' (g := g) (As := []) (rest := [.int x_10]) St hK hT hA hP hD hS hl.1 [] [0] rfl rfl rfl (s_length l g k j q hk9 hj9 hql) (cwV 0 hts (zgL (zl4 k887 k263 k264 k223) k218) rfl rfl rfl (by decide +kernel) ⟨Nat.le_of_ble_eq_true rfl, Nat.le_of_ble_eq_true rfl⟩) (by rw [hk9]; exact zSt_recv hSt hS) rfl rfl (Nat.le_of_ble_eq_true rfl) dX12_has_45 ⟨(Nat.le_of_ble_eq_true rfl), (Nat.le_of_ble_eq_true rfl)⟩ (fun r_11 H locs hq12 hP hD hS => ?_)
        replace hq12 : (r_11.toInt = (q.2.2.2.length : Int)) := hq12
        have hP : va_P g.1 vwCl (List.flatten [bMo g o a th hi ac tp ba en at2_1 fl de iD iO tU fm fk fa fc ft ff fb fi]) H := hP
        have hD : va_D A (List.flatten [bMo g o a th hi ac tp ba en at2_1 fl de iD iO tU fm fk fa fc ft ff fb fi]) := hD
        refine W.widen (k := 0) (n := 0) (Nat.le_of_ble_eq_true rfl) (Nat.le_of_ble_eq_true rfl) ?_
        refine W.eq (g2 := F0 m 48 ls [.int r_11, .int x_10]) rfl ?_
        refine lv_icmp_eq (tgt := 53) hx hb dX12_has_48 (by decide) (fun cb9 => ?_) (fun cb9 => ?_)
        · skip
          have c13 : x_10.toInt = r_11.toInt := zeq cb9 rfl rfl
          refine lv_iconst (v := 0) hx hb dX12_has_53 (by decide) ?_
          refine lv_istore_n (lv' := [(3, .int 0), (0, .ref o), (1, .ref k), (2, .int x_3)]) hx hb dX12_has_54 rfl hl (by decide) rfl (fun ls hl => ?_)
          have hl := lv_sub (l' := [(0, .ref o), (1, .ref k), (2, .int x_3), (3, .int 0)]) hl [1, 2, 3, 0] rfl
          have LP55_16 : ∀ (kf : Nat) (x_14 : Int32), (0 ≤ x_14.toInt ∧ x_14.toInt ≤ 7) → ∀ (H : Heap) (locs : List Loc) (ls : Array Slot), ((8 - x_14.toInt).toNat) < kf → va_P g.1 vwCl (List.flatten [bMo g o a th hi ac tp ba en at2_1 fl de iD iO tU fm fk fa fc ft ff fb fi]) H → va_D A (List.flatten [bMo g o a th hi ac tp ba en at2_1 fl de iD iO tU fm fk fa fc ft ff fb fi]) → va_S A s.heap H locs → lv_has ls 4 [(0, .ref o), (1, .ref k), (2, .int x_3), (3, .int x_14)] → W p l e ({ frames := 4, cells := 0, slots := 0, locals := 85 } : Room) s m args below meth c H locs (0) (0) (zF g (fun u : Int32 × Int32 => (fun (at2 : Int32) (r : Int32) => some (.int r)) (u.1) (u.2)) (fun u : Int32 × Int32 => (fun (at2 : Int32) (r : Int32) => (0 ≤ at2.toInt ∧ at2.toInt ≤ en.toInt + 7 - de.toInt) ∧ (tA.toInt ≤ at2.toInt) ∧ (r = 1 ∧ tA.toInt < at2.toInt ∧ at2.toInt ≤ en.toInt ∨ r = 0)) (u.1) (u.2)) (fun u : Int32 × Int32 => (fun (at2 : Int32) (r : Int32) => [bMo g o a th hi ac tp ba en at2 fl de iD iO tU fm fk fa fc ft ff fb fi]) (u.1) (u.2)) ({ frames := 4, cells := 0, slots := 0, locals := 85 } : Room) below args s A) (F0 m 55 ls []) := by
            intro kf
            induction kf with
            | zero => intro x_14 i15 H locs ls hk; exact absurd hk (Nat.not_lt_zero _)
            | succ kf ih55_17 =>
              intro x_14 i15 H locs ls hk55_17 hP hD hS hl
              refine lv_iload_n hx hb dX12_has_55 rfl (lv_at hl 3 rfl) ?_
              refine lv_aload_n hx hb dX12_has_56 rfl (lv_at hl 1 rfl) ?_
              refine mcallL' (g := g) (As := []) (rest := [.int x_14]) St hK hT hA hP hD hS hl.1 [] [0] rfl rfl rfl (s_length l g k j q hk9 hj9 hql) (cwV 0 hts (zgL (zl4 k887 k263 k264 k223) k218) rfl rfl rfl (by decide +kernel) ⟨Nat.le_of_ble_eq_true rfl, Nat.le_of_ble_eq_true rfl⟩) (by rw [hk9]; exact zSt_recv hSt hS) rfl rfl (Nat.le_of_ble_eq_true rfl) dX12_has_57 ⟨(Nat.le_of_ble_eq_true rfl), (Nat.le_of_ble_eq_true rfl)⟩ (fun r_18 H locs hq19 hP hD hS => ?_)
              replace hq19 : (r_18.toInt = (q.2.2.2.length : Int)) := hq19
              have hP : va_P g.1 vwCl (List.flatten [bMo g o a th hi ac tp ba en at2_1 fl de iD iO tU fm fk fa fc ft ff fb fi]) H := hP
              have hD : va_D A (List.flatten [bMo g o a th hi ac tp ba en at2_1 fl de iD iO tU fm fk fa fc ft ff fb fi]) := hD
              refine W.widen (k := 0) (n := 0) (Nat.le_of_ble_eq_true rfl) (Nat.le_of_ble_eq_true rfl) ?_
              refine W.eq (g2 := F0 m 60 ls [.int r_18, .int x_14]) rfl ?_
              refine lv_icmp_ge (tgt := 89) hx hb dX12_has_60 (by decide) (fun cb9 => ?_) (fun cb9 => ?_)
              · skip
                have c20 : r_18.toInt ≤ x_14.toInt := zle cb9 rfl rfl
                refine lv_aload_n hx hb dX12_has_89 rfl (lv_at hl 0 rfl) ?_
                refine lv_iload_n hx hb dX12_has_90 rfl (lv_at hl 2 rfl) ?_
                refine va_put (D := g.1) (ci := 10) (v := .int x_3) (ty := .int) (C := RX12) (T := TX12) (N := 20) hx hb hts izRX12 tyX12 tyX12_ok nmX12 hown hK hP hD hS 0 rfl rfl 11 (by decide) (hts _ k878) (fun _ h9 => h9) rfl (by decide +kernel) rfl rfl (Nat.le_of_ble_eq_true rfl) dX12_has_91 (fun H locs hP hD hS => ?_)
                have hP : va_P g.1 vwCl (List.flatten [bMo g o a th hi ac tp ba en x_3 fl de iD iO tU fm fk fa fc ft ff fb fi]) H := hP
                have hD : va_D A (List.flatten [bMo g o a th hi ac tp ba en x_3 fl de iD iO tU fm fk fa fc ft ff fb fi]) := hD
                refine lv_iconst (v := 1) hx hb dX12_has_94 (by decide) ?_
                have hP : va_P g.1 vwCl (List.flatten [bMo g o a th hi ac tp ba en x_3 fl de iD iO tU fm fk fa fc ft ff fb fi]) H := hP
                have hD : va_D A (List.flatten [bMo g o a th hi ac tp ba en x_3 fl de iD iO tU fm fk fa fc ft ff fb fi]) := hD
                exact mret_z hx hb hr hlocks hS (Nat.le_of_ble_eq_true rfl) (Nat.le_of_ble_eq_true rfl) dX12_has_95 (x_3, (1 : Int32)) rfl (by decide) (show (0 ≤ x_3.toInt ∧ x_3.toInt ≤ en.toInt + 7 - de.toInt) ∧ (tA.toInt ≤ x_3.toInt) ∧ (1 = 1 ∧ tA.toInt < x_3.toInt ∧ x_3.toInt ≤ en.toInt ∨ 1 = 0) from ⟨(by first | assumption | omega), (by first | assumption | omega), by first | exact Or.inl ⟨rfl, by omega⟩ | exact Or.inr rfl⟩) hP hD
              · skip
                have c21 : x_14.toInt < r_18.toInt := zlti (Int32.not_le.mp cb9) rfl rfl
                refine lv_aload_n hx hb dX12_has_63 rfl (lv_at hl 0 rfl) ?_
                refine lv_aload_n hx hb dX12_has_64 rfl (lv_at hl 0 rfl) ?_
                refine va_get (D := g.1) (ci := 10) (v := .int at2_1) (C := RX12) (T := TX12) (N := 20) hx hb hts izRX12 hown hK hP 0 rfl rfl 11 (by decide) (hts _ k878) (fun _ h9 => h9) rfl dX12_has_65 ?_
                refine lv_iload_n hx hb dX12_has_68 rfl (lv_at hl 3 rfl) ?_
                refine lv_iadd hx hb dX12_has_69 ?_
                refine zgv (zadd (i := at2_1.toInt) (j := x_14.toInt) rfl rfl (by omega)) (fun x_22 hx_22 => ?_)
                refine mcallV' (g := g) (q0 := 0) (ci := 10) (As := [.int x_22]) (rest := []) St hK hT hA hP hD hS hl.1 [0] [] rfl rfl rfl (m_letter l g o a th hi ac tp ba en at2_1 fl de iD iO tU fm fk fa fc ft ff fb fi x_22 (by first | assumption | omega | decide | exact Or.inl (by decide) | exact Or.inr (by decide)) hba) (cwV 1 hts (zgL (zl4 k880 k881 k882 k839) k875) rfl rfl rfl (by decide +kernel) ⟨Nat.le_of_ble_eq_true rfl, Nat.le_of_ble_eq_true rfl⟩) rfl rfl rfl rfl (Nat.le_of_ble_eq_true rfl) dX12_has_70 ⟨(Nat.le_of_ble_eq_true rfl), (Nat.le_of_ble_eq_true rfl)⟩ (fun q_23 H locs hq24 hP hD hS => ?_)
                have hP : va_P g.1 vwCl (List.flatten [bMo g o a th hi ac tp ba en at2_1 fl de iD iO tU fm fk fa fc ft ff fb fi]) H := hP
                have hD : va_D A (List.flatten [bMo g o a th hi ac tp ba en at2_1 fl de iD iO tU fm fk fa fc ft ff fb fi]) := hD
                refine W.widen (k := 0) (n := 0) (Nat.le_of_ble_eq_true rfl) (Nat.le_of_ble_eq_true rfl) ?_
                refine W.eq (g2 := F0 m 73 ls [.int q_23]) rfl ?_
                refine lv_aload_n hx hb dX12_has_73 rfl (lv_at hl 1 rfl) ?_
                refine lv_iload_n hx hb dX12_has_74 rfl (lv_at hl 3 rfl) ?_
                refine mcallL' (g := g) (As := [.int x_14]) (rest := [.int q_23]) St hK hT hA hP hD hS hl.1 [] [0] rfl rfl rfl (s_char l g k j q x_14 hk9 hj9 hql (by first | assumption | omega | decide | exact Or.inl (by decide) | exact Or.inr (by decide))) (cwV 1 hts (zgL (zl4 k888 k266 k267 k223) k257) rfl rfl rfl (by decide +kernel) ⟨Nat.le_of_ble_eq_true rfl, Nat.le_of_ble_eq_true rfl⟩) (by rw [hk9]; exact zSt_recv hSt hS) rfl rfl (Nat.le_of_ble_eq_true rfl) dX12_has_75 ⟨(Nat.le_of_ble_eq_true rfl), (Nat.le_of_ble_eq_true rfl)⟩ (fun r_25 H locs hq26 hP hD hS => ?_)
                replace hq26 : (narrow .char (.int r_25) = .int r_25) := hq26
                have hP : va_P g.1 vwCl (List.flatten [bMo g o a th hi ac tp ba en at2_1 fl de iD iO tU fm fk fa fc ft ff fb fi]) H := hP
                have hD : va_D A (List.flatten [bMo g o a th hi ac tp ba en at2_1 fl de iD iO tU fm fk fa fc ft ff fb fi]) := hD
                refine W.widen (k := 0) (n := 0) (Nat.le_of_ble_eq_true rfl) (Nat.le_of_ble_eq_true rfl) ?_
                refine W.eq (g2 := F0 m 78 ls [.int r_25, .int q_23]) rfl ?_
                refine lv_icmp_eq (tgt := 83) hx hb dX12_has_78 (by decide) (fun cb9 => ?_) (fun cb9 => ?_)
                · skip
                  have c27 : q_23.toInt = r_25.toInt := zeq cb9 rfl rfl
                  refine ziinc (j := x_14.toInt + 1) (lv' := fun v9 => [(3, .int v9), (0, .ref o), (1, .ref k), (2, .int x_3)]) hx hb dX12_has_83 hl (k := 3) rfl (by decide) (fun _ => rfl) (zadd (i := x_14.toInt) (j := 1) rfl (by decide) (by omega)) (fun x_28 ls hx_28 hl => ?_)
                  refine lv_goto (tgt := 55) hx hb dX12_has_86 (by decide) ?_
                  have hl := lv_sub (l' := [(0, .ref o), (1, .ref k), (2, .int x_3), (3, .int x_28)]) hl [1, 2, 3, 0] rfl
                  have hP : va_P g.1 vwCl (List.flatten [bMo g o a th hi ac tp ba en at2_1 fl de iD iO tU fm fk fa fc ft ff fb fi]) H := hP
                  have hD : va_D A (List.flatten [bMo g o a th hi ac tp ba en at2_1 fl de iD iO tU fm fk fa fc ft ff fb fi]) := hD
                  exact ih55_17 x_28 (by first | omega | assumption | decide) H _ ls (by omega)  hP hD hS (lv_sub hl [0, 1, 2, 3] rfl)
                · skip
                  have c29 : ¬ q_23.toInt = r_25.toInt := zne cb9 rfl rfl
                  refine lv_iconst (v := 0) hx hb dX12_has_81 (by decide) ?_
                  have hP : va_P g.1 vwCl (List.flatten [bMo g o a th hi ac tp ba en at2_1 fl de iD iO tU fm fk fa fc ft ff fb fi]) H := hP
                  have hD : va_D A (List.flatten [bMo g o a th hi ac tp ba en at2_1 fl de iD iO tU fm fk fa fc ft ff fb fi]) := hD
                  exact mret_z hx hb hr hlocks hS (Nat.le_of_ble_eq_true rfl) (Nat.le_of_ble_eq_true rfl) dX12_has_82 (at2_1, (0 : Int32)) rfl (by decide) (show (0 ≤ at2_1.toInt ∧ at2_1.toInt ≤ en.toInt + 7 - de.toInt) ∧ (tA.toInt ≤ at2_1.toInt) ∧ (0 = 1 ∧ tA.toInt < at2_1.toInt ∧ at2_1.toInt ≤ en.toInt ∨ 0 = 0) from ⟨(by first | assumption | omega), (by first | assumption | omega), by first | exact Or.inl ⟨rfl, by omega⟩ | exact Or.inr rfl⟩) hP hD
          have hP : va_P g.1 vwCl (List.flatten [bMo g o a th hi ac tp ba en at2_1 fl de iD iO tU fm fk fa fc ft ff fb fi]) H := hP
          have hD : va_D A (List.flatten [bMo g o a th hi ac tp ba en at2_1 fl de iD iO tU fm fk fa fc ft ff fb fi]) := hD
          exact LP55_16 _ 0 (by decide) H _ ls (Nat.lt_succ_self _)  hP hD hS (lv_sub hl [0, 1, 2, 3] rfl)
        · skip
          have c30 : ¬ x_10.toInt = r_11.toInt := zne cb9 rfl rfl
          refine lv_iconst (v := 0) hx hb dX12_has_51 (by decide) ?_
          have hP : va_P g.1 vwCl (List.flatten [bMo g o a th hi ac tp ba en at2_1 fl de iD iO tU fm fk fa fc ft ff fb fi]) H := hP
          have hD : va_D A (List.flatten [bMo g o a th hi ac tp ba en at2_1 fl de iD iO tU fm fk fa fc ft ff fb fi]) := hD
          exact mret_z hx hb hr hlocks hS (Nat.le_of_ble_eq_true rfl) (Nat.le_of_ble_eq_true rfl) dX12_has_52 (at2_1, (0 : Int32)) rfl (by decide) (show (0 ≤ at2_1.toInt ∧ at2_1.toInt ≤ en.toInt + 7 - de.toInt) ∧ (tA.toInt ≤ at2_1.toInt) ∧ (0 = 1 ∧ tA.toInt < at2_1.toInt ∧ at2_1.toInt ≤ en.toInt ∨ 0 = 0) from ⟨(by first | assumption | omega), (by first | assumption | omega), by first | exact Or.inl ⟨rfl, by omega⟩ | exact Or.inr rfl⟩) hP hD
      · skip
        have c31 : x_3.toInt < en.toInt := zlti (Int32.not_le.mp cb9) rfl rfl
        have n32 : x_3.toInt ≤ 399 := zL1 (b := 400) c31 hen.2 (by decide)
        have n33 : 1 ≤ en.toInt := zL2 (a := 0) c31 i4.1 (by decide)
        refine lv_aload_n hx hb dX12_has_17 rfl (lv_at hl 0 rfl) ?_
        refine lv_iload_n hx hb dX12_has_18 rfl (lv_at hl 2 rfl) ?_
        refine mcallV' (g := g) (q0 := 0) (ci := 10) (As := [.int x_3]) (rest := []) St hK hT hA hP hD hS hl.1 [0] [] rfl rfl rfl (m_letter l g o a th hi ac tp ba en at2_1 fl de iD iO tU fm fk fa fc ft ff fb fi x_3 (⟨i4.1, n32⟩) hba) (cwV 1 hts (zgL (zl4 k880 k881 k882 k839) k875) rfl rfl rfl (by decide +kernel) ⟨Nat.le_of_ble_eq_true rfl, Nat.le_of_ble_eq_true rfl⟩) rfl rfl rfl rfl (Nat.le_of_ble_eq_true rfl) dX12_has_19 ⟨(Nat.le_of_ble_eq_true rfl), (Nat.le_of_ble_eq_true rfl)⟩ (fun q_34 H locs hq35 hP hD hS => ?_)
        have hP : va_P g.1 vwCl (List.flatten [bMo g o a th hi ac tp ba en at2_1 fl de iD iO tU fm fk fa fc ft ff fb fi]) H := hP
        have hD : va_D A (List.flatten [bMo g o a th hi ac tp ba en at2_1 fl de iD iO tU fm fk fa fc ft ff fb fi]) := hD
        refine W.widen (k := 0) (n := 0) (Nat.le_of_ble_eq_true rfl) (Nat.le_of_ble_eq_true rfl) ?_
        refine W.eq (g2 := F0 m 22 ls [.int q_34]) rfl ?_
        refine lv_bipush (v := 97) hx hb dX12_has_22 (by decide) ?_
        refine lv_bipush (v := 122) hx hb dX12_has_24 (by decide) ?_
        have hL97 : (97 : Int32).toInt = 97 := by decide
        have hL122 : (122 : Int32).toInt = 122 := by decide
        refine mcallS' (g := g) (As := [.int q_34, .int 97, .int 122]) (rest := []) St hK hT hA hP hD hS hl.1 [] [0] rfl rfl rfl (m_isIn l g q_34 97 122 ) (va_cwS 3 hts (zgL (zl3 k837 k838 k839) k826) rfl rfl rfl (by decide +kernel) ⟨Nat.le_of_ble_eq_true rfl, Nat.le_of_ble_eq_true rfl⟩) rfl rfl (Nat.le_of_ble_eq_true rfl) dX12_has_26 ⟨(Nat.le_of_ble_eq_true rfl), (Nat.le_of_ble_eq_true rfl)⟩ (fun q_36 H locs hq37 hP hD hS => ?_)
        replace hq37 : (q_36 = 1 ∧ (97 : Int32).toInt ≤ q_34.toInt ∧ q_34.toInt ≤ (122 : Int32).toInt ∨ q_36 = 0 ∧ (q_34.toInt < (97 : Int32).toInt ∨ (122 : Int32).toInt < q_34.toInt)) := hq37
        have hP : va_P g.1 vwCl (List.flatten [bMo g o a th hi ac tp ba en at2_1 fl de iD iO tU fm fk fa fc ft ff fb fi]) H := hP
        have hD : va_D A (List.flatten [bMo g o a th hi ac tp ba en at2_1 fl de iD iO tU fm fk fa fc ft ff fb fi]) := hD
        refine W.widen (k := 0) (n := 0) (Nat.le_of_ble_eq_true rfl) (Nat.le_of_ble_eq_true rfl) ?_
        refine W.eq (g2 := F0 m 29 ls [.int q_36]) rfl ?_
        rcases hq37 with ⟨rfl, hq37_k⟩ | ⟨rfl, hq37_k⟩
        · skip
          refine lv_if_eq (tgt := 38) hx hb dX12_has_29 (by decide) (fun c38 => absurd c38 (by decide)) (fun _ => ?_)
          refine ziinc3 (n' := 1) (a' := 1) (b' := 400) (lv' := fun v9 => [(2, .int v9), (0, .ref o), (1, .ref k)]) hx hb dX12_has_32 hl (k := 2) rfl (by decide) (fun _ => rfl) (zaddK (i := x_3.toInt) (j := 1) rfl (by decide) i4.1 n32 (Int.le_refl _) (Int.le_refl _) (by decide)) (fun x_39 ls hx_39 hl => ?_)
          refine lv_goto (tgt := 9) hx hb dX12_has_35 (by decide) ?_
          have hl := lv_sub (l' := [(0, .ref o), (1, .ref k), (2, .int x_39)]) hl [1, 2, 0] rfl
          have hP : va_P g.1 vwCl (List.flatten [bMo g o a th hi ac tp ba en at2_1 fl de iD iO tU fm fk fa fc ft ff fb fi]) H := hP
          have hD : va_D A (List.flatten [bMo g o a th hi ac tp ba en at2_1 fl de iD iO tU fm fk fa fc ft ff fb fi]) := hD
          exact ih9_8 x_39 ⟨(Int.le_trans (by decide) hx_39.2.1), (Int.le_trans hx_39.2.2 (by decide))⟩ (by first | omega | assumption | decide) (by first | omega | assumption | decide) H _ ls (by omega)  hP hD hS (lv_sub hl [0, 1, 2] rfl)
        · skip
          refine lv_if_eq (tgt := 38) hx hb dX12_has_29 (by decide) (fun _ => ?_) (fun c40 => absurd (by decide) c40)
          refine lv_iload_n hx hb dX12_has_38 rfl (lv_at hl 2 rfl) ?_
          refine lv_aload_n hx hb dX12_has_39 rfl (lv_at hl 0 rfl) ?_
          refine va_get (D := g.1) (ci := 10) (v := .int at2_1) (C := RX12) (T := TX12) (N := 20) hx hb hts izRX12 hown hK hP 0 rfl rfl 11 (by decide) (hts _ k878) (fun _ h9 => h9) rfl dX12_has_40 ?_
          refine lv_isub hx hb dX12_has_43 ?_
          refine zgv (zsub (i := x_3.toInt) (j := at2_1.toInt) rfl rfl (by omega)) (fun x_41 hx_41 => ?_)
          refine lv_aload_n hx hb dX12_has_44 rfl (lv_at hl 1 rfl) ?_
          refine mcallL' (g := g) (As := []) (rest := [.int x_41]) St hK hT hA hP hD hS hl.1 [] [0] rfl rfl rfl (s_length l g k j q hk9 hj9 hql) (cwV 0 hts (zgL (zl4 k887 k263 k264 k223) k218) rfl rfl rfl (by decide +kernel) ⟨Nat.le_of_ble_eq_true rfl, Nat.le_of_ble_eq_true rfl⟩) (by rw [hk9]; exact zSt_recv hSt hS) rfl rfl (Nat.le_of_ble_eq_true rfl) dX12_has_45 ⟨(Nat.le_of_ble_eq_true rfl), (Nat.le_of_ble_eq_true rfl)⟩ (fun r_42 H locs hq43 hP hD hS => ?_)
          replace hq43 : (r_42.toInt = (q.2.2.2.length : Int)) := hq43
          have hP : va_P g.1 vwCl (List.flatten [bMo g o a th hi ac tp ba en at2_1 fl de iD iO tU fm fk fa fc ft ff fb fi]) H := hP
          have hD : va_D A (List.flatten [bMo g o a th hi ac tp ba en at2_1 fl de iD iO tU fm fk fa fc ft ff fb fi]) := hD
          refine W.widen (k := 0) (n := 0) (Nat.le_of_ble_eq_true rfl) (Nat.le_of_ble_eq_true rfl) ?_
          refine W.eq (g2 := F0 m 48 ls [.int r_42, .int x_41]) rfl ?_
          refine lv_icmp_eq (tgt := 53) hx hb dX12_has_48 (by decide) (fun cb9 => ?_) (fun cb9 => ?_)
          · skip
            have c44 : x_41.toInt = r_42.toInt := zeq cb9 rfl rfl
            refine lv_iconst (v := 0) hx hb dX12_has_53 (by decide) ?_
            refine lv_istore_n (lv' := [(3, .int 0), (0, .ref o), (1, .ref k), (2, .int x_3)]) hx hb dX12_has_54 rfl hl (by decide) rfl (fun ls hl => ?_)
            have hl := lv_sub (l' := [(0, .ref o), (1, .ref k), (2, .int x_3), (3, .int 0)]) hl [1, 2, 3, 0] rfl
            have LP55_47 : ∀ (kf : Nat) (x_45 : Int32), (0 ≤ x_45.toInt ∧ x_45.toInt ≤ 7) → ∀ (H : Heap) (locs : List Loc) (ls : Array Slot), ((8 - x_45.toInt).toNat) < kf → va_P g.1 vwCl (List.flatten [bMo g o a th hi ac tp ba en at2_1 fl de iD iO tU fm fk fa fc ft ff fb fi]) H → va_D A (List.flatten [bMo g o a th hi ac tp ba en at2_1 fl de iD iO tU fm fk fa fc ft ff fb fi]) → va_S A s.heap H locs → lv_has ls 4 [(0, .ref o), (1, .ref k), (2, .int x_3), (3, .int x_45)] → W p l e ({ frames := 4, cells := 0, slots := 0, locals := 85 } : Room) s m args below meth c H locs (0) (0) (zF g (fun u : Int32 × Int32 => (fun (at2 : Int32) (r : Int32) => some (.int r)) (u.1) (u.2)) (fun u : Int32 × Int32 => (fun (at2 : Int32) (r : Int32) => (0 ≤ at2.toInt ∧ at2.toInt ≤ en.toInt + 7 - de.toInt) ∧ (tA.toInt ≤ at2.toInt) ∧ (r = 1 ∧ tA.toInt < at2.toInt ∧ at2.toInt ≤ en.toInt ∨ r = 0)) (u.1) (u.2)) (fun u : Int32 × Int32 => (fun (at2 : Int32) (r : Int32) => [bMo g o a th hi ac tp ba en at2 fl de iD iO tU fm fk fa fc ft ff fb fi]) (u.1) (u.2)) ({ frames := 4, cells := 0, slots := 0, locals := 85 } : Room) below args s A) (F0 m 55 ls []) := by
              intro kf
              induction kf with
              | zero => intro x_45 i46 H locs ls hk; exact absurd hk (Nat.not_lt_zero _)
              | succ kf ih55_48 =>
                intro x_45 i46 H locs ls hk55_48 hP hD hS hl
                refine lv_iload_n hx hb dX12_has_55 rfl (lv_at hl 3 rfl) ?_
                refine lv_aload_n hx hb dX12_has_56 rfl (lv_at hl 1 rfl) ?_
                refine mcallL' (g := g) (As := []) (rest := [.int x_45]) St hK hT hA hP hD hS hl.1 [] [0] rfl rfl rfl (s_length l g k j q hk9 hj9 hql) (cwV 0 hts (zgL (zl4 k887 k263 k264 k223) k218) rfl rfl rfl (by decide +kernel) ⟨Nat.le_of_ble_eq_true rfl, Nat.le_of_ble_eq_true rfl⟩) (by rw [hk9]; exact zSt_recv hSt hS) rfl rfl (Nat.le_of_ble_eq_true rfl) dX12_has_57 ⟨(Nat.le_of_ble_eq_true rfl), (Nat.le_of_ble_eq_true rfl)⟩ (fun r_49 H locs hq50 hP hD hS => ?_)
                replace hq50 : (r_49.toInt = (q.2.2.2.length : Int)) := hq50
                have hP : va_P g.1 vwCl (List.flatten [bMo g o a th hi ac tp ba en at2_1 fl de iD iO tU fm fk fa fc ft ff fb fi]) H := hP
                have hD : va_D A (List.flatten [bMo g o a th hi ac tp ba en at2_1 fl de iD iO tU fm fk fa fc ft ff fb fi]) := hD
                refine W.widen (k := 0) (n := 0) (Nat.le_of_ble_eq_true rfl) (Nat.le_of_ble_eq_true rfl) ?_
                refine W.eq (g2 := F0 m 60 ls [.int r_49, .int x_45]) rfl ?_
                refine lv_icmp_ge (tgt := 89) hx hb dX12_has_60 (by decide) (fun cb9 => ?_) (fun cb9 => ?_)
                · skip
                  have c51 : r_49.toInt ≤ x_45.toInt := zle cb9 rfl rfl
                  refine lv_aload_n hx hb dX12_has_89 rfl (lv_at hl 0 rfl) ?_
                  refine lv_iload_n hx hb dX12_has_90 rfl (lv_at hl 2 rfl) ?_
                  refine va_put (D := g.1) (ci := 10) (v := .int x_3) (ty := .int) (C := RX12) (T := TX12) (N := 20) hx hb hts izRX12 tyX12 tyX12_ok nmX12 hown hK hP hD hS 0 rfl rfl 11 (by decide) (hts _ k878) (fun _ h9 => h9) rfl (by decide +kernel) rfl rfl (Nat.le_of_ble_eq_true rfl) dX12_has_91 (fun H locs hP hD hS => ?_)
                  have hP : va_P g.1 vwCl (List.flatten [bMo g o a th hi ac tp ba en x_3 fl de iD iO tU fm fk fa fc ft ff fb fi]) H := hP
                  have hD : va_D A (List.flatten [bMo g o a th hi ac tp ba en x_3 fl de iD iO tU fm fk fa fc ft ff fb fi]) := hD
                  refine lv_iconst (v := 1) hx hb dX12_has_94 (by decide) ?_
                  have hP : va_P g.1 vwCl (List.flatten [bMo g o a th hi ac tp ba en x_3 fl de iD iO tU fm fk fa fc ft ff fb fi]) H := hP
                  have hD : va_D A (List.flatten [bMo g o a th hi ac tp ba en x_3 fl de iD iO tU fm fk fa fc ft ff fb fi]) := hD
                  exact mret_z hx hb hr hlocks hS (Nat.le_of_ble_eq_true rfl) (Nat.le_of_ble_eq_true rfl) dX12_has_95 (x_3, (1 : Int32)) rfl (by decide) (show (0 ≤ x_3.toInt ∧ x_3.toInt ≤ en.toInt + 7 - de.toInt) ∧ (tA.toInt ≤ x_3.toInt) ∧ (1 = 1 ∧ tA.toInt < x_3.toInt ∧ x_3.toInt ≤ en.toInt ∨ 1 = 0) from ⟨(by first | assumption | omega), (by first | assumption | omega), by first | exact Or.inl ⟨rfl, by omega⟩ | exact Or.inr rfl⟩) hP hD
                · skip
                  have c52 : x_45.toInt < r_49.toInt := zlti (Int32.not_le.mp cb9) rfl rfl
                  refine lv_aload_n hx hb dX12_has_63 rfl (lv_at hl 0 rfl) ?_
                  refine lv_aload_n hx hb dX12_has_64 rfl (lv_at hl 0 rfl) ?_
                  refine va_get (D := g.1) (ci := 10) (v := .int at2_1) (C := RX12) (T := TX12) (N := 20) hx hb hts izRX12 hown hK hP 0 rfl rfl 11 (by decide) (hts _ k878) (fun _ h9 => h9) rfl dX12_has_65 ?_
                  refine lv_iload_n hx hb dX12_has_68 rfl (lv_at hl 3 rfl) ?_
                  refine lv_iadd hx hb dX12_has_69 ?_
                  refine zgv (zadd (i := at2_1.toInt) (j := x_45.toInt) rfl rfl (by omega)) (fun x_53 hx_53 => ?_)
                  refine mcallV' (g := g) (q0 := 0) (ci := 10) (As := [.int x_53]) (rest := []) St hK hT hA hP hD hS hl.1 [0] [] rfl rfl rfl (m_letter l g o a th hi ac tp ba en at2_1 fl de iD iO tU fm fk fa fc ft ff fb fi x_53 (by first | assumption | omega | decide | exact Or.inl (by decide) | exact Or.inr (by decide)) hba) (cwV 1 hts (zgL (zl4 k880 k881 k882 k839) k875) rfl rfl rfl (by decide +kernel) ⟨Nat.le_of_ble_eq_true rfl, Nat.le_of_ble_eq_true rfl⟩) rfl rfl rfl rfl (Nat.le_of_ble_eq_true rfl) dX12_has_70 ⟨(Nat.le_of_ble_eq_true rfl), (Nat.le_of_ble_eq_true rfl)⟩ (fun q_54 H locs hq55 hP hD hS => ?_)
                  have hP : va_P g.1 vwCl (List.flatten [bMo g o a th hi ac tp ba en at2_1 fl de iD iO tU fm fk fa fc ft ff fb fi]) H := hP
                  have hD : va_D A (List.flatten [bMo g o a th hi ac tp ba en at2_1 fl de iD iO tU fm fk fa fc ft ff fb fi]) := hD
                  refine W.widen (k := 0) (n := 0) (Nat.le_of_ble_eq_true rfl) (Nat.le_of_ble_eq_true rfl) ?_
                  refine W.eq (g2 := F0 m 73 ls [.int q_54]) rfl ?_
                  refine lv_aload_n hx hb dX12_has_73 rfl (lv_at hl 1 rfl) ?_
                  refine lv_iload_n hx hb dX12_has_74 rfl (lv_at hl 3 rfl) ?_
                  refine mcallL' (g := g) (As := [.int x_45]) (rest := [.int q_54]) St hK hT hA hP hD hS hl.1 [] [0] rfl rfl rfl (s_char l g k j q x_45 hk9 hj9 hql (by first | assumption | omega | decide | exact Or.inl (by decide) | exact Or.inr (by decide))) (cwV 1 hts (zgL (zl4 k888 k266 k267 k223) k257) rfl rfl rfl (by decide +kernel) ⟨Nat.le_of_ble_eq_true rfl, Nat.le_of_ble_eq_true rfl⟩) (by rw [hk9]; exact zSt_recv hSt hS) rfl rfl (Nat.le_of_ble_eq_true rfl) dX12_has_75 ⟨(Nat.le_of_ble_eq_true rfl), (Nat.le_of_ble_eq_true rfl)⟩ (fun r_56 H locs hq57 hP hD hS => ?_)
                  replace hq57 : (narrow .char (.int r_56) = .int r_56) := hq57
                  have hP : va_P g.1 vwCl (List.flatten [bMo g o a th hi ac tp ba en at2_1 fl de iD iO tU fm fk fa fc ft ff fb fi]) H := hP
                  have hD : va_D A (List.flatten [bMo g o a th hi ac tp ba en at2_1 fl de iD iO tU fm fk fa fc ft ff fb fi]) := hD
                  refine W.widen (k := 0) (n := 0) (Nat.le_of_ble_eq_true rfl) (Nat.le_of_ble_eq_true rfl) ?_
                  refine W.eq (g2 := F0 m 78 ls [.int r_56, .int q_54]) rfl ?_
                  refine lv_icmp_eq (tgt := 83) hx hb dX12_has_78 (by decide) (fun cb9 => ?_) (fun cb9 => ?_)
                  · skip
                    have c58 : q_54.toInt = r_56.toInt := zeq cb9 rfl rfl
                    refine ziinc (j := x_45.toInt + 1) (lv' := fun v9 => [(3, .int v9), (0, .ref o), (1, .ref k), (2, .int x_3)]) hx hb dX12_has_83 hl (k := 3) rfl (by decide) (fun _ => rfl) (zadd (i := x_45.toInt) (j := 1) rfl (by decide) (by omega)) (fun x_59 ls hx_59 hl => ?_)
                    refine lv_goto (tgt := 55) hx hb dX12_has_86 (by decide) ?_
                    have hl := lv_sub (l' := [(0, .ref o), (1, .ref k), (2, .int x_3), (3, .int x_59)]) hl [1, 2, 3, 0] rfl
                    have hP : va_P g.1 vwCl (List.flatten [bMo g o a th hi ac tp ba en at2_1 fl de iD iO tU fm fk fa fc ft ff fb fi]) H := hP
                    have hD : va_D A (List.flatten [bMo g o a th hi ac tp ba en at2_1 fl de iD iO tU fm fk fa fc ft ff fb fi]) := hD
                    exact ih55_48 x_59 (by first | omega | assumption | decide) H _ ls (by omega)  hP hD hS (lv_sub hl [0, 1, 2, 3] rfl)
                  · skip
                    have c60 : ¬ q_54.toInt = r_56.toInt := zne cb9 rfl rfl
                    refine lv_iconst (v := 0) hx hb dX12_has_81 (by decide) ?_
                    have hP : va_P g.1 vwCl (List.flatten [bMo g o a th hi ac tp ba en at2_1 fl de iD iO tU fm fk fa fc ft ff fb fi]) H := hP
                    have hD : va_D A (List.flatten [bMo g o a th hi ac tp ba en at2_1 fl de iD iO tU fm fk fa fc ft ff fb fi]) := hD
                    exact mret_z hx hb hr hlocks hS (Nat.le_of_ble_eq_true rfl) (Nat.le_of_ble_eq_true rfl) dX12_has_82 (at2_1, (0 : Int32)) rfl (by decide) (show (0 ≤ at2_1.toInt ∧ at2_1.toInt ≤ en.toInt + 7 - de.toInt) ∧ (tA.toInt ≤ at2_1.toInt) ∧ (0 = 1 ∧ tA.toInt < at2_1.toInt ∧ at2_1.toInt ≤ en.toInt ∨ 0 = 0) from ⟨(by first | assumption | omega), (by first | assumption | omega), by first | exact Or.inl ⟨rfl, by omega⟩ | exact Or.inr rfl⟩) hP hD
            have hP : va_P g.1 vwCl (List.flatten [bMo g o a th hi ac tp ba en at2_1 fl de iD iO tU fm fk fa fc ft ff fb fi]) H := hP
            have hD : va_D A (List.flatten [bMo g o a th hi ac tp ba en at2_1 fl de iD iO tU fm fk fa fc ft ff fb fi]) := hD
            exact LP55_47 _ 0 (by decide) H _ ls (Nat.lt_succ_self _)  hP hD hS (lv_sub hl [0, 1, 2, 3] rfl)
          · skip
            have c61 : ¬ x_41.toInt = r_42.toInt := zne cb9 rfl rfl
            refine lv_iconst (v := 0) hx hb dX12_has_51 (by decide) ?_
            have hP : va_P g.1 vwCl (List.flatten [bMo g o a th hi ac tp ba en at2_1 fl de iD iO tU fm fk fa fc ft ff fb fi]) H := hP
            have hD : va_D A (List.flatten [bMo g o a th hi ac tp ba en at2_1 fl de iD iO tU fm fk fa fc ft ff fb fi]) := hD
            exact mret_z hx hb hr hlocks hS (Nat.le_of_ble_eq_true rfl) (Nat.le_of_ble_eq_true rfl) dX12_has_52 (at2_1, (0 : Int32)) rfl (by decide) (show (0 ≤ at2_1.toInt ∧ at2_1.toInt ≤ en.toInt + 7 - de.toInt) ∧ (tA.toInt ≤ at2_1.toInt) ∧ (0 = 1 ∧ tA.toInt < at2_1.toInt ∧ at2_1.toInt ≤ en.toInt ∨ 0 = 0) from ⟨(by first | assumption | omega), (by first | assumption | omega), by first | exact Or.inl ⟨rfl, by omega⟩ | exact Or.inr rfl⟩) hP hD
  have hP : va_P g.1 vwCl (List.flatten [bMo g o a th hi ac tp ba en at2_1 fl de iD iO tU fm fk fa fc ft ff fb fi]) H := hP
  have hD : va_D A (List.flatten [bMo g o a th hi ac tp ba en at2_1 fl de iD iO tU fm fk fa fc ft ff fb fi]) := hD
  exact LP9_7 _ at2_1 (by first | omega | assumption | decide) (by first | omega | assumption | decide) (by first | omega | assumption | decide) H _ ls (Nat.lt_succ_self _)  hP hD hS (lv_sub hl [0, 1, 2] rfl)
set_option maxRecDepth 100000 in
set_option maxHeartbeats 4000000 in
theorem m_wrong (l : Launch) (g : zG) (o : Nat) (a : Nat → Nat) (th : Int32) (hi : Int32) (ac : Int32) (tp : Int32) (ba : Int32) (en : Int32) (tA : Int32) (fl : Int32) (de : Int32) (iD : Int32) (iO : Int32) (tU : Int32) (fm : Nat → Int32) (fk : Nat → Int32) (fa : Nat → Int32) (fc : Nat → Int32) (ft : Nat → Int32) (ff : Nat → Int32) (fb : Nat → Int32) (fi : Nat → Int32) (where_ : Int32) (hwh : 0 ≤ where_.toInt) (hfl : -1 ≤ fl.toInt) : zM' g l yX12_wrong (Cond.code yX12_wrong cX12_wrong 2 none :: zB) ({ frames := 0, cells := 0, slots := 0, locals := 0 } : Room) [.ref o, .int where_] [bMo g o a th hi ac tp ba en tA fl de iD iO tU fm fk fa fc ft ff fb fi] (fun (fl2 : Int32) => none) (fun (fl2 : Int32) => (0 ≤ fl2.toInt)) (fun (fl2 : Int32) => [bMo g o a th hi ac tp ba en tA fl2 de iD iO tU fm fk fa fc ft ff fb fi]) := by
  refine zM'.of (cc := cX12_wrong) (maxL := 2) (rt := none) (by decide) rfl (Nat.le_of_ble_eq_true rfl) ?_
  intro p e s m args below meth c A ls St hr hlocks hin hK hT hA hP hD hS hl
  obtain ⟨hx, hb, hml, hown, hts⟩ := id St
  have hl : lv_has ls 2 [(0, .ref o), (1, .int where_)] := hl
  refine lv_aload_n hx hb dX12_wrong_0 rfl (lv_at hl 0 rfl) ?_
  refine va_get (D := g.1) (ci := 10) (v := .int fl) (C := RX12) (T := TX12) (N := 20) hx hb hts izRX12 hown hK hP 0 rfl rfl 12 (by decide) (hts _ k820) (fun _ h9 => h9) rfl dX12_wrong_1 ?_
  refine lv_iconst (v := (-1)) hx hb dX12_wrong_4 (by decide) ?_
  refine lv_icmp_ne (tgt := 13) hx hb dX12_wrong_5 (by decide) (fun cb9 => ?_) (fun cb9 => ?_)
  · skip
    have c1 : ¬ fl.toInt = (-1) := zne cb9 rfl (by decide)
    have hP : va_P g.1 vwCl (List.flatten [bMo g o a th hi ac tp ba en tA fl de iD iO tU fm fk fa fc ft ff fb fi]) s.heap := hP
    have hD : va_D A (List.flatten [bMo g o a th hi ac tp ba en tA fl de iD iO tU fm fk fa fc ft ff fb fi]) := hD
    exact mret_v hx hb hr hlocks hS (Nat.le_of_ble_eq_true rfl) (Nat.le_of_ble_eq_true rfl) dX12_wrong_13 (fl) rfl (show (0 ≤ fl.toInt) from (by first | assumption | omega | decide | exact rfl | exact zb01 (by omega) | exact Or.inl (by decide) | exact Or.inr (by first | omega | decide))) hP hD
  · skip
    have c2 : fl.toInt = (-1) := zeq cb9 rfl (by decide)
    have n3 : fl.toInt ≤ (-1) := Int.le_trans (Int.le_of_eq c2) (Int.le_refl _)
    refine lv_aload_n hx hb dX12_wrong_8 rfl (lv_at hl 0 rfl) ?_
    refine lv_iload_n hx hb dX12_wrong_9 rfl (lv_at hl 1 rfl) ?_
    refine va_put (D := g.1) (ci := 10) (v := .int where_) (ty := .int) (C := RX12) (T := TX12) (N := 20) hx hb hts izRX12 tyX12 tyX12_ok nmX12 hown hK hP hD hS 0 rfl rfl 12 (by decide) (hts _ k820) (fun _ h9 => h9) rfl (by decide +kernel) rfl rfl (Nat.le_of_ble_eq_true rfl) dX12_wrong_10 (fun H locs hP hD hS => ?_)
    have hP : va_P g.1 vwCl (List.flatten [bMo g o a th hi ac tp ba en tA where_ de iD iO tU fm fk fa fc ft ff fb fi]) H := hP
    have hD : va_D A (List.flatten [bMo g o a th hi ac tp ba en tA where_ de iD iO tU fm fk fa fc ft ff fb fi]) := hD
    have hP : va_P g.1 vwCl (List.flatten [bMo g o a th hi ac tp ba en tA where_ de iD iO tU fm fk fa fc ft ff fb fi]) H := hP
    have hD : va_D A (List.flatten [bMo g o a th hi ac tp ba en tA where_ de iD iO tU fm fk fa fc ft ff fb fi]) := hD
    exact mret_v hx hb hr hlocks hS (Nat.le_of_ble_eq_true rfl) (Nat.le_of_ble_eq_true rfl) dX12_wrong_13 (where_) rfl (show (0 ≤ where_.toInt) from hwh) hP hD
set_option maxRecDepth 100000 in
set_option maxHeartbeats 4000000 in
theorem m_here (l : Launch) (g : zG) (o : Nat) (a : Nat → Nat) (th : Int32) (hi : Int32) (ac : Int32) (tp : Int32) (ba : Int32) (en : Int32) (tA : Int32) (fl : Int32) (de : Int32) (iD : Int32) (iO : Int32) (tU : Int32) (fm : Nat → Int32) (fk : Nat → Int32) (fa : Nat → Int32) (fc : Nat → Int32) (ft : Nat → Int32) (ff : Nat → Int32) (fb : Nat → Int32) (fi : Nat → Int32) (hba : zBa ba.toInt) (hen : 0 ≤ en.toInt ∧ en.toInt ≤ 400) (htA : 0 ≤ tA.toInt ∧ tA.toInt ≤ en.toInt + 7 - de.toInt) (hfl : -1 ≤ fl.toInt) (hde : 0 ≤ de.toInt ∧ de.toInt ≤ 6) : zM' g l yX12_here (Cond.code yX12_here cX12_here 1 (some .int) :: zB) ({ frames := 2, cells := 0, slots := 0, locals := 41 } : Room) [.ref o] [bMo g o a th hi ac tp ba en tA fl de iD iO tU fm fk fa fc ft ff fb fi] (fun (at2 : Int32) => some (.int at2)) (fun (at2 : Int32) => (0 ≤ at2.toInt ∧ at2.toInt ≤ en.toInt + 7 - de.toInt) ∧ (tA.toInt ≤ at2.toInt)) (fun (at2 : Int32) => [bMo g o a th hi ac tp ba en at2 fl de iD iO tU fm fk fa fc ft ff fb fi]) := by
  refine zM'.of (cc := cX12_here) (maxL := 1) (rt := (some .int)) (by decide) rfl (Nat.le_of_ble_eq_true rfl) ?_
  intro p e s m args below meth c A ls St hr hlocks hin hK hT hA hP hD hS hl
  obtain ⟨hx, hb, hml, hown, hts⟩ := id St
  have hl : lv_has ls 1 [(0, .ref o)] := hl
  refine lv_aload_n hx hb dX12_here_0 rfl (lv_at hl 0 rfl) ?_
  refine mcallV' (g := g) (q0 := 0) (ci := 10) (As := []) (rest := []) St hK hT hA hP hD hS hl.1 [0] [] rfl rfl rfl (m_skip l g o a th hi ac tp ba en tA fl de iD iO tU fm fk fa fc ft ff fb fi hba hen htA hfl hde) (cwV 0 hts (zgL (zl4 k884 k885 k886 k839) k877) rfl rfl rfl (by decide +kernel) ⟨Nat.le_of_ble_eq_true rfl, Nat.le_of_ble_eq_true rfl⟩) rfl rfl rfl rfl (Nat.le_of_ble_eq_true rfl) dX12_here_1 ⟨(Nat.le_of_ble_eq_true rfl), (Nat.le_of_ble_eq_true rfl)⟩ (fun at2_1 H locs hq2 hP hD hS => ?_)
  replace hq2 : (0 ≤ at2_1.toInt ∧ at2_1.toInt ≤ en.toInt + 7 - de.toInt) ∧ (tA.toInt ≤ at2_1.toInt) := hq2
  have hP : va_P g.1 vwCl (List.flatten [bMo g o a th hi ac tp ba en at2_1 fl de iD iO tU fm fk fa fc ft ff fb fi]) H := hP
  have hD : va_D A (List.flatten [bMo g o a th hi ac tp ba en at2_1 fl de iD iO tU fm fk fa fc ft ff fb fi]) := hD
  refine W.widen (k := 0) (n := 0) (Nat.le_of_ble_eq_true rfl) (Nat.le_of_ble_eq_true rfl) ?_
  refine W.eq (g2 := F0 m 4 ls []) rfl ?_
  obtain ⟨hq2_0, hq2_1⟩ := hq2
  refine lv_aload_n hx hb dX12_here_4 rfl (lv_at hl 0 rfl) ?_
  refine va_get (D := g.1) (ci := 10) (v := .int at2_1) (C := RX12) (T := TX12) (N := 20) hx hb hts izRX12 hown hK hP 0 rfl rfl 11 (by decide) (hts _ k878) (fun _ h9 => h9) rfl dX12_here_5 ?_
  have hP : va_P g.1 vwCl (List.flatten [bMo g o a th hi ac tp ba en at2_1 fl de iD iO tU fm fk fa fc ft ff fb fi]) H := hP
  have hD : va_D A (List.flatten [bMo g o a th hi ac tp ba en at2_1 fl de iD iO tU fm fk fa fc ft ff fb fi]) := hD
  exact mret_i hx hb hr hlocks hS (Nat.le_of_ble_eq_true rfl) (Nat.le_of_ble_eq_true rfl) dX12_here_8 (at2_1) rfl (show (0 ≤ at2_1.toInt ∧ at2_1.toInt ≤ en.toInt + 7 - de.toInt) ∧ (tA.toInt ≤ at2_1.toInt) from ⟨hq2_0, hq2_1⟩) hP hD
set_option maxRecDepth 100000 in
set_option maxHeartbeats 4000000 in
theorem m_figures (l : Launch) (g : zG) (o : Nat) (a : Nat → Nat) (th : Int32) (hi : Int32) (ac : Int32) (tp : Int32) (ba : Int32) (en : Int32) (tA : Int32) (fl : Int32) (de : Int32) (iD : Int32) (iO : Int32) (tU : Int32) (fm : Nat → Int32) (fk : Nat → Int32) (fa : Nat → Int32) (fc : Nat → Int32) (ft : Nat → Int32) (ff : Nat → Int32) (fb : Nat → Int32) (fi : Nat → Int32) (lw : Int32) (hg : Int32) (hba : zBa ba.toInt) (hen : 0 ≤ en.toInt ∧ en.toInt ≤ 400) (htA : 0 ≤ tA.toInt ∧ tA.toInt ≤ en.toInt + 7 - de.toInt) (hfl : -1 ≤ fl.toInt) (hde : 0 ≤ de.toInt ∧ de.toInt ≤ 6) : zM' g l yX12_figures (Cond.code yX12_figures cX12_figures 5 (some .int) :: zB) ({ frames := 3, cells := 0, slots := 0, locals := 61 } : Room) [.ref o, .int lw, .int hg] [bMo g o a th hi ac tp ba en tA fl de iD iO tU fm fk fa fc ft ff fb fi] (fun u : Int32 × Int32 × Int32 => (fun (at2 : Int32) (fl2 : Int32) (r : Int32) => some (.int r)) (u.1) (u.2.1) (u.2.2)) (fun u : Int32 × Int32 × Int32 => (fun (at2 : Int32) (fl2 : Int32) (r : Int32) => (0 ≤ at2.toInt ∧ at2.toInt ≤ en.toInt + 7 - de.toInt) ∧ (tA.toInt ≤ at2.toInt) ∧ (-1 ≤ fl2.toInt) ∧ (zImp (fl2.toInt = -1) (fl.toInt = -1 ∧ lw.toInt ≤ r.toInt ∧ r.toInt ≤ hg.toInt))) (u.1) (u.2.1) (u.2.2)) (fun u : Int32 × Int32 × Int32 => (fun (at2 : Int32) (fl2 : Int32) (r : Int32) => [bMo g o a th hi ac tp ba en at2 fl2 de iD iO tU fm fk fa fc ft ff fb fi]) (u.1) (u.2.1) (u.2.2)) := by
  refine zM'.of (cc := cX12_figures) (maxL := 5) (rt := (some .int)) (by decide) rfl (Nat.le_of_ble_eq_true rfl) ?_
  intro p e s m args below meth c A ls St hr hlocks hin hK hT hA hP hD hS hl
  obtain ⟨hx, hb, hml, hown, hts⟩ := id St
  have hl : lv_has ls 5 [(0, .ref o), (1, .int lw), (2, .int hg)] := hl
  refine lv_aload_n hx hb dX12_figures_0 rfl (lv_at hl 0 rfl) ?_
  refine va_get (D := g.1) (ci := 10) (v := .int fl) (C := RX12) (T := TX12) (N := 20) hx hb hts izRX12 hown hK hP 0 rfl rfl 12 (by decide) (hts _ k820) (fun _ h9 => h9) rfl dX12_figures_1 ?_
  refine lv_iconst (v := (-1)) hx hb dX12_figures_4 (by decide) ?_
  refine lv_icmp_eq (tgt := 10) hx hb dX12_figures_5 (by decide) (fun cb9 => ?_) (fun cb9 => ?_)
  · skip
    have c1 : fl.toInt = (-1) := zeq cb9 rfl (by decide)
    have n2 : fl.toInt ≤ (-1) := Int.le_trans (Int.le_of_eq c1) (Int.le_refl _)
    refine lv_aload_n hx hb dX12_figures_10 rfl (lv_at hl 0 rfl) ?_
    refine mcallV' (g := g) (q0 := 0) (ci := 10) (As := []) (rest := []) St hK hT hA hP hD hS hl.1 [0] [] rfl rfl rfl (m_here l g o a th hi ac tp ba en tA fl de iD iO tU fm fk fa fc ft ff fb fi hba hen htA hfl hde) (cwV 0 hts (zgL (zl4 k892 k893 k894 k839) k891) rfl rfl rfl (by decide +kernel) ⟨Nat.le_of_ble_eq_true rfl, Nat.le_of_ble_eq_true rfl⟩) rfl rfl rfl rfl (Nat.le_of_ble_eq_true rfl) dX12_figures_11 ⟨(Nat.le_of_ble_eq_true rfl), (Nat.le_of_ble_eq_true rfl)⟩ (fun at2_3 H locs hq4 hP hD hS => ?_)
    replace hq4 : (0 ≤ at2_3.toInt ∧ at2_3.toInt ≤ en.toInt + 7 - de.toInt) ∧ (tA.toInt ≤ at2_3.toInt) := hq4
    have hP : va_P g.1 vwCl (List.flatten [bMo g o a th hi ac tp ba en at2_3 fl de iD iO tU fm fk fa fc ft ff fb fi]) H := hP
    have hD : va_D A (List.flatten [bMo g o a th hi ac tp ba en at2_3 fl de iD iO tU fm fk fa fc ft ff fb fi]) := hD
    refine W.widen (k := 0) (n := 0) (Nat.le_of_ble_eq_true rfl) (Nat.le_of_ble_eq_true rfl) ?_
    refine W.eq (g2 := F0 m 14 ls [.int at2_3]) rfl ?_
    obtain ⟨hq4_0, hq4_1⟩ := hq4
    refine lv_istore_n (lv' := [(3, .int at2_3), (0, .ref o), (1, .int lw), (2, .int hg)]) hx hb dX12_figures_14 rfl hl (by decide) rfl (fun ls hl => ?_)
    refine lv_iconst (v := 0) hx hb dX12_figures_15 (by decide) ?_
    refine lv_istore (lv' := [(4, .int 0), (3, .int at2_3), (0, .ref o), (1, .int lw), (2, .int hg)]) hx hb dX12_figures_16 hl (by decide) rfl (fun ls hl => ?_)
    have hl := lv_sub (l' := [(0, .ref o), (1, .int lw), (2, .int hg), (3, .int at2_3), (4, .int 0)]) hl [2, 3, 4, 1, 0] rfl
    have LP18_10 : ∀ (kf : Nat) (x_5 : Int32) (x_6 : Int32), (0 ≤ x_6.toInt ∧ x_6.toInt ≤ 407) → (tA.toInt ≤ x_6.toInt ∧ x_6.toInt ≤ en.toInt + 7 - de.toInt) → (at2_3.toInt ≤ x_6.toInt) → ∀ (H : Heap) (locs : List Loc) (ls : Array Slot), ((en.toInt - x_6.toInt).toNat) < kf → va_P g.1 vwCl (List.flatten [bMo g o a th hi ac tp ba en x_6 fl de iD iO tU fm fk fa fc ft ff fb fi]) H → va_D A (List.flatten [bMo g o a th hi ac tp ba en x_6 fl de iD iO tU fm fk fa fc ft ff fb fi]) → va_S A s.heap H locs → lv_has ls 5 [(0, .ref o), (1, .int lw), (2, .int hg), (3, .int at2_3), (4, .int x_5)] → W p l e ({ frames := 3, cells := 0, slots := 0, locals := 61 } : Room) s m args below meth c H locs (0) (0) (zF g (fun u : Int32 × Int32 × Int32 => (fun (at2 : Int32) (fl2 : Int32) (r : Int32) => some (.int r)) (u.1) (u.2.1) (u.2.2)) (fun u : Int32 × Int32 × Int32 => (fun (at2 : Int32) (fl2 : Int32) (r : Int32) => (0 ≤ at2.toInt ∧ at2.toInt ≤ en.toInt + 7 - de.toInt) ∧ (tA.toInt ≤ at2.toInt) ∧ (-1 ≤ fl2.toInt) ∧ (zImp (fl2.toInt = -1) (fl.toInt = -1 ∧ lw.toInt ≤ r.toInt ∧ r.toInt ≤ hg.toInt))) (u.1) (u.2.1) (u.2.2)) (fun u : Int32 × Int32 × Int32 => (fun (at2 : Int32) (fl2 : Int32) (r : Int32) => [bMo g o a th hi ac tp ba en at2 fl2 de iD iO tU fm fk fa fc ft ff fb fi]) (u.1) (u.2.1) (u.2.2)) ({ frames := 3, cells := 0, slots := 0, locals := 61 } : Room) below args s A) (F0 m 18 ls []) := by
      intro kf
      induction kf with
      | zero => intro x_5 x_6 i7 i8 i9 H locs ls hk; exact absurd hk (Nat.not_lt_zero _)
      | succ kf ih18_11 =>
        intro x_5 x_6 i7 i8 i9 H locs ls hk18_11 hP hD hS hl
        refine lv_aload_n hx hb dX12_figures_18 rfl (lv_at hl 0 rfl) ?_
        refine va_get (D := g.1) (ci := 10) (v := .int x_6) (C := RX12) (T := TX12) (N := 20) hx hb hts izRX12 hown hK hP 0 rfl rfl 11 (by decide) (hts _ k878) (fun _ h9 => h9) rfl dX12_figures_19 ?_
        refine lv_aload_n hx hb dX12_figures_22 rfl (lv_at hl 0 rfl) ?_
        refine va_get (D := g.1) (ci := 10) (v := .int en) (C := RX12) (T := TX12) (N := 20) hx hb hts izRX12 hown hK hP 0 rfl rfl 10 (by decide) (hts _ k879) (fun _ h9 => h9) rfl dX12_figures_23 ?_
        refine lv_icmp_ge (tgt := 89) hx hb dX12_figures_26 (by decide) (fun cb9 => ?_) (fun cb9 => ?_)
        · skip
          have c12 : en.toInt ≤ x_6.toInt := zle cb9 rfl rfl
          refine lv_aload_n hx hb dX12_figures_89 rfl (lv_at hl 0 rfl) ?_
          refine va_get (D := g.1) (ci := 10) (v := .int x_6) (C := RX12) (T := TX12) (N := 20) hx hb hts izRX12 hown hK hP 0 rfl rfl 11 (by decide) (hts _ k878) (fun _ h9 => h9) rfl dX12_figures_90 ?_
          refine lv_iload_n hx hb dX12_figures_93 rfl (lv_at hl 3 rfl) ?_
          refine lv_icmp_eq (tgt := 119) hx hb dX12_figures_94 (by decide) (fun cb9 => ?_) (fun cb9 => ?_)
          · skip
            have c13 : x_6.toInt = at2_3.toInt := zeq cb9 rfl rfl
            refine lv_aload_n hx hb dX12_figures_119 rfl (lv_at hl 0 rfl) ?_
            refine lv_iload_n hx hb dX12_figures_120 rfl (lv_at hl 3 rfl) ?_
            refine mcallV' (g := g) (q0 := 0) (ci := 10) (As := [.int at2_3]) (rest := []) St hK hT hA hP hD hS hl.1 [0] [] rfl rfl rfl (m_wrong l g o a th hi ac tp ba en x_6 fl de iD iO tU fm fk fa fc ft ff fb fi at2_3 (by first | assumption | omega | decide | exact Or.inl (by decide) | exact Or.inr (by decide)) hfl) (cwV 1 hts (zgL (zl4 k895 k896 k897 k839) k890) rfl rfl rfl (by decide +kernel) ⟨Nat.le_of_ble_eq_true rfl, Nat.le_of_ble_eq_true rfl⟩) rfl rfl rfl rfl (Nat.le_of_ble_eq_true rfl) dX12_figures_121 ⟨(Nat.le_of_ble_eq_true rfl), (Nat.le_of_ble_eq_true rfl)⟩ (fun fl2_14 H locs hq15 hP hD hS => ?_)
            replace hq15 : (0 ≤ fl2_14.toInt) := hq15
            have hP : va_P g.1 vwCl (List.flatten [bMo g o a th hi ac tp ba en x_6 fl2_14 de iD iO tU fm fk fa fc ft ff fb fi]) H := hP
            have hD : va_D A (List.flatten [bMo g o a th hi ac tp ba en x_6 fl2_14 de iD iO tU fm fk fa fc ft ff fb fi]) := hD
            refine W.widen (k := 0) (n := 0) (Nat.le_of_ble_eq_true rfl) (Nat.le_of_ble_eq_true rfl) ?_
            refine W.eq (g2 := F0 m 124 ls []) rfl ?_
            refine lv_iload hx hb dX12_figures_124 (lv_at hl 4 rfl) ?_
            have hP : va_P g.1 vwCl (List.flatten [bMo g o a th hi ac tp ba en x_6 fl2_14 de iD iO tU fm fk fa fc ft ff fb fi]) H := hP
            have hD : va_D A (List.flatten [bMo g o a th hi ac tp ba en x_6 fl2_14 de iD iO tU fm fk fa fc ft ff fb fi]) := hD
            exact mret_i hx hb hr hlocks hS (Nat.le_of_ble_eq_true rfl) (Nat.le_of_ble_eq_true rfl) dX12_figures_126 (x_6, fl2_14, x_5) rfl (show (0 ≤ x_6.toInt ∧ x_6.toInt ≤ en.toInt + 7 - de.toInt) ∧ (tA.toInt ≤ x_6.toInt) ∧ (-1 ≤ fl2_14.toInt) ∧ (zImp (fl2_14.toInt = -1) (fl.toInt = -1 ∧ lw.toInt ≤ x_5.toInt ∧ x_5.toInt ≤ hg.toInt)) from ⟨(by first | assumption | omega | decide | exact rfl | exact zb01 (by omega) | exact Or.inl (by decide) | exact Or.inr (by first | omega | decide)), (by first | assumption | omega | decide | exact rfl | exact zb01 (by omega) | exact Or.inl (by decide) | exact Or.inr (by first | omega | decide)), (by first | assumption | omega | decide | exact rfl | exact zb01 (by omega) | exact Or.inl (by decide) | exact Or.inr (by first | omega | decide)), (fun h9 => by first | omega)⟩) hP hD
          · skip
            have c16 : ¬ x_6.toInt = at2_3.toInt := zne cb9 rfl rfl
            refine lv_aload_n hx hb dX12_figures_97 rfl (lv_at hl 0 rfl) ?_
            refine va_get (D := g.1) (ci := 10) (v := .int x_6) (C := RX12) (T := TX12) (N := 20) hx hb hts izRX12 hown hK hP 0 rfl rfl 11 (by decide) (hts _ k878) (fun _ h9 => h9) rfl dX12_figures_98 ?_
            refine lv_iload_n hx hb dX12_figures_101 rfl (lv_at hl 3 rfl) ?_
            refine lv_isub hx hb dX12_figures_102 ?_
            refine zgv (zsub (i := x_6.toInt) (j := at2_3.toInt) rfl rfl (by omega)) (fun x_17 hx_17 => ?_)
            refine lv_iconst (v := 3) hx hb dX12_figures_103 (by decide) ?_
            refine lv_icmp_gt (tgt := 119) hx hb dX12_figures_104 (by decide) (fun cb9 => ?_) (fun cb9 => ?_)
            · skip
              have c18 : 3 < x_17.toInt := zlti cb9 (by decide) rfl
              have n19 : 4 ≤ x_17.toInt := zL2 (a := 3) c18 (Int.le_refl _) (by decide)
              refine lv_aload_n hx hb dX12_figures_119 rfl (lv_at hl 0 rfl) ?_
              refine lv_iload_n hx hb dX12_figures_120 rfl (lv_at hl 3 rfl) ?_
              refine mcallV' (g := g) (q0 := 0) (ci := 10) (As := [.int at2_3]) (rest := []) St hK hT hA hP hD hS hl.1 [0] [] rfl rfl rfl (m_wrong l g o a th hi ac tp ba en x_6 fl de iD iO tU fm fk fa fc ft ff fb fi at2_3 (by first | assumption | omega | decide | exact Or.inl (by decide) | exact Or.inr (by decide)) hfl) (cwV 1 hts (zgL (zl4 k895 k896 k897 k839) k890) rfl rfl rfl (by decide +kernel) ⟨Nat.le_of_ble_eq_true rfl, Nat.le_of_ble_eq_true rfl⟩) rfl rfl rfl rfl (Nat.le_of_ble_eq_true rfl) dX12_figures_121 ⟨(Nat.le_of_ble_eq_true rfl), (Nat.le_of_ble_eq_true rfl)⟩ (fun fl2_20 H locs hq21 hP hD hS => ?_)
              replace hq21 : (0 ≤ fl2_20.toInt) := hq21
              have hP : va_P g.1 vwCl (List.flatten [bMo g o a th hi ac tp ba en x_6 fl2_20 de iD iO tU fm fk fa fc ft ff fb fi]) H := hP
              have hD : va_D A (List.flatten [bMo g o a th hi ac tp ba en x_6 fl2_20 de iD iO tU fm fk fa fc ft ff fb fi]) := hD
              refine W.widen (k := 0) (n := 0) (Nat.le_of_ble_eq_true rfl) (Nat.le_of_ble_eq_true rfl) ?_
              refine W.eq (g2 := F0 m 124 ls []) rfl ?_
              refine lv_iload hx hb dX12_figures_124 (lv_at hl 4 rfl) ?_
              have hP : va_P g.1 vwCl (List.flatten [bMo g o a th hi ac tp ba en x_6 fl2_20 de iD iO tU fm fk fa fc ft ff fb fi]) H := hP
              have hD : va_D A (List.flatten [bMo g o a th hi ac tp ba en x_6 fl2_20 de iD iO tU fm fk fa fc ft ff fb fi]) := hD
              exact mret_i hx hb hr hlocks hS (Nat.le_of_ble_eq_true rfl) (Nat.le_of_ble_eq_true rfl) dX12_figures_126 (x_6, fl2_20, x_5) rfl (show (0 ≤ x_6.toInt ∧ x_6.toInt ≤ en.toInt + 7 - de.toInt) ∧ (tA.toInt ≤ x_6.toInt) ∧ (-1 ≤ fl2_20.toInt) ∧ (zImp (fl2_20.toInt = -1) (fl.toInt = -1 ∧ lw.toInt ≤ x_5.toInt ∧ x_5.toInt ≤ hg.toInt)) from ⟨(by first | assumption | omega | decide | exact rfl | exact zb01 (by omega) | exact Or.inl (by decide) | exact Or.inr (by first | omega | decide)), (by first | assumption | omega | decide | exact rfl | exact zb01 (by omega) | exact Or.inl (by decide) | exact Or.inr (by first | omega | decide)), (by first | assumption | omega | decide | exact rfl | exact zb01 (by omega) | exact Or.inl (by decide) | exact Or.inr (by first | omega | decide)), (fun h9 => by first | omega)⟩) hP hD
            · skip
              have c22 : x_17.toInt ≤ 3 := zle (Int32.not_lt.mp cb9) rfl (by decide)
              have n23 : x_17.toInt ≤ 3 := Int.le_trans c22 (Int.le_refl _)
              refine lv_iload hx hb dX12_figures_107 (lv_at hl 4 rfl) ?_
              refine lv_iload_n hx hb dX12_figures_109 rfl (lv_at hl 1 rfl) ?_
              refine lv_icmp_lt (tgt := 119) hx hb dX12_figures_110 (by decide) (fun cb9 => ?_) (fun cb9 => ?_)
              · skip
                have c24 : x_5.toInt < lw.toInt := zlti cb9 rfl rfl
                refine lv_aload_n hx hb dX12_figures_119 rfl (lv_at hl 0 rfl) ?_
                refine lv_iload_n hx hb dX12_figures_120 rfl (lv_at hl 3 rfl) ?_
                refine mcallV' (g := g) (q0 := 0) (ci := 10) (As := [.int at2_3]) (rest := []) St hK hT hA hP hD hS hl.1 [0] [] rfl rfl rfl (m_wrong l g o a th hi ac tp ba en x_6 fl de iD iO tU fm fk fa fc ft ff fb fi at2_3 (by first | assumption | omega | decide | exact Or.inl (by decide) | exact Or.inr (by decide)) hfl) (cwV 1 hts (zgL (zl4 k895 k896 k897 k839) k890) rfl rfl rfl (by decide +kernel) ⟨Nat.le_of_ble_eq_true rfl, Nat.le_of_ble_eq_true rfl⟩) rfl rfl rfl rfl (Nat.le_of_ble_eq_true rfl) dX12_figures_121 ⟨(Nat.le_of_ble_eq_true rfl), (Nat.le_of_ble_eq_true rfl)⟩ (fun fl2_25 H locs hq26 hP hD hS => ?_)
                replace hq26 : (0 ≤ fl2_25.toInt) := hq26
                have hP : va_P g.1 vwCl (List.flatten [bMo g o a th hi ac tp ba en x_6 fl2_25 de iD iO tU fm fk fa fc ft ff fb fi]) H := hP
                have hD : va_D A (List.flatten [bMo g o a th hi ac tp ba en x_6 fl2_25 de iD iO tU fm fk fa fc ft ff fb fi]) := hD
                refine W.widen (k := 0) (n := 0) (Nat.le_of_ble_eq_true rfl) (Nat.le_of_ble_eq_true rfl) ?_
                refine W.eq (g2 := F0 m 124 ls []) rfl ?_
                refine lv_iload hx hb dX12_figures_124 (lv_at hl 4 rfl) ?_
                have hP : va_P g.1 vwCl (List.flatten [bMo g o a th hi ac tp ba en x_6 fl2_25 de iD iO tU fm fk fa fc ft ff fb fi]) H := hP
                have hD : va_D A (List.flatten [bMo g o a th hi ac tp ba en x_6 fl2_25 de iD iO tU fm fk fa fc ft ff fb fi]) := hD
                exact mret_i hx hb hr hlocks hS (Nat.le_of_ble_eq_true rfl) (Nat.le_of_ble_eq_true rfl) dX12_figures_126 (x_6, fl2_25, x_5) rfl (show (0 ≤ x_6.toInt ∧ x_6.toInt ≤ en.toInt + 7 - de.toInt) ∧ (tA.toInt ≤ x_6.toInt) ∧ (-1 ≤ fl2_25.toInt) ∧ (zImp (fl2_25.toInt = -1) (fl.toInt = -1 ∧ lw.toInt ≤ x_5.toInt ∧ x_5.toInt ≤ hg.toInt)) from ⟨(by first | assumption | omega | decide | exact rfl | exact zb01 (by omega) | exact Or.inl (by decide) | exact Or.inr (by first | omega | decide)), (by first | assumption | omega | decide | exact rfl | exact zb01 (by omega) | exact Or.inl (by decide) | exact Or.inr (by first | omega | decide)), (by first | assumption | omega | decide | exact rfl | exact zb01 (by omega) | exact Or.inl (by decide) | exact Or.inr (by first | omega | decide)), (fun h9 => by first | omega)⟩) hP hD
              · skip
                have c27 : lw.toInt ≤ x_5.toInt := zle (Int32.not_lt.mp cb9) rfl rfl
                refine lv_iload hx hb dX12_figures_113 (lv_at hl 4 rfl) ?_
                refine lv_iload_n hx hb dX12_figures_115 rfl (lv_at hl 2 rfl) ?_
                refine lv_icmp_le (tgt := 124) hx hb dX12_figures_116 (by decide) (fun cb9 => ?_) (fun cb9 => ?_)
                · skip
                  have c28 : x_5.toInt ≤ hg.toInt := zle cb9 rfl rfl
                  refine lv_iload hx hb dX12_figures_124 (lv_at hl 4 rfl) ?_
                  have hP : va_P g.1 vwCl (List.flatten [bMo g o a th hi ac tp ba en x_6 fl de iD iO tU fm fk fa fc ft ff fb fi]) H := hP
                  have hD : va_D A (List.flatten [bMo g o a th hi ac tp ba en x_6 fl de iD iO tU fm fk fa fc ft ff fb fi]) := hD
                  exact mret_i hx hb hr hlocks hS (Nat.le_of_ble_eq_true rfl) (Nat.le_of_ble_eq_true rfl) dX12_figures_126 (x_6, fl, x_5) rfl (show (0 ≤ x_6.toInt ∧ x_6.toInt ≤ en.toInt + 7 - de.toInt) ∧ (tA.toInt ≤ x_6.toInt) ∧ (-1 ≤ fl.toInt) ∧ (zImp (fl.toInt = -1) (fl.toInt = -1 ∧ lw.toInt ≤ x_5.toInt ∧ x_5.toInt ≤ hg.toInt)) from ⟨(by first | assumption | omega | decide | exact rfl | exact zb01 (by omega) | exact Or.inl (by decide) | exact Or.inr (by first | omega | decide)), (by first | assumption | omega | decide | exact rfl | exact zb01 (by omega) | exact Or.inl (by decide) | exact Or.inr (by first | omega | decide)), hfl, (fun h9 => by first | omega)⟩) hP hD
                · skip
                  have c29 : hg.toInt < x_5.toInt := zlti (Int32.not_le.mp cb9) rfl rfl
                  refine lv_aload_n hx hb dX12_figures_119 rfl (lv_at hl 0 rfl) ?_
                  refine lv_iload_n hx hb dX12_figures_120 rfl (lv_at hl 3 rfl) ?_
                  refine mcallV' (g := g) (q0 := 0) (ci := 10) (As := [.int at2_3]) (rest := []) St hK hT hA hP hD hS hl.1 [0] [] rfl rfl rfl (m_wrong l g o a th hi ac tp ba en x_6 fl de iD iO tU fm fk fa fc ft ff fb fi at2_3 (by first | assumption | omega | decide | exact Or.inl (by decide) | exact Or.inr (by decide)) hfl) (cwV 1 hts (zgL (zl4 k895 k896 k897 k839) k890) rfl rfl rfl (by decide +kernel) ⟨Nat.le_of_ble_eq_true rfl, Nat.le_of_ble_eq_true rfl⟩) rfl rfl rfl rfl (Nat.le_of_ble_eq_true rfl) dX12_figures_121 ⟨(Nat.le_of_ble_eq_true rfl), (Nat.le_of_ble_eq_true rfl)⟩ (fun fl2_30 H locs hq31 hP hD hS => ?_)
                  replace hq31 : (0 ≤ fl2_30.toInt) := hq31
                  have hP : va_P g.1 vwCl (List.flatten [bMo g o a th hi ac tp ba en x_6 fl2_30 de iD iO tU fm fk fa fc ft ff fb fi]) H := hP
                  have hD : va_D A (List.flatten [bMo g o a th hi ac tp ba en x_6 fl2_30 de iD iO tU fm fk fa fc ft ff fb fi]) := hD
                  refine W.widen (k := 0) (n := 0) (Nat.le_of_ble_eq_true rfl) (Nat.le_of_ble_eq_true rfl) ?_
                  refine W.eq (g2 := F0 m 124 ls []) rfl ?_
                  refine lv_iload hx hb dX12_figures_124 (lv_at hl 4 rfl) ?_
                  have hP : va_P g.1 vwCl (List.flatten [bMo g o a th hi ac tp ba en x_6 fl2_30 de iD iO tU fm fk fa fc ft ff fb fi]) H := hP
                  have hD : va_D A (List.flatten [bMo g o a th hi ac tp ba en x_6 fl2_30 de iD iO tU fm fk fa fc ft ff fb fi]) := hD
                  exact mret_i hx hb hr hlocks hS (Nat.le_of_ble_eq_true rfl) (Nat.le_of_ble_eq_true rfl) dX12_figures_126 (x_6, fl2_30, x_5) rfl (show (0 ≤ x_6.toInt ∧ x_6.toInt ≤ en.toInt + 7 - de.toInt) ∧ (tA.toInt ≤ x_6.toInt) ∧ (-1 ≤ fl2_30.toInt) ∧ (zImp (fl2_30.toInt = -1) (fl.toInt = -1 ∧ lw.toInt ≤ x_5.toInt ∧ x_5.toInt ≤ hg.toInt)) from ⟨(by first | assumption | omega | decide | exact rfl | exact zb01 (by omega) | exact Or.inl (by decide) | exact Or.inr (by first | omega | decide)), (by first | assumption | omega | decide | exact rfl | exact zb01 (by omega) | exact Or.inl (by decide) | exact Or.inr (by first | omega | decide)), (by first | assumption | omega | decide | exact rfl | exact zb01 (by omega) | exact Or.inl (by decide) | exact Or.inr (by first | omega | decide)), (fun h9 => by first | omega)⟩) hP hD
        · skip
          have c32 : x_6.toInt < en.toInt := zlti (Int32.not_le.mp cb9) rfl rfl
          have n33 : x_6.toInt ≤ 399 := zL1 (b := 400) c32 hen.2 (by decide)
          have n34 : 1 ≤ en.toInt := zL2 (a := 0) c32 i7.1 (by decide)
          refine lv_aload_n hx hb dX12_figures_29 rfl (lv_at hl 0 rfl) ?_
          refine lv_aload_n hx hb dX12_figures_30 rfl (lv_at hl 0 rfl) ?_
          refine va_get (D := g.1) (ci := 10) (v := .int x_6) (C := RX12) (T := TX12) (N := 20) hx hb hts izRX12 hown hK hP 0 rfl rfl 11 (by decide) (hts _ k878) (fun _ h9 => h9) rfl dX12_figures_31 ?_
          refine mcallV' (g := g) (q0 := 0) (ci := 10) (As := [.int x_6]) (rest := []) St hK hT hA hP hD hS hl.1 [0] [] rfl rfl rfl (m_letter l g o a th hi ac tp ba en x_6 fl de iD iO tU fm fk fa fc ft ff fb fi x_6 (⟨i7.1, n33⟩) hba) (cwV 1 hts (zgL (zl4 k880 k881 k882 k839) k875) rfl rfl rfl (by decide +kernel) ⟨Nat.le_of_ble_eq_true rfl, Nat.le_of_ble_eq_true rfl⟩) rfl rfl rfl rfl (Nat.le_of_ble_eq_true rfl) dX12_figures_34 ⟨(Nat.le_of_ble_eq_true rfl), (Nat.le_of_ble_eq_true rfl)⟩ (fun q_35 H locs hq36 hP hD hS => ?_)
          have hP : va_P g.1 vwCl (List.flatten [bMo g o a th hi ac tp ba en x_6 fl de iD iO tU fm fk fa fc ft ff fb fi]) H := hP
          have hD : va_D A (List.flatten [bMo g o a th hi ac tp ba en x_6 fl de iD iO tU fm fk fa fc ft ff fb fi]) := hD
          refine W.widen (k := 0) (n := 0) (Nat.le_of_ble_eq_true rfl) (Nat.le_of_ble_eq_true rfl) ?_
          refine W.eq (g2 := F0 m 37 ls [.int q_35]) rfl ?_
          refine lv_bipush (v := 48) hx hb dX12_figures_37 (by decide) ?_
          refine lv_bipush (v := 57) hx hb dX12_figures_39 (by decide) ?_
          have hL48 : (48 : Int32).toInt = 48 := by decide
          have hL57 : (57 : Int32).toInt = 57 := by decide
          refine mcallS' (g := g) (As := [.int q_35, .int 48, .int 57]) (rest := []) St hK hT hA hP hD hS hl.1 [] [0] rfl rfl rfl (m_isIn l g q_35 48 57 ) (va_cwS 3 hts (zgL (zl3 k837 k838 k839) k826) rfl rfl rfl (by decide +kernel) ⟨Nat.le_of_ble_eq_true rfl, Nat.le_of_ble_eq_true rfl⟩) rfl rfl (Nat.le_of_ble_eq_true rfl) dX12_figures_41 ⟨(Nat.le_of_ble_eq_true rfl), (Nat.le_of_ble_eq_true rfl)⟩ (fun q_37 H locs hq38 hP hD hS => ?_)
          replace hq38 : (q_37 = 1 ∧ (48 : Int32).toInt ≤ q_35.toInt ∧ q_35.toInt ≤ (57 : Int32).toInt ∨ q_37 = 0 ∧ (q_35.toInt < (48 : Int32).toInt ∨ (57 : Int32).toInt < q_35.toInt)) := hq38
          have hP : va_P g.1 vwCl (List.flatten [bMo g o a th hi ac tp ba en x_6 fl de iD iO tU fm fk fa fc ft ff fb fi]) H := hP
          have hD : va_D A (List.flatten [bMo g o a th hi ac tp ba en x_6 fl de iD iO tU fm fk fa fc ft ff fb fi]) := hD
          refine W.widen (k := 0) (n := 0) (Nat.le_of_ble_eq_true rfl) (Nat.le_of_ble_eq_true rfl) ?_
          refine W.eq (g2 := F0 m 44 ls [.int q_37]) rfl ?_
          rcases hq38 with ⟨rfl, hq38_k⟩ | ⟨rfl, hq38_k⟩
          · skip
            refine lv_if_eq (tgt := 89) hx hb dX12_figures_44 (by decide) (fun c39 => absurd c39 (by decide)) (fun _ => ?_)
            refine lv_aload_n hx hb dX12_figures_47 rfl (lv_at hl 0 rfl) ?_
            refine va_get (D := g.1) (ci := 10) (v := .int x_6) (C := RX12) (T := TX12) (N := 20) hx hb hts izRX12 hown hK hP 0 rfl rfl 11 (by decide) (hts _ k878) (fun _ h9 => h9) rfl dX12_figures_48 ?_
            refine lv_iload_n hx hb dX12_figures_51 rfl (lv_at hl 3 rfl) ?_
            refine lv_isub hx hb dX12_figures_52 ?_
            refine zgv (zsub (i := x_6.toInt) (j := at2_3.toInt) rfl rfl (by omega)) (fun x_40 hx_40 => ?_)
            refine lv_iconst (v := 3) hx hb dX12_figures_53 (by decide) ?_
            refine lv_icmp_gt (tgt := 89) hx hb dX12_figures_54 (by decide) (fun cb9 => ?_) (fun cb9 => ?_)
            · skip
              have c41 : 3 < x_40.toInt := zlti cb9 (by decide) rfl
              have n42 : 4 ≤ x_40.toInt := zL2 (a := 3) c41 (Int.le_refl _) (by decide)
              refine lv_aload_n hx hb dX12_figures_89 rfl (lv_at hl 0 rfl) ?_
              refine va_get (D := g.1) (ci := 10) (v := .int x_6) (C := RX12) (T := TX12) (N := 20) hx hb hts izRX12 hown hK hP 0 rfl rfl 11 (by decide) (hts _ k878) (fun _ h9 => h9) rfl dX12_figures_90 ?_
              refine lv_iload_n hx hb dX12_figures_93 rfl (lv_at hl 3 rfl) ?_
              refine lv_icmp_eq (tgt := 119) hx hb dX12_figures_94 (by decide) (fun cb9 => ?_) (fun cb9 => ?_)
              · skip
                have c43 : x_6.toInt = at2_3.toInt := zeq cb9 rfl rfl
                have n44 : at2_3.toInt ≤ 399 := Int.le_trans (Int.le_of_eq c43.symm) n33
                refine lv_aload_n hx hb dX12_figures_119 rfl (lv_at hl 0 rfl) ?_
                refine lv_iload_n hx hb dX12_figures_120 rfl (lv_at hl 3 rfl) ?_
                refine mcallV' (g := g) (q0 := 0) (ci := 10) (As := [.int at2_3]) (rest := []) St hK hT hA hP hD hS hl.1 [0] [] rfl rfl rfl (m_wrong l g o a th hi ac tp ba en x_6 fl de iD iO tU fm fk fa fc ft ff fb fi at2_3 (by first | assumption | omega | decide | exact Or.inl (by decide) | exact Or.inr (by decide)) hfl) (cwV 1 hts (zgL (zl4 k895 k896 k897 k839) k890) rfl rfl rfl (by decide +kernel) ⟨Nat.le_of_ble_eq_true rfl, Nat.le_of_ble_eq_true rfl⟩) rfl rfl rfl rfl (Nat.le_of_ble_eq_true rfl) dX12_figures_121 ⟨(Nat.le_of_ble_eq_true rfl), (Nat.le_of_ble_eq_true rfl)⟩ (fun fl2_45 H locs hq46 hP hD hS => ?_)
                replace hq46 : (0 ≤ fl2_45.toInt) := hq46
                have hP : va_P g.1 vwCl (List.flatten [bMo g o a th hi ac tp ba en x_6 fl2_45 de iD iO tU fm fk fa fc ft ff fb fi]) H := hP
                have hD : va_D A (List.flatten [bMo g o a th hi ac tp ba en x_6 fl2_45 de iD iO tU fm fk fa fc ft ff fb fi]) := hD
                refine W.widen (k := 0) (n := 0) (Nat.le_of_ble_eq_true rfl) (Nat.le_of_ble_eq_true rfl) ?_
                refine W.eq (g2 := F0 m 124 ls []) rfl ?_
                refine lv_iload hx hb dX12_figures_124 (lv_at hl 4 rfl) ?_
                have hP : va_P g.1 vwCl (List.flatten [bMo g o a th hi ac tp ba en x_6 fl2_45 de iD iO tU fm fk fa fc ft ff fb fi]) H := hP
                have hD : va_D A (List.flatten [bMo g o a th hi ac tp ba en x_6 fl2_45 de iD iO tU fm fk fa fc ft ff fb fi]) := hD
                exact mret_i hx hb hr hlocks hS (Nat.le_of_ble_eq_true rfl) (Nat.le_of_ble_eq_true rfl) dX12_figures_126 (x_6, fl2_45, x_5) rfl (show (0 ≤ x_6.toInt ∧ x_6.toInt ≤ en.toInt + 7 - de.toInt) ∧ (tA.toInt ≤ x_6.toInt) ∧ (-1 ≤ fl2_45.toInt) ∧ (zImp (fl2_45.toInt = -1) (fl.toInt = -1 ∧ lw.toInt ≤ x_5.toInt ∧ x_5.toInt ≤ hg.toInt)) from ⟨(by first | assumption | omega | decide | exact rfl | exact zb01 (by omega) | exact Or.inl (by decide) | exact Or.inr (by first | omega | decide)), (by first | assumption | omega | decide | exact rfl | exact zb01 (by omega) | exact Or.inl (by decide) | exact Or.inr (by first | omega | decide)), (by first | assumption | omega | decide | exact rfl | exact zb01 (by omega) | exact Or.inl (by decide) | exact Or.inr (by first | omega | decide)), (fun h9 => by first | omega)⟩) hP hD
              · skip
                have c47 : ¬ x_6.toInt = at2_3.toInt := zne cb9 rfl rfl
                refine lv_aload_n hx hb dX12_figures_97 rfl (lv_at hl 0 rfl) ?_
                refine va_get (D := g.1) (ci := 10) (v := .int x_6) (C := RX12) (T := TX12) (N := 20) hx hb hts izRX12 hown hK hP 0 rfl rfl 11 (by decide) (hts _ k878) (fun _ h9 => h9) rfl dX12_figures_98 ?_
                refine lv_iload_n hx hb dX12_figures_101 rfl (lv_at hl 3 rfl) ?_
                refine lv_isub hx hb dX12_figures_102 ?_
                refine zgv (zsub (i := x_6.toInt) (j := at2_3.toInt) rfl rfl (by omega)) (fun x_48 hx_48 => ?_)
                refine lv_iconst (v := 3) hx hb dX12_figures_103 (by decide) ?_
                refine lv_icmp_gt (tgt := 119) hx hb dX12_figures_104 (by decide) (fun cb9 => ?_) (fun cb9 => ?_)
                · skip
                  have c49 : 3 < x_48.toInt := zlti cb9 (by decide) rfl
                  have n50 : 4 ≤ x_48.toInt := zL2 (a := 3) c49 (Int.le_refl _) (by decide)
                  refine lv_aload_n hx hb dX12_figures_119 rfl (lv_at hl 0 rfl) ?_
                  refine lv_iload_n hx hb dX12_figures_120 rfl (lv_at hl 3 rfl) ?_
                  refine mcallV' (g := g) (q0 := 0) (ci := 10) (As := [.int at2_3]) (rest := []) St hK hT hA hP hD hS hl.1 [0] [] rfl rfl rfl (m_wrong l g o a th hi ac tp ba en x_6 fl de iD iO tU fm fk fa fc ft ff fb fi at2_3 (by first | assumption | omega | decide | exact Or.inl (by decide) | exact Or.inr (by decide)) hfl) (cwV 1 hts (zgL (zl4 k895 k896 k897 k839) k890) rfl rfl rfl (by decide +kernel) ⟨Nat.le_of_ble_eq_true rfl, Nat.le_of_ble_eq_true rfl⟩) rfl rfl rfl rfl (Nat.le_of_ble_eq_true rfl) dX12_figures_121 ⟨(Nat.le_of_ble_eq_true rfl), (Nat.le_of_ble_eq_true rfl)⟩ (fun fl2_51 H locs hq52 hP hD hS => ?_)
                  replace hq52 : (0 ≤ fl2_51.toInt) := hq52
                  have hP : va_P g.1 vwCl (List.flatten [bMo g o a th hi ac tp ba en x_6 fl2_51 de iD iO tU fm fk fa fc ft ff fb fi]) H := hP
                  have hD : va_D A (List.flatten [bMo g o a th hi ac tp ba en x_6 fl2_51 de iD iO tU fm fk fa fc ft ff fb fi]) := hD
                  refine W.widen (k := 0) (n := 0) (Nat.le_of_ble_eq_true rfl) (Nat.le_of_ble_eq_true rfl) ?_
                  refine W.eq (g2 := F0 m 124 ls []) rfl ?_
                  refine lv_iload hx hb dX12_figures_124 (lv_at hl 4 rfl) ?_
                  have hP : va_P g.1 vwCl (List.flatten [bMo g o a th hi ac tp ba en x_6 fl2_51 de iD iO tU fm fk fa fc ft ff fb fi]) H := hP
                  have hD : va_D A (List.flatten [bMo g o a th hi ac tp ba en x_6 fl2_51 de iD iO tU fm fk fa fc ft ff fb fi]) := hD
                  exact mret_i hx hb hr hlocks hS (Nat.le_of_ble_eq_true rfl) (Nat.le_of_ble_eq_true rfl) dX12_figures_126 (x_6, fl2_51, x_5) rfl (show (0 ≤ x_6.toInt ∧ x_6.toInt ≤ en.toInt + 7 - de.toInt) ∧ (tA.toInt ≤ x_6.toInt) ∧ (-1 ≤ fl2_51.toInt) ∧ (zImp (fl2_51.toInt = -1) (fl.toInt = -1 ∧ lw.toInt ≤ x_5.toInt ∧ x_5.toInt ≤ hg.toInt)) from ⟨(by first | assumption | omega | decide | exact rfl | exact zb01 (by omega) | exact Or.inl (by decide) | exact Or.inr (by first | omega | decide)), (by first | assumption | omega | decide | exact rfl | exact zb01 (by omega) | exact Or.inl (by decide) | exact Or.inr (by first | omega | decide)), (by first | assumption | omega | decide | exact rfl | exact zb01 (by omega) | exact Or.inl (by decide) | exact Or.inr (by first | omega | decide)), (fun h9 => by first | omega)⟩) hP hD
                · skip
                  have c53 : x_48.toInt ≤ 3 := zle (Int32.not_lt.mp cb9) rfl (by decide)
                  have n54 : x_48.toInt ≤ 3 := Int.le_trans c53 (Int.le_refl _)
                  refine lv_iload hx hb dX12_figures_107 (lv_at hl 4 rfl) ?_
                  refine lv_iload_n hx hb dX12_figures_109 rfl (lv_at hl 1 rfl) ?_
                  refine lv_icmp_lt (tgt := 119) hx hb dX12_figures_110 (by decide) (fun cb9 => ?_) (fun cb9 => ?_)
                  · skip
                    have c55 : x_5.toInt < lw.toInt := zlti cb9 rfl rfl
                    refine lv_aload_n hx hb dX12_figures_119 rfl (lv_at hl 0 rfl) ?_
                    refine lv_iload_n hx hb dX12_figures_120 rfl (lv_at hl 3 rfl) ?_
                    refine mcallV' (g := g) (q0 := 0) (ci := 10) (As := [.int at2_3]) (rest := []) St hK hT hA hP hD hS hl.1 [0] [] rfl rfl rfl (m_wrong l g o a th hi ac tp ba en x_6 fl de iD iO tU fm fk fa fc ft ff fb fi at2_3 (by first | assumption | omega | decide | exact Or.inl (by decide) | exact Or.inr (by decide)) hfl) (cwV 1 hts (zgL (zl4 k895 k896 k897 k839) k890) rfl rfl rfl (by decide +kernel) ⟨Nat.le_of_ble_eq_true rfl, Nat.le_of_ble_eq_true rfl⟩) rfl rfl rfl rfl (Nat.le_of_ble_eq_true rfl) dX12_figures_121 ⟨(Nat.le_of_ble_eq_true rfl), (Nat.le_of_ble_eq_true rfl)⟩ (fun fl2_56 H locs hq57 hP hD hS => ?_)
                    replace hq57 : (0 ≤ fl2_56.toInt) := hq57
                    have hP : va_P g.1 vwCl (List.flatten [bMo g o a th hi ac tp ba en x_6 fl2_56 de iD iO tU fm fk fa fc ft ff fb fi]) H := hP
                    have hD : va_D A (List.flatten [bMo g o a th hi ac tp ba en x_6 fl2_56 de iD iO tU fm fk fa fc ft ff fb fi]) := hD
                    refine W.widen (k := 0) (n := 0) (Nat.le_of_ble_eq_true rfl) (Nat.le_of_ble_eq_true rfl) ?_
                    refine W.eq (g2 := F0 m 124 ls []) rfl ?_
                    refine lv_iload hx hb dX12_figures_124 (lv_at hl 4 rfl) ?_
                    have hP : va_P g.1 vwCl (List.flatten [bMo g o a th hi ac tp ba en x_6 fl2_56 de iD iO tU fm fk fa fc ft ff fb fi]) H := hP
                    have hD : va_D A (List.flatten [bMo g o a th hi ac tp ba en x_6 fl2_56 de iD iO tU fm fk fa fc ft ff fb fi]) := hD
                    exact mret_i hx hb hr hlocks hS (Nat.le_of_ble_eq_true rfl) (Nat.le_of_ble_eq_true rfl) dX12_figures_126 (x_6, fl2_56, x_5) rfl (show (0 ≤ x_6.toInt ∧ x_6.toInt ≤ en.toInt + 7 - de.toInt) ∧ (tA.toInt ≤ x_6.toInt) ∧ (-1 ≤ fl2_56.toInt) ∧ (zImp (fl2_56.toInt = -1) (fl.toInt = -1 ∧ lw.toInt ≤ x_5.toInt ∧ x_5.toInt ≤ hg.toInt)) from ⟨(by first | assumption | omega | decide | exact rfl | exact zb01 (by omega) | exact Or.inl (by decide) | exact Or.inr (by first | omega | decide)), (by first | assumption | omega | decide | exact rfl | exact zb01 (by omega) | exact Or.inl (by decide) | exact Or.inr (by first | omega | decide)), (by first | assumption | omega | decide | exact rfl | exact zb01 (by omega) | exact Or.inl (by decide) | exact Or.inr (by first | omega | decide)), (fun h9 => by first | omega)⟩) hP hD
                  · skip
                    have c58 : lw.toInt ≤ x_5.toInt := zle (Int32.not_lt.mp cb9) rfl rfl
                    refine lv_iload hx hb dX12_figures_113 (lv_at hl 4 rfl) ?_
                    refine lv_iload_n hx hb dX12_figures_115 rfl (lv_at hl 2 rfl) ?_
                    refine lv_icmp_le (tgt := 124) hx hb dX12_figures_116 (by decide) (fun cb9 => ?_) (fun cb9 => ?_)
                    · skip
                      have c59 : x_5.toInt ≤ hg.toInt := zle cb9 rfl rfl
                      refine lv_iload hx hb dX12_figures_124 (lv_at hl 4 rfl) ?_
                      have hP : va_P g.1 vwCl (List.flatten [bMo g o a th hi ac tp ba en x_6 fl de iD iO tU fm fk fa fc ft ff fb fi]) H := hP
                      have hD : va_D A (List.flatten [bMo g o a th hi ac tp ba en x_6 fl de iD iO tU fm fk fa fc ft ff fb fi]) := hD
                      exact mret_i hx hb hr hlocks hS (Nat.le_of_ble_eq_true rfl) (Nat.le_of_ble_eq_true rfl) dX12_figures_126 (x_6, fl, x_5) rfl (show (0 ≤ x_6.toInt ∧ x_6.toInt ≤ en.toInt + 7 - de.toInt) ∧ (tA.toInt ≤ x_6.toInt) ∧ (-1 ≤ fl.toInt) ∧ (zImp (fl.toInt = -1) (fl.toInt = -1 ∧ lw.toInt ≤ x_5.toInt ∧ x_5.toInt ≤ hg.toInt)) from ⟨(by first | assumption | omega | decide | exact rfl | exact zb01 (by omega) | exact Or.inl (by decide) | exact Or.inr (by first | omega | decide)), (by first | assumption | omega | decide | exact rfl | exact zb01 (by omega) | exact Or.inl (by decide) | exact Or.inr (by first | omega | decide)), hfl, (fun h9 => by first | omega)⟩) hP hD
                    · skip
                      have c60 : hg.toInt < x_5.toInt := zlti (Int32.not_le.mp cb9) rfl rfl
                      refine lv_aload_n hx hb dX12_figures_119 rfl (lv_at hl 0 rfl) ?_
                      refine lv_iload_n hx hb dX12_figures_120 rfl (lv_at hl 3 rfl) ?_
                      refine mcallV' (g := g) (q0 := 0) (ci := 10) (As := [.int at2_3]) (rest := []) St hK hT hA hP hD hS hl.1 [0] [] rfl rfl rfl (m_wrong l g o a th hi ac tp ba en x_6 fl de iD iO tU fm fk fa fc ft ff fb fi at2_3 (by first | assumption | omega | decide | exact Or.inl (by decide) | exact Or.inr (by decide)) hfl) (cwV 1 hts (zgL (zl4 k895 k896 k897 k839) k890) rfl rfl rfl (by decide +kernel) ⟨Nat.le_of_ble_eq_true rfl, Nat.le_of_ble_eq_true rfl⟩) rfl rfl rfl rfl (Nat.le_of_ble_eq_true rfl) dX12_figures_121 ⟨(Nat.le_of_ble_eq_true rfl), (Nat.le_of_ble_eq_true rfl)⟩ (fun fl2_61 H locs hq62 hP hD hS => ?_)
                      replace hq62 : (0 ≤ fl2_61.toInt) := hq62
                      have hP : va_P g.1 vwCl (List.flatten [bMo g o a th hi ac tp ba en x_6 fl2_61 de iD iO tU fm fk fa fc ft ff fb fi]) H := hP
                      have hD : va_D A (List.flatten [bMo g o a th hi ac tp ba en x_6 fl2_61 de iD iO tU fm fk fa fc ft ff fb fi]) := hD
                      refine W.widen (k := 0) (n := 0) (Nat.le_of_ble_eq_true rfl) (Nat.le_of_ble_eq_true rfl) ?_
                      refine W.eq (g2 := F0 m 124 ls []) rfl ?_
                      refine lv_iload hx hb dX12_figures_124 (lv_at hl 4 rfl) ?_
                      have hP : va_P g.1 vwCl (List.flatten [bMo g o a th hi ac tp ba en x_6 fl2_61 de iD iO tU fm fk fa fc ft ff fb fi]) H := hP
                      have hD : va_D A (List.flatten [bMo g o a th hi ac tp ba en x_6 fl2_61 de iD iO tU fm fk fa fc ft ff fb fi]) := hD
                      exact mret_i hx hb hr hlocks hS (Nat.le_of_ble_eq_true rfl) (Nat.le_of_ble_eq_true rfl) dX12_figures_126 (x_6, fl2_61, x_5) rfl (show (0 ≤ x_6.toInt ∧ x_6.toInt ≤ en.toInt + 7 - de.toInt) ∧ (tA.toInt ≤ x_6.toInt) ∧ (-1 ≤ fl2_61.toInt) ∧ (zImp (fl2_61.toInt = -1) (fl.toInt = -1 ∧ lw.toInt ≤ x_5.toInt ∧ x_5.toInt ≤ hg.toInt)) from ⟨(by first | assumption | omega | decide | exact rfl | exact zb01 (by omega) | exact Or.inl (by decide) | exact Or.inr (by first | omega | decide)), (by first | assumption | omega | decide | exact rfl | exact zb01 (by omega) | exact Or.inl (by decide) | exact Or.inr (by first | omega | decide)), (by first | assumption | omega | decide | exact rfl | exact zb01 (by omega) | exact Or.inl (by decide) | exact Or.inr (by first | omega | decide)), (fun h9 => by first | omega)⟩) hP hD
            · skip
              have c63 : x_40.toInt ≤ 3 := zle (Int32.not_lt.mp cb9) rfl (by decide)
              have n64 : x_40.toInt ≤ 3 := Int.le_trans c63 (Int.le_refl _)
              refine lv_bipush (v := 10) hx hb dX12_figures_57 (by decide) ?_
              refine lv_iload hx hb dX12_figures_59 (lv_at hl 4 rfl) ?_
              refine lv_imul hx hb dX12_figures_61 ?_
              refine zg (fun x_65 => ?_)
              refine lv_aload_n hx hb dX12_figures_62 rfl (lv_at hl 0 rfl) ?_
              refine lv_aload_n hx hb dX12_figures_63 rfl (lv_at hl 0 rfl) ?_
              refine va_get (D := g.1) (ci := 10) (v := .int x_6) (C := RX12) (T := TX12) (N := 20) hx hb hts izRX12 hown hK hP 0 rfl rfl 11 (by decide) (hts _ k878) (fun _ h9 => h9) rfl dX12_figures_64 ?_
              refine mcallV' (g := g) (q0 := 0) (ci := 10) (As := [.int x_6]) (rest := [.int x_65]) St hK hT hA hP hD hS hl.1 [0] [] rfl rfl rfl (m_letter l g o a th hi ac tp ba en x_6 fl de iD iO tU fm fk fa fc ft ff fb fi x_6 (⟨i7.1, n33⟩) hba) (cwV 1 hts (zgL (zl4 k880 k881 k882 k839) k875) rfl rfl rfl (by decide +kernel) ⟨Nat.le_of_ble_eq_true rfl, Nat.le_of_ble_eq_true rfl⟩) rfl rfl rfl rfl (Nat.le_of_ble_eq_true rfl) dX12_figures_67 ⟨(Nat.le_of_ble_eq_true rfl), (Nat.le_of_ble_eq_true rfl)⟩ (fun q_66 H locs hq67 hP hD hS => ?_)
              have hP : va_P g.1 vwCl (List.flatten [bMo g o a th hi ac tp ba en x_6 fl de iD iO tU fm fk fa fc ft ff fb fi]) H := hP
              have hD : va_D A (List.flatten [bMo g o a th hi ac tp ba en x_6 fl de iD iO tU fm fk fa fc ft ff fb fi]) := hD
              refine W.widen (k := 0) (n := 0) (Nat.le_of_ble_eq_true rfl) (Nat.le_of_ble_eq_true rfl) ?_
              refine W.eq (g2 := F0 m 70 ls [.int q_66, .int x_65]) rfl ?_
              refine lv_iadd hx hb dX12_figures_70 ?_
              refine zg (fun x_68 => ?_)
              refine lv_bipush (v := 48) hx hb dX12_figures_71 (by decide) ?_
              refine lv_isub hx hb dX12_figures_73 ?_
              refine zg (fun x_69 => ?_)
              refine lv_istore (lv' := [(4, .int x_69), (0, .ref o), (1, .int lw), (2, .int hg), (3, .int at2_3)]) hx hb dX12_figures_74 hl (by decide) rfl (fun ls hl => ?_)
              refine lv_aload_n hx hb dX12_figures_76 rfl (lv_at hl 1 rfl) ?_
              refine lv_dup hx hb dX12_figures_77 rfl ?_
              refine va_get (D := g.1) (ci := 10) (v := .int x_6) (C := RX12) (T := TX12) (N := 20) hx hb hts izRX12 hown hK hP 0 rfl rfl 11 (by decide) (hts _ k878) (fun _ h9 => h9) rfl dX12_figures_78 ?_
              refine lv_iconst (v := 1) hx hb dX12_figures_81 (by decide) ?_
              refine lv_iadd hx hb dX12_figures_82 ?_
              refine zg3 (zaddK (i := x_6.toInt) (j := 1) (a' := 1) (b' := 400) rfl (by decide) i7.1 n33 (Int.le_refl _) (Int.le_refl _) (by decide)) (fun x_70 hx_70 => ?_)
              refine va_put (D := g.1) (ci := 10) (v := .int x_70) (ty := .int) (C := RX12) (T := TX12) (N := 20) hx hb hts izRX12 tyX12 tyX12_ok nmX12 hown hK hP hD hS 0 rfl rfl 11 (by decide) (hts _ k878) (fun _ h9 => h9) rfl (by decide +kernel) rfl rfl (Nat.le_of_ble_eq_true rfl) dX12_figures_83 (fun H locs hP hD hS => ?_)
              have hP : va_P g.1 vwCl (List.flatten [bMo g o a th hi ac tp ba en x_70 fl de iD iO tU fm fk fa fc ft ff fb fi]) H := hP
              have hD : va_D A (List.flatten [bMo g o a th hi ac tp ba en x_70 fl de iD iO tU fm fk fa fc ft ff fb fi]) := hD
              refine lv_goto (tgt := 18) hx hb dX12_figures_86 (by decide) ?_
              have hl := lv_sub (l' := [(0, .ref o), (1, .int lw), (2, .int hg), (3, .int at2_3), (4, .int x_69)]) hl [1, 2, 3, 4, 0] rfl
              have hP : va_P g.1 vwCl (List.flatten [bMo g o a th hi ac tp ba en x_70 fl de iD iO tU fm fk fa fc ft ff fb fi]) H := hP
              have hD : va_D A (List.flatten [bMo g o a th hi ac tp ba en x_70 fl de iD iO tU fm fk fa fc ft ff fb fi]) := hD
              exact ih18_11 x_69 x_70 ⟨(Int.le_trans (by decide) hx_70.2.1), (Int.le_trans hx_70.2.2 (by decide))⟩ (by first | omega | assumption | decide) (by first | omega | assumption | decide) H _ ls (by omega)  hP hD hS (lv_sub hl [0, 1, 2, 3, 4] rfl)
          · skip
            refine lv_if_eq (tgt := 89) hx hb dX12_figures_44 (by decide) (fun _ => ?_) (fun c71 => absurd (by decide) c71)
            refine lv_aload_n hx hb dX12_figures_89 rfl (lv_at hl 0 rfl) ?_
            refine va_get (D := g.1) (ci := 10) (v := .int x_6) (C := RX12) (T := TX12) (N := 20) hx hb hts izRX12 hown hK hP 0 rfl rfl 11 (by decide) (hts _ k878) (fun _ h9 => h9) rfl dX12_figures_90 ?_
            refine lv_iload_n hx hb dX12_figures_93 rfl (lv_at hl 3 rfl) ?_
            refine lv_icmp_eq (tgt := 119) hx hb dX12_figures_94 (by decide) (fun cb9 => ?_) (fun cb9 => ?_)
            · skip
              have c72 : x_6.toInt = at2_3.toInt := zeq cb9 rfl rfl
              have n73 : at2_3.toInt ≤ 399 := Int.le_trans (Int.le_of_eq c72.symm) n33
              refine lv_aload_n hx hb dX12_figures_119 rfl (lv_at hl 0 rfl) ?_
              refine lv_iload_n hx hb dX12_figures_120 rfl (lv_at hl 3 rfl) ?_
              refine mcallV' (g := g) (q0 := 0) (ci := 10) (As := [.int at2_3]) (rest := []) St hK hT hA hP hD hS hl.1 [0] [] rfl rfl rfl (m_wrong l g o a th hi ac tp ba en x_6 fl de iD iO tU fm fk fa fc ft ff fb fi at2_3 (by first | assumption | omega | decide | exact Or.inl (by decide) | exact Or.inr (by decide)) hfl) (cwV 1 hts (zgL (zl4 k895 k896 k897 k839) k890) rfl rfl rfl (by decide +kernel) ⟨Nat.le_of_ble_eq_true rfl, Nat.le_of_ble_eq_true rfl⟩) rfl rfl rfl rfl (Nat.le_of_ble_eq_true rfl) dX12_figures_121 ⟨(Nat.le_of_ble_eq_true rfl), (Nat.le_of_ble_eq_true rfl)⟩ (fun fl2_74 H locs hq75 hP hD hS => ?_)
              replace hq75 : (0 ≤ fl2_74.toInt) := hq75
              have hP : va_P g.1 vwCl (List.flatten [bMo g o a th hi ac tp ba en x_6 fl2_74 de iD iO tU fm fk fa fc ft ff fb fi]) H := hP
              have hD : va_D A (List.flatten [bMo g o a th hi ac tp ba en x_6 fl2_74 de iD iO tU fm fk fa fc ft ff fb fi]) := hD
              refine W.widen (k := 0) (n := 0) (Nat.le_of_ble_eq_true rfl) (Nat.le_of_ble_eq_true rfl) ?_
              refine W.eq (g2 := F0 m 124 ls []) rfl ?_
              refine lv_iload hx hb dX12_figures_124 (lv_at hl 4 rfl) ?_
              have hP : va_P g.1 vwCl (List.flatten [bMo g o a th hi ac tp ba en x_6 fl2_74 de iD iO tU fm fk fa fc ft ff fb fi]) H := hP
              have hD : va_D A (List.flatten [bMo g o a th hi ac tp ba en x_6 fl2_74 de iD iO tU fm fk fa fc ft ff fb fi]) := hD
              exact mret_i hx hb hr hlocks hS (Nat.le_of_ble_eq_true rfl) (Nat.le_of_ble_eq_true rfl) dX12_figures_126 (x_6, fl2_74, x_5) rfl (show (0 ≤ x_6.toInt ∧ x_6.toInt ≤ en.toInt + 7 - de.toInt) ∧ (tA.toInt ≤ x_6.toInt) ∧ (-1 ≤ fl2_74.toInt) ∧ (zImp (fl2_74.toInt = -1) (fl.toInt = -1 ∧ lw.toInt ≤ x_5.toInt ∧ x_5.toInt ≤ hg.toInt)) from ⟨(by first | assumption | omega | decide | exact rfl | exact zb01 (by omega) | exact Or.inl (by decide) | exact Or.inr (by first | omega | decide)), (by first | assumption | omega | decide | exact rfl | exact zb01 (by omega) | exact Or.inl (by decide) | exact Or.inr (by first | omega | decide)), (by first | assumption | omega | decide | exact rfl | exact zb01 (by omega) | exact Or.inl (by decide) | exact Or.inr (by first | omega | decide)), (fun h9 => by first | omega)⟩) hP hD
            · skip
              have c76 : ¬ x_6.toInt = at2_3.toInt := zne cb9 rfl rfl
              refine lv_aload_n hx hb dX12_figures_97 rfl (lv_at hl 0 rfl) ?_
              refine va_get (D := g.1) (ci := 10) (v := .int x_6) (C := RX12) (T := TX12) (N := 20) hx hb hts izRX12 hown hK hP 0 rfl rfl 11 (by decide) (hts _ k878) (fun _ h9 => h9) rfl dX12_figures_98 ?_
              refine lv_iload_n hx hb dX12_figures_101 rfl (lv_at hl 3 rfl) ?_
              refine lv_isub hx hb dX12_figures_102 ?_
              refine zgv (zsub (i := x_6.toInt) (j := at2_3.toInt) rfl rfl (by omega)) (fun x_77 hx_77 => ?_)
              refine lv_iconst (v := 3) hx hb dX12_figures_103 (by decide) ?_
              refine lv_icmp_gt (tgt := 119) hx hb dX12_figures_104 (by decide) (fun cb9 => ?_) (fun cb9 => ?_)
              · skip
                have c78 : 3 < x_77.toInt := zlti cb9 (by decide) rfl
                have n79 : 4 ≤ x_77.toInt := zL2 (a := 3) c78 (Int.le_refl _) (by decide)
                refine lv_aload_n hx hb dX12_figures_119 rfl (lv_at hl 0 rfl) ?_
                refine lv_iload_n hx hb dX12_figures_120 rfl (lv_at hl 3 rfl) ?_
                refine mcallV' (g := g) (q0 := 0) (ci := 10) (As := [.int at2_3]) (rest := []) St hK hT hA hP hD hS hl.1 [0] [] rfl rfl rfl (m_wrong l g o a th hi ac tp ba en x_6 fl de iD iO tU fm fk fa fc ft ff fb fi at2_3 (by first | assumption | omega | decide | exact Or.inl (by decide) | exact Or.inr (by decide)) hfl) (cwV 1 hts (zgL (zl4 k895 k896 k897 k839) k890) rfl rfl rfl (by decide +kernel) ⟨Nat.le_of_ble_eq_true rfl, Nat.le_of_ble_eq_true rfl⟩) rfl rfl rfl rfl (Nat.le_of_ble_eq_true rfl) dX12_figures_121 ⟨(Nat.le_of_ble_eq_true rfl), (Nat.le_of_ble_eq_true rfl)⟩ (fun fl2_80 H locs hq81 hP hD hS => ?_)
                replace hq81 : (0 ≤ fl2_80.toInt) := hq81
                have hP : va_P g.1 vwCl (List.flatten [bMo g o a th hi ac tp ba en x_6 fl2_80 de iD iO tU fm fk fa fc ft ff fb fi]) H := hP
                have hD : va_D A (List.flatten [bMo g o a th hi ac tp ba en x_6 fl2_80 de iD iO tU fm fk fa fc ft ff fb fi]) := hD
                refine W.widen (k := 0) (n := 0) (Nat.le_of_ble_eq_true rfl) (Nat.le_of_ble_eq_true rfl) ?_
                refine W.eq (g2 := F0 m 124 ls []) rfl ?_
                refine lv_iload hx hb dX12_figures_124 (lv_at hl 4 rfl) ?_
                have hP : va_P g.1 vwCl (List.flatten [bMo g o a th hi ac tp ba en x_6 fl2_80 de iD iO tU fm fk fa fc ft ff fb fi]) H := hP
                have hD : va_D A (List.flatten [bMo g o a th hi ac tp ba en x_6 fl2_80 de iD iO tU fm fk fa fc ft ff fb fi]) := hD
                exact mret_i hx hb hr hlocks hS (Nat.le_of_ble_eq_true rfl) (Nat.le_of_ble_eq_true rfl) dX12_figures_126 (x_6, fl2_80, x_5) rfl (show (0 ≤ x_6.toInt ∧ x_6.toInt ≤ en.toInt + 7 - de.toInt) ∧ (tA.toInt ≤ x_6.toInt) ∧ (-1 ≤ fl2_80.toInt) ∧ (zImp (fl2_80.toInt = -1) (fl.toInt = -1 ∧ lw.toInt ≤ x_5.toInt ∧ x_5.toInt ≤ hg.toInt)) from ⟨(by first | assumption | omega | decide | exact rfl | exact zb01 (by omega) | exact Or.inl (by decide) | exact Or.inr (by first | omega | decide)), (by first | assumption | omega | decide | exact rfl | exact zb01 (by omega) | exact Or.inl (by decide) | exact Or.inr (by first | omega | decide)), (by first | assumption | omega | decide | exact rfl | exact zb01 (by omega) | exact Or.inl (by decide) | exact Or.inr (by first | omega | decide)), (fun h9 => by first | omega)⟩) hP hD
              · skip
                have c82 : x_77.toInt ≤ 3 := zle (Int32.not_lt.mp cb9) rfl (by decide)
                have n83 : x_77.toInt ≤ 3 := Int.le_trans c82 (Int.le_refl _)
                refine lv_iload hx hb dX12_figures_107 (lv_at hl 4 rfl) ?_
                refine lv_iload_n hx hb dX12_figures_109 rfl (lv_at hl 1 rfl) ?_
                refine lv_icmp_lt (tgt := 119) hx hb dX12_figures_110 (by decide) (fun cb9 => ?_) (fun cb9 => ?_)
                · skip
                  have c84 : x_5.toInt < lw.toInt := zlti cb9 rfl rfl
                  refine lv_aload_n hx hb dX12_figures_119 rfl (lv_at hl 0 rfl) ?_
                  refine lv_iload_n hx hb dX12_figures_120 rfl (lv_at hl 3 rfl) ?_
                  refine mcallV' (g := g) (q0 := 0) (ci := 10) (As := [.int at2_3]) (rest := []) St hK hT hA hP hD hS hl.1 [0] [] rfl rfl rfl (m_wrong l g o a th hi ac tp ba en x_6 fl de iD iO tU fm fk fa fc ft ff fb fi at2_3 (by first | assumption | omega | decide | exact Or.inl (by decide) | exact Or.inr (by decide)) hfl) (cwV 1 hts (zgL (zl4 k895 k896 k897 k839) k890) rfl rfl rfl (by decide +kernel) ⟨Nat.le_of_ble_eq_true rfl, Nat.le_of_ble_eq_true rfl⟩) rfl rfl rfl rfl (Nat.le_of_ble_eq_true rfl) dX12_figures_121 ⟨(Nat.le_of_ble_eq_true rfl), (Nat.le_of_ble_eq_true rfl)⟩ (fun fl2_85 H locs hq86 hP hD hS => ?_)
                  replace hq86 : (0 ≤ fl2_85.toInt) := hq86
                  have hP : va_P g.1 vwCl (List.flatten [bMo g o a th hi ac tp ba en x_6 fl2_85 de iD iO tU fm fk fa fc ft ff fb fi]) H := hP
                  have hD : va_D A (List.flatten [bMo g o a th hi ac tp ba en x_6 fl2_85 de iD iO tU fm fk fa fc ft ff fb fi]) := hD
                  refine W.widen (k := 0) (n := 0) (Nat.le_of_ble_eq_true rfl) (Nat.le_of_ble_eq_true rfl) ?_
                  refine W.eq (g2 := F0 m 124 ls []) rfl ?_
                  refine lv_iload hx hb dX12_figures_124 (lv_at hl 4 rfl) ?_
                  have hP : va_P g.1 vwCl (List.flatten [bMo g o a th hi ac tp ba en x_6 fl2_85 de iD iO tU fm fk fa fc ft ff fb fi]) H := hP
                  have hD : va_D A (List.flatten [bMo g o a th hi ac tp ba en x_6 fl2_85 de iD iO tU fm fk fa fc ft ff fb fi]) := hD
                  exact mret_i hx hb hr hlocks hS (Nat.le_of_ble_eq_true rfl) (Nat.le_of_ble_eq_true rfl) dX12_figures_126 (x_6, fl2_85, x_5) rfl (show (0 ≤ x_6.toInt ∧ x_6.toInt ≤ en.toInt + 7 - de.toInt) ∧ (tA.toInt ≤ x_6.toInt) ∧ (-1 ≤ fl2_85.toInt) ∧ (zImp (fl2_85.toInt = -1) (fl.toInt = -1 ∧ lw.toInt ≤ x_5.toInt ∧ x_5.toInt ≤ hg.toInt)) from ⟨(by first | assumption | omega | decide | exact rfl | exact zb01 (by omega) | exact Or.inl (by decide) | exact Or.inr (by first | omega | decide)), (by first | assumption | omega | decide | exact rfl | exact zb01 (by omega) | exact Or.inl (by decide) | exact Or.inr (by first | omega | decide)), (by first | assumption | omega | decide | exact rfl | exact zb01 (by omega) | exact Or.inl (by decide) | exact Or.inr (by first | omega | decide)), (fun h9 => by first | omega)⟩) hP hD
                · skip
                  have c87 : lw.toInt ≤ x_5.toInt := zle (Int32.not_lt.mp cb9) rfl rfl
                  refine lv_iload hx hb dX12_figures_113 (lv_at hl 4 rfl) ?_
                  refine lv_iload_n hx hb dX12_figures_115 rfl (lv_at hl 2 rfl) ?_
                  refine lv_icmp_le (tgt := 124) hx hb dX12_figures_116 (by decide) (fun cb9 => ?_) (fun cb9 => ?_)
                  · skip
                    have c88 : x_5.toInt ≤ hg.toInt := zle cb9 rfl rfl
                    refine lv_iload hx hb dX12_figures_124 (lv_at hl 4 rfl) ?_
                    have hP : va_P g.1 vwCl (List.flatten [bMo g o a th hi ac tp ba en x_6 fl de iD iO tU fm fk fa fc ft ff fb fi]) H := hP
                    have hD : va_D A (List.flatten [bMo g o a th hi ac tp ba en x_6 fl de iD iO tU fm fk fa fc ft ff fb fi]) := hD
                    exact mret_i hx hb hr hlocks hS (Nat.le_of_ble_eq_true rfl) (Nat.le_of_ble_eq_true rfl) dX12_figures_126 (x_6, fl, x_5) rfl (show (0 ≤ x_6.toInt ∧ x_6.toInt ≤ en.toInt + 7 - de.toInt) ∧ (tA.toInt ≤ x_6.toInt) ∧ (-1 ≤ fl.toInt) ∧ (zImp (fl.toInt = -1) (fl.toInt = -1 ∧ lw.toInt ≤ x_5.toInt ∧ x_5.toInt ≤ hg.toInt)) from ⟨(by first | assumption | omega | decide | exact rfl | exact zb01 (by omega) | exact Or.inl (by decide) | exact Or.inr (by first | omega | decide)), (by first | assumption | omega | decide | exact rfl | exact zb01 (by omega) | exact Or.inl (by decide) | exact Or.inr (by first | omega | decide)), hfl, (fun h9 => by first | omega)⟩) hP hD
                  · skip
                    have c89 : hg.toInt < x_5.toInt := zlti (Int32.not_le.mp cb9) rfl rfl
                    refine lv_aload_n hx hb dX12_figures_119 rfl (lv_at hl 0 rfl) ?_
                    refine lv_iload_n hx hb dX12_figures_120 rfl (lv_at hl 3 rfl) ?_
                    refine mcallV' (g := g) (q0 := 0) (ci := 10) (As := [.int at2_3]) (rest := []) St hK hT hA hP hD hS hl.1 [0] [] rfl rfl rfl (m_wrong l g o a th hi ac tp ba en x_6 fl de iD iO tU fm fk fa fc ft ff fb fi at2_3 (by first | assumption | omega | decide | exact Or.inl (by decide) | exact Or.inr (by decide)) hfl) (cwV 1 hts (zgL (zl4 k895 k896 k897 k839) k890) rfl rfl rfl (by decide +kernel) ⟨Nat.le_of_ble_eq_true rfl, Nat.le_of_ble_eq_true rfl⟩) rfl rfl rfl rfl (Nat.le_of_ble_eq_true rfl) dX12_figures_121 ⟨(Nat.le_of_ble_eq_true rfl), (Nat.le_of_ble_eq_true rfl)⟩ (fun fl2_90 H locs hq91 hP hD hS => ?_)
                    replace hq91 : (0 ≤ fl2_90.toInt) := hq91
                    have hP : va_P g.1 vwCl (List.flatten [bMo g o a th hi ac tp ba en x_6 fl2_90 de iD iO tU fm fk fa fc ft ff fb fi]) H := hP
                    have hD : va_D A (List.flatten [bMo g o a th hi ac tp ba en x_6 fl2_90 de iD iO tU fm fk fa fc ft ff fb fi]) := hD
                    refine W.widen (k := 0) (n := 0) (Nat.le_of_ble_eq_true rfl) (Nat.le_of_ble_eq_true rfl) ?_
                    refine W.eq (g2 := F0 m 124 ls []) rfl ?_
                    refine lv_iload hx hb dX12_figures_124 (lv_at hl 4 rfl) ?_
                    have hP : va_P g.1 vwCl (List.flatten [bMo g o a th hi ac tp ba en x_6 fl2_90 de iD iO tU fm fk fa fc ft ff fb fi]) H := hP
                    have hD : va_D A (List.flatten [bMo g o a th hi ac tp ba en x_6 fl2_90 de iD iO tU fm fk fa fc ft ff fb fi]) := hD
                    exact mret_i hx hb hr hlocks hS (Nat.le_of_ble_eq_true rfl) (Nat.le_of_ble_eq_true rfl) dX12_figures_126 (x_6, fl2_90, x_5) rfl (show (0 ≤ x_6.toInt ∧ x_6.toInt ≤ en.toInt + 7 - de.toInt) ∧ (tA.toInt ≤ x_6.toInt) ∧ (-1 ≤ fl2_90.toInt) ∧ (zImp (fl2_90.toInt = -1) (fl.toInt = -1 ∧ lw.toInt ≤ x_5.toInt ∧ x_5.toInt ≤ hg.toInt)) from ⟨(by first | assumption | omega | decide | exact rfl | exact zb01 (by omega) | exact Or.inl (by decide) | exact Or.inr (by first | omega | decide)), (by first | assumption | omega | decide | exact rfl | exact zb01 (by omega) | exact Or.inl (by decide) | exact Or.inr (by first | omega | decide)), (by first | assumption | omega | decide | exact rfl | exact zb01 (by omega) | exact Or.inl (by decide) | exact Or.inr (by first | omega | decide)), (fun h9 => by first | omega)⟩) hP hD
    have hL0 : (0 : Int32).toInt = 0 := by decide
    have hP : va_P g.1 vwCl (List.flatten [bMo g o a th hi ac tp ba en at2_3 fl de iD iO tU fm fk fa fc ft ff fb fi]) H := hP
    have hD : va_D A (List.flatten [bMo g o a th hi ac tp ba en at2_3 fl de iD iO tU fm fk fa fc ft ff fb fi]) := hD
    exact LP18_10 _ 0 at2_3 (by first | omega | assumption | decide) (by first | omega | assumption | decide) (by first | omega | assumption | decide) H _ ls (Nat.lt_succ_self _)  hP hD hS (lv_sub hl [0, 1, 2, 3, 4] rfl)
  · skip
    have c92 : ¬ fl.toInt = (-1) := zne cb9 rfl (by decide)
    refine lv_iconst (v := 0) hx hb dX12_figures_8 (by decide) ?_
    have hL0 : (0 : Int32).toInt = 0 := by decide
    have hP : va_P g.1 vwCl (List.flatten [bMo g o a th hi ac tp ba en tA fl de iD iO tU fm fk fa fc ft ff fb fi]) s.heap := hP
    have hD : va_D A (List.flatten [bMo g o a th hi ac tp ba en tA fl de iD iO tU fm fk fa fc ft ff fb fi]) := hD
    exact mret_i hx hb hr hlocks hS (Nat.le_of_ble_eq_true rfl) (Nat.le_of_ble_eq_true rfl) dX12_figures_9 (tA, fl, (0 : Int32)) rfl (show (0 ≤ tA.toInt ∧ tA.toInt ≤ en.toInt + 7 - de.toInt) ∧ (tA.toInt ≤ tA.toInt) ∧ (-1 ≤ fl.toInt) ∧ (zImp (fl.toInt = -1) (fl.toInt = -1 ∧ lw.toInt ≤ (0 : Int32).toInt ∧ (0 : Int32).toInt ≤ hg.toInt)) from ⟨htA, (by first | assumption | omega | decide | exact rfl | exact zb01 (by omega) | exact Or.inl (by decide) | exact Or.inr (by first | omega | decide)), hfl, (fun h9 => by first | omega)⟩) hP hD
