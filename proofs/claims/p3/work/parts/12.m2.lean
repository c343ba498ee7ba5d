set_option maxRecDepth 100000 in
set_option maxHeartbeats 4000000 in
theorem m_letter (l : Launch) (g : zG) (o : Nat) (a : Nat → Nat) (th : Int32) (hi : Int32) (ac : Int32) (tp : Int32) (ba : Int32) (en : Int32) (tA : Int32) (fl : Int32) (de : Int32) (iD : Int32) (iO : Int32) (tU : Int32) (fm : Nat → Int32) (fk : Nat → Int32) (fa : Nat → Int32) (fc : Nat → Int32) (ft : Nat → Int32) (ff : Nat → Int32) (fb : Nat → Int32) (fi : Nat → Int32) (k : Int32) (hk : 0 ≤ k.toInt ∧ k.toInt ≤ 399) (hba : ba.toInt = -1 ∨ ba.toInt = 379) : zM' g l yX12_letter (Cond.code yX12_letter cX12_letter 2 (some .int) :: zB) ({ frames := 0, cells := 0, slots := 0, locals := 0 } : Room) [.ref o, .int k] [bMo g o a th hi ac tp ba en tA fl de iD iO tU fm fk fa fc ft ff fb fi] (fun (q : Int32) => some (.int q)) (fun (q : Int32) => True) (fun (q : Int32) => [bMo g o a th hi ac tp ba en tA fl de iD iO tU fm fk fa fc ft ff fb fi]) := by
  refine zM'.of (cc := cX12_letter) (maxL := 2) (rt := (some .int)) (by decide) rfl (Nat.le_of_ble_eq_true rfl) ?_
  intro p e s m args below meth c A ls St hr hlocks hin hK hT hA hP hD hS hl
  obtain ⟨hx, hb, hml, hown, hts⟩ := id St
  have hl : lv_has ls 2 [(0, .ref o), (1, .int k)] := hl
  refine lv_aload_n hx hb dX12_letter_0 rfl (lv_at hl 0 rfl) ?_
  refine va_get (D := g.1) (ci := 10) (v := .int ba) (C := RX12) (T := TX12) (N := 20) hx hb hts izRX12 hown hK hP 0 rfl rfl 9 (by decide) (hts _ k875) (fun _ h9 => h9) rfl dX12_letter_1 ?_
  refine lv_iconst (v := (-1)) hx hb dX12_letter_4 (by decide) ?_
  refine lv_icmp_ne (tgt := 17) hx hb dX12_letter_5 (by decide) (fun cb9 => ?_) (fun cb9 => ?_)
  · skip
    have c1 : ¬ ba.toInt = (-1) := zne cb9 rfl (by decide)
    refine lv_aload_n hx hb dX12_letter_17 rfl (lv_at hl 0 rfl) ?_
    refine va_get (D := g.1) (ci := 10) (v := .ref (a 0)) (C := RX12) (T := TX12) (N := 20) hx hb hts izRX12 hown hK hP 0 rfl rfl 1 (by decide) (hts _ k815) (fun _ h9 => h9) rfl dX12_letter_18 ?_
    refine lv_aload_n hx hb dX12_letter_21 rfl (lv_at hl 0 rfl) ?_
    refine va_get (D := g.1) (ci := 10) (v := .int ba) (C := RX12) (T := TX12) (N := 20) hx hb hts izRX12 hown hK hP 0 rfl rfl 9 (by decide) (hts _ k875) (fun _ h9 => h9) rfl dX12_letter_22 ?_
    refine lv_iload_n hx hb dX12_letter_25 rfl (lv_at hl 1 rfl) ?_
    refine lv_iadd hx hb dX12_letter_26 ?_
    refine zgv (zadd (i := ba.toInt) (j := k.toInt) rfl rfl (by omega)) (fun x_2 hx_2 => ?_)
    refine va_iald hx hb hK hP 1 0 rfl rfl (zinI (by omega) (by omega)) dX12_letter_27 ?_
    refine zg (fun x_3 => ?_)
    have hP : va_P g.1 vwCl (List.flatten [bMo g o a th hi ac tp ba en tA fl de iD iO tU fm fk fa fc ft ff fb fi]) s.heap := hP
    have hD : va_D A (List.flatten [bMo g o a th hi ac tp ba en tA fl de iD iO tU fm fk fa fc ft ff fb fi]) := hD
    exact mret_i hx hb hr hlocks hS (Nat.le_of_ble_eq_true rfl) (Nat.le_of_ble_eq_true rfl) dX12_letter_28 (x_3) rfl trivial hP hD
  · skip
    have c4 : ba.toInt = (-1) := zeq cb9 rfl (by decide)
    refine lv_aload_n hx hb dX12_letter_8 rfl (lv_at hl 0 rfl) ?_
    refine va_get (D := g.1) (ci := 10) (v := .ref (a 4)) (C := RX12) (T := TX12) (N := 20) hx hb hts izRX12 hown hK hP 0 rfl rfl 7 (by decide) (hts _ k819) (fun _ h9 => h9) rfl dX12_letter_9 ?_
    refine lv_iload_n hx hb dX12_letter_12 rfl (lv_at hl 1 rfl) ?_
    refine va_iald hx hb hK hP 5 0 rfl rfl (zinI (by omega) (by omega)) dX12_letter_13 ?_
    refine zg (fun x_5 => ?_)
    refine lv_goto (tgt := 28) hx hb dX12_letter_14 (by decide) ?_
    have hP : va_P g.1 vwCl (List.flatten [bMo g o a th hi ac tp ba en tA fl de iD iO tU fm fk fa fc ft ff fb fi]) s.heap := hP
    have hD : va_D A (List.flatten [bMo g o a th hi ac tp ba en tA fl de iD iO tU fm fk fa fc ft ff fb fi]) := hD
    exact mret_i hx hb hr hlocks hS (Nat.le_of_ble_eq_true rfl) (Nat.le_of_ble_eq_true rfl) dX12_letter_28 (x_5) rfl trivial hP hD
set_option maxRecDepth 100000 in
set_option maxHeartbeats 4000000 in
theorem m_skip (l : Launch) (g : zG) (o : Nat) (a : Nat → Nat) (th : Int32) (hi : Int32) (ac : Int32) (tp : Int32) (ba : Int32) (en : Int32) (tA : Int32) (fl : Int32) (de : Int32) (iD : Int32) (iO : Int32) (tU : Int32) (fm : Nat → Int32) (fk : Nat → Int32) (fa : Nat → Int32) (fc : Nat → Int32) (ft : Nat → Int32) (ff : Nat → Int32) (fb : Nat → Int32) (fi : Nat → Int32) (hba : ba.toInt = -1 ∨ ba.toInt = 379) (hen : 0 ≤ en.toInt ∧ en.toInt ≤ 400) (htA : 0 ≤ tA.toInt ∧ tA.toInt ≤ en.toInt + 7 - de.toInt) (hfl : -1 ≤ fl.toInt) (hde : 0 ≤ de.toInt ∧ de.toInt ≤ 6) : zM' g l yX12_skip (Cond.code yX12_skip cX12_skip 1 none :: zB) ({ frames := 1, cells := 0, slots := 0, locals := 21 } : Room) [.ref o] [bMo g o a th hi ac tp ba en tA fl de iD iO tU fm fk fa fc ft ff fb fi] (fun (at2 : Int32) => none) (fun (at2 : Int32) => (tA.toInt ≤ at2.toInt ∧ at2.toInt ≤ en.toInt + 7 - de.toInt)) (fun (at2 : Int32) => [bMo g o a th hi ac tp ba en at2 fl de iD iO tU fm fk fa fc ft ff fb fi]) := by
  refine zM'.of (cc := cX12_skip) (maxL := 1) (rt := none) (by decide) rfl (Nat.le_of_ble_eq_true rfl) ?_
  intro p e s m args below meth c A ls St hr hlocks hin hK hT hA hP hD hS hl
  obtain ⟨hx, hb, hml, hown, hts⟩ := id St
  have hl : lv_has ls 1 [(0, .ref o)] := hl
  have LP0_5 : ∀ (kf : Nat) (x_1 : Int32), (0 ≤ x_1.toInt ∧ x_1.toInt ≤ 407) → (tA.toInt ≤ x_1.toInt) → (x_1.toInt ≤ en.toInt + 7 - de.toInt) → ∀ (H : Heap) (locs : List Loc) (ls : Array Slot), ((en.toInt - x_1.toInt).toNat) < kf → va_P g.1 vwCl (List.flatten [bMo g o a th hi ac tp ba en x_1 fl de iD iO tU fm fk fa fc ft ff fb fi]) H → va_D A (List.flatten [bMo g o a th hi ac tp ba en x_1 fl de iD iO tU fm fk fa fc ft ff fb fi]) → va_S A s.heap H locs → lv_has ls 1 [(0, .ref o)] → W p l e ({ frames := 1, cells := 0, slots := 0, locals := 21 } : Room) s m args below meth c H locs (0) (0) (zF g (fun (at2 : Int32) => none) (fun (at2 : Int32) => (tA.toInt ≤ at2.toInt ∧ at2.toInt ≤ en.toInt + 7 - de.toInt)) (fun (at2 : Int32) => [bMo g o a th hi ac tp ba en at2 fl de iD iO tU fm fk fa fc ft ff fb fi]) ({ frames := 1, cells := 0, slots := 0, locals := 21 } : Room) below args s A) (F0 m 0 ls []) := by
    intro kf
    induction kf with
    | zero => intro x_1 i2 i3 i4 H locs ls hk; exact absurd hk (Nat.not_lt_zero _)
    | succ kf ih0_6 =>
      intro x_1 i2 i3 i4 H locs ls hk hP hD hS hl
      refine lv_aload_n hx hb dX12_skip_0 rfl (lv_at hl 0 rfl) ?_
      refine va_get (D := g.1) (ci := 10) (v := .int x_1) (C := RX12) (T := TX12) (N := 20) hx hb hts izRX12 hown hK hP 0 rfl rfl 11 (by decide) (hts _ k877) (fun _ h9 => h9) rfl dX12_skip_1 ?_
      refine lv_aload_n hx hb dX12_skip_4 rfl (lv_at hl 0 rfl) ?_
      refine va_get (D := g.1) (ci := 10) (v := .int en) (C := RX12) (T := TX12) (N := 20) hx hb hts izRX12 hown hK hP 0 rfl rfl 10 (by decide) (hts _ k878) (fun _ h9 => h9) rfl dX12_skip_5 ?_
      refine lv_icmp_ge (tgt := 37) hx hb dX12_skip_8 (by decide) (fun cb9 => ?_) (fun cb9 => ?_)
      · skip
        have c7 : en.toInt ≤ x_1.toInt := zle cb9 rfl rfl
        have hP : va_P g.1 vwCl (List.flatten [bMo g o a th hi ac tp ba en x_1 fl de iD iO tU fm fk fa fc ft ff fb fi]) H := hP
        have hD : va_D A (List.flatten [bMo g o a th hi ac tp ba en x_1 fl de iD iO tU fm fk fa fc ft ff fb fi]) := hD
        exact mret_v hx hb hr hlocks hS (Nat.le_of_ble_eq_true rfl) (Nat.le_of_ble_eq_true rfl) dX12_skip_37 (x_1) rfl (show (tA.toInt ≤ x_1.toInt ∧ x_1.toInt ≤ en.toInt + 7 - de.toInt) from (by first | assumption | omega | decide | exact rfl | exact zb01 (by omega))) hP hD
      · skip
        have c8 : x_1.toInt < en.toInt := zlti (Int32.not_le.mp cb9) rfl rfl
        refine lv_aload_n hx hb dX12_skip_11 rfl (lv_at hl 0 rfl) ?_
        refine lv_aload_n hx hb dX12_skip_12 rfl (lv_at hl 0 rfl) ?_
        refine va_get (D := g.1) (ci := 10) (v := .int x_1) (C := RX12) (T := TX12) (N := 20) hx hb hts izRX12 hown hK hP 0 rfl rfl 11 (by decide) (hts _ k877) (fun _ h9 => h9) rfl dX12_skip_13 ?_
        refine mcallV' (g := g) (q0 := 0) (ci := 10) (As := [.int x_1]) (rest := []) St hK hT hA hP hD hS hl.1 [0] [] rfl rfl rfl (m_letter l g o a th hi ac tp ba en x_1 fl de iD iO tU fm fk fa fc ft ff fb fi x_1 (by first | assumption | omega | decide) (by first | assumption | omega | decide)) (cwV 1 hts (zgL (zl4 k879 k880 k881 k837) k874) rfl rfl rfl (by decide +kernel) ⟨Nat.le_of_ble_eq_true rfl, Nat.le_of_ble_eq_true rfl⟩) rfl rfl rfl rfl (Nat.le_of_ble_eq_true rfl) dX12_skip_16 ⟨(Nat.le_of_ble_eq_true rfl), (Nat.le_of_ble_eq_true rfl)⟩ (fun q_9 H locs hq10 hP hD hS => ?_)
        have hP : va_P g.1 vwCl (List.flatten [bMo g o a th hi ac tp ba en x_1 fl de iD iO tU fm fk fa fc ft ff fb fi]) H := hP
        have hD : va_D A (List.flatten [bMo g o a th hi ac tp ba en x_1 fl de iD iO tU fm fk fa fc ft ff fb fi]) := hD
        refine W.widen (k := 0) (n := 0) (Nat.le_of_ble_eq_true rfl) (Nat.le_of_ble_eq_true rfl) ?_
        refine W.eq (g2 := F0 m 19 ls [.int q_9]) rfl ?_
        refine lv_bipush (v := 32) hx hb dX12_skip_19 (by decide) ?_
        refine lv_icmp_ne (tgt := 37) hx hb dX12_skip_21 (by decide) (fun cb9 => ?_) (fun cb9 => ?_)
        · skip
          have c11 : ¬ q_9.toInt = 32 := zne cb9 rfl (by decide)
          have hP : va_P g.1 vwCl (List.flatten [bMo g o a th hi ac tp ba en x_1 fl de iD iO tU fm fk fa fc ft ff fb fi]) H := hP
          have hD : va_D A (List.flatten [bMo g o a th hi ac tp ba en x_1 fl de iD iO tU fm fk fa fc ft ff fb fi]) := hD
          exact mret_v hx hb hr hlocks hS (Nat.le_of_ble_eq_true rfl) (Nat.le_of_ble_eq_true rfl) dX12_skip_37 (x_1) rfl (show (tA.toInt ≤ x_1.toInt ∧ x_1.toInt ≤ en.toInt + 7 - de.toInt) from (by first | assumption | omega | decide | exact rfl | exact zb01 (by omega))) hP hD
        · skip
          have c12 : q_9.toInt = 32 := zeq cb9 rfl (by decide)
          refine lv_aload_n hx hb dX12_skip_24 rfl (lv_at hl 0 rfl) ?_
          refine lv_dup hx hb dX12_skip_25 rfl ?_
          refine va_get (D := g.1) (ci := 10) (v := .int x_1) (C := RX12) (T := TX12) (N := 20) hx hb hts izRX12 hown hK hP 0 rfl rfl 11 (by decide) (hts _ k877) (fun _ h9 => h9) rfl dX12_skip_26 ?_
          refine lv_iconst (v := 1) hx hb dX12_skip_29 (by decide) ?_
          refine lv_iadd hx hb dX12_skip_30 ?_
          refine zgv (zadd (i := x_1.toInt) (j := 1) rfl (by decide) (by omega)) (fun x_13 hx_13 => ?_)
          refine va_put (D := g.1) (ci := 10) (v := .int x_13) (ty := .int) (C := RX12) (T := TX12) (N := 20) hx hb hts izRX12 tyX12 tyX12_ok nmX12 hown hK hP hD hS 0 rfl rfl 11 (by decide) (hts _ k877) (fun _ h9 => h9) rfl (by decide +kernel) rfl rfl (Nat.le_of_ble_eq_true rfl) dX12_skip_31 (fun H locs hP hD hS => ?_)
          have hP : va_P g.1 vwCl (List.flatten [bMo g o a th hi ac tp ba en x_13 fl de iD iO tU fm fk fa fc ft ff fb fi]) H := hP
          have hD : va_D A (List.flatten [bMo g o a th hi ac tp ba en x_13 fl de iD iO tU fm fk fa fc ft ff fb fi]) := hD
          refine lv_goto (tgt := 0) hx hb dX12_skip_34 (by decide) ?_
          have hP : va_P g.1 vwCl (List.flatten [bMo g o a th hi ac tp ba en x_13 fl de iD iO tU fm fk fa fc ft ff fb fi]) H := hP
          have hD : va_D A (List.flatten [bMo g o a th hi ac tp ba en x_13 fl de iD iO tU fm fk fa fc ft ff fb fi]) := hD
          exact ih0_6 x_13 (by first | omega | assumption | decide) (by first | omega | assumption | decide) (by first | omega | assumption | decide) H _ ls (by omega)  hP hD hS (lv_sub hl [0] rfl)
  have hP : va_P g.1 vwCl (List.flatten [bMo g o a th hi ac tp ba en tA fl de iD iO tU fm fk fa fc ft ff fb fi]) s.heap := hP
  have hD : va_D A (List.flatten [bMo g o a th hi ac tp ba en tA fl de iD iO tU fm fk fa fc ft ff fb fi]) := hD
  exact LP0_5 _ tA (by first | omega | assumption | decide) (by first | omega | assumption | decide) (by first | omega | assumption | decide) s.heap _ ls (Nat.lt_succ_self _)  hP hD hS (lv_sub hl [0] rfl)
set_option maxRecDepth 100000 in
set_option maxHeartbeats 4000000 in
theorem m_isSign (l : Launch) (g : zG) (o : Nat) (a : Nat → Nat) (th : Int32) (hi : Int32) (ac : Int32) (tp : Int32) (ba : Int32) (en : Int32) (tA : Int32) (fl : Int32) (de : Int32) (iD : Int32) (iO : Int32) (tU : Int32) (fm : Nat → Int32) (fk : Nat → Int32) (fa : Nat → Int32) (fc : Nat → Int32) (ft : Nat → Int32) (ff : Nat → Int32) (fb : Nat → Int32) (fi : Nat → Int32) (sg : Int32) (hba : ba.toInt = -1 ∨ ba.toInt = 379) (hen : 0 ≤ en.toInt ∧ en.toInt ≤ 400) (htA : 0 ≤ tA.toInt ∧ tA.toInt ≤ en.toInt + 7 - de.toInt) (hfl : -1 ≤ fl.toInt) (hde : 0 ≤ de.toInt ∧ de.toInt ≤ 6) : zM' g l yX12_isSign (Cond.code yX12_isSign cX12_isSign 2 (some .boolean) :: zB) ({ frames := 2, cells := 0, slots := 0, locals := 41 } : Room) [.ref o, .int sg] [bMo g o a th hi ac tp ba en tA fl de iD iO tU fm fk fa fc ft ff fb fi] (fun u : Int32 × Int32 => (fun (at2 : Int32) (q : Int32) => some (.int q)) (u.1) (u.2)) (fun u : Int32 × Int32 => (fun (at2 : Int32) (q : Int32) => (tA.toInt ≤ at2.toInt ∧ at2.toInt ≤ en.toInt + 7 - de.toInt) ∧ (q = 1 ∧ at2.toInt < en.toInt ∨ q = 0)) (u.1) (u.2)) (fun u : Int32 × Int32 => (fun (at2 : Int32) (q : Int32) => [bMo g o a th hi ac tp ba en at2 fl de iD iO tU fm fk fa fc ft ff fb fi]) (u.1) (u.2)) := by
  refine zM'.of (cc := cX12_isSign) (maxL := 2) (rt := (some .boolean)) (by decide) rfl (Nat.le_of_ble_eq_true rfl) ?_
  intro p e s m args below meth c A ls St hr hlocks hin hK hT hA hP hD hS hl
  obtain ⟨hx, hb, hml, hown, hts⟩ := id St
  have hl : lv_has ls 2 [(0, .ref o), (1, .int sg)] := hl
  refine lv_aload_n hx hb dX12_isSign_0 rfl (lv_at hl 0 rfl) ?_
  refine mcallV' (g := g) (q0 := 0) (ci := 10) (As := []) (rest := []) St hK hT hA hP hD hS hl.1 [0] [] rfl rfl rfl (m_skip l g o a th hi ac tp ba en tA fl de iD iO tU fm fk fa fc ft ff fb fi (by first | assumption | omega | decide) (by first | assumption | omega | decide) (by first | assumption | omega | decide) (by first | assumption | omega | decide) (by first | assumption | omega | decide)) (cwV 0 hts (zgL (zl4 k883 k884 k885 k837) k876) rfl rfl rfl (by decide +kernel) ⟨Nat.le_of_ble_eq_true rfl, Nat.le_of_ble_eq_true rfl⟩) rfl rfl rfl rfl (Nat.le_of_ble_eq_true rfl) dX12_isSign_1 ⟨(Nat.le_of_ble_eq_true rfl), (Nat.le_of_ble_eq_true rfl)⟩ (fun at2_1 H locs hq2 hP hD hS => ?_)
  replace hq2 : (tA.toInt ≤ at2_1.toInt ∧ at2_1.toInt ≤ en.toInt + 7 - de.toInt) := hq2
  have hP : va_P g.1 vwCl (List.flatten [bMo g o a th hi ac tp ba en at2_1 fl de iD iO tU fm fk fa fc ft ff fb fi]) H := hP
  have hD : va_D A (List.flatten [bMo g o a th hi ac tp ba en at2_1 fl de iD iO tU fm fk fa fc ft ff fb fi]) := hD
  refine W.widen (k := 0) (n := 0) (Nat.le_of_ble_eq_true rfl) (Nat.le_of_ble_eq_true rfl) ?_
  refine W.eq (g2 := F0 m 4 ls []) rfl ?_
  refine lv_aload_n hx hb dX12_isSign_4 rfl (lv_at hl 0 rfl) ?_
  refine va_get (D := g.1) (ci := 10) (v := .int at2_1) (C := RX12) (T := TX12) (N := 20) hx hb hts izRX12 hown hK hP 0 rfl rfl 11 (by decide) (hts _ k877) (fun _ h9 => h9) rfl dX12_isSign_5 ?_
  refine lv_aload_n hx hb dX12_isSign_8 rfl (lv_at hl 0 rfl) ?_
  refine va_get (D := g.1) (ci := 10) (v := .int en) (C := RX12) (T := TX12) (N := 20) hx hb hts izRX12 hown hK hP 0 rfl rfl 10 (by decide) (hts _ k878) (fun _ h9 => h9) rfl dX12_isSign_9 ?_
  refine lv_icmp_ge (tgt := 31) hx hb dX12_isSign_12 (by decide) (fun cb9 => ?_) (fun cb9 => ?_)
  · skip
    have c3 : en.toInt ≤ at2_1.toInt := zle cb9 rfl rfl
    refine lv_iconst (v := 0) hx hb dX12_isSign_31 (by decide) ?_
    have hP : va_P g.1 vwCl (List.flatten [bMo g o a th hi ac tp ba en at2_1 fl de iD iO tU fm fk fa fc ft ff fb fi]) H := hP
    have hD : va_D A (List.flatten [bMo g o a th hi ac tp ba en at2_1 fl de iD iO tU fm fk fa fc ft ff fb fi]) := hD
    exact mret_z hx hb hr hlocks hS (Nat.le_of_ble_eq_true rfl) (Nat.le_of_ble_eq_true rfl) dX12_isSign_32 (at2_1, (0 : Int32)) rfl (by decide) (show (tA.toInt ≤ at2_1.toInt ∧ at2_1.toInt ≤ en.toInt + 7 - de.toInt) ∧ (0 = 1 ∧ at2_1.toInt < en.toInt ∨ 0 = 0) from ⟨by omega, by first | exact Or.inl ⟨rfl, by omega⟩ | exact Or.inr rfl⟩) hP hD
  · skip
    have c4 : at2_1.toInt < en.toInt := zlti (Int32.not_le.mp cb9) rfl rfl
    refine lv_aload_n hx hb dX12_isSign_15 rfl (lv_at hl 0 rfl) ?_
    refine lv_aload_n hx hb dX12_isSign_16 rfl (lv_at hl 0 rfl) ?_
    refine va_get (D := g.1) (ci := 10) (v := .int at2_1) (C := RX12) (T := TX12) (N := 20) hx hb hts izRX12 hown hK hP 0 rfl rfl 11 (by decide) (hts _ k877) (fun _ h9 => h9) rfl dX12_isSign_17 ?_
    refine mcallV' (g := g) (q0 := 0) (ci := 10) (As := [.int at2_1]) (rest := []) St hK hT hA hP hD hS hl.1 [0] [] rfl rfl rfl (m_letter l g o a th hi ac tp ba en at2_1 fl de iD iO tU fm fk fa fc ft ff fb fi at2_1 (by first | assumption | omega | decide) (by first | assumption | omega | decide)) (cwV 1 hts (zgL (zl4 k879 k880 k881 k837) k874) rfl rfl rfl (by decide +kernel) ⟨Nat.le_of_ble_eq_true rfl, Nat.le_of_ble_eq_true rfl⟩) rfl rfl rfl rfl (Nat.le_of_ble_eq_true rfl) dX12_isSign_20 ⟨(Nat.le_of_ble_eq_true rfl), (Nat.le_of_ble_eq_true rfl)⟩ (fun q_5 H locs hq6 hP hD hS => ?_)
    have hP : va_P g.1 vwCl (List.flatten [bMo g o a th hi ac tp ba en at2_1 fl de iD iO tU fm fk fa fc ft ff fb fi]) H := hP
    have hD : va_D A (List.flatten [bMo g o a th hi ac tp ba en at2_1 fl de iD iO tU fm fk fa fc ft ff fb fi]) := hD
    refine W.widen (k := 0) (n := 0) (Nat.le_of_ble_eq_true rfl) (Nat.le_of_ble_eq_true rfl) ?_
    refine W.eq (g2 := F0 m 23 ls [.int q_5]) rfl ?_
    refine lv_iload_n hx hb dX12_isSign_23 rfl (lv_at hl 1 rfl) ?_
    refine lv_icmp_ne (tgt := 31) hx hb dX12_isSign_24 (by decide) (fun cb9 => ?_) (fun cb9 => ?_)
    · skip
      have c7 : ¬ q_5.toInt = sg.toInt := zne cb9 rfl rfl
      refine lv_iconst (v := 0) hx hb dX12_isSign_31 (by decide) ?_
      have hP : va_P g.1 vwCl (List.flatten [bMo g o a th hi ac tp ba en at2_1 fl de iD iO tU fm fk fa fc ft ff fb fi]) H := hP
      have hD : va_D A (List.flatten [bMo g o a th hi ac tp ba en at2_1 fl de iD iO tU fm fk fa fc ft ff fb fi]) := hD
      exact mret_z hx hb hr hlocks hS (Nat.le_of_ble_eq_true rfl) (Nat.le_of_ble_eq_true rfl) dX12_isSign_32 (at2_1, (0 : Int32)) rfl (by decide) (show (tA.toInt ≤ at2_1.toInt ∧ at2_1.toInt ≤ en.toInt + 7 - de.toInt) ∧ (0 = 1 ∧ at2_1.toInt < en.toInt ∨ 0 = 0) from ⟨by omega, by first | exact Or.inl ⟨rfl, by omega⟩ | exact Or.inr rfl⟩) hP hD
    · skip
      have c8 : q_5.toInt = sg.toInt := zeq cb9 rfl rfl
      refine lv_iconst (v := 1) hx hb dX12_isSign_27 (by decide) ?_
      refine lv_goto (tgt := 32) hx hb dX12_isSign_28 (by decide) ?_
      have hP : va_P g.1 vwCl (List.flatten [bMo g o a th hi ac tp ba en at2_1 fl de iD iO tU fm fk fa fc ft ff fb fi]) H := hP
      have hD : va_D A (List.flatten [bMo g o a th hi ac tp ba en at2_1 fl de iD iO tU fm fk fa fc ft ff fb fi]) := hD
      exact mret_z hx hb hr hlocks hS (Nat.le_of_ble_eq_true rfl) (Nat.le_of_ble_eq_true rfl) dX12_isSign_32 (at2_1, (1 : Int32)) rfl (by decide) (show (tA.toInt ≤ at2_1.toInt ∧ at2_1.toInt ≤ en.toInt + 7 - de.toInt) ∧ (1 = 1 ∧ at2_1.toInt < en.toInt ∨ 1 = 0) from ⟨by omega, by first | exact Or.inl ⟨rfl, by omega⟩ | exact Or.inr rfl⟩) hP hD
set_option maxRecDepth 100000 in
set_option maxHeartbeats 4000000 in
theorem m_has (l : Launch) (g : zG) (o : Nat) (a : Nat → Nat) (th : Int32) (hi : Int32) (ac : Int32) (tp : Int32) (ba : Int32) (en : Int32) (tA : Int32) (fl : Int32) (de : Int32) (iD : Int32) (iO : Int32) (tU : Int32) (fm : Nat → Int32) (fk : Nat → Int32) (fa : Nat → Int32) (fc : Nat → Int32) (ft : Nat → Int32) (ff : Nat → Int32) (fb : Nat → Int32) (fi : Nat → Int32) (k : Nat) (j : Nat) (q : String × Nat × String × List Int32) (hba : ba.toInt = -1 ∨ ba.toInt = 379) (hen : 0 ≤ en.toInt ∧ en.toInt ≤ 400) (htA : 0 ≤ tA.toInt ∧ tA.toInt ≤ en.toInt + 7 - de.toInt) (hfl : -1 ≤ fl.toInt) (hde : 0 ≤ de.toInt ∧ de.toInt ≤ 6) (hk9 : k = g.2 (10 + 2 * j)) (hj9 : zLit[j]? = some q) (hql : 1 ≤ q.2.2.2.length ∧ q.2.2.2.length ≤ 7) : zM' g l yX12_has (Cond.code yX12_has cX12_has 4 (some .boolean) :: zB) ({ frames := 4, cells := 0, slots := 0, locals := 85 } : Room) [.ref o, .ref k] [bMo g o a th hi ac tp ba en tA fl de iD iO tU fm fk fa fc ft ff fb fi] (fun u : Int32 × Int32 => (fun (at2 : Int32) (r : Int32) => some (.int r)) (u.1) (u.2)) (fun u : Int32 × Int32 => (fun (at2 : Int32) (r : Int32) => (tA.toInt ≤ at2.toInt ∧ at2.toInt ≤ en.toInt + 7 - de.toInt) ∧ (r = 1 ∧ tA.toInt < at2.toInt ∧ at2.toInt ≤ en.toInt ∨ r = 0)) (u.1) (u.2)) (fun u : Int32 × Int32 => (fun (at2 : Int32) (r : Int32) => [bMo g o a th hi ac tp ba en at2 fl de iD iO tU fm fk fa fc ft ff fb fi]) (u.1) (u.2)) := by
  refine zM'.of (cc := cX12_has) (maxL := 4) (rt := (some .boolean)) (by decide) rfl (Nat.le_of_ble_eq_true rfl) ?_
  intro p e s m args below meth c A ls St hr hlocks hin hK hT hA hP hD hS hl
  obtain ⟨hx, hb, hml, hown, hts⟩ := id St
  have hl : lv_has ls 4 [(0, .ref o), (1, .ref k)] := hl
  obtain ⟨-, hSt⟩ := hT.2.2.2 j q hj9
  refine lv_aload_n hx hb dX12_has_0 rfl (lv_at hl 0 rfl) ?_
  refine mcallV' (g := g) (q0 := 0) (ci := 10) (As := []) (rest := []) St hK hT hA hP hD hS hl.1 [0] [] rfl rfl rfl (m_skip l g o a th hi ac tp ba en tA fl de iD iO tU fm fk fa fc ft ff fb fi (by first | assumption | omega | decide) (by first | assumption | omega | decide) (by first | assumption | omega | decide) (by first | assumption | omega | decide) (by first | assumption | omega | decide)) (cwV 0 hts (zgL (zl4 k883 k884 k885 k837) k876) rfl rfl rfl (by decide +kernel) ⟨Nat.le_of_ble_eq_true rfl, Nat.le_of_ble_eq_true rfl⟩) rfl rfl rfl rfl (Nat.le_of_ble_eq_true rfl) dX12_has_1 ⟨(Nat.le_of_ble_eq_true rfl), (Nat.le_of_ble_eq_true rfl)⟩ (fun at2_1 H locs hq2 hP hD hS => ?_)
  replace hq2 : (tA.toInt ≤ at2_1.toInt ∧ at2_1.toInt ≤ en.toInt + 7 - de.toInt) := hq2
  have hP : va_P g.1 vwCl (List.flatten [bMo g o a th hi ac tp ba en at2_1 fl de iD iO tU fm fk fa fc ft ff fb fi]) H := hP
  have hD : va_D A (List.flatten [bMo g o a th hi ac tp ba en at2_1 fl de iD iO tU fm fk fa fc ft ff fb fi]) := hD
  refine W.widen (k := 0) (n := 0) (Nat.le_of_ble_eq_true rfl) (Nat.le_of_ble_eq_true rfl) ?_
  refine W.eq (g2 := F0 m 4 ls []) rfl ?_
  refine lv_aload_n hx hb dX12_has_4 rfl (lv_at hl 0 rfl) ?_
  refine va_get (D := g.1) (ci := 10) (v := .int at2_1) (C := RX12) (T := TX12) (N := 20) hx hb hts izRX12 hown hK hP 0 rfl rfl 11 (by decide) (hts _ k877) (fun _ h9 => h9) rfl dX12_has_5 ?_
  refine lv_istore_n (lv' := [(2, .int at2_1), (0, .ref o), (1, .ref k)]) hx hb dX12_has_8 rfl hl (by decide) rfl (fun ls hl => ?_)
  have hl := lv_sub (l' := [(0, .ref o), (1, .ref k), (2, .int at2_1)]) hl [1, 2, 0] rfl
  have LP9_7 : ∀ (kf : Nat) (x_3 : Int32), (0 ≤ x_3.toInt ∧ x_3.toInt ≤ 407) → (at2_1.toInt ≤ x_3.toInt) → (x_3.toInt = at2_1.toInt ∨ x_3.toInt ≤ en.toInt) → ∀ (H : Heap) (locs : List Loc) (ls : Array Slot), ((en.toInt - x_3.toInt).toNat) < kf → va_P g.1 vwCl (List.flatten [bMo g o a th hi ac tp ba en at2_1 fl de iD iO tU fm fk fa fc ft ff fb fi]) H → va_D A (List.flatten [bMo g o a th hi ac tp ba en at2_1 fl de iD iO tU fm fk fa fc ft ff fb fi]) → va_S A s.heap H locs → lv_has ls 4 [(0, .ref o), (1, .ref k), (2, .int x_3)] → W p l e ({ frames := 4, cells := 0, slots := 0, locals := 85 } : Room) s m args below meth c H locs (0) (0) (zF g (fun u : Int32 × Int32 => (fun (at2 : Int32) (r : Int32) => some (.int r)) (u.1) (u.2)) (fun u : Int32 × Int32 => (fun (at2 : Int32) (r : Int32) => (tA.toInt ≤ at2.toInt ∧ at2.toInt ≤ en.toInt + 7 - de.toInt) ∧ (r = 1 ∧ tA.toInt < at2.toInt ∧ at2.toInt ≤ en.toInt ∨ r = 0)) (u.1) (u.2)) (fun u : Int32 × Int32 => (fun (at2 : Int32) (r : Int32) => [bMo g o a th hi ac tp ba en at2 fl de iD iO tU fm fk fa fc ft ff fb fi]) (u.1) (u.2)) ({ frames := 4, cells := 0, slots := 0, locals := 85 } : Room) below args s A) (F0 m 9 ls []) := by
    intro kf
    induction kf with
    | zero => intro x_3 i4 i5 i6 H locs ls hk; exact absurd hk (Nat.not_lt_zero _)
    | succ kf ih9_8 =>
      intro x_3 i4 i5 i6 H locs ls hk hP hD hS hl
      refine lv_iload_n hx hb dX12_has_9 rfl (lv_at hl 2 rfl) ?_
      refine lv_aload_n hx hb dX12_has_10 rfl (lv_at hl 0 rfl) ?_
      refine va_get (D := g.1) (ci := 10) (v := .int en) (C := RX12) (T := TX12) (N := 20) hx hb hts izRX12 hown hK hP 0 rfl rfl 10 (by decide) (hts _ k878) (fun _ h9 => h9) rfl dX12_has_11 ?_
      refine lv_icmp_ge (tgt := 38) hx hb dX12_has_14 (by decide) (fun cb9 => ?_) (fun cb9 => ?_)
      · skip
        have c9 : en.toInt ≤ x_3.toInt := zle cb9 rfl rfl
        refine lv_iload_n hx hb dX12_has_38 rfl (lv_at hl 2 rfl) ?_
        refine lv_aload_n hx hb dX12_has_39 rfl (lv_at hl 0 rfl) ?_
        refine va_get (D := g.1) (ci := 10) (v := .int at2_1) (C := RX12) (T := TX12) (N := 20) hx hb hts izRX12 hown hK hP 0 rfl rfl 11 (by decide) (hts _ k877) (fun _ h9 => h9) rfl dX12_has_40 ?_
        refine lv_isub hx hb dX12_has_43 ?_
        refine zgv (zsub (i := x_3.toInt) (j := at2_1.toInt) rfl rfl (by omega)) (fun x_10 hx_10 => ?_)
        refine lv_aload_n hx hb dX12_has_44 rfl (lv_at hl 1 rfl) ?_
        refine mcallL' (g := g) (As := []) (rest := [.int x_10]) St hK hT hA hP hD hS hl.1 [] [0] rfl rfl rfl (s_length l g k j q (by first | assumption | omega | decide) (by first | assumption | omega | decide) (by first | assumption | omega | decide)) (cwV 0 hts (zgL (zl4 k886 k263 k264 k223) k218) rfl rfl rfl (by decide +kernel) ⟨Nat.le_of_ble_eq_true rfl, Nat.le_of_ble_eq_true rfl⟩) (by rw [hk9]; exact zSt_recv hSt hS) rfl rfl (Nat.le_of_ble_eq_true rfl) dX12_has_45 ⟨(Nat.le_of_ble_eq_true rfl), (Nat.le_of_ble_eq_true rfl)⟩ (fun r_11 H locs hq12 hP hD hS => ?_)
        replace hq12 : (r_11.toInt = (q.2.2.2.length : Int)) := hq12
        have hP : va_P g.1 vwCl (List.flatten [bMo g o a th hi ac tp ba en at2_1 fl de iD iO tU fm fk fa fc ft ff fb fi]) H := hP
        have hD : va_D A (List.flatten [bMo g o a th hi ac tp ba en at2_1 fl de iD iO tU fm fk fa fc ft ff fb fi]) := hD
        refine W.widen (k := 0) (n := 0) (Nat.le_of_ble_eq_true rfl) (Nat.le_of_ble_eq_true rfl) ?_
        refine W.eq (g2 := F0 m 48 ls [.int r_11, .int x_10]) rfl ?_
        refine lv_icmp_eq (tgt := 53) hx hb dX12_has_48 (by decide) (fun cb9 => ?_) (fun cb9 => ?_)
        · skip
          have c13 : x_10.toInt = r_11.toInt := zeq cb9 rfl rfl
          refine lv_iconst (v := 0) hx hb dX12_has_53 (by decide) ?_
          refine lv_istore_n (lv' := [(3, .int 0), (0, .ref o), (1, .ref k), (2, .int x_3)]) hx hb dX12_has_54 rfl hl (by decide) rfl (fun ls hl => ?_)
          have hl := lv_sub (l' := [(0, .ref o), (1, .ref k), (2, .int x_3), (3, .int 0)]) hl [1, 2, 3, 0] rfl
          have LP55_16 : ∀ (kf : Nat) (x_14 : Int32), (0 ≤ x_14.toInt ∧ x_14.toInt ≤ 7) → ∀ (H : Heap) (locs : List Loc) (ls : Array Slot), ((8 - x_14.toInt).toNat) < kf → va_P g.1 vwCl (List.flatten [bMo g o a th hi ac tp ba en at2_1 fl de iD iO tU fm fk fa fc ft ff fb fi]) H → va_D A (List.flatten [bMo g o a th hi ac tp ba en at2_1 fl de iD iO tU fm fk fa fc ft ff fb fi]) → va_S A s.heap H locs → lv_has ls 4 [(0, .ref o), (1, .ref k), (2, .int x_3), (3, .int x_14)] → W p l e ({ frames := 4, cells := 0, slots := 0, locals := 85 } : Room) s m args below meth c H locs (0) (0) (zF g (fun u : Int32 × Int32 => (fun (at2 : Int32) (r : Int32) => some (.int r)) (u.1) (u.2)) (fun u : Int32 × Int32 => (fun (at2 : Int32) (r : Int32) => (tA.toInt ≤ at2.toInt ∧ at2.toInt ≤ en.toInt + 7 - de.toInt) ∧ (r = 1 ∧ tA.toInt < at2.toInt ∧ at2.toInt ≤ en.toInt ∨ r = 0)) (u.1) (u.2)) (fun u : Int32 × Int32 => (fun (at2 : Int32) (r : Int32) => [bMo g o a th hi ac tp ba en at2 fl de iD iO tU fm fk fa fc ft ff fb fi]) (u.1) (u.2)) ({ frames := 4, cells := 0, slots := 0, locals := 85 } : Room) below args s A) (F0 m 55 ls []) := by
            intro kf
            induction kf with
            | zero => intro x_14 i15 H locs ls hk; exact absurd hk (Nat.not_lt_zero _)
            | succ kf ih55_17 =>
              intro x_14 i15 H locs ls hk hP hD hS hl
              refine lv_iload_n hx hb dX12_has_55 rfl (lv_at hl 3 rfl) ?_
              refine lv_aload_n hx hb dX12_has_56 rfl (lv_at hl 1 rfl) ?_
              refine mcallL' (g := g) (As := []) (rest := [.int x_14]) St hK hT hA hP hD hS hl.1 [] [0] rfl rfl rfl (s_length l g k j q (by first | assumption | omega | decide) (by first | assumption | omega | decide) (by first | assumption | omega | decide)) (cwV 0 hts (zgL (zl4 k886 k263 k264 k223) k218) rfl rfl rfl (by decide +kernel) ⟨Nat.le_of_ble_eq_true rfl, Nat.le_of_ble_eq_true rfl⟩) (by rw [hk9]; exact zSt_recv hSt hS) rfl rfl (Nat.le_of_ble_eq_true rfl) dX12_has_57 ⟨(Nat.le_of_ble_eq_true rfl), (Nat.le_of_ble_eq_true rfl)⟩ (fun r_18 H locs hq19 hP hD hS => ?_)
              replace hq19 : (r_18.toInt = (q.2.2.2.length : Int)) := hq19
              have hP : va_P g.1 vwCl (List.flatten [bMo g o a th hi ac tp ba en at2_1 fl de iD iO tU fm fk fa fc ft ff fb fi]) H := hP
              have hD : va_D A (List.flatten [bMo g o a th hi ac tp ba en at2_1 fl de iD iO tU fm fk fa fc ft ff fb fi]) := hD
              refine W.widen (k := 0) (n := 0) (Nat.le_of_ble_eq_true rfl) (Nat.le_of_ble_eq_true rfl) ?_
              refine W.eq (g2 := F0 m 60 ls [.int r_18, .int x_14]) rfl ?_
              refine lv_icmp_ge (tgt := 89) hx hb dX12_has_60 (by decide) (fun cb9 => ?_) (fun cb9 => ?_)
              · skip
                have c20 : r_18.toInt ≤ x_14.toInt := zle cb9 rfl rfl
                refine lv_aload_n hx hb dX12_has_89 rfl (lv_at hl 0 rfl) ?_
                refine lv_iload_n hx hb dX12_has_90 rfl (lv_at hl 2 rfl) ?_
                refine va_put (D := g.1) (ci := 10) (v := .int x_3) (ty := .int) (C := RX12) (T := TX12) (N := 20) hx hb hts izRX12 tyX12 tyX12_ok nmX12 hown hK hP hD hS 0 rfl rfl 11 (by decide) (hts _ k877) (fun _ h9 => h9) rfl (by decide +kernel) rfl rfl (Nat.le_of_ble_eq_true rfl) dX12_has_91 (fun H locs hP hD hS => ?_)
                have hP : va_P g.1 vwCl (List.flatten [bMo g o a th hi ac tp ba en x_3 fl de iD iO tU fm fk fa fc ft ff fb fi]) H := hP
                have hD : va_D A (List.flatten [bMo g o a th hi ac tp ba en x_3 fl de iD iO tU fm fk fa fc ft ff fb fi]) := hD
                refine lv_iconst (v := 1) hx hb dX12_has_94 (by decide) ?_
                have hP : va_P g.1 vwCl (List.flatten [bMo g o a th hi ac tp ba en x_3 fl de iD iO tU fm fk fa fc ft ff fb fi]) H := hP
                have hD : va_D A (List.flatten [bMo g o a th hi ac tp ba en x_3 fl de iD iO tU fm fk fa fc ft ff fb fi]) := hD
                exact mret_z hx hb hr hlocks hS (Nat.le_of_ble_eq_true rfl) (Nat.le_of_ble_eq_true rfl) dX12_has_95 (x_3, (1 : Int32)) rfl (by decide) (show (tA.toInt ≤ x_3.toInt ∧ x_3.toInt ≤ en.toInt + 7 - de.toInt) ∧ (1 = 1 ∧ tA.toInt < x_3.toInt ∧ x_3.toInt ≤ en.toInt ∨ 1 = 0) from ⟨by omega, by first | exact Or.inl ⟨rfl, by omega⟩ | exact Or.inr rfl⟩) hP hD
              · skip
                have c21 : x_14.toInt < r_18.toInt := zlti (Int32.not_le.mp cb9) rfl rfl
                refine lv_aload_n hx hb dX12_has_63 rfl (lv_at hl 0 rfl) ?_
                refine lv_aload_n hx hb dX12_has_64 rfl (lv_at hl 0 rfl) ?_
                refine va_get (D := g.1) (ci := 10) (v := .int at2_1) (C := RX12) (T := TX12) (N := 20) hx hb hts izRX12 hown hK hP 0 rfl rfl 11 (by decide) (hts _ k877) (fun _ h9 => h9) rfl dX12_has_65 ?_
                refine lv_iload_n hx hb dX12_has_68 rfl (lv_at hl 3 rfl) ?_
                refine lv_iadd hx hb dX12_has_69 ?_
                refine zgv (zadd (i := at2_1.toInt) (j := x_14.toInt) rfl rfl (by omega)) (fun x_22 hx_22 => ?_)
                refine mcallV' (g := g) (q0 := 0) (ci := 10) (As := [.int x_22]) (rest := []) St hK hT hA hP hD hS hl.1 [0] [] rfl rfl rfl (m_letter l g o a th hi ac tp ba en at2_1 fl de iD iO tU fm fk fa fc ft ff fb fi x_22 (by first | assumption | omega | decide) (by first | assumption | omega | decide)) (cwV 1 hts (zgL (zl4 k879 k880 k881 k837) k874) rfl rfl rfl (by decide +kernel) ⟨Nat.le_of_ble_eq_true rfl, Nat.le_of_ble_eq_true rfl⟩) rfl rfl rfl rfl (Nat.le_of_ble_eq_true rfl) dX12_has_70 ⟨(Nat.le_of_ble_eq_true rfl), (Nat.le_of_ble_eq_true rfl)⟩ (fun q_23 H locs hq24 hP hD hS => ?_)
                have hP : va_P g.1 vwCl (List.flatten [bMo g o a th hi ac tp ba en at2_1 fl de iD iO tU fm fk fa fc ft ff fb fi]) H := hP
                have hD : va_D A (List.flatten [bMo g o a th hi ac tp ba en at2_1 fl de iD iO tU fm fk fa fc ft ff fb fi]) := hD
                refine W.widen (k := 0) (n := 0) (Nat.le_of_ble_eq_true rfl) (Nat.le_of_ble_eq_true rfl) ?_
                refine W.eq (g2 := F0 m 73 ls [.int q_23]) rfl ?_
                refine lv_aload_n hx hb dX12_has_73 rfl (lv_at hl 1 rfl) ?_
                refine lv_iload_n hx hb dX12_has_74 rfl (lv_at hl 3 rfl) ?_
                refine mcallL' (g := g) (As := [.int x_14]) (rest := [.int q_23]) St hK hT hA hP hD hS hl.1 [] [0] rfl rfl rfl (s_char l g k j q x_14 (by first | assumption | omega | decide) (by first | assumption | omega | decide) (by first | assumption | omega | decide) (by first | assumption | omega | decide)) (cwV 1 hts (zgL (zl4 k887 k266 k267 k223) k257) rfl rfl rfl (by decide +kernel) ⟨Nat.le_of_ble_eq_true rfl, Nat.le_of_ble_eq_true rfl⟩) (by rw [hk9]; exact zSt_recv hSt hS) rfl rfl (Nat.le_of_ble_eq_true rfl) dX12_has_75 ⟨(Nat.le_of_ble_eq_true rfl), (Nat.le_of_ble_eq_true rfl)⟩ (fun r_25 H locs hq26 hP hD hS => ?_)
                replace hq26 : (narrow .char (.int r_25) = .int r_25) := hq26
                have hP : va_P g.1 vwCl (List.flatten [bMo g o a th hi ac tp ba en at2_1 fl de iD iO tU fm fk fa fc ft ff fb fi]) H := hP
                have hD : va_D A (List.flatten [bMo g o a th hi ac tp ba en at2_1 fl de iD iO tU fm fk fa fc ft ff fb fi]) := hD
                refine W.widen (k := 0) (n := 0) (Nat.le_of_ble_eq_true rfl) (Nat.le_of_ble_eq_true rfl) ?_
                refine W.eq (g2 := F0 m 78 ls [.int r_25, .int q_23]) rfl ?_
                refine lv_icmp_eq (tgt := 83) hx hb dX12_has_78 (by decide) (fun cb9 => ?_) (fun cb9 => ?_)
                · skip
                  have c27 : q_23.toInt = r_25.toInt := zeq cb9 rfl rfl
                  refine ziinc (j := x_14.toInt + 1) (lv' := fun v9 => [(3, .int v9), (0, .ref o), (1, .ref k), (2, .int x_3)]) hx hb dX12_has_83 hl (k := 3) rfl (by decide) (fun _ => rfl) (zadd (i := x_14.toInt) (j := 1) rfl (by decide) (by omega)) (fun x_28 ls hx_28 hl => ?_)
                  refine lv_goto (tgt := 55) hx hb dX12_has_86 (by decide) ?_
                  have hl := lv_sub (l' := [(0, .ref o), (1, .ref k), (2, .int x_3), (3, .int x_28)]) hl [1, 2, 3, 0] rfl
                  have hP : va_P g.1 vwCl (List.flatten [bMo g o a th hi ac tp ba en at2_1 fl de iD iO tU fm fk fa fc ft ff fb fi]) H := hP
                  have hD : va_D A (List.flatten [bMo g o a th hi ac tp ba en at2_1 fl de iD iO tU fm fk fa fc ft ff fb fi]) := hD
                  exact ih55_17 x_28 (by first | omega | assumption | decide) H _ ls (by omega)  hP hD hS (lv_sub hl [0, 1, 2, 3] rfl)
                · skip
                  have c29 : ¬ q_23.toInt = r_25.toInt := zne cb9 rfl rfl
                  refine lv_iconst (v := 0) hx hb dX12_has_81 (by decide) ?_
                  have hP : va_P g.1 vwCl (List.flatten [bMo g o a th hi ac tp ba en at2_1 fl de iD iO tU fm fk fa fc ft ff fb fi]) H := hP
                  have hD : va_D A (List.flatten [bMo g o a th hi ac tp ba en at2_1 fl de iD iO tU fm fk fa fc ft ff fb fi]) := hD
                  exact mret_z hx hb hr hlocks hS (Nat.le_of_ble_eq_true rfl) (Nat.le_of_ble_eq_true rfl) dX12_has_82 (at2_1, (0 : Int32)) rfl (by decide) (show (tA.toInt ≤ at2_1.toInt ∧ at2_1.toInt ≤ en.toInt + 7 - de.toInt) ∧ (0 = 1 ∧ tA.toInt < at2_1.toInt ∧ at2_1.toInt ≤ en.toInt ∨ 0 = 0) from ⟨by omega, by first | exact Or.inl ⟨rfl, by omega⟩ | exact Or.inr rfl⟩) hP hD
          have hP : va_P g.1 vwCl (List.flatten [bMo g o a th hi ac tp ba en at2_1 fl de iD iO tU fm fk fa fc ft ff fb fi]) H := hP
          have hD : va_D A (List.flatten [bMo g o a th hi ac tp ba en at2_1 fl de iD iO tU fm fk fa fc ft ff fb fi]) := hD
          exact LP55_16 _ 0 (by first | omega | assumption | decide) H _ ls (Nat.lt_succ_self _)  hP hD hS (lv_sub hl [0, 1, 2, 3] rfl)
        · skip
          have c30 : ¬ x_10.toInt = r_11.toInt := zne cb9 rfl rfl
          refine lv_iconst (v := 0) hx hb dX12_has_51 (by decide) ?_
          have hP : va_P g.1 vwCl (List.flatten [bMo g o a th hi ac tp ba en at2_1 fl de iD iO tU fm fk fa fc ft ff fb fi]) H := hP
          have hD : va_D A (List.flatten [bMo g o a th hi ac tp ba en at2_1 fl de iD iO tU fm fk fa fc ft ff fb fi]) := hD
          exact mret_z hx hb hr hlocks hS (Nat.le_of_ble_eq_true rfl) (Nat.le_of_ble_eq_true rfl) dX12_has_52 (at2_1, (0 : Int32)) rfl (by decide) (show (tA.toInt ≤ at2_1.toInt ∧ at2_1.toInt ≤ en.toInt + 7 - de.toInt) ∧ (0 = 1 ∧ tA.toInt < at2_1.toInt ∧ at2_1.toInt ≤ en.toInt ∨ 0 = 0) from ⟨by omega, by first | exact Or.inl ⟨rfl, by omega⟩ | exact Or.inr rfl⟩) hP hD
      · skip
        have c31 : x_3.toInt < en.toInt := zlti (Int32.not_le.mp cb9) rfl rfl
        refine lv_aload_n hx hb dX12_has_17 rfl (lv_at hl 0 rfl) ?_
        refine lv_iload_n hx hb dX12_has_18 rfl (lv_at hl 2 rfl) ?_
        refine mcallV' (g := g) (q0 := 0) (ci := 10) (As := [.int x_3]) (rest := []) St hK hT hA hP hD hS hl.1 [0] [] rfl rfl rfl (m_letter l g o a th hi ac tp ba en at2_1 fl de iD iO tU fm fk fa fc ft ff fb fi x_3 (by first | assumption | omega | decide) (by first | assumption | omega | decide)) (cwV 1 hts (zgL (zl4 k879 k880 k881 k837) k874) rfl rfl rfl (by decide +kernel) ⟨Nat.le_of_ble_eq_true rfl, Nat.le_of_ble_eq_true rfl⟩) rfl rfl rfl rfl (Nat.le_of_ble_eq_true rfl) dX12_has_19 ⟨(Nat.le_of_ble_eq_true rfl), (Nat.le_of_ble_eq_true rfl)⟩ (fun q_32 H locs hq33 hP hD hS => ?_)
        have hP : va_P g.1 vwCl (List.flatten [bMo g o a th hi ac tp ba en at2_1 fl de iD iO tU fm fk fa fc ft ff fb fi]) H := hP
        have hD : va_D A (List.flatten [bMo g o a th hi ac tp ba en at2_1 fl de iD iO tU fm fk fa fc ft ff fb fi]) := hD
        refine W.widen (k := 0) (n := 0) (Nat.le_of_ble_eq_true rfl) (Nat.le_of_ble_eq_true rfl) ?_
        refine W.eq (g2 := F0 m 22 ls [.int q_32]) rfl ?_
        refine lv_bipush (v := 97) hx hb dX12_has_22 (by decide) ?_
        refine lv_bipush (v := 122) hx hb dX12_has_24 (by decide) ?_
        have hL97 : (97 : Int32).toInt = 97 := by decide
        have hL122 : (122 : Int32).toInt = 122 := by decide
        refine mcallS' (g := g) (As := [.int q_32, .int 97, .int 122]) (rest := []) St hK hT hA hP hD hS hl.1 [] [0] rfl rfl rfl (m_isIn l g q_32 97 122 ) (va_cwS 3 hts (zgL (zl3 k835 k836 k837) k824) rfl rfl rfl (by decide +kernel) ⟨Nat.le_of_ble_eq_true rfl, Nat.le_of_ble_eq_true rfl⟩) rfl rfl (Nat.le_of_ble_eq_true rfl) dX12_has_26 ⟨(Nat.le_of_ble_eq_true rfl), (Nat.le_of_ble_eq_true rfl)⟩ (fun q_34 H locs hq35 hP hD hS => ?_)
        replace hq35 : (q_34 = 1 ∧ (97 : Int32).toInt ≤ q_32.toInt ∧ q_32.toInt ≤ (122 : Int32).toInt ∨ q_34 = 0 ∧ (q_32.toInt < (97 : Int32).toInt ∨ (122 : Int32).toInt < q_32.toInt)) := hq35
        have hP : va_P g.1 vwCl (List.flatten [bMo g o a th hi ac tp ba en at2_1 fl de iD iO tU fm fk fa fc ft ff fb fi]) H := hP
        have hD : va_D A (List.flatten [bMo g o a th hi ac tp ba en at2_1 fl de iD iO tU fm fk fa fc ft ff fb fi]) := hD
        refine W.widen (k := 0) (n := 0) (Nat.le_of_ble_eq_true rfl) (Nat.le_of_ble_eq_true rfl) ?_
        refine W.eq (g2 := F0 m 29 ls [.int q_34]) rfl ?_
        rcases hq35 with ⟨rfl, hq35_k⟩ | ⟨rfl, hq35_k⟩
        · skip
          refine lv_if_eq (tgt := 38) hx hb dX12_has_29 (by decide) (fun c36 => absurd c36 (by decide)) (fun _ => ?_)
          refine ziinc (j := x_3.toInt + 1) (lv' := fun v9 => [(2, .int v9), (0, .ref o), (1, .ref k)]) hx hb dX12_has_32 hl (k := 2) rfl (by decide) (fun _ => rfl) (zadd (i := x_3.toInt) (j := 1) rfl (by decide) (by omega)) (fun x_37 ls hx_37 hl => ?_)
          refine lv_goto (tgt := 9) hx hb dX12_has_35 (by decide) ?_
          have hl := lv_sub (l' := [(0, .ref o), (1, .ref k), (2, .int x_37)]) hl [1, 2, 0] rfl
          have hP : va_P g.1 vwCl (List.flatten [bMo g o a th hi ac tp ba en at2_1 fl de iD iO tU fm fk fa fc ft ff fb fi]) H := hP
          have hD : va_D A (List.flatten [bMo g o a th hi ac tp ba en at2_1 fl de iD iO tU fm fk fa fc ft ff fb fi]) := hD
          exact ih9_8 x_37 (by first | omega | assumption | decide) (by first | omega | assumption | decide) (by first | omega | assumption | decide) H _ ls (by omega)  hP hD hS (lv_sub hl [0, 1, 2] rfl)
        · skip
          refine lv_if_eq (tgt := 38) hx hb dX12_has_29 (by decide) (fun _ => ?_) (fun c38 => absurd (by decide) c38)
          refine lv_iload_n hx hb dX12_has_38 rfl (lv_at hl 2 rfl) ?_
          refine lv_aload_n hx hb dX12_has_39 rfl (lv_at hl 0 rfl) ?_
          refine va_get (D := g.1) (ci := 10) (v := .int at2_1) (C := RX12) (T := TX12) (N := 20) hx hb hts izRX12 hown hK hP 0 rfl rfl 11 (by decide) (hts _ k877) (fun _ h9 => h9) rfl dX12_has_40 ?_
          refine lv_isub hx hb dX12_has_43 ?_
          refine zgv (zsub (i := x_3.toInt) (j := at2_1.toInt) rfl rfl (by omega)) (fun x_39 hx_39 => ?_)
          refine lv_aload_n hx hb dX12_has_44 rfl (lv_at hl 1 rfl) ?_
          refine mcallL' (g := g) (As := []) (rest := [.int x_39]) St hK hT hA hP hD hS hl.1 [] [0] rfl rfl rfl (s_length l g k j q (by first | assumption | omega | decide) (by first | assumption | omega | decide) (by first | assumption | omega | decide)) (cwV 0 hts (zgL (zl4 k886 k263 k264 k223) k218) rfl rfl rfl (by decide +kernel) ⟨Nat.le_of_ble_eq_true rfl, Nat.le_of_ble_eq_true rfl⟩) (by rw [hk9]; exact zSt_recv hSt hS) rfl rfl (Nat.le_of_ble_eq_true rfl) dX12_has_45 ⟨(Nat.le_of_ble_eq_true rfl), (Nat.le_of_ble_eq_true rfl)⟩ (fun r_40 H locs hq41 hP hD hS => ?_)
          replace hq41 : (r_40.toInt = (q.2.2.2.length : Int)) := hq41
          have hP : va_P g.1 vwCl (List.flatten [bMo g o a th hi ac tp ba en at2_1 fl de iD iO tU fm fk fa fc ft ff fb fi]) H := hP
          have hD : va_D A (List.flatten [bMo g o a th hi ac tp ba en at2_1 fl de iD iO tU fm fk fa fc ft ff fb fi]) := hD
          refine W.widen (k := 0) (n := 0) (Nat.le_of_ble_eq_true rfl) (Nat.le_of_ble_eq_true rfl) ?_
          refine W.eq (g2 := F0 m 48 ls [.int r_40, .int x_39]) rfl ?_
          refine lv_icmp_eq (tgt := 53) hx hb dX12_has_48 (by decide) (fun cb9 => ?_) (fun cb9 => ?_)
          · skip
            have c42 : x_39.toInt = r_40.toInt := zeq cb9 rfl rfl
            refine lv_iconst (v := 0) hx hb dX12_has_53 (by decide) ?_
            refine lv_istore_n (lv' := [(3, .int 0), (0, .ref o), (1, .ref k), (2, .int x_3)]) hx hb dX12_has_54 rfl hl (by decide) rfl (fun ls hl => ?_)
            have hl := lv_sub (l' := [(0, .ref o), (1, .ref k), (2, .int x_3), (3, .int 0)]) hl [1, 2, 3, 0] rfl
            have LP55_45 : ∀ (kf : Nat) (x_43 : Int32), (0 ≤ x_43.toInt ∧ x_43.toInt ≤ 7) → ∀ (H : Heap) (locs : List Loc) (ls : Array Slot), ((8 - x_43.toInt).toNat) < kf → va_P g.1 vwCl (List.flatten [bMo g o a th hi ac tp ba en at2_1 fl de iD iO tU fm fk fa fc ft ff fb fi]) H → va_D A (List.flatten [bMo g o a th hi ac tp ba en at2_1 fl de iD iO tU fm fk fa fc ft ff fb fi]) → va_S A s.heap H locs → lv_has ls 4 [(0, .ref o), (1, .ref k), (2, .int x_3), (3, .int x_43)] → W p l e ({ frames := 4, cells := 0, slots := 0, locals := 85 } : Room) s m args below meth c H locs (0) (0) (zF g (fun u : Int32 × Int32 => (fun (at2 : Int32) (r : Int32) => some (.int r)) (u.1) (u.2)) (fun u : Int32 × Int32 => (fun (at2 : Int32) (r : Int32) => (tA.toInt ≤ at2.toInt ∧ at2.toInt ≤ en.toInt + 7 - de.toInt) ∧ (r = 1 ∧ tA.toInt < at2.toInt ∧ at2.toInt ≤ en.toInt ∨ r = 0)) (u.1) (u.2)) (fun u : Int32 × Int32 => (fun (at2 : Int32) (r : Int32) => [bMo g o a th hi ac tp ba en at2 fl de iD iO tU fm fk fa fc ft ff fb fi]) (u.1) (u.2)) ({ frames := 4, cells := 0, slots := 0, locals := 85 } : Room) below args s A) (F0 m 55 ls []) := by
              intro kf
              induction kf with
              | zero => intro x_43 i44 H locs ls hk; exact absurd hk (Nat.not_lt_zero _)
              | succ kf ih55_46 =>
                intro x_43 i44 H locs ls hk hP hD hS hl
                refine lv_iload_n hx hb dX12_has_55 rfl (lv_at hl 3 rfl) ?_
                refine lv_aload_n hx hb dX12_has_56 rfl (lv_at hl 1 rfl) ?_
                refine mcallL' (g := g) (As := []) (rest := [.int x_43]) St hK hT hA hP hD hS hl.1 [] [0] rfl rfl rfl (s_length l g k j q (by first | assumption | omega | decide) (by first | assumption | omega | decide) (by first | assumption | omega | decide)) (cwV 0 hts (zgL (zl4 k886 k263 k264 k223) k218) rfl rfl rfl (by decide +kernel) ⟨Nat.le_of_ble_eq_true rfl, Nat.le_of_ble_eq_true rfl⟩) (by rw [hk9]; exact zSt_recv hSt hS) rfl rfl (Nat.le_of_ble_eq_true rfl) dX12_has_57 ⟨(Nat.le_of_ble_eq_true rfl), (Nat.le_of_ble_eq_true rfl)⟩ (fun r_47 H locs hq48 hP hD hS => ?_)
                replace hq48 : (r_47.toInt = (q.2.2.2.length : Int)) := hq48
                have hP : va_P g.1 vwCl (List.flatten [bMo g o a th hi ac tp ba en at2_1 fl de iD iO tU fm fk fa fc ft ff fb fi]) H := hP
                have hD : va_D A (List.flatten [bMo g o a th hi ac tp ba en at2_1 fl de iD iO tU fm fk fa fc ft ff fb fi]) := hD
                refine W.widen (k := 0) (n := 0) (Nat.le_of_ble_eq_true rfl) (Nat.le_of_ble_eq_true rfl) ?_
                refine W.eq (g2 := F0 m 60 ls [.int r_47, .int x_43]) rfl ?_
                refine lv_icmp_ge (tgt := 89) hx hb dX12_has_60 (by decide) (fun cb9 => ?_) (fun cb9 => ?_)
                · skip
                  have c49 : r_47.toInt ≤ x_43.toInt := zle cb9 rfl rfl
                  refine lv_aload_n hx hb dX12_has_89 rfl (lv_at hl 0 rfl) ?_
                  refine lv_iload_n hx hb dX12_has_90 rfl (lv_at hl 2 rfl) ?_
                  refine va_put (D := g.1) (ci := 10) (v := .int x_3) (ty := .int) (C := RX12) (T := TX12) (N := 20) hx hb hts izRX12 tyX12 tyX12_ok nmX12 hown hK hP hD hS 0 rfl rfl 11 (by decide) (hts _ k877) (fun _ h9 => h9) rfl (by decide +kernel) rfl rfl (Nat.le_of_ble_eq_true rfl) dX12_has_91 (fun H locs hP hD hS => ?_)
                  have hP : va_P g.1 vwCl (List.flatten [bMo g o a th hi ac tp ba en x_3 fl de iD iO tU fm fk fa fc ft ff fb fi]) H := hP
                  have hD : va_D A (List.flatten [bMo g o a th hi ac tp ba en x_3 fl de iD iO tU fm fk fa fc ft ff fb fi]) := hD
                  refine lv_iconst (v := 1) hx hb dX12_has_94 (by decide) ?_
                  have hP : va_P g.1 vwCl (List.flatten [bMo g o a th hi ac tp ba en x_3 fl de iD iO tU fm fk fa fc ft ff fb fi]) H := hP
                  have hD : va_D A (List.flatten [bMo g o a th hi ac tp ba en x_3 fl de iD iO tU fm fk fa fc ft ff fb fi]) := hD
                  exact mret_z hx hb hr hlocks hS (Nat.le_of_ble_eq_true rfl) (Nat.le_of_ble_eq_true rfl) dX12_has_95 (x_3, (1 : Int32)) rfl (by decide) (show (tA.toInt ≤ x_3.toInt ∧ x_3.toInt ≤ en.toInt + 7 - de.toInt) ∧ (1 = 1 ∧ tA.toInt < x_3.toInt ∧ x_3.toInt ≤ en.toInt ∨ 1 = 0) from ⟨by omega, by first | exact Or.inl ⟨rfl, by omega⟩ | exact Or.inr rfl⟩) hP hD
                · skip
                  have c50 : x_43.toInt < r_47.toInt := zlti (Int32.not_le.mp cb9) rfl rfl
                  refine lv_aload_n hx hb dX12_has_63 rfl (lv_at hl 0 rfl) ?_
                  refine lv_aload_n hx hb dX12_has_64 rfl (lv_at hl 0 rfl) ?_
                  refine va_get (D := g.1) (ci := 10) (v := .int at2_1) (C := RX12) (T := TX12) (N := 20) hx hb hts izRX12 hown hK hP 0 rfl rfl 11 (by decide) (hts _ k877) (fun _ h9 => h9) rfl dX12_has_65 ?_
                  refine lv_iload_n hx hb dX12_has_68 rfl (lv_at hl 3 rfl) ?_
                  refine lv_iadd hx hb dX12_has_69 ?_
                  refine zgv (zadd (i := at2_1.toInt) (j := x_43.toInt) rfl rfl (by omega)) (fun x_51 hx_51 => ?_)
                  refine mcallV' (g := g) (q0 := 0) (ci := 10) (As := [.int x_51]) (rest := []) St hK hT hA hP hD hS hl.1 [0] [] rfl rfl rfl (m_letter l g o a th hi ac tp ba en at2_1 fl de iD iO tU fm fk fa fc ft ff fb fi x_51 (by first | assumption | omega | decide) (by first | assumption | omega | decide)) (cwV 1 hts (zgL (zl4 k879 k880 k881 k837) k874) rfl rfl rfl (by decide +kernel) ⟨Nat.le_of_ble_eq_true rfl, Nat.le_of_ble_eq_true rfl⟩) rfl rfl rfl rfl (Nat.le_of_ble_eq_true rfl) dX12_has_70 ⟨(Nat.le_of_ble_eq_true rfl), (Nat.le_of_ble_eq_true rfl)⟩ (fun q_52 H locs hq53 hP hD hS => ?_)
                  have hP : va_P g.1 vwCl (List.flatten [bMo g o a th hi ac tp ba en at2_1 fl de iD iO tU fm fk fa fc ft ff fb fi]) H := hP
                  have hD : va_D A (List.flatten [bMo g o a th hi ac tp ba en at2_1 fl de iD iO tU fm fk fa fc ft ff fb fi]) := hD
                  refine W.widen (k := 0) (n := 0) (Nat.le_of_ble_eq_true rfl) (Nat.le_of_ble_eq_true rfl) ?_
                  refine W.eq (g2 := F0 m 73 ls [.int q_52]) rfl ?_
                  refine lv_aload_n hx hb dX12_has_73 rfl (lv_at hl 1 rfl) ?_
                  refine lv_iload_n hx hb dX12_has_74 rfl (lv_at hl 3 rfl) ?_
                  refine mcallL' (g := g) (As := [.int x_43]) (rest := [.int q_52]) St hK hT hA hP hD hS hl.1 [] [0] rfl rfl rfl (s_char l g k j q x_43 (by first | assumption | omega | decide) (by first | assumption | omega | decide) (by first | assumption | omega | decide) (by first | assumption | omega | decide)) (cwV 1 hts (zgL (zl4 k887 k266 k267 k223) k257) rfl rfl rfl (by decide +kernel) ⟨Nat.le_of_ble_eq_true rfl, Nat.le_of_ble_eq_true rfl⟩) (by rw [hk9]; exact zSt_recv hSt hS) rfl rfl (Nat.le_of_ble_eq_true rfl) dX12_has_75 ⟨(Nat.le_of_ble_eq_true rfl), (Nat.le_of_ble_eq_true rfl)⟩ (fun r_54 H locs hq55 hP hD hS => ?_)
                  replace hq55 : (narrow .char (.int r_54) = .int r_54) := hq55
                  have hP : va_P g.1 vwCl (List.flatten [bMo g o a th hi ac tp ba en at2_1 fl de iD iO tU fm fk fa fc ft ff fb fi]) H := hP
                  have hD : va_D A (List.flatten [bMo g o a th hi ac tp ba en at2_1 fl de iD iO tU fm fk fa fc ft ff fb fi]) := hD
                  refine W.widen (k := 0) (n := 0) (Nat.le_of_ble_eq_true rfl) (Nat.le_of_ble_eq_true rfl) ?_
                  refine W.eq (g2 := F0 m 78 ls [.int r_54, .int q_52]) rfl ?_
                  refine lv_icmp_eq (tgt := 83) hx hb dX12_has_78 (by decide) (fun cb9 => ?_) (fun cb9 => ?_)
                  · skip
                    have c56 : q_52.toInt = r_54.toInt := zeq cb9 rfl rfl
                    refine ziinc (j := x_43.toInt + 1) (lv' := fun v9 => [(3, .int v9), (0, .ref o), (1, .ref k), (2, .int x_3)]) hx hb dX12_has_83 hl (k := 3) rfl (by decide) (fun _ => rfl) (zadd (i := x_43.toInt) (j := 1) rfl (by decide) (by omega)) (fun x_57 ls hx_57 hl => ?_)
                    refine lv_goto (tgt := 55) hx hb dX12_has_86 (by decide) ?_
                    have hl := lv_sub (l' := [(0, .ref o), (1, .ref k), (2, .int x_3), (3, .int x_57)]) hl [1, 2, 3, 0] rfl
                    have hP : va_P g.1 vwCl (List.flatten [bMo g o a th hi ac tp ba en at2_1 fl de iD iO tU fm fk fa fc ft ff fb fi]) H := hP
                    have hD : va_D A (List.flatten [bMo g o a th hi ac tp ba en at2_1 fl de iD iO tU fm fk fa fc ft ff fb fi]) := hD
                    exact ih55_46 x_57 (by first | omega | assumption | decide) H _ ls (by omega)  hP hD hS (lv_sub hl [0, 1, 2, 3] rfl)
                  · skip
                    have c58 : ¬ q_52.toInt = r_54.toInt := zne cb9 rfl rfl
                    refine lv_iconst (v := 0) hx hb dX12_has_81 (by decide) ?_
                    have hP : va_P g.1 vwCl (List.flatten [bMo g o a th hi ac tp ba en at2_1 fl de iD iO tU fm fk fa fc ft ff fb fi]) H := hP
                    have hD : va_D A (List.flatten [bMo g o a th hi ac tp ba en at2_1 fl de iD iO tU fm fk fa fc ft ff fb fi]) := hD
                    exact mret_z hx hb hr hlocks hS (Nat.le_of_ble_eq_true rfl) (Nat.le_of_ble_eq_true rfl) dX12_has_82 (at2_1, (0 : Int32)) rfl (by decide) (show (tA.toInt ≤ at2_1.toInt ∧ at2_1.toInt ≤ en.toInt + 7 - de.toInt) ∧ (0 = 1 ∧ tA.toInt < at2_1.toInt ∧ at2_1.toInt ≤ en.toInt ∨ 0 = 0) from ⟨by omega, by first | exact Or.inl ⟨rfl, by omega⟩ | exact Or.inr rfl⟩) hP hD
            have hP : va_P g.1 vwCl (List.flatten [bMo g o a th hi ac tp ba en at2_1 fl de iD iO tU fm fk fa fc ft ff fb fi]) H := hP
            have hD : va_D A (List.flatten [bMo g o a th hi ac tp ba en at2_1 fl de iD iO tU fm fk fa fc ft ff fb fi]) := hD
            exact LP55_45 _ 0 (by first | omega | assumption | decide) H _ ls (Nat.lt_succ_self _)  hP hD hS (lv_sub hl [0, 1, 2, 3] rfl)
          · skip
            have c59 : ¬ x_39.toInt = r_40.toInt := zne cb9 rfl rfl
            refine lv_iconst (v := 0) hx hb dX12_has_51 (by decide) ?_
            have hP : va_P g.1 vwCl (List.flatten [bMo g o a th hi ac tp ba en at2_1 fl de iD iO tU fm fk fa fc ft ff fb fi]) H := hP
            have hD : va_D A (List.flatten [bMo g o a th hi ac tp ba en at2_1 fl de iD iO tU fm fk fa fc ft ff fb fi]) := hD
            exact mret_z hx hb hr hlocks hS (Nat.le_of_ble_eq_true rfl) (Nat.le_of_ble_eq_true rfl) dX12_has_52 (at2_1, (0 : Int32)) rfl (by decide) (show (tA.toInt ≤ at2_1.toInt ∧ at2_1.toInt ≤ en.toInt + 7 - de.toInt) ∧ (0 = 1 ∧ tA.toInt < at2_1.toInt ∧ at2_1.toInt ≤ en.toInt ∨ 0 = 0) from ⟨by omega, by first | exact Or.inl ⟨rfl, by omega⟩ | exact Or.inr rfl⟩) hP hD
  have hP : va_P g.1 vwCl (List.flatten [bMo g o a th hi ac tp ba en at2_1 fl de iD iO tU fm fk fa fc ft ff fb fi]) H := hP
  have hD : va_D A (List.flatten [bMo g o a th hi ac tp ba en at2_1 fl de iD iO tU fm fk fa fc ft ff fb fi]) := hD
  exact LP9_7 _ at2_1 (by first | omega | assumption | decide) (by first | omega | assumption | decide) (by first | omega | assumption | decide) H _ ls (Nat.lt_succ_self _)  hP hD hS (lv_sub hl [0, 1, 2] rfl)
set_option maxRecDepth 100000 in
set_option maxHeartbeats 4000000 in
theorem m_wrong (l : Launch) (g : zG) (o : Nat) (a : Nat → Nat) (th : Int32) (hi : Int32) (ac : Int32) (tp : Int32) (ba : Int32) (en : Int32) (tA : Int32) (fl : Int32) (de : Int32) (iD : Int32) (iO : Int32) (tU : Int32) (fm : Nat → Int32) (fk : Nat → Int32) (fa : Nat → Int32) (fc : Nat → Int32) (ft : Nat → Int32) (ff : Nat → Int32) (fb : Nat → Int32) (fi : Nat → Int32) (where_ : Int32) (hwh : 0 ≤ where_.toInt) (hfl : -1 ≤ fl.toInt) : zM' g l yX12_wrong (Cond.code yX12_wrong cX12_wrong 2 none :: zB) ({ frames := 0, cells := 0, slots := 0, locals := 0 } : Room) [.ref o, .int where_] [bMo g o a th hi ac tp ba en tA fl de iD iO tU fm fk fa fc ft ff fb fi] (fun (fl2 : Int32) => none) (fun (fl2 : Int32) => (0 ≤ fl2.toInt)) (fun (fl2 : Int32) => [bMo g o a th hi ac tp ba en tA fl2 de iD iO tU fm fk fa fc ft ff fb fi]) := by
  refine zM'.of (cc := cX12_wrong) (maxL := 2) (rt := none) (by decide) rfl (Nat.le_of_ble_eq_true rfl) ?_
  intro p e s m args below meth c A ls St hr hlocks hin hK hT hA hP hD hS hl
  obtain ⟨hx, hb, hml, hown, hts⟩ := id St
  have hl : lv_has ls 2 [(0, .ref o), (1, .int where_)] := hl
  refine lv_aload_n hx hb dX12_wrong_0 rfl (lv_at hl 0 rfl) ?_
  refine va_get (D := g.1) (ci := 10) (v := .int fl) (C := RX12) (T := TX12) (N := 20) hx hb hts izRX12 hown hK hP 0 rfl rfl 12 (by decide) (hts _ k820) (fun _ h9 => h9) rfl dX12_wrong_1 ?_
  refine lv_iconst (v := (-1)) hx hb dX12_wrong_4 (by decide) ?_
  refine lv_icmp_ne (tgt := 13) hx hb dX12_wrong_5 (by decide) (fun cb9 => ?_) (fun cb9 => ?_)
  · skip
    have c1 : ¬ fl.toInt = (-1) := zne cb9 rfl (by decide)
    have hP : va_P g.1 vwCl (List.flatten [bMo g o a th hi ac tp ba en tA fl de iD iO tU fm fk fa fc ft ff fb fi]) s.heap := hP
    have hD : va_D A (List.flatten [bMo g o a th hi ac tp ba en tA fl de iD iO tU fm fk fa fc ft ff fb fi]) := hD
    exact mret_v hx hb hr hlocks hS (Nat.le_of_ble_eq_true rfl) (Nat.le_of_ble_eq_true rfl) dX12_wrong_13 (fl) rfl (show (0 ≤ fl.toInt) from (by first | assumption | omega | decide | exact rfl | exact zb01 (by omega))) hP hD
  · skip
    have c2 : fl.toInt = (-1) := zeq cb9 rfl (by decide)
    refine lv_aload_n hx hb dX12_wrong_8 rfl (lv_at hl 0 rfl) ?_
    refine lv_iload_n hx hb dX12_wrong_9 rfl (lv_at hl 1 rfl) ?_
    refine va_put (D := g.1) (ci := 10) (v := .int where_) (ty := .int) (C := RX12) (T := TX12) (N := 20) hx hb hts izRX12 tyX12 tyX12_ok nmX12 hown hK hP hD hS 0 rfl rfl 12 (by decide) (hts _ k820) (fun _ h9 => h9) rfl (by decide +kernel) rfl rfl (Nat.le_of_ble_eq_true rfl) dX12_wrong_10 (fun H locs hP hD hS => ?_)
    have hP : va_P g.1 vwCl (List.flatten [bMo g o a th hi ac tp ba en tA where_ de iD iO tU fm fk fa fc ft ff fb fi]) H := hP
    have hD : va_D A (List.flatten [bMo g o a th hi ac tp ba en tA where_ de iD iO tU fm fk fa fc ft ff fb fi]) := hD
    have hP : va_P g.1 vwCl (List.flatten [bMo g o a th hi ac tp ba en tA where_ de iD iO tU fm fk fa fc ft ff fb fi]) H := hP
    have hD : va_D A (List.flatten [bMo g o a th hi ac tp ba en tA where_ de iD iO tU fm fk fa fc ft ff fb fi]) := hD
    exact mret_v hx hb hr hlocks hS (Nat.le_of_ble_eq_true rfl) (Nat.le_of_ble_eq_true rfl) dX12_wrong_13 (where_) rfl (show (0 ≤ where_.toInt) from (by first | assumption | omega | decide | exact rfl | exact zb01 (by omega))) hP hD
set_option maxRecDepth 100000 in
set_option maxHeartbeats 4000000 in
theorem m_here (l : Launch) (g : zG) (o : Nat) (a : Nat → Nat) (th : Int32) (hi : Int32) (ac : Int32) (tp : Int32) (ba : Int32) (en : Int32) (tA : Int32) (fl : Int32) (de : Int32) (iD : Int32) (iO : Int32) (tU : Int32) (fm : Nat → Int32) (fk : Nat → Int32) (fa : Nat → Int32) (fc : Nat → Int32) (ft : Nat → Int32) (ff : Nat → Int32) (fb : Nat → Int32) (fi : Nat → Int32) (hba : ba.toInt = -1 ∨ ba.toInt = 379) (hen : 0 ≤ en.toInt ∧ en.toInt ≤ 400) (htA : 0 ≤ tA.toInt ∧ tA.toInt ≤ en.toInt + 7 - de.toInt) (hfl : -1 ≤ fl.toInt) (hde : 0 ≤ de.toInt ∧ de.toInt ≤ 6) : zM' g l yX12_here (Cond.code yX12_here cX12_here 1 (some .int) :: zB) ({ frames := 2, cells := 0, slots := 0, locals := 41 } : Room) [.ref o] [bMo g o a th hi ac tp ba en tA fl de iD iO tU fm fk fa fc ft ff fb fi] (fun (at2 : Int32) => some (.int at2)) (fun (at2 : Int32) => (tA.toInt ≤ at2.toInt ∧ at2.toInt ≤ en.toInt + 7 - de.toInt)) (fun (at2 : Int32) => [bMo g o a th hi ac tp ba en at2 fl de iD iO tU fm fk fa fc ft ff fb fi]) := by
  refine zM'.of (cc := cX12_here) (maxL := 1) (rt := (some .int)) (by decide) rfl (Nat.le_of_ble_eq_true rfl) ?_
  intro p e s m args below meth c A ls St hr hlocks hin hK hT hA hP hD hS hl
  obtain ⟨hx, hb, hml, hown, hts⟩ := id St
  have hl : lv_has ls 1 [(0, .ref o)] := hl
  refine lv_aload_n hx hb dX12_here_0 rfl (lv_at hl 0 rfl) ?_
  refine mcallV' (g := g) (q0 := 0) (ci := 10) (As := []) (rest := []) St hK hT hA hP hD hS hl.1 [0] [] rfl rfl rfl (m_skip l g o a th hi ac tp ba en tA fl de iD iO tU fm fk fa fc ft ff fb fi (by first | assumption | omega | decide) (by first | assumption | omega | decide) (by first | assumption | omega | decide) (by first | assumption | omega | decide) (by first | assumption | omega | decide)) (cwV 0 hts (zgL (zl4 k883 k884 k885 k837) k876) rfl rfl rfl (by decide +kernel) ⟨Nat.le_of_ble_eq_true rfl, Nat.le_of_ble_eq_true rfl⟩) rfl rfl rfl rfl (Nat.le_of_ble_eq_true rfl) dX12_here_1 ⟨(Nat.le_of_ble_eq_true rfl), (Nat.le_of_ble_eq_true rfl)⟩ (fun at2_1 H locs hq2 hP hD hS => ?_)
  replace hq2 : (tA.toInt ≤ at2_1.toInt ∧ at2_1.toInt ≤ en.toInt + 7 - de.toInt) := hq2
  have hP : va_P g.1 vwCl (List.flatten [bMo g o a th hi ac tp ba en at2_1 fl de iD iO tU fm fk fa fc ft ff fb fi]) H := hP
  have hD : va_D A (List.flatten [bMo g o a th hi ac tp ba en at2_1 fl de iD iO tU fm fk fa fc ft ff fb fi]) := hD
  refine W.widen (k := 0) (n := 0) (Nat.le_of_ble_eq_true rfl) (Nat.le_of_ble_eq_true rfl) ?_
  refine W.eq (g2 := F0 m 4 ls []) rfl ?_
  refine lv_aload_n hx hb dX12_here_4 rfl (lv_at hl 0 rfl) ?_
  refine va_get (D := g.1) (ci := 10) (v := .int at2_1) (C := RX12) (T := TX12) (N := 20) hx hb hts izRX12 hown hK hP 0 rfl rfl 11 (by decide) (hts _ k877) (fun _ h9 => h9) rfl dX12_here_5 ?_
  have hP : va_P g.1 vwCl (List.flatten [bMo g o a th hi ac tp ba en at2_1 fl de iD iO tU fm fk fa fc ft ff fb fi]) H := hP
  have hD : va_D A (List.flatten [bMo g o a th hi ac tp ba en at2_1 fl de iD iO tU fm fk fa fc ft ff fb fi]) := hD
  exact mret_i hx hb hr hlocks hS (Nat.le_of_ble_eq_true rfl) (Nat.le_of_ble_eq_true rfl) dX12_here_8 (at2_1) rfl (show (tA.toInt ≤ at2_1.toInt ∧ at2_1.toInt ≤ en.toInt + 7 - de.toInt) from (by first | assumption | omega | decide | exact rfl | exact zb01 (by omega))) hP hD
set_option maxRecDepth 100000 in
set_option maxHeartbeats 4000000 in
theorem m_figures (l : Launch) (g : zG) (o : Nat) (a : Nat → Nat) (th : Int32) (hi : Int32) (ac : Int32) (tp : Int32) (ba : Int32) (en : Int32) (tA : Int32) (fl : Int32) (de : Int32) (iD : Int32) (iO : Int32) (tU : Int32) (fm : Nat → Int32) (fk : Nat → Int32) (fa : Nat → Int32) (fc : Nat → Int32) (ft : Nat → Int32) (ff : Nat → Int32) (fb : Nat → Int32) (fi : Nat → Int32) (lw : Int32) (hg : Int32) (hba : ba.toInt = -1 ∨ ba.toInt = 379) (hen : 0 ≤ en.toInt ∧ en.toInt ≤ 400) (htA : 0 ≤ tA.toInt ∧ tA.toInt ≤ en.toInt + 7 - de.toInt) (hfl : -1 ≤ fl.toInt) (hde : 0 ≤ de.toInt ∧ de.toInt ≤ 6) : zM' g l yX12_figures (Cond.code yX12_figures cX12_figures 5 (some .int) :: zB) ({ frames := 3, cells := 0, slots := 0, locals := 61 } : Room) [.ref o, .int lw, .int hg] [bMo g o a th hi ac tp ba en tA fl de iD iO tU fm fk fa fc ft ff fb fi] (fun u : Int32 × Int32 × Int32 => (fun (at2 : Int32) (fl2 : Int32) (r : Int32) => some (.int r)) (u.1) (u.2.1) (u.2.2)) (fun u : Int32 × Int32 × Int32 => (fun (at2 : Int32) (fl2 : Int32) (r : Int32) => (tA.toInt ≤ at2.toInt ∧ at2.toInt ≤ en.toInt + 7 - de.toInt) ∧ (-1 ≤ fl2.toInt) ∧ (fl2.toInt = -1 → fl.toInt = -1 ∧ lw.toInt ≤ r.toInt ∧ r.toInt ≤ hg.toInt)) (u.1) (u.2.1) (u.2.2)) (fun u : Int32 × Int32 × Int32 => (fun (at2 : Int32) (fl2 : Int32) (r : Int32) => [bMo g o a th hi ac tp ba en at2 fl2 de iD iO tU fm fk fa fc ft ff fb fi]) (u.1) (u.2.1) (u.2.2)) := by
  refine zM'.of (cc := cX12_figures) (maxL := 5) (rt := (some .int)) (by decide) rfl (Nat.le_of_ble_eq_true rfl) ?_
  intro p e s m args below meth c A ls St hr hlocks hin hK hT hA hP hD hS hl
  obtain ⟨hx, hb, hml, hown, hts⟩ := id St
  have hl : lv_has ls 5 [(0, .ref o), (1, .int lw), (2, .int hg)] := hl
  refine lv_aload_n hx hb dX12_figures_0 rfl (lv_at hl 0 rfl) ?_
  refine va_get (D := g.1) (ci := 10) (v := .int fl) (C := RX12) (T := TX12) (N := 20) hx hb hts izRX12 hown hK hP 0 rfl rfl 12 (by decide) (hts _ k820) (fun _ h9 => h9) rfl dX12_figures_1 ?_
  refine lv_iconst (v := (-1)) hx hb dX12_figures_4 (by decide) ?_
  refine lv_icmp_eq (tgt := 10) hx hb dX12_figures_5 (by decide) (fun cb9 => ?_) (fun cb9 => ?_)
  · skip
    have c1 : fl.toInt = (-1) := zeq cb9 rfl (by decide)
    refine lv_aload_n hx hb dX12_figures_10 rfl (lv_at hl 0 rfl) ?_
    refine mcallV' (g := g) (q0 := 0) (ci := 10) (As := []) (rest := []) St hK hT hA hP hD hS hl.1 [0] [] rfl rfl rfl (m_here l g o a th hi ac tp ba en tA fl de iD iO tU fm fk fa fc ft ff fb fi (by first | assumption | omega | decide) (by first | assumption | omega | decide) (by first | assumption | omega | decide) (by first | assumption | omega | decide) (by first | assumption | omega | decide)) (cwV 0 hts (zgL (zl4 k891 k892 k893 k837) k890) rfl rfl rfl (by decide +kernel) ⟨Nat.le_of_ble_eq_true rfl, Nat.le_of_ble_eq_true rfl⟩) rfl rfl rfl rfl (Nat.le_of_ble_eq_true rfl) dX12_figures_11 ⟨(Nat.le_of_ble_eq_true rfl), (Nat.le_of_ble_eq_true rfl)⟩ (fun at2_2 H locs hq3 hP hD hS => ?_)
    replace hq3 : (tA.toInt ≤ at2_2.toInt ∧ at2_2.toInt ≤ en.toInt + 7 - de.toInt) := hq3
    have hP : va_P g.1 vwCl (List.flatten [bMo g o a th hi ac tp ba en at2_2 fl de iD iO tU fm fk fa fc ft ff fb fi]) H := hP
    have hD : va_D A (List.flatten [bMo g o a th hi ac tp ba en at2_2 fl de iD iO tU fm fk fa fc ft ff fb fi]) := hD
    refine W.widen (k := 0) (n := 0) (Nat.le_of_ble_eq_true rfl) (Nat.le_of_ble_eq_true rfl) ?_
    refine W.eq (g2 := F0 m 14 ls [.int at2_2]) rfl ?_
    refine lv_istore_n (lv' := [(3, .int at2_2), (0, .ref o), (1, .int lw), (2, .int hg)]) hx hb dX12_figures_14 rfl hl (by decide) rfl (fun ls hl => ?_)
    refine lv_iconst (v := 0) hx hb dX12_figures_15 (by decide) ?_
    refine lv_istore (lv' := [(4, .int 0), (3, .int at2_2), (0, .ref o), (1, .int lw), (2, .int hg)]) hx hb dX12_figures_16 hl (by decide) rfl (fun ls hl => ?_)
    have hl := lv_sub (l' := [(0, .ref o), (1, .int lw), (2, .int hg), (3, .int at2_2), (4, .int 0)]) hl [2, 3, 4, 1, 0] rfl
    have LP18_9 : ∀ (kf : Nat) (x_4 : Int32) (x_5 : Int32), (0 ≤ x_5.toInt ∧ x_5.toInt ≤ 407) → (tA.toInt ≤ x_5.toInt ∧ x_5.toInt ≤ en.toInt + 7 - de.toInt) → (at2_2.toInt ≤ x_5.toInt) → ∀ (H : Heap) (locs : List Loc) (ls : Array Slot), ((en.toInt - x_5.toInt).toNat) < kf → va_P g.1 vwCl (List.flatten [bMo g o a th hi ac tp ba en x_5 fl de iD iO tU fm fk fa fc ft ff fb fi]) H → va_D A (List.flatten [bMo g o a th hi ac tp ba en x_5 fl de iD iO tU fm fk fa fc ft ff fb fi]) → va_S A s.heap H locs → lv_has ls 5 [(0, .ref o), (1, .int lw), (2, .int hg), (3, .int at2_2), (4, .int x_4)] → W p l e ({ frames := 3, cells := 0, slots := 0, locals := 61 } : Room) s m args below meth c H locs (0) (0) (zF g (fun u : Int32 × Int32 × Int32 => (fun (at2 : Int32) (fl2 : Int32) (r : Int32) => some (.int r)) (u.1) (u.2.1) (u.2.2)) (fun u : Int32 × Int32 × Int32 => (fun (at2 : Int32) (fl2 : Int32) (r : Int32) => (tA.toInt ≤ at2.toInt ∧ at2.toInt ≤ en.toInt + 7 - de.toInt) ∧ (-1 ≤ fl2.toInt) ∧ (fl2.toInt = -1 → fl.toInt = -1 ∧ lw.toInt ≤ r.toInt ∧ r.toInt ≤ hg.toInt)) (u.1) (u.2.1) (u.2.2)) (fun u : Int32 × Int32 × Int32 => (fun (at2 : Int32) (fl2 : Int32) (r : Int32) => [bMo g o a th hi ac tp ba en at2 fl2 de iD iO tU fm fk fa fc ft ff fb fi]) (u.1) (u.2.1) (u.2.2)) ({ frames := 3, cells := 0, slots := 0, locals := 61 } : Room) below args s A) (F0 m 18 ls []) := by
      intro kf
      induction kf with
      | zero => intro x_4 x_5 i6 i7 i8 H locs ls hk; exact absurd hk (Nat.not_lt_zero _)
      | succ kf ih18_10 =>
        intro x_4 x_5 i6 i7 i8 H locs ls hk hP hD hS hl
        refine lv_aload_n hx hb dX12_figures_18 rfl (lv_at hl 0 rfl) ?_
        refine va_get (D := g.1) (ci := 10) (v := .int x_5) (C := RX12) (T := TX12) (N := 20) hx hb hts izRX12 hown hK hP 0 rfl rfl 11 (by decide) (hts _ k877) (fun _ h9 => h9) rfl dX12_figures_19 ?_
        refine lv_aload_n hx hb dX12_figures_22 rfl (lv_at hl 0 rfl) ?_
        refine va_get (D := g.1) (ci := 10) (v := .int en) (C := RX12) (T := TX12) (N := 20) hx hb hts izRX12 hown hK hP 0 rfl rfl 10 (by decide) (hts _ k878) (fun _ h9 => h9) rfl dX12_figures_23 ?_
        refine lv_icmp_ge (tgt := 89) hx hb dX12_figures_26 (by decide) (fun cb9 => ?_) (fun cb9 => ?_)
        · skip
          have c11 : en.toInt ≤ x_5.toInt := zle cb9 rfl rfl
          refine lv_aload_n hx hb dX12_figures_89 rfl (lv_at hl 0 rfl) ?_
          refine va_get (D := g.1) (ci := 10) (v := .int x_5) (C := RX12) (T := TX12) (N := 20) hx hb hts izRX12 hown hK hP 0 rfl rfl 11 (by decide) (hts _ k877) (fun _ h9 => h9) rfl dX12_figures_90 ?_
          refine lv_iload_n hx hb dX12_figures_93 rfl (lv_at hl 3 rfl) ?_
          refine lv_icmp_eq (tgt := 119) hx hb dX12_figures_94 (by decide) (fun cb9 => ?_) (fun cb9 => ?_)
          · skip
            have c12 : x_5.toInt = at2_2.toInt := zeq cb9 rfl rfl
            refine lv_aload_n hx hb dX12_figures_119 rfl (lv_at hl 0 rfl) ?_
            refine lv_iload_n hx hb dX12_figures_120 rfl (lv_at hl 3 rfl) ?_
            refine mcallV' (g := g) (q0 := 0) (ci := 10) (As := [.int at2_2]) (rest := []) St hK hT hA hP hD hS hl.1 [0] [] rfl rfl rfl (m_wrong l g o a th hi ac tp ba en x_5 fl de iD iO tU fm fk fa fc ft ff fb fi at2_2 (by first | assumption | omega | decide) (by first | assumption | omega | decide)) (cwV 1 hts (zgL (zl4 k894 k895 k896 k837) k889) rfl rfl rfl (by decide +kernel) ⟨Nat.le_of_ble_eq_true rfl, Nat.le_of_ble_eq_true rfl⟩) rfl rfl rfl rfl (Nat.le_of_ble_eq_true rfl) dX12_figures_121 ⟨(Nat.le_of_ble_eq_true rfl), (Nat.le_of_ble_eq_true rfl)⟩ (fun fl2_13 H locs hq14 hP hD hS => ?_)
            replace hq14 : (0 ≤ fl2_13.toInt) := hq14
            have hP : va_P g.1 vwCl (List.flatten [bMo g o a th hi ac tp ba en x_5 fl2_13 de iD iO tU fm fk fa fc ft ff fb fi]) H := hP
            have hD : va_D A (List.flatten [bMo g o a th hi ac tp ba en x_5 fl2_13 de iD iO tU fm fk fa fc ft ff fb fi]) := hD
            refine W.widen (k := 0) (n := 0) (Nat.le_of_ble_eq_true rfl) (Nat.le_of_ble_eq_true rfl) ?_
            refine W.eq (g2 := F0 m 124 ls []) rfl ?_
            refine lv_iload hx hb dX12_figures_124 (lv_at hl 4 rfl) ?_
            have hP : va_P g.1 vwCl (List.flatten [bMo g o a th hi ac tp ba en x_5 fl2_13 de iD iO tU fm fk fa fc ft ff fb fi]) H := hP
            have hD : va_D A (List.flatten [bMo g o a th hi ac tp ba en x_5 fl2_13 de iD iO tU fm fk fa fc ft ff fb fi]) := hD
            exact mret_i hx hb hr hlocks hS (Nat.le_of_ble_eq_true rfl) (Nat.le_of_ble_eq_true rfl) dX12_figures_126 (x_5, fl2_13, x_4) rfl (show (tA.toInt ≤ x_5.toInt ∧ x_5.toInt ≤ en.toInt + 7 - de.toInt) ∧ (-1 ≤ fl2_13.toInt) ∧ (fl2_13.toInt = -1 → fl.toInt = -1 ∧ lw.toInt ≤ x_4.toInt ∧ x_4.toInt ≤ hg.toInt) from ⟨(by first | assumption | omega | decide | exact rfl | exact zb01 (by omega)), (by first | assumption | omega | decide | exact rfl | exact zb01 (by omega)), (by first | assumption | omega | decide | exact rfl | exact zb01 (by omega))⟩) hP hD
          · skip
            have c15 : ¬ x_5.toInt = at2_2.toInt := zne cb9 rfl rfl
            refine lv_aload_n hx hb dX12_figures_97 rfl (lv_at hl 0 rfl) ?_
            refine va_get (D := g.1) (ci := 10) (v := .int x_5) (C := RX12) (T := TX12) (N := 20) hx hb hts izRX12 hown hK hP 0 rfl rfl 11 (by decide) (hts _ k877) (fun _ h9 => h9) rfl dX12_figures_98 ?_
            refine lv_iload_n hx hb dX12_figures_101 rfl (lv_at hl 3 rfl) ?_
            refine lv_isub hx hb dX12_figures_102 ?_
            refine zgv (zsub (i := x_5.toInt) (j := at2_2.toInt) rfl rfl (by omega)) (fun x_16 hx_16 => ?_)
            refine lv_iconst (v := 3) hx hb dX12_figures_103 (by decide) ?_
            refine lv_icmp_gt (tgt := 119) hx hb dX12_figures_104 (by decide) (fun cb9 => ?_) (fun cb9 => ?_)
            · skip
              have c17 : 3 < x_16.toInt := zlti cb9 (by decide) rfl
              refine lv_aload_n hx hb dX12_figures_119 rfl (lv_at hl 0 rfl) ?_
              refine lv_iload_n hx hb dX12_figures_120 rfl (lv_at hl 3 rfl) ?_
              refine mcallV' (g := g) (q0 := 0) (ci := 10) (As := [.int at2_2]) (rest := []) St hK hT hA hP hD hS hl.1 [0] [] rfl rfl rfl (m_wrong l g o a th hi ac tp ba en x_5 fl de iD iO tU fm fk fa fc ft ff fb fi at2_2 (by first | assumption | omega | decide) (by first | assumption | omega | decide)) (cwV 1 hts (zgL (zl4 k894 k895 k896 k837) k889) rfl rfl rfl (by decide +kernel) ⟨Nat.le_of_ble_eq_true rfl, Nat.le_of_ble_eq_true rfl⟩) rfl rfl rfl rfl (Nat.le_of_ble_eq_true rfl) dX12_figures_121 ⟨(Nat.le_of_ble_eq_true rfl), (Nat.le_of_ble_eq_true rfl)⟩ (fun fl2_18 H locs hq19 hP hD hS => ?_)
              replace hq19 : (0 ≤ fl2_18.toInt) := hq19
              have hP : va_P g.1 vwCl (List.flatten [bMo g o a th hi ac tp ba en x_5 fl2_18 de iD iO tU fm fk fa fc ft ff fb fi]) H := hP
              have hD : va_D A (List.flatten [bMo g o a th hi ac tp ba en x_5 fl2_18 de iD iO tU fm fk fa fc ft ff fb fi]) := hD
              refine W.widen (k := 0) (n := 0) (Nat.le_of_ble_eq_true rfl) (Nat.le_of_ble_eq_true rfl) ?_
              refine W.eq (g2 := F0 m 124 ls []) rfl ?_
              refine lv_iload hx hb dX12_figures_124 (lv_at hl 4 rfl) ?_
              have hP : va_P g.1 vwCl (List.flatten [bMo g o a th hi ac tp ba en x_5 fl2_18 de iD iO tU fm fk fa fc ft ff fb fi]) H := hP
              have hD : va_D A (List.flatten [bMo g o a th hi ac tp ba en x_5 fl2_18 de iD iO tU fm fk fa fc ft ff fb fi]) := hD
              exact mret_i hx hb hr hlocks hS (Nat.le_of_ble_eq_true rfl) (Nat.le_of_ble_eq_true rfl) dX12_figures_126 (x_5, fl2_18, x_4) rfl (show (tA.toInt ≤ x_5.toInt ∧ x_5.toInt ≤ en.toInt + 7 - de.toInt) ∧ (-1 ≤ fl2_18.toInt) ∧ (fl2_18.toInt = -1 → fl.toInt = -1 ∧ lw.toInt ≤ x_4.toInt ∧ x_4.toInt ≤ hg.toInt) from ⟨(by first | assumption | omega | decide | exact rfl | exact zb01 (by omega)), (by first | assumption | omega | decide | exact rfl | exact zb01 (by omega)), (by first | assumption | omega | decide | exact rfl | exact zb01 (by omega))⟩) hP hD
            · skip
              have c20 : x_16.toInt ≤ 3 := zle (Int32.not_lt.mp cb9) rfl (by decide)
              refine lv_iload hx hb dX12_figures_107 (lv_at hl 4 rfl) ?_
              refine lv_iload_n hx hb dX12_figures_109 rfl (lv_at hl 1 rfl) ?_
              refine lv_icmp_lt (tgt := 119) hx hb dX12_figures_110 (by decide) (fun cb9 => ?_) (fun cb9 => ?_)
              · skip
                have c21 : x_4.toInt < lw.toInt := zlti cb9 rfl rfl
                refine lv_aload_n hx hb dX12_figures_119 rfl (lv_at hl 0 rfl) ?_
                refine lv_iload_n hx hb dX12_figures_120 rfl (lv_at hl 3 rfl) ?_
                refine mcallV' (g := g) (q0 := 0) (ci := 10) (As := [.int at2_2]) (rest := []) St hK hT hA hP hD hS hl.1 [0] [] rfl rfl rfl (m_wrong l g o a th hi ac tp ba en x_5 fl de iD iO tU fm fk fa fc ft ff fb fi at2_2 (by first | assumption | omega | decide) (by first | assumption | omega | decide)) (cwV 1 hts (zgL (zl4 k894 k895 k896 k837) k889) rfl rfl rfl (by decide +kernel) ⟨Nat.le_of_ble_eq_true rfl, Nat.le_of_ble_eq_true rfl⟩) rfl rfl rfl rfl (Nat.le_of_ble_eq_true rfl) dX12_figures_121 ⟨(Nat.le_of_ble_eq_true rfl), (Nat.le_of_ble_eq_true rfl)⟩ (fun fl2_22 H locs hq23 hP hD hS => ?_)
                replace hq23 : (0 ≤ fl2_22.toInt) := hq23
                have hP : va_P g.1 vwCl (List.flatten [bMo g o a th hi ac tp ba en x_5 fl2_22 de iD iO tU fm fk fa fc ft ff fb fi]) H := hP
                have hD : va_D A (List.flatten [bMo g o a th hi ac tp ba en x_5 fl2_22 de iD iO tU fm fk fa fc ft ff fb fi]) := hD
                refine W.widen (k := 0) (n := 0) (Nat.le_of_ble_eq_true rfl) (Nat.le_of_ble_eq_true rfl) ?_
                refine W.eq (g2 := F0 m 124 ls []) rfl ?_
                refine lv_iload hx hb dX12_figures_124 (lv_at hl 4 rfl) ?_
                have hP : va_P g.1 vwCl (List.flatten [bMo g o a th hi ac tp ba en x_5 fl2_22 de iD iO tU fm fk fa fc ft ff fb fi]) H := hP
                have hD : va_D A (List.flatten [bMo g o a th hi ac tp ba en x_5 fl2_22 de iD iO tU fm fk fa fc ft ff fb fi]) := hD
                exact mret_i hx hb hr hlocks hS (Nat.le_of_ble_eq_true rfl) (Nat.le_of_ble_eq_true rfl) dX12_figures_126 (x_5, fl2_22, x_4) rfl (show (tA.toInt ≤ x_5.toInt ∧ x_5.toInt ≤ en.toInt + 7 - de.toInt) ∧ (-1 ≤ fl2_22.toInt) ∧ (fl2_22.toInt = -1 → fl.toInt = -1 ∧ lw.toInt ≤ x_4.toInt ∧ x_4.toInt ≤ hg.toInt) from ⟨(by first | assumption | omega | decide | exact rfl | exact zb01 (by omega)), (by first | assumption | omega | decide | exact rfl | exact zb01 (by omega)), (by first | assumption | omega | decide | exact rfl | exact zb01 (by omega))⟩) hP hD
              · skip
                have c24 : lw.toInt ≤ x_4.toInt := zle (Int32.not_lt.mp cb9) rfl rfl
                refine lv_iload hx hb dX12_figures_113 (lv_at hl 4 rfl) ?_
                refine lv_iload_n hx hb dX12_figures_115 rfl (lv_at hl 2 rfl) ?_
                refine lv_icmp_le (tgt := 124) hx hb dX12_figures_116 (by decide) (fun cb9 => ?_) (fun cb9 => ?_)
                · skip
                  have c25 : x_4.toInt ≤ hg.toInt := zle cb9 rfl rfl
                  refine lv_iload hx hb dX12_figures_124 (lv_at hl 4 rfl) ?_
                  have hP : va_P g.1 vwCl (List.flatten [bMo g o a th hi ac tp ba en x_5 fl de iD iO tU fm fk fa fc ft ff fb fi]) H := hP
                  have hD : va_D A (List.flatten [bMo g o a th hi ac tp ba en x_5 fl de iD iO tU fm fk fa fc ft ff fb fi]) := hD
                  exact mret_i hx hb hr hlocks hS (Nat.le_of_ble_eq_true rfl) (Nat.le_of_ble_eq_true rfl) dX12_figures_126 (x_5, fl, x_4) rfl (show (tA.toInt ≤ x_5.toInt ∧ x_5.toInt ≤ en.toInt + 7 - de.toInt) ∧ (-1 ≤ fl.toInt) ∧ (fl.toInt = -1 → fl.toInt = -1 ∧ lw.toInt ≤ x_4.toInt ∧ x_4.toInt ≤ hg.toInt) from ⟨(by first | assumption | omega | decide | exact rfl | exact zb01 (by omega)), (by first | assumption | omega | decide | exact rfl | exact zb01 (by omega)), (by first | assumption | omega | decide | exact rfl | exact zb01 (by omega))⟩) hP hD
                · skip
                  have c26 : hg.toInt < x_4.toInt := zlti (Int32.not_le.mp cb9) rfl rfl
                  refine lv_aload_n hx hb dX12_figures_119 rfl (lv_at hl 0 rfl) ?_
                  refine lv_iload_n hx hb dX12_figures_120 rfl (lv_at hl 3 rfl) ?_
                  refine mcallV' (g := g) (q0 := 0) (ci := 10) (As := [.int at2_2]) (rest := []) St hK hT hA hP hD hS hl.1 [0] [] rfl rfl rfl (m_wrong l g o a th hi ac tp ba en x_5 fl de iD iO tU fm fk fa fc ft ff fb fi at2_2 (by first | assumption | omega | decide) (by first | assumption | omega | decide)) (cwV 1 hts (zgL (zl4 k894 k895 k896 k837) k889) rfl rfl rfl (by decide +kernel) ⟨Nat.le_of_ble_eq_true rfl, Nat.le_of_ble_eq_true rfl⟩) rfl rfl rfl rfl (Nat.le_of_ble_eq_true rfl) dX12_figures_121 ⟨(Nat.le_of_ble_eq_true rfl), (Nat.le_of_ble_eq_true rfl)⟩ (fun fl2_27 H locs hq28 hP hD hS => ?_)
                  replace hq28 : (0 ≤ fl2_27.toInt) := hq28
                  have hP : va_P g.1 vwCl (List.flatten [bMo g o a th hi ac tp ba en x_5 fl2_27 de iD iO tU fm fk fa fc ft ff fb fi]) H := hP
                  have hD : va_D A (List.flatten [bMo g o a th hi ac tp ba en x_5 fl2_27 de iD iO tU fm fk fa fc ft ff fb fi]) := hD
                  refine W.widen (k := 0) (n := 0) (Nat.le_of_ble_eq_true rfl) (Nat.le_of_ble_eq_true rfl) ?_
                  refine W.eq (g2 := F0 m 124 ls []) rfl ?_
                  refine lv_iload hx hb dX12_figures_124 (lv_at hl 4 rfl) ?_
                  have hP : va_P g.1 vwCl (List.flatten [bMo g o a th hi ac tp ba en x_5 fl2_27 de iD iO tU fm fk fa fc ft ff fb fi]) H := hP
                  have hD : va_D A (List.flatten [bMo g o a th hi ac tp ba en x_5 fl2_27 de iD iO tU fm fk fa fc ft ff fb fi]) := hD
                  exact mret_i hx hb hr hlocks hS (Nat.le_of_ble_eq_true rfl) (Nat.le_of_ble_eq_true rfl) dX12_figures_126 (x_5, fl2_27, x_4) rfl (show (tA.toInt ≤ x_5.toInt ∧ x_5.toInt ≤ en.toInt + 7 - de.toInt) ∧ (-1 ≤ fl2_27.toInt) ∧ (fl2_27.toInt = -1 → fl.toInt = -1 ∧ lw.toInt ≤ x_4.toInt ∧ x_4.toInt ≤ hg.toInt) from ⟨(by first | assumption | omega | decide | exact rfl | exact zb01 (by omega)), (by first | assumption | omega | decide | exact rfl | exact zb01 (by omega)), (by first | assumption | omega | decide | exact rfl | exact zb01 (by omega))⟩) hP hD
        · skip
          have c29 : x_5.toInt < en.toInt := zlti (Int32.not_le.mp cb9) rfl rfl
          refine lv_aload_n hx hb dX12_figures_29 rfl (lv_at hl 0 rfl) ?_
          refine lv_aload_n hx hb dX12_figures_30 rfl (lv_at hl 0 rfl) ?_
          refine va_get (D := g.1) (ci := 10) (v := .int x_5) (C := RX12) (T := TX12) (N := 20) hx hb hts izRX12 hown hK hP 0 rfl rfl 11 (by decide) (hts _ k877) (fun _ h9 => h9) rfl dX12_figures_31 ?_
          refine mcallV' (g := g) (q0 := 0) (ci := 10) (As := [.int x_5]) (rest := []) St hK hT hA hP hD hS hl.1 [0] [] rfl rfl rfl (m_letter l g o a th hi ac tp ba en x_5 fl de iD iO tU fm fk fa fc ft ff fb fi x_5 (by first | assumption | omega | decide) (by first | assumption | omega | decide)) (cwV 1 hts (zgL (zl4 k879 k880 k881 k837) k874) rfl rfl rfl (by decide +kernel) ⟨Nat.le_of_ble_eq_true rfl, Nat.le_of_ble_eq_true rfl⟩) rfl rfl rfl rfl (Nat.le_of_ble_eq_true rfl) dX12_figures_34 ⟨(Nat.le_of_ble_eq_true rfl), (Nat.le_of_ble_eq_true rfl)⟩ (fun q_30 H locs hq31 hP hD hS => ?_)
          have hP : va_P g.1 vwCl (List.flatten [bMo g o a th hi ac tp ba en x_5 fl de iD iO tU fm fk fa fc ft ff fb fi]) H := hP
          have hD : va_D A (List.flatten [bMo g o a th hi ac tp ba en x_5 fl de iD iO tU fm fk fa fc ft ff fb fi]) := hD
          refine W.widen (k := 0) (n := 0) (Nat.le_of_ble_eq_true rfl) (Nat.le_of_ble_eq_true rfl) ?_
          refine W.eq (g2 := F0 m 37 ls [.int q_30]) rfl ?_
          refine lv_bipush (v := 48) hx hb dX12_figures_37 (by decide) ?_
          refine lv_bipush (v := 57) hx hb dX12_figures_39 (by decide) ?_
          have hL48 : (48 : Int32).toInt = 48 := by decide
          have hL57 : (57 : Int32).toInt = 57 := by decide
          refine mcallS' (g := g) (As := [.int q_30, .int 48, .int 57]) (rest := []) St hK hT hA hP hD hS hl.1 [] [0] rfl rfl rfl (m_isIn l g q_30 48 57 ) (va_cwS 3 hts (zgL (zl3 k835 k836 k837) k824) rfl rfl rfl (by decide +kernel) ⟨Nat.le_of_ble_eq_true rfl, Nat.le_of_ble_eq_true rfl⟩) rfl rfl (Nat.le_of_ble_eq_true rfl) dX12_figures_41 ⟨(Nat.le_of_ble_eq_true rfl), (Nat.le_of_ble_eq_true rfl)⟩ (fun q_32 H locs hq33 hP hD hS => ?_)
          replace hq33 : (q_32 = 1 ∧ (48 : Int32).toInt ≤ q_30.toInt ∧ q_30.toInt ≤ (57 : Int32).toInt ∨ q_32 = 0 ∧ (q_30.toInt < (48 : Int32).toInt ∨ (57 : Int32).toInt < q_30.toInt)) := hq33
          have hP : va_P g.1 vwCl (List.flatten [bMo g o a th hi ac tp ba en x_5 fl de iD iO tU fm fk fa fc ft ff fb fi]) H := hP
          have hD : va_D A (List.flatten [bMo g o a th hi ac tp ba en x_5 fl de iD iO tU fm fk fa fc ft ff fb fi]) := hD
          refine W.widen (k := 0) (n := 0) (Nat.le_of_ble_eq_true rfl) (Nat.le_of_ble_eq_true rfl) ?_
          refine W.eq (g2 := F0 m 44 ls [.int q_32]) rfl ?_
          rcases hq33 with ⟨rfl, hq33_k⟩ | ⟨rfl, hq33_k⟩
          · skip
            refine lv_if_eq (tgt := 89) hx hb dX12_figures_44 (by decide) (fun c34 => absurd c34 (by decide)) (fun _ => ?_)
            refine lv_aload_n hx hb dX12_figures_47 rfl (lv_at hl 0 rfl) ?_
            refine va_get (D := g.1) (ci := 10) (v := .int x_5) (C := RX12) (T := TX12) (N := 20) hx hb hts izRX12 hown hK hP 0 rfl rfl 11 (by decide) (hts _ k877) (fun _ h9 => h9) rfl dX12_figures_48 ?_
            refine lv_iload_n hx hb dX12_figures_51 rfl (lv_at hl 3 rfl) ?_
            refine lv_isub hx hb dX12_figures_52 ?_
            refine zgv (zsub (i := x_5.toInt) (j := at2_2.toInt) rfl rfl (by omega)) (fun x_35 hx_35 => ?_)
            refine lv_iconst (v := 3) hx hb dX12_figures_53 (by decide) ?_
            refine lv_icmp_gt (tgt := 89) hx hb dX12_figures_54 (by decide) (fun cb9 => ?_) (fun cb9 => ?_)
            · skip
              have c36 : 3 < x_35.toInt := zlti cb9 (by decide) rfl
              refine lv_aload_n hx hb dX12_figures_89 rfl (lv_at hl 0 rfl) ?_
              refine va_get (D := g.1) (ci := 10) (v := .int x_5) (C := RX12) (T := TX12) (N := 20) hx hb hts izRX12 hown hK hP 0 rfl rfl 11 (by decide) (hts _ k877) (fun _ h9 => h9) rfl dX12_figures_90 ?_
              refine lv_iload_n hx hb dX12_figures_93 rfl (lv_at hl 3 rfl) ?_
              refine lv_icmp_eq (tgt := 119) hx hb dX12_figures_94 (by decide) (fun cb9 => ?_) (fun cb9 => ?_)
              · skip
                have c37 : x_5.toInt = at2_2.toInt := zeq cb9 rfl rfl
                refine lv_aload_n hx hb dX12_figures_119 rfl (lv_at hl 0 rfl) ?_
                refine lv_iload_n hx hb dX12_figures_120 rfl (lv_at hl 3 rfl) ?_
                refine mcallV' (g := g) (q0 := 0) (ci := 10) (As := [.int at2_2]) (rest := []) St hK hT hA hP hD hS hl.1 [0] [] rfl rfl rfl (m_wrong l g o a th hi ac tp ba en x_5 fl de iD iO tU fm fk fa fc ft ff fb fi at2_2 (by first | assumption | omega | decide) (by first | assumption | omega | decide)) (cwV 1 hts (zgL (zl4 k894 k895 k896 k837) k889) rfl rfl rfl (by decide +kernel) ⟨Nat.le_of_ble_eq_true rfl, Nat.le_of_ble_eq_true rfl⟩) rfl rfl rfl rfl (Nat.le_of_ble_eq_true rfl) dX12_figures_121 ⟨(Nat.le_of_ble_eq_true rfl), (Nat.le_of_ble_eq_true rfl)⟩ (fun fl2_38 H locs hq39 hP hD hS => ?_)
                replace hq39 : (0 ≤ fl2_38.toInt) := hq39
                have hP : va_P g.1 vwCl (List.flatten [bMo g o a th hi ac tp ba en x_5 fl2_38 de iD iO tU fm fk fa fc ft ff fb fi]) H := hP
                have hD : va_D A (List.flatten [bMo g o a th hi ac tp ba en x_5 fl2_38 de iD iO tU fm fk fa fc ft ff fb fi]) := hD
                refine W.widen (k := 0) (n := 0) (Nat.le_of_ble_eq_true rfl) (Nat.le_of_ble_eq_true rfl) ?_
                refine W.eq (g2 := F0 m 124 ls []) rfl ?_
                refine lv_iload hx hb dX12_figures_124 (lv_at hl 4 rfl) ?_
                have hP : va_P g.1 vwCl (List.flatten [bMo g o a th hi ac tp ba en x_5 fl2_38 de iD iO tU fm fk fa fc ft ff fb fi]) H := hP
                have hD : va_D A (List.flatten [bMo g o a th hi ac tp ba en x_5 fl2_38 de iD iO tU fm fk fa fc ft ff fb fi]) := hD
                exact mret_i hx hb hr hlocks hS (Nat.le_of_ble_eq_true rfl) (Nat.le_of_ble_eq_true rfl) dX12_figures_126 (x_5, fl2_38, x_4) rfl (show (tA.toInt ≤ x_5.toInt ∧ x_5.toInt ≤ en.toInt + 7 - de.toInt) ∧ (-1 ≤ fl2_38.toInt) ∧ (fl2_38.toInt = -1 → fl.toInt = -1 ∧ lw.toInt ≤ x_4.toInt ∧ x_4.toInt ≤ hg.toInt) from ⟨(by first | assumption | omega | decide | exact rfl | exact zb01 (by omega)), (by first | assumption | omega | decide | exact rfl | exact zb01 (by omega)), (by first | assumption | omega | decide | exact rfl | exact zb01 (by omega))⟩) hP hD
              · skip
                have c40 : ¬ x_5.toInt = at2_2.toInt := zne cb9 rfl rfl
                refine lv_aload_n hx hb dX12_figures_97 rfl (lv_at hl 0 rfl) ?_
                refine va_get (D := g.1) (ci := 10) (v := .int x_5) (C := RX12) (T := TX12) (N := 20) hx hb hts izRX12 hown hK hP 0 rfl rfl 11 (by decide) (hts _ k877) (fun _ h9 => h9) rfl dX12_figures_98 ?_
                refine lv_iload_n hx hb dX12_figures_101 rfl (lv_at hl 3 rfl) ?_
                refine lv_isub hx hb dX12_figures_102 ?_
                refine zgv (zsub (i := x_5.toInt) (j := at2_2.toInt) rfl rfl (by omega)) (fun x_41 hx_41 => ?_)
                refine lv_iconst (v := 3) hx hb dX12_figures_103 (by decide) ?_
                refine lv_icmp_gt (tgt := 119) hx hb dX12_figures_104 (by decide) (fun cb9 => ?_) (fun cb9 => ?_)
                · skip
                  have c42 : 3 < x_41.toInt := zlti cb9 (by decide) rfl
                  refine lv_aload_n hx hb dX12_figures_119 rfl (lv_at hl 0 rfl) ?_
                  refine lv_iload_n hx hb dX12_figures_120 rfl (lv_at hl 3 rfl) ?_
                  refine mcallV' (g := g) (q0 := 0) (ci := 10) (As := [.int at2_2]) (rest := []) St hK hT hA hP hD hS hl.1 [0] [] rfl rfl rfl (m_wrong l g o a th hi ac tp ba en x_5 fl de iD iO tU fm fk fa fc ft ff fb fi at2_2 (by first | assumption | omega | decide) (by first | assumption | omega | decide)) (cwV 1 hts (zgL (zl4 k894 k895 k896 k837) k889) rfl rfl rfl (by decide +kernel) ⟨Nat.le_of_ble_eq_true rfl, Nat.le_of_ble_eq_true rfl⟩) rfl rfl rfl rfl (Nat.le_of_ble_eq_true rfl) dX12_figures_121 ⟨(Nat.le_of_ble_eq_true rfl), (Nat.le_of_ble_eq_true rfl)⟩ (fun fl2_43 H locs hq44 hP hD hS => ?_)
                  replace hq44 : (0 ≤ fl2_43.toInt) := hq44
                  have hP : va_P g.1 vwCl (List.flatten [bMo g o a th hi ac tp ba en x_5 fl2_43 de iD iO tU fm fk fa fc ft ff fb fi]) H := hP
                  have hD : va_D A (List.flatten [bMo g o a th hi ac tp ba en x_5 fl2_43 de iD iO tU fm fk fa fc ft ff fb fi]) := hD
                  refine W.widen (k := 0) (n := 0) (Nat.le_of_ble_eq_true rfl) (Nat.le_of_ble_eq_true rfl) ?_
                  refine W.eq (g2 := F0 m 124 ls []) rfl ?_
                  refine lv_iload hx hb dX12_figures_124 (lv_at hl 4 rfl) ?_
                  have hP : va_P g.1 vwCl (List.flatten [bMo g o a th hi ac tp ba en x_5 fl2_43 de iD iO tU fm fk fa fc ft ff fb fi]) H := hP
                  have hD : va_D A (List.flatten [bMo g o a th hi ac tp ba en x_5 fl2_43 de iD iO tU fm fk fa fc ft ff fb fi]) := hD
                  exact mret_i hx hb hr hlocks hS (Nat.le_of_ble_eq_true rfl) (Nat.le_of_ble_eq_true rfl) dX12_figures_126 (x_5, fl2_43, x_4) rfl (show (tA.toInt ≤ x_5.toInt ∧ x_5.toInt ≤ en.toInt + 7 - de.toInt) ∧ (-1 ≤ fl2_43.toInt) ∧ (fl2_43.toInt = -1 → fl.toInt = -1 ∧ lw.toInt ≤ x_4.toInt ∧ x_4.toInt ≤ hg.toInt) from ⟨(by first | assumption | omega | decide | exact rfl | exact zb01 (by omega)), (by first | assumption | omega | decide | exact rfl | exact zb01 (by omega)), (by first | assumption | omega | decide | exact rfl | exact zb01 (by omega))⟩) hP hD
                · skip
                  have c45 : x_41.toInt ≤ 3 := zle (Int32.not_lt.mp cb9) rfl (by decide)
                  refine lv_iload hx hb dX12_figures_107 (lv_at hl 4 rfl) ?_
                  refine lv_iload_n hx hb dX12_figures_109 rfl (lv_at hl 1 rfl) ?_
                  refine lv_icmp_lt (tgt := 119) hx hb dX12_figures_110 (by decide) (fun cb9 => ?_) (fun cb9 => ?_)
                  · skip
                    have c46 : x_4.toInt < lw.toInt := zlti cb9 rfl rfl
                    refine lv_aload_n hx hb dX12_figures_119 rfl (lv_at hl 0 rfl) ?_
                    refine lv_iload_n hx hb dX12_figures_120 rfl (lv_at hl 3 rfl) ?_
                    refine mcallV' (g := g) (q0 := 0) (ci := 10) (As := [.int at2_2]) (rest := []) St hK hT hA hP hD hS hl.1 [0] [] rfl rfl rfl (m_wrong l g o a th hi ac tp ba en x_5 fl de iD iO tU fm fk fa fc ft ff fb fi at2_2 (by first | assumption | omega | decide) (by first | assumption | omega | decide)) (cwV 1 hts (zgL (zl4 k894 k895 k896 k837) k889) rfl rfl rfl (by decide +kernel) ⟨Nat.le_of_ble_eq_true rfl, Nat.le_of_ble_eq_true rfl⟩) rfl rfl rfl rfl (Nat.le_of_ble_eq_true rfl) dX12_figures_121 ⟨(Nat.le_of_ble_eq_true rfl), (Nat.le_of_ble_eq_true rfl)⟩ (fun fl2_47 H locs hq48 hP hD hS => ?_)
                    replace hq48 : (0 ≤ fl2_47.toInt) := hq48
                    have hP : va_P g.1 vwCl (List.flatten [bMo g o a th hi ac tp ba en x_5 fl2_47 de iD iO tU fm fk fa fc ft ff fb fi]) H := hP
                    have hD : va_D A (List.flatten [bMo g o a th hi ac tp ba en x_5 fl2_47 de iD iO tU fm fk fa fc ft ff fb fi]) := hD
                    refine W.widen (k := 0) (n := 0) (Nat.le_of_ble_eq_true rfl) (Nat.le_of_ble_eq_true rfl) ?_
                    refine W.eq (g2 := F0 m 124 ls []) rfl ?_
                    refine lv_iload hx hb dX12_figures_124 (lv_at hl 4 rfl) ?_
                    have hP : va_P g.1 vwCl (List.flatten [bMo g o a th hi ac tp ba en x_5 fl2_47 de iD iO tU fm fk fa fc ft ff fb fi]) H := hP
                    have hD : va_D A (List.flatten [bMo g o a th hi ac tp ba en x_5 fl2_47 de iD iO tU fm fk fa fc ft ff fb fi]) := hD
                    exact mret_i hx hb hr hlocks hS (Nat.le_of_ble_eq_true rfl) (Nat.le_of_ble_eq_true rfl) dX12_figures_126 (x_5, fl2_47, x_4) rfl (show (tA.toInt ≤ x_5.toInt ∧ x_5.toInt ≤ en.toInt + 7 - de.toInt) ∧ (-1 ≤ fl2_47.toInt) ∧ (fl2_47.toInt = -1 → fl.toInt = -1 ∧ lw.toInt ≤ x_4.toInt ∧ x_4.toInt ≤ hg.toInt) from ⟨(by first | assumption | omega | decide | exact rfl | exact zb01 (by omega)), (by first | assumption | omega | decide | exact rfl | exact zb01 (by omega)), (by first | assumption | omega | decide | exact rfl | exact zb01 (by omega))⟩) hP hD
                  · skip
                    have c49 : lw.toInt ≤ x_4.toInt := zle (Int32.not_lt.mp cb9) rfl rfl
                    refine lv_iload hx hb dX12_figures_113 (lv_at hl 4 rfl) ?_
                    refine lv_iload_n hx hb dX12_figures_115 rfl (lv_at hl 2 rfl) ?_
                    refine lv_icmp_le (tgt := 124) hx hb dX12_figures_116 (by decide) (fun cb9 => ?_) (fun cb9 => ?_)
                    · skip
                      have c50 : x_4.toInt ≤ hg.toInt := zle cb9 rfl rfl
                      refine lv_iload hx hb dX12_figures_124 (lv_at hl 4 rfl) ?_
                      have hP : va_P g.1 vwCl (List.flatten [bMo g o a th hi ac tp ba en x_5 fl de iD iO tU fm fk fa fc ft ff fb fi]) H := hP
                      have hD : va_D A (List.flatten [bMo g o a th hi ac tp ba en x_5 fl de iD iO tU fm fk fa fc ft ff fb fi]) := hD
                      exact mret_i hx hb hr hlocks hS (Nat.le_of_ble_eq_true rfl) (Nat.le_of_ble_eq_true rfl) dX12_figures_126 (x_5, fl, x_4) rfl (show (tA.toInt ≤ x_5.toInt ∧ x_5.toInt ≤ en.toInt + 7 - de.toInt) ∧ (-1 ≤ fl.toInt) ∧ (fl.toInt = -1 → fl.toInt = -1 ∧ lw.toInt ≤ x_4.toInt ∧ x_4.toInt ≤ hg.toInt) from ⟨(by first | assumption | omega | decide | exact rfl | exact zb01 (by omega)), (by first | assumption | omega | decide | exact rfl | exact zb01 (by omega)), (by first | assumption | omega | decide | exact rfl | exact zb01 (by omega))⟩) hP hD
                    · skip
                      have c51 : hg.toInt < x_4.toInt := zlti (Int32.not_le.mp cb9) rfl rfl
                      refine lv_aload_n hx hb dX12_figures_119 rfl (lv_at hl 0 rfl) ?_
                      refine lv_iload_n hx hb dX12_figures_120 rfl (lv_at hl 3 rfl) ?_
                      refine mcallV' (g := g) (q0 := 0) (ci := 10) (As := [.int at2_2]) (rest := []) St hK hT hA hP hD hS hl.1 [0] [] rfl rfl rfl (m_wrong l g o a th hi ac tp ba en x_5 fl de iD iO tU fm fk fa fc ft ff fb fi at2_2 (by first | assumption | omega | decide) (by first | assumption | omega | decide)) (cwV 1 hts (zgL (zl4 k894 k895 k896 k837) k889) rfl rfl rfl (by decide +kernel) ⟨Nat.le_of_ble_eq_true rfl, Nat.le_of_ble_eq_true rfl⟩) rfl rfl rfl rfl (Nat.le_of_ble_eq_true rfl) dX12_figures_121 ⟨(Nat.le_of_ble_eq_true rfl), (Nat.le_of_ble_eq_true rfl)⟩ (fun fl2_52 H locs hq53 hP hD hS => ?_)
                      replace hq53 : (0 ≤ fl2_52.toInt) := hq53
                      have hP : va_P g.1 vwCl (List.flatten [bMo g o a th hi ac tp ba en x_5 fl2_52 de iD iO tU fm fk fa fc ft ff fb fi]) H := hP
                      have hD : va_D A (List.flatten [bMo g o a th hi ac tp ba en x_5 fl2_52 de iD iO tU fm fk fa fc ft ff fb fi]) := hD
                      refine W.widen (k := 0) (n := 0) (Nat.le_of_ble_eq_true rfl) (Nat.le_of_ble_eq_true rfl) ?_
                      refine W.eq (g2 := F0 m 124 ls []) rfl ?_
                      refine lv_iload hx hb dX12_figures_124 (lv_at hl 4 rfl) ?_
                      have hP : va_P g.1 vwCl (List.flatten [bMo g o a th hi ac tp ba en x_5 fl2_52 de iD iO tU fm fk fa fc ft ff fb fi]) H := hP
                      have hD : va_D A (List.flatten [bMo g o a th hi ac tp ba en x_5 fl2_52 de iD iO tU fm fk fa fc ft ff fb fi]) := hD
                      exact mret_i hx hb hr hlocks hS (Nat.le_of_ble_eq_true rfl) (Nat.le_of_ble_eq_true rfl) dX12_figures_126 (x_5, fl2_52, x_4) rfl (show (tA.toInt ≤ x_5.toInt ∧ x_5.toInt ≤ en.toInt + 7 - de.toInt) ∧ (-1 ≤ fl2_52.toInt) ∧ (fl2_52.toInt = -1 → fl.toInt = -1 ∧ lw.toInt ≤ x_4.toInt ∧ x_4.toInt ≤ hg.toInt) from ⟨(by first | assumption | omega | decide | exact rfl | exact zb01 (by omega)), (by first | assumption | omega | decide | exact rfl | exact zb01 (by omega)), (by first | assumption | omega | decide | exact rfl | exact zb01 (by omega))⟩) hP hD
            · skip
              have c54 : x_35.toInt ≤ 3 := zle (Int32.not_lt.mp cb9) rfl (by decide)
              refine lv_bipush (v := 10) hx hb dX12_figures_57 (by decide) ?_
              refine lv_iload hx hb dX12_figures_59 (lv_at hl 4 rfl) ?_
              refine lv_imul hx hb dX12_figures_61 ?_
              refine zg (fun x_55 => ?_)
              refine lv_aload_n hx hb dX12_figures_62 rfl (lv_at hl 0 rfl) ?_
              refine lv_aload_n hx hb dX12_figures_63 rfl (lv_at hl 0 rfl) ?_
              refine va_get (D := g.1) (ci := 10) (v := .int x_5) (C := RX12) (T := TX12) (N := 20) hx hb hts izRX12 hown hK hP 0 rfl rfl 11 (by decide) (hts _ k877) (fun _ h9 => h9) rfl dX12_figures_64 ?_
              refine mcallV' (g := g) (q0 := 0) (ci := 10) (As := [.int x_5]) (rest := [.int x_55]) St hK hT hA hP hD hS hl.1 [0] [] rfl rfl rfl (m_letter l g o a th hi ac tp ba en x_5 fl de iD iO tU fm fk fa fc ft ff fb fi x_5 (by first | assumption | omega | decide) (by first | assumption | omega | decide)) (cwV 1 hts (zgL (zl4 k879 k880 k881 k837) k874) rfl rfl rfl (by decide +kernel) ⟨Nat.le_of_ble_eq_true rfl, Nat.le_of_ble_eq_true rfl⟩) rfl rfl rfl rfl (Nat.le_of_ble_eq_true rfl) dX12_figures_67 ⟨(Nat.le_of_ble_eq_true rfl), (Nat.le_of_ble_eq_true rfl)⟩ (fun q_56 H locs hq57 hP hD hS => ?_)
              have hP : va_P g.1 vwCl (List.flatten [bMo g o a th hi ac tp ba en x_5 fl de iD iO tU fm fk fa fc ft ff fb fi]) H := hP
              have hD : va_D A (List.flatten [bMo g o a th hi ac tp ba en x_5 fl de iD iO tU fm fk fa fc ft ff fb fi]) := hD
              refine W.widen (k := 0) (n := 0) (Nat.le_of_ble_eq_true rfl) (Nat.le_of_ble_eq_true rfl) ?_
              refine W.eq (g2 := F0 m 70 ls [.int q_56, .int x_55]) rfl ?_
              refine lv_iadd hx hb dX12_figures_70 ?_
              refine zg (fun x_58 => ?_)
              refine lv_bipush (v := 48) hx hb dX12_figures_71 (by decide) ?_
              refine lv_isub hx hb dX12_figures_73 ?_
              refine zg (fun x_59 => ?_)
              refine lv_istore (lv' := [(4, .int x_59), (0, .ref o), (1, .int lw), (2, .int hg), (3, .int at2_2)]) hx hb dX12_figures_74 hl (by decide) rfl (fun ls hl => ?_)
              refine lv_aload_n hx hb dX12_figures_76 rfl (lv_at hl 1 rfl) ?_
              refine lv_dup hx hb dX12_figures_77 rfl ?_
              refine va_get (D := g.1) (ci := 10) (v := .int x_5) (C := RX12) (T := TX12) (N := 20) hx hb hts izRX12 hown hK hP 0 rfl rfl 11 (by decide) (hts _ k877) (fun _ h9 => h9) rfl dX12_figures_78 ?_
              refine lv_iconst (v := 1) hx hb dX12_figures_81 (by decide) ?_
              refine lv_iadd hx hb dX12_figures_82 ?_
              refine zgv (zadd (i := x_5.toInt) (j := 1) rfl (by decide) (by omega)) (fun x_60 hx_60 => ?_)
              refine va_put (D := g.1) (ci := 10) (v := .int x_60) (ty := .int) (C := RX12) (T := TX12) (N := 20) hx hb hts izRX12 tyX12 tyX12_ok nmX12 hown hK hP hD hS 0 rfl rfl 11 (by decide) (hts _ k877) (fun _ h9 => h9) rfl (by decide +kernel) rfl rfl (Nat.le_of_ble_eq_true rfl) dX12_figures_83 (fun H locs hP hD hS => ?_)
              have hP : va_P g.1 vwCl (List.flatten [bMo g o a th hi ac tp ba en x_60 fl de iD iO tU fm fk fa fc ft ff fb fi]) H := hP
              have hD : va_D A (List.flatten [bMo g o a th hi ac tp ba en x_60 fl de iD iO tU fm fk fa fc ft ff fb fi]) := hD
              refine lv_goto (tgt := 18) hx hb dX12_figures_86 (by decide) ?_
              have hl := lv_sub (l' := [(0, .ref o), (1, .int lw), (2, .int hg), (3, .int at2_2), (4, .int x_59)]) hl [1, 2, 3, 4, 0] rfl
              have hP : va_P g.1 vwCl (List.flatten [bMo g o a th hi ac tp ba en x_60 fl de iD iO tU fm fk fa fc ft ff fb fi]) H := hP
              have hD : va_D A (List.flatten [bMo g o a th hi ac tp ba en x_60 fl de iD iO tU fm fk fa fc ft ff fb fi]) := hD
              exact ih18_10 x_59 x_60 (by first | omega | assumption | decide) (by first | omega | assumption | decide) (by first | omega | assumption | decide) H _ ls (by omega)  hP hD hS (lv_sub hl [0, 1, 2, 3, 4] rfl)
          · skip
            refine lv_if_eq (tgt := 89) hx hb dX12_figures_44 (by decide) (fun _ => ?_) (fun c61 => absurd (by decide) c61)
            refine lv_aload_n hx hb dX12_figures_89 rfl (lv_at hl 0 rfl) ?_
            refine va_get (D := g.1) (ci := 10) (v := .int x_5) (C := RX12) (T := TX12) (N := 20) hx hb hts izRX12 hown hK hP 0 rfl rfl 11 (by decide) (hts _ k877) (fun _ h9 => h9) rfl dX12_figures_90 ?_
            refine lv_iload_n hx hb dX12_figures_93 rfl (lv_at hl 3 rfl) ?_
            refine lv_icmp_eq (tgt := 119) hx hb dX12_figures_94 (by decide) (fun cb9 => ?_) (fun cb9 => ?_)
            · skip
              have c62 : x_5.toInt = at2_2.toInt := zeq cb9 rfl rfl
              refine lv_aload_n hx hb dX12_figures_119 rfl (lv_at hl 0 rfl) ?_
              refine lv_iload_n hx hb dX12_figures_120 rfl (lv_at hl 3 rfl) ?_
              refine mcallV' (g := g) (q0 := 0) (ci := 10) (As := [.int at2_2]) (rest := []) St hK hT hA hP hD hS hl.1 [0] [] rfl rfl rfl (m_wrong l g o a th hi ac tp ba en x_5 fl de iD iO tU fm fk fa fc ft ff fb fi at2_2 (by first | assumption | omega | decide) (by first | assumption | omega | decide)) (cwV 1 hts (zgL (zl4 k894 k895 k896 k837) k889) rfl rfl rfl (by decide +kernel) ⟨Nat.le_of_ble_eq_true rfl, Nat.le_of_ble_eq_true rfl⟩) rfl rfl rfl rfl (Nat.le_of_ble_eq_true rfl) dX12_figures_121 ⟨(Nat.le_of_ble_eq_true rfl), (Nat.le_of_ble_eq_true rfl)⟩ (fun fl2_63 H locs hq64 hP hD hS => ?_)
              replace hq64 : (0 ≤ fl2_63.toInt) := hq64
              have hP : va_P g.1 vwCl (List.flatten [bMo g o a th hi ac tp ba en x_5 fl2_63 de iD iO tU fm fk fa fc ft ff fb fi]) H := hP
              have hD : va_D A (List.flatten [bMo g o a th hi ac tp ba en x_5 fl2_63 de iD iO tU fm fk fa fc ft ff fb fi]) := hD
              refine W.widen (k := 0) (n := 0) (Nat.le_of_ble_eq_true rfl) (Nat.le_of_ble_eq_true rfl) ?_
              refine W.eq (g2 := F0 m 124 ls []) rfl ?_
              refine lv_iload hx hb dX12_figures_124 (lv_at hl 4 rfl) ?_
              have hP : va_P g.1 vwCl (List.flatten [bMo g o a th hi ac tp ba en x_5 fl2_63 de iD iO tU fm fk fa fc ft ff fb fi]) H := hP
              have hD : va_D A (List.flatten [bMo g o a th hi ac tp ba en x_5 fl2_63 de iD iO tU fm fk fa fc ft ff fb fi]) := hD
              exact mret_i hx hb hr hlocks hS (Nat.le_of_ble_eq_true rfl) (Nat.le_of_ble_eq_true rfl) dX12_figures_126 (x_5, fl2_63, x_4) rfl (show (tA.toInt ≤ x_5.toInt ∧ x_5.toInt ≤ en.toInt + 7 - de.toInt) ∧ (-1 ≤ fl2_63.toInt) ∧ (fl2_63.toInt = -1 → fl.toInt = -1 ∧ lw.toInt ≤ x_4.toInt ∧ x_4.toInt ≤ hg.toInt) from ⟨(by first | assumption | omega | decide | exact rfl | exact zb01 (by omega)), (by first | assumption | omega | decide | exact rfl | exact zb01 (by omega)), (by first | assumption | omega | decide | exact rfl | exact zb01 (by omega))⟩) hP hD
            · skip
              have c65 : ¬ x_5.toInt = at2_2.toInt := zne cb9 rfl rfl
              refine lv_aload_n hx hb dX12_figures_97 rfl (lv_at hl 0 rfl) ?_
              refine va_get (D := g.1) (ci := 10) (v := .int x_5) (C := RX12) (T := TX12) (N := 20) hx hb hts izRX12 hown hK hP 0 rfl rfl 11 (by decide) (hts _ k877) (fun _ h9 => h9) rfl dX12_figures_98 ?_
              refine lv_iload_n hx hb dX12_figures_101 rfl (lv_at hl 3 rfl) ?_
              refine lv_isub hx hb dX12_figures_102 ?_
              refine zgv (zsub (i := x_5.toInt) (j := at2_2.toInt) rfl rfl (by omega)) (fun x_66 hx_66 => ?_)
              refine lv_iconst (v := 3) hx hb dX12_figures_103 (by decide) ?_
              refine lv_icmp_gt (tgt := 119) hx hb dX12_figures_104 (by decide) (fun cb9 => ?_) (fun cb9 => ?_)
              · skip
                have c67 : 3 < x_66.toInt := zlti cb9 (by decide) rfl
                refine lv_aload_n hx hb dX12_figures_119 rfl (lv_at hl 0 rfl) ?_
                refine lv_iload_n hx hb dX12_figures_120 rfl (lv_at hl 3 rfl) ?_
                refine mcallV' (g := g) (q0 := 0) (ci := 10) (As := [.int at2_2]) (rest := []) St hK hT hA hP hD hS hl.1 [0] [] rfl rfl rfl (m_wrong l g o a th hi ac tp ba en x_5 fl de iD iO tU fm fk fa fc ft ff fb fi at2_2 (by first | assumption | omega | decide) (by first | assumption | omega | decide)) (cwV 1 hts (zgL (zl4 k894 k895 k896 k837) k889) rfl rfl rfl (by decide +kernel) ⟨Nat.le_of_ble_eq_true rfl, Nat.le_of_ble_eq_true rfl⟩) rfl rfl rfl rfl (Nat.le_of_ble_eq_true rfl) dX12_figures_121 ⟨(Nat.le_of_ble_eq_true rfl), (Nat.le_of_ble_eq_true rfl)⟩ (fun fl2_68 H locs hq69 hP hD hS => ?_)
                replace hq69 : (0 ≤ fl2_68.toInt) := hq69
                have hP : va_P g.1 vwCl (List.flatten [bMo g o a th hi ac tp ba en x_5 fl2_68 de iD iO tU fm fk fa fc ft ff fb fi]) H := hP
                have hD : va_D A (List.flatten [bMo g o a th hi ac tp ba en x_5 fl2_68 de iD iO tU fm fk fa fc ft ff fb fi]) := hD
                refine W.widen (k := 0) (n := 0) (Nat.le_of_ble_eq_true rfl) (Nat.le_of_ble_eq_true rfl) ?_
                refine W.eq (g2 := F0 m 124 ls []) rfl ?_
                refine lv_iload hx hb dX12_figures_124 (lv_at hl 4 rfl) ?_
                have hP : va_P g.1 vwCl (List.flatten [bMo g o a th hi ac tp ba en x_5 fl2_68 de iD iO tU fm fk fa fc ft ff fb fi]) H := hP
                have hD : va_D A (List.flatten [bMo g o a th hi ac tp ba en x_5 fl2_68 de iD iO tU fm fk fa fc ft ff fb fi]) := hD
                exact mret_i hx hb hr hlocks hS (Nat.le_of_ble_eq_true rfl) (Nat.le_of_ble_eq_true rfl) dX12_figures_126 (x_5, fl2_68, x_4) rfl (show (tA.toInt ≤ x_5.toInt ∧ x_5.toInt ≤ en.toInt + 7 - de.toInt) ∧ (-1 ≤ fl2_68.toInt) ∧ (fl2_68.toInt = -1 → fl.toInt = -1 ∧ lw.toInt ≤ x_4.toInt ∧ x_4.toInt ≤ hg.toInt) from ⟨(by first | assumption | omega | decide | exact rfl | exact zb01 (by omega)), (by first | assumption | omega | decide | exact rfl | exact zb01 (by omega)), (by first | assumption | omega | decide | exact rfl | exact zb01 (by omega))⟩) hP hD
              · skip
                have c70 : x_66.toInt ≤ 3 := zle (Int32.not_lt.mp cb9) rfl (by decide)
                refine lv_iload hx hb dX12_figures_107 (lv_at hl 4 rfl) ?_
                refine lv_iload_n hx hb dX12_figures_109 rfl (lv_at hl 1 rfl) ?_
                refine lv_icmp_lt (tgt := 119) hx hb dX12_figures_110 (by decide) (fun cb9 => ?_) (fun cb9 => ?_)
                · skip
                  have c71 : x_4.toInt < lw.toInt := zlti cb9 rfl rfl
                  refine lv_aload_n hx hb dX12_figures_119 rfl (lv_at hl 0 rfl) ?_
                  refine lv_iload_n hx hb dX12_figures_120 rfl (lv_at hl 3 rfl) ?_
                  refine mcallV' (g := g) (q0 := 0) (ci := 10) (As := [.int at2_2]) (rest := []) St hK hT hA hP hD hS hl.1 [0] [] rfl rfl rfl (m_wrong l g o a th hi ac tp ba en x_5 fl de iD iO tU fm fk fa fc ft ff fb fi at2_2 (by first | assumption | omega | decide) (by first | assumption | omega | decide)) (cwV 1 hts (zgL (zl4 k894 k895 k896 k837) k889) rfl rfl rfl (by decide +kernel) ⟨Nat.le_of_ble_eq_true rfl, Nat.le_of_ble_eq_true rfl⟩) rfl rfl rfl rfl (Nat.le_of_ble_eq_true rfl) dX12_figures_121 ⟨(Nat.le_of_ble_eq_true rfl), (Nat.le_of_ble_eq_true rfl)⟩ (fun fl2_72 H locs hq73 hP hD hS => ?_)
                  replace hq73 : (0 ≤ fl2_72.toInt) := hq73
                  have hP : va_P g.1 vwCl (List.flatten [bMo g o a th hi ac tp ba en x_5 fl2_72 de iD iO tU fm fk fa fc ft ff fb fi]) H := hP
                  have hD : va_D A (List.flatten [bMo g o a th hi ac tp ba en x_5 fl2_72 de iD iO tU fm fk fa fc ft ff fb fi]) := hD
                  refine W.widen (k := 0) (n := 0) (Nat.le_of_ble_eq_true rfl) (Nat.le_of_ble_eq_true rfl) ?_
                  refine W.eq (g2 := F0 m 124 ls []) rfl ?_
                  refine lv_iload hx hb dX12_figures_124 (lv_at hl 4 rfl) ?_
                  have hP : va_P g.1 vwCl (List.flatten [bMo g o a th hi ac tp ba en x_5 fl2_72 de iD iO tU fm fk fa fc ft ff fb fi]) H := hP
                  have hD : va_D A (List.flatten [bMo g o a th hi ac tp ba en x_5 fl2_72 de iD iO tU fm fk fa fc ft ff fb fi]) := hD
                  exact mret_i hx hb hr hlocks hS (Nat.le_of_ble_eq_true rfl) (Nat.le_of_ble_eq_true rfl) dX12_figures_126 (x_5, fl2_72, x_4) rfl (show (tA.toInt ≤ x_5.toInt ∧ x_5.toInt ≤ en.toInt + 7 - de.toInt) ∧ (-1 ≤ fl2_72.toInt) ∧ (fl2_72.toInt = -1 → fl.toInt = -1 ∧ lw.toInt ≤ x_4.toInt ∧ x_4.toInt ≤ hg.toInt) from ⟨(by first | assumption | omega | decide | exact rfl | exact zb01 (by omega)), (by first | assumption | omega | decide | exact rfl | exact zb01 (by omega)), (by first | assumption | omega | decide | exact rfl | exact zb01 (by omega))⟩) hP hD
                · skip
                  have c74 : lw.toInt ≤ x_4.toInt := zle (Int32.not_lt.mp cb9) rfl rfl
                  refine lv_iload hx hb dX12_figures_113 (lv_at hl 4 rfl) ?_
                  refine lv_iload_n hx hb dX12_figures_115 rfl (lv_at hl 2 rfl) ?_
                  refine lv_icmp_le (tgt := 124) hx hb dX12_figures_116 (by decide) (fun cb9 => ?_) (fun cb9 => ?_)
                  · skip
                    have c75 : x_4.toInt ≤ hg.toInt := zle cb9 rfl rfl
                    refine lv_iload hx hb dX12_figures_124 (lv_at hl 4 rfl) ?_
                    have hP : va_P g.1 vwCl (List.flatten [bMo g o a th hi ac tp ba en x_5 fl de iD iO tU fm fk fa fc ft ff fb fi]) H := hP
                    have hD : va_D A (List.flatten [bMo g o a th hi ac tp ba en x_5 fl de iD iO tU fm fk fa fc ft ff fb fi]) := hD
                    exact mret_i hx hb hr hlocks hS (Nat.le_of_ble_eq_true rfl) (Nat.le_of_ble_eq_true rfl) dX12_figures_126 (x_5, fl, x_4) rfl (show (tA.toInt ≤ x_5.toInt ∧ x_5.toInt ≤ en.toInt + 7 - de.toInt) ∧ (-1 ≤ fl.toInt) ∧ (fl.toInt = -1 → fl.toInt = -1 ∧ lw.toInt ≤ x_4.toInt ∧ x_4.toInt ≤ hg.toInt) from ⟨(by first | assumption | omega | decide | exact rfl | exact zb01 (by omega)), (by first | assumption | omega | decide | exact rfl | exact zb01 (by omega)), (by first | assumption | omega | decide | exact rfl | exact zb01 (by omega))⟩) hP hD
                  · skip
                    have c76 : hg.toInt < x_4.toInt := zlti (Int32.not_le.mp cb9) rfl rfl
                    refine lv_aload_n hx hb dX12_figures_119 rfl (lv_at hl 0 rfl) ?_
                    refine lv_iload_n hx hb dX12_figures_120 rfl (lv_at hl 3 rfl) ?_
                    refine mcallV' (g := g) (q0 := 0) (ci := 10) (As := [.int at2_2]) (rest := []) St hK hT hA hP hD hS hl.1 [0] [] rfl rfl rfl (m_wrong l g o a th hi ac tp ba en x_5 fl de iD iO tU fm fk fa fc ft ff fb fi at2_2 (by first | assumption | omega | decide) (by first | assumption | omega | decide)) (cwV 1 hts (zgL (zl4 k894 k895 k896 k837) k889) rfl rfl rfl (by decide +kernel) ⟨Nat.le_of_ble_eq_true rfl, Nat.le_of_ble_eq_true rfl⟩) rfl rfl rfl rfl (Nat.le_of_ble_eq_true rfl) dX12_figures_121 ⟨(Nat.le_of_ble_eq_true rfl), (Nat.le_of_ble_eq_true rfl)⟩ (fun fl2_77 H locs hq78 hP hD hS => ?_)
                    replace hq78 : (0 ≤ fl2_77.toInt) := hq78
                    have hP : va_P g.1 vwCl (List.flatten [bMo g o a th hi ac tp ba en x_5 fl2_77 de iD iO tU fm fk fa fc ft ff fb fi]) H := hP
                    have hD : va_D A (List.flatten [bMo g o a th hi ac tp ba en x_5 fl2_77 de iD iO tU fm fk fa fc ft ff fb fi]) := hD
                    refine W.widen (k := 0) (n := 0) (Nat.le_of_ble_eq_true rfl) (Nat.le_of_ble_eq_true rfl) ?_
                    refine W.eq (g2 := F0 m 124 ls []) rfl ?_
                    refine lv_iload hx hb dX12_figures_124 (lv_at hl 4 rfl) ?_
                    have hP : va_P g.1 vwCl (List.flatten [bMo g o a th hi ac tp ba en x_5 fl2_77 de iD iO tU fm fk fa fc ft ff fb fi]) H := hP
                    have hD : va_D A (List.flatten [bMo g o a th hi ac tp ba en x_5 fl2_77 de iD iO tU fm fk fa fc ft ff fb fi]) := hD
                    exact mret_i hx hb hr hlocks hS (Nat.le_of_ble_eq_true rfl) (Nat.le_of_ble_eq_true rfl) dX12_figures_126 (x_5, fl2_77, x_4) rfl (show (tA.toInt ≤ x_5.toInt ∧ x_5.toInt ≤ en.toInt + 7 - de.toInt) ∧ (-1 ≤ fl2_77.toInt) ∧ (fl2_77.toInt = -1 → fl.toInt = -1 ∧ lw.toInt ≤ x_4.toInt ∧ x_4.toInt ≤ hg.toInt) from ⟨(by first | assumption | omega | decide | exact rfl | exact zb01 (by omega)), (by first | assumption | omega | decide | exact rfl | exact zb01 (by omega)), (by first | assumption | omega | decide | exact rfl | exact zb01 (by omega))⟩) hP hD
    have hP : va_P g.1 vwCl (List.flatten [bMo g o a th hi ac tp ba en at2_2 fl de iD iO tU fm fk fa fc ft ff fb fi]) H := hP
    have hD : va_D A (List.flatten [bMo g o a th hi ac tp ba en at2_2 fl de iD iO tU fm fk fa fc ft ff fb fi]) := hD
    exact LP18_9 _ 0 at2_2 (by first | omega | assumption | decide) (by first | omega | assumption | decide) (by first | omega | assumption | decide) H _ ls (Nat.lt_succ_self _)  hP hD hS (lv_sub hl [0, 1, 2, 3, 4] rfl)
  · skip
    have c79 : ¬ fl.toInt = (-1) := zne cb9 rfl (by decide)
    refine lv_iconst (v := 0) hx hb dX12_figures_8 (by decide) ?_
    have hP : va_P g.1 vwCl (List.flatten [bMo g o a th hi ac tp ba en tA fl de iD iO tU fm fk fa fc ft ff fb fi]) s.heap := hP
    have hD : va_D A (List.flatten [bMo g o a th hi ac tp ba en tA fl de iD iO tU fm fk fa fc ft ff fb fi]) := hD
    exact mret_i hx hb hr hlocks hS (Nat.le_of_ble_eq_true rfl) (Nat.le_of_ble_eq_true rfl) dX12_figures_9 (tA, fl, (0 : Int32)) rfl (show (tA.toInt ≤ tA.toInt ∧ tA.toInt ≤ en.toInt + 7 - de.toInt) ∧ (-1 ≤ fl.toInt) ∧ (fl.toInt = -1 → fl.toInt = -1 ∧ lw.toInt ≤ (0 : Int32).toInt ∧ (0 : Int32).toInt ≤ hg.toInt) from ⟨(by first | assumption | omega | decide | exact rfl | exact zb01 (by omega)), (by first | assumption | omega | decide | exact rfl | exact zb01 (by omega)), (by first | assumption | omega | decide | exact rfl | exact zb01 (by omega))⟩) hP hD
set_option maxRecDepth 100000 in
set_option maxHeartbeats 4000000 in
theorem m_after (l : Launch) (g : zG) (o : Nat) (a : Nat → Nat) (th : Int32) (hi : Int32) (ac : Int32) (tp : Int32) (ba : Int32) (en : Int32) (tA : Int32) (fl : Int32) (de : Int32) (iD : Int32) (iO : Int32) (tU : Int32) (fm : Nat → Int32) (fk : Nat → Int32) (fa : Nat → Int32) (fc : Nat → Int32) (ft : Nat → Int32) (ff : Nat → Int32) (fb : Nat → Int32) (fi : Nat → Int32) (lw : Int32) (hg : Int32) (k : Nat) (j : Nat) (q : String × Nat × String × List Int32) (hba : ba.toInt = -1 ∨ ba.toInt = 379) (hen : 0 ≤ en.toInt ∧ en.toInt ≤ 400) (htA : 0 ≤ tA.toInt ∧ tA.toInt ≤ en.toInt + 7 - de.toInt) (hfl : -1 ≤ fl.toInt) (hde : 0 ≤ de.toInt ∧ de.toInt ≤ 6) (hk9 : k = g.2 (10 + 2 * j)) (hj9 : zLit[j]? = some q) (hql : 1 ≤ q.2.2.2.length ∧ q.2.2.2.length ≤ 7) : zM' g l yX12_after (Cond.code yX12_after cX12_after 4 (some .int) :: zB) ({ frames := 5, cells := 0, slots := 0, locals := 108 } : Room) [.ref o, .ref k, .int lw, .int hg] [bMo g o a th hi ac tp ba en tA fl de iD iO tU fm fk fa fc ft ff fb fi] (fun u : Int32 × Int32 × Int32 => (fun (at2 : Int32) (fl2 : Int32) (r : Int32) => some (.int r)) (u.1) (u.2.1) (u.2.2)) (fun u : Int32 × Int32 × Int32 => (fun (at2 : Int32) (fl2 : Int32) (r : Int32) => (tA.toInt ≤ at2.toInt ∧ at2.toInt ≤ en.toInt + 7 - de.toInt) ∧ (-1 ≤ fl2.toInt) ∧ (fl2.toInt = -1 → fl.toInt = -1 ∧ lw.toInt ≤ r.toInt ∧ r.toInt ≤ hg.toInt)) (u.1) (u.2.1) (u.2.2)) (fun u : Int32 × Int32 × Int32 => (fun (at2 : Int32) (fl2 : Int32) (r : Int32) => [bMo g o a th hi ac tp ba en at2 fl2 de iD iO tU fm fk fa fc ft ff fb fi]) (u.1) (u.2.1) (u.2.2)) := by
  refine zM'.of (cc := cX12_after) (maxL := 4) (rt := (some .int)) (by decide) rfl (Nat.le_of_ble_eq_true rfl) ?_
  intro p e s m args below meth c A ls St hr hlocks hin hK hT hA hP hD hS hl
  obtain ⟨hx, hb, hml, hown, hts⟩ := id St
  have hl : lv_has ls 4 [(0, .ref o), (1, .ref k), (2, .int lw), (3, .int hg)] := hl
  refine lv_aload_n hx hb dX12_after_0 rfl (lv_at hl 0 rfl) ?_
  refine va_get (D := g.1) (ci := 10) (v := .int fl) (C := RX12) (T := TX12) (N := 20) hx hb hts izRX12 hown hK hP 0 rfl rfl 12 (by decide) (hts _ k820) (fun _ h9 => h9) rfl dX12_after_1 ?_
  refine lv_iconst (v := (-1)) hx hb dX12_after_4 (by decide) ?_
  refine lv_icmp_ne (tgt := 24) hx hb dX12_after_5 (by decide) (fun cb9 => ?_) (fun cb9 => ?_)
  · skip
    have c1 : ¬ fl.toInt = (-1) := zne cb9 rfl (by decide)
    refine lv_aload_n hx hb dX12_after_24 rfl (lv_at hl 0 rfl) ?_
    refine lv_iload_n hx hb dX12_after_25 rfl (lv_at hl 2 rfl) ?_
    refine lv_iload_n hx hb dX12_after_26 rfl (lv_at hl 3 rfl) ?_
    refine mcallV' (g := g) (q0 := 0) (ci := 10) (As := [.int lw, .int hg]) (rest := []) St hK hT hA hP hD hS hl.1 [0] [] rfl rfl rfl (m_figures l g o a th hi ac tp ba en tA fl de iD iO tU fm fk fa fc ft ff fb fi lw hg (by first | assumption | omega | decide) (by first | assumption | omega | decide) (by first | assumption | omega | decide) (by first | assumption | omega | decide) (by first | assumption | omega | decide)) (cwV 2 hts (zgL (zl4 k901 k902 k903 k837) k897) rfl rfl rfl (by decide +kernel) ⟨Nat.le_of_ble_eq_true rfl, Nat.le_of_ble_eq_true rfl⟩) rfl rfl rfl rfl (Nat.le_of_ble_eq_true rfl) dX12_after_27 ⟨(Nat.le_of_ble_eq_true rfl), (Nat.le_of_ble_eq_true rfl)⟩ (fun u_ H locs hq5 hP hD hS => ?_)
    obtain ⟨at2_2, fl2_3, r_4⟩ := u_
    replace hq5 : (tA.toInt ≤ at2_2.toInt ∧ at2_2.toInt ≤ en.toInt + 7 - de.toInt) ∧ (-1 ≤ fl2_3.toInt) ∧ (fl2_3.toInt = -1 → fl.toInt = -1 ∧ lw.toInt ≤ r_4.toInt ∧ r_4.toInt ≤ hg.toInt) := hq5
    have hP : va_P g.1 vwCl (List.flatten [bMo g o a th hi ac tp ba en at2_2 fl2_3 de iD iO tU fm fk fa fc ft ff fb fi]) H := hP
    have hD : va_D A (List.flatten [bMo g o a th hi ac tp ba en at2_2 fl2_3 de iD iO tU fm fk fa fc ft ff fb fi]) := hD
    refine W.widen (k := 0) (n := 0) (Nat.le_of_ble_eq_true rfl) (Nat.le_of_ble_eq_true rfl) ?_
    refine W.eq (g2 := F0 m 30 ls [.int r_4]) rfl ?_
    obtain ⟨hq5_0, hq5_1, hq5_2⟩ := hq5
    have hP : va_P g.1 vwCl (List.flatten [bMo g o a th hi ac tp ba en at2_2 fl2_3 de iD iO tU fm fk fa fc ft ff fb fi]) H := hP
    have hD : va_D A (List.flatten [bMo g o a th hi ac tp ba en at2_2 fl2_3 de iD iO tU fm fk fa fc ft ff fb fi]) := hD
    exact mret_i hx hb hr hlocks hS (Nat.le_of_ble_eq_true rfl) (Nat.le_of_ble_eq_true rfl) dX12_after_30 (at2_2, fl2_3, r_4) rfl (show (tA.toInt ≤ at2_2.toInt ∧ at2_2.toInt ≤ en.toInt + 7 - de.toInt) ∧ (-1 ≤ fl2_3.toInt) ∧ (fl2_3.toInt = -1 → fl.toInt = -1 ∧ lw.toInt ≤ r_4.toInt ∧ r_4.toInt ≤ hg.toInt) from ⟨(by first | assumption | omega | decide | exact rfl | exact zb01 (by omega)), (by first | assumption | omega | decide | exact rfl | exact zb01 (by omega)), (by first | assumption | omega | decide | exact rfl | exact zb01 (by omega))⟩) hP hD
  · skip
    have c6 : fl.toInt = (-1) := zeq cb9 rfl (by decide)
    refine lv_aload_n hx hb dX12_after_8 rfl (lv_at hl 0 rfl) ?_
    refine lv_aload_n hx hb dX12_after_9 rfl (lv_at hl 1 rfl) ?_
    refine mcallV' (g := g) (q0 := 0) (ci := 10) (As := [.ref k]) (rest := []) St hK hT hA hP hD hS hl.1 [0] [] rfl rfl rfl (m_has l g o a th hi ac tp ba en tA fl de iD iO tU fm fk fa fc ft ff fb fi k j q (by first | assumption | omega | decide) (by first | assumption | omega | decide) (by first | assumption | omega | decide) (by first | assumption | omega | decide) (by first | assumption | omega | decide) (by first | assumption | omega | decide) (by first | assumption | omega | decide) (by first | assumption | omega | decide)) (cwV 1 hts (zgL (zl4 k898 k899 k900 k837) k888) rfl rfl rfl (by decide +kernel) ⟨Nat.le_of_ble_eq_true rfl, Nat.le_of_ble_eq_true rfl⟩) rfl rfl rfl rfl (Nat.le_of_ble_eq_true rfl) dX12_after_10 ⟨(Nat.le_of_ble_eq_true rfl), (Nat.le_of_ble_eq_true rfl)⟩ (fun u_ H locs hq9 hP hD hS => ?_)
    obtain ⟨at2_7, r_8⟩ := u_
    replace hq9 : (tA.toInt ≤ at2_7.toInt ∧ at2_7.toInt ≤ en.toInt + 7 - de.toInt) ∧ (r_8 = 1 ∧ tA.toInt < at2_7.toInt ∧ at2_7.toInt ≤ en.toInt ∨ r_8 = 0) := hq9
    have hP : va_P g.1 vwCl (List.flatten [bMo g o a th hi ac tp ba en at2_7 fl de iD iO tU fm fk fa fc ft ff fb fi]) H := hP
    have hD : va_D A (List.flatten [bMo g o a th hi ac tp ba en at2_7 fl de iD iO tU fm fk fa fc ft ff fb fi]) := hD
    refine W.widen (k := 0) (n := 0) (Nat.le_of_ble_eq_true rfl) (Nat.le_of_ble_eq_true rfl) ?_
    refine W.eq (g2 := F0 m 13 ls [.int r_8]) rfl ?_
    obtain ⟨hq9_0, hq9_1⟩ := hq9
    rcases hq9_1 with ⟨rfl, hq9_k⟩ | rfl
    · skip
      refine lv_if_ne (tgt := 24) hx hb dX12_after_13 (by decide) (fun _ => ?_) (fun c10 => absurd c10 (by decide))
      refine lv_aload_n hx hb dX12_after_24 rfl (lv_at hl 0 rfl) ?_
      refine lv_iload_n hx hb dX12_after_25 rfl (lv_at hl 2 rfl) ?_
      refine lv_iload_n hx hb dX12_after_26 rfl (lv_at hl 3 rfl) ?_
      refine mcallV' (g := g) (q0 := 0) (ci := 10) (As := [.int lw, .int hg]) (rest := []) St hK hT hA hP hD hS hl.1 [0] [] rfl rfl rfl (m_figures l g o a th hi ac tp ba en at2_7 fl de iD iO tU fm fk fa fc ft ff fb fi lw hg (by first | assumption | omega | decide) (by first | assumption | omega | decide) (by first | assumption | omega | decide) (by first | assumption | omega | decide) (by first | assumption | omega | decide)) (cwV 2 hts (zgL (zl4 k901 k902 k903 k837) k897) rfl rfl rfl (by decide +kernel) ⟨Nat.le_of_ble_eq_true rfl, Nat.le_of_ble_eq_true rfl⟩) rfl rfl rfl rfl (Nat.le_of_ble_eq_true rfl) dX12_after_27 ⟨(Nat.le_of_ble_eq_true rfl), (Nat.le_of_ble_eq_true rfl)⟩ (fun u_ H locs hq14 hP hD hS => ?_)
      obtain ⟨at2_11, fl2_12, r_13⟩ := u_
      replace hq14 : (at2_7.toInt ≤ at2_11.toInt ∧ at2_11.toInt ≤ en.toInt + 7 - de.toInt) ∧ (-1 ≤ fl2_12.toInt) ∧ (fl2_12.toInt = -1 → fl.toInt = -1 ∧ lw.toInt ≤ r_13.toInt ∧ r_13.toInt ≤ hg.toInt) := hq14
      have hP : va_P g.1 vwCl (List.flatten [bMo g o a th hi ac tp ba en at2_11 fl2_12 de iD iO tU fm fk fa fc ft ff fb fi]) H := hP
      have hD : va_D A (List.flatten [bMo g o a th hi ac tp ba en at2_11 fl2_12 de iD iO tU fm fk fa fc ft ff fb fi]) := hD
      refine W.widen (k := 0) (n := 0) (Nat.le_of_ble_eq_true rfl) (Nat.le_of_ble_eq_true rfl) ?_
      refine W.eq (g2 := F0 m 30 ls [.int r_13]) rfl ?_
      obtain ⟨hq14_0, hq14_1, hq14_2⟩ := hq14
      have hP : va_P g.1 vwCl (List.flatten [bMo g o a th hi ac tp ba en at2_11 fl2_12 de iD iO tU fm fk fa fc ft ff fb fi]) H := hP
      have hD : va_D A (List.flatten [bMo g o a th hi ac tp ba en at2_11 fl2_12 de iD iO tU fm fk fa fc ft ff fb fi]) := hD
      exact mret_i hx hb hr hlocks hS (Nat.le_of_ble_eq_true rfl) (Nat.le_of_ble_eq_true rfl) dX12_after_30 (at2_11, fl2_12, r_13) rfl (show (tA.toInt ≤ at2_11.toInt ∧ at2_11.toInt ≤ en.toInt + 7 - de.toInt) ∧ (-1 ≤ fl2_12.toInt) ∧ (fl2_12.toInt = -1 → fl.toInt = -1 ∧ lw.toInt ≤ r_13.toInt ∧ r_13.toInt ≤ hg.toInt) from ⟨(by first | assumption | omega | decide | exact rfl | exact zb01 (by omega)), (by first | assumption | omega | decide | exact rfl | exact zb01 (by omega)), (by first | assumption | omega | decide | exact rfl | exact zb01 (by omega))⟩) hP hD
    · skip
      refine lv_if_ne (tgt := 24) hx hb dX12_after_13 (by decide) (fun c15 => absurd (by decide) c15) (fun _ => ?_)
      refine lv_aload_n hx hb dX12_after_16 rfl (lv_at hl 0 rfl) ?_
      refine lv_aload_n hx hb dX12_after_17 rfl (lv_at hl 0 rfl) ?_
      refine va_get (D := g.1) (ci := 10) (v := .int at2_7) (C := RX12) (T := TX12) (N := 20) hx hb hts izRX12 hown hK hP 0 rfl rfl 11 (by decide) (hts _ k877) (fun _ h9 => h9) rfl dX12_after_18 ?_
      refine mcallV' (g := g) (q0 := 0) (ci := 10) (As := [.int at2_7]) (rest := []) St hK hT hA hP hD hS hl.1 [0] [] rfl rfl rfl (m_wrong l g o a th hi ac tp ba en at2_7 fl de iD iO tU fm fk fa fc ft ff fb fi at2_7 (by first | assumption | omega | decide) (by first | assumption | omega | decide)) (cwV 1 hts (zgL (zl4 k894 k895 k896 k837) k889) rfl rfl rfl (by decide +kernel) ⟨Nat.le_of_ble_eq_true rfl, Nat.le_of_ble_eq_true rfl⟩) rfl rfl rfl rfl (Nat.le_of_ble_eq_true rfl) dX12_after_21 ⟨(Nat.le_of_ble_eq_true rfl), (Nat.le_of_ble_eq_true rfl)⟩ (fun fl2_16 H locs hq17 hP hD hS => ?_)
      replace hq17 : (0 ≤ fl2_16.toInt) := hq17
      have hP : va_P g.1 vwCl (List.flatten [bMo g o a th hi ac tp ba en at2_7 fl2_16 de iD iO tU fm fk fa fc ft ff fb fi]) H := hP
      have hD : va_D A (List.flatten [bMo g o a th hi ac tp ba en at2_7 fl2_16 de iD iO tU fm fk fa fc ft ff fb fi]) := hD
      refine W.widen (k := 0) (n := 0) (Nat.le_of_ble_eq_true rfl) (Nat.le_of_ble_eq_true rfl) ?_
      refine W.eq (g2 := F0 m 24 ls []) rfl ?_
      refine lv_aload_n hx hb dX12_after_24 rfl (lv_at hl 0 rfl) ?_
      refine lv_iload_n hx hb dX12_after_25 rfl (lv_at hl 2 rfl) ?_
      refine lv_iload_n hx hb dX12_after_26 rfl (lv_at hl 3 rfl) ?_
      refine mcallV' (g := g) (q0 := 0) (ci := 10) (As := [.int lw, .int hg]) (rest := []) St hK hT hA hP hD hS hl.1 [0] [] rfl rfl rfl (m_figures l g o a th hi ac tp ba en at2_7 fl2_16 de iD iO tU fm fk fa fc ft ff fb fi lw hg (by first | assumption | omega | decide) (by first | assumption | omega | decide) (by first | assumption | omega | decide) (by first | assumption | omega | decide) (by first | assumption | omega | decide)) (cwV 2 hts (zgL (zl4 k901 k902 k903 k837) k897) rfl rfl rfl (by decide +kernel) ⟨Nat.le_of_ble_eq_true rfl, Nat.le_of_ble_eq_true rfl⟩) rfl rfl rfl rfl (Nat.le_of_ble_eq_true rfl) dX12_after_27 ⟨(Nat.le_of_ble_eq_true rfl), (Nat.le_of_ble_eq_true rfl)⟩ (fun u_ H locs hq21 hP hD hS => ?_)
      obtain ⟨at2_18, fl2_19, r_20⟩ := u_
      replace hq21 : (at2_7.toInt ≤ at2_18.toInt ∧ at2_18.toInt ≤ en.toInt + 7 - de.toInt) ∧ (-1 ≤ fl2_19.toInt) ∧ (fl2_19.toInt = -1 → fl2_16.toInt = -1 ∧ lw.toInt ≤ r_20.toInt ∧ r_20.toInt ≤ hg.toInt) := hq21
      have hP : va_P g.1 vwCl (List.flatten [bMo g o a th hi ac tp ba en at2_18 fl2_19 de iD iO tU fm fk fa fc ft ff fb fi]) H := hP
      have hD : va_D A (List.flatten [bMo g o a th hi ac tp ba en at2_18 fl2_19 de iD iO tU fm fk fa fc ft ff fb fi]) := hD
      refine W.widen (k := 0) (n := 0) (Nat.le_of_ble_eq_true rfl) (Nat.le_of_ble_eq_true rfl) ?_
      refine W.eq (g2 := F0 m 30 ls [.int r_20]) rfl ?_
      obtain ⟨hq21_0, hq21_1, hq21_2⟩ := hq21
      have hP : va_P g.1 vwCl (List.flatten [bMo g o a th hi ac tp ba en at2_18 fl2_19 de iD iO tU fm fk fa fc ft ff fb fi]) H := hP
      have hD : va_D A (List.flatten [bMo g o a th hi ac tp ba en at2_18 fl2_19 de iD iO tU fm fk fa fc ft ff fb fi]) := hD
      exact mret_i hx hb hr hlocks hS (Nat.le_of_ble_eq_true rfl) (Nat.le_of_ble_eq_true rfl) dX12_after_30 (at2_18, fl2_19, r_20) rfl (show (tA.toInt ≤ at2_18.toInt ∧ at2_18.toInt ≤ en.toInt + 7 - de.toInt) ∧ (-1 ≤ fl2_19.toInt) ∧ (fl2_19.toInt = -1 → fl.toInt = -1 ∧ lw.toInt ≤ r_20.toInt ∧ r_20.toInt ≤ hg.toInt) from ⟨(by first | assumption | omega | decide | exact rfl | exact zb01 (by omega)), (by first | assumption | omega | decide | exact rfl | exact zb01 (by omega)), (by first | assumption | omega | decide | exact rfl | exact zb01 (by omega))⟩) hP hD
