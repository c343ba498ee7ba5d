set_option maxRecDepth 100000 in
set_option maxHeartbeats 4000000 in
theorem m_skip (l : Launch) (g : zG) (o : Nat) (a : Nat → Nat) (th : Int32) (hi : Int32) (ac : Int32) (tp : Int32) (ba : Int32) (en : Int32) (tA : Int32) (fl : Int32) (de : Int32) (iD : Int32) (iO : Int32) (tU : Int32) (fm : Nat → Int32) (fk : Nat → Int32) (fa : Nat → Int32) (fc : Nat → Int32) (ft : Nat → Int32) (ff : Nat → Int32) (fb : Nat → Int32) (fi : Nat → Int32) (hba : zBa ba.toInt) (hen : 0 ≤ en.toInt ∧ en.toInt ≤ 400) (htA : 0 ≤ tA.toInt ∧ tA.toInt ≤ en.toInt + 7 - de.toInt) (hfl : -1 ≤ fl.toInt) (hde : 0 ≤ de.toInt ∧ de.toInt ≤ 6) : zM' g l yX12_skip (Cond.code yX12_skip cX12_skip 1 none :: zB) ({ frames := 1, cells := 0, slots := 0, locals := 21 } : Room) [.ref o] [bMo g o a th hi ac tp ba en tA fl de iD iO tU fm fk fa fc ft ff fb fi] (fun (at2 : Int32) => none) (fun (at2 : Int32) => (0 ≤ at2.toInt ∧ at2.toInt ≤ en.toInt + 7 - de.toInt) ∧ (tA.toInt ≤ at2.toInt)) (fun (at2 : Int32) => [bMo g o a th hi ac tp ba en at2 fl de iD iO tU fm fk fa fc ft ff fb fi]) := by
  refine zM'.of (cc := cX12_skip) (maxL := 1) (rt := none) (by decide) rfl (Nat.le_of_ble_eq_true rfl) ?_
  intro p e s m args below meth c A ls St hr hlocks hin hK hT hA hP hD hS hl
  obtain ⟨hx, hb, hml, hown, hts⟩ := id St
  have hl : lv_has ls 1 [(0, .ref o)] := hl
  have LP0_5 : ∀ (kf : Nat) (x_1 : Int32), (0 ≤ x_1.toInt ∧ x_1.toInt ≤ 407) → (tA.toInt ≤ x_1.toInt) → (x_1.toInt ≤ en.toInt + 7 - de.toInt) → ∀ (H : Heap) (locs : List Loc) (ls : Array Slot), ((en.toInt - x_1.toInt).toNat) < kf → va_P g.1 vwCl (List.flatten [bMo g o a th hi ac tp ba en x_1 fl de iD iO tU fm fk fa fc ft ff fb fi]) H → va_D A (List.flatten [bMo g o a th hi ac tp ba en x_1 fl de iD iO tU fm fk fa fc ft ff fb fi]) → va_S A s.heap H locs → lv_has ls 1 [(0, .ref o)] → W p l e ({ frames := 1, cells := 0, slots := 0, locals := 21 } : Room) s m args below meth c H locs (0) (0) (zF g (fun (at2 : Int32) => none) (fun (at2 : Int32) => (0 ≤ at2.toInt ∧ at2.toInt ≤ en.toInt + 7 - de.toInt) ∧ (tA.toInt ≤ at2.toInt)) (fun (at2 : Int32) => [bMo g o a th hi ac tp ba en at2 fl de iD iO tU fm fk fa fc ft ff fb fi]) ({ frames := 1, cells := 0, slots := 0, locals := 21 } : Room) below args s A) (F0 m 0 ls []) := by
    intro kf
    induction kf with
    | zero => intro x_1 i2 i3 i4 H locs ls hk; exact absurd hk (Nat.not_lt_zero _)
    | succ kf ih0_6 =>
      intro x_1 i2 i3 i4 H locs ls hk0_6 hP hD hS hl
      refine lv_aload_n hx hb dX12_skip_0 rfl (lv_at hl 0 rfl) ?_
      refine va_get (D := g.1) (ci := 10) (v := .int x_1) (C := RX12) (T := TX12) (N := 20) hx hb hts izRX12 hown hK hP 0 rfl rfl 11 (by decide) (hts _ k877) (fun _ h9 => h9) rfl dX12_skip_1 ?_
      refine lv_aload_n hx hb dX12_skip_4 rfl (lv_at hl 0 rfl) ?_
      refine va_get (D := g.1) (ci := 10) (v := .int en) (C := RX12) (T := TX12) (N := 20) hx hb hts izRX12 hown hK hP 0 rfl rfl 10 (by decide) (hts _ k878) (fun _ h9 => h9) rfl dX12_skip_5 ?_
      refine lv_icmp_ge (tgt := 37) hx hb dX12_skip_8 (by decide) (fun cb9 => ?_) (fun cb9 => ?_)
      · skip
        have c7 : en.toInt ≤ x_1.toInt := zle cb9 rfl rfl
        have hP : va_P g.1 vwCl (List.flatten [bMo g o a th hi ac tp ba en x_1 fl de iD iO tU fm fk fa fc ft ff fb fi]) H := hP
        have hD : va_D A (List.flatten [bMo g o a th hi ac tp ba en x_1 fl de iD iO tU fm fk fa fc ft ff fb fi]) := hD
        exact mret_v hx hb hr hlocks hS (Nat.le_of_ble_eq_true rfl) (Nat.le_of_ble_eq_true rfl) dX12_skip_37 (x_1) rfl (show (0 ≤ x_1.toInt ∧ x_1.toInt ≤ en.toInt + 7 - de.toInt) ∧ (tA.toInt ≤ x_1.toInt) from ⟨(by first | assumption | omega | decide | exact rfl | exact zb01 (by omega) | exact Or.inl (by decide) | exact Or.inr (by first | omega | decide)), (by first | assumption | omega | decide | exact rfl | exact zb01 (by omega) | exact Or.inl (by decide) | exact Or.inr (by first | omega | decide))⟩) hP hD
      · skip
        have c8 : x_1.toInt < en.toInt := zlti (Int32.not_le.mp cb9) rfl rfl
        have n9 : x_1.toInt ≤ 399 := zL1 (b := 400) c8 hen.2 (by decide)
        have n10 : 1 ≤ en.toInt := zL2 (a := 0) c8 i2.1 (by decide)
        refine lv_aload_n hx hb dX12_skip_11 rfl (lv_at hl 0 rfl) ?_
        refine lv_aload_n hx hb dX12_skip_12 rfl (lv_at hl 0 rfl) ?_
        refine va_get (D := g.1) (ci := 10) (v := .int x_1) (C := RX12) (T := TX12) (N := 20) hx hb hts izRX12 hown hK hP 0 rfl rfl 11 (by decide) (hts _ k877) (fun _ h9 => h9) rfl dX12_skip_13 ?_
        refine mcallV' (g := g) (q0 := 0) (ci := 10) (As := [.int x_1]) (rest := []) St hK hT hA hP hD hS hl.1 [0] [] rfl rfl rfl (m_letter l g o a th hi ac tp ba en x_1 fl de iD iO tU fm fk fa fc ft ff fb fi x_1 (⟨i2.1, n9⟩) (by first | assumption | omega | decide | exact Or.inl (by decide) | exact Or.inr (by decide))) (cwV 1 hts (zgL (zl4 k879 k880 k881 k837) k874) rfl rfl rfl (by decide +kernel) ⟨Nat.le_of_ble_eq_true rfl, Nat.le_of_ble_eq_true rfl⟩) rfl rfl rfl rfl (Nat.le_of_ble_eq_true rfl) dX12_skip_16 ⟨(Nat.le_of_ble_eq_true rfl), (Nat.le_of_ble_eq_true rfl)⟩ (fun q_11 H locs hq12 hP hD hS => ?_)
        have hP : va_P g.1 vwCl (List.flatten [bMo g o a th hi ac tp ba en x_1 fl de iD iO tU fm fk fa fc ft ff fb fi]) H := hP
        have hD : va_D A (List.flatten [bMo g o a th hi ac tp ba en x_1 fl de iD iO tU fm fk fa fc ft ff fb fi]) := hD
        refine W.widen (k := 0) (n := 0) (Nat.le_of_ble_eq_true rfl) (Nat.le_of_ble_eq_true rfl) ?_
        refine W.eq (g2 := F0 m 19 ls [.int q_11]) rfl ?_
        refine lv_bipush (v := 32) hx hb dX12_skip_19 (by decide) ?_
        refine lv_icmp_ne (tgt := 37) hx hb dX12_skip_21 (by decide) (fun cb9 => ?_) (fun cb9 => ?_)
        · skip
          have c13 : ¬ q_11.toInt = 32 := zne cb9 rfl (by decide)
          have hP : va_P g.1 vwCl (List.flatten [bMo g o a th hi ac tp ba en x_1 fl de iD iO tU fm fk fa fc ft ff fb fi]) H := hP
          have hD : va_D A (List.flatten [bMo g o a th hi ac tp ba en x_1 fl de iD iO tU fm fk fa fc ft ff fb fi]) := hD
          exact mret_v hx hb hr hlocks hS (Nat.le_of_ble_eq_true rfl) (Nat.le_of_ble_eq_true rfl) dX12_skip_37 (x_1) rfl (show (0 ≤ x_1.toInt ∧ x_1.toInt ≤ en.toInt + 7 - de.toInt) ∧ (tA.toInt ≤ x_1.toInt) from ⟨(by first | assumption | omega | decide | exact rfl | exact zb01 (by omega) | exact Or.inl (by decide) | exact Or.inr (by first | omega | decide)), (by first | assumption | omega | decide | exact rfl | exact zb01 (by omega) | exact Or.inl (by decide) | exact Or.inr (by first | omega | decide))⟩) hP hD
        · skip
          have c14 : q_11.toInt = 32 := zeq cb9 rfl (by decide)
          have n15 : 32 ≤ q_11.toInt := Int.le_trans (Int.le_refl _) (Int.le_of_eq c14.symm)
          have n16 : q_11.toInt ≤ 32 := Int.le_trans (Int.le_of_eq c14) (Int.le_refl _)
          refine lv_aload_n hx hb dX12_skip_24 rfl (lv_at hl 0 rfl) ?_
          refine lv_dup hx hb dX12_skip_25 rfl ?_
          refine va_get (D := g.1) (ci := 10) (v := .int x_1) (C := RX12) (T := TX12) (N := 20) hx hb hts izRX12 hown hK hP 0 rfl rfl 11 (by decide) (hts _ k877) (fun _ h9 => h9) rfl dX12_skip_26 ?_
          refine lv_iconst (v := 1) hx hb dX12_skip_29 (by decide) ?_
          refine lv_iadd hx hb dX12_skip_30 ?_
          refine zg3 (zaddK (i := x_1.toInt) (j := 1) (a' := 1) (b' := 400) rfl (by decide) i2.1 n9 (Int.le_refl _) (Int.le_refl _) (by decide)) (fun x_17 hx_17 => ?_)
          refine va_put (D := g.1) (ci := 10) (v := .int x_17) (ty := .int) (C := RX12) (T := TX12) (N := 20) hx hb hts izRX12 tyX12 tyX12_ok nmX12 hown hK hP hD hS 0 rfl rfl 11 (by decide) (hts _ k877) (fun _ h9 => h9) rfl (by decide +kernel) rfl rfl (Nat.le_of_ble_eq_true rfl) dX12_skip_31 (fun H locs hP hD hS => ?_)
          have hP : va_P g.1 vwCl (List.flatten [bMo g o a th hi ac tp ba en x_17 fl de iD iO tU fm fk fa fc ft ff fb fi]) H := hP
          have hD : va_D A (List.flatten [bMo g o a th hi ac tp ba en x_17 fl de iD iO tU fm fk fa fc ft ff fb fi]) := hD
          refine lv_goto (tgt := 0) hx hb dX12_skip_34 (by decide) ?_
          have hP : va_P g.1 vwCl (List.flatten [bMo g o a th hi ac tp ba en x_17 fl de iD iO tU fm fk fa fc ft ff fb fi]) H := hP
          have hD : va_D A (List.flatten [bMo g o a th hi ac tp ba en x_17 fl de iD iO tU fm fk fa fc ft ff fb fi]) := hD
          exact ih0_6 x_17 ⟨(Int.le_trans (by decide) hx_17.2.1), (Int.le_trans hx_17.2.2 (by decide))⟩ (by first | omega | assumption | decide) (by first | omega | assumption | decide) H _ ls (by omega)  hP hD hS (lv_sub hl [0] rfl)
  have hP : va_P g.1 vwCl (List.flatten [bMo g o a th hi ac tp ba en tA fl de iD iO tU fm fk fa fc ft ff fb fi]) s.heap := hP
  have hD : va_D A (List.flatten [bMo g o a th hi ac tp ba en tA fl de iD iO tU fm fk fa fc ft ff fb fi]) := hD
  exact LP0_5 _ tA (by first | omega | assumption | decide) (by first | omega | assumption | decide) (by first | omega | assumption | decide) s.heap _ ls (Nat.lt_succ_self _)  hP hD hS (lv_sub hl [0] rfl)
