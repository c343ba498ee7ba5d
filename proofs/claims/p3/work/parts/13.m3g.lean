set_option maxRecDepth 100000 in
set_option maxHeartbeats 4000000 in
theorem m_sum (l : Launch) (g : zG) (o : Nat) (a : Nat → Nat) (th : Int32) (hi : Int32) (ac : Int32) (tp : Int32) (ba : Int32) (en : Int32) (tA : Int32) (fl : Int32) (de : Int32) (iD : Int32) (iO : Int32) (tU : Int32) (fm : Nat → Int32) (fk : Nat → Int32) (fa : Nat → Int32) (fc : Nat → Int32) (ft : Nat → Int32) (ff : Nat → Int32) (fb : Nat → Int32) (fi : Nat → Int32) (hba : zBa ba.toInt) (hen : 0 ≤ en.toInt ∧ en.toInt ≤ 400) (htA : 0 ≤ tA.toInt ∧ tA.toInt ≤ en.toInt + 7 - de.toInt) (hfl : -1 ≤ fl.toInt) (hde : 0 ≤ de.toInt ∧ de.toInt ≤ 6) : zM' g l yX12_sum (Cond.code yX12_sum cX12_sum 2 (some .int) :: zB) ({ frames := 6, cells := 0, slots := 0, locals := 129 } : Room) [.ref o] [bMo g o a th hi ac tp ba en tA fl de iD iO tU fm fk fa fc ft ff fb fi] (fun u : Int32 × Int32 × Int32 => (fun (at2 : Int32) (fl2 : Int32) (q : Int32) => some (.int q)) (u.1) (u.2.1) (u.2.2)) (fun u : Int32 × Int32 × Int32 => (fun (at2 : Int32) (fl2 : Int32) (q : Int32) => (0 ≤ at2.toInt ∧ at2.toInt ≤ en.toInt + 7 - de.toInt) ∧ (tA.toInt ≤ at2.toInt) ∧ (-1 ≤ fl2.toInt)) (u.1) (u.2.1) (u.2.2)) (fun u : Int32 × Int32 × Int32 => (fun (at2 : Int32) (fl2 : Int32) (q : Int32) => [bMo g o a th hi ac tp ba en at2 fl2 de iD iO tU fm fk fa fc ft ff fb fi]) (u.1) (u.2.1) (u.2.2)) := by
  refine zM'.of (cc := cX12_sum) (maxL := 2) (rt := (some .int)) (by decide) rfl (Nat.le_of_ble_eq_true rfl) ?_
  intro p e s m args below meth c A ls St hr hlocks hin hK hT hA hP hD hS hl
  obtain ⟨hx, hb, hml, hown, hts⟩ := id St
  have hl : lv_has ls 2 [(0, .ref o)] := hl
  refine lv_aload_n hx hb dX12_sum_0 rfl (lv_at hl 0 rfl) ?_
  refine mcallV' (g := g) (q0 := 0) (ci := 10) (As := []) (rest := []) St hK hT hA hP hD hS hl.1 [0] [] rfl rfl rfl (m_part l g o a th hi ac tp ba en tA fl de iD iO tU fm fk fa fc ft ff fb fi (by first | assumption | omega | decide | exact Or.inl (by decide) | exact Or.inr (by decide)) (⟨hen.1, hen.2⟩) (by first | assumption | omega | decide | exact Or.inl (by decide) | exact Or.inr (by decide)) (by first | assumption | omega | decide | exact Or.inl (by decide) | exact Or.inr (by decide)) (⟨hde.1, hde.2⟩)) (cwV 0 hts (zgL (zl4 k934 k935 k936 k837) k933) rfl rfl rfl (by decide +kernel) ⟨Nat.le_of_ble_eq_true rfl, Nat.le_of_ble_eq_true rfl⟩) rfl rfl rfl rfl (Nat.le_of_ble_eq_true rfl) dX12_sum_1 ⟨(Nat.le_of_ble_eq_true rfl), (Nat.le_of_ble_eq_true rfl)⟩ (fun u_ H locs hq4 hP hD hS => ?_)
  obtain ⟨at2_1, fl2_2, q_3⟩ := u_
  replace hq4 : (0 ≤ at2_1.toInt ∧ at2_1.toInt ≤ en.toInt + 7 - de.toInt) ∧ (tA.toInt ≤ at2_1.toInt) ∧ (-1 ≤ fl2_2.toInt) := hq4
  have hP : va_P g.1 vwCl (List.flatten [bMo g o a th hi ac tp ba en at2_1 fl2_2 de iD iO tU fm fk fa fc ft ff fb fi]) H := hP
  have hD : va_D A (List.flatten [bMo g o a th hi ac tp ba en at2_1 fl2_2 de iD iO tU fm fk fa fc ft ff fb fi]) := hD
  refine W.widen (k := 0) (n := 0) (Nat.le_of_ble_eq_true rfl) (Nat.le_of_ble_eq_true rfl) ?_
  refine W.eq (g2 := F0 m 4 ls [.int q_3]) rfl ?_
  obtain ⟨hq4_0, hq4_1, hq4_2⟩ := hq4
  refine lv_istore_n (lv' := [(1, .int q_3), (0, .ref o)]) hx hb dX12_sum_4 rfl hl (by decide) rfl (fun ls hl => ?_)
  have hl := lv_sub (l' := [(0, .ref o), (1, .int q_3)]) hl [1, 0] rfl
  have LP5_13 : ∀ (kf : Nat) (x_5 : Int32) (x_6 : Int32) (x_7 : Int32), (0 ≤ x_6.toInt ∧ x_6.toInt ≤ 407) → ((-1) ≤ x_7.toInt) → (tA.toInt ≤ x_6.toInt) → (x_6.toInt ≤ en.toInt + 7 - de.toInt) → (-1 ≤ x_7.toInt) → ∀ (H : Heap) (locs : List Loc) (ls : Array Slot), ((en.toInt + 8 - x_6.toInt).toNat) < kf → va_P g.1 vwCl (List.flatten [bMo g o a th hi ac tp ba en x_6 x_7 de iD iO tU fm fk fa fc ft ff fb fi]) H → va_D A (List.flatten [bMo g o a th hi ac tp ba en x_6 x_7 de iD iO tU fm fk fa fc ft ff fb fi]) → va_S A s.heap H locs → lv_has ls 2 [(0, .ref o), (1, .int x_5)] → W p l e ({ frames := 6, cells := 0, slots := 0, locals := 129 } : Room) s m args below meth c H locs (0) (0) (zF g (fun u : Int32 × Int32 × Int32 => (fun (at2 : Int32) (fl2 : Int32) (q : Int32) => some (.int q)) (u.1) (u.2.1) (u.2.2)) (fun u : Int32 × Int32 × Int32 => (fun (at2 : Int32) (fl2 : Int32) (q : Int32) => (0 ≤ at2.toInt ∧ at2.toInt ≤ en.toInt + 7 - de.toInt) ∧ (tA.toInt ≤ at2.toInt) ∧ (-1 ≤ fl2.toInt)) (u.1) (u.2.1) (u.2.2)) (fun u : Int32 × Int32 × Int32 => (fun (at2 : Int32) (fl2 : Int32) (q : Int32) => [bMo g o a th hi ac tp ba en at2 fl2 de iD iO tU fm fk fa fc ft ff fb fi]) (u.1) (u.2.1) (u.2.2)) ({ frames := 6, cells := 0, slots := 0, locals := 129 } : Room) below args s A) (F0 m 5 ls []) := by
    intro kf
    induction kf with
    | zero => intro x_5 x_6 x_7 i8 i9 i10 i11 i12 H locs ls hk; exact absurd hk (Nat.not_lt_zero _)
    | succ kf ih5_14 =>
      intro x_5 x_6 x_7 i8 i9 i10 i11 i12 H locs ls hk5_14 hP hD hS hl
      refine lv_aload_n hx hb dX12_sum_5 rfl (lv_at hl 0 rfl) ?_
      refine va_get (D := g.1) (ci := 10) (v := .int x_7) (C := RX12) (T := TX12) (N := 20) hx hb hts izRX12 hown hK hP 0 rfl rfl 12 (by decide) (hts _ k820) (fun _ h9 => h9) rfl dX12_sum_6 ?_
      refine lv_iconst (v := (-1)) hx hb dX12_sum_9 (by decide) ?_
      refine lv_icmp_ne (tgt := 42) hx hb dX12_sum_10 (by decide) (fun cb9 => ?_) (fun cb9 => ?_)
      · skip
        have c15 : ¬ x_7.toInt = (-1) := zne cb9 rfl (by decide)
        have n16 : 0 ≤ x_7.toInt := zN1 c15 i9 (by decide)
        refine lv_iload_n hx hb dX12_sum_42 rfl (lv_at hl 1 rfl) ?_
        have hP : va_P g.1 vwCl (List.flatten [bMo g o a th hi ac tp ba en x_6 x_7 de iD iO tU fm fk fa fc ft ff fb fi]) H := hP
        have hD : va_D A (List.flatten [bMo g o a th hi ac tp ba en x_6 x_7 de iD iO tU fm fk fa fc ft ff fb fi]) := hD
        exact mret_i hx hb hr hlocks hS (Nat.le_of_ble_eq_true rfl) (Nat.le_of_ble_eq_true rfl) dX12_sum_43 (x_6, x_7, x_5) rfl (show (0 ≤ x_6.toInt ∧ x_6.toInt ≤ en.toInt + 7 - de.toInt) ∧ (tA.toInt ≤ x_6.toInt) ∧ (-1 ≤ x_7.toInt) from ⟨(by first | assumption | omega | decide | exact rfl | exact zb01 (by omega) | exact Or.inl (by decide) | exact Or.inr (by first | omega | decide)), (by first | assumption | omega | decide | exact rfl | exact zb01 (by omega) | exact Or.inl (by decide) | exact Or.inr (by first | omega | decide)), (by first | assumption | omega | decide | exact rfl | exact zb01 (by omega) | exact Or.inl (by decide) | exact Or.inr (by first | omega | decide))⟩) hP hD
      · skip
        have c17 : x_7.toInt = (-1) := zeq cb9 rfl (by decide)
        have n18 : x_7.toInt ≤ (-1) := Int.le_trans (Int.le_of_eq c17) (Int.le_refl _)
        refine lv_aload_n hx hb dX12_sum_13 rfl (lv_at hl 0 rfl) ?_
        refine lv_bipush (v := 43) hx hb dX12_sum_14 (by decide) ?_
        refine mcallV' (g := g) (q0 := 0) (ci := 10) (As := [.int 43]) (rest := []) St hK hT hA hP hD hS hl.1 [0] [] rfl rfl rfl (m_isSign l g o a th hi ac tp ba en x_6 x_7 de iD iO tU fm fk fa fc ft ff fb fi 43 (by first | assumption | omega | decide | exact Or.inl (by decide) | exact Or.inr (by decide)) (⟨hen.1, hen.2⟩) (by first | assumption | omega | decide | exact Or.inl (by decide) | exact Or.inr (by decide)) i9 (⟨hde.1, hde.2⟩)) (cwV 1 hts (zgL (zl4 k937 k938 k939 k837) k882) rfl rfl rfl (by decide +kernel) ⟨Nat.le_of_ble_eq_true rfl, Nat.le_of_ble_eq_true rfl⟩) rfl rfl rfl rfl (Nat.le_of_ble_eq_true rfl) dX12_sum_16 ⟨(Nat.le_of_ble_eq_true rfl), (Nat.le_of_ble_eq_true rfl)⟩ (fun u_ H locs hq21 hP hD hS => ?_)
        obtain ⟨at2_19, q_20⟩ := u_
        replace hq21 : (0 ≤ at2_19.toInt ∧ at2_19.toInt ≤ en.toInt + 7 - de.toInt) ∧ (x_6.toInt ≤ at2_19.toInt) ∧ (q_20 = 1 ∧ at2_19.toInt < en.toInt ∨ q_20 = 0) := hq21
        have hP : va_P g.1 vwCl (List.flatten [bMo g o a th hi ac tp ba en at2_19 x_7 de iD iO tU fm fk fa fc ft ff fb fi]) H := hP
        have hD : va_D A (List.flatten [bMo g o a th hi ac tp ba en at2_19 x_7 de iD iO tU fm fk fa fc ft ff fb fi]) := hD
        refine W.widen (k := 0) (n := 0) (Nat.le_of_ble_eq_true rfl) (Nat.le_of_ble_eq_true rfl) ?_
        refine W.eq (g2 := F0 m 19 ls [.int q_20]) rfl ?_
        obtain ⟨hq21_0, hq21_1, hq21_2⟩ := hq21
        rcases hq21_2 with ⟨rfl, hq21_k⟩ | rfl
        · skip
          refine lv_if_eq (tgt := 42) hx hb dX12_sum_19 (by decide) (fun c22 => absurd c22 (by decide)) (fun _ => ?_)
          refine lv_aload_n hx hb dX12_sum_22 rfl (lv_at hl 0 rfl) ?_
          refine lv_dup hx hb dX12_sum_23 rfl ?_
          refine va_get (D := g.1) (ci := 10) (v := .int at2_19) (C := RX12) (T := TX12) (N := 20) hx hb hts izRX12 hown hK hP 0 rfl rfl 11 (by decide) (hts _ k877) (fun _ h9 => h9) rfl dX12_sum_24 ?_
          refine lv_iconst (v := 1) hx hb dX12_sum_27 (by decide) ?_
          refine lv_iadd hx hb dX12_sum_28 ?_
          refine zgv (zadd (i := at2_19.toInt) (j := 1) rfl (by decide) (by omega)) (fun x_23 hx_23 => ?_)
          refine va_put (D := g.1) (ci := 10) (v := .int x_23) (ty := .int) (C := RX12) (T := TX12) (N := 20) hx hb hts izRX12 tyX12 tyX12_ok nmX12 hown hK hP hD hS 0 rfl rfl 11 (by decide) (hts _ k877) (fun _ h9 => h9) rfl (by decide +kernel) rfl rfl (Nat.le_of_ble_eq_true rfl) dX12_sum_29 (fun H locs hP hD hS => ?_)
          have hP : va_P g.1 vwCl (List.flatten [bMo g o a th hi ac tp ba en x_23 x_7 de iD iO tU fm fk fa fc ft ff fb fi]) H := hP
          have hD : va_D A (List.flatten [bMo g o a th hi ac tp ba en x_23 x_7 de iD iO tU fm fk fa fc ft ff fb fi]) := hD
          refine lv_iload_n hx hb dX12_sum_32 rfl (lv_at hl 1 rfl) ?_
          refine lv_aload_n hx hb dX12_sum_33 rfl (lv_at hl 0 rfl) ?_
          refine mcallV' (g := g) (q0 := 0) (ci := 10) (As := []) (rest := [.int x_5]) St hK hT hA hP hD hS hl.1 [0] [] rfl rfl rfl (m_part l g o a th hi ac tp ba en x_23 x_7 de iD iO tU fm fk fa fc ft ff fb fi (by first | assumption | omega | decide | exact Or.inl (by decide) | exact Or.inr (by decide)) (⟨hen.1, hen.2⟩) (by first | assumption | omega | decide | exact Or.inl (by decide) | exact Or.inr (by decide)) i9 (⟨hde.1, hde.2⟩)) (cwV 0 hts (zgL (zl4 k934 k935 k936 k837) k933) rfl rfl rfl (by decide +kernel) ⟨Nat.le_of_ble_eq_true rfl, Nat.le_of_ble_eq_true rfl⟩) rfl rfl rfl rfl (Nat.le_of_ble_eq_true rfl) dX12_sum_34 ⟨(Nat.le_of_ble_eq_true rfl), (Nat.le_of_ble_eq_true rfl)⟩ (fun u_ H locs hq27 hP hD hS => ?_)
          obtain ⟨at2_24, fl2_25, q_26⟩ := u_
          replace hq27 : (0 ≤ at2_24.toInt ∧ at2_24.toInt ≤ en.toInt + 7 - de.toInt) ∧ (x_23.toInt ≤ at2_24.toInt) ∧ (-1 ≤ fl2_25.toInt) := hq27
          have hP : va_P g.1 vwCl (List.flatten [bMo g o a th hi ac tp ba en at2_24 fl2_25 de iD iO tU fm fk fa fc ft ff fb fi]) H := hP
          have hD : va_D A (List.flatten [bMo g o a th hi ac tp ba en at2_24 fl2_25 de iD iO tU fm fk fa fc ft ff fb fi]) := hD
          refine W.widen (k := 0) (n := 0) (Nat.le_of_ble_eq_true rfl) (Nat.le_of_ble_eq_true rfl) ?_
          refine W.eq (g2 := F0 m 37 ls [.int q_26, .int x_5]) rfl ?_
          obtain ⟨hq27_0, hq27_1, hq27_2⟩ := hq27
          refine lv_iadd hx hb dX12_sum_37 ?_
          refine zg (fun x_28 => ?_)
          refine lv_istore_n (lv' := [(1, .int x_28), (0, .ref o)]) hx hb dX12_sum_38 rfl hl (by decide) rfl (fun ls hl => ?_)
          refine lv_goto (tgt := 5) hx hb dX12_sum_39 (by decide) ?_
          have hl := lv_sub (l' := [(0, .ref o), (1, .int x_28)]) hl [1, 0] rfl
          have hP : va_P g.1 vwCl (List.flatten [bMo g o a th hi ac tp ba en at2_24 fl2_25 de iD iO tU fm fk fa fc ft ff fb fi]) H := hP
          have hD : va_D A (List.flatten [bMo g o a th hi ac tp ba en at2_24 fl2_25 de iD iO tU fm fk fa fc ft ff fb fi]) := hD
          exact ih5_14 x_28 at2_24 fl2_25 (by first | omega | assumption | decide) (by first | omega | assumption | decide) (by first | omega | assumption | decide) (by first | omega | assumption | decide) (by first | omega | assumption | decide) H _ ls (by omega)  hP hD hS (lv_sub hl [0, 1] rfl)
        · skip
          refine lv_if_eq (tgt := 42) hx hb dX12_sum_19 (by decide) (fun _ => ?_) (fun c29 => absurd (by decide) c29)
          refine lv_iload_n hx hb dX12_sum_42 rfl (lv_at hl 1 rfl) ?_
          have hP : va_P g.1 vwCl (List.flatten [bMo g o a th hi ac tp ba en at2_19 x_7 de iD iO tU fm fk fa fc ft ff fb fi]) H := hP
          have hD : va_D A (List.flatten [bMo g o a th hi ac tp ba en at2_19 x_7 de iD iO tU fm fk fa fc ft ff fb fi]) := hD
          exact mret_i hx hb hr hlocks hS (Nat.le_of_ble_eq_true rfl) (Nat.le_of_ble_eq_true rfl) dX12_sum_43 (at2_19, x_7, x_5) rfl (show (0 ≤ at2_19.toInt ∧ at2_19.toInt ≤ en.toInt + 7 - de.toInt) ∧ (tA.toInt ≤ at2_19.toInt) ∧ (-1 ≤ x_7.toInt) from ⟨(by first | assumption | omega | decide | exact rfl | exact zb01 (by omega) | exact Or.inl (by decide) | exact Or.inr (by first | omega | decide)), (by first | assumption | omega | decide | exact rfl | exact zb01 (by omega) | exact Or.inl (by decide) | exact Or.inr (by first | omega | decide)), (by first | assumption | omega | decide | exact rfl | exact zb01 (by omega) | exact Or.inl (by decide) | exact Or.inr (by first | omega | decide))⟩) hP hD
  have hP : va_P g.1 vwCl (List.flatten [bMo g o a th hi ac tp ba en at2_1 fl2_2 de iD iO tU fm fk fa fc ft ff fb fi]) H := hP
  have hD : va_D A (List.flatten [bMo g o a th hi ac tp ba en at2_1 fl2_2 de iD iO tU fm fk fa fc ft ff fb fi]) := hD
  exact LP5_13 _ q_3 at2_1 fl2_2 (by first | omega | assumption | decide) (by first | omega | assumption | decide) (by first | omega | assumption | decide) (by first | omega | assumption | decide) (by first | omega | assumption | decide) H _ ls (Nat.lt_succ_self _)  hP hD hS (lv_sub hl [0, 1] rfl)
