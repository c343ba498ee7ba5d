set_option maxRecDepth 100000 in
set_option maxHeartbeats 4000000 in
theorem m_some4 (l : Launch) (g : zG) (o : Nat) (a : Nat → Nat) (th : Int32) (hi : Int32) (ac : Int32) (tp : Int32) (ba : Int32) (en : Int32) (tA : Int32) (fl : Int32) (iD : Int32) (iO : Int32) (tU : Int32) (fm : Nat → Int32) (fk : Nat → Int32) (fa : Nat → Int32) (fc : Nat → Int32) (ft : Nat → Int32) (ff : Nat → Int32) (fb : Nat → Int32) (fi : Nat → Int32) (hiD : 0 ≤ iD.toInt ∧ iD.toInt ≤ 1) (hiO : 0 ≤ iO.toInt ∧ iO.toInt ≤ 1) (hba : zBa ba.toInt) (hen : 0 ≤ en.toInt ∧ en.toInt ≤ 400) (htA : 0 ≤ tA.toInt ∧ tA.toInt ≤ en.toInt + 7 - 4) (hfl : -1 ≤ fl.toInt) (hde : 0 ≤ 4 ∧ 4 ≤ 6) : zM' g l yX12_some (Cond.code yX12_some cX12_some 3 (some .boolean) :: zB) ({ frames := 16, cells := 0, slots := 0, locals := 352 } : Room) [.ref o] [bMo g o a th hi ac tp ba en tA fl 4 iD iO tU fm fk fa fc ft ff fb fi] (fun u : Int32 × Int32 × Int32 => (fun (at2 : Int32) (fl2 : Int32) (q : Int32) => some (.int q)) (u.1) (u.2.1) (u.2.2)) (fun u : Int32 × Int32 × Int32 => (fun (at2 : Int32) (fl2 : Int32) (q : Int32) => (0 ≤ at2.toInt ∧ at2.toInt ≤ en.toInt + 7 - 4) ∧ (tA.toInt ≤ at2.toInt) ∧ (-1 ≤ fl2.toInt) ∧ (q = 0 ∨ q = 1)) (u.1) (u.2.1) (u.2.2)) (fun u : Int32 × Int32 × Int32 => (fun (at2 : Int32) (fl2 : Int32) (q : Int32) => [bMo g o a th hi ac tp ba en at2 fl2 4 iD iO tU fm fk fa fc ft ff fb fi]) (u.1) (u.2.1) (u.2.2)) := by
  refine zM'.of (cc := cX12_some) (maxL := 3) (rt := (some .boolean)) (by decide) rfl (Nat.le_of_ble_eq_true rfl) ?_
  intro p e s m args below meth c A ls St hr hlocks hin hK hT hA hP hD hS hl
  obtain ⟨hx, hb, hml, hown, hts⟩ := id St
  have hl : lv_has ls 3 [(0, .ref o)] := hl
  refine lv_aload_n hx hb dX12_some_0 rfl (lv_at hl 0 rfl) ?_
  refine mcallV' (g := g) (q0 := 0) (ci := 10) (As := []) (rest := []) St hK hT hA hP hD hS hl.1 [0] [] rfl rfl rfl (m_every4 l g o a th hi ac tp ba en tA fl iD iO tU fm fk fa fc ft ff fb fi hiD hiO hba hen htA hfl hde) (cwV 0 hts (zgL (zl4 k959 k960 k961 k839) k957) rfl rfl rfl (by decide +kernel) ⟨Nat.le_of_ble_eq_true rfl, Nat.le_of_ble_eq_true rfl⟩) rfl rfl rfl rfl (Nat.le_of_ble_eq_true rfl) dX12_some_1 ⟨(Nat.le_of_ble_eq_true rfl), (Nat.le_of_ble_eq_true rfl)⟩ (fun u_ H locs hq4 hP hD hS => ?_)
  obtain ⟨at2_1, fl2_2, q_3⟩ := u_
  replace hq4 : (0 ≤ at2_1.toInt ∧ at2_1.toInt ≤ en.toInt + 7 - 4) ∧ (tA.toInt ≤ at2_1.toInt) ∧ (-1 ≤ fl2_2.toInt) ∧ (q_3 = 0 ∨ q_3 = 1) := hq4
  have hP : va_P g.1 vwCl (List.flatten [bMo g o a th hi ac tp ba en at2_1 fl2_2 4 iD iO tU fm fk fa fc ft ff fb fi]) H := hP
  have hD : va_D A (List.flatten [bMo g o a th hi ac tp ba en at2_1 fl2_2 4 iD iO tU fm fk fa fc ft ff fb fi]) := hD
  refine W.widen (k := 0) (n := 0) (Nat.le_of_ble_eq_true rfl) (Nat.le_of_ble_eq_true rfl) ?_
  refine W.eq (g2 := F0 m 4 ls [.int q_3]) rfl ?_
  obtain ⟨hq4_0, hq4_1, hq4_2, hq4_3⟩ := hq4
  rcases hq4_3 with rfl | rfl
  · skip
    refine lv_istore_n (lv' := [(1, .int 0), (0, .ref o)]) hx hb dX12_some_4 rfl hl (by decide) rfl (fun ls hl => ?_)
    have hl := lv_sub (l' := [(0, .ref o), (1, .int 0)]) hl [1, 0] rfl
    have LP5_14 : ∀ (kf : Nat) (x_5 : Int32) (x_6 : Int32) (x_7 : Int32), (0 ≤ x_5.toInt ∧ x_5.toInt ≤ 1) → (0 ≤ x_6.toInt ∧ x_6.toInt ≤ 407) → ((-1) ≤ x_7.toInt) → (tA.toInt ≤ x_6.toInt) → (x_6.toInt ≤ en.toInt + 7 - 4) → (-1 ≤ x_7.toInt) → ∀ (H : Heap) (locs : List Loc) (ls : Array Slot), ((en.toInt + 8 - x_6.toInt).toNat) < kf → va_P g.1 vwCl (List.flatten [bMo g o a th hi ac tp ba en x_6 x_7 4 iD iO tU fm fk fa fc ft ff fb fi]) H → va_D A (List.flatten [bMo g o a th hi ac tp ba en x_6 x_7 4 iD iO tU fm fk fa fc ft ff fb fi]) → va_S A s.heap H locs → lv_has ls 3 [(0, .ref o), (1, .int x_5)] → W p l e ({ frames := 16, cells := 0, slots := 0, locals := 352 } : Room) s m args below meth c H locs (0) (0) (zF g (fun u : Int32 × Int32 × Int32 => (fun (at2 : Int32) (fl2 : Int32) (q : Int32) => some (.int q)) (u.1) (u.2.1) (u.2.2)) (fun u : Int32 × Int32 × Int32 => (fun (at2 : Int32) (fl2 : Int32) (q : Int32) => (0 ≤ at2.toInt ∧ at2.toInt ≤ en.toInt + 7 - 4) ∧ (tA.toInt ≤ at2.toInt) ∧ (-1 ≤ fl2.toInt) ∧ (q = 0 ∨ q = 1)) (u.1) (u.2.1) (u.2.2)) (fun u : Int32 × Int32 × Int32 => (fun (at2 : Int32) (fl2 : Int32) (q : Int32) => [bMo g o a th hi ac tp ba en at2 fl2 4 iD iO tU fm fk fa fc ft ff fb fi]) (u.1) (u.2.1) (u.2.2)) ({ frames := 16, cells := 0, slots := 0, locals := 352 } : Room) below args s A) (F0 m 5 ls []) := by
      intro kf
      induction kf with
      | zero => intro x_5 x_6 x_7 i8 i9 i10 i11 i12 i13 H locs ls hk; exact absurd hk (Nat.not_lt_zero _)
      | succ kf ih5_15 =>
        intro x_5 x_6 x_7 i8 i9 i10 i11 i12 i13 H locs ls hk5_15 hP hD hS hl
        refine lv_aload_n hx hb dX12_some_5 rfl (lv_at hl 0 rfl) ?_
        refine va_get (D := g.1) (ci := 10) (v := .int x_7) (C := RX12) (T := TX12) (N := 20) hx hb hts izRX12 hown hK hP 0 rfl rfl 12 (by decide) (hts _ k820) (fun _ h9 => h9) rfl dX12_some_6 ?_
        refine lv_iconst (v := (-1)) hx hb dX12_some_9 (by decide) ?_
        refine lv_icmp_ne (tgt := 44) hx hb dX12_some_10 (by decide) (fun cb9 => ?_) (fun cb9 => ?_)
        · skip
          have c16 : ¬ x_7.toInt = (-1) := zne cb9 rfl (by decide)
          have n17 : 0 ≤ x_7.toInt := zN1 c16 i10 (by decide)
          refine lv_iload_n hx hb dX12_some_44 rfl (lv_at hl 1 rfl) ?_
          have hP : va_P g.1 vwCl (List.flatten [bMo g o a th hi ac tp ba en x_6 x_7 4 iD iO tU fm fk fa fc ft ff fb fi]) H := hP
          have hD : va_D A (List.flatten [bMo g o a th hi ac tp ba en x_6 x_7 4 iD iO tU fm fk fa fc ft ff fb fi]) := hD
          exact mret_z hx hb hr hlocks hS (Nat.le_of_ble_eq_true rfl) (Nat.le_of_ble_eq_true rfl) dX12_some_45 (x_6, x_7, x_5) rfl (by first | assumption | exact zb01 (by omega)) (show (0 ≤ x_6.toInt ∧ x_6.toInt ≤ en.toInt + 7 - 4) ∧ (tA.toInt ≤ x_6.toInt) ∧ (-1 ≤ x_7.toInt) ∧ (x_5 = 0 ∨ x_5 = 1) from ⟨(by first | assumption | omega | decide | exact rfl | exact zb01 (by omega) | exact Or.inl (by decide) | exact Or.inr (by first | omega | decide)), i11, i13, (by first | assumption | omega | decide | exact rfl | exact zb01 (by omega) | exact Or.inl (by decide) | exact Or.inr (by first | omega | decide))⟩) hP hD
        · skip
          have c18 : x_7.toInt = (-1) := zeq cb9 rfl (by decide)
          have n19 : x_7.toInt ≤ (-1) := Int.le_trans (Int.le_of_eq c18) (Int.le_refl _)
          refine lv_aload_n hx hb dX12_some_13 rfl (lv_at hl 0 rfl) ?_
          refine va_ldcS (q := g.2 102) hx hb hown (zra46 hT.2.1) dX12_some_14 ?_
          have hL4 : (4 : Int32).toInt = 4 := by decide
          refine mcallV' (g := g) (q0 := 0) (ci := 10) (As := [.ref (g.2 102)]) (rest := []) St hK hT hA hP hD hS hl.1 [0] [] rfl rfl rfl (m_has l g o a th hi ac tp ba en x_6 x_7 4 iD iO tU fm fk fa fc ft ff fb fi (g.2 102) 46 zqa46 hba hen (by first | assumption | omega | decide | exact Or.inl (by decide) | exact Or.inr (by decide)) i13 (by decide) rfl zla46 zna46) (cwV 1 hts (zgL (zl4 k899 k900 k901 k839) k889) rfl rfl rfl (by decide +kernel) ⟨Nat.le_of_ble_eq_true rfl, Nat.le_of_ble_eq_true rfl⟩) rfl rfl rfl rfl (Nat.le_of_ble_eq_true rfl) dX12_some_16 ⟨(Nat.le_of_ble_eq_true rfl), (Nat.le_of_ble_eq_true rfl)⟩ (fun u_ H locs hq22 hP hD hS => ?_)
          obtain ⟨at2_20, r_21⟩ := u_
          replace hq22 : (0 ≤ at2_20.toInt ∧ at2_20.toInt ≤ en.toInt + 7 - (4 : Int32).toInt) ∧ (x_6.toInt ≤ at2_20.toInt) ∧ (r_21 = 1 ∧ x_6.toInt < at2_20.toInt ∧ at2_20.toInt ≤ en.toInt ∨ r_21 = 0) := hq22
          have hP : va_P g.1 vwCl (List.flatten [bMo g o a th hi ac tp ba en at2_20 x_7 4 iD iO tU fm fk fa fc ft ff fb fi]) H := hP
          have hD : va_D A (List.flatten [bMo g o a th hi ac tp ba en at2_20 x_7 4 iD iO tU fm fk fa fc ft ff fb fi]) := hD
          refine W.widen (k := 0) (n := 0) (Nat.le_of_ble_eq_true rfl) (Nat.le_of_ble_eq_true rfl) ?_
          refine W.eq (g2 := F0 m 19 ls [.int r_21]) rfl ?_
          obtain ⟨hq22_0, hq22_1, hq22_2⟩ := hq22
          rcases hq22_2 with ⟨rfl, hq22_k⟩ | rfl
          · skip
            refine lv_if_eq (tgt := 44) hx hb dX12_some_19 (by decide) (fun c23 => absurd c23 (by decide)) (fun _ => ?_)
            refine lv_aload_n hx hb dX12_some_22 rfl (lv_at hl 0 rfl) ?_
            refine mcallV' (g := g) (q0 := 0) (ci := 10) (As := []) (rest := []) St hK hT hA hP hD hS hl.1 [0] [] rfl rfl rfl (m_every4 l g o a th hi ac tp ba en at2_20 x_7 iD iO tU fm fk fa fc ft ff fb fi hiD hiO hba hen (by first | assumption | omega | decide | exact Or.inl (by decide) | exact Or.inr (by decide)) i13 hde) (cwV 0 hts (zgL (zl4 k959 k960 k961 k839) k957) rfl rfl rfl (by decide +kernel) ⟨Nat.le_of_ble_eq_true rfl, Nat.le_of_ble_eq_true rfl⟩) rfl rfl rfl rfl (Nat.le_of_ble_eq_true rfl) dX12_some_23 ⟨(Nat.le_of_ble_eq_true rfl), (Nat.le_of_ble_eq_true rfl)⟩ (fun u_ H locs hq27 hP hD hS => ?_)
            obtain ⟨at2_24, fl2_25, q_26⟩ := u_
            replace hq27 : (0 ≤ at2_24.toInt ∧ at2_24.toInt ≤ en.toInt + 7 - 4) ∧ (at2_20.toInt ≤ at2_24.toInt) ∧ (-1 ≤ fl2_25.toInt) ∧ (q_26 = 0 ∨ q_26 = 1) := hq27
            have hP : va_P g.1 vwCl (List.flatten [bMo g o a th hi ac tp ba en at2_24 fl2_25 4 iD iO tU fm fk fa fc ft ff fb fi]) H := hP
            have hD : va_D A (List.flatten [bMo g o a th hi ac tp ba en at2_24 fl2_25 4 iD iO tU fm fk fa fc ft ff fb fi]) := hD
            refine W.widen (k := 0) (n := 0) (Nat.le_of_ble_eq_true rfl) (Nat.le_of_ble_eq_true rfl) ?_
            refine W.eq (g2 := F0 m 26 ls [.int q_26]) rfl ?_
            obtain ⟨hq27_0, hq27_1, hq27_2, hq27_3⟩ := hq27
            rcases hq27_3 with rfl | rfl
            · skip
              refine lv_istore_n (lv' := [(2, .int 0), (0, .ref o), (1, .int x_5)]) hx hb dX12_some_26 rfl hl (by decide) rfl (fun ls hl => ?_)
              refine lv_iload_n hx hb dX12_some_27 rfl (lv_at hl 2 rfl) ?_
              refine lv_if_ne (tgt := 35) hx hb dX12_some_28 (by decide) (fun cb9 => ?_) (fun cb9 => ?_)
              · skip
                have c28 : ¬ x_5.toInt = 0 := zne cb9 rfl (by decide)
                have n29 : 1 ≤ x_5.toInt := zN1 c28 i8.1 (by decide)
                refine lv_iconst (v := 1) hx hb dX12_some_35 (by decide) ?_
                refine lv_goto (tgt := 40) hx hb dX12_some_36 (by decide) ?_
                refine lv_istore_n (lv' := [(1, .int 1), (2, .int 0), (0, .ref o)]) hx hb dX12_some_40 rfl hl (by decide) rfl (fun ls hl => ?_)
                refine lv_goto (tgt := 5) hx hb dX12_some_41 (by decide) ?_
                have hl := lv_sub (l' := [(0, .ref o), (1, .int 1), (2, .int 0)]) hl [2, 0, 1] rfl
                have hL1 : (1 : Int32).toInt = 1 := by decide
                have hP : va_P g.1 vwCl (List.flatten [bMo g o a th hi ac tp ba en at2_24 fl2_25 4 iD iO tU fm fk fa fc ft ff fb fi]) H := hP
                have hD : va_D A (List.flatten [bMo g o a th hi ac tp ba en at2_24 fl2_25 4 iD iO tU fm fk fa fc ft ff fb fi]) := hD
                exact ih5_15 1 at2_24 fl2_25 (by decide) (by first | omega | assumption | decide) (by first | omega | assumption | decide) (by first | omega | assumption | decide) (by first | omega | assumption | decide) hq27_2 H _ ls (by omega)  hP hD hS (lv_sub hl [0, 1] rfl)
              · skip
                have c30 : x_5.toInt = 0 := zeq cb9 rfl (by decide)
                have n31 : x_5.toInt ≤ 0 := Int.le_trans (Int.le_of_eq c30) (Int.le_refl _)
                refine lv_iload_n hx hb dX12_some_31 rfl (lv_at hl 0 rfl) ?_
                refine lv_if_eq (tgt := 39) hx hb dX12_some_32 (by decide) (fun _ => ?_) (fun c32 => absurd (by decide) c32)
                refine lv_iconst (v := 0) hx hb dX12_some_39 (by decide) ?_
                refine lv_istore_n (lv' := [(1, .int 0), (2, .int 0), (0, .ref o)]) hx hb dX12_some_40 rfl hl (by decide) rfl (fun ls hl => ?_)
                refine lv_goto (tgt := 5) hx hb dX12_some_41 (by decide) ?_
                have hl := lv_sub (l' := [(0, .ref o), (1, .int 0), (2, .int 0)]) hl [2, 0, 1] rfl
                have hL0 : (0 : Int32).toInt = 0 := by decide
                have hP : va_P g.1 vwCl (List.flatten [bMo g o a th hi ac tp ba en at2_24 fl2_25 4 iD iO tU fm fk fa fc ft ff fb fi]) H := hP
                have hD : va_D A (List.flatten [bMo g o a th hi ac tp ba en at2_24 fl2_25 4 iD iO tU fm fk fa fc ft ff fb fi]) := hD
                exact ih5_15 0 at2_24 fl2_25 (by decide) (by first | omega | assumption | decide) (by first | omega | assumption | decide) (by first | omega | assumption | decide) (by first | omega | assumption | decide) hq27_2 H _ ls (by omega)  hP hD hS (lv_sub hl [0, 1] rfl)
            · skip
              refine lv_istore_n (lv' := [(2, .int 1), (0, .ref o), (1, .int x_5)]) hx hb dX12_some_26 rfl hl (by decide) rfl (fun ls hl => ?_)
              refine lv_iload_n hx hb dX12_some_27 rfl (lv_at hl 2 rfl) ?_
              refine lv_if_ne (tgt := 35) hx hb dX12_some_28 (by decide) (fun cb9 => ?_) (fun cb9 => ?_)
              · skip
                have c33 : ¬ x_5.toInt = 0 := zne cb9 rfl (by decide)
                have n34 : 1 ≤ x_5.toInt := zN1 c33 i8.1 (by decide)
                refine lv_iconst (v := 1) hx hb dX12_some_35 (by decide) ?_
                refine lv_goto (tgt := 40) hx hb dX12_some_36 (by decide) ?_
                refine lv_istore_n (lv' := [(1, .int 1), (2, .int 1), (0, .ref o)]) hx hb dX12_some_40 rfl hl (by decide) rfl (fun ls hl => ?_)
                refine lv_goto (tgt := 5) hx hb dX12_some_41 (by decide) ?_
                have hl := lv_sub (l' := [(0, .ref o), (1, .int 1), (2, .int 1)]) hl [2, 0, 1] rfl
                have hL1 : (1 : Int32).toInt = 1 := by decide
                have hP : va_P g.1 vwCl (List.flatten [bMo g o a th hi ac tp ba en at2_24 fl2_25 4 iD iO tU fm fk fa fc ft ff fb fi]) H := hP
                have hD : va_D A (List.flatten [bMo g o a th hi ac tp ba en at2_24 fl2_25 4 iD iO tU fm fk fa fc ft ff fb fi]) := hD
                exact ih5_15 1 at2_24 fl2_25 (by decide) (by first | omega | assumption | decide) (by first | omega | assumption | decide) (by first | omega | assumption | decide) (by first | omega | assumption | decide) hq27_2 H _ ls (by omega)  hP hD hS (lv_sub hl [0, 1] rfl)
              · skip
                have c35 : x_5.toInt = 0 := zeq cb9 rfl (by decide)
                have n36 : x_5.toInt ≤ 0 := Int.le_trans (Int.le_of_eq c35) (Int.le_refl _)
                refine lv_iload_n hx hb dX12_some_31 rfl (lv_at hl 0 rfl) ?_
                refine lv_if_eq (tgt := 39) hx hb dX12_some_32 (by decide) (fun c37 => absurd c37 (by decide)) (fun _ => ?_)
                refine lv_iconst (v := 1) hx hb dX12_some_35 (by decide) ?_
                refine lv_goto (tgt := 40) hx hb dX12_some_36 (by decide) ?_
                refine lv_istore_n (lv' := [(1, .int 1), (2, .int 1), (0, .ref o)]) hx hb dX12_some_40 rfl hl (by decide) rfl (fun ls hl => ?_)
                refine lv_goto (tgt := 5) hx hb dX12_some_41 (by decide) ?_
                have hl := lv_sub (l' := [(0, .ref o), (1, .int 1), (2, .int 1)]) hl [2, 0, 1] rfl
                have hL1 : (1 : Int32).toInt = 1 := by decide
                have hP : va_P g.1 vwCl (List.flatten [bMo g o a th hi ac tp ba en at2_24 fl2_25 4 iD iO tU fm fk fa fc ft ff fb fi]) H := hP
                have hD : va_D A (List.flatten [bMo g o a th hi ac tp ba en at2_24 fl2_25 4 iD iO tU fm fk fa fc ft ff fb fi]) := hD
                exact ih5_15 1 at2_24 fl2_25 (by decide) (by first | omega | assumption | decide) (by first | omega | assumption | decide) (by first | omega | assumption | decide) (by first | omega | assumption | decide) hq27_2 H _ ls (by omega)  hP hD hS (lv_sub hl [0, 1] rfl)
          · skip
            refine lv_if_eq (tgt := 44) hx hb dX12_some_19 (by decide) (fun _ => ?_) (fun c38 => absurd (by decide) c38)
            refine lv_iload_n hx hb dX12_some_44 rfl (lv_at hl 1 rfl) ?_
            have hP : va_P g.1 vwCl (List.flatten [bMo g o a th hi ac tp ba en at2_20 x_7 4 iD iO tU fm fk fa fc ft ff fb fi]) H := hP
            have hD : va_D A (List.flatten [bMo g o a th hi ac tp ba en at2_20 x_7 4 iD iO tU fm fk fa fc ft ff fb fi]) := hD
            exact mret_z hx hb hr hlocks hS (Nat.le_of_ble_eq_true rfl) (Nat.le_of_ble_eq_true rfl) dX12_some_45 (at2_20, x_7, x_5) rfl (by first | assumption | exact zb01 (by omega)) (show (0 ≤ at2_20.toInt ∧ at2_20.toInt ≤ en.toInt + 7 - 4) ∧ (tA.toInt ≤ at2_20.toInt) ∧ (-1 ≤ x_7.toInt) ∧ (x_5 = 0 ∨ x_5 = 1) from ⟨(by first | assumption | omega | decide | exact rfl | exact zb01 (by omega) | exact Or.inl (by decide) | exact Or.inr (by first | omega | decide)), (by first | assumption | omega | decide | exact rfl | exact zb01 (by omega) | exact Or.inl (by decide) | exact Or.inr (by first | omega | decide)), i13, (by first | assumption | omega | decide | exact rfl | exact zb01 (by omega) | exact Or.inl (by decide) | exact Or.inr (by first | omega | decide))⟩) hP hD
    have hL0 : (0 : Int32).toInt = 0 := by decide
    have hP : va_P g.1 vwCl (List.flatten [bMo g o a th hi ac tp ba en at2_1 fl2_2 4 iD iO tU fm fk fa fc ft ff fb fi]) H := hP
    have hD : va_D A (List.flatten [bMo g o a th hi ac tp ba en at2_1 fl2_2 4 iD iO tU fm fk fa fc ft ff fb fi]) := hD
    exact LP5_14 _ 0 at2_1 fl2_2 (by decide) (by first | omega | assumption | decide) (by first | omega | assumption | decide) hq4_1 (by first | omega | assumption | decide) hq4_2 H _ ls (Nat.lt_succ_self _)  hP hD hS (lv_sub hl [0, 1] rfl)
  · skip
    refine lv_istore_n (lv' := [(1, .int 1), (0, .ref o)]) hx hb dX12_some_4 rfl hl (by decide) rfl (fun ls hl => ?_)
    have hl := lv_sub (l' := [(0, .ref o), (1, .int 1)]) hl [1, 0] rfl
    have LP5_48 : ∀ (kf : Nat) (x_39 : Int32) (x_40 : Int32) (x_41 : Int32), (0 ≤ x_39.toInt ∧ x_39.toInt ≤ 1) → (0 ≤ x_40.toInt ∧ x_40.toInt ≤ 407) → ((-1) ≤ x_41.toInt) → (tA.toInt ≤ x_40.toInt) → (x_40.toInt ≤ en.toInt + 7 - 4) → (-1 ≤ x_41.toInt) → ∀ (H : Heap) (locs : List Loc) (ls : Array Slot), ((en.toInt + 8 - x_40.toInt).toNat) < kf → va_P g.1 vwCl (List.flatten [bMo g o a th hi ac tp ba en x_40 x_41 4 iD iO tU fm fk fa fc ft ff fb fi]) H → va_D A (List.flatten [bMo g o a th hi ac tp ba en x_40 x_41 4 iD iO tU fm fk fa fc ft ff fb fi]) → va_S A s.heap H locs → lv_has ls 3 [(0, .ref o), (1, .int x_39)] → W p l e ({ frames := 16, cells := 0, slots := 0, locals := 352 } : Room) s m args below meth c H locs (0) (0) (zF g (fun u : Int32 × Int32 × Int32 => (fun (at2 : Int32) (fl2 : Int32) (q : Int32) => some (.int q)) (u.1) (u.2.1) (u.2.2)) (fun u : Int32 × Int32 × Int32 => (fun (at2 : Int32) (fl2 : Int32) (q : Int32) => (0 ≤ at2.toInt ∧ at2.toInt ≤ en.toInt + 7 - 4) ∧ (tA.toInt ≤ at2.toInt) ∧ (-1 ≤ fl2.toInt) ∧ (q = 0 ∨ q = 1)) (u.1) (u.2.1) (u.2.2)) (fun u : Int32 × Int32 × Int32 => (fun (at2 : Int32) (fl2 : Int32) (q : Int32) => [bMo g o a th hi ac tp ba en at2 fl2 4 iD iO tU fm fk fa fc ft ff fb fi]) (u.1) (u.2.1) (u.2.2)) ({ frames := 16, cells := 0, slots := 0, locals := 352 } : Room) below args s A) (F0 m 5 ls []) := by
      intro kf
      induction kf with
      | zero => intro x_39 x_40 x_41 i42 i43 i44 i45 i46 i47 H locs ls hk; exact absurd hk (Nat.not_lt_zero _)
      | succ kf ih5_49 =>
        intro x_39 x_40 x_41 i42 i43 i44 i45 i46 i47 H locs ls hk5_49 hP hD hS hl
        refine lv_aload_n hx hb dX12_some_5 rfl (lv_at hl 0 rfl) ?_
        refine va_get (D := g.1) (ci := 10) (v := .int x_41) (C := RX12) (T := TX12) (N := 20) hx hb hts izRX12 hown hK hP 0 rfl rfl 12 (by decide) (hts _ k820) (fun _ h9 => h9) rfl dX12_some_6 ?_
        refine lv_iconst (v := (-1)) hx hb dX12_some_9 (by decide) ?_
        refine lv_icmp_ne (tgt := 44) hx hb dX12_some_10 (by decide) (fun cb9 => ?_) (fun cb9 => ?_)
        · skip
          have c50 : ¬ x_41.toInt = (-1) := zne cb9 rfl (by decide)
          have n51 : 0 ≤ x_41.toInt := zN1 c50 i44 (by decide)
          refine lv_iload_n hx hb dX12_some_44 rfl (lv_at hl 1 rfl) ?_
          have hP : va_P g.1 vwCl (List.flatten [bMo g o a th hi ac tp ba en x_40 x_41 4 iD iO tU fm fk fa fc ft ff fb fi]) H := hP
          have hD : va_D A (List.flatten [bMo g o a th hi ac tp ba en x_40 x_41 4 iD iO tU fm fk fa fc ft ff fb fi]) := hD
          exact mret_z hx hb hr hlocks hS (Nat.le_of_ble_eq_true rfl) (Nat.le_of_ble_eq_true rfl) dX12_some_45 (x_40, x_41, x_39) rfl (by first | assumption | exact zb01 (by omega)) (show (0 ≤ x_40.toInt ∧ x_40.toInt ≤ en.toInt + 7 - 4) ∧ (tA.toInt ≤ x_40.toInt) ∧ (-1 ≤ x_41.toInt) ∧ (x_39 = 0 ∨ x_39 = 1) from ⟨(by first | assumption | omega | decide | exact rfl | exact zb01 (by omega) | exact Or.inl (by decide) | exact Or.inr (by first | omega | decide)), i45, i47, (by first | assumption | omega | decide | exact rfl | exact zb01 (by omega) | exact Or.inl (by decide) | exact Or.inr (by first | omega | decide))⟩) hP hD
        · skip
          have c52 : x_41.toInt = (-1) := zeq cb9 rfl (by decide)
          have n53 : x_41.toInt ≤ (-1) := Int.le_trans (Int.le_of_eq c52) (Int.le_refl _)
          refine lv_aload_n hx hb dX12_some_13 rfl (lv_at hl 0 rfl) ?_
          refine va_ldcS (q := g.2 102) hx hb hown (zra46 hT.2.1) dX12_some_14 ?_
          have hL4 : (4 : Int32).toInt = 4 := by decide
          refine mcallV' (g := g) (q0 := 0) (ci := 10) (As := [.ref (g.2 102)]) (rest := []) St hK hT hA hP hD hS hl.1 [0] [] rfl rfl rfl (m_has l g o a th hi ac tp ba en x_40 x_41 4 iD iO tU fm fk fa fc ft ff fb fi (g.2 102) 46 zqa46 hba hen (by first | assumption | omega | decide | exact Or.inl (by decide) | exact Or.inr (by decide)) i47 (by decide) rfl zla46 zna46) (cwV 1 hts (zgL (zl4 k899 k900 k901 k839) k889) rfl rfl rfl (by decide +kernel) ⟨Nat.le_of_ble_eq_true rfl, Nat.le_of_ble_eq_true rfl⟩) rfl rfl rfl rfl (Nat.le_of_ble_eq_true rfl) dX12_some_16 ⟨(Nat.le_of_ble_eq_true rfl), (Nat.le_of_ble_eq_true rfl)⟩ (fun u_ H locs hq56 hP hD hS => ?_)
          obtain ⟨at2_54, r_55⟩ := u_
          replace hq56 : (0 ≤ at2_54.toInt ∧ at2_54.toInt ≤ en.toInt + 7 - (4 : Int32).toInt) ∧ (x_40.toInt ≤ at2_54.toInt) ∧ (r_55 = 1 ∧ x_40.toInt < at2_54.toInt ∧ at2_54.toInt ≤ en.toInt ∨ r_55 = 0) := hq56
          have hP : va_P g.1 vwCl (List.flatten [bMo g o a th hi ac tp ba en at2_54 x_41 4 iD iO tU fm fk fa fc ft ff fb fi]) H := hP
          have hD : va_D A (List.flatten [bMo g o a th hi ac tp ba en at2_54 x_41 4 iD iO tU fm fk fa fc ft ff fb fi]) := hD
          refine W.widen (k := 0) (n := 0) (Nat.le_of_ble_eq_true rfl) (Nat.le_of_ble_eq_true rfl) ?_
          refine W.eq (g2 := F0 m 19 ls [.int r_55]) rfl ?_
          obtain ⟨hq56_0, hq56_1, hq56_2⟩ := hq56
          rcases hq56_2 with ⟨rfl, hq56_k⟩ | rfl
          · skip
            refine lv_if_eq (tgt := 44) hx hb dX12_some_19 (by decide) (fun c57 => absurd c57 (by decide)) (fun _ => ?_)
            refine lv_aload_n hx hb dX12_some_22 rfl (lv_at hl 0 rfl) ?_
            refine mcallV' (g := g) (q0 := 0) (ci := 10) (As := []) (rest := []) St hK hT hA hP hD hS hl.1 [0] [] rfl rfl rfl (m_every4 l g o a th hi ac tp ba en at2_54 x_41 iD iO tU fm fk fa fc ft ff fb fi hiD hiO hba hen (by first | assumption | omega | decide | exact Or.inl (by decide) | exact Or.inr (by decide)) i47 hde) (cwV 0 hts (zgL (zl4 k959 k960 k961 k839) k957) rfl rfl rfl (by decide +kernel) ⟨Nat.le_of_ble_eq_true rfl, Nat.le_of_ble_eq_true rfl⟩) rfl rfl rfl rfl (Nat.le_of_ble_eq_true rfl) dX12_some_23 ⟨(Nat.le_of_ble_eq_true rfl), (Nat.le_of_ble_eq_true rfl)⟩ (fun u_ H locs hq61 hP hD hS => ?_)
            obtain ⟨at2_58, fl2_59, q_60⟩ := u_
            replace hq61 : (0 ≤ at2_58.toInt ∧ at2_58.toInt ≤ en.toInt + 7 - 4) ∧ (at2_54.toInt ≤ at2_58.toInt) ∧ (-1 ≤ fl2_59.toInt) ∧ (q_60 = 0 ∨ q_60 = 1) := hq61
            have hP : va_P g.1 vwCl (List.flatten [bMo g o a th hi ac tp ba en at2_58 fl2_59 4 iD iO tU fm fk fa fc ft ff fb fi]) H := hP
            have hD : va_D A (List.flatten [bMo g o a th hi ac tp ba en at2_58 fl2_59 4 iD iO tU fm fk fa fc ft ff fb fi]) := hD
            refine W.widen (k := 0) (n := 0) (Nat.le_of_ble_eq_true rfl) (Nat.le_of_ble_eq_true rfl) ?_
            refine W.eq (g2 := F0 m 26 ls [.int q_60]) rfl ?_
            obtain ⟨hq61_0, hq61_1, hq61_2, hq61_3⟩ := hq61
            rcases hq61_3 with rfl | rfl
            · skip
              refine lv_istore_n (lv' := [(2, .int 0), (0, .ref o), (1, .int x_39)]) hx hb dX12_some_26 rfl hl (by decide) rfl (fun ls hl => ?_)
              refine lv_iload_n hx hb dX12_some_27 rfl (lv_at hl 2 rfl) ?_
              refine lv_if_ne (tgt := 35) hx hb dX12_some_28 (by decide) (fun cb9 => ?_) (fun cb9 => ?_)
              · skip
                have c62 : ¬ x_39.toInt = 0 := zne cb9 rfl (by decide)
                have n63 : 1 ≤ x_39.toInt := zN1 c62 i42.1 (by decide)
                refine lv_iconst (v := 1) hx hb dX12_some_35 (by decide) ?_
                refine lv_goto (tgt := 40) hx hb dX12_some_36 (by decide) ?_
                refine lv_istore_n (lv' := [(1, .int 1), (2, .int 0), (0, .ref o)]) hx hb dX12_some_40 rfl hl (by decide) rfl (fun ls hl => ?_)
                refine lv_goto (tgt := 5) hx hb dX12_some_41 (by decide) ?_
                have hl := lv_sub (l' := [(0, .ref o), (1, .int 1), (2, .int 0)]) hl [2, 0, 1] rfl
                have hL1 : (1 : Int32).toInt = 1 := by decide
                have hP : va_P g.1 vwCl (List.flatten [bMo g o a th hi ac tp ba en at2_58 fl2_59 4 iD iO tU fm fk fa fc ft ff fb fi]) H := hP
                have hD : va_D A (List.flatten [bMo g o a th hi ac tp ba en at2_58 fl2_59 4 iD iO tU fm fk fa fc ft ff fb fi]) := hD
                exact ih5_49 1 at2_58 fl2_59 (by decide) (by first | omega | assumption | decide) (by first | omega | assumption | decide) (by first | omega | assumption | decide) (by first | omega | assumption | decide) hq61_2 H _ ls (by omega)  hP hD hS (lv_sub hl [0, 1] rfl)
              · skip
                have c64 : x_39.toInt = 0 := zeq cb9 rfl (by decide)
                have n65 : x_39.toInt ≤ 0 := Int.le_trans (Int.le_of_eq c64) (Int.le_refl _)
                refine lv_iload_n hx hb dX12_some_31 rfl (lv_at hl 0 rfl) ?_
                refine lv_if_eq (tgt := 39) hx hb dX12_some_32 (by decide) (fun _ => ?_) (fun c66 => absurd (by decide) c66)
                refine lv_iconst (v := 0) hx hb dX12_some_39 (by decide) ?_
                refine lv_istore_n (lv' := [(1, .int 0), (2, .int 0), (0, .ref o)]) hx hb dX12_some_40 rfl hl (by decide) rfl (fun ls hl => ?_)
                refine lv_goto (tgt := 5) hx hb dX12_some_41 (by decide) ?_
                have hl := lv_sub (l' := [(0, .ref o), (1, .int 0), (2, .int 0)]) hl [2, 0, 1] rfl
                have hL0 : (0 : Int32).toInt = 0 := by decide
                have hP : va_P g.1 vwCl (List.flatten [bMo g o a th hi ac tp ba en at2_58 fl2_59 4 iD iO tU fm fk fa fc ft ff fb fi]) H := hP
                have hD : va_D A (List.flatten [bMo g o a th hi ac tp ba en at2_58 fl2_59 4 iD iO tU fm fk fa fc ft ff fb fi]) := hD
                exact ih5_49 0 at2_58 fl2_59 (by decide) (by first | omega | assumption | decide) (by first | omega | assumption | decide) (by first | omega | assumption | decide) (by first | omega | assumption | decide) hq61_2 H _ ls (by omega)  hP hD hS (lv_sub hl [0, 1] rfl)
            · skip
              refine lv_istore_n (lv' := [(2, .int 1), (0, .ref o), (1, .int x_39)]) hx hb dX12_some_26 rfl hl (by decide) rfl (fun ls hl => ?_)
              refine lv_iload_n hx hb dX12_some_27 rfl (lv_at hl 2 rfl) ?_
              refine lv_if_ne (tgt := 35) hx hb dX12_some_28 (by decide) (fun cb9 => ?_) (fun cb9 => ?_)
              · skip
                have c67 : ¬ x_39.toInt = 0 := zne cb9 rfl (by decide)
                have n68 : 1 ≤ x_39.toInt := zN1 c67 i42.1 (by decide)
                refine lv_iconst (v := 1) hx hb dX12_some_35 (by decide) ?_
                refine lv_goto (tgt := 40) hx hb dX12_some_36 (by decide) ?_
                refine lv_istore_n (lv' := [(1, .int 1), (2, .int 1), (0, .ref o)]) hx hb dX12_some_40 rfl hl (by decide) rfl (fun ls hl => ?_)
                refine lv_goto (tgt := 5) hx hb dX12_some_41 (by decide) ?_
                have hl := lv_sub (l' := [(0, .ref o), (1, .int 1), (2, .int 1)]) hl [2, 0, 1] rfl
                have hL1 : (1 : Int32).toInt = 1 := by decide
                have hP : va_P g.1 vwCl (List.flatten [bMo g o a th hi ac tp ba en at2_58 fl2_59 4 iD iO tU fm fk fa fc ft ff fb fi]) H := hP
                have hD : va_D A (List.flatten [bMo g o a th hi ac tp ba en at2_58 fl2_59 4 iD iO tU fm fk fa fc ft ff fb fi]) := hD
                exact ih5_49 1 at2_58 fl2_59 (by decide) (by first | omega | assumption | decide) (by first | omega | assumption | decide) (by first | omega | assumption | decide) (by first | omega | assumption | decide) hq61_2 H _ ls (by omega)  hP hD hS (lv_sub hl [0, 1] rfl)
              · skip
                have c69 : x_39.toInt = 0 := zeq cb9 rfl (by decide)
                have n70 : x_39.toInt ≤ 0 := Int.le_trans (Int.le_of_eq c69) (Int.le_refl _)
                refine lv_iload_n hx hb dX12_some_31 rfl (lv_at hl 0 rfl) ?_
                refine lv_if_eq (tgt := 39) hx hb dX12_some_32 (by decide) (fun c71 => absurd c71 (by decide)) (fun _ => ?_)
                refine lv_iconst (v := 1) hx hb dX12_some_35 (by decide) ?_
                refine lv_goto (tgt := 40) hx hb dX12_some_36 (by decide) ?_
                refine lv_istore_n (lv' := [(1, .int 1), (2, .int 1), (0, .ref o)]) hx hb dX12_some_40 rfl hl (by decide) rfl (fun ls hl => ?_)
                refine lv_goto (tgt := 5) hx hb dX12_some_41 (by decide) ?_
                have hl := lv_sub (l' := [(0, .ref o), (1, .int 1), (2, .int 1)]) hl [2, 0, 1] rfl
                have hL1 : (1 : Int32).toInt = 1 := by decide
                have hP : va_P g.1 vwCl (List.flatten [bMo g o a th hi ac tp ba en at2_58 fl2_59 4 iD iO tU fm fk fa fc ft ff fb fi]) H := hP
                have hD : va_D A (List.flatten [bMo g o a th hi ac tp ba en at2_58 fl2_59 4 iD iO tU fm fk fa fc ft ff fb fi]) := hD
                exact ih5_49 1 at2_58 fl2_59 (by decide) (by first | omega | assumption | decide) (by first | omega | assumption | decide) (by first | omega | assumption | decide) (by first | omega | assumption | decide) hq61_2 H _ ls (by omega)  hP hD hS (lv_sub hl [0, 1] rfl)
          · skip
            refine lv_if_eq (tgt := 44) hx hb dX12_some_19 (by decide) (fun _ => ?_) (fun c72 => absurd (by decide) c72)
            refine lv_iload_n hx hb dX12_some_44 rfl (lv_at hl 1 rfl) ?_
            have hP : va_P g.1 vwCl (List.flatten [bMo g o a th hi ac tp ba en at2_54 x_41 4 iD iO tU fm fk fa fc ft ff fb fi]) H := hP
            have hD : va_D A (List.flatten [bMo g o a th hi ac tp ba en at2_54 x_41 4 iD iO tU fm fk fa fc ft ff fb fi]) := hD
            exact mret_z hx hb hr hlocks hS (Nat.le_of_ble_eq_true rfl) (Nat.le_of_ble_eq_true rfl) dX12_some_45 (at2_54, x_41, x_39) rfl (by first | assumption | exact zb01 (by omega)) (show (0 ≤ at2_54.toInt ∧ at2_54.toInt ≤ en.toInt + 7 - 4) ∧ (tA.toInt ≤ at2_54.toInt) ∧ (-1 ≤ x_41.toInt) ∧ (x_39 = 0 ∨ x_39 = 1) from ⟨(by first | assumption | omega | decide | exact rfl | exact zb01 (by omega) | exact Or.inl (by decide) | exact Or.inr (by first | omega | decide)), (by first | assumption | omega | decide | exact rfl | exact zb01 (by omega) | exact Or.inl (by decide) | exact Or.inr (by first | omega | decide)), i47, (by first | assumption | omega | decide | exact rfl | exact zb01 (by omega) | exact Or.inl (by decide) | exact Or.inr (by first | omega | decide))⟩) hP hD
    have hL1 : (1 : Int32).toInt = 1 := by decide
    have hP : va_P g.1 vwCl (List.flatten [bMo g o a th hi ac tp ba en at2_1 fl2_2 4 iD iO tU fm fk fa fc ft ff fb fi]) H := hP
    have hD : va_D A (List.flatten [bMo g o a th hi ac tp ba en at2_1 fl2_2 4 iD iO tU fm fk fa fc ft ff fb fi]) := hD
    exact LP5_48 _ 1 at2_1 fl2_2 (by decide) (by first | omega | assumption | decide) (by first | omega | assumption | decide) hq4_1 (by first | omega | assumption | decide) hq4_2 H _ ls (Nat.lt_succ_self _)  hP hD hS (lv_sub hl [0, 1] rfl)
set_option maxRecDepth 100000 in
set_option maxHeartbeats 4000000 in
theorem m_atom3 (l : Launch) (g : zG) (o : Nat) (a : Nat → Nat) (th : Int32) (hi : Int32) (ac : Int32) (tp : Int32) (ba : Int32) (en : Int32) (tA : Int32) (fl : Int32) (iD : Int32) (iO : Int32) (tU : Int32) (fm : Nat → Int32) (fk : Nat → Int32) (fa : Nat → Int32) (fc : Nat → Int32) (ft : Nat → Int32) (ff : Nat → Int32) (fb : Nat → Int32) (fi : Nat → Int32) (hiD : 0 ≤ iD.toInt ∧ iD.toInt ≤ 1) (hiO : 0 ≤ iO.toInt ∧ iO.toInt ≤ 1) (hba : zBa ba.toInt) (hen : 0 ≤ en.toInt ∧ en.toInt ≤ 400) (htA : 0 ≤ tA.toInt ∧ tA.toInt ≤ en.toInt + 7 - 3) (hfl : -1 ≤ fl.toInt) (hde : 0 ≤ 3 ∧ 3 ≤ 6) : zM' g l yX12_atom (Cond.code yX12_atom cX12_atom 4 (some .boolean) :: zB) ({ frames := 17, cells := 0, slots := 0, locals := 374 } : Room) [.ref o] [bMo g o a th hi ac tp ba en tA fl 3 iD iO tU fm fk fa fc ft ff fb fi] (fun u : Int32 × Int32 × Int32 => (fun (at2 : Int32) (fl2 : Int32) (q : Int32) => some (.int q)) (u.1) (u.2.1) (u.2.2)) (fun u : Int32 × Int32 × Int32 => (fun (at2 : Int32) (fl2 : Int32) (q : Int32) => (0 ≤ at2.toInt ∧ at2.toInt ≤ en.toInt + 7 - 3) ∧ (tA.toInt ≤ at2.toInt) ∧ (-1 ≤ fl2.toInt) ∧ (q = 0 ∨ q = 1)) (u.1) (u.2.1) (u.2.2)) (fun u : Int32 × Int32 × Int32 => (fun (at2 : Int32) (fl2 : Int32) (q : Int32) => [bMo g o a th hi ac tp ba en at2 fl2 3 iD iO tU fm fk fa fc ft ff fb fi]) (u.1) (u.2.1) (u.2.2)) := by
  refine zM'.of (cc := cX12_atom) (maxL := 4) (rt := (some .boolean)) (by decide) rfl (Nat.le_of_ble_eq_true rfl) ?_
  intro p e s m args below meth c A ls St hr hlocks hin hK hT hA hP hD hS hl
  obtain ⟨hx, hb, hml, hown, hts⟩ := id St
  have hl : lv_has ls 4 [(0, .ref o)] := hl
  refine lv_aload_n hx hb dX12_atom_0 rfl (lv_at hl 0 rfl) ?_
  refine va_get (D := g.1) (ci := 10) (v := .int fl) (C := RX12) (T := TX12) (N := 20) hx hb hts izRX12 hown hK hP 0 rfl rfl 12 (by decide) (hts _ k820) (fun _ h9 => h9) rfl dX12_atom_1 ?_
  refine lv_iconst (v := (-1)) hx hb dX12_atom_4 (by decide) ?_
  refine lv_icmp_eq (tgt := 10) hx hb dX12_atom_5 (by decide) (fun cb9 => ?_) (fun cb9 => ?_)
  · skip
    have c1 : fl.toInt = (-1) := zeq cb9 rfl (by decide)
    have n2 : fl.toInt ≤ (-1) := Int.le_trans (Int.le_of_eq c1) (Int.le_refl _)
    refine lv_aload_n hx hb dX12_atom_10 rfl (lv_at hl 0 rfl) ?_
    have hL3 : (3 : Int32).toInt = 3 := by decide
    refine mcallV' (g := g) (q0 := 0) (ci := 10) (As := []) (rest := []) St hK hT hA hP hD hS hl.1 [0] [] rfl rfl rfl (m_here l g o a th hi ac tp ba en tA fl 3 iD iO tU fm fk fa fc ft ff fb fi hba hen (by first | assumption | omega | decide | exact Or.inl (by decide) | exact Or.inr (by decide)) hfl (by decide)) (cwV 0 hts (zgL (zl4 k892 k893 k894 k839) k891) rfl rfl rfl (by decide +kernel) ⟨Nat.le_of_ble_eq_true rfl, Nat.le_of_ble_eq_true rfl⟩) rfl rfl rfl rfl (Nat.le_of_ble_eq_true rfl) dX12_atom_11 ⟨(Nat.le_of_ble_eq_true rfl), (Nat.le_of_ble_eq_true rfl)⟩ (fun at2_3 H locs hq4 hP hD hS => ?_)
    replace hq4 : (0 ≤ at2_3.toInt ∧ at2_3.toInt ≤ en.toInt + 7 - (3 : Int32).toInt) ∧ (tA.toInt ≤ at2_3.toInt) := hq4
    have hP : va_P g.1 vwCl (List.flatten [bMo g o a th hi ac tp ba en at2_3 fl 3 iD iO tU fm fk fa fc ft ff fb fi]) H := hP
    have hD : va_D A (List.flatten [bMo g o a th hi ac tp ba en at2_3 fl 3 iD iO tU fm fk fa fc ft ff fb fi]) := hD
    refine W.widen (k := 0) (n := 0) (Nat.le_of_ble_eq_true rfl) (Nat.le_of_ble_eq_true rfl) ?_
    refine W.eq (g2 := F0 m 14 ls [.int at2_3]) rfl ?_
    obtain ⟨hq4_0, hq4_1⟩ := hq4
    refine lv_istore_n (lv' := [(1, .int at2_3), (0, .ref o)]) hx hb dX12_atom_14 rfl hl (by decide) rfl (fun ls hl => ?_)
    refine lv_aload_n hx hb dX12_atom_15 rfl (lv_at hl 1 rfl) ?_
    refine va_ldcS (q := g.2 98) hx hb hown (zra44 hT.2.1) dX12_atom_16 ?_
    refine mcallV' (g := g) (q0 := 0) (ci := 10) (As := [.ref (g.2 98)]) (rest := []) St hK hT hA hP hD hS hl.1 [0] [] rfl rfl rfl (m_has l g o a th hi ac tp ba en at2_3 fl 3 iD iO tU fm fk fa fc ft ff fb fi (g.2 98) 44 zqa44 hba hen hq4_0 hfl (by decide) rfl zla44 zna44) (cwV 1 hts (zgL (zl4 k899 k900 k901 k839) k889) rfl rfl rfl (by decide +kernel) ⟨Nat.le_of_ble_eq_true rfl, Nat.le_of_ble_eq_true rfl⟩) rfl rfl rfl rfl (Nat.le_of_ble_eq_true rfl) dX12_atom_18 ⟨(Nat.le_of_ble_eq_true rfl), (Nat.le_of_ble_eq_true rfl)⟩ (fun u_ H locs hq7 hP hD hS => ?_)
    obtain ⟨at2_5, r_6⟩ := u_
    replace hq7 : (0 ≤ at2_5.toInt ∧ at2_5.toInt ≤ en.toInt + 7 - (3 : Int32).toInt) ∧ (at2_3.toInt ≤ at2_5.toInt) ∧ (r_6 = 1 ∧ at2_3.toInt < at2_5.toInt ∧ at2_5.toInt ≤ en.toInt ∨ r_6 = 0) := hq7
    have hP : va_P g.1 vwCl (List.flatten [bMo g o a th hi ac tp ba en at2_5 fl 3 iD iO tU fm fk fa fc ft ff fb fi]) H := hP
    have hD : va_D A (List.flatten [bMo g o a th hi ac tp ba en at2_5 fl 3 iD iO tU fm fk fa fc ft ff fb fi]) := hD
    refine W.widen (k := 0) (n := 0) (Nat.le_of_ble_eq_true rfl) (Nat.le_of_ble_eq_true rfl) ?_
    refine W.eq (g2 := F0 m 21 ls [.int r_6]) rfl ?_
    obtain ⟨hq7_0, hq7_1, hq7_2⟩ := hq7
    rcases hq7_2 with ⟨rfl, hq7_k⟩ | rfl
    · skip
      refine lv_istore_n (lv' := [(2, .int 1), (1, .int at2_3), (0, .ref o)]) hx hb dX12_atom_21 rfl hl (by decide) rfl (fun ls hl => ?_)
      refine lv_iload_n hx hb dX12_atom_22 rfl (lv_at hl 0 rfl) ?_
      refine lv_if_ne (tgt := 40) hx hb dX12_atom_23 (by decide) (fun _ => ?_) (fun c8 => absurd c8 (by decide))
      refine lv_aload_n hx hb dX12_atom_40 rfl (lv_at hl 2 rfl) ?_
      refine va_get (D := g.1) (ci := 10) (v := .int 3) (C := RX12) (T := TX12) (N := 20) hx hb hts izRX12 hown hK hP 0 rfl rfl 13 (by decide) (hts _ k933) (fun _ h9 => h9) rfl dX12_atom_41 ?_
      refine lv_bipush (v := 6) hx hb dX12_atom_44 (by decide) ?_
      refine lv_icmp_ne (tgt := 56) hx hb dX12_atom_46 (by decide) (fun _ => ?_) (fun c9 => absurd c9 (by decide))
      refine lv_aload_n hx hb dX12_atom_56 rfl (lv_at hl 2 rfl) ?_
      refine lv_dup hx hb dX12_atom_57 rfl ?_
      refine va_get (D := g.1) (ci := 10) (v := .int 3) (C := RX12) (T := TX12) (N := 20) hx hb hts izRX12 hown hK hP 0 rfl rfl 13 (by decide) (hts _ k933) (fun _ h9 => h9) rfl dX12_atom_58 ?_
      refine lv_iconst (v := 1) hx hb dX12_atom_61 (by decide) ?_
      refine lv_iadd hx hb dX12_atom_62 ?_
      refine ztop (r := 4) (by decide) ?_
      refine va_put (D := g.1) (ci := 10) (v := .int 4) (ty := .int) (C := RX12) (T := TX12) (N := 20) hx hb hts izRX12 tyX12 tyX12_ok nmX12 hown hK hP hD hS 0 rfl rfl 13 (by decide) (hts _ k933) (fun _ h9 => h9) rfl (by decide +kernel) rfl rfl (Nat.le_of_ble_eq_true rfl) dX12_atom_63 (fun H locs hP hD hS => ?_)
      have hP : va_P g.1 vwCl (List.flatten [bMo g o a th hi ac tp ba en at2_5 fl 4 iD iO tU fm fk fa fc ft ff fb fi]) H := hP
      have hD : va_D A (List.flatten [bMo g o a th hi ac tp ba en at2_5 fl 4 iD iO tU fm fk fa fc ft ff fb fi]) := hD
      refine lv_iconst (v := 0) hx hb dX12_atom_66 (by decide) ?_
      refine lv_istore_n (lv' := [(3, .int 0), (2, .int 1), (1, .int at2_3), (0, .ref o)]) hx hb dX12_atom_67 rfl hl (by decide) rfl (fun ls hl => ?_)
      refine lv_iload_n hx hb dX12_atom_68 rfl (lv_at hl 1 rfl) ?_
      refine lv_if_eq (tgt := 88) hx hb dX12_atom_69 (by decide) (fun c10 => absurd c10 (by decide)) (fun _ => ?_)
      refine lv_aload_n hx hb dX12_atom_72 rfl (lv_at hl 3 rfl) ?_
      refine mcallV' (g := g) (q0 := 0) (ci := 10) (As := []) (rest := []) St hK hT hA hP hD hS hl.1 [0] [] rfl rfl rfl (m_atom4 l g o a th hi ac tp ba en at2_5 fl iD iO tU fm fk fa fc ft ff fb fi hiD hiO hba hen (by first | assumption | omega | decide | exact Or.inl (by decide) | exact Or.inr (by decide)) hfl (by first | assumption | omega | decide | exact Or.inl (by decide) | exact Or.inr (by decide))) (cwV 0 hts (zgL (zl4 k951 k952 k953 k839) k962) rfl rfl rfl (by decide +kernel) ⟨Nat.le_of_ble_eq_true rfl, Nat.le_of_ble_eq_true rfl⟩) rfl rfl rfl rfl (Nat.le_of_ble_eq_true rfl) dX12_atom_73 ⟨(Nat.le_of_ble_eq_true rfl), (Nat.le_of_ble_eq_true rfl)⟩ (fun u_ H locs hq14 hP hD hS => ?_)
      obtain ⟨at2_11, fl2_12, q_13⟩ := u_
      replace hq14 : (0 ≤ at2_11.toInt ∧ at2_11.toInt ≤ en.toInt + 7 - 4) ∧ (at2_5.toInt ≤ at2_11.toInt) ∧ (-1 ≤ fl2_12.toInt) ∧ (q_13 = 0 ∨ q_13 = 1) := hq14
      have hP : va_P g.1 vwCl (List.flatten [bMo g o a th hi ac tp ba en at2_11 fl2_12 4 iD iO tU fm fk fa fc ft ff fb fi]) H := hP
      have hD : va_D A (List.flatten [bMo g o a th hi ac tp ba en at2_11 fl2_12 4 iD iO tU fm fk fa fc ft ff fb fi]) := hD
      refine W.widen (k := 0) (n := 0) (Nat.le_of_ble_eq_true rfl) (Nat.le_of_ble_eq_true rfl) ?_
      refine W.eq (g2 := F0 m 76 ls [.int q_13]) rfl ?_
      obtain ⟨hq14_0, hq14_1, hq14_2, hq14_3⟩ := hq14
      rcases hq14_3 with rfl | rfl
      · skip
        refine lv_if_ne (tgt := 83) hx hb dX12_atom_76 (by decide) (fun c15 => absurd (by decide) c15) (fun _ => ?_)
        refine lv_iconst (v := 1) hx hb dX12_atom_79 (by decide) ?_
        refine lv_goto (tgt := 84) hx hb dX12_atom_80 (by decide) ?_
        refine lv_istore_n (lv' := [(3, .int 1), (2, .int 1), (1, .int at2_3), (0, .ref o)]) hx hb dX12_atom_84 rfl hl (by decide) rfl (fun ls hl => ?_)
        refine lv_goto (tgt := 138) hx hb dX12_atom_85 (by decide) ?_
        refine lv_aload_n hx hb dX12_atom_138 rfl (lv_at hl 3 rfl) ?_
        refine lv_dup hx hb dX12_atom_139 rfl ?_
        refine va_get (D := g.1) (ci := 10) (v := .int 4) (C := RX12) (T := TX12) (N := 20) hx hb hts izRX12 hown hK hP 0 rfl rfl 13 (by decide) (hts _ k933) (fun _ h9 => h9) rfl dX12_atom_140 ?_
        refine lv_iconst (v := 1) hx hb dX12_atom_143 (by decide) ?_
        refine lv_isub hx hb dX12_atom_144 ?_
        refine ztop (r := 3) (by decide) ?_
        refine va_put (D := g.1) (ci := 10) (v := .int 3) (ty := .int) (C := RX12) (T := TX12) (N := 20) hx hb hts izRX12 tyX12 tyX12_ok nmX12 hown hK hP hD hS 0 rfl rfl 13 (by decide) (hts _ k933) (fun _ h9 => h9) rfl (by decide +kernel) rfl rfl (Nat.le_of_ble_eq_true rfl) dX12_atom_145 (fun H locs hP hD hS => ?_)
        have hP : va_P g.1 vwCl (List.flatten [bMo g o a th hi ac tp ba en at2_11 fl2_12 3 iD iO tU fm fk fa fc ft ff fb fi]) H := hP
        have hD : va_D A (List.flatten [bMo g o a th hi ac tp ba en at2_11 fl2_12 3 iD iO tU fm fk fa fc ft ff fb fi]) := hD
        refine lv_iload_n hx hb dX12_atom_148 rfl (lv_at hl 0 rfl) ?_
        have hP : va_P g.1 vwCl (List.flatten [bMo g o a th hi ac tp ba en at2_11 fl2_12 3 iD iO tU fm fk fa fc ft ff fb fi]) H := hP
        have hD : va_D A (List.flatten [bMo g o a th hi ac tp ba en at2_11 fl2_12 3 iD iO tU fm fk fa fc ft ff fb fi]) := hD
        exact mret_z hx hb hr hlocks hS (Nat.le_of_ble_eq_true rfl) (Nat.le_of_ble_eq_true rfl) dX12_atom_149 (at2_11, fl2_12, (1 : Int32)) rfl (by decide) (show (0 ≤ at2_11.toInt ∧ at2_11.toInt ≤ en.toInt + 7 - 3) ∧ (tA.toInt ≤ at2_11.toInt) ∧ (-1 ≤ fl2_12.toInt) ∧ (1 = 0 ∨ 1 = 1) from ⟨(by first | assumption | omega | decide | exact rfl | exact zb01 (by omega) | exact Or.inl (by decide) | exact Or.inr (by first | omega | decide)), (by first | assumption | omega | decide | exact rfl | exact zb01 (by omega) | exact Or.inl (by decide) | exact Or.inr (by first | omega | decide)), hq14_2, (by decide)⟩) hP hD
      · skip
        refine lv_if_ne (tgt := 83) hx hb dX12_atom_76 (by decide) (fun _ => ?_) (fun c16 => absurd c16 (by decide))
        refine lv_iconst (v := 0) hx hb dX12_atom_83 (by decide) ?_
        refine lv_istore_n (lv' := [(3, .int 0), (2, .int 1), (1, .int at2_3), (0, .ref o)]) hx hb dX12_atom_84 rfl hl (by decide) rfl (fun ls hl => ?_)
        refine lv_goto (tgt := 138) hx hb dX12_atom_85 (by decide) ?_
        refine lv_aload_n hx hb dX12_atom_138 rfl (lv_at hl 3 rfl) ?_
        refine lv_dup hx hb dX12_atom_139 rfl ?_
        refine va_get (D := g.1) (ci := 10) (v := .int 4) (C := RX12) (T := TX12) (N := 20) hx hb hts izRX12 hown hK hP 0 rfl rfl 13 (by decide) (hts _ k933) (fun _ h9 => h9) rfl dX12_atom_140 ?_
        refine lv_iconst (v := 1) hx hb dX12_atom_143 (by decide) ?_
        refine lv_isub hx hb dX12_atom_144 ?_
        refine ztop (r := 3) (by decide) ?_
        refine va_put (D := g.1) (ci := 10) (v := .int 3) (ty := .int) (C := RX12) (T := TX12) (N := 20) hx hb hts izRX12 tyX12 tyX12_ok nmX12 hown hK hP hD hS 0 rfl rfl 13 (by decide) (hts _ k933) (fun _ h9 => h9) rfl (by decide +kernel) rfl rfl (Nat.le_of_ble_eq_true rfl) dX12_atom_145 (fun H locs hP hD hS => ?_)
        have hP : va_P g.1 vwCl (List.flatten [bMo g o a th hi ac tp ba en at2_11 fl2_12 3 iD iO tU fm fk fa fc ft ff fb fi]) H := hP
        have hD : va_D A (List.flatten [bMo g o a th hi ac tp ba en at2_11 fl2_12 3 iD iO tU fm fk fa fc ft ff fb fi]) := hD
        refine lv_iload_n hx hb dX12_atom_148 rfl (lv_at hl 0 rfl) ?_
        have hP : va_P g.1 vwCl (List.flatten [bMo g o a th hi ac tp ba en at2_11 fl2_12 3 iD iO tU fm fk fa fc ft ff fb fi]) H := hP
        have hD : va_D A (List.flatten [bMo g o a th hi ac tp ba en at2_11 fl2_12 3 iD iO tU fm fk fa fc ft ff fb fi]) := hD
        exact mret_z hx hb hr hlocks hS (Nat.le_of_ble_eq_true rfl) (Nat.le_of_ble_eq_true rfl) dX12_atom_149 (at2_11, fl2_12, (0 : Int32)) rfl (by decide) (show (0 ≤ at2_11.toInt ∧ at2_11.toInt ≤ en.toInt + 7 - 3) ∧ (tA.toInt ≤ at2_11.toInt) ∧ (-1 ≤ fl2_12.toInt) ∧ (0 = 0 ∨ 0 = 1) from ⟨(by first | assumption | omega | decide | exact rfl | exact zb01 (by omega) | exact Or.inl (by decide) | exact Or.inr (by first | omega | decide)), (by first | assumption | omega | decide | exact rfl | exact zb01 (by omega) | exact Or.inl (by decide) | exact Or.inr (by first | omega | decide)), hq14_2, (by decide)⟩) hP hD
    · skip
      refine lv_istore_n (lv' := [(2, .int 0), (1, .int at2_3), (0, .ref o)]) hx hb dX12_atom_21 rfl hl (by decide) rfl (fun ls hl => ?_)
      refine lv_iload_n hx hb dX12_atom_22 rfl (lv_at hl 0 rfl) ?_
      refine lv_if_ne (tgt := 40) hx hb dX12_atom_23 (by decide) (fun c17 => absurd (by decide) c17) (fun _ => ?_)
      refine lv_aload_n hx hb dX12_atom_26 rfl (lv_at hl 2 rfl) ?_
      refine lv_bipush (v := 40) hx hb dX12_atom_27 (by decide) ?_
      refine mcallV' (g := g) (q0 := 0) (ci := 10) (As := [.int 40]) (rest := []) St hK hT hA hP hD hS hl.1 [0] [] rfl rfl rfl (m_isSign l g o a th hi ac tp ba en at2_5 fl 3 iD iO tU fm fk fa fc ft ff fb fi 40 hba hen hq7_0 hfl (by decide)) (cwV 1 hts (zgL (zl4 k938 k939 k940 k839) k883) rfl rfl rfl (by decide +kernel) ⟨Nat.le_of_ble_eq_true rfl, Nat.le_of_ble_eq_true rfl⟩) rfl rfl rfl rfl (Nat.le_of_ble_eq_true rfl) dX12_atom_29 ⟨(Nat.le_of_ble_eq_true rfl), (Nat.le_of_ble_eq_true rfl)⟩ (fun u_ H locs hq20 hP hD hS => ?_)
      obtain ⟨at2_18, q_19⟩ := u_
      replace hq20 : (0 ≤ at2_18.toInt ∧ at2_18.toInt ≤ en.toInt + 7 - (3 : Int32).toInt) ∧ (at2_5.toInt ≤ at2_18.toInt) ∧ (q_19 = 1 ∧ at2_18.toInt < en.toInt ∨ q_19 = 0) := hq20
      have hP : va_P g.1 vwCl (List.flatten [bMo g o a th hi ac tp ba en at2_18 fl 3 iD iO tU fm fk fa fc ft ff fb fi]) H := hP
      have hD : va_D A (List.flatten [bMo g o a th hi ac tp ba en at2_18 fl 3 iD iO tU fm fk fa fc ft ff fb fi]) := hD
      refine W.widen (k := 0) (n := 0) (Nat.le_of_ble_eq_true rfl) (Nat.le_of_ble_eq_true rfl) ?_
      refine W.eq (g2 := F0 m 32 ls [.int q_19]) rfl ?_
      obtain ⟨hq20_0, hq20_1, hq20_2⟩ := hq20
      rcases hq20_2 with ⟨rfl, hq20_k⟩ | rfl
      · skip
        refine lv_if_ne (tgt := 40) hx hb dX12_atom_32 (by decide) (fun _ => ?_) (fun c21 => absurd c21 (by decide))
        refine lv_aload_n hx hb dX12_atom_40 rfl (lv_at hl 2 rfl) ?_
        refine va_get (D := g.1) (ci := 10) (v := .int 3) (C := RX12) (T := TX12) (N := 20) hx hb hts izRX12 hown hK hP 0 rfl rfl 13 (by decide) (hts _ k933) (fun _ h9 => h9) rfl dX12_atom_41 ?_
        refine lv_bipush (v := 6) hx hb dX12_atom_44 (by decide) ?_
        refine lv_icmp_ne (tgt := 56) hx hb dX12_atom_46 (by decide) (fun _ => ?_) (fun c22 => absurd c22 (by decide))
        refine lv_aload_n hx hb dX12_atom_56 rfl (lv_at hl 2 rfl) ?_
        refine lv_dup hx hb dX12_atom_57 rfl ?_
        refine va_get (D := g.1) (ci := 10) (v := .int 3) (C := RX12) (T := TX12) (N := 20) hx hb hts izRX12 hown hK hP 0 rfl rfl 13 (by decide) (hts _ k933) (fun _ h9 => h9) rfl dX12_atom_58 ?_
        refine lv_iconst (v := 1) hx hb dX12_atom_61 (by decide) ?_
        refine lv_iadd hx hb dX12_atom_62 ?_
        refine ztop (r := 4) (by decide) ?_
        refine va_put (D := g.1) (ci := 10) (v := .int 4) (ty := .int) (C := RX12) (T := TX12) (N := 20) hx hb hts izRX12 tyX12 tyX12_ok nmX12 hown hK hP hD hS 0 rfl rfl 13 (by decide) (hts _ k933) (fun _ h9 => h9) rfl (by decide +kernel) rfl rfl (Nat.le_of_ble_eq_true rfl) dX12_atom_63 (fun H locs hP hD hS => ?_)
        have hP : va_P g.1 vwCl (List.flatten [bMo g o a th hi ac tp ba en at2_18 fl 4 iD iO tU fm fk fa fc ft ff fb fi]) H := hP
        have hD : va_D A (List.flatten [bMo g o a th hi ac tp ba en at2_18 fl 4 iD iO tU fm fk fa fc ft ff fb fi]) := hD
        refine lv_iconst (v := 0) hx hb dX12_atom_66 (by decide) ?_
        refine lv_istore_n (lv' := [(3, .int 0), (2, .int 0), (1, .int at2_3), (0, .ref o)]) hx hb dX12_atom_67 rfl hl (by decide) rfl (fun ls hl => ?_)
        refine lv_iload_n hx hb dX12_atom_68 rfl (lv_at hl 1 rfl) ?_
        refine lv_if_eq (tgt := 88) hx hb dX12_atom_69 (by decide) (fun _ => ?_) (fun c23 => absurd (by decide) c23)
        refine lv_aload_n hx hb dX12_atom_88 rfl (lv_at hl 3 rfl) ?_
        refine lv_dup hx hb dX12_atom_89 rfl ?_
        refine va_get (D := g.1) (ci := 10) (v := .int at2_18) (C := RX12) (T := TX12) (N := 20) hx hb hts izRX12 hown hK hP 0 rfl rfl 11 (by decide) (hts _ k878) (fun _ h9 => h9) rfl dX12_atom_90 ?_
        refine lv_iconst (v := 1) hx hb dX12_atom_93 (by decide) ?_
        refine lv_iadd hx hb dX12_atom_94 ?_
        refine zgv (zadd (i := at2_18.toInt) (j := 1) rfl (by decide) (by omega)) (fun x_24 hx_24 => ?_)
        refine va_put (D := g.1) (ci := 10) (v := .int x_24) (ty := .int) (C := RX12) (T := TX12) (N := 20) hx hb hts izRX12 tyX12 tyX12_ok nmX12 hown hK hP hD hS 0 rfl rfl 11 (by decide) (hts _ k878) (fun _ h9 => h9) rfl (by decide +kernel) rfl rfl (Nat.le_of_ble_eq_true rfl) dX12_atom_95 (fun H locs hP hD hS => ?_)
        have hP : va_P g.1 vwCl (List.flatten [bMo g o a th hi ac tp ba en x_24 fl 4 iD iO tU fm fk fa fc ft ff fb fi]) H := hP
        have hD : va_D A (List.flatten [bMo g o a th hi ac tp ba en x_24 fl 4 iD iO tU fm fk fa fc ft ff fb fi]) := hD
        refine lv_aload_n hx hb dX12_atom_98 rfl (lv_at hl 3 rfl) ?_
        refine mcallV' (g := g) (q0 := 0) (ci := 10) (As := []) (rest := []) St hK hT hA hP hD hS hl.1 [0] [] rfl rfl rfl (m_some4 l g o a th hi ac tp ba en x_24 fl iD iO tU fm fk fa fc ft ff fb fi hiD hiO hba hen (by first | assumption | omega | decide | exact Or.inl (by decide) | exact Or.inr (by decide)) hfl (by first | assumption | omega | decide | exact Or.inl (by decide) | exact Or.inr (by decide))) (cwV 0 hts (zgL (zl4 k954 k955 k956 k839) k958) rfl rfl rfl (by decide +kernel) ⟨Nat.le_of_ble_eq_true rfl, Nat.le_of_ble_eq_true rfl⟩) rfl rfl rfl rfl (Nat.le_of_ble_eq_true rfl) dX12_atom_99 ⟨(Nat.le_of_ble_eq_true rfl), (Nat.le_of_ble_eq_true rfl)⟩ (fun u_ H locs hq28 hP hD hS => ?_)
        obtain ⟨at2_25, fl2_26, q_27⟩ := u_
        replace hq28 : (0 ≤ at2_25.toInt ∧ at2_25.toInt ≤ en.toInt + 7 - 4) ∧ (x_24.toInt ≤ at2_25.toInt) ∧ (-1 ≤ fl2_26.toInt) ∧ (q_27 = 0 ∨ q_27 = 1) := hq28
        have hP : va_P g.1 vwCl (List.flatten [bMo g o a th hi ac tp ba en at2_25 fl2_26 4 iD iO tU fm fk fa fc ft ff fb fi]) H := hP
        have hD : va_D A (List.flatten [bMo g o a th hi ac tp ba en at2_25 fl2_26 4 iD iO tU fm fk fa fc ft ff fb fi]) := hD
        refine W.widen (k := 0) (n := 0) (Nat.le_of_ble_eq_true rfl) (Nat.le_of_ble_eq_true rfl) ?_
        refine W.eq (g2 := F0 m 102 ls [.int q_27]) rfl ?_
        obtain ⟨hq28_0, hq28_1, hq28_2, hq28_3⟩ := hq28
        rcases hq28_3 with rfl | rfl
        · skip
          refine lv_istore_n (lv' := [(3, .int 0), (2, .int 0), (1, .int at2_3), (0, .ref o)]) hx hb dX12_atom_102 rfl hl (by decide) rfl (fun ls hl => ?_)
          refine lv_aload_n hx hb dX12_atom_103 rfl (lv_at hl 3 rfl) ?_
          refine va_get (D := g.1) (ci := 10) (v := .int fl2_26) (C := RX12) (T := TX12) (N := 20) hx hb hts izRX12 hown hK hP 0 rfl rfl 12 (by decide) (hts _ k820) (fun _ h9 => h9) rfl dX12_atom_104 ?_
          refine lv_iconst (v := (-1)) hx hb dX12_atom_107 (by decide) ?_
          refine lv_icmp_ne (tgt := 128) hx hb dX12_atom_108 (by decide) (fun cb9 => ?_) (fun cb9 => ?_)
          · skip
            have c29 : ¬ fl2_26.toInt = (-1) := zne cb9 rfl (by decide)
            refine lv_aload_n hx hb dX12_atom_128 rfl (lv_at hl 3 rfl) ?_
            refine lv_dup hx hb dX12_atom_129 rfl ?_
            refine va_get (D := g.1) (ci := 10) (v := .int at2_25) (C := RX12) (T := TX12) (N := 20) hx hb hts izRX12 hown hK hP 0 rfl rfl 11 (by decide) (hts _ k878) (fun _ h9 => h9) rfl dX12_atom_130 ?_
            refine lv_iconst (v := 1) hx hb dX12_atom_133 (by decide) ?_
            refine lv_iadd hx hb dX12_atom_134 ?_
            refine zgv (zadd (i := at2_25.toInt) (j := 1) rfl (by decide) (by omega)) (fun x_30 hx_30 => ?_)
            refine va_put (D := g.1) (ci := 10) (v := .int x_30) (ty := .int) (C := RX12) (T := TX12) (N := 20) hx hb hts izRX12 tyX12 tyX12_ok nmX12 hown hK hP hD hS 0 rfl rfl 11 (by decide) (hts _ k878) (fun _ h9 => h9) rfl (by decide +kernel) rfl rfl (Nat.le_of_ble_eq_true rfl) dX12_atom_135 (fun H locs hP hD hS => ?_)
            have hP : va_P g.1 vwCl (List.flatten [bMo g o a th hi ac tp ba en x_30 fl2_26 4 iD iO tU fm fk fa fc ft ff fb fi]) H := hP
            have hD : va_D A (List.flatten [bMo g o a th hi ac tp ba en x_30 fl2_26 4 iD iO tU fm fk fa fc ft ff fb fi]) := hD
            refine lv_aload_n hx hb dX12_atom_138 rfl (lv_at hl 3 rfl) ?_
            refine lv_dup hx hb dX12_atom_139 rfl ?_
            refine va_get (D := g.1) (ci := 10) (v := .int 4) (C := RX12) (T := TX12) (N := 20) hx hb hts izRX12 hown hK hP 0 rfl rfl 13 (by decide) (hts _ k933) (fun _ h9 => h9) rfl dX12_atom_140 ?_
            refine lv_iconst (v := 1) hx hb dX12_atom_143 (by decide) ?_
            refine lv_isub hx hb dX12_atom_144 ?_
            refine ztop (r := 3) (by decide) ?_
            refine va_put (D := g.1) (ci := 10) (v := .int 3) (ty := .int) (C := RX12) (T := TX12) (N := 20) hx hb hts izRX12 tyX12 tyX12_ok nmX12 hown hK hP hD hS 0 rfl rfl 13 (by decide) (hts _ k933) (fun _ h9 => h9) rfl (by decide +kernel) rfl rfl (Nat.le_of_ble_eq_true rfl) dX12_atom_145 (fun H locs hP hD hS => ?_)
            have hP : va_P g.1 vwCl (List.flatten [bMo g o a th hi ac tp ba en x_30 fl2_26 3 iD iO tU fm fk fa fc ft ff fb fi]) H := hP
            have hD : va_D A (List.flatten [bMo g o a th hi ac tp ba en x_30 fl2_26 3 iD iO tU fm fk fa fc ft ff fb fi]) := hD
            refine lv_iload_n hx hb dX12_atom_148 rfl (lv_at hl 0 rfl) ?_
            have hP : va_P g.1 vwCl (List.flatten [bMo g o a th hi ac tp ba en x_30 fl2_26 3 iD iO tU fm fk fa fc ft ff fb fi]) H := hP
            have hD : va_D A (List.flatten [bMo g o a th hi ac tp ba en x_30 fl2_26 3 iD iO tU fm fk fa fc ft ff fb fi]) := hD
            exact mret_z hx hb hr hlocks hS (Nat.le_of_ble_eq_true rfl) (Nat.le_of_ble_eq_true rfl) dX12_atom_149 (x_30, fl2_26, (0 : Int32)) rfl (by decide) (show (0 ≤ x_30.toInt ∧ x_30.toInt ≤ en.toInt + 7 - 3) ∧ (tA.toInt ≤ x_30.toInt) ∧ (-1 ≤ fl2_26.toInt) ∧ (0 = 0 ∨ 0 = 1) from ⟨(by first | assumption | omega | decide | exact rfl | exact zb01 (by omega) | exact Or.inl (by decide) | exact Or.inr (by first | omega | decide)), (by first | assumption | omega | decide | exact rfl | exact zb01 (by omega) | exact Or.inl (by decide) | exact Or.inr (by first | omega | decide)), hq28_2, (by decide)⟩) hP hD
          · skip
            have c31 : fl2_26.toInt = (-1) := zeq cb9 rfl (by decide)
            have n32 : fl2_26.toInt ≤ (-1) := Int.le_trans (Int.le_of_eq c31) (Int.le_refl _)
            refine lv_aload_n hx hb dX12_atom_111 rfl (lv_at hl 3 rfl) ?_
            refine lv_bipush (v := 41) hx hb dX12_atom_112 (by decide) ?_
            have hL4 : (4 : Int32).toInt = 4 := by decide
            refine mcallV' (g := g) (q0 := 0) (ci := 10) (As := [.int 41]) (rest := []) St hK hT hA hP hD hS hl.1 [0] [] rfl rfl rfl (m_isSign l g o a th hi ac tp ba en at2_25 fl2_26 4 iD iO tU fm fk fa fc ft ff fb fi 41 hba hen (by first | assumption | omega | decide | exact Or.inl (by decide) | exact Or.inr (by decide)) hq28_2 (by decide)) (cwV 1 hts (zgL (zl4 k938 k939 k940 k839) k883) rfl rfl rfl (by decide +kernel) ⟨Nat.le_of_ble_eq_true rfl, Nat.le_of_ble_eq_true rfl⟩) rfl rfl rfl rfl (Nat.le_of_ble_eq_true rfl) dX12_atom_114 ⟨(Nat.le_of_ble_eq_true rfl), (Nat.le_of_ble_eq_true rfl)⟩ (fun u_ H locs hq35 hP hD hS => ?_)
            obtain ⟨at2_33, q_34⟩ := u_
            replace hq35 : (0 ≤ at2_33.toInt ∧ at2_33.toInt ≤ en.toInt + 7 - (4 : Int32).toInt) ∧ (at2_25.toInt ≤ at2_33.toInt) ∧ (q_34 = 1 ∧ at2_33.toInt < en.toInt ∨ q_34 = 0) := hq35
            have hP : va_P g.1 vwCl (List.flatten [bMo g o a th hi ac tp ba en at2_33 fl2_26 4 iD iO tU fm fk fa fc ft ff fb fi]) H := hP
            have hD : va_D A (List.flatten [bMo g o a th hi ac tp ba en at2_33 fl2_26 4 iD iO tU fm fk fa fc ft ff fb fi]) := hD
            refine W.widen (k := 0) (n := 0) (Nat.le_of_ble_eq_true rfl) (Nat.le_of_ble_eq_true rfl) ?_
            refine W.eq (g2 := F0 m 117 ls [.int q_34]) rfl ?_
            obtain ⟨hq35_0, hq35_1, hq35_2⟩ := hq35
            rcases hq35_2 with ⟨rfl, hq35_k⟩ | rfl
            · skip
              refine lv_if_ne (tgt := 128) hx hb dX12_atom_117 (by decide) (fun _ => ?_) (fun c36 => absurd c36 (by decide))
              refine lv_aload_n hx hb dX12_atom_128 rfl (lv_at hl 3 rfl) ?_
              refine lv_dup hx hb dX12_atom_129 rfl ?_
              refine va_get (D := g.1) (ci := 10) (v := .int at2_33) (C := RX12) (T := TX12) (N := 20) hx hb hts izRX12 hown hK hP 0 rfl rfl 11 (by decide) (hts _ k878) (fun _ h9 => h9) rfl dX12_atom_130 ?_
              refine lv_iconst (v := 1) hx hb dX12_atom_133 (by decide) ?_
              refine lv_iadd hx hb dX12_atom_134 ?_
              refine zgv (zadd (i := at2_33.toInt) (j := 1) rfl (by decide) (by omega)) (fun x_37 hx_37 => ?_)
              refine va_put (D := g.1) (ci := 10) (v := .int x_37) (ty := .int) (C := RX12) (T := TX12) (N := 20) hx hb hts izRX12 tyX12 tyX12_ok nmX12 hown hK hP hD hS 0 rfl rfl 11 (by decide) (hts _ k878) (fun _ h9 => h9) rfl (by decide +kernel) rfl rfl (Nat.le_of_ble_eq_true rfl) dX12_atom_135 (fun H locs hP hD hS => ?_)
              have hP : va_P g.1 vwCl (List.flatten [bMo g o a th hi ac tp ba en x_37 fl2_26 4 iD iO tU fm fk fa fc ft ff fb fi]) H := hP
              have hD : va_D A (List.flatten [bMo g o a th hi ac tp ba en x_37 fl2_26 4 iD iO tU fm fk fa fc ft ff fb fi]) := hD
              refine lv_aload_n hx hb dX12_atom_138 rfl (lv_at hl 3 rfl) ?_
              refine lv_dup hx hb dX12_atom_139 rfl ?_
              refine va_get (D := g.1) (ci := 10) (v := .int 4) (C := RX12) (T := TX12) (N := 20) hx hb hts izRX12 hown hK hP 0 rfl rfl 13 (by decide) (hts _ k933) (fun _ h9 => h9) rfl dX12_atom_140 ?_
              refine lv_iconst (v := 1) hx hb dX12_atom_143 (by decide) ?_
              refine lv_isub hx hb dX12_atom_144 ?_
              refine ztop (r := 3) (by decide) ?_
              refine va_put (D := g.1) (ci := 10) (v := .int 3) (ty := .int) (C := RX12) (T := TX12) (N := 20) hx hb hts izRX12 tyX12 tyX12_ok nmX12 hown hK hP hD hS 0 rfl rfl 13 (by decide) (hts _ k933) (fun _ h9 => h9) rfl (by decide +kernel) rfl rfl (Nat.le_of_ble_eq_true rfl) dX12_atom_145 (fun H locs hP hD hS => ?_)
              have hP : va_P g.1 vwCl (List.flatten [bMo g o a th hi ac tp ba en x_37 fl2_26 3 iD iO tU fm fk fa fc ft ff fb fi]) H := hP
              have hD : va_D A (List.flatten [bMo g o a th hi ac tp ba en x_37 fl2_26 3 iD iO tU fm fk fa fc ft ff fb fi]) := hD
              refine lv_iload_n hx hb dX12_atom_148 rfl (lv_at hl 0 rfl) ?_
              have hP : va_P g.1 vwCl (List.flatten [bMo g o a th hi ac tp ba en x_37 fl2_26 3 iD iO tU fm fk fa fc ft ff fb fi]) H := hP
              have hD : va_D A (List.flatten [bMo g o a th hi ac tp ba en x_37 fl2_26 3 iD iO tU fm fk fa fc ft ff fb fi]) := hD
              exact mret_z hx hb hr hlocks hS (Nat.le_of_ble_eq_true rfl) (Nat.le_of_ble_eq_true rfl) dX12_atom_149 (x_37, fl2_26, (0 : Int32)) rfl (by decide) (show (0 ≤ x_37.toInt ∧ x_37.toInt ≤ en.toInt + 7 - 3) ∧ (tA.toInt ≤ x_37.toInt) ∧ (-1 ≤ fl2_26.toInt) ∧ (0 = 0 ∨ 0 = 1) from ⟨(by first | assumption | omega | decide | exact rfl | exact zb01 (by omega) | exact Or.inl (by decide) | exact Or.inr (by first | omega | decide)), (by first | assumption | omega | decide | exact rfl | exact zb01 (by omega) | exact Or.inl (by decide) | exact Or.inr (by first | omega | decide)), hq28_2, (by decide)⟩) hP hD
            · skip
              refine lv_if_ne (tgt := 128) hx hb dX12_atom_117 (by decide) (fun c38 => absurd (by decide) c38) (fun _ => ?_)
              refine lv_aload_n hx hb dX12_atom_120 rfl (lv_at hl 3 rfl) ?_
              refine lv_aload_n hx hb dX12_atom_121 rfl (lv_at hl 3 rfl) ?_
              refine va_get (D := g.1) (ci := 10) (v := .int at2_33) (C := RX12) (T := TX12) (N := 20) hx hb hts izRX12 hown hK hP 0 rfl rfl 11 (by decide) (hts _ k878) (fun _ h9 => h9) rfl dX12_atom_122 ?_
              refine mcallV' (g := g) (q0 := 0) (ci := 10) (As := [.int at2_33]) (rest := []) St hK hT hA hP hD hS hl.1 [0] [] rfl rfl rfl (m_wrong l g o a th hi ac tp ba en at2_33 fl2_26 4 iD iO tU fm fk fa fc ft ff fb fi at2_33 (by first | assumption | omega | decide | exact Or.inl (by decide) | exact Or.inr (by decide)) hq28_2) (cwV 1 hts (zgL (zl4 k895 k896 k897 k839) k890) rfl rfl rfl (by decide +kernel) ⟨Nat.le_of_ble_eq_true rfl, Nat.le_of_ble_eq_true rfl⟩) rfl rfl rfl rfl (Nat.le_of_ble_eq_true rfl) dX12_atom_125 ⟨(Nat.le_of_ble_eq_true rfl), (Nat.le_of_ble_eq_true rfl)⟩ (fun fl2_39 H locs hq40 hP hD hS => ?_)
              replace hq40 : (0 ≤ fl2_39.toInt) := hq40
              have hP : va_P g.1 vwCl (List.flatten [bMo g o a th hi ac tp ba en at2_33 fl2_39 4 iD iO tU fm fk fa fc ft ff fb fi]) H := hP
              have hD : va_D A (List.flatten [bMo g o a th hi ac tp ba en at2_33 fl2_39 4 iD iO tU fm fk fa fc ft ff fb fi]) := hD
              refine W.widen (k := 0) (n := 0) (Nat.le_of_ble_eq_true rfl) (Nat.le_of_ble_eq_true rfl) ?_
              refine W.eq (g2 := F0 m 128 ls []) rfl ?_
              refine lv_aload_n hx hb dX12_atom_128 rfl (lv_at hl 3 rfl) ?_
              refine lv_dup hx hb dX12_atom_129 rfl ?_
              refine va_get (D := g.1) (ci := 10) (v := .int at2_33) (C := RX12) (T := TX12) (N := 20) hx hb hts izRX12 hown hK hP 0 rfl rfl 11 (by decide) (hts _ k878) (fun _ h9 => h9) rfl dX12_atom_130 ?_
              refine lv_iconst (v := 1) hx hb dX12_atom_133 (by decide) ?_
              refine lv_iadd hx hb dX12_atom_134 ?_
              refine zgv (zadd (i := at2_33.toInt) (j := 1) rfl (by decide) (by omega)) (fun x_41 hx_41 => ?_)
              refine va_put (D := g.1) (ci := 10) (v := .int x_41) (ty := .int) (C := RX12) (T := TX12) (N := 20) hx hb hts izRX12 tyX12 tyX12_ok nmX12 hown hK hP hD hS 0 rfl rfl 11 (by decide) (hts _ k878) (fun _ h9 => h9) rfl (by decide +kernel) rfl rfl (Nat.le_of_ble_eq_true rfl) dX12_atom_135 (fun H locs hP hD hS => ?_)
              have hP : va_P g.1 vwCl (List.flatten [bMo g o a th hi ac tp ba en x_41 fl2_39 4 iD iO tU fm fk fa fc ft ff fb fi]) H := hP
              have hD : va_D A (List.flatten [bMo g o a th hi ac tp ba en x_41 fl2_39 4 iD iO tU fm fk fa fc ft ff fb fi]) := hD
              refine lv_aload_n hx hb dX12_atom_138 rfl (lv_at hl 3 rfl) ?_
              refine lv_dup hx hb dX12_atom_139 rfl ?_
              refine va_get (D := g.1) (ci := 10) (v := .int 4) (C := RX12) (T := TX12) (N := 20) hx hb hts izRX12 hown hK hP 0 rfl rfl 13 (by decide) (hts _ k933) (fun _ h9 => h9) rfl dX12_atom_140 ?_
              refine lv_iconst (v := 1) hx hb dX12_atom_143 (by decide) ?_
              refine lv_isub hx hb dX12_atom_144 ?_
              refine ztop (r := 3) (by decide) ?_
              refine va_put (D := g.1) (ci := 10) (v := .int 3) (ty := .int) (C := RX12) (T := TX12) (N := 20) hx hb hts izRX12 tyX12 tyX12_ok nmX12 hown hK hP hD hS 0 rfl rfl 13 (by decide) (hts _ k933) (fun _ h9 => h9) rfl (by decide +kernel) rfl rfl (Nat.le_of_ble_eq_true rfl) dX12_atom_145 (fun H locs hP hD hS => ?_)
              have hP : va_P g.1 vwCl (List.flatten [bMo g o a th hi ac tp ba en x_41 fl2_39 3 iD iO tU fm fk fa fc ft ff fb fi]) H := hP
              have hD : va_D A (List.flatten [bMo g o a th hi ac tp ba en x_41 fl2_39 3 iD iO tU fm fk fa fc ft ff fb fi]) := hD
              refine lv_iload_n hx hb dX12_atom_148 rfl (lv_at hl 0 rfl) ?_
              have hP : va_P g.1 vwCl (List.flatten [bMo g o a th hi ac tp ba en x_41 fl2_39 3 iD iO tU fm fk fa fc ft ff fb fi]) H := hP
              have hD : va_D A (List.flatten [bMo g o a th hi ac tp ba en x_41 fl2_39 3 iD iO tU fm fk fa fc ft ff fb fi]) := hD
              exact mret_z hx hb hr hlocks hS (Nat.le_of_ble_eq_true rfl) (Nat.le_of_ble_eq_true rfl) dX12_atom_149 (x_41, fl2_39, (0 : Int32)) rfl (by decide) (show (0 ≤ x_41.toInt ∧ x_41.toInt ≤ en.toInt + 7 - 3) ∧ (tA.toInt ≤ x_41.toInt) ∧ (-1 ≤ fl2_39.toInt) ∧ (0 = 0 ∨ 0 = 1) from ⟨(by first | assumption | omega | decide | exact rfl | exact zb01 (by omega) | exact Or.inl (by decide) | exact Or.inr (by first | omega | decide)), (by first | assumption | omega | decide | exact rfl | exact zb01 (by omega) | exact Or.inl (by decide) | exact Or.inr (by first | omega | decide)), (by first | assumption | omega | decide | exact rfl | exact zb01 (by omega) | exact Or.inl (by decide) | exact Or.inr (by first | omega | decide)), (by decide)⟩) hP hD
        · skip
          refine lv_istore_n (lv' := [(3, .int 1), (2, .int 0), (1, .int at2_3), (0, .ref o)]) hx hb dX12_atom_102 rfl hl (by decide) rfl (fun ls hl => ?_)
          refine lv_aload_n hx hb dX12_atom_103 rfl (lv_at hl 3 rfl) ?_
          refine va_get (D := g.1) (ci := 10) (v := .int fl2_26) (C := RX12) (T := TX12) (N := 20) hx hb hts izRX12 hown hK hP 0 rfl rfl 12 (by decide) (hts _ k820) (fun _ h9 => h9) rfl dX12_atom_104 ?_
          refine lv_iconst (v := (-1)) hx hb dX12_atom_107 (by decide) ?_
          refine lv_icmp_ne (tgt := 128) hx hb dX12_atom_108 (by decide) (fun cb9 => ?_) (fun cb9 => ?_)
          · skip
            have c42 : ¬ fl2_26.toInt = (-1) := zne cb9 rfl (by decide)
            refine lv_aload_n hx hb dX12_atom_128 rfl (lv_at hl 3 rfl) ?_
            refine lv_dup hx hb dX12_atom_129 rfl ?_
            refine va_get (D := g.1) (ci := 10) (v := .int at2_25) (C := RX12) (T := TX12) (N := 20) hx hb hts izRX12 hown hK hP 0 rfl rfl 11 (by decide) (hts _ k878) (fun _ h9 => h9) rfl dX12_atom_130 ?_
            refine lv_iconst (v := 1) hx hb dX12_atom_133 (by decide) ?_
            refine lv_iadd hx hb dX12_atom_134 ?_
            refine zgv (zadd (i := at2_25.toInt) (j := 1) rfl (by decide) (by omega)) (fun x_43 hx_43 => ?_)
            refine va_put (D := g.1) (ci := 10) (v := .int x_43) (ty := .int) (C := RX12) (T := TX12) (N := 20) hx hb hts izRX12 tyX12 tyX12_ok nmX12 hown hK hP hD hS 0 rfl rfl 11 (by decide) (hts _ k878) (fun _ h9 => h9) rfl (by decide +kernel) rfl rfl (Nat.le_of_ble_eq_true rfl) dX12_atom_135 (fun H locs hP hD hS => ?_)
            have hP : va_P g.1 vwCl (List.flatten [bMo g o a th hi ac tp ba en x_43 fl2_26 4 iD iO tU fm fk fa fc ft ff fb fi]) H := hP
            have hD : va_D A (List.flatten [bMo g o a th hi ac tp ba en x_43 fl2_26 4 iD iO tU fm fk fa fc ft ff fb fi]) := hD
            refine lv_aload_n hx hb dX12_atom_138 rfl (lv_at hl 3 rfl) ?_
            refine lv_dup hx hb dX12_atom_139 rfl ?_
            refine va_get (D := g.1) (ci := 10) (v := .int 4) (C := RX12) (T := TX12) (N := 20) hx hb hts izRX12 hown hK hP 0 rfl rfl 13 (by decide) (hts _ k933) (fun _ h9 => h9) rfl dX12_atom_140 ?_
            refine lv_iconst (v := 1) hx hb dX12_atom_143 (by decide) ?_
            refine lv_isub hx hb dX12_atom_144 ?_
            refine ztop (r := 3) (by decide) ?_
            refine va_put (D := g.1) (ci := 10) (v := .int 3) (ty := .int) (C := RX12) (T := TX12) (N := 20) hx hb hts izRX12 tyX12 tyX12_ok nmX12 hown hK hP hD hS 0 rfl rfl 13 (by decide) (hts _ k933) (fun _ h9 => h9) rfl (by decide +kernel) rfl rfl (Nat.le_of_ble_eq_true rfl) dX12_atom_145 (fun H locs hP hD hS => ?_)
            have hP : va_P g.1 vwCl (List.flatten [bMo g o a th hi ac tp ba en x_43 fl2_26 3 iD iO tU fm fk fa fc ft ff fb fi]) H := hP
            have hD : va_D A (List.flatten [bMo g o a th hi ac tp ba en x_43 fl2_26 3 iD iO tU fm fk fa fc ft ff fb fi]) := hD
            refine lv_iload_n hx hb dX12_atom_148 rfl (lv_at hl 0 rfl) ?_
            have hP : va_P g.1 vwCl (List.flatten [bMo g o a th hi ac tp ba en x_43 fl2_26 3 iD iO tU fm fk fa fc ft ff fb fi]) H := hP
            have hD : va_D A (List.flatten [bMo g o a th hi ac tp ba en x_43 fl2_26 3 iD iO tU fm fk fa fc ft ff fb fi]) := hD
            exact mret_z hx hb hr hlocks hS (Nat.le_of_ble_eq_true rfl) (Nat.le_of_ble_eq_true rfl) dX12_atom_149 (x_43, fl2_26, (1 : Int32)) rfl (by decide) (show (0 ≤ x_43.toInt ∧ x_43.toInt ≤ en.toInt + 7 - 3) ∧ (tA.toInt ≤ x_43.toInt) ∧ (-1 ≤ fl2_26.toInt) ∧ (1 = 0 ∨ 1 = 1) from ⟨(by first | assumption | omega | decide | exact rfl | exact zb01 (by omega) | exact Or.inl (by decide) | exact Or.inr (by first | omega | decide)), (by first | assumption | omega | decide | exact rfl | exact zb01 (by omega) | exact Or.inl (by decide) | exact Or.inr (by first | omega | decide)), hq28_2, (by decide)⟩) hP hD
          · skip
            have c44 : fl2_26.toInt = (-1) := zeq cb9 rfl (by decide)
            have n45 : fl2_26.toInt ≤ (-1) := Int.le_trans (Int.le_of_eq c44) (Int.le_refl _)
            refine lv_aload_n hx hb dX12_atom_111 rfl (lv_at hl 3 rfl) ?_
            refine lv_bipush (v := 41) hx hb dX12_atom_112 (by decide) ?_
            have hL4 : (4 : Int32).toInt = 4 := by decide
            refine mcallV' (g := g) (q0 := 0) (ci := 10) (As := [.int 41]) (rest := []) St hK hT hA hP hD hS hl.1 [0] [] rfl rfl rfl (m_isSign l g o a th hi ac tp ba en at2_25 fl2_26 4 iD iO tU fm fk fa fc ft ff fb fi 41 hba hen (by first | assumption | omega | decide | exact Or.inl (by decide) | exact Or.inr (by decide)) hq28_2 (by decide)) (cwV 1 hts (zgL (zl4 k938 k939 k940 k839) k883) rfl rfl rfl (by decide +kernel) ⟨Nat.le_of_ble_eq_true rfl, Nat.le_of_ble_eq_true rfl⟩) rfl rfl rfl rfl (Nat.le_of_ble_eq_true rfl) dX12_atom_114 ⟨(Nat.le_of_ble_eq_true rfl), (Nat.le_of_ble_eq_true rfl)⟩ (fun u_ H locs hq48 hP hD hS => ?_)
            obtain ⟨at2_46, q_47⟩ := u_
            replace hq48 : (0 ≤ at2_46.toInt ∧ at2_46.toInt ≤ en.toInt + 7 - (4 : Int32).toInt) ∧ (at2_25.toInt ≤ at2_46.toInt) ∧ (q_47 = 1 ∧ at2_46.toInt < en.toInt ∨ q_47 = 0) := hq48
            have hP : va_P g.1 vwCl (List.flatten [bMo g o a th hi ac tp ba en at2_46 fl2_26 4 iD iO tU fm fk fa fc ft ff fb fi]) H := hP
            have hD : va_D A (List.flatten [bMo g o a th hi ac tp ba en at2_46 fl2_26 4 iD iO tU fm fk fa fc ft ff fb fi]) := hD
            refine W.widen (k := 0) (n := 0) (Nat.le_of_ble_eq_true rfl) (Nat.le_of_ble_eq_true rfl) ?_
            refine W.eq (g2 := F0 m 117 ls [.int q_47]) rfl ?_
            obtain ⟨hq48_0, hq48_1, hq48_2⟩ := hq48
            rcases hq48_2 with ⟨rfl, hq48_k⟩ | rfl
            · skip
              refine lv_if_ne (tgt := 128) hx hb dX12_atom_117 (by decide) (fun _ => ?_) (fun c49 => absurd c49 (by decide))
              refine lv_aload_n hx hb dX12_atom_128 rfl (lv_at hl 3 rfl) ?_
              refine lv_dup hx hb dX12_atom_129 rfl ?_
              refine va_get (D := g.1) (ci := 10) (v := .int at2_46) (C := RX12) (T := TX12) (N := 20) hx hb hts izRX12 hown hK hP 0 rfl rfl 11 (by decide) (hts _ k878) (fun _ h9 => h9) rfl dX12_atom_130 ?_
              refine lv_iconst (v := 1) hx hb dX12_atom_133 (by decide) ?_
              refine lv_iadd hx hb dX12_atom_134 ?_
              refine zgv (zadd (i := at2_46.toInt) (j := 1) rfl (by decide) (by omega)) (fun x_50 hx_50 => ?_)
              refine va_put (D := g.1) (ci := 10) (v := .int x_50) (ty := .int) (C := RX12) (T := TX12) (N := 20) hx hb hts izRX12 tyX12 tyX12_ok nmX12 hown hK hP hD hS 0 rfl rfl 11 (by decide) (hts _ k878) (fun _ h9 => h9) rfl (by decide +kernel) rfl rfl (Nat.le_of_ble_eq_true rfl) dX12_atom_135 (fun H locs hP hD hS => ?_)
              have hP : va_P g.1 vwCl (List.flatten [bMo g o a th hi ac tp ba en x_50 fl2_26 4 iD iO tU fm fk fa fc ft ff fb fi]) H := hP
              have hD : va_D A (List.flatten [bMo g o a th hi ac tp ba en x_50 fl2_26 4 iD iO tU fm fk fa fc ft ff fb fi]) := hD
              refine lv_aload_n hx hb dX12_atom_138 rfl (lv_at hl 3 rfl) ?_
              refine lv_dup hx hb dX12_atom_139 rfl ?_
              refine va_get (D := g.1) (ci := 10) (v := .int 4) (C := RX12) (T := TX12) (N := 20) hx hb hts izRX12 hown hK hP 0 rfl rfl 13 (by decide) (hts _ k933) (fun _ h9 => h9) rfl dX12_atom_140 ?_
              refine lv_iconst (v := 1) hx hb dX12_atom_143 (by decide) ?_
              refine lv_isub hx hb dX12_atom_144 ?_
              refine ztop (r := 3) (by decide) ?_
              refine va_put (D := g.1) (ci := 10) (v := .int 3) (ty := .int) (C := RX12) (T := TX12) (N := 20) hx hb hts izRX12 tyX12 tyX12_ok nmX12 hown hK hP hD hS 0 rfl rfl 13 (by decide) (hts _ k933) (fun _ h9 => h9) rfl (by decide +kernel) rfl rfl (Nat.le_of_ble_eq_true rfl) dX12_atom_145 (fun H locs hP hD hS => ?_)
              have hP : va_P g.1 vwCl (List.flatten [bMo g o a th hi ac tp ba en x_50 fl2_26 3 iD iO tU fm fk fa fc ft ff fb fi]) H := hP
              have hD : va_D A (List.flatten [bMo g o a th hi ac tp ba en x_50 fl2_26 3 iD iO tU fm fk fa fc ft ff fb fi]) := hD
              refine lv_iload_n hx hb dX12_atom_148 rfl (lv_at hl 0 rfl) ?_
              have hP : va_P g.1 vwCl (List.flatten [bMo g o a th hi ac tp ba en x_50 fl2_26 3 iD iO tU fm fk fa fc ft ff fb fi]) H := hP
              have hD : va_D A (List.flatten [bMo g o a th hi ac tp ba en x_50 fl2_26 3 iD iO tU fm fk fa fc ft ff fb fi]) := hD
              exact mret_z hx hb hr hlocks hS (Nat.le_of_ble_eq_true rfl) (Nat.le_of_ble_eq_true rfl) dX12_atom_149 (x_50, fl2_26, (1 : Int32)) rfl (by decide) (show (0 ≤ x_50.toInt ∧ x_50.toInt ≤ en.toInt + 7 - 3) ∧ (tA.toInt ≤ x_50.toInt) ∧ (-1 ≤ fl2_26.toInt) ∧ (1 = 0 ∨ 1 = 1) from ⟨(by first | assumption | omega | decide | exact rfl | exact zb01 (by omega) | exact Or.inl (by decide) | exact Or.inr (by first | omega | decide)), (by first | assumption | omega | decide | exact rfl | exact zb01 (by omega) | exact Or.inl (by decide) | exact Or.inr (by first | omega | decide)), hq28_2, (by decide)⟩) hP hD
            · skip
              refine lv_if_ne (tgt := 128) hx hb dX12_atom_117 (by decide) (fun c51 => absurd (by decide) c51) (fun _ => ?_)
              refine lv_aload_n hx hb dX12_atom_120 rfl (lv_at hl 3 rfl) ?_
              refine lv_aload_n hx hb dX12_atom_121 rfl (lv_at hl 3 rfl) ?_
              refine va_get (D := g.1) (ci := 10) (v := .int at2_46) (C := RX12) (T := TX12) (N := 20) hx hb hts izRX12 hown hK hP 0 rfl rfl 11 (by decide) (hts _ k878) (fun _ h9 => h9) rfl dX12_atom_122 ?_
              refine mcallV' (g := g) (q0 := 0) (ci := 10) (As := [.int at2_46]) (rest := []) St hK hT hA hP hD hS hl.1 [0] [] rfl rfl rfl (m_wrong l g o a th hi ac tp ba en at2_46 fl2_26 4 iD iO tU fm fk fa fc ft ff fb fi at2_46 (by first | assumption | omega | decide | exact Or.inl (by decide) | exact Or.inr (by decide)) hq28_2) (cwV 1 hts (zgL (zl4 k895 k896 k897 k839) k890) rfl rfl rfl (by decide +kernel) ⟨Nat.le_of_ble_eq_true rfl, Nat.le_of_ble_eq_true rfl⟩) rfl rfl rfl rfl (Nat.le_of_ble_eq_true rfl) dX12_atom_125 ⟨(Nat.le_of_ble_eq_true rfl), (Nat.le_of_ble_eq_true rfl)⟩ (fun fl2_52 H locs hq53 hP hD hS => ?_)
              replace hq53 : (0 ≤ fl2_52.toInt) := hq53
              have hP : va_P g.1 vwCl (List.flatten [bMo g o a th hi ac tp ba en at2_46 fl2_52 4 iD iO tU fm fk fa fc ft ff fb fi]) H := hP
              have hD : va_D A (List.flatten [bMo g o a th hi ac tp ba en at2_46 fl2_52 4 iD iO tU fm fk fa fc ft ff fb fi]) := hD
              refine W.widen (k := 0) (n := 0) (Nat.le_of_ble_eq_true rfl) (Nat.le_of_ble_eq_true rfl) ?_
              refine W.eq (g2 := F0 m 128 ls []) rfl ?_
              refine lv_aload_n hx hb dX12_atom_128 rfl (lv_at hl 3 rfl) ?_
              refine lv_dup hx hb dX12_atom_129 rfl ?_
              refine va_get (D := g.1) (ci := 10) (v := .int at2_46) (C := RX12) (T := TX12) (N := 20) hx hb hts izRX12 hown hK hP 0 rfl rfl 11 (by decide) (hts _ k878) (fun _ h9 => h9) rfl dX12_atom_130 ?_
              refine lv_iconst (v := 1) hx hb dX12_atom_133 (by decide) ?_
              refine lv_iadd hx hb dX12_atom_134 ?_
              refine zgv (zadd (i := at2_46.toInt) (j := 1) rfl (by decide) (by omega)) (fun x_54 hx_54 => ?_)
              refine va_put (D := g.1) (ci := 10) (v := .int x_54) (ty := .int) (C := RX12) (T := TX12) (N := 20) hx hb hts izRX12 tyX12 tyX12_ok nmX12 hown hK hP hD hS 0 rfl rfl 11 (by decide) (hts _ k878) (fun _ h9 => h9) rfl (by decide +kernel) rfl rfl (Nat.le_of_ble_eq_true rfl) dX12_atom_135 (fun H locs hP hD hS => ?_)
              have hP : va_P g.1 vwCl (List.flatten [bMo g o a th hi ac tp ba en x_54 fl2_52 4 iD iO tU fm fk fa fc ft ff fb fi]) H := hP
              have hD : va_D A (List.flatten [bMo g o a th hi ac tp ba en x_54 fl2_52 4 iD iO tU fm fk fa fc ft ff fb fi]) := hD
              refine lv_aload_n hx hb dX12_atom_138 rfl (lv_at hl 3 rfl) ?_
              refine lv_dup hx hb dX12_atom_139 rfl ?_
              refine va_get (D := g.1) (ci := 10) (v := .int 4) (C := RX12) (T := TX12) (N := 20) hx hb hts izRX12 hown hK hP 0 rfl rfl 13 (by decide) (hts _ k933) (fun _ h9 => h9) rfl dX12_atom_140 ?_
              refine lv_iconst (v := 1) hx hb dX12_atom_143 (by decide) ?_
              refine lv_isub hx hb dX12_atom_144 ?_
              refine ztop (r := 3) (by decide) ?_
              refine va_put (D := g.1) (ci := 10) (v := .int 3) (ty := .int) (C := RX12) (T := TX12) (N := 20) hx hb hts izRX12 tyX12 tyX12_ok nmX12 hown hK hP hD hS 0 rfl rfl 13 (by decide) (hts _ k933) (fun _ h9 => h9) rfl (by decide +kernel) rfl rfl (Nat.le_of_ble_eq_true rfl) dX12_atom_145 (fun H locs hP hD hS => ?_)
              have hP : va_P g.1 vwCl (List.flatten [bMo g o a th hi ac tp ba en x_54 fl2_52 3 iD iO tU fm fk fa fc ft ff fb fi]) H := hP
              have hD : va_D A (List.flatten [bMo g o a th hi ac tp ba en x_54 fl2_52 3 iD iO tU fm fk fa fc ft ff fb fi]) := hD
              refine lv_iload_n hx hb dX12_atom_148 rfl (lv_at hl 0 rfl) ?_
              have hP : va_P g.1 vwCl (List.flatten [bMo g o a th hi ac tp ba en x_54 fl2_52 3 iD iO tU fm fk fa fc ft ff fb fi]) H := hP
              have hD : va_D A (List.flatten [bMo g o a th hi ac tp ba en x_54 fl2_52 3 iD iO tU fm fk fa fc ft ff fb fi]) := hD
              exact mret_z hx hb hr hlocks hS (Nat.le_of_ble_eq_true rfl) (Nat.le_of_ble_eq_true rfl) dX12_atom_149 (x_54, fl2_52, (1 : Int32)) rfl (by decide) (show (0 ≤ x_54.toInt ∧ x_54.toInt ≤ en.toInt + 7 - 3) ∧ (tA.toInt ≤ x_54.toInt) ∧ (-1 ≤ fl2_52.toInt) ∧ (1 = 0 ∨ 1 = 1) from ⟨(by first | assumption | omega | decide | exact rfl | exact zb01 (by omega) | exact Or.inl (by decide) | exact Or.inr (by first | omega | decide)), (by first | assumption | omega | decide | exact rfl | exact zb01 (by omega) | exact Or.inl (by decide) | exact Or.inr (by first | omega | decide)), (by first | assumption | omega | decide | exact rfl | exact zb01 (by omega) | exact Or.inl (by decide) | exact Or.inr (by first | omega | decide)), (by decide)⟩) hP hD
      · skip
        refine lv_if_ne (tgt := 40) hx hb dX12_atom_32 (by decide) (fun c55 => absurd (by decide) c55) (fun _ => ?_)
        refine lv_aload_n hx hb dX12_atom_35 rfl (lv_at hl 2 rfl) ?_
        refine mcallV' (g := g) (q0 := 0) (ci := 10) (As := []) (rest := []) St hK hT hA hP hD hS hl.1 [0] [] rfl rfl rfl (m_plain l g o a th hi ac tp ba en at2_18 fl 3 iD iO tU fm fk fa fc ft ff fb fi hiD hiO hba hen hq20_0 hfl (by decide)) (cwV 0 hts (zgL (zl4 k948 k949 k950 k839) k947) rfl rfl rfl (by decide +kernel) ⟨Nat.le_of_ble_eq_true rfl, Nat.le_of_ble_eq_true rfl⟩) rfl rfl rfl rfl (Nat.le_of_ble_eq_true rfl) dX12_atom_36 ⟨(Nat.le_of_ble_eq_true rfl), (Nat.le_of_ble_eq_true rfl)⟩ (fun u_ H locs hq59 hP hD hS => ?_)
        obtain ⟨at2_56, fl2_57, q_58⟩ := u_
        replace hq59 : (0 ≤ at2_56.toInt ∧ at2_56.toInt ≤ en.toInt + 7 - (3 : Int32).toInt) ∧ (at2_18.toInt ≤ at2_56.toInt) ∧ (-1 ≤ fl2_57.toInt) ∧ (q_58 = 0 ∨ q_58 = 1) := hq59
        have hP : va_P g.1 vwCl (List.flatten [bMo g o a th hi ac tp ba en at2_56 fl2_57 3 iD iO tU fm fk fa fc ft ff fb fi]) H := hP
        have hD : va_D A (List.flatten [bMo g o a th hi ac tp ba en at2_56 fl2_57 3 iD iO tU fm fk fa fc ft ff fb fi]) := hD
        refine W.widen (k := 0) (n := 0) (Nat.le_of_ble_eq_true rfl) (Nat.le_of_ble_eq_true rfl) ?_
        refine W.eq (g2 := F0 m 39 ls [.int q_58]) rfl ?_
        obtain ⟨hq59_0, hq59_1, hq59_2, hq59_3⟩ := hq59
        rcases hq59_3 with rfl | rfl
        · skip
          have hP : va_P g.1 vwCl (List.flatten [bMo g o a th hi ac tp ba en at2_56 fl2_57 3 iD iO tU fm fk fa fc ft ff fb fi]) H := hP
          have hD : va_D A (List.flatten [bMo g o a th hi ac tp ba en at2_56 fl2_57 3 iD iO tU fm fk fa fc ft ff fb fi]) := hD
          exact mret_z hx hb hr hlocks hS (Nat.le_of_ble_eq_true rfl) (Nat.le_of_ble_eq_true rfl) dX12_atom_39 (at2_56, fl2_57, (0 : Int32)) rfl (by decide) (show (0 ≤ at2_56.toInt ∧ at2_56.toInt ≤ en.toInt + 7 - 3) ∧ (tA.toInt ≤ at2_56.toInt) ∧ (-1 ≤ fl2_57.toInt) ∧ (0 = 0 ∨ 0 = 1) from ⟨(by first | assumption | omega | decide | exact rfl | exact zb01 (by omega) | exact Or.inl (by decide) | exact Or.inr (by first | omega | decide)), (by first | assumption | omega | decide | exact rfl | exact zb01 (by omega) | exact Or.inl (by decide) | exact Or.inr (by first | omega | decide)), hq59_2, (by decide)⟩) hP hD
        · skip
          have hP : va_P g.1 vwCl (List.flatten [bMo g o a th hi ac tp ba en at2_56 fl2_57 3 iD iO tU fm fk fa fc ft ff fb fi]) H := hP
          have hD : va_D A (List.flatten [bMo g o a th hi ac tp ba en at2_56 fl2_57 3 iD iO tU fm fk fa fc ft ff fb fi]) := hD
          exact mret_z hx hb hr hlocks hS (Nat.le_of_ble_eq_true rfl) (Nat.le_of_ble_eq_true rfl) dX12_atom_39 (at2_56, fl2_57, (1 : Int32)) rfl (by decide) (show (0 ≤ at2_56.toInt ∧ at2_56.toInt ≤ en.toInt + 7 - 3) ∧ (tA.toInt ≤ at2_56.toInt) ∧ (-1 ≤ fl2_57.toInt) ∧ (1 = 0 ∨ 1 = 1) from ⟨(by first | assumption | omega | decide | exact rfl | exact zb01 (by omega) | exact Or.inl (by decide) | exact Or.inr (by first | omega | decide)), (by first | assumption | omega | decide | exact rfl | exact zb01 (by omega) | exact Or.inl (by decide) | exact Or.inr (by first | omega | decide)), hq59_2, (by decide)⟩) hP hD
  · skip
    have c60 : ¬ fl.toInt = (-1) := zne cb9 rfl (by decide)
    refine lv_iconst (v := 0) hx hb dX12_atom_8 (by decide) ?_
    have hP : va_P g.1 vwCl (List.flatten [bMo g o a th hi ac tp ba en tA fl 3 iD iO tU fm fk fa fc ft ff fb fi]) s.heap := hP
    have hD : va_D A (List.flatten [bMo g o a th hi ac tp ba en tA fl 3 iD iO tU fm fk fa fc ft ff fb fi]) := hD
    exact mret_z hx hb hr hlocks hS (Nat.le_of_ble_eq_true rfl) (Nat.le_of_ble_eq_true rfl) dX12_atom_9 (tA, fl, (0 : Int32)) rfl (by decide) (show (0 ≤ tA.toInt ∧ tA.toInt ≤ en.toInt + 7 - 3) ∧ (tA.toInt ≤ tA.toInt) ∧ (-1 ≤ fl.toInt) ∧ (0 = 0 ∨ 0 = 1) from ⟨htA, (by first | assumption | omega | decide | exact rfl | exact zb01 (by omega) | exact Or.inl (by decide) | exact Or.inr (by first | omega | decide)), hfl, (by decide)⟩) hP hD
set_option maxRecDepth 100000 in
set_option maxHeartbeats 4000000 in
theorem m_every3 (l : Launch) (g : zG) (o : Nat) (a : Nat → Nat) (th : Int32) (hi : Int32) (ac : Int32) (tp : Int32) (ba : Int32) (en : Int32) (tA : Int32) (fl : Int32) (iD : Int32) (iO : Int32) (tU : Int32) (fm : Nat → Int32) (fk : Nat → Int32) (fa : Nat → Int32) (fc : Nat → Int32) (ft : Nat → Int32) (ff : Nat → Int32) (fb : Nat → Int32) (fi : Nat → Int32) (hiD : 0 ≤ iD.toInt ∧ iD.toInt ≤ 1) (hiO : 0 ≤ iO.toInt ∧ iO.toInt ≤ 1) (hba : zBa ba.toInt) (hen : 0 ≤ en.toInt ∧ en.toInt ≤ 400) (htA : 0 ≤ tA.toInt ∧ tA.toInt ≤ en.toInt + 7 - 3) (hfl : -1 ≤ fl.toInt) (hde : 0 ≤ 3 ∧ 3 ≤ 6) : zM' g l yX12_every (Cond.code yX12_every cX12_every 3 (some .boolean) :: zB) ({ frames := 18, cells := 0, slots := 0, locals := 397 } : Room) [.ref o] [bMo g o a th hi ac tp ba en tA fl 3 iD iO tU fm fk fa fc ft ff fb fi] (fun u : Int32 × Int32 × Int32 => (fun (at2 : Int32) (fl2 : Int32) (q : Int32) => some (.int q)) (u.1) (u.2.1) (u.2.2)) (fun u : Int32 × Int32 × Int32 => (fun (at2 : Int32) (fl2 : Int32) (q : Int32) => (0 ≤ at2.toInt ∧ at2.toInt ≤ en.toInt + 7 - 3) ∧ (tA.toInt ≤ at2.toInt) ∧ (-1 ≤ fl2.toInt) ∧ (q = 0 ∨ q = 1)) (u.1) (u.2.1) (u.2.2)) (fun u : Int32 × Int32 × Int32 => (fun (at2 : Int32) (fl2 : Int32) (q : Int32) => [bMo g o a th hi ac tp ba en at2 fl2 3 iD iO tU fm fk fa fc ft ff fb fi]) (u.1) (u.2.1) (u.2.2)) := by
  refine zM'.of (cc := cX12_every) (maxL := 3) (rt := (some .boolean)) (by decide) rfl (Nat.le_of_ble_eq_true rfl) ?_
  intro p e s m args below meth c A ls St hr hlocks hin hK hT hA hP hD hS hl
  obtain ⟨hx, hb, hml, hown, hts⟩ := id St
  have hl : lv_has ls 3 [(0, .ref o)] := hl
  refine lv_aload_n hx hb dX12_every_0 rfl (lv_at hl 0 rfl) ?_
  refine mcallV' (g := g) (q0 := 0) (ci := 10) (As := []) (rest := []) St hK hT hA hP hD hS hl.1 [0] [] rfl rfl rfl (m_atom3 l g o a th hi ac tp ba en tA fl iD iO tU fm fk fa fc ft ff fb fi hiD hiO hba hen htA hfl hde) (cwV 0 hts (zgL (zl4 k951 k952 k953 k839) k962) rfl rfl rfl (by decide +kernel) ⟨Nat.le_of_ble_eq_true rfl, Nat.le_of_ble_eq_true rfl⟩) rfl rfl rfl rfl (Nat.le_of_ble_eq_true rfl) dX12_every_1 ⟨(Nat.le_of_ble_eq_true rfl), (Nat.le_of_ble_eq_true rfl)⟩ (fun u_ H locs hq4 hP hD hS => ?_)
  obtain ⟨at2_1, fl2_2, q_3⟩ := u_
  replace hq4 : (0 ≤ at2_1.toInt ∧ at2_1.toInt ≤ en.toInt + 7 - 3) ∧ (tA.toInt ≤ at2_1.toInt) ∧ (-1 ≤ fl2_2.toInt) ∧ (q_3 = 0 ∨ q_3 = 1) := hq4
  have hP : va_P g.1 vwCl (List.flatten [bMo g o a th hi ac tp ba en at2_1 fl2_2 3 iD iO tU fm fk fa fc ft ff fb fi]) H := hP
  have hD : va_D A (List.flatten [bMo g o a th hi ac tp ba en at2_1 fl2_2 3 iD iO tU fm fk fa fc ft ff fb fi]) := hD
  refine W.widen (k := 0) (n := 0) (Nat.le_of_ble_eq_true rfl) (Nat.le_of_ble_eq_true rfl) ?_
  refine W.eq (g2 := F0 m 4 ls [.int q_3]) rfl ?_
  obtain ⟨hq4_0, hq4_1, hq4_2, hq4_3⟩ := hq4
  rcases hq4_3 with rfl | rfl
  · skip
    refine lv_istore_n (lv' := [(1, .int 0), (0, .ref o)]) hx hb dX12_every_4 rfl hl (by decide) rfl (fun ls hl => ?_)
    have hl := lv_sub (l' := [(0, .ref o), (1, .int 0)]) hl [1, 0] rfl
    have LP5_14 : ∀ (kf : Nat) (x_5 : Int32) (x_6 : Int32) (x_7 : Int32), (0 ≤ x_5.toInt ∧ x_5.toInt ≤ 1) → (0 ≤ x_6.toInt ∧ x_6.toInt ≤ 407) → ((-1) ≤ x_7.toInt) → (tA.toInt ≤ x_6.toInt) → (x_6.toInt ≤ en.toInt + 7 - 3) → (-1 ≤ x_7.toInt) → ∀ (H : Heap) (locs : List Loc) (ls : Array Slot), ((en.toInt + 8 - x_6.toInt).toNat) < kf → va_P g.1 vwCl (List.flatten [bMo g o a th hi ac tp ba en x_6 x_7 3 iD iO tU fm fk fa fc ft ff fb fi]) H → va_D A (List.flatten [bMo g o a th hi ac tp ba en x_6 x_7 3 iD iO tU fm fk fa fc ft ff fb fi]) → va_S A s.heap H locs → lv_has ls 3 [(0, .ref o), (1, .int x_5)] → W p l e ({ frames := 18, cells := 0, slots := 0, locals := 397 } : Room) s m args below meth c H locs (0) (0) (zF g (fun u : Int32 × Int32 × Int32 => (fun (at2 : Int32) (fl2 : Int32) (q : Int32) => some (.int q)) (u.1) (u.2.1) (u.2.2)) (fun u : Int32 × Int32 × Int32 => (fun (at2 : Int32) (fl2 : Int32) (q : Int32) => (0 ≤ at2.toInt ∧ at2.toInt ≤ en.toInt + 7 - 3) ∧ (tA.toInt ≤ at2.toInt) ∧ (-1 ≤ fl2.toInt) ∧ (q = 0 ∨ q = 1)) (u.1) (u.2.1) (u.2.2)) (fun u : Int32 × Int32 × Int32 => (fun (at2 : Int32) (fl2 : Int32) (q : Int32) => [bMo g o a th hi ac tp ba en at2 fl2 3 iD iO tU fm fk fa fc ft ff fb fi]) (u.1) (u.2.1) (u.2.2)) ({ frames := 18, cells := 0, slots := 0, locals := 397 } : Room) below args s A) (F0 m 5 ls []) := by
      intro kf
      induction kf with
      | zero => intro x_5 x_6 x_7 i8 i9 i10 i11 i12 i13 H locs ls hk; exact absurd hk (Nat.not_lt_zero _)
      | succ kf ih5_15 =>
        intro x_5 x_6 x_7 i8 i9 i10 i11 i12 i13 H locs ls hk5_15 hP hD hS hl
        refine lv_aload_n hx hb dX12_every_5 rfl (lv_at hl 0 rfl) ?_
        refine va_get (D := g.1) (ci := 10) (v := .int x_7) (C := RX12) (T := TX12) (N := 20) hx hb hts izRX12 hown hK hP 0 rfl rfl 12 (by decide) (hts _ k820) (fun _ h9 => h9) rfl dX12_every_6 ?_
        refine lv_iconst (v := (-1)) hx hb dX12_every_9 (by decide) ?_
        refine lv_icmp_ne (tgt := 44) hx hb dX12_every_10 (by decide) (fun cb9 => ?_) (fun cb9 => ?_)
        · skip
          have c16 : ¬ x_7.toInt = (-1) := zne cb9 rfl (by decide)
          have n17 : 0 ≤ x_7.toInt := zN1 c16 i10 (by decide)
          refine lv_iload_n hx hb dX12_every_44 rfl (lv_at hl 1 rfl) ?_
          have hP : va_P g.1 vwCl (List.flatten [bMo g o a th hi ac tp ba en x_6 x_7 3 iD iO tU fm fk fa fc ft ff fb fi]) H := hP
          have hD : va_D A (List.flatten [bMo g o a th hi ac tp ba en x_6 x_7 3 iD iO tU fm fk fa fc ft ff fb fi]) := hD
          exact mret_z hx hb hr hlocks hS (Nat.le_of_ble_eq_true rfl) (Nat.le_of_ble_eq_true rfl) dX12_every_45 (x_6, x_7, x_5) rfl (by first | assumption | exact zb01 (by omega)) (show (0 ≤ x_6.toInt ∧ x_6.toInt ≤ en.toInt + 7 - 3) ∧ (tA.toInt ≤ x_6.toInt) ∧ (-1 ≤ x_7.toInt) ∧ (x_5 = 0 ∨ x_5 = 1) from ⟨(by first | assumption | omega | decide | exact rfl | exact zb01 (by omega) | exact Or.inl (by decide) | exact Or.inr (by first | omega | decide)), i11, i13, (by first | assumption | omega | decide | exact rfl | exact zb01 (by omega) | exact Or.inl (by decide) | exact Or.inr (by first | omega | decide))⟩) hP hD
        · skip
          have c18 : x_7.toInt = (-1) := zeq cb9 rfl (by decide)
          have n19 : x_7.toInt ≤ (-1) := Int.le_trans (Int.le_of_eq c18) (Int.le_refl _)
          refine lv_aload_n hx hb dX12_every_13 rfl (lv_at hl 0 rfl) ?_
          refine va_ldcS (q := g.2 100) hx hb hown (zra45 hT.2.1) dX12_every_14 ?_
          have hL3 : (3 : Int32).toInt = 3 := by decide
          refine mcallV' (g := g) (q0 := 0) (ci := 10) (As := [.ref (g.2 100)]) (rest := []) St hK hT hA hP hD hS hl.1 [0] [] rfl rfl rfl (m_has l g o a th hi ac tp ba en x_6 x_7 3 iD iO tU fm fk fa fc ft ff fb fi (g.2 100) 45 zqa45 hba hen (by first | assumption | omega | decide | exact Or.inl (by decide) | exact Or.inr (by decide)) i13 (by decide) rfl zla45 zna45) (cwV 1 hts (zgL (zl4 k899 k900 k901 k839) k889) rfl rfl rfl (by decide +kernel) ⟨Nat.le_of_ble_eq_true rfl, Nat.le_of_ble_eq_true rfl⟩) rfl rfl rfl rfl (Nat.le_of_ble_eq_true rfl) dX12_every_16 ⟨(Nat.le_of_ble_eq_true rfl), (Nat.le_of_ble_eq_true rfl)⟩ (fun u_ H locs hq22 hP hD hS => ?_)
          obtain ⟨at2_20, r_21⟩ := u_
          replace hq22 : (0 ≤ at2_20.toInt ∧ at2_20.toInt ≤ en.toInt + 7 - (3 : Int32).toInt) ∧ (x_6.toInt ≤ at2_20.toInt) ∧ (r_21 = 1 ∧ x_6.toInt < at2_20.toInt ∧ at2_20.toInt ≤ en.toInt ∨ r_21 = 0) := hq22
          have hP : va_P g.1 vwCl (List.flatten [bMo g o a th hi ac tp ba en at2_20 x_7 3 iD iO tU fm fk fa fc ft ff fb fi]) H := hP
          have hD : va_D A (List.flatten [bMo g o a th hi ac tp ba en at2_20 x_7 3 iD iO tU fm fk fa fc ft ff fb fi]) := hD
          refine W.widen (k := 0) (n := 0) (Nat.le_of_ble_eq_true rfl) (Nat.le_of_ble_eq_true rfl) ?_
          refine W.eq (g2 := F0 m 19 ls [.int r_21]) rfl ?_
          obtain ⟨hq22_0, hq22_1, hq22_2⟩ := hq22
          rcases hq22_2 with ⟨rfl, hq22_k⟩ | rfl
          · skip
            refine lv_if_eq (tgt := 44) hx hb dX12_every_19 (by decide) (fun c23 => absurd c23 (by decide)) (fun _ => ?_)
            refine lv_aload_n hx hb dX12_every_22 rfl (lv_at hl 0 rfl) ?_
            refine mcallV' (g := g) (q0 := 0) (ci := 10) (As := []) (rest := []) St hK hT hA hP hD hS hl.1 [0] [] rfl rfl rfl (m_atom3 l g o a th hi ac tp ba en at2_20 x_7 iD iO tU fm fk fa fc ft ff fb fi hiD hiO hba hen (by first | assumption | omega | decide | exact Or.inl (by decide) | exact Or.inr (by decide)) i13 hde) (cwV 0 hts (zgL (zl4 k951 k952 k953 k839) k962) rfl rfl rfl (by decide +kernel) ⟨Nat.le_of_ble_eq_true rfl, Nat.le_of_ble_eq_true rfl⟩) rfl rfl rfl rfl (Nat.le_of_ble_eq_true rfl) dX12_every_23 ⟨(Nat.le_of_ble_eq_true rfl), (Nat.le_of_ble_eq_true rfl)⟩ (fun u_ H locs hq27 hP hD hS => ?_)
            obtain ⟨at2_24, fl2_25, q_26⟩ := u_
            replace hq27 : (0 ≤ at2_24.toInt ∧ at2_24.toInt ≤ en.toInt + 7 - 3) ∧ (at2_20.toInt ≤ at2_24.toInt) ∧ (-1 ≤ fl2_25.toInt) ∧ (q_26 = 0 ∨ q_26 = 1) := hq27
            have hP : va_P g.1 vwCl (List.flatten [bMo g o a th hi ac tp ba en at2_24 fl2_25 3 iD iO tU fm fk fa fc ft ff fb fi]) H := hP
            have hD : va_D A (List.flatten [bMo g o a th hi ac tp ba en at2_24 fl2_25 3 iD iO tU fm fk fa fc ft ff fb fi]) := hD
            refine W.widen (k := 0) (n := 0) (Nat.le_of_ble_eq_true rfl) (Nat.le_of_ble_eq_true rfl) ?_
            refine W.eq (g2 := F0 m 26 ls [.int q_26]) rfl ?_
            obtain ⟨hq27_0, hq27_1, hq27_2, hq27_3⟩ := hq27
            rcases hq27_3 with rfl | rfl
            · skip
              refine lv_istore_n (lv' := [(2, .int 0), (0, .ref o), (1, .int x_5)]) hx hb dX12_every_26 rfl hl (by decide) rfl (fun ls hl => ?_)
              refine lv_iload_n hx hb dX12_every_27 rfl (lv_at hl 2 rfl) ?_
              refine lv_if_eq (tgt := 39) hx hb dX12_every_28 (by decide) (fun cb9 => ?_) (fun cb9 => ?_)
              · skip
                have c28 : x_5.toInt = 0 := zeq cb9 rfl (by decide)
                have n29 : x_5.toInt ≤ 0 := Int.le_trans (Int.le_of_eq c28) (Int.le_refl _)
                refine lv_iconst (v := 0) hx hb dX12_every_39 (by decide) ?_
                refine lv_istore_n (lv' := [(1, .int 0), (2, .int 0), (0, .ref o)]) hx hb dX12_every_40 rfl hl (by decide) rfl (fun ls hl => ?_)
                refine lv_goto (tgt := 5) hx hb dX12_every_41 (by decide) ?_
                have hl := lv_sub (l' := [(0, .ref o), (1, .int 0), (2, .int 0)]) hl [2, 0, 1] rfl
                have hL0 : (0 : Int32).toInt = 0 := by decide
                have hP : va_P g.1 vwCl (List.flatten [bMo g o a th hi ac tp ba en at2_24 fl2_25 3 iD iO tU fm fk fa fc ft ff fb fi]) H := hP
                have hD : va_D A (List.flatten [bMo g o a th hi ac tp ba en at2_24 fl2_25 3 iD iO tU fm fk fa fc ft ff fb fi]) := hD
                exact ih5_15 0 at2_24 fl2_25 (by decide) (by first | omega | assumption | decide) (by first | omega | assumption | decide) (by first | omega | assumption | decide) (by first | omega | assumption | decide) hq27_2 H _ ls (by omega)  hP hD hS (lv_sub hl [0, 1] rfl)
              · skip
                have c30 : ¬ x_5.toInt = 0 := zne cb9 rfl (by decide)
                have n31 : 1 ≤ x_5.toInt := zN1 c30 i8.1 (by decide)
                refine lv_iload_n hx hb dX12_every_31 rfl (lv_at hl 0 rfl) ?_
                refine lv_if_eq (tgt := 39) hx hb dX12_every_32 (by decide) (fun _ => ?_) (fun c32 => absurd (by decide) c32)
                refine lv_iconst (v := 0) hx hb dX12_every_39 (by decide) ?_
                refine lv_istore_n (lv' := [(1, .int 0), (2, .int 0), (0, .ref o)]) hx hb dX12_every_40 rfl hl (by decide) rfl (fun ls hl => ?_)
                refine lv_goto (tgt := 5) hx hb dX12_every_41 (by decide) ?_
                have hl := lv_sub (l' := [(0, .ref o), (1, .int 0), (2, .int 0)]) hl [2, 0, 1] rfl
                have hL0 : (0 : Int32).toInt = 0 := by decide
                have hP : va_P g.1 vwCl (List.flatten [bMo g o a th hi ac tp ba en at2_24 fl2_25 3 iD iO tU fm fk fa fc ft ff fb fi]) H := hP
                have hD : va_D A (List.flatten [bMo g o a th hi ac tp ba en at2_24 fl2_25 3 iD iO tU fm fk fa fc ft ff fb fi]) := hD
                exact ih5_15 0 at2_24 fl2_25 (by decide) (by first | omega | assumption | decide) (by first | omega | assumption | decide) (by first | omega | assumption | decide) (by first | omega | assumption | decide) hq27_2 H _ ls (by omega)  hP hD hS (lv_sub hl [0, 1] rfl)
            · skip
              refine lv_istore_n (lv' := [(2, .int 1), (0, .ref o), (1, .int x_5)]) hx hb dX12_every_26 rfl hl (by decide) rfl (fun ls hl => ?_)
              refine lv_iload_n hx hb dX12_every_27 rfl (lv_at hl 2 rfl) ?_
              refine lv_if_eq (tgt := 39) hx hb dX12_every_28 (by decide) (fun cb9 => ?_) (fun cb9 => ?_)
              · skip
                have c33 : x_5.toInt = 0 := zeq cb9 rfl (by decide)
                have n34 : x_5.toInt ≤ 0 := Int.le_trans (Int.le_of_eq c33) (Int.le_refl _)
                refine lv_iconst (v := 0) hx hb dX12_every_39 (by decide) ?_
                refine lv_istore_n (lv' := [(1, .int 0), (2, .int 1), (0, .ref o)]) hx hb dX12_every_40 rfl hl (by decide) rfl (fun ls hl => ?_)
                refine lv_goto (tgt := 5) hx hb dX12_every_41 (by decide) ?_
                have hl := lv_sub (l' := [(0, .ref o), (1, .int 0), (2, .int 1)]) hl [2, 0, 1] rfl
                have hL0 : (0 : Int32).toInt = 0 := by decide
                have hP : va_P g.1 vwCl (List.flatten [bMo g o a th hi ac tp ba en at2_24 fl2_25 3 iD iO tU fm fk fa fc ft ff fb fi]) H := hP
                have hD : va_D A (List.flatten [bMo g o a th hi ac tp ba en at2_24 fl2_25 3 iD iO tU fm fk fa fc ft ff fb fi]) := hD
                exact ih5_15 0 at2_24 fl2_25 (by decide) (by first | omega | assumption | decide) (by first | omega | assumption | decide) (by first | omega | assumption | decide) (by first | omega | assumption | decide) hq27_2 H _ ls (by omega)  hP hD hS (lv_sub hl [0, 1] rfl)
              · skip
                have c35 : ¬ x_5.toInt = 0 := zne cb9 rfl (by decide)
                have n36 : 1 ≤ x_5.toInt := zN1 c35 i8.1 (by decide)
                refine lv_iload_n hx hb dX12_every_31 rfl (lv_at hl 0 rfl) ?_
                refine lv_if_eq (tgt := 39) hx hb dX12_every_32 (by decide) (fun c37 => absurd c37 (by decide)) (fun _ => ?_)
                refine lv_iconst (v := 1) hx hb dX12_every_35 (by decide) ?_
                refine lv_goto (tgt := 40) hx hb dX12_every_36 (by decide) ?_
                refine lv_istore_n (lv' := [(1, .int 1), (2, .int 1), (0, .ref o)]) hx hb dX12_every_40 rfl hl (by decide) rfl (fun ls hl => ?_)
                refine lv_goto (tgt := 5) hx hb dX12_every_41 (by decide) ?_
                have hl := lv_sub (l' := [(0, .ref o), (1, .int 1), (2, .int 1)]) hl [2, 0, 1] rfl
                have hL1 : (1 : Int32).toInt = 1 := by decide
                have hP : va_P g.1 vwCl (List.flatten [bMo g o a th hi ac tp ba en at2_24 fl2_25 3 iD iO tU fm fk fa fc ft ff fb fi]) H := hP
                have hD : va_D A (List.flatten [bMo g o a th hi ac tp ba en at2_24 fl2_25 3 iD iO tU fm fk fa fc ft ff fb fi]) := hD
                exact ih5_15 1 at2_24 fl2_25 (by decide) (by first | omega | assumption | decide) (by first | omega | assumption | decide) (by first | omega | assumption | decide) (by first | omega | assumption | decide) hq27_2 H _ ls (by omega)  hP hD hS (lv_sub hl [0, 1] rfl)
          · skip
            refine lv_if_eq (tgt := 44) hx hb dX12_every_19 (by decide) (fun _ => ?_) (fun c38 => absurd (by decide) c38)
            refine lv_iload_n hx hb dX12_every_44 rfl (lv_at hl 1 rfl) ?_
            have hP : va_P g.1 vwCl (List.flatten [bMo g o a th hi ac tp ba en at2_20 x_7 3 iD iO tU fm fk fa fc ft ff fb fi]) H := hP
            have hD : va_D A (List.flatten [bMo g o a th hi ac tp ba en at2_20 x_7 3 iD iO tU fm fk fa fc ft ff fb fi]) := hD
            exact mret_z hx hb hr hlocks hS (Nat.le_of_ble_eq_true rfl) (Nat.le_of_ble_eq_true rfl) dX12_every_45 (at2_20, x_7, x_5) rfl (by first | assumption | exact zb01 (by omega)) (show (0 ≤ at2_20.toInt ∧ at2_20.toInt ≤ en.toInt + 7 - 3) ∧ (tA.toInt ≤ at2_20.toInt) ∧ (-1 ≤ x_7.toInt) ∧ (x_5 = 0 ∨ x_5 = 1) from ⟨(by first | assumption | omega | decide | exact rfl | exact zb01 (by omega) | exact Or.inl (by decide) | exact Or.inr (by first | omega | decide)), (by first | assumption | omega | decide | exact rfl | exact zb01 (by omega) | exact Or.inl (by decide) | exact Or.inr (by first | omega | decide)), i13, (by first | assumption | omega | decide | exact rfl | exact zb01 (by omega) | exact Or.inl (by decide) | exact Or.inr (by first | omega | decide))⟩) hP hD
    have hL0 : (0 : Int32).toInt = 0 := by decide
    have hP : va_P g.1 vwCl (List.flatten [bMo g o a th hi ac tp ba en at2_1 fl2_2 3 iD iO tU fm fk fa fc ft ff fb fi]) H := hP
    have hD : va_D A (List.flatten [bMo g o a th hi ac tp ba en at2_1 fl2_2 3 iD iO tU fm fk fa fc ft ff fb fi]) := hD
    exact LP5_14 _ 0 at2_1 fl2_2 (by decide) (by first | omega | assumption | decide) (by first | omega | assumption | decide) hq4_1 (by first | omega | assumption | decide) hq4_2 H _ ls (Nat.lt_succ_self _)  hP hD hS (lv_sub hl [0, 1] rfl)
  · skip
    refine lv_istore_n (lv' := [(1, .int 1), (0, .ref o)]) hx hb dX12_every_4 rfl hl (by decide) rfl (fun ls hl => ?_)
    have hl := lv_sub (l' := [(0, .ref o), (1, .int 1)]) hl [1, 0] rfl
    have LP5_48 : ∀ (kf : Nat) (x_39 : Int32) (x_40 : Int32) (x_41 : Int32), (0 ≤ x_39.toInt ∧ x_39.toInt ≤ 1) → (0 ≤ x_40.toInt ∧ x_40.toInt ≤ 407) → ((-1) ≤ x_41.toInt) → (tA.toInt ≤ x_40.toInt) → (x_40.toInt ≤ en.toInt + 7 - 3) → (-1 ≤ x_41.toInt) → ∀ (H : Heap) (locs : List Loc) (ls : Array Slot), ((en.toInt + 8 - x_40.toInt).toNat) < kf → va_P g.1 vwCl (List.flatten [bMo g o a th hi ac tp ba en x_40 x_41 3 iD iO tU fm fk fa fc ft ff fb fi]) H → va_D A (List.flatten [bMo g o a th hi ac tp ba en x_40 x_41 3 iD iO tU fm fk fa fc ft ff fb fi]) → va_S A s.heap H locs → lv_has ls 3 [(0, .ref o), (1, .int x_39)] → W p l e ({ frames := 18, cells := 0, slots := 0, locals := 397 } : Room) s m args below meth c H locs (0) (0) (zF g (fun u : Int32 × Int32 × Int32 => (fun (at2 : Int32) (fl2 : Int32) (q : Int32) => some (.int q)) (u.1) (u.2.1) (u.2.2)) (fun u : Int32 × Int32 × Int32 => (fun (at2 : Int32) (fl2 : Int32) (q : Int32) => (0 ≤ at2.toInt ∧ at2.toInt ≤ en.toInt + 7 - 3) ∧ (tA.toInt ≤ at2.toInt) ∧ (-1 ≤ fl2.toInt) ∧ (q = 0 ∨ q = 1)) (u.1) (u.2.1) (u.2.2)) (fun u : Int32 × Int32 × Int32 => (fun (at2 : Int32) (fl2 : Int32) (q : Int32) => [bMo g o a th hi ac tp ba en at2 fl2 3 iD iO tU fm fk fa fc ft ff fb fi]) (u.1) (u.2.1) (u.2.2)) ({ frames := 18, cells := 0, slots := 0, locals := 397 } : Room) below args s A) (F0 m 5 ls []) := by
      intro kf
      induction kf with
      | zero => intro x_39 x_40 x_41 i42 i43 i44 i45 i46 i47 H locs ls hk; exact absurd hk (Nat.not_lt_zero _)
      | succ kf ih5_49 =>
        intro x_39 x_40 x_41 i42 i43 i44 i45 i46 i47 H locs ls hk5_49 hP hD hS hl
        refine lv_aload_n hx hb dX12_every_5 rfl (lv_at hl 0 rfl) ?_
        refine va_get (D := g.1) (ci := 10) (v := .int x_41) (C := RX12) (T := TX12) (N := 20) hx hb hts izRX12 hown hK hP 0 rfl rfl 12 (by decide) (hts _ k820) (fun _ h9 => h9) rfl dX12_every_6 ?_
        refine lv_iconst (v := (-1)) hx hb dX12_every_9 (by decide) ?_
        refine lv_icmp_ne (tgt := 44) hx hb dX12_every_10 (by decide) (fun cb9 => ?_) (fun cb9 => ?_)
        · skip
          have c50 : ¬ x_41.toInt = (-1) := zne cb9 rfl (by decide)
          have n51 : 0 ≤ x_41.toInt := zN1 c50 i44 (by decide)
          refine lv_iload_n hx hb dX12_every_44 rfl (lv_at hl 1 rfl) ?_
          have hP : va_P g.1 vwCl (List.flatten [bMo g o a th hi ac tp ba en x_40 x_41 3 iD iO tU fm fk fa fc ft ff fb fi]) H := hP
          have hD : va_D A (List.flatten [bMo g o a th hi ac tp ba en x_40 x_41 3 iD iO tU fm fk fa fc ft ff fb fi]) := hD
          exact mret_z hx hb hr hlocks hS (Nat.le_of_ble_eq_true rfl) (Nat.le_of_ble_eq_true rfl) dX12_every_45 (x_40, x_41, x_39) rfl (by first | assumption | exact zb01 (by omega)) (show (0 ≤ x_40.toInt ∧ x_40.toInt ≤ en.toInt + 7 - 3) ∧ (tA.toInt ≤ x_40.toInt) ∧ (-1 ≤ x_41.toInt) ∧ (x_39 = 0 ∨ x_39 = 1) from ⟨(by first | assumption | omega | decide | exact rfl | exact zb01 (by omega) | exact Or.inl (by decide) | exact Or.inr (by first | omega | decide)), i45, i47, (by first | assumption | omega | decide | exact rfl | exact zb01 (by omega) | exact Or.inl (by decide) | exact Or.inr (by first | omega | decide))⟩) hP hD
        · skip
          have c52 : x_41.toInt = (-1) := zeq cb9 rfl (by decide)
          have n53 : x_41.toInt ≤ (-1) := Int.le_trans (Int.le_of_eq c52) (Int.le_refl _)
          refine lv_aload_n hx hb dX12_every_13 rfl (lv_at hl 0 rfl) ?_
          refine va_ldcS (q := g.2 100) hx hb hown (zra45 hT.2.1) dX12_every_14 ?_
          have hL3 : (3 : Int32).toInt = 3 := by decide
          refine mcallV' (g := g) (q0 := 0) (ci := 10) (As := [.ref (g.2 100)]) (rest := []) St hK hT hA hP hD hS hl.1 [0] [] rfl rfl rfl (m_has l g o a th hi ac tp ba en x_40 x_41 3 iD iO tU fm fk fa fc ft ff fb fi (g.2 100) 45 zqa45 hba hen (by first | assumption | omega | decide | exact Or.inl (by decide) | exact Or.inr (by decide)) i47 (by decide) rfl zla45 zna45) (cwV 1 hts (zgL (zl4 k899 k900 k901 k839) k889) rfl rfl rfl (by decide +kernel) ⟨Nat.le_of_ble_eq_true rfl, Nat.le_of_ble_eq_true rfl⟩) rfl rfl rfl rfl (Nat.le_of_ble_eq_true rfl) dX12_every_16 ⟨(Nat.le_of_ble_eq_true rfl), (Nat.le_of_ble_eq_true rfl)⟩ (fun u_ H locs hq56 hP hD hS => ?_)
          obtain ⟨at2_54, r_55⟩ := u_
          replace hq56 : (0 ≤ at2_54.toInt ∧ at2_54.toInt ≤ en.toInt + 7 - (3 : Int32).toInt) ∧ (x_40.toInt ≤ at2_54.toInt) ∧ (r_55 = 1 ∧ x_40.toInt < at2_54.toInt ∧ at2_54.toInt ≤ en.toInt ∨ r_55 = 0) := hq56
          have hP : va_P g.1 vwCl (List.flatten [bMo g o a th hi ac tp ba en at2_54 x_41 3 iD iO tU fm fk fa fc ft ff fb fi]) H := hP
          have hD : va_D A (List.flatten [bMo g o a th hi ac tp ba en at2_54 x_41 3 iD iO tU fm fk fa fc ft ff fb fi]) := hD
          refine W.widen (k := 0) (n := 0) (Nat.le_of_ble_eq_true rfl) (Nat.le_of_ble_eq_true rfl) ?_
          refine W.eq (g2 := F0 m 19 ls [.int r_55]) rfl ?_
          obtain ⟨hq56_0, hq56_1, hq56_2⟩ := hq56
          rcases hq56_2 with ⟨rfl, hq56_k⟩ | rfl
          · skip
            refine lv_if_eq (tgt := 44) hx hb dX12_every_19 (by decide) (fun c57 => absurd c57 (by decide)) (fun _ => ?_)
            refine lv_aload_n hx hb dX12_every_22 rfl (lv_at hl 0 rfl) ?_
            refine mcallV' (g := g) (q0 := 0) (ci := 10) (As := []) (rest := []) St hK hT hA hP hD hS hl.1 [0] [] rfl rfl rfl (m_atom3 l g o a th hi ac tp ba en at2_54 x_41 iD iO tU fm fk fa fc ft ff fb fi hiD hiO hba hen (by first | assumption | omega | decide | exact Or.inl (by decide) | exact Or.inr (by decide)) i47 hde) (cwV 0 hts (zgL (zl4 k951 k952 k953 k839) k962) rfl rfl rfl (by decide +kernel) ⟨Nat.le_of_ble_eq_true rfl, Nat.le_of_ble_eq_true rfl⟩) rfl rfl rfl rfl (Nat.le_of_ble_eq_true rfl) dX12_every_23 ⟨(Nat.le_of_ble_eq_true rfl), (Nat.le_of_ble_eq_true rfl)⟩ (fun u_ H locs hq61 hP hD hS => ?_)
            obtain ⟨at2_58, fl2_59, q_60⟩ := u_
            replace hq61 : (0 ≤ at2_58.toInt ∧ at2_58.toInt ≤ en.toInt + 7 - 3) ∧ (at2_54.toInt ≤ at2_58.toInt) ∧ (-1 ≤ fl2_59.toInt) ∧ (q_60 = 0 ∨ q_60 = 1) := hq61
            have hP : va_P g.1 vwCl (List.flatten [bMo g o a th hi ac tp ba en at2_58 fl2_59 3 iD iO tU fm fk fa fc ft ff fb fi]) H := hP
            have hD : va_D A (List.flatten [bMo g o a th hi ac tp ba en at2_58 fl2_59 3 iD iO tU fm fk fa fc ft ff fb fi]) := hD
            refine W.widen (k := 0) (n := 0) (Nat.le_of_ble_eq_true rfl) (Nat.le_of_ble_eq_true rfl) ?_
            refine W.eq (g2 := F0 m 26 ls [.int q_60]) rfl ?_
            obtain ⟨hq61_0, hq61_1, hq61_2, hq61_3⟩ := hq61
            rcases hq61_3 with rfl | rfl
            · skip
              refine lv_istore_n (lv' := [(2, .int 0), (0, .ref o), (1, .int x_39)]) hx hb dX12_every_26 rfl hl (by decide) rfl (fun ls hl => ?_)
              refine lv_iload_n hx hb dX12_every_27 rfl (lv_at hl 2 rfl) ?_
              refine lv_if_eq (tgt := 39) hx hb dX12_every_28 (by decide) (fun cb9 => ?_) (fun cb9 => ?_)
              · skip
                have c62 : x_39.toInt = 0 := zeq cb9 rfl (by decide)
                have n63 : x_39.toInt ≤ 0 := Int.le_trans (Int.le_of_eq c62) (Int.le_refl _)
                refine lv_iconst (v := 0) hx hb dX12_every_39 (by decide) ?_
                refine lv_istore_n (lv' := [(1, .int 0), (2, .int 0), (0, .ref o)]) hx hb dX12_every_40 rfl hl (by decide) rfl (fun ls hl => ?_)
                refine lv_goto (tgt := 5) hx hb dX12_every_41 (by decide) ?_
                have hl := lv_sub (l' := [(0, .ref o), (1, .int 0), (2, .int 0)]) hl [2, 0, 1] rfl
                have hL0 : (0 : Int32).toInt = 0 := by decide
                have hP : va_P g.1 vwCl (List.flatten [bMo g o a th hi ac tp ba en at2_58 fl2_59 3 iD iO tU fm fk fa fc ft ff fb fi]) H := hP
                have hD : va_D A (List.flatten [bMo g o a th hi ac tp ba en at2_58 fl2_59 3 iD iO tU fm fk fa fc ft ff fb fi]) := hD
                exact ih5_49 0 at2_58 fl2_59 (by decide) (by first | omega | assumption | decide) (by first | omega | assumption | decide) (by first | omega | assumption | decide) (by first | omega | assumption | decide) hq61_2 H _ ls (by omega)  hP hD hS (lv_sub hl [0, 1] rfl)
              · skip
                have c64 : ¬ x_39.toInt = 0 := zne cb9 rfl (by decide)
                have n65 : 1 ≤ x_39.toInt := zN1 c64 i42.1 (by decide)
                refine lv_iload_n hx hb dX12_every_31 rfl (lv_at hl 0 rfl) ?_
                refine lv_if_eq (tgt := 39) hx hb dX12_every_32 (by decide) (fun _ => ?_) (fun c66 => absurd (by decide) c66)
                refine lv_iconst (v := 0) hx hb dX12_every_39 (by decide) ?_
                refine lv_istore_n (lv' := [(1, .int 0), (2, .int 0), (0, .ref o)]) hx hb dX12_every_40 rfl hl (by decide) rfl (fun ls hl => ?_)
                refine lv_goto (tgt := 5) hx hb dX12_every_41 (by decide) ?_
                have hl := lv_sub (l' := [(0, .ref o), (1, .int 0), (2, .int 0)]) hl [2, 0, 1] rfl
                have hL0 : (0 : Int32).toInt = 0 := by decide
                have hP : va_P g.1 vwCl (List.flatten [bMo g o a th hi ac tp ba en at2_58 fl2_59 3 iD iO tU fm fk fa fc ft ff fb fi]) H := hP
                have hD : va_D A (List.flatten [bMo g o a th hi ac tp ba en at2_58 fl2_59 3 iD iO tU fm fk fa fc ft ff fb fi]) := hD
                exact ih5_49 0 at2_58 fl2_59 (by decide) (by first | omega | assumption | decide) (by first | omega | assumption | decide) (by first | omega | assumption | decide) (by first | omega | assumption | decide) hq61_2 H _ ls (by omega)  hP hD hS (lv_sub hl [0, 1] rfl)
            · skip
              refine lv_istore_n (lv' := [(2, .int 1), (0, .ref o), (1, .int x_39)]) hx hb dX12_every_26 rfl hl (by decide) rfl (fun ls hl => ?_)
              refine lv_iload_n hx hb dX12_every_27 rfl (lv_at hl 2 rfl) ?_
              refine lv_if_eq (tgt := 39) hx hb dX12_every_28 (by decide) (fun cb9 => ?_) (fun cb9 => ?_)
              · skip
                have c67 : x_39.toInt = 0 := zeq cb9 rfl (by decide)
                have n68 : x_39.toInt ≤ 0 := Int.le_trans (Int.le_of_eq c67) (Int.le_refl _)
                refine lv_iconst (v := 0) hx hb dX12_every_39 (by decide) ?_
                refine lv_istore_n (lv' := [(1, .int 0), (2, .int 1), (0, .ref o)]) hx hb dX12_every_40 rfl hl (by decide) rfl (fun ls hl => ?_)
                refine lv_goto (tgt := 5) hx hb dX12_every_41 (by decide) ?_
                have hl := lv_sub (l' := [(0, .ref o), (1, .int 0), (2, .int 1)]) hl [2, 0, 1] rfl
                have hL0 : (0 : Int32).toInt = 0 := by decide
                have hP : va_P g.1 vwCl (List.flatten [bMo g o a th hi ac tp ba en at2_58 fl2_59 3 iD iO tU fm fk fa fc ft ff fb fi]) H := hP
                have hD : va_D A (List.flatten [bMo g o a th hi ac tp ba en at2_58 fl2_59 3 iD iO tU fm fk fa fc ft ff fb fi]) := hD
                exact ih5_49 0 at2_58 fl2_59 (by decide) (by first | omega | assumption | decide) (by first | omega | assumption | decide) (by first | omega | assumption | decide) (by first | omega | assumption | decide) hq61_2 H _ ls (by omega)  hP hD hS (lv_sub hl [0, 1] rfl)
              · skip
                have c69 : ¬ x_39.toInt = 0 := zne cb9 rfl (by decide)
                have n70 : 1 ≤ x_39.toInt := zN1 c69 i42.1 (by decide)
                refine lv_iload_n hx hb dX12_every_31 rfl (lv_at hl 0 rfl) ?_
                refine lv_if_eq (tgt := 39) hx hb dX12_every_32 (by decide) (fun c71 => absurd c71 (by decide)) (fun _ => ?_)
                refine lv_iconst (v := 1) hx hb dX12_every_35 (by decide) ?_
                refine lv_goto (tgt := 40) hx hb dX12_every_36 (by decide) ?_
                refine lv_istore_n (lv' := [(1, .int 1), (2, .int 1), (0, .ref o)]) hx hb dX12_every_40 rfl hl (by decide) rfl (fun ls hl => ?_)
                refine lv_goto (tgt := 5) hx hb dX12_every_41 (by decide) ?_
                have hl := lv_sub (l' := [(0, .ref o), (1, .int 1), (2, .int 1)]) hl [2, 0, 1] rfl
                have hL1 : (1 : Int32).toInt = 1 := by decide
                have hP : va_P g.1 vwCl (List.flatten [bMo g o a th hi ac tp ba en at2_58 fl2_59 3 iD iO tU fm fk fa fc ft ff fb fi]) H := hP
                have hD : va_D A (List.flatten [bMo g o a th hi ac tp ba en at2_58 fl2_59 3 iD iO tU fm fk fa fc ft ff fb fi]) := hD
                exact ih5_49 1 at2_58 fl2_59 (by decide) (by first | omega | assumption | decide) (by first | omega | assumption | decide) (by first | omega | assumption | decide) (by first | omega | assumption | decide) hq61_2 H _ ls (by omega)  hP hD hS (lv_sub hl [0, 1] rfl)
          · skip
            refine lv_if_eq (tgt := 44) hx hb dX12_every_19 (by decide) (fun _ => ?_) (fun c72 => absurd (by decide) c72)
            refine lv_iload_n hx hb dX12_every_44 rfl (lv_at hl 1 rfl) ?_
            have hP : va_P g.1 vwCl (List.flatten [bMo g o a th hi ac tp ba en at2_54 x_41 3 iD iO tU fm fk fa fc ft ff fb fi]) H := hP
            have hD : va_D A (List.flatten [bMo g o a th hi ac tp ba en at2_54 x_41 3 iD iO tU fm fk fa fc ft ff fb fi]) := hD
            exact mret_z hx hb hr hlocks hS (Nat.le_of_ble_eq_true rfl) (Nat.le_of_ble_eq_true rfl) dX12_every_45 (at2_54, x_41, x_39) rfl (by first | assumption | exact zb01 (by omega)) (show (0 ≤ at2_54.toInt ∧ at2_54.toInt ≤ en.toInt + 7 - 3) ∧ (tA.toInt ≤ at2_54.toInt) ∧ (-1 ≤ x_41.toInt) ∧ (x_39 = 0 ∨ x_39 = 1) from ⟨(by first | assumption | omega | decide | exact rfl | exact zb01 (by omega) | exact Or.inl (by decide) | exact Or.inr (by first | omega | decide)), (by first | assumption | omega | decide | exact rfl | exact zb01 (by omega) | exact Or.inl (by decide) | exact Or.inr (by first | omega | decide)), i47, (by first | assumption | omega | decide | exact rfl | exact zb01 (by omega) | exact Or.inl (by decide) | exact Or.inr (by first | omega | decide))⟩) hP hD
    have hL1 : (1 : Int32).toInt = 1 := by decide
    have hP : va_P g.1 vwCl (List.flatten [bMo g o a th hi ac tp ba en at2_1 fl2_2 3 iD iO tU fm fk fa fc ft ff fb fi]) H := hP
    have hD : va_D A (List.flatten [bMo g o a th hi ac tp ba en at2_1 fl2_2 3 iD iO tU fm fk fa fc ft ff fb fi]) := hD
    exact LP5_48 _ 1 at2_1 fl2_2 (by decide) (by first | omega | assumption | decide) (by first | omega | assumption | decide) hq4_1 (by first | omega | assumption | decide) hq4_2 H _ ls (Nat.lt_succ_self _)  hP hD hS (lv_sub hl [0, 1] rfl)
set_option maxRecDepth 100000 in
set_option maxHeartbeats 4000000 in
theorem m_some3 (l : Launch) (g : zG) (o : Nat) (a : Nat → Nat) (th : Int32) (hi : Int32) (ac : Int32) (tp : Int32) (ba : Int32) (en : Int32) (tA : Int32) (fl : Int32) (iD : Int32) (iO : Int32) (tU : Int32) (fm : Nat → Int32) (fk : Nat → Int32) (fa : Nat → Int32) (fc : Nat → Int32) (ft : Nat → Int32) (ff : Nat → Int32) (fb : Nat → Int32) (fi : Nat → Int32) (hiD : 0 ≤ iD.toInt ∧ iD.toInt ≤ 1) (hiO : 0 ≤ iO.toInt ∧ iO.toInt ≤ 1) (hba : zBa ba.toInt) (hen : 0 ≤ en.toInt ∧ en.toInt ≤ 400) (htA : 0 ≤ tA.toInt ∧ tA.toInt ≤ en.toInt + 7 - 3) (hfl : -1 ≤ fl.toInt) (hde : 0 ≤ 3 ∧ 3 ≤ 6) : zM' g l yX12_some (Cond.code yX12_some cX12_some 3 (some .boolean) :: zB) ({ frames := 19, cells := 0, slots := 0, locals := 419 } : Room) [.ref o] [bMo g o a th hi ac tp ba en tA fl 3 iD iO tU fm fk fa fc ft ff fb fi] (fun u : Int32 × Int32 × Int32 => (fun (at2 : Int32) (fl2 : Int32) (q : Int32) => some (.int q)) (u.1) (u.2.1) (u.2.2)) (fun u : Int32 × Int32 × Int32 => (fun (at2 : Int32) (fl2 : Int32) (q : Int32) => (0 ≤ at2.toInt ∧ at2.toInt ≤ en.toInt + 7 - 3) ∧ (tA.toInt ≤ at2.toInt) ∧ (-1 ≤ fl2.toInt) ∧ (q = 0 ∨ q = 1)) (u.1) (u.2.1) (u.2.2)) (fun u : Int32 × Int32 × Int32 => (fun (at2 : Int32) (fl2 : Int32) (q : Int32) => [bMo g o a th hi ac tp ba en at2 fl2 3 iD iO tU fm fk fa fc ft ff fb fi]) (u.1) (u.2.1) (u.2.2)) := by
  refine zM'.of (cc := cX12_some) (maxL := 3) (rt := (some .boolean)) (by decide) rfl (Nat.le_of_ble_eq_true rfl) ?_
  intro p e s m args below meth c A ls St hr hlocks hin hK hT hA hP hD hS hl
  obtain ⟨hx, hb, hml, hown, hts⟩ := id St
  have hl : lv_has ls 3 [(0, .ref o)] := hl
  refine lv_aload_n hx hb dX12_some_0 rfl (lv_at hl 0 rfl) ?_
  refine mcallV' (g := g) (q0 := 0) (ci := 10) (As := []) (rest := []) St hK hT hA hP hD hS hl.1 [0] [] rfl rfl rfl (m_every3 l g o a th hi ac tp ba en tA fl iD iO tU fm fk fa fc ft ff fb fi hiD hiO hba hen htA hfl hde) (cwV 0 hts (zgL (zl4 k959 k960 k961 k839) k957) rfl rfl rfl (by decide +kernel) ⟨Nat.le_of_ble_eq_true rfl, Nat.le_of_ble_eq_true rfl⟩) rfl rfl rfl rfl (Nat.le_of_ble_eq_true rfl) dX12_some_1 ⟨(Nat.le_of_ble_eq_true rfl), (Nat.le_of_ble_eq_true rfl)⟩ (fun u_ H locs hq4 hP hD hS => ?_)
  obtain ⟨at2_1, fl2_2, q_3⟩ := u_
  replace hq4 : (0 ≤ at2_1.toInt ∧ at2_1.toInt ≤ en.toInt + 7 - 3) ∧ (tA.toInt ≤ at2_1.toInt) ∧ (-1 ≤ fl2_2.toInt) ∧ (q_3 = 0 ∨ q_3 = 1) := hq4
  have hP : va_P g.1 vwCl (List.flatten [bMo g o a th hi ac tp ba en at2_1 fl2_2 3 iD iO tU fm fk fa fc ft ff fb fi]) H := hP
  have hD : va_D A (List.flatten [bMo g o a th hi ac tp ba en at2_1 fl2_2 3 iD iO tU fm fk fa fc ft ff fb fi]) := hD
  refine W.widen (k := 0) (n := 0) (Nat.le_of_ble_eq_true rfl) (Nat.le_of_ble_eq_true rfl) ?_
  refine W.eq (g2 := F0 m 4 ls [.int q_3]) rfl ?_
  obtain ⟨hq4_0, hq4_1, hq4_2, hq4_3⟩ := hq4
  rcases hq4_3 with rfl | rfl
  · skip
    refine lv_istore_n (lv' := [(1, .int 0), (0, .ref o)]) hx hb dX12_some_4 rfl hl (by decide) rfl (fun ls hl => ?_)
    have hl := lv_sub (l' := [(0, .ref o), (1, .int 0)]) hl [1, 0] rfl
    have LP5_14 : ∀ (kf : Nat) (x_5 : Int32) (x_6 : Int32) (x_7 : Int32), (0 ≤ x_5.toInt ∧ x_5.toInt ≤ 1) → (0 ≤ x_6.toInt ∧ x_6.toInt ≤ 407) → ((-1) ≤ x_7.toInt) → (tA.toInt ≤ x_6.toInt) → (x_6.toInt ≤ en.toInt + 7 - 3) → (-1 ≤ x_7.toInt) → ∀ (H : Heap) (locs : List Loc) (ls : Array Slot), ((en.toInt + 8 - x_6.toInt).toNat) < kf → va_P g.1 vwCl (List.flatten [bMo g o a th hi ac tp ba en x_6 x_7 3 iD iO tU fm fk fa fc ft ff fb fi]) H → va_D A (List.flatten [bMo g o a th hi ac tp ba en x_6 x_7 3 iD iO tU fm fk fa fc ft ff fb fi]) → va_S A s.heap H locs → lv_has ls 3 [(0, .ref o), (1, .int x_5)] → W p l e ({ frames := 19, cells := 0, slots := 0, locals := 419 } : Room) s m args below meth c H locs (0) (0) (zF g (fun u : Int32 × Int32 × Int32 => (fun (at2 : Int32) (fl2 : Int32) (q : Int32) => some (.int q)) (u.1) (u.2.1) (u.2.2)) (fun u : Int32 × Int32 × Int32 => (fun (at2 : Int32) (fl2 : Int32) (q : Int32) => (0 ≤ at2.toInt ∧ at2.toInt ≤ en.toInt + 7 - 3) ∧ (tA.toInt ≤ at2.toInt) ∧ (-1 ≤ fl2.toInt) ∧ (q = 0 ∨ q = 1)) (u.1) (u.2.1) (u.2.2)) (fun u : Int32 × Int32 × Int32 => (fun (at2 : Int32) (fl2 : Int32) (q : Int32) => [bMo g o a th hi ac tp ba en at2 fl2 3 iD iO tU fm fk fa fc ft ff fb fi]) (u.1) (u.2.1) (u.2.2)) ({ frames := 19, cells := 0, slots := 0, locals := 419 } : Room) below args s A) (F0 m 5 ls []) := by
      intro kf
      induction kf with
      | zero => intro x_5 x_6 x_7 i8 i9 i10 i11 i12 i13 H locs ls hk; exact absurd hk (Nat.not_lt_zero _)
      | succ kf ih5_15 =>
        intro x_5 x_6 x_7 i8 i9 i10 i11 i12 i13 H locs ls hk5_15 hP hD hS hl
        refine lv_aload_n hx hb dX12_some_5 rfl (lv_at hl 0 rfl) ?_
        refine va_get (D := g.1) (ci := 10) (v := .int x_7) (C := RX12) (T := TX12) (N := 20) hx hb hts izRX12 hown hK hP 0 rfl rfl 12 (by decide) (hts _ k820) (fun _ h9 => h9) rfl dX12_some_6 ?_
        refine lv_iconst (v := (-1)) hx hb dX12_some_9 (by decide) ?_
        refine lv_icmp_ne (tgt := 44) hx hb dX12_some_10 (by decide) (fun cb9 => ?_) (fun cb9 => ?_)
        · skip
          have c16 : ¬ x_7.toInt = (-1) := zne cb9 rfl (by decide)
          have n17 : 0 ≤ x_7.toInt := zN1 c16 i10 (by decide)
          refine lv_iload_n hx hb dX12_some_44 rfl (lv_at hl 1 rfl) ?_
          have hP : va_P g.1 vwCl (List.flatten [bMo g o a th hi ac tp ba en x_6 x_7 3 iD iO tU fm fk fa fc ft ff fb fi]) H := hP
          have hD : va_D A (List.flatten [bMo g o a th hi ac tp ba en x_6 x_7 3 iD iO tU fm fk fa fc ft ff fb fi]) := hD
          exact mret_z hx hb hr hlocks hS (Nat.le_of_ble_eq_true rfl) (Nat.le_of_ble_eq_true rfl) dX12_some_45 (x_6, x_7, x_5) rfl (by first | assumption | exact zb01 (by omega)) (show (0 ≤ x_6.toInt ∧ x_6.toInt ≤ en.toInt + 7 - 3) ∧ (tA.toInt ≤ x_6.toInt) ∧ (-1 ≤ x_7.toInt) ∧ (x_5 = 0 ∨ x_5 = 1) from ⟨(by first | assumption | omega | decide | exact rfl | exact zb01 (by omega) | exact Or.inl (by decide) | exact Or.inr (by first | omega | decide)), i11, i13, (by first | assumption | omega | decide | exact rfl | exact zb01 (by omega) | exact Or.inl (by decide) | exact Or.inr (by first | omega | decide))⟩) hP hD
        · skip
          have c18 : x_7.toInt = (-1) := zeq cb9 rfl (by decide)
          have n19 : x_7.toInt ≤ (-1) := Int.le_trans (Int.le_of_eq c18) (Int.le_refl _)
          refine lv_aload_n hx hb dX12_some_13 rfl (lv_at hl 0 rfl) ?_
          refine va_ldcS (q := g.2 102) hx hb hown (zra46 hT.2.1) dX12_some_14 ?_
          have hL3 : (3 : Int32).toInt = 3 := by decide
          refine mcallV' (g := g) (q0 := 0) (ci := 10) (As := [.ref (g.2 102)]) (rest := []) St hK hT hA hP hD hS hl.1 [0] [] rfl rfl rfl (m_has l g o a th hi ac tp ba en x_6 x_7 3 iD iO tU fm fk fa fc ft ff fb fi (g.2 102) 46 zqa46 hba hen (by first | assumption | omega | decide | exact Or.inl (by decide) | exact Or.inr (by decide)) i13 (by decide) rfl zla46 zna46) (cwV 1 hts (zgL (zl4 k899 k900 k901 k839) k889) rfl rfl rfl (by decide +kernel) ⟨Nat.le_of_ble_eq_true rfl, Nat.le_of_ble_eq_true rfl⟩) rfl rfl rfl rfl (Nat.le_of_ble_eq_true rfl) dX12_some_16 ⟨(Nat.le_of_ble_eq_true rfl), (Nat.le_of_ble_eq_true rfl)⟩ (fun u_ H locs hq22 hP hD hS => ?_)
          obtain ⟨at2_20, r_21⟩ := u_
          replace hq22 : (0 ≤ at2_20.toInt ∧ at2_20.toInt ≤ en.toInt + 7 - (3 : Int32).toInt) ∧ (x_6.toInt ≤ at2_20.toInt) ∧ (r_21 = 1 ∧ x_6.toInt < at2_20.toInt ∧ at2_20.toInt ≤ en.toInt ∨ r_21 = 0) := hq22
          have hP : va_P g.1 vwCl (List.flatten [bMo g o a th hi ac tp ba en at2_20 x_7 3 iD iO tU fm fk fa fc ft ff fb fi]) H := hP
          have hD : va_D A (List.flatten [bMo g o a th hi ac tp ba en at2_20 x_7 3 iD iO tU fm fk fa fc ft ff fb fi]) := hD
          refine W.widen (k := 0) (n := 0) (Nat.le_of_ble_eq_true rfl) (Nat.le_of_ble_eq_true rfl) ?_
          refine W.eq (g2 := F0 m 19 ls [.int r_21]) rfl ?_
          obtain ⟨hq22_0, hq22_1, hq22_2⟩ := hq22
          rcases hq22_2 with ⟨rfl, hq22_k⟩ | rfl
          · skip
            refine lv_if_eq (tgt := 44) hx hb dX12_some_19 (by decide) (fun c23 => absurd c23 (by decide)) (fun _ => ?_)
            refine lv_aload_n hx hb dX12_some_22 rfl (lv_at hl 0 rfl) ?_
            refine mcallV' (g := g) (q0 := 0) (ci := 10) (As := []) (rest := []) St hK hT hA hP hD hS hl.1 [0] [] rfl rfl rfl (m_every3 l g o a th hi ac tp ba en at2_20 x_7 iD iO tU fm fk fa fc ft ff fb fi hiD hiO hba hen (by first | assumption | omega | decide | exact Or.inl (by decide) | exact Or.inr (by decide)) i13 hde) (cwV 0 hts (zgL (zl4 k959 k960 k961 k839) k957) rfl rfl rfl (by decide +kernel) ⟨Nat.le_of_ble_eq_true rfl, Nat.le_of_ble_eq_true rfl⟩) rfl rfl rfl rfl (Nat.le_of_ble_eq_true rfl) dX12_some_23 ⟨(Nat.le_of_ble_eq_true rfl), (Nat.le_of_ble_eq_true rfl)⟩ (fun u_ H locs hq27 hP hD hS => ?_)
            obtain ⟨at2_24, fl2_25, q_26⟩ := u_
            replace hq27 : (0 ≤ at2_24.toInt ∧ at2_24.toInt ≤ en.toInt + 7 - 3) ∧ (at2_20.toInt ≤ at2_24.toInt) ∧ (-1 ≤ fl2_25.toInt) ∧ (q_26 = 0 ∨ q_26 = 1) := hq27
            have hP : va_P g.1 vwCl (List.flatten [bMo g o a th hi ac tp ba en at2_24 fl2_25 3 iD iO tU fm fk fa fc ft ff fb fi]) H := hP
            have hD : va_D A (List.flatten [bMo g o a th hi ac tp ba en at2_24 fl2_25 3 iD iO tU fm fk fa fc ft ff fb fi]) := hD
            refine W.widen (k := 0) (n := 0) (Nat.le_of_ble_eq_true rfl) (Nat.le_of_ble_eq_true rfl) ?_
            refine W.eq (g2 := F0 m 26 ls [.int q_26]) rfl ?_
            obtain ⟨hq27_0, hq27_1, hq27_2, hq27_3⟩ := hq27
            rcases hq27_3 with rfl | rfl
            · skip
              refine lv_istore_n (lv' := [(2, .int 0), (0, .ref o), (1, .int x_5)]) hx hb dX12_some_26 rfl hl (by decide) rfl (fun ls hl => ?_)
              refine lv_iload_n hx hb dX12_some_27 rfl (lv_at hl 2 rfl) ?_
              refine lv_if_ne (tgt := 35) hx hb dX12_some_28 (by decide) (fun cb9 => ?_) (fun cb9 => ?_)
              · skip
                have c28 : ¬ x_5.toInt = 0 := zne cb9 rfl (by decide)
                have n29 : 1 ≤ x_5.toInt := zN1 c28 i8.1 (by decide)
                refine lv_iconst (v := 1) hx hb dX12_some_35 (by decide) ?_
                refine lv_goto (tgt := 40) hx hb dX12_some_36 (by decide) ?_
                refine lv_istore_n (lv' := [(1, .int 1), (2, .int 0), (0, .ref o)]) hx hb dX12_some_40 rfl hl (by decide) rfl (fun ls hl => ?_)
                refine lv_goto (tgt := 5) hx hb dX12_some_41 (by decide) ?_
                have hl := lv_sub (l' := [(0, .ref o), (1, .int 1), (2, .int 0)]) hl [2, 0, 1] rfl
                have hL1 : (1 : Int32).toInt = 1 := by decide
                have hP : va_P g.1 vwCl (List.flatten [bMo g o a th hi ac tp ba en at2_24 fl2_25 3 iD iO tU fm fk fa fc ft ff fb fi]) H := hP
                have hD : va_D A (List.flatten [bMo g o a th hi ac tp ba en at2_24 fl2_25 3 iD iO tU fm fk fa fc ft ff fb fi]) := hD
                exact ih5_15 1 at2_24 fl2_25 (by decide) (by first | omega | assumption | decide) (by first | omega | assumption | decide) (by first | omega | assumption | decide) (by first | omega | assumption | decide) hq27_2 H _ ls (by omega)  hP hD hS (lv_sub hl [0, 1] rfl)
              · skip
                have c30 : x_5.toInt = 0 := zeq cb9 rfl (by decide)
                have n31 : x_5.toInt ≤ 0 := Int.le_trans (Int.le_of_eq c30) (Int.le_refl _)
                refine lv_iload_n hx hb dX12_some_31 rfl (lv_at hl 0 rfl) ?_
                refine lv_if_eq (tgt := 39) hx hb dX12_some_32 (by decide) (fun _ => ?_) (fun c32 => absurd (by decide) c32)
                refine lv_iconst (v := 0) hx hb dX12_some_39 (by decide) ?_
                refine lv_istore_n (lv' := [(1, .int 0), (2, .int 0), (0, .ref o)]) hx hb dX12_some_40 rfl hl (by decide) rfl (fun ls hl => ?_)
                refine lv_goto (tgt := 5) hx hb dX12_some_41 (by decide) ?_
                have hl := lv_sub (l' := [(0, .ref o), (1, .int 0), (2, .int 0)]) hl [2, 0, 1] rfl
                have hL0 : (0 : Int32).toInt = 0 := by decide
                have hP : va_P g.1 vwCl (List.flatten [bMo g o a th hi ac tp ba en at2_24 fl2_25 3 iD iO tU fm fk fa fc ft ff fb fi]) H := hP
                have hD : va_D A (List.flatten [bMo g o a th hi ac tp ba en at2_24 fl2_25 3 iD iO tU fm fk fa fc ft ff fb fi]) := hD
                exact ih5_15 0 at2_24 fl2_25 (by decide) (by first | omega | assumption | decide) (by first | omega | assumption | decide) (by first | omega | assumption | decide) (by first | omega | assumption | decide) hq27_2 H _ ls (by omega)  hP hD hS (lv_sub hl [0, 1] rfl)
            · skip
              refine lv_istore_n (lv' := [(2, .int 1), (0, .ref o), (1, .int x_5)]) hx hb dX12_some_26 rfl hl (by decide) rfl (fun ls hl => ?_)
              refine lv_iload_n hx hb dX12_some_27 rfl (lv_at hl 2 rfl) ?_
              refine lv_if_ne (tgt := 35) hx hb dX12_some_28 (by decide) (fun cb9 => ?_) (fun cb9 => ?_)
              · skip
                have c33 : ¬ x_5.toInt = 0 := zne cb9 rfl (by decide)
                have n34 : 1 ≤ x_5.toInt := zN1 c33 i8.1 (by decide)
                refine lv_iconst (v := 1) hx hb dX12_some_35 (by decide) ?_
                refine lv_goto (tgt := 40) hx hb dX12_some_36 (by decide) ?_
                refine lv_istore_n (lv' := [(1, .int 1), (2, .int 1), (0, .ref o)]) hx hb dX12_some_40 rfl hl (by decide) rfl (fun ls hl => ?_)
                refine lv_goto (tgt := 5) hx hb dX12_some_41 (by decide) ?_
                have hl := lv_sub (l' := [(0, .ref o), (1, .int 1), (2, .int 1)]) hl [2, 0, 1] rfl
                have hL1 : (1 : Int32).toInt = 1 := by decide
                have hP : va_P g.1 vwCl (List.flatten [bMo g o a th hi ac tp ba en at2_24 fl2_25 3 iD iO tU fm fk fa fc ft ff fb fi]) H := hP
                have hD : va_D A (List.flatten [bMo g o a th hi ac tp ba en at2_24 fl2_25 3 iD iO tU fm fk fa fc ft ff fb fi]) := hD
                exact ih5_15 1 at2_24 fl2_25 (by decide) (by first | omega | assumption | decide) (by first | omega | assumption | decide) (by first | omega | assumption | decide) (by first | omega | assumption | decide) hq27_2 H _ ls (by omega)  hP hD hS (lv_sub hl [0, 1] rfl)
              · skip
                have c35 : x_5.toInt = 0 := zeq cb9 rfl (by decide)
                have n36 : x_5.toInt ≤ 0 := Int.le_trans (Int.le_of_eq c35) (Int.le_refl _)
                refine lv_iload_n hx hb dX12_some_31 rfl (lv_at hl 0 rfl) ?_
                refine lv_if_eq (tgt := 39) hx hb dX12_some_32 (by decide) (fun c37 => absurd c37 (by decide)) (fun _ => ?_)
                refine lv_iconst (v := 1) hx hb dX12_some_35 (by decide) ?_
                refine lv_goto (tgt := 40) hx hb dX12_some_36 (by decide) ?_
                refine lv_istore_n (lv' := [(1, .int 1), (2, .int 1), (0, .ref o)]) hx hb dX12_some_40 rfl hl (by decide) rfl (fun ls hl => ?_)
                refine lv_goto (tgt := 5) hx hb dX12_some_41 (by decide) ?_
                have hl := lv_sub (l' := [(0, .ref o), (1, .int 1), (2, .int 1)]) hl [2, 0, 1] rfl
                have hL1 : (1 : Int32).toInt = 1 := by decide
                have hP : va_P g.1 vwCl (List.flatten [bMo g o a th hi ac tp ba en at2_24 fl2_25 3 iD iO tU fm fk fa fc ft ff fb fi]) H := hP
                have hD : va_D A (List.flatten [bMo g o a th hi ac tp ba en at2_24 fl2_25 3 iD iO tU fm fk fa fc ft ff fb fi]) := hD
                exact ih5_15 1 at2_24 fl2_25 (by decide) (by first | omega | assumption | decide) (by first | omega | assumption | decide) (by first | omega | assumption | decide) (by first | omega | assumption | decide) hq27_2 H _ ls (by omega)  hP hD hS (lv_sub hl [0, 1] rfl)
          · skip
            refine lv_if_eq (tgt := 44) hx hb dX12_some_19 (by decide) (fun _ => ?_) (fun c38 => absurd (by decide) c38)
            refine lv_iload_n hx hb dX12_some_44 rfl (lv_at hl 1 rfl) ?_
            have hP : va_P g.1 vwCl (List.flatten [bMo g o a th hi ac tp ba en at2_20 x_7 3 iD iO tU fm fk fa fc ft ff fb fi]) H := hP
            have hD : va_D A (List.flatten [bMo g o a th hi ac tp ba en at2_20 x_7 3 iD iO tU fm fk fa fc ft ff fb fi]) := hD
            exact mret_z hx hb hr hlocks hS (Nat.le_of_ble_eq_true rfl) (Nat.le_of_ble_eq_true rfl) dX12_some_45 (at2_20, x_7, x_5) rfl (by first | assumption | exact zb01 (by omega)) (show (0 ≤ at2_20.toInt ∧ at2_20.toInt ≤ en.toInt + 7 - 3) ∧ (tA.toInt ≤ at2_20.toInt) ∧ (-1 ≤ x_7.toInt) ∧ (x_5 = 0 ∨ x_5 = 1) from ⟨(by first | assumption | omega | decide | exact rfl | exact zb01 (by omega) | exact Or.inl (by decide) | exact Or.inr (by first | omega | decide)), (by first | assumption | omega | decide | exact rfl | exact zb01 (by omega) | exact Or.inl (by decide) | exact Or.inr (by first | omega | decide)), i13, (by first | assumption | omega | decide | exact rfl | exact zb01 (by omega) | exact Or.inl (by decide) | exact Or.inr (by first | omega | decide))⟩) hP hD
    have hL0 : (0 : Int32).toInt = 0 := by decide
    have hP : va_P g.1 vwCl (List.flatten [bMo g o a th hi ac tp ba en at2_1 fl2_2 3 iD iO tU fm fk fa fc ft ff fb fi]) H := hP
    have hD : va_D A (List.flatten [bMo g o a th hi ac tp ba en at2_1 fl2_2 3 iD iO tU fm fk fa fc ft ff fb fi]) := hD
    exact LP5_14 _ 0 at2_1 fl2_2 (by decide) (by first | omega | assumption | decide) (by first | omega | assumption | decide) hq4_1 (by first | omega | assumption | decide) hq4_2 H _ ls (Nat.lt_succ_self _)  hP hD hS (lv_sub hl [0, 1] rfl)
  · skip
    refine lv_istore_n (lv' := [(1, .int 1), (0, .ref o)]) hx hb dX12_some_4 rfl hl (by decide) rfl (fun ls hl => ?_)
    have hl := lv_sub (l' := [(0, .ref o), (1, .int 1)]) hl [1, 0] rfl
    have LP5_48 : ∀ (kf : Nat) (x_39 : Int32) (x_40 : Int32) (x_41 : Int32), (0 ≤ x_39.toInt ∧ x_39.toInt ≤ 1) → (0 ≤ x_40.toInt ∧ x_40.toInt ≤ 407) → ((-1) ≤ x_41.toInt) → (tA.toInt ≤ x_40.toInt) → (x_40.toInt ≤ en.toInt + 7 - 3) → (-1 ≤ x_41.toInt) → ∀ (H : Heap) (locs : List Loc) (ls : Array Slot), ((en.toInt + 8 - x_40.toInt).toNat) < kf → va_P g.1 vwCl (List.flatten [bMo g o a th hi ac tp ba en x_40 x_41 3 iD iO tU fm fk fa fc ft ff fb fi]) H → va_D A (List.flatten [bMo g o a th hi ac tp ba en x_40 x_41 3 iD iO tU fm fk fa fc ft ff fb fi]) → va_S A s.heap H locs → lv_has ls 3 [(0, .ref o), (1, .int x_39)] → W p l e ({ frames := 19, cells := 0, slots := 0, locals := 419 } : Room) s m args below meth c H locs (0) (0) (zF g (fun u : Int32 × Int32 × Int32 => (fun (at2 : Int32) (fl2 : Int32) (q : Int32) => some (.int q)) (u.1) (u.2.1) (u.2.2)) (fun u : Int32 × Int32 × Int32 => (fun (at2 : Int32) (fl2 : Int32) (q : Int32) => (0 ≤ at2.toInt ∧ at2.toInt ≤ en.toInt + 7 - 3) ∧ (tA.toInt ≤ at2.toInt) ∧ (-1 ≤ fl2.toInt) ∧ (q = 0 ∨ q = 1)) (u.1) (u.2.1) (u.2.2)) (fun u : Int32 × Int32 × Int32 => (fun (at2 : Int32) (fl2 : Int32) (q : Int32) => [bMo g o a th hi ac tp ba en at2 fl2 3 iD iO tU fm fk fa fc ft ff fb fi]) (u.1) (u.2.1) (u.2.2)) ({ frames := 19, cells := 0, slots := 0, locals := 419 } : Room) below args s A) (F0 m 5 ls []) := by
      intro kf
      induction kf with
      | zero => intro x_39 x_40 x_41 i42 i43 i44 i45 i46 i47 H locs ls hk; exact absurd hk (Nat.not_lt_zero _)
      | succ kf ih5_49 =>
        intro x_39 x_40 x_41 i42 i43 i44 i45 i46 i47 H locs ls hk5_49 hP hD hS hl
        refine lv_aload_n hx hb dX12_some_5 rfl (lv_at hl 0 rfl) ?_
        refine va_get (D := g.1) (ci := 10) (v := .int x_41) (C := RX12) (T := TX12) (N := 20) hx hb hts izRX12 hown hK hP 0 rfl rfl 12 (by decide) (hts _ k820) (fun _ h9 => h9) rfl dX12_some_6 ?_
        refine lv_iconst (v := (-1)) hx hb dX12_some_9 (by decide) ?_
        refine lv_icmp_ne (tgt := 44) hx hb dX12_some_10 (by decide) (fun cb9 => ?_) (fun cb9 => ?_)
        · skip
          have c50 : ¬ x_41.toInt = (-1) := zne cb9 rfl (by decide)
          have n51 : 0 ≤ x_41.toInt := zN1 c50 i44 (by decide)
          refine lv_iload_n hx hb dX12_some_44 rfl (lv_at hl 1 rfl) ?_
          have hP : va_P g.1 vwCl (List.flatten [bMo g o a th hi ac tp ba en x_40 x_41 3 iD iO tU fm fk fa fc ft ff fb fi]) H := hP
          have hD : va_D A (List.flatten [bMo g o a th hi ac tp ba en x_40 x_41 3 iD iO tU fm fk fa fc ft ff fb fi]) := hD
          exact mret_z hx hb hr hlocks hS (Nat.le_of_ble_eq_true rfl) (Nat.le_of_ble_eq_true rfl) dX12_some_45 (x_40, x_41, x_39) rfl (by first | assumption | exact zb01 (by omega)) (show (0 ≤ x_40.toInt ∧ x_40.toInt ≤ en.toInt + 7 - 3) ∧ (tA.toInt ≤ x_40.toInt) ∧ (-1 ≤ x_41.toInt) ∧ (x_39 = 0 ∨ x_39 = 1) from ⟨(by first | assumption | omega | decide | exact rfl | exact zb01 (by omega) | exact Or.inl (by decide) | exact Or.inr (by first | omega | decide)), i45, i47, (by first | assumption | omega | decide | exact rfl | exact zb01 (by omega) | exact Or.inl (by decide) | exact Or.inr (by first | omega | decide))⟩) hP hD
        · skip
          have c52 : x_41.toInt = (-1) := zeq cb9 rfl (by decide)
          have n53 : x_41.toInt ≤ (-1) := Int.le_trans (Int.le_of_eq c52) (Int.le_refl _)
          refine lv_aload_n hx hb dX12_some_13 rfl (lv_at hl 0 rfl) ?_
          refine va_ldcS (q := g.2 102) hx hb hown (zra46 hT.2.1) dX12_some_14 ?_
          have hL3 : (3 : Int32).toInt = 3 := by decide
          refine mcallV' (g := g) (q0 := 0) (ci := 10) (As := [.ref (g.2 102)]) (rest := []) St hK hT hA hP hD hS hl.1 [0] [] rfl rfl rfl (m_has l g o a th hi ac tp ba en x_40 x_41 3 iD iO tU fm fk fa fc ft ff fb fi (g.2 102) 46 zqa46 hba hen (by first | assumption | omega | decide | exact Or.inl (by decide) | exact Or.inr (by decide)) i47 (by decide) rfl zla46 zna46) (cwV 1 hts (zgL (zl4 k899 k900 k901 k839) k889) rfl rfl rfl (by decide +kernel) ⟨Nat.le_of_ble_eq_true rfl, Nat.le_of_ble_eq_true rfl⟩) rfl rfl rfl rfl (Nat.le_of_ble_eq_true rfl) dX12_some_16 ⟨(Nat.le_of_ble_eq_true rfl), (Nat.le_of_ble_eq_true rfl)⟩ (fun u_ H locs hq56 hP hD hS => ?_)
          obtain ⟨at2_54, r_55⟩ := u_
          replace hq56 : (0 ≤ at2_54.toInt ∧ at2_54.toInt ≤ en.toInt + 7 - (3 : Int32).toInt) ∧ (x_40.toInt ≤ at2_54.toInt) ∧ (r_55 = 1 ∧ x_40.toInt < at2_54.toInt ∧ at2_54.toInt ≤ en.toInt ∨ r_55 = 0) := hq56
          have hP : va_P g.1 vwCl (List.flatten [bMo g o a th hi ac tp ba en at2_54 x_41 3 iD iO tU fm fk fa fc ft ff fb fi]) H := hP
          have hD : va_D A (List.flatten [bMo g o a th hi ac tp ba en at2_54 x_41 3 iD iO tU fm fk fa fc ft ff fb fi]) := hD
          refine W.widen (k := 0) (n := 0) (Nat.le_of_ble_eq_true rfl) (Nat.le_of_ble_eq_true rfl) ?_
          refine W.eq (g2 := F0 m 19 ls [.int r_55]) rfl ?_
          obtain ⟨hq56_0, hq56_1, hq56_2⟩ := hq56
          rcases hq56_2 with ⟨rfl, hq56_k⟩ | rfl
          · skip
            refine lv_if_eq (tgt := 44) hx hb dX12_some_19 (by decide) (fun c57 => absurd c57 (by decide)) (fun _ => ?_)
            refine lv_aload_n hx hb dX12_some_22 rfl (lv_at hl 0 rfl) ?_
            refine mcallV' (g := g) (q0 := 0) (ci := 10) (As := []) (rest := []) St hK hT hA hP hD hS hl.1 [0] [] rfl rfl rfl (m_every3 l g o a th hi ac tp ba en at2_54 x_41 iD iO tU fm fk fa fc ft ff fb fi hiD hiO hba hen (by first | assumption | omega | decide | exact Or.inl (by decide) | exact Or.inr (by decide)) i47 hde) (cwV 0 hts (zgL (zl4 k959 k960 k961 k839) k957) rfl rfl rfl (by decide +kernel) ⟨Nat.le_of_ble_eq_true rfl, Nat.le_of_ble_eq_true rfl⟩) rfl rfl rfl rfl (Nat.le_of_ble_eq_true rfl) dX12_some_23 ⟨(Nat.le_of_ble_eq_true rfl), (Nat.le_of_ble_eq_true rfl)⟩ (fun u_ H locs hq61 hP hD hS => ?_)
            obtain ⟨at2_58, fl2_59, q_60⟩ := u_
            replace hq61 : (0 ≤ at2_58.toInt ∧ at2_58.toInt ≤ en.toInt + 7 - 3) ∧ (at2_54.toInt ≤ at2_58.toInt) ∧ (-1 ≤ fl2_59.toInt) ∧ (q_60 = 0 ∨ q_60 = 1) := hq61
            have hP : va_P g.1 vwCl (List.flatten [bMo g o a th hi ac tp ba en at2_58 fl2_59 3 iD iO tU fm fk fa fc ft ff fb fi]) H := hP
            have hD : va_D A (List.flatten [bMo g o a th hi ac tp ba en at2_58 fl2_59 3 iD iO tU fm fk fa fc ft ff fb fi]) := hD
            refine W.widen (k := 0) (n := 0) (Nat.le_of_ble_eq_true rfl) (Nat.le_of_ble_eq_true rfl) ?_
            refine W.eq (g2 := F0 m 26 ls [.int q_60]) rfl ?_
            obtain ⟨hq61_0, hq61_1, hq61_2, hq61_3⟩ := hq61
            rcases hq61_3 with rfl | rfl
            · skip
              refine lv_istore_n (lv' := [(2, .int 0), (0, .ref o), (1, .int x_39)]) hx hb dX12_some_26 rfl hl (by decide) rfl (fun ls hl => ?_)
              refine lv_iload_n hx hb dX12_some_27 rfl (lv_at hl 2 rfl) ?_
              refine lv_if_ne (tgt := 35) hx hb dX12_some_28 (by decide) (fun cb9 => ?_) (fun cb9 => ?_)
              · skip
                have c62 : ¬ x_39.toInt = 0 := zne cb9 rfl (by decide)
                have n63 : 1 ≤ x_39.toInt := zN1 c62 i42.1 (by decide)
                refine lv_iconst (v := 1) hx hb dX12_some_35 (by decide) ?_
                refine lv_goto (tgt := 40) hx hb dX12_some_36 (by decide) ?_
                refine lv_istore_n (lv' := [(1, .int 1), (2, .int 0), (0, .ref o)]) hx hb dX12_some_40 rfl hl (by decide) rfl (fun ls hl => ?_)
                refine lv_goto (tgt := 5) hx hb dX12_some_41 (by decide) ?_
                have hl := lv_sub (l' := [(0, .ref o), (1, .int 1), (2, .int 0)]) hl [2, 0, 1] rfl
                have hL1 : (1 : Int32).toInt = 1 := by decide
                have hP : va_P g.1 vwCl (List.flatten [bMo g o a th hi ac tp ba en at2_58 fl2_59 3 iD iO tU fm fk fa fc ft ff fb fi]) H := hP
                have hD : va_D A (List.flatten [bMo g o a th hi ac tp ba en at2_58 fl2_59 3 iD iO tU fm fk fa fc ft ff fb fi]) := hD
                exact ih5_49 1 at2_58 fl2_59 (by decide) (by first | omega | assumption | decide) (by first | omega | assumption | decide) (by first | omega | assumption | decide) (by first | omega | assumption | decide) hq61_2 H _ ls (by omega)  hP hD hS (lv_sub hl [0, 1] rfl)
              · skip
                have c64 : x_39.toInt = 0 := zeq cb9 rfl (by decide)
                have n65 : x_39.toInt ≤ 0 := Int.le_trans (Int.le_of_eq c64) (Int.le_refl _)
                refine lv_iload_n hx hb dX12_some_31 rfl (lv_at hl 0 rfl) ?_
                refine lv_if_eq (tgt := 39) hx hb dX12_some_32 (by decide) (fun _ => ?_) (fun c66 => absurd (by decide) c66)
                refine lv_iconst (v := 0) hx hb dX12_some_39 (by decide) ?_
                refine lv_istore_n (lv' := [(1, .int 0), (2, .int 0), (0, .ref o)]) hx hb dX12_some_40 rfl hl (by decide) rfl (fun ls hl => ?_)
                refine lv_goto (tgt := 5) hx hb dX12_some_41 (by decide) ?_
                have hl := lv_sub (l' := [(0, .ref o), (1, .int 0), (2, .int 0)]) hl [2, 0, 1] rfl
                have hL0 : (0 : Int32).toInt = 0 := by decide
                have hP : va_P g.1 vwCl (List.flatten [bMo g o a th hi ac tp ba en at2_58 fl2_59 3 iD iO tU fm fk fa fc ft ff fb fi]) H := hP
                have hD : va_D A (List.flatten [bMo g o a th hi ac tp ba en at2_58 fl2_59 3 iD iO tU fm fk fa fc ft ff fb fi]) := hD
                exact ih5_49 0 at2_58 fl2_59 (by decide) (by first | omega | assumption | decide) (by first | omega | assumption | decide) (by first | omega | assumption | decide) (by first | omega | assumption | decide) hq61_2 H _ ls (by omega)  hP hD hS (lv_sub hl [0, 1] rfl)
            · skip
              refine lv_istore_n (lv' := [(2, .int 1), (0, .ref o), (1, .int x_39)]) hx hb dX12_some_26 rfl hl (by decide) rfl (fun ls hl => ?_)
              refine lv_iload_n hx hb dX12_some_27 rfl (lv_at hl 2 rfl) ?_
              refine lv_if_ne (tgt := 35) hx hb dX12_some_28 (by decide) (fun cb9 => ?_) (fun cb9 => ?_)
              · skip
                have c67 : ¬ x_39.toInt = 0 := zne cb9 rfl (by decide)
                have n68 : 1 ≤ x_39.toInt := zN1 c67 i42.1 (by decide)
                refine lv_iconst (v := 1) hx hb dX12_some_35 (by decide) ?_
                refine lv_goto (tgt := 40) hx hb dX12_some_36 (by decide) ?_
                refine lv_istore_n (lv' := [(1, .int 1), (2, .int 1), (0, .ref o)]) hx hb dX12_some_40 rfl hl (by decide) rfl (fun ls hl => ?_)
                refine lv_goto (tgt := 5) hx hb dX12_some_41 (by decide) ?_
                have hl := lv_sub (l' := [(0, .ref o), (1, .int 1), (2, .int 1)]) hl [2, 0, 1] rfl
                have hL1 : (1 : Int32).toInt = 1 := by decide
                have hP : va_P g.1 vwCl (List.flatten [bMo g o a th hi ac tp ba en at2_58 fl2_59 3 iD iO tU fm fk fa fc ft ff fb fi]) H := hP
                have hD : va_D A (List.flatten [bMo g o a th hi ac tp ba en at2_58 fl2_59 3 iD iO tU fm fk fa fc ft ff fb fi]) := hD
                exact ih5_49 1 at2_58 fl2_59 (by decide) (by first | omega | assumption | decide) (by first | omega | assumption | decide) (by first | omega | assumption | decide) (by first | omega | assumption | decide) hq61_2 H _ ls (by omega)  hP hD hS (lv_sub hl [0, 1] rfl)
              · skip
                have c69 : x_39.toInt = 0 := zeq cb9 rfl (by decide)
                have n70 : x_39.toInt ≤ 0 := Int.le_trans (Int.le_of_eq c69) (Int.le_refl _)
                refine lv_iload_n hx hb dX12_some_31 rfl (lv_at hl 0 rfl) ?_
                refine lv_if_eq (tgt := 39) hx hb dX12_some_32 (by decide) (fun c71 => absurd c71 (by decide)) (fun _ => ?_)
                refine lv_iconst (v := 1) hx hb dX12_some_35 (by decide) ?_
                refine lv_goto (tgt := 40) hx hb dX12_some_36 (by decide) ?_
                refine lv_istore_n (lv' := [(1, .int 1), (2, .int 1), (0, .ref o)]) hx hb dX12_some_40 rfl hl (by decide) rfl (fun ls hl => ?_)
                refine lv_goto (tgt := 5) hx hb dX12_some_41 (by decide) ?_
                have hl := lv_sub (l' := [(0, .ref o), (1, .int 1), (2, .int 1)]) hl [2, 0, 1] rfl
                have hL1 : (1 : Int32).toInt = 1 := by decide
                have hP : va_P g.1 vwCl (List.flatten [bMo g o a th hi ac tp ba en at2_58 fl2_59 3 iD iO tU fm fk fa fc ft ff fb fi]) H := hP
                have hD : va_D A (List.flatten [bMo g o a th hi ac tp ba en at2_58 fl2_59 3 iD iO tU fm fk fa fc ft ff fb fi]) := hD
                exact ih5_49 1 at2_58 fl2_59 (by decide) (by first | omega | assumption | decide) (by first | omega | assumption | decide) (by first | omega | assumption | decide) (by first | omega | assumption | decide) hq61_2 H _ ls (by omega)  hP hD hS (lv_sub hl [0, 1] rfl)
          · skip
            refine lv_if_eq (tgt := 44) hx hb dX12_some_19 (by decide) (fun _ => ?_) (fun c72 => absurd (by decide) c72)
            refine lv_iload_n hx hb dX12_some_44 rfl (lv_at hl 1 rfl) ?_
            have hP : va_P g.1 vwCl (List.flatten [bMo g o a th hi ac tp ba en at2_54 x_41 3 iD iO tU fm fk fa fc ft ff fb fi]) H := hP
            have hD : va_D A (List.flatten [bMo g o a th hi ac tp ba en at2_54 x_41 3 iD iO tU fm fk fa fc ft ff fb fi]) := hD
            exact mret_z hx hb hr hlocks hS (Nat.le_of_ble_eq_true rfl) (Nat.le_of_ble_eq_true rfl) dX12_some_45 (at2_54, x_41, x_39) rfl (by first | assumption | exact zb01 (by omega)) (show (0 ≤ at2_54.toInt ∧ at2_54.toInt ≤ en.toInt + 7 - 3) ∧ (tA.toInt ≤ at2_54.toInt) ∧ (-1 ≤ x_41.toInt) ∧ (x_39 = 0 ∨ x_39 = 1) from ⟨(by first | assumption | omega | decide | exact rfl | exact zb01 (by omega) | exact Or.inl (by decide) | exact Or.inr (by first | omega | decide)), (by first | assumption | omega | decide | exact rfl | exact zb01 (by omega) | exact Or.inl (by decide) | exact Or.inr (by first | omega | decide)), i47, (by first | assumption | omega | decide | exact rfl | exact zb01 (by omega) | exact Or.inl (by decide) | exact Or.inr (by first | omega | decide))⟩) hP hD
    have hL1 : (1 : Int32).toInt = 1 := by decide
    have hP : va_P g.1 vwCl (List.flatten [bMo g o a th hi ac tp ba en at2_1 fl2_2 3 iD iO tU fm fk fa fc ft ff fb fi]) H := hP
    have hD : va_D A (List.flatten [bMo g o a th hi ac tp ba en at2_1 fl2_2 3 iD iO tU fm fk fa fc ft ff fb fi]) := hD
    exact LP5_48 _ 1 at2_1 fl2_2 (by decide) (by first | omega | assumption | decide) (by first | omega | assumption | decide) hq4_1 (by first | omega | assumption | decide) hq4_2 H _ ls (Nat.lt_succ_self _)  hP hD hS (lv_sub hl [0, 1] rfl)
set_option maxRecDepth 100000 in
set_option maxHeartbeats 4000000 in
theorem m_atom2 (l : Launch) (g : zG) (o : Nat) (a : Nat → Nat) (th : Int32) (hi : Int32) (ac : Int32) (tp : Int32) (ba : Int32) (en : Int32) (tA : Int32) (fl : Int32) (iD : Int32) (iO : Int32) (tU : Int32) (fm : Nat → Int32) (fk : Nat → Int32) (fa : Nat → Int32) (fc : Nat → Int32) (ft : Nat → Int32) (ff : Nat → Int32) (fb : Nat → Int32) (fi : Nat → Int32) (hiD : 0 ≤ iD.toInt ∧ iD.toInt ≤ 1) (hiO : 0 ≤ iO.toInt ∧ iO.toInt ≤ 1) (hba : zBa ba.toInt) (hen : 0 ≤ en.toInt ∧ en.toInt ≤ 400) (htA : 0 ≤ tA.toInt ∧ tA.toInt ≤ en.toInt + 7 - 2) (hfl : -1 ≤ fl.toInt) (hde : 0 ≤ 2 ∧ 2 ≤ 6) : zM' g l yX12_atom (Cond.code yX12_atom cX12_atom 4 (some .boolean) :: zB) ({ frames := 20, cells := 0, slots := 0, locals := 441 } : Room) [.ref o] [bMo g o a th hi ac tp ba en tA fl 2 iD iO tU fm fk fa fc ft ff fb fi] (fun u : Int32 × Int32 × Int32 => (fun (at2 : Int32) (fl2 : Int32) (q : Int32) => some (.int q)) (u.1) (u.2.1) (u.2.2)) (fun u : Int32 × Int32 × Int32 => (fun (at2 : Int32) (fl2 : Int32) (q : Int32) => (0 ≤ at2.toInt ∧ at2.toInt ≤ en.toInt + 7 - 2) ∧ (tA.toInt ≤ at2.toInt) ∧ (-1 ≤ fl2.toInt) ∧ (q = 0 ∨ q = 1)) (u.1) (u.2.1) (u.2.2)) (fun u : Int32 × Int32 × Int32 => (fun (at2 : Int32) (fl2 : Int32) (q : Int32) => [bMo g o a th hi ac tp ba en at2 fl2 2 iD iO tU fm fk fa fc ft ff fb fi]) (u.1) (u.2.1) (u.2.2)) := by
  refine zM'.of (cc := cX12_atom) (maxL := 4) (rt := (some .boolean)) (by decide) rfl (Nat.le_of_ble_eq_true rfl) ?_
  intro p e s m args below meth c A ls St hr hlocks hin hK hT hA hP hD hS hl
  obtain ⟨hx, hb, hml, hown, hts⟩ := id St
  have hl : lv_has ls 4 [(0, .ref o)] := hl
  refine lv_aload_n hx hb dX12_atom_0 rfl (lv_at hl 0 rfl) ?_
  refine va_get (D := g.1) (ci := 10) (v := .int fl) (C := RX12) (T := TX12) (N := 20) hx hb hts izRX12 hown hK hP 0 rfl rfl 12 (by decide) (hts _ k820) (fun _ h9 => h9) rfl dX12_atom_1 ?_
  refine lv_iconst (v := (-1)) hx hb dX12_atom_4 (by decide) ?_
  refine lv_icmp_eq (tgt := 10) hx hb dX12_atom_5 (by decide) (fun cb9 => ?_) (fun cb9 => ?_)
  · skip
    have c1 : fl.toInt = (-1) := zeq cb9 rfl (by decide)
    have n2 : fl.toInt ≤ (-1) := Int.le_trans (Int.le_of_eq c1) (Int.le_refl _)
    refine lv_aload_n hx hb dX12_atom_10 rfl (lv_at hl 0 rfl) ?_
    have hL2 : (2 : Int32).toInt = 2 := by decide
    refine mcallV' (g := g) (q0 := 0) (ci := 10) (As := []) (rest := []) St hK hT hA hP hD hS hl.1 [0] [] rfl rfl rfl (m_here l g o a th hi ac tp ba en tA fl 2 iD iO tU fm fk fa fc ft ff fb fi hba hen (by first | assumption | omega | decide | exact Or.inl (by decide) | exact Or.inr (by decide)) hfl (by decide)) (cwV 0 hts (zgL (zl4 k892 k893 k894 k839) k891) rfl rfl rfl (by decide +kernel) ⟨Nat.le_of_ble_eq_true rfl, Nat.le_of_ble_eq_true rfl⟩) rfl rfl rfl rfl (Nat.le_of_ble_eq_true rfl) dX12_atom_11 ⟨(Nat.le_of_ble_eq_true rfl), (Nat.le_of_ble_eq_true rfl)⟩ (fun at2_3 H locs hq4 hP hD hS => ?_)
    replace hq4 : (0 ≤ at2_3.toInt ∧ at2_3.toInt ≤ en.toInt + 7 - (2 : Int32).toInt) ∧ (tA.toInt ≤ at2_3.toInt) := hq4
    have hP : va_P g.1 vwCl (List.flatten [bMo g o a th hi ac tp ba en at2_3 fl 2 iD iO tU fm fk fa fc ft ff fb fi]) H := hP
    have hD : va_D A (List.flatten [bMo g o a th hi ac tp ba en at2_3 fl 2 iD iO tU fm fk fa fc ft ff fb fi]) := hD
    refine W.widen (k := 0) (n := 0) (Nat.le_of_ble_eq_true rfl) (Nat.le_of_ble_eq_true rfl) ?_
    refine W.eq (g2 := F0 m 14 ls [.int at2_3]) rfl ?_
    obtain ⟨hq4_0, hq4_1⟩ := hq4
    refine lv_istore_n (lv' := [(1, .int at2_3), (0, .ref o)]) hx hb dX12_atom_14 rfl hl (by decide) rfl (fun ls hl => ?_)
    refine lv_aload_n hx hb dX12_atom_15 rfl (lv_at hl 1 rfl) ?_
    refine va_ldcS (q := g.2 98) hx hb hown (zra44 hT.2.1) dX12_atom_16 ?_
    refine mcallV' (g := g) (q0 := 0) (ci := 10) (As := [.ref (g.2 98)]) (rest := []) St hK hT hA hP hD hS hl.1 [0] [] rfl rfl rfl (m_has l g o a th hi ac tp ba en at2_3 fl 2 iD iO tU fm fk fa fc ft ff fb fi (g.2 98) 44 zqa44 hba hen hq4_0 hfl (by decide) rfl zla44 zna44) (cwV 1 hts (zgL (zl4 k899 k900 k901 k839) k889) rfl rfl rfl (by decide +kernel) ⟨Nat.le_of_ble_eq_true rfl, Nat.le_of_ble_eq_true rfl⟩) rfl rfl rfl rfl (Nat.le_of_ble_eq_true rfl) dX12_atom_18 ⟨(Nat.le_of_ble_eq_true rfl), (Nat.le_of_ble_eq_true rfl)⟩ (fun u_ H locs hq7 hP hD hS => ?_)
    obtain ⟨at2_5, r_6⟩ := u_
    replace hq7 : (0 ≤ at2_5.toInt ∧ at2_5.toInt ≤ en.toInt + 7 - (2 : Int32).toInt) ∧ (at2_3.toInt ≤ at2_5.toInt) ∧ (r_6 = 1 ∧ at2_3.toInt < at2_5.toInt ∧ at2_5.toInt ≤ en.toInt ∨ r_6 = 0) := hq7
    have hP : va_P g.1 vwCl (List.flatten [bMo g o a th hi ac tp ba en at2_5 fl 2 iD iO tU fm fk fa fc ft ff fb fi]) H := hP
    have hD : va_D A (List.flatten [bMo g o a th hi ac tp ba en at2_5 fl 2 iD iO tU fm fk fa fc ft ff fb fi]) := hD
    refine W.widen (k := 0) (n := 0) (Nat.le_of_ble_eq_true rfl) (Nat.le_of_ble_eq_true rfl) ?_
    refine W.eq (g2 := F0 m 21 ls [.int r_6]) rfl ?_
    obtain ⟨hq7_0, hq7_1, hq7_2⟩ := hq7
    rcases hq7_2 with ⟨rfl, hq7_k⟩ | rfl
    · skip
      refine lv_istore_n (lv' := [(2, .int 1), (1, .int at2_3), (0, .ref o)]) hx hb dX12_atom_21 rfl hl (by decide) rfl (fun ls hl => ?_)
      refine lv_iload_n hx hb dX12_atom_22 rfl (lv_at hl 0 rfl) ?_
      refine lv_if_ne (tgt := 40) hx hb dX12_atom_23 (by decide) (fun _ => ?_) (fun c8 => absurd c8 (by decide))
      refine lv_aload_n hx hb dX12_atom_40 rfl (lv_at hl 2 rfl) ?_
      refine va_get (D := g.1) (ci := 10) (v := .int 2) (C := RX12) (T := TX12) (N := 20) hx hb hts izRX12 hown hK hP 0 rfl rfl 13 (by decide) (hts _ k933) (fun _ h9 => h9) rfl dX12_atom_41 ?_
      refine lv_bipush (v := 6) hx hb dX12_atom_44 (by decide) ?_
      refine lv_icmp_ne (tgt := 56) hx hb dX12_atom_46 (by decide) (fun _ => ?_) (fun c9 => absurd c9 (by decide))
      refine lv_aload_n hx hb dX12_atom_56 rfl (lv_at hl 2 rfl) ?_
      refine lv_dup hx hb dX12_atom_57 rfl ?_
      refine va_get (D := g.1) (ci := 10) (v := .int 2) (C := RX12) (T := TX12) (N := 20) hx hb hts izRX12 hown hK hP 0 rfl rfl 13 (by decide) (hts _ k933) (fun _ h9 => h9) rfl dX12_atom_58 ?_
      refine lv_iconst (v := 1) hx hb dX12_atom_61 (by decide) ?_
      refine lv_iadd hx hb dX12_atom_62 ?_
      refine ztop (r := 3) (by decide) ?_
      refine va_put (D := g.1) (ci := 10) (v := .int 3) (ty := .int) (C := RX12) (T := TX12) (N := 20) hx hb hts izRX12 tyX12 tyX12_ok nmX12 hown hK hP hD hS 0 rfl rfl 13 (by decide) (hts _ k933) (fun _ h9 => h9) rfl (by decide +kernel) rfl rfl (Nat.le_of_ble_eq_true rfl) dX12_atom_63 (fun H locs hP hD hS => ?_)
      have hP : va_P g.1 vwCl (List.flatten [bMo g o a th hi ac tp ba en at2_5 fl 3 iD iO tU fm fk fa fc ft ff fb fi]) H := hP
      have hD : va_D A (List.flatten [bMo g o a th hi ac tp ba en at2_5 fl 3 iD iO tU fm fk fa fc ft ff fb fi]) := hD
      refine lv_iconst (v := 0) hx hb dX12_atom_66 (by decide) ?_
      refine lv_istore_n (lv' := [(3, .int 0), (2, .int 1), (1, .int at2_3), (0, .ref o)]) hx hb dX12_atom_67 rfl hl (by decide) rfl (fun ls hl => ?_)
      refine lv_iload_n hx hb dX12_atom_68 rfl (lv_at hl 1 rfl) ?_
      refine lv_if_eq (tgt := 88) hx hb dX12_atom_69 (by decide) (fun c10 => absurd c10 (by decide)) (fun _ => ?_)
      refine lv_aload_n hx hb dX12_atom_72 rfl (lv_at hl 3 rfl) ?_
      refine mcallV' (g := g) (q0 := 0) (ci := 10) (As := []) (rest := []) St hK hT hA hP hD hS hl.1 [0] [] rfl rfl rfl (m_atom3 l g o a th hi ac tp ba en at2_5 fl iD iO tU fm fk fa fc ft ff fb fi hiD hiO hba hen (by first | assumption | omega | decide | exact Or.inl (by decide) | exact Or.inr (by decide)) hfl (by first | assumption | omega | decide | exact Or.inl (by decide) | exact Or.inr (by decide))) (cwV 0 hts (zgL (zl4 k951 k952 k953 k839) k962) rfl rfl rfl (by decide +kernel) ⟨Nat.le_of_ble_eq_true rfl, Nat.le_of_ble_eq_true rfl⟩) rfl rfl rfl rfl (Nat.le_of_ble_eq_true rfl) dX12_atom_73 ⟨(Nat.le_of_ble_eq_true rfl), (Nat.le_of_ble_eq_true rfl)⟩ (fun u_ H locs hq14 hP hD hS => ?_)
      obtain ⟨at2_11, fl2_12, q_13⟩ := u_
      replace hq14 : (0 ≤ at2_11.toInt ∧ at2_11.toInt ≤ en.toInt + 7 - 3) ∧ (at2_5.toInt ≤ at2_11.toInt) ∧ (-1 ≤ fl2_12.toInt) ∧ (q_13 = 0 ∨ q_13 = 1) := hq14
      have hP : va_P g.1 vwCl (List.flatten [bMo g o a th hi ac tp ba en at2_11 fl2_12 3 iD iO tU fm fk fa fc ft ff fb fi]) H := hP
      have hD : va_D A (List.flatten [bMo g o a th hi ac tp ba en at2_11 fl2_12 3 iD iO tU fm fk fa fc ft ff fb fi]) := hD
      refine W.widen (k := 0) (n := 0) (Nat.le_of_ble_eq_true rfl) (Nat.le_of_ble_eq_true rfl) ?_
      refine W.eq (g2 := F0 m 76 ls [.int q_13]) rfl ?_
      obtain ⟨hq14_0, hq14_1, hq14_2, hq14_3⟩ := hq14
      rcases hq14_3 with rfl | rfl
      · skip
        refine lv_if_ne (tgt := 83) hx hb dX12_atom_76 (by decide) (fun c15 => absurd (by decide) c15) (fun _ => ?_)
        refine lv_iconst (v := 1) hx hb dX12_atom_79 (by decide) ?_
        refine lv_goto (tgt := 84) hx hb dX12_atom_80 (by decide) ?_
        refine lv_istore_n (lv' := [(3, .int 1), (2, .int 1), (1, .int at2_3), (0, .ref o)]) hx hb dX12_atom_84 rfl hl (by decide) rfl (fun ls hl => ?_)
        refine lv_goto (tgt := 138) hx hb dX12_atom_85 (by decide) ?_
        refine lv_aload_n hx hb dX12_atom_138 rfl (lv_at hl 3 rfl) ?_
        refine lv_dup hx hb dX12_atom_139 rfl ?_
        refine va_get (D := g.1) (ci := 10) (v := .int 3) (C := RX12) (T := TX12) (N := 20) hx hb hts izRX12 hown hK hP 0 rfl rfl 13 (by decide) (hts _ k933) (fun _ h9 => h9) rfl dX12_atom_140 ?_
        refine lv_iconst (v := 1) hx hb dX12_atom_143 (by decide) ?_
        refine lv_isub hx hb dX12_atom_144 ?_
        refine ztop (r := 2) (by decide) ?_
        refine va_put (D := g.1) (ci := 10) (v := .int 2) (ty := .int) (C := RX12) (T := TX12) (N := 20) hx hb hts izRX12 tyX12 tyX12_ok nmX12 hown hK hP hD hS 0 rfl rfl 13 (by decide) (hts _ k933) (fun _ h9 => h9) rfl (by decide +kernel) rfl rfl (Nat.le_of_ble_eq_true rfl) dX12_atom_145 (fun H locs hP hD hS => ?_)
        have hP : va_P g.1 vwCl (List.flatten [bMo g o a th hi ac tp ba en at2_11 fl2_12 2 iD iO tU fm fk fa fc ft ff fb fi]) H := hP
        have hD : va_D A (List.flatten [bMo g o a th hi ac tp ba en at2_11 fl2_12 2 iD iO tU fm fk fa fc ft ff fb fi]) := hD
        refine lv_iload_n hx hb dX12_atom_148 rfl (lv_at hl 0 rfl) ?_
        have hP : va_P g.1 vwCl (List.flatten [bMo g o a th hi ac tp ba en at2_11 fl2_12 2 iD iO tU fm fk fa fc ft ff fb fi]) H := hP
        have hD : va_D A (List.flatten [bMo g o a th hi ac tp ba en at2_11 fl2_12 2 iD iO tU fm fk fa fc ft ff fb fi]) := hD
        exact mret_z hx hb hr hlocks hS (Nat.le_of_ble_eq_true rfl) (Nat.le_of_ble_eq_true rfl) dX12_atom_149 (at2_11, fl2_12, (1 : Int32)) rfl (by decide) (show (0 ≤ at2_11.toInt ∧ at2_11.toInt ≤ en.toInt + 7 - 2) ∧ (tA.toInt ≤ at2_11.toInt) ∧ (-1 ≤ fl2_12.toInt) ∧ (1 = 0 ∨ 1 = 1) from ⟨(by first | assumption | omega | decide | exact rfl | exact zb01 (by omega) | exact Or.inl (by decide) | exact Or.inr (by first | omega | decide)), (by first | assumption | omega | decide | exact rfl | exact zb01 (by omega) | exact Or.inl (by decide) | exact Or.inr (by first | omega | decide)), hq14_2, (by decide)⟩) hP hD
      · skip
        refine lv_if_ne (tgt := 83) hx hb dX12_atom_76 (by decide) (fun _ => ?_) (fun c16 => absurd c16 (by decide))
        refine lv_iconst (v := 0) hx hb dX12_atom_83 (by decide) ?_
        refine lv_istore_n (lv' := [(3, .int 0), (2, .int 1), (1, .int at2_3), (0, .ref o)]) hx hb dX12_atom_84 rfl hl (by decide) rfl (fun ls hl => ?_)
        refine lv_goto (tgt := 138) hx hb dX12_atom_85 (by decide) ?_
        refine lv_aload_n hx hb dX12_atom_138 rfl (lv_at hl 3 rfl) ?_
        refine lv_dup hx hb dX12_atom_139 rfl ?_
        refine va_get (D := g.1) (ci := 10) (v := .int 3) (C := RX12) (T := TX12) (N := 20) hx hb hts izRX12 hown hK hP 0 rfl rfl 13 (by decide) (hts _ k933) (fun _ h9 => h9) rfl dX12_atom_140 ?_
        refine lv_iconst (v := 1) hx hb dX12_atom_143 (by decide) ?_
        refine lv_isub hx hb dX12_atom_144 ?_
        refine ztop (r := 2) (by decide) ?_
        refine va_put (D := g.1) (ci := 10) (v := .int 2) (ty := .int) (C := RX12) (T := TX12) (N := 20) hx hb hts izRX12 tyX12 tyX12_ok nmX12 hown hK hP hD hS 0 rfl rfl 13 (by decide) (hts _ k933) (fun _ h9 => h9) rfl (by decide +kernel) rfl rfl (Nat.le_of_ble_eq_true rfl) dX12_atom_145 (fun H locs hP hD hS => ?_)
        have hP : va_P g.1 vwCl (List.flatten [bMo g o a th hi ac tp ba en at2_11 fl2_12 2 iD iO tU fm fk fa fc ft ff fb fi]) H := hP
        have hD : va_D A (List.flatten [bMo g o a th hi ac tp ba en at2_11 fl2_12 2 iD iO tU fm fk fa fc ft ff fb fi]) := hD
        refine lv_iload_n hx hb dX12_atom_148 rfl (lv_at hl 0 rfl) ?_
        have hP : va_P g.1 vwCl (List.flatten [bMo g o a th hi ac tp ba en at2_11 fl2_12 2 iD iO tU fm fk fa fc ft ff fb fi]) H := hP
        have hD : va_D A (List.flatten [bMo g o a th hi ac tp ba en at2_11 fl2_12 2 iD iO tU fm fk fa fc ft ff fb fi]) := hD
        exact mret_z hx hb hr hlocks hS (Nat.le_of_ble_eq_true rfl) (Nat.le_of_ble_eq_true rfl) dX12_atom_149 (at2_11, fl2_12, (0 : Int32)) rfl (by decide) (show (0 ≤ at2_11.toInt ∧ at2_11.toInt ≤ en.toInt + 7 - 2) ∧ (tA.toInt ≤ at2_11.toInt) ∧ (-1 ≤ fl2_12.toInt) ∧ (0 = 0 ∨ 0 = 1) from ⟨(by first | assumption | omega | decide | exact rfl | exact zb01 (by omega) | exact Or.inl (by decide) | exact Or.inr (by first | omega | decide)), (by first | assumption | omega | decide | exact rfl | exact zb01 (by omega) | exact Or.inl (by decide) | exact Or.inr (by first | omega | decide)), hq14_2, (by decide)⟩) hP hD
    · skip
      refine lv_istore_n (lv' := [(2, .int 0), (1, .int at2_3), (0, .ref o)]) hx hb dX12_atom_21 rfl hl (by decide) rfl (fun ls hl => ?_)
      refine lv_iload_n hx hb dX12_atom_22 rfl (lv_at hl 0 rfl) ?_
      refine lv_if_ne (tgt := 40) hx hb dX12_atom_23 (by decide) (fun c17 => absurd (by decide) c17) (fun _ => ?_)
      refine lv_aload_n hx hb dX12_atom_26 rfl (lv_at hl 2 rfl) ?_
      refine lv_bipush (v := 40) hx hb dX12_atom_27 (by decide) ?_
      refine mcallV' (g := g) (q0 := 0) (ci := 10) (As := [.int 40]) (rest := []) St hK hT hA hP hD hS hl.1 [0] [] rfl rfl rfl (m_isSign l g o a th hi ac tp ba en at2_5 fl 2 iD iO tU fm fk fa fc ft ff fb fi 40 hba hen hq7_0 hfl (by decide)) (cwV 1 hts (zgL (zl4 k938 k939 k940 k839) k883) rfl rfl rfl (by decide +kernel) ⟨Nat.le_of_ble_eq_true rfl, Nat.le_of_ble_eq_true rfl⟩) rfl rfl rfl rfl (Nat.le_of_ble_eq_true rfl) dX12_atom_29 ⟨(Nat.le_of_ble_eq_true rfl), (Nat.le_of_ble_eq_true rfl)⟩ (fun u_ H locs hq20 hP hD hS => ?_)
      obtain ⟨at2_18, q_19⟩ := u_
      replace hq20 : (0 ≤ at2_18.toInt ∧ at2_18.toInt ≤ en.toInt + 7 - (2 : Int32).toInt) ∧ (at2_5.toInt ≤ at2_18.toInt) ∧ (q_19 = 1 ∧ at2_18.toInt < en.toInt ∨ q_19 = 0) := hq20
      have hP : va_P g.1 vwCl (List.flatten [bMo g o a th hi ac tp ba en at2_18 fl 2 iD iO tU fm fk fa fc ft ff fb fi]) H := hP
      have hD : va_D A (List.flatten [bMo g o a th hi ac tp ba en at2_18 fl 2 iD iO tU fm fk fa fc ft ff fb fi]) := hD
      refine W.widen (k := 0) (n := 0) (Nat.le_of_ble_eq_true rfl) (Nat.le_of_ble_eq_true rfl) ?_
      refine W.eq (g2 := F0 m 32 ls [.int q_19]) rfl ?_
      obtain ⟨hq20_0, hq20_1, hq20_2⟩ := hq20
      rcases hq20_2 with ⟨rfl, hq20_k⟩ | rfl
      · skip
        refine lv_if_ne (tgt := 40) hx hb dX12_atom_32 (by decide) (fun _ => ?_) (fun c21 => absurd c21 (by decide))
        refine lv_aload_n hx hb dX12_atom_40 rfl (lv_at hl 2 rfl) ?_
        refine va_get (D := g.1) (ci := 10) (v := .int 2) (C := RX12) (T := TX12) (N := 20) hx hb hts izRX12 hown hK hP 0 rfl rfl 13 (by decide) (hts _ k933) (fun _ h9 => h9) rfl dX12_atom_41 ?_
        refine lv_bipush (v := 6) hx hb dX12_atom_44 (by decide) ?_
        refine lv_icmp_ne (tgt := 56) hx hb dX12_atom_46 (by decide) (fun _ => ?_) (fun c22 => absurd c22 (by decide))
        refine lv_aload_n hx hb dX12_atom_56 rfl (lv_at hl 2 rfl) ?_
        refine lv_dup hx hb dX12_atom_57 rfl ?_
        refine va_get (D := g.1) (ci := 10) (v := .int 2) (C := RX12) (T := TX12) (N := 20) hx hb hts izRX12 hown hK hP 0 rfl rfl 13 (by decide) (hts _ k933) (fun _ h9 => h9) rfl dX12_atom_58 ?_
        refine lv_iconst (v := 1) hx hb dX12_atom_61 (by decide) ?_
        refine lv_iadd hx hb dX12_atom_62 ?_
        refine ztop (r := 3) (by decide) ?_
        refine va_put (D := g.1) (ci := 10) (v := .int 3) (ty := .int) (C := RX12) (T := TX12) (N := 20) hx hb hts izRX12 tyX12 tyX12_ok nmX12 hown hK hP hD hS 0 rfl rfl 13 (by decide) (hts _ k933) (fun _ h9 => h9) rfl (by decide +kernel) rfl rfl (Nat.le_of_ble_eq_true rfl) dX12_atom_63 (fun H locs hP hD hS => ?_)
        have hP : va_P g.1 vwCl (List.flatten [bMo g o a th hi ac tp ba en at2_18 fl 3 iD iO tU fm fk fa fc ft ff fb fi]) H := hP
        have hD : va_D A (List.flatten [bMo g o a th hi ac tp ba en at2_18 fl 3 iD iO tU fm fk fa fc ft ff fb fi]) := hD
        refine lv_iconst (v := 0) hx hb dX12_atom_66 (by decide) ?_
        refine lv_istore_n (lv' := [(3, .int 0), (2, .int 0), (1, .int at2_3), (0, .ref o)]) hx hb dX12_atom_67 rfl hl (by decide) rfl (fun ls hl => ?_)
        refine lv_iload_n hx hb dX12_atom_68 rfl (lv_at hl 1 rfl) ?_
        refine lv_if_eq (tgt := 88) hx hb dX12_atom_69 (by decide) (fun _ => ?_) (fun c23 => absurd (by decide) c23)
        refine lv_aload_n hx hb dX12_atom_88 rfl (lv_at hl 3 rfl) ?_
        refine lv_dup hx hb dX12_atom_89 rfl ?_
        refine va_get (D := g.1) (ci := 10) (v := .int at2_18) (C := RX12) (T := TX12) (N := 20) hx hb hts izRX12 hown hK hP 0 rfl rfl 11 (by decide) (hts _ k878) (fun _ h9 => h9) rfl dX12_atom_90 ?_
        refine lv_iconst (v := 1) hx hb dX12_atom_93 (by decide) ?_
        refine lv_iadd hx hb dX12_atom_94 ?_
        refine zgv (zadd (i := at2_18.toInt) (j := 1) rfl (by decide) (by omega)) (fun x_24 hx_24 => ?_)
        refine va_put (D := g.1) (ci := 10) (v := .int x_24) (ty := .int) (C := RX12) (T := TX12) (N := 20) hx hb hts izRX12 tyX12 tyX12_ok nmX12 hown hK hP hD hS 0 rfl rfl 11 (by decide) (hts _ k878) (fun _ h9 => h9) rfl (by decide +kernel) rfl rfl (Nat.le_of_ble_eq_true rfl) dX12_atom_95 (fun H locs hP hD hS => ?_)
        have hP : va_P g.1 vwCl (List.flatten [bMo g o a th hi ac tp ba en x_24 fl 3 iD iO tU fm fk fa fc ft ff fb fi]) H := hP
        have hD : va_D A (List.flatten [bMo g o a th hi ac tp ba en x_24 fl 3 iD iO tU fm fk fa fc ft ff fb fi]) := hD
        refine lv_aload_n hx hb dX12_atom_98 rfl (lv_at hl 3 rfl) ?_
        refine mcallV' (g := g) (q0 := 0) (ci := 10) (As := []) (rest := []) St hK hT hA hP hD hS hl.1 [0] [] rfl rfl rfl (m_some3 l g o a th hi ac tp ba en x_24 fl iD iO tU fm fk fa fc ft ff fb fi hiD hiO hba hen (by first | assumption | omega | decide | exact Or.inl (by decide) | exact Or.inr (by decide)) hfl (by first | assumption | omega | decide | exact Or.inl (by decide) | exact Or.inr (by decide))) (cwV 0 hts (zgL (zl4 k954 k955 k956 k839) k958) rfl rfl rfl (by decide +kernel) ⟨Nat.le_of_ble_eq_true rfl, Nat.le_of_ble_eq_true rfl⟩) rfl rfl rfl rfl (Nat.le_of_ble_eq_true rfl) dX12_atom_99 ⟨(Nat.le_of_ble_eq_true rfl), (Nat.le_of_ble_eq_true rfl)⟩ (fun u_ H locs hq28 hP hD hS => ?_)
        obtain ⟨at2_25, fl2_26, q_27⟩ := u_
        replace hq28 : (0 ≤ at2_25.toInt ∧ at2_25.toInt ≤ en.toInt + 7 - 3) ∧ (x_24.toInt ≤ at2_25.toInt) ∧ (-1 ≤ fl2_26.toInt) ∧ (q_27 = 0 ∨ q_27 = 1) := hq28
        have hP : va_P g.1 vwCl (List.flatten [bMo g o a th hi ac tp ba en at2_25 fl2_26 3 iD iO tU fm fk fa fc ft ff fb fi]) H := hP
        have hD : va_D A (List.flatten [bMo g o a th hi ac tp ba en at2_25 fl2_26 3 iD iO tU fm fk fa fc ft ff fb fi]) := hD
        refine W.widen (k := 0) (n := 0) (Nat.le_of_ble_eq_true rfl) (Nat.le_of_ble_eq_true rfl) ?_
        refine W.eq (g2 := F0 m 102 ls [.int q_27]) rfl ?_
        obtain ⟨hq28_0, hq28_1, hq28_2, hq28_3⟩ := hq28
        rcases hq28_3 with rfl | rfl
        · skip
          refine lv_istore_n (lv' := [(3, .int 0), (2, .int 0), (1, .int at2_3), (0, .ref o)]) hx hb dX12_atom_102 rfl hl (by decide) rfl (fun ls hl => ?_)
          refine lv_aload_n hx hb dX12_atom_103 rfl (lv_at hl 3 rfl) ?_
          refine va_get (D := g.1) (ci := 10) (v := .int fl2_26) (C := RX12) (T := TX12) (N := 20) hx hb hts izRX12 hown hK hP 0 rfl rfl 12 (by decide) (hts _ k820) (fun _ h9 => h9) rfl dX12_atom_104 ?_
          refine lv_iconst (v := (-1)) hx hb dX12_atom_107 (by decide) ?_
          refine lv_icmp_ne (tgt := 128) hx hb dX12_atom_108 (by decide) (fun cb9 => ?_) (fun cb9 => ?_)
          · skip
            have c29 : ¬ fl2_26.toInt = (-1) := zne cb9 rfl (by decide)
            refine lv_aload_n hx hb dX12_atom_128 rfl (lv_at hl 3 rfl) ?_
            refine lv_dup hx hb dX12_atom_129 rfl ?_
            refine va_get (D := g.1) (ci := 10) (v := .int at2_25) (C := RX12) (T := TX12) (N := 20) hx hb hts izRX12 hown hK hP 0 rfl rfl 11 (by decide) (hts _ k878) (fun _ h9 => h9) rfl dX12_atom_130 ?_
            refine lv_iconst (v := 1) hx hb dX12_atom_133 (by decide) ?_
            refine lv_iadd hx hb dX12_atom_134 ?_
            refine zgv (zadd (i := at2_25.toInt) (j := 1) rfl (by decide) (by omega)) (fun x_30 hx_30 => ?_)
            refine va_put (D := g.1) (ci := 10) (v := .int x_30) (ty := .int) (C := RX12) (T := TX12) (N := 20) hx hb hts izRX12 tyX12 tyX12_ok nmX12 hown hK hP hD hS 0 rfl rfl 11 (by decide) (hts _ k878) (fun _ h9 => h9) rfl (by decide +kernel) rfl rfl (Nat.le_of_ble_eq_true rfl) dX12_atom_135 (fun H locs hP hD hS => ?_)
            have hP : va_P g.1 vwCl (List.flatten [bMo g o a th hi ac tp ba en x_30 fl2_26 3 iD iO tU fm fk fa fc ft ff fb fi]) H := hP
            have hD : va_D A (List.flatten [bMo g o a th hi ac tp ba en x_30 fl2_26 3 iD iO tU fm fk fa fc ft ff fb fi]) := hD
            refine lv_aload_n hx hb dX12_atom_138 rfl (lv_at hl 3 rfl) ?_
            refine lv_dup hx hb dX12_atom_139 rfl ?_
            refine va_get (D := g.1) (ci := 10) (v := .int 3) (C := RX12) (T := TX12) (N := 20) hx hb hts izRX12 hown hK hP 0 rfl rfl 13 (by decide) (hts _ k933) (fun _ h9 => h9) rfl dX12_atom_140 ?_
            refine lv_iconst (v := 1) hx hb dX12_atom_143 (by decide) ?_
            refine lv_isub hx hb dX12_atom_144 ?_
            refine ztop (r := 2) (by decide) ?_
            refine va_put (D := g.1) (ci := 10) (v := .int 2) (ty := .int) (C := RX12) (T := TX12) (N := 20) hx hb hts izRX12 tyX12 tyX12_ok nmX12 hown hK hP hD hS 0 rfl rfl 13 (by decide) (hts _ k933) (fun _ h9 => h9) rfl (by decide +kernel) rfl rfl (Nat.le_of_ble_eq_true rfl) dX12_atom_145 (fun H locs hP hD hS => ?_)
            have hP : va_P g.1 vwCl (List.flatten [bMo g o a th hi ac tp ba en x_30 fl2_26 2 iD iO tU fm fk fa fc ft ff fb fi]) H := hP
            have hD : va_D A (List.flatten [bMo g o a th hi ac tp ba en x_30 fl2_26 2 iD iO tU fm fk fa fc ft ff fb fi]) := hD
            refine lv_iload_n hx hb dX12_atom_148 rfl (lv_at hl 0 rfl) ?_
            have hP : va_P g.1 vwCl (List.flatten [bMo g o a th hi ac tp ba en x_30 fl2_26 2 iD iO tU fm fk fa fc ft ff fb fi]) H := hP
            have hD : va_D A (List.flatten [bMo g o a th hi ac tp ba en x_30 fl2_26 2 iD iO tU fm fk fa fc ft ff fb fi]) := hD
            exact mret_z hx hb hr hlocks hS (Nat.le_of_ble_eq_true rfl) (Nat.le_of_ble_eq_true rfl) dX12_atom_149 (x_30, fl2_26, (0 : Int32)) rfl (by decide) (show (0 ≤ x_30.toInt ∧ x_30.toInt ≤ en.toInt + 7 - 2) ∧ (tA.toInt ≤ x_30.toInt) ∧ (-1 ≤ fl2_26.toInt) ∧ (0 = 0 ∨ 0 = 1) from ⟨(by first | assumption | omega | decide | exact rfl | exact zb01 (by omega) | exact Or.inl (by decide) | exact Or.inr (by first | omega | decide)), (by first | assumption | omega | decide | exact rfl | exact zb01 (by omega) | exact Or.inl (by decide) | exact Or.inr (by first | omega | decide)), hq28_2, (by decide)⟩) hP hD
          · skip
            have c31 : fl2_26.toInt = (-1) := zeq cb9 rfl (by decide)
            have n32 : fl2_26.toInt ≤ (-1) := Int.le_trans (Int.le_of_eq c31) (Int.le_refl _)
            refine lv_aload_n hx hb dX12_atom_111 rfl (lv_at hl 3 rfl) ?_
            refine lv_bipush (v := 41) hx hb dX12_atom_112 (by decide) ?_
            have hL3 : (3 : Int32).toInt = 3 := by decide
            refine mcallV' (g := g) (q0 := 0) (ci := 10) (As := [.int 41]) (rest := []) St hK hT hA hP hD hS hl.1 [0] [] rfl rfl rfl (m_isSign l g o a th hi ac tp ba en at2_25 fl2_26 3 iD iO tU fm fk fa fc ft ff fb fi 41 hba hen (by first | assumption | omega | decide | exact Or.inl (by decide) | exact Or.inr (by decide)) hq28_2 (by decide)) (cwV 1 hts (zgL (zl4 k938 k939 k940 k839) k883) rfl rfl rfl (by decide +kernel) ⟨Nat.le_of_ble_eq_true rfl, Nat.le_of_ble_eq_true rfl⟩) rfl rfl rfl rfl (Nat.le_of_ble_eq_true rfl) dX12_atom_114 ⟨(Nat.le_of_ble_eq_true rfl), (Nat.le_of_ble_eq_true rfl)⟩ (fun u_ H locs hq35 hP hD hS => ?_)
            obtain ⟨at2_33, q_34⟩ := u_
            replace hq35 : (0 ≤ at2_33.toInt ∧ at2_33.toInt ≤ en.toInt + 7 - (3 : Int32).toInt) ∧ (at2_25.toInt ≤ at2_33.toInt) ∧ (q_34 = 1 ∧ at2_33.toInt < en.toInt ∨ q_34 = 0) := hq35
            have hP : va_P g.1 vwCl (List.flatten [bMo g o a th hi ac tp ba en at2_33 fl2_26 3 iD iO tU fm fk fa fc ft ff fb fi]) H := hP
            have hD : va_D A (List.flatten [bMo g o a th hi ac tp ba en at2_33 fl2_26 3 iD iO tU fm fk fa fc ft ff fb fi]) := hD
            refine W.widen (k := 0) (n := 0) (Nat.le_of_ble_eq_true rfl) (Nat.le_of_ble_eq_true rfl) ?_
            refine W.eq (g2 := F0 m 117 ls [.int q_34]) rfl ?_
            obtain ⟨hq35_0, hq35_1, hq35_2⟩ := hq35
            rcases hq35_2 with ⟨rfl, hq35_k⟩ | rfl
            · skip
              refine lv_if_ne (tgt := 128) hx hb dX12_atom_117 (by decide) (fun _ => ?_) (fun c36 => absurd c36 (by decide))
              refine lv_aload_n hx hb dX12_atom_128 rfl (lv_at hl 3 rfl) ?_
              refine lv_dup hx hb dX12_atom_129 rfl ?_
              refine va_get (D := g.1) (ci := 10) (v := .int at2_33) (C := RX12) (T := TX12) (N := 20) hx hb hts izRX12 hown hK hP 0 rfl rfl 11 (by decide) (hts _ k878) (fun _ h9 => h9) rfl dX12_atom_130 ?_
              refine lv_iconst (v := 1) hx hb dX12_atom_133 (by decide) ?_
              refine lv_iadd hx hb dX12_atom_134 ?_
              refine zgv (zadd (i := at2_33.toInt) (j := 1) rfl (by decide) (by omega)) (fun x_37 hx_37 => ?_)
              refine va_put (D := g.1) (ci := 10) (v := .int x_37) (ty := .int) (C := RX12) (T := TX12) (N := 20) hx hb hts izRX12 tyX12 tyX12_ok nmX12 hown hK hP hD hS 0 rfl rfl 11 (by decide) (hts _ k878) (fun _ h9 => h9) rfl (by decide +kernel) rfl rfl (Nat.le_of_ble_eq_true rfl) dX12_atom_135 (fun H locs hP hD hS => ?_)
              have hP : va_P g.1 vwCl (List.flatten [bMo g o a th hi ac tp ba en x_37 fl2_26 3 iD iO tU fm fk fa fc ft ff fb fi]) H := hP
              have hD : va_D A (List.flatten [bMo g o a th hi ac tp ba en x_37 fl2_26 3 iD iO tU fm fk fa fc ft ff fb fi]) := hD
              refine lv_aload_n hx hb dX12_atom_138 rfl (lv_at hl 3 rfl) ?_
              refine lv_dup hx hb dX12_atom_139 rfl ?_
              refine va_get (D := g.1) (ci := 10) (v := .int 3) (C := RX12) (T := TX12) (N := 20) hx hb hts izRX12 hown hK hP 0 rfl rfl 13 (by decide) (hts _ k933) (fun _ h9 => h9) rfl dX12_atom_140 ?_
              refine lv_iconst (v := 1) hx hb dX12_atom_143 (by decide) ?_
              refine lv_isub hx hb dX12_atom_144 ?_
              refine ztop (r := 2) (by decide) ?_
              refine va_put (D := g.1) (ci := 10) (v := .int 2) (ty := .int) (C := RX12) (T := TX12) (N := 20) hx hb hts izRX12 tyX12 tyX12_ok nmX12 hown hK hP hD hS 0 rfl rfl 13 (by decide) (hts _ k933) (fun _ h9 => h9) rfl (by decide +kernel) rfl rfl (Nat.le_of_ble_eq_true rfl) dX12_atom_145 (fun H locs hP hD hS => ?_)
              have hP : va_P g.1 vwCl (List.flatten [bMo g o a th hi ac tp ba en x_37 fl2_26 2 iD iO tU fm fk fa fc ft ff fb fi]) H := hP
              have hD : va_D A (List.flatten [bMo g o a th hi ac tp ba en x_37 fl2_26 2 iD iO tU fm fk fa fc ft ff fb fi]) := hD
              refine lv_iload_n hx hb dX12_atom_148 rfl (lv_at hl 0 rfl) ?_
              have hP : va_P g.1 vwCl (List.flatten [bMo g o a th hi ac tp ba en x_37 fl2_26 2 iD iO tU fm fk fa fc ft ff fb fi]) H := hP
              have hD : va_D A (List.flatten [bMo g o a th hi ac tp ba en x_37 fl2_26 2 iD iO tU fm fk fa fc ft ff fb fi]) := hD
              exact mret_z hx hb hr hlocks hS (Nat.le_of_ble_eq_true rfl) (Nat.le_of_ble_eq_true rfl) dX12_atom_149 (x_37, fl2_26, (0 : Int32)) rfl (by decide) (show (0 ≤ x_37.toInt ∧ x_37.toInt ≤ en.toInt + 7 - 2) ∧ (tA.toInt ≤ x_37.toInt) ∧ (-1 ≤ fl2_26.toInt) ∧ (0 = 0 ∨ 0 = 1) from ⟨(by first | assumption | omega | decide | exact rfl | exact zb01 (by omega) | exact Or.inl (by decide) | exact Or.inr (by first | omega | decide)), (by first | assumption | omega | decide | exact rfl | exact zb01 (by omega) | exact Or.inl (by decide) | exact Or.inr (by first | omega | decide)), hq28_2, (by decide)⟩) hP hD
            · skip
              refine lv_if_ne (tgt := 128) hx hb dX12_atom_117 (by decide) (fun c38 => absurd (by decide) c38) (fun _ => ?_)
              refine lv_aload_n hx hb dX12_atom_120 rfl (lv_at hl 3 rfl) ?_
              refine lv_aload_n hx hb dX12_atom_121 rfl (lv_at hl 3 rfl) ?_
              refine va_get (D := g.1) (ci := 10) (v := .int at2_33) (C := RX12) (T := TX12) (N := 20) hx hb hts izRX12 hown hK hP 0 rfl rfl 11 (by decide) (hts _ k878) (fun _ h9 => h9) rfl dX12_atom_122 ?_
              refine mcallV' (g := g) (q0 := 0) (ci := 10) (As := [.int at2_33]) (rest := []) St hK hT hA hP hD hS hl.1 [0] [] rfl rfl rfl (m_wrong l g o a th hi ac tp ba en at2_33 fl2_26 3 iD iO tU fm fk fa fc ft ff fb fi at2_33 (by first | assumption | omega | decide | exact Or.inl (by decide) | exact Or.inr (by decide)) hq28_2) (cwV 1 hts (zgL (zl4 k895 k896 k897 k839) k890) rfl rfl rfl (by decide +kernel) ⟨Nat.le_of_ble_eq_true rfl, Nat.le_of_ble_eq_true rfl⟩) rfl rfl rfl rfl (Nat.le_of_ble_eq_true rfl) dX12_atom_125 ⟨(Nat.le_of_ble_eq_true rfl), (Nat.le_of_ble_eq_true rfl)⟩ (fun fl2_39 H locs hq40 hP hD hS => ?_)
              replace hq40 : (0 ≤ fl2_39.toInt) := hq40
              have hP : va_P g.1 vwCl (List.flatten [bMo g o a th hi ac tp ba en at2_33 fl2_39 3 iD iO tU fm fk fa fc ft ff fb fi]) H := hP
              have hD : va_D A (List.flatten [bMo g o a th hi ac tp ba en at2_33 fl2_39 3 iD iO tU fm fk fa fc ft ff fb fi]) := hD
              refine W.widen (k := 0) (n := 0) (Nat.le_of_ble_eq_true rfl) (Nat.le_of_ble_eq_true rfl) ?_
              refine W.eq (g2 := F0 m 128 ls []) rfl ?_
              refine lv_aload_n hx hb dX12_atom_128 rfl (lv_at hl 3 rfl) ?_
              refine lv_dup hx hb dX12_atom_129 rfl ?_
              refine va_get (D := g.1) (ci := 10) (v := .int at2_33) (C := RX12) (T := TX12) (N := 20) hx hb hts izRX12 hown hK hP 0 rfl rfl 11 (by decide) (hts _ k878) (fun _ h9 => h9) rfl dX12_atom_130 ?_
              refine lv_iconst (v := 1) hx hb dX12_atom_133 (by decide) ?_
              refine lv_iadd hx hb dX12_atom_134 ?_
              refine zgv (zadd (i := at2_33.toInt) (j := 1) rfl (by decide) (by omega)) (fun x_41 hx_41 => ?_)
              refine va_put (D := g.1) (ci := 10) (v := .int x_41) (ty := .int) (C := RX12) (T := TX12) (N := 20) hx hb hts izRX12 tyX12 tyX12_ok nmX12 hown hK hP hD hS 0 rfl rfl 11 (by decide) (hts _ k878) (fun _ h9 => h9) rfl (by decide +kernel) rfl rfl (Nat.le_of_ble_eq_true rfl) dX12_atom_135 (fun H locs hP hD hS => ?_)
              have hP : va_P g.1 vwCl (List.flatten [bMo g o a th hi ac tp ba en x_41 fl2_39 3 iD iO tU fm fk fa fc ft ff fb fi]) H := hP
              have hD : va_D A (List.flatten [bMo g o a th hi ac tp ba en x_41 fl2_39 3 iD iO tU fm fk fa fc ft ff fb fi]) := hD
              refine lv_aload_n hx hb dX12_atom_138 rfl (lv_at hl 3 rfl) ?_
              refine lv_dup hx hb dX12_atom_139 rfl ?_
              refine va_get (D := g.1) (ci := 10) (v := .int 3) (C := RX12) (T := TX12) (N := 20) hx hb hts izRX12 hown hK hP 0 rfl rfl 13 (by decide) (hts _ k933) (fun _ h9 => h9) rfl dX12_atom_140 ?_
              refine lv_iconst (v := 1) hx hb dX12_atom_143 (by decide) ?_
              refine lv_isub hx hb dX12_atom_144 ?_
              refine ztop (r := 2) (by decide) ?_
              refine va_put (D := g.1) (ci := 10) (v := .int 2) (ty := .int) (C := RX12) (T := TX12) (N := 20) hx hb hts izRX12 tyX12 tyX12_ok nmX12 hown hK hP hD hS 0 rfl rfl 13 (by decide) (hts _ k933) (fun _ h9 => h9) rfl (by decide +kernel) rfl rfl (Nat.le_of_ble_eq_true rfl) dX12_atom_145 (fun H locs hP hD hS => ?_)
              have hP : va_P g.1 vwCl (List.flatten [bMo g o a th hi ac tp ba en x_41 fl2_39 2 iD iO tU fm fk fa fc ft ff fb fi]) H := hP
              have hD : va_D A (List.flatten [bMo g o a th hi ac tp ba en x_41 fl2_39 2 iD iO tU fm fk fa fc ft ff fb fi]) := hD
              refine lv_iload_n hx hb dX12_atom_148 rfl (lv_at hl 0 rfl) ?_
              have hP : va_P g.1 vwCl (List.flatten [bMo g o a th hi ac tp ba en x_41 fl2_39 2 iD iO tU fm fk fa fc ft ff fb fi]) H := hP
              have hD : va_D A (List.flatten [bMo g o a th hi ac tp ba en x_41 fl2_39 2 iD iO tU fm fk fa fc ft ff fb fi]) := hD
              exact mret_z hx hb hr hlocks hS (Nat.le_of_ble_eq_true rfl) (Nat.le_of_ble_eq_true rfl) dX12_atom_149 (x_41, fl2_39, (0 : Int32)) rfl (by decide) (show (0 ≤ x_41.toInt ∧ x_41.toInt ≤ en.toInt + 7 - 2) ∧ (tA.toInt ≤ x_41.toInt) ∧ (-1 ≤ fl2_39.toInt) ∧ (0 = 0 ∨ 0 = 1) from ⟨(by first | assumption | omega | decide | exact rfl | exact zb01 (by omega) | exact Or.inl (by decide) | exact Or.inr (by first | omega | decide)), (by first | assumption | omega | decide | exact rfl | exact zb01 (by omega) | exact Or.inl (by decide) | exact Or.inr (by first | omega | decide)), (by first | assumption | omega | decide | exact rfl | exact zb01 (by omega) | exact Or.inl (by decide) | exact Or.inr (by first | omega | decide)), (by decide)⟩) hP hD
        · skip
          refine lv_istore_n (lv' := [(3, .int 1), (2, .int 0), (1, .int at2_3), (0, .ref o)]) hx hb dX12_atom_102 rfl hl (by decide) rfl (fun ls hl => ?_)
          refine lv_aload_n hx hb dX12_atom_103 rfl (lv_at hl 3 rfl) ?_
          refine va_get (D := g.1) (ci := 10) (v := .int fl2_26) (C := RX12) (T := TX12) (N := 20) hx hb hts izRX12 hown hK hP 0 rfl rfl 12 (by decide) (hts _ k820) (fun _ h9 => h9) rfl dX12_atom_104 ?_
          refine lv_iconst (v := (-1)) hx hb dX12_atom_107 (by decide) ?_
          refine lv_icmp_ne (tgt := 128) hx hb dX12_atom_108 (by decide) (fun cb9 => ?_) (fun cb9 => ?_)
          · skip
            have c42 : ¬ fl2_26.toInt = (-1) := zne cb9 rfl (by decide)
            refine lv_aload_n hx hb dX12_atom_128 rfl (lv_at hl 3 rfl) ?_
            refine lv_dup hx hb dX12_atom_129 rfl ?_
            refine va_get (D := g.1) (ci := 10) (v := .int at2_25) (C := RX12) (T := TX12) (N := 20) hx hb hts izRX12 hown hK hP 0 rfl rfl 11 (by decide) (hts _ k878) (fun _ h9 => h9) rfl dX12_atom_130 ?_
            refine lv_iconst (v := 1) hx hb dX12_atom_133 (by decide) ?_
            refine lv_iadd hx hb dX12_atom_134 ?_
            refine zgv (zadd (i := at2_25.toInt) (j := 1) rfl (by decide) (by omega)) (fun x_43 hx_43 => ?_)
            refine va_put (D := g.1) (ci := 10) (v := .int x_43) (ty := .int) (C := RX12) (T := TX12) (N := 20) hx hb hts izRX12 tyX12 tyX12_ok nmX12 hown hK hP hD hS 0 rfl rfl 11 (by decide) (hts _ k878) (fun _ h9 => h9) rfl (by decide +kernel) rfl rfl (Nat.le_of_ble_eq_true rfl) dX12_atom_135 (fun H locs hP hD hS => ?_)
            have hP : va_P g.1 vwCl (List.flatten [bMo g o a th hi ac tp ba en x_43 fl2_26 3 iD iO tU fm fk fa fc ft ff fb fi]) H := hP
            have hD : va_D A (List.flatten [bMo g o a th hi ac tp ba en x_43 fl2_26 3 iD iO tU fm fk fa fc ft ff fb fi]) := hD
            refine lv_aload_n hx hb dX12_atom_138 rfl (lv_at hl 3 rfl) ?_
            refine lv_dup hx hb dX12_atom_139 rfl ?_
            refine va_get (D := g.1) (ci := 10) (v := .int 3) (C := RX12) (T := TX12) (N := 20) hx hb hts izRX12 hown hK hP 0 rfl rfl 13 (by decide) (hts _ k933) (fun _ h9 => h9) rfl dX12_atom_140 ?_
            refine lv_iconst (v := 1) hx hb dX12_atom_143 (by decide) ?_
            refine lv_isub hx hb dX12_atom_144 ?_
            refine ztop (r := 2) (by decide) ?_
            refine va_put (D := g.1) (ci := 10) (v := .int 2) (ty := .int) (C := RX12) (T := TX12) (N := 20) hx hb hts izRX12 tyX12 tyX12_ok nmX12 hown hK hP hD hS 0 rfl rfl 13 (by decide) (hts _ k933) (fun _ h9 => h9) rfl (by decide +kernel) rfl rfl (Nat.le_of_ble_eq_true rfl) dX12_atom_145 (fun H locs hP hD hS => ?_)
            have hP : va_P g.1 vwCl (List.flatten [bMo g o a th hi ac tp ba en x_43 fl2_26 2 iD iO tU fm fk fa fc ft ff fb fi]) H := hP
            have hD : va_D A (List.flatten [bMo g o a th hi ac tp ba en x_43 fl2_26 2 iD iO tU fm fk fa fc ft ff fb fi]) := hD
            refine lv_iload_n hx hb dX12_atom_148 rfl (lv_at hl 0 rfl) ?_
            have hP : va_P g.1 vwCl (List.flatten [bMo g o a th hi ac tp ba en x_43 fl2_26 2 iD iO tU fm fk fa fc ft ff fb fi]) H := hP
            have hD : va_D A (List.flatten [bMo g o a th hi ac tp ba en x_43 fl2_26 2 iD iO tU fm fk fa fc ft ff fb fi]) := hD
            exact mret_z hx hb hr hlocks hS (Nat.le_of_ble_eq_true rfl) (Nat.le_of_ble_eq_true rfl) dX12_atom_149 (x_43, fl2_26, (1 : Int32)) rfl (by decide) (show (0 ≤ x_43.toInt ∧ x_43.toInt ≤ en.toInt + 7 - 2) ∧ (tA.toInt ≤ x_43.toInt) ∧ (-1 ≤ fl2_26.toInt) ∧ (1 = 0 ∨ 1 = 1) from ⟨(by first | assumption | omega | decide | exact rfl | exact zb01 (by omega) | exact Or.inl (by decide) | exact Or.inr (by first | omega | decide)), (by first | assumption | omega | decide | exact rfl | exact zb01 (by omega) | exact Or.inl (by decide) | exact Or.inr (by first | omega | decide)), hq28_2, (by decide)⟩) hP hD
          · skip
            have c44 : fl2_26.toInt = (-1) := zeq cb9 rfl (by decide)
            have n45 : fl2_26.toInt ≤ (-1) := Int.le_trans (Int.le_of_eq c44) (Int.le_refl _)
            refine lv_aload_n hx hb dX12_atom_111 rfl (lv_at hl 3 rfl) ?_
            refine lv_bipush (v := 41) hx hb dX12_atom_112 (by decide) ?_
            have hL3 : (3 : Int32).toInt = 3 := by decide
            refine mcallV' (g := g) (q0 := 0) (ci := 10) (As := [.int 41]) (rest := []) St hK hT hA hP hD hS hl.1 [0] [] rfl rfl rfl (m_isSign l g o a th hi ac tp ba en at2_25 fl2_26 3 iD iO tU fm fk fa fc ft ff fb fi 41 hba hen (by first | assumption | omega | decide | exact Or.inl (by decide) | exact Or.inr (by decide)) hq28_2 (by decide)) (cwV 1 hts (zgL (zl4 k938 k939 k940 k839) k883) rfl rfl rfl (by decide +kernel) ⟨Nat.le_of_ble_eq_true rfl, Nat.le_of_ble_eq_true rfl⟩) rfl rfl rfl rfl (Nat.le_of_ble_eq_true rfl) dX12_atom_114 ⟨(Nat.le_of_ble_eq_true rfl), (Nat.le_of_ble_eq_true rfl)⟩ (fun u_ H locs hq48 hP hD hS => ?_)
            obtain ⟨at2_46, q_47⟩ := u_
            replace hq48 : (0 ≤ at2_46.toInt ∧ at2_46.toInt ≤ en.toInt + 7 - (3 : Int32).toInt) ∧ (at2_25.toInt ≤ at2_46.toInt) ∧ (q_47 = 1 ∧ at2_46.toInt < en.toInt ∨ q_47 = 0) := hq48
            have hP : va_P g.1 vwCl (List.flatten [bMo g o a th hi ac tp ba en at2_46 fl2_26 3 iD iO tU fm fk fa fc ft ff fb fi]) H := hP
            have hD : va_D A (List.flatten [bMo g o a th hi ac tp ba en at2_46 fl2_26 3 iD iO tU fm fk fa fc ft ff fb fi]) := hD
            refine W.widen (k := 0) (n := 0) (Nat.le_of_ble_eq_true rfl) (Nat.le_of_ble_eq_true rfl) ?_
            refine W.eq (g2 := F0 m 117 ls [.int q_47]) rfl ?_
            obtain ⟨hq48_0, hq48_1, hq48_2⟩ := hq48
            rcases hq48_2 with ⟨rfl, hq48_k⟩ | rfl
            · skip
              refine lv_if_ne (tgt := 128) hx hb dX12_atom_117 (by decide) (fun _ => ?_) (fun c49 => absurd c49 (by decide))
              refine lv_aload_n hx hb dX12_atom_128 rfl (lv_at hl 3 rfl) ?_
              refine lv_dup hx hb dX12_atom_129 rfl ?_
              refine va_get (D := g.1) (ci := 10) (v := .int at2_46) (C := RX12) (T := TX12) (N := 20) hx hb hts izRX12 hown hK hP 0 rfl rfl 11 (by decide) (hts _ k878) (fun _ h9 => h9) rfl dX12_atom_130 ?_
              refine lv_iconst (v := 1) hx hb dX12_atom_133 (by decide) ?_
              refine lv_iadd hx hb dX12_atom_134 ?_
              refine zgv (zadd (i := at2_46.toInt) (j := 1) rfl (by decide) (by omega)) (fun x_50 hx_50 => ?_)
              refine va_put (D := g.1) (ci := 10) (v := .int x_50) (ty := .int) (C := RX12) (T := TX12) (N := 20) hx hb hts izRX12 tyX12 tyX12_ok nmX12 hown hK hP hD hS 0 rfl rfl 11 (by decide) (hts _ k878) (fun _ h9 => h9) rfl (by decide +kernel) rfl rfl (Nat.le_of_ble_eq_true rfl) dX12_atom_135 (fun H locs hP hD hS => ?_)
              have hP : va_P g.1 vwCl (List.flatten [bMo g o a th hi ac tp ba en x_50 fl2_26 3 iD iO tU fm fk fa fc ft ff fb fi]) H := hP
              have hD : va_D A (List.flatten [bMo g o a th hi ac tp ba en x_50 fl2_26 3 iD iO tU fm fk fa fc ft ff fb fi]) := hD
              refine lv_aload_n hx hb dX12_atom_138 rfl (lv_at hl 3 rfl) ?_
              refine lv_dup hx hb dX12_atom_139 rfl ?_
              refine va_get (D := g.1) (ci := 10) (v := .int 3) (C := RX12) (T := TX12) (N := 20) hx hb hts izRX12 hown hK hP 0 rfl rfl 13 (by decide) (hts _ k933) (fun _ h9 => h9) rfl dX12_atom_140 ?_
              refine lv_iconst (v := 1) hx hb dX12_atom_143 (by decide) ?_
              refine lv_isub hx hb dX12_atom_144 ?_
              refine ztop (r := 2) (by decide) ?_
              refine va_put (D := g.1) (ci := 10) (v := .int 2) (ty := .int) (C := RX12) (T := TX12) (N := 20) hx hb hts izRX12 tyX12 tyX12_ok nmX12 hown hK hP hD hS 0 rfl rfl 13 (by decide) (hts _ k933) (fun _ h9 => h9) rfl (by decide +kernel) rfl rfl (Nat.le_of_ble_eq_true rfl) dX12_atom_145 (fun H locs hP hD hS => ?_)
              have hP : va_P g.1 vwCl (List.flatten [bMo g o a th hi ac tp ba en x_50 fl2_26 2 iD iO tU fm fk fa fc ft ff fb fi]) H := hP
              have hD : va_D A (List.flatten [bMo g o a th hi ac tp ba en x_50 fl2_26 2 iD iO tU fm fk fa fc ft ff fb fi]) := hD
              refine lv_iload_n hx hb dX12_atom_148 rfl (lv_at hl 0 rfl) ?_
              have hP : va_P g.1 vwCl (List.flatten [bMo g o a th hi ac tp ba en x_50 fl2_26 2 iD iO tU fm fk fa fc ft ff fb fi]) H := hP
              have hD : va_D A (List.flatten [bMo g o a th hi ac tp ba en x_50 fl2_26 2 iD iO tU fm fk fa fc ft ff fb fi]) := hD
              exact mret_z hx hb hr hlocks hS (Nat.le_of_ble_eq_true rfl) (Nat.le_of_ble_eq_true rfl) dX12_atom_149 (x_50, fl2_26, (1 : Int32)) rfl (by decide) (show (0 ≤ x_50.toInt ∧ x_50.toInt ≤ en.toInt + 7 - 2) ∧ (tA.toInt ≤ x_50.toInt) ∧ (-1 ≤ fl2_26.toInt) ∧ (1 = 0 ∨ 1 = 1) from ⟨(by first | assumption | omega | decide | exact rfl | exact zb01 (by omega) | exact Or.inl (by decide) | exact Or.inr (by first | omega | decide)), (by first | assumption | omega | decide | exact rfl | exact zb01 (by omega) | exact Or.inl (by decide) | exact Or.inr (by first | omega | decide)), hq28_2, (by decide)⟩) hP hD
            · skip
              refine lv_if_ne (tgt := 128) hx hb dX12_atom_117 (by decide) (fun c51 => absurd (by decide) c51) (fun _ => ?_)
              refine lv_aload_n hx hb dX12_atom_120 rfl (lv_at hl 3 rfl) ?_
              refine lv_aload_n hx hb dX12_atom_121 rfl (lv_at hl 3 rfl) ?_
              refine va_get (D := g.1) (ci := 10) (v := .int at2_46) (C := RX12) (T := TX12) (N := 20) hx hb hts izRX12 hown hK hP 0 rfl rfl 11 (by decide) (hts _ k878) (fun _ h9 => h9) rfl dX12_atom_122 ?_
              refine mcallV' (g := g) (q0 := 0) (ci := 10) (As := [.int at2_46]) (rest := []) St hK hT hA hP hD hS hl.1 [0] [] rfl rfl rfl (m_wrong l g o a th hi ac tp ba en at2_46 fl2_26 3 iD iO tU fm fk fa fc ft ff fb fi at2_46 (by first | assumption | omega | decide | exact Or.inl (by decide) | exact Or.inr (by decide)) hq28_2) (cwV 1 hts (zgL (zl4 k895 k896 k897 k839) k890) rfl rfl rfl (by decide +kernel) ⟨Nat.le_of_ble_eq_true rfl, Nat.le_of_ble_eq_true rfl⟩) rfl rfl rfl rfl (Nat.le_of_ble_eq_true rfl) dX12_atom_125 ⟨(Nat.le_of_ble_eq_true rfl), (Nat.le_of_ble_eq_true rfl)⟩ (fun fl2_52 H locs hq53 hP hD hS => ?_)
              replace hq53 : (0 ≤ fl2_52.toInt) := hq53
              have hP : va_P g.1 vwCl (List.flatten [bMo g o a th hi ac tp ba en at2_46 fl2_52 3 iD iO tU fm fk fa fc ft ff fb fi]) H := hP
              have hD : va_D A (List.flatten [bMo g o a th hi ac tp ba en at2_46 fl2_52 3 iD iO tU fm fk fa fc ft ff fb fi]) := hD
              refine W.widen (k := 0) (n := 0) (Nat.le_of_ble_eq_true rfl) (Nat.le_of_ble_eq_true rfl) ?_
              refine W.eq (g2 := F0 m 128 ls []) rfl ?_
              refine lv_aload_n hx hb dX12_atom_128 rfl (lv_at hl 3 rfl) ?_
              refine lv_dup hx hb dX12_atom_129 rfl ?_
              refine va_get (D := g.1) (ci := 10) (v := .int at2_46) (C := RX12) (T := TX12) (N := 20) hx hb hts izRX12 hown hK hP 0 rfl rfl 11 (by decide) (hts _ k878) (fun _ h9 => h9) rfl dX12_atom_130 ?_
              refine lv_iconst (v := 1) hx hb dX12_atom_133 (by decide) ?_
              refine lv_iadd hx hb dX12_atom_134 ?_
              refine zgv (zadd (i := at2_46.toInt) (j := 1) rfl (by decide) (by omega)) (fun x_54 hx_54 => ?_)
              refine va_put (D := g.1) (ci := 10) (v := .int x_54) (ty := .int) (C := RX12) (T := TX12) (N := 20) hx hb hts izRX12 tyX12 tyX12_ok nmX12 hown hK hP hD hS 0 rfl rfl 11 (by decide) (hts _ k878) (fun _ h9 => h9) rfl (by decide +kernel) rfl rfl (Nat.le_of_ble_eq_true rfl) dX12_atom_135 (fun H locs hP hD hS => ?_)
              have hP : va_P g.1 vwCl (List.flatten [bMo g o a th hi ac tp ba en x_54 fl2_52 3 iD iO tU fm fk fa fc ft ff fb fi]) H := hP
              have hD : va_D A (List.flatten [bMo g o a th hi ac tp ba en x_54 fl2_52 3 iD iO tU fm fk fa fc ft ff fb fi]) := hD
              refine lv_aload_n hx hb dX12_atom_138 rfl (lv_at hl 3 rfl) ?_
              refine lv_dup hx hb dX12_atom_139 rfl ?_
              refine va_get (D := g.1) (ci := 10) (v := .int 3) (C := RX12) (T := TX12) (N := 20) hx hb hts izRX12 hown hK hP 0 rfl rfl 13 (by decide) (hts _ k933) (fun _ h9 => h9) rfl dX12_atom_140 ?_
              refine lv_iconst (v := 1) hx hb dX12_atom_143 (by decide) ?_
              refine lv_isub hx hb dX12_atom_144 ?_
              refine ztop (r := 2) (by decide) ?_
              refine va_put (D := g.1) (ci := 10) (v := .int 2) (ty := .int) (C := RX12) (T := TX12) (N := 20) hx hb hts izRX12 tyX12 tyX12_ok nmX12 hown hK hP hD hS 0 rfl rfl 13 (by decide) (hts _ k933) (fun _ h9 => h9) rfl (by decide +kernel) rfl rfl (Nat.le_of_ble_eq_true rfl) dX12_atom_145 (fun H locs hP hD hS => ?_)
              have hP : va_P g.1 vwCl (List.flatten [bMo g o a th hi ac tp ba en x_54 fl2_52 2 iD iO tU fm fk fa fc ft ff fb fi]) H := hP
              have hD : va_D A (List.flatten [bMo g o a th hi ac tp ba en x_54 fl2_52 2 iD iO tU fm fk fa fc ft ff fb fi]) := hD
              refine lv_iload_n hx hb dX12_atom_148 rfl (lv_at hl 0 rfl) ?_
              have hP : va_P g.1 vwCl (List.flatten [bMo g o a th hi ac tp ba en x_54 fl2_52 2 iD iO tU fm fk fa fc ft ff fb fi]) H := hP
              have hD : va_D A (List.flatten [bMo g o a th hi ac tp ba en x_54 fl2_52 2 iD iO tU fm fk fa fc ft ff fb fi]) := hD
              exact mret_z hx hb hr hlocks hS (Nat.le_of_ble_eq_true rfl) (Nat.le_of_ble_eq_true rfl) dX12_atom_149 (x_54, fl2_52, (1 : Int32)) rfl (by decide) (show (0 ≤ x_54.toInt ∧ x_54.toInt ≤ en.toInt + 7 - 2) ∧ (tA.toInt ≤ x_54.toInt) ∧ (-1 ≤ fl2_52.toInt) ∧ (1 = 0 ∨ 1 = 1) from ⟨(by first | assumption | omega | decide | exact rfl | exact zb01 (by omega) | exact Or.inl (by decide) | exact Or.inr (by first | omega | decide)), (by first | assumption | omega | decide | exact rfl | exact zb01 (by omega) | exact Or.inl (by decide) | exact Or.inr (by first | omega | decide)), (by first | assumption | omega | decide | exact rfl | exact zb01 (by omega) | exact Or.inl (by decide) | exact Or.inr (by first | omega | decide)), (by decide)⟩) hP hD
      · skip
        refine lv_if_ne (tgt := 40) hx hb dX12_atom_32 (by decide) (fun c55 => absurd (by decide) c55) (fun _ => ?_)
        refine lv_aload_n hx hb dX12_atom_35 rfl (lv_at hl 2 rfl) ?_
        refine mcallV' (g := g) (q0 := 0) (ci := 10) (As := []) (rest := []) St hK hT hA hP hD hS hl.1 [0] [] rfl rfl rfl (m_plain l g o a th hi ac tp ba en at2_18 fl 2 iD iO tU fm fk fa fc ft ff fb fi hiD hiO hba hen hq20_0 hfl (by decide)) (cwV 0 hts (zgL (zl4 k948 k949 k950 k839) k947) rfl rfl rfl (by decide +kernel) ⟨Nat.le_of_ble_eq_true rfl, Nat.le_of_ble_eq_true rfl⟩) rfl rfl rfl rfl (Nat.le_of_ble_eq_true rfl) dX12_atom_36 ⟨(Nat.le_of_ble_eq_true rfl), (Nat.le_of_ble_eq_true rfl)⟩ (fun u_ H locs hq59 hP hD hS => ?_)
        obtain ⟨at2_56, fl2_57, q_58⟩ := u_
        replace hq59 : (0 ≤ at2_56.toInt ∧ at2_56.toInt ≤ en.toInt + 7 - (2 : Int32).toInt) ∧ (at2_18.toInt ≤ at2_56.toInt) ∧ (-1 ≤ fl2_57.toInt) ∧ (q_58 = 0 ∨ q_58 = 1) := hq59
        have hP : va_P g.1 vwCl (List.flatten [bMo g o a th hi ac tp ba en at2_56 fl2_57 2 iD iO tU fm fk fa fc ft ff fb fi]) H := hP
        have hD : va_D A (List.flatten [bMo g o a th hi ac tp ba en at2_56 fl2_57 2 iD iO tU fm fk fa fc ft ff fb fi]) := hD
        refine W.widen (k := 0) (n := 0) (Nat.le_of_ble_eq_true rfl) (Nat.le_of_ble_eq_true rfl) ?_
        refine W.eq (g2 := F0 m 39 ls [.int q_58]) rfl ?_
        obtain ⟨hq59_0, hq59_1, hq59_2, hq59_3⟩ := hq59
        rcases hq59_3 with rfl | rfl
        · skip
          have hP : va_P g.1 vwCl (List.flatten [bMo g o a th hi ac tp ba en at2_56 fl2_57 2 iD iO tU fm fk fa fc ft ff fb fi]) H := hP
          have hD : va_D A (List.flatten [bMo g o a th hi ac tp ba en at2_56 fl2_57 2 iD iO tU fm fk fa fc ft ff fb fi]) := hD
          exact mret_z hx hb hr hlocks hS (Nat.le_of_ble_eq_true rfl) (Nat.le_of_ble_eq_true rfl) dX12_atom_39 (at2_56, fl2_57, (0 : Int32)) rfl (by decide) (show (0 ≤ at2_56.toInt ∧ at2_56.toInt ≤ en.toInt + 7 - 2) ∧ (tA.toInt ≤ at2_56.toInt) ∧ (-1 ≤ fl2_57.toInt) ∧ (0 = 0 ∨ 0 = 1) from ⟨(by first | assumption | omega | decide | exact rfl | exact zb01 (by omega) | exact Or.inl (by decide) | exact Or.inr (by first | omega | decide)), (by first | assumption | omega | decide | exact rfl | exact zb01 (by omega) | exact Or.inl (by decide) | exact Or.inr (by first | omega | decide)), hq59_2, (by decide)⟩) hP hD
        · skip
          have hP : va_P g.1 vwCl (List.flatten [bMo g o a th hi ac tp ba en at2_56 fl2_57 2 iD iO tU fm fk fa fc ft ff fb fi]) H := hP
          have hD : va_D A (List.flatten [bMo g o a th hi ac tp ba en at2_56 fl2_57 2 iD iO tU fm fk fa fc ft ff fb fi]) := hD
          exact mret_z hx hb hr hlocks hS (Nat.le_of_ble_eq_true rfl) (Nat.le_of_ble_eq_true rfl) dX12_atom_39 (at2_56, fl2_57, (1 : Int32)) rfl (by decide) (show (0 ≤ at2_56.toInt ∧ at2_56.toInt ≤ en.toInt + 7 - 2) ∧ (tA.toInt ≤ at2_56.toInt) ∧ (-1 ≤ fl2_57.toInt) ∧ (1 = 0 ∨ 1 = 1) from ⟨(by first | assumption | omega | decide | exact rfl | exact zb01 (by omega) | exact Or.inl (by decide) | exact Or.inr (by first | omega | decide)), (by first | assumption | omega | decide | exact rfl | exact zb01 (by omega) | exact Or.inl (by decide) | exact Or.inr (by first | omega | decide)), hq59_2, (by decide)⟩) hP hD
  · skip
    have c60 : ¬ fl.toInt = (-1) := zne cb9 rfl (by decide)
    refine lv_iconst (v := 0) hx hb dX12_atom_8 (by decide) ?_
    have hP : va_P g.1 vwCl (List.flatten [bMo g o a th hi ac tp ba en tA fl 2 iD iO tU fm fk fa fc ft ff fb fi]) s.heap := hP
    have hD : va_D A (List.flatten [bMo g o a th hi ac tp ba en tA fl 2 iD iO tU fm fk fa fc ft ff fb fi]) := hD
    exact mret_z hx hb hr hlocks hS (Nat.le_of_ble_eq_true rfl) (Nat.le_of_ble_eq_true rfl) dX12_atom_9 (tA, fl, (0 : Int32)) rfl (by decide) (show (0 ≤ tA.toInt ∧ tA.toInt ≤ en.toInt + 7 - 2) ∧ (tA.toInt ≤ tA.toInt) ∧ (-1 ≤ fl.toInt) ∧ (0 = 0 ∨ 0 = 1) from ⟨htA, (by first | assumption | omega | decide | exact rfl | exact zb01 (by omega) | exact Or.inl (by decide) | exact Or.inr (by first | omega | decide)), hfl, (by decide)⟩) hP hD
