set_option maxRecDepth 100000 in
set_option maxHeartbeats 4000000 in
theorem m_every4F (l : Launch) (g : zG) (o : Nat) (a : Nat → Nat) (th : Int32) (hi : Int32) (ac : Int32) (tp : Int32) (en : Int32) (tA : Int32) (iD : Int32) (iO : Int32) (tU : Int32) (fm : Nat → Int32) (fk : Nat → Int32) (fa : Nat → Int32) (fc : Nat → Int32) (ft : Nat → Int32) (ff : Nat → Int32) (fb : Nat → Int32) (fi : Nat → Int32) (hiD : 0 ≤ iD.toInt ∧ iD.toInt ≤ 1) (hiO : 0 ≤ iO.toInt ∧ iO.toInt ≤ 1) (hen : 0 ≤ en.toInt ∧ en.toInt ≤ 400) (htA : 0 ≤ tA.toInt ∧ tA.toInt ≤ en.toInt + 7 - 4) (hde : 0 ≤ 4 ∧ 4 ≤ 6) : zM' g l yX12_every (Cond.code yX12_every cX12_every 3 (some .boolean) :: zB) ({ frames := 15, cells := 0, slots := 0, locals := 330 } : Room) [.ref o] [bMo g o a th hi ac tp (-1) en tA (-1) 4 iD iO tU fm fk fa fc ft ff fb fi] (fun u : Int32 × Int32 × Int32 => (fun (at2 : Int32) (fl2 : Int32) (q : Int32) => some (.int q)) (u.1) (u.2.1) (u.2.2)) (fun u : Int32 × Int32 × Int32 => (fun (at2 : Int32) (fl2 : Int32) (q : Int32) => (0 ≤ at2.toInt ∧ at2.toInt ≤ en.toInt + 7 - 4) ∧ (tA.toInt ≤ at2.toInt) ∧ (0 ≤ q.toInt ∧ q.toInt ≤ 1) ∧ ((-1) = fl2 ∧ (¬ zisW ft en.toInt (zbg ft en.toInt at2.toInt) zwAnd ∧ ∀ r9, zCoT ft en.toInt (zAtom ft en.toInt 2) (zbg ft en.toInt at2.toInt) r9 → zCond ft en.toInt (zAtom ft en.toInt 2) (zbg ft en.toInt tA.toInt) r9) ∨ 0 ≤ fl2.toInt ∧ zCond ft en.toInt (zAtom ft en.toInt 2) (zbg ft en.toInt tA.toInt) (.bad fl2.toInt))) (u.1) (u.2.1) (u.2.2)) (fun u : Int32 × Int32 × Int32 => (fun (at2 : Int32) (fl2 : Int32) (q : Int32) => [bMo g o a th hi ac tp (-1) en at2 fl2 4 iD iO tU fm fk fa fc ft ff fb fi]) (u.1) (u.2.1) (u.2.2)) := by
  refine zM'.of (cc := cX12_every) (maxL := 3) (rt := (some .boolean)) (by decide) rfl (Nat.le_of_ble_eq_true rfl) ?_
  intro p e s m args below meth c A ls St hr hlocks hin hK hT hA hP hD hS hl
  obtain ⟨hx, hb, hml, hown, hts⟩ := id St
  have hl : lv_has ls 3 [(0, .ref o)] := hl
  refine lv_aload_n hx hb dX12_every_0 rfl (lv_at hl 0 rfl) ?_
  refine mcallV' (g := g) (q0 := 0) (ci := 10) (As := []) (rest := []) St hK hT hA hP hD hS hl.1 [0] [] rfl rfl rfl (m_atom4F l g o a th hi ac tp en tA iD iO tU fm fk fa fc ft ff fb fi hiD hiO hen htA hde) (cwV 0 hts (zgL (zl4 k951 k952 k953 k839) k962) rfl rfl rfl (by decide +kernel) ⟨Nat.le_of_ble_eq_true rfl, Nat.le_of_ble_eq_true rfl⟩) rfl rfl rfl rfl (Nat.le_of_ble_eq_true rfl) dX12_every_1 ⟨(Nat.le_of_ble_eq_true rfl), (Nat.le_of_ble_eq_true rfl)⟩ (fun u_ H locs hq4 hP hD hS => ?_)
  obtain ⟨at2_1, fl2_2, q_3⟩ := u_
  replace hq4 : (0 ≤ at2_1.toInt ∧ at2_1.toInt ≤ en.toInt + 7 - 4) ∧ (tA.toInt ≤ at2_1.toInt) ∧ (0 ≤ q_3.toInt ∧ q_3.toInt ≤ 1) ∧ ((-1) = fl2_2 ∧ zAtom ft en.toInt 2 (zbg ft en.toInt tA.toInt) (.ok (zbg ft en.toInt at2_1.toInt)) ∨ 0 ≤ fl2_2.toInt ∧ zAtom ft en.toInt 2 (zbg ft en.toInt tA.toInt) (.bad fl2_2.toInt)) := hq4
  have hP : va_P g.1 vwCl (List.flatten [bMo g o a th hi ac tp (-1) en at2_1 fl2_2 4 iD iO tU fm fk fa fc ft ff fb fi]) H := hP
  have hD : va_D A (List.flatten [bMo g o a th hi ac tp (-1) en at2_1 fl2_2 4 iD iO tU fm fk fa fc ft ff fb fi]) := hD
  refine W.widen (k := 0) (n := 0) (Nat.le_of_ble_eq_true rfl) (Nat.le_of_ble_eq_true rfl) ?_
  refine W.eq (g2 := F0 m 4 ls [.int q_3]) rfl ?_
  obtain ⟨hq4_0, hq4_1, hq4_2, hq4_3⟩ := hq4
  rcases hq4_3 with ⟨rfl, hq4_k⟩ | ⟨hq4_k, hq4_km⟩
  · skip
    refine lv_istore_n (lv' := [(1, .int q_3), (0, .ref o)]) hx hb dX12_every_4 rfl hl (by decide) rfl (fun ls hl => ?_)
    have hl := lv_sub (l' := [(0, .ref o), (1, .int q_3)]) hl [1, 0] rfl
    have LP5_15 : ∀ (kf : Nat) (x_5 : Int32) (x_6 : Int32) (x_7 : Int32), (0 ≤ x_5.toInt ∧ x_5.toInt ≤ 1) → (0 ≤ x_6.toInt ∧ x_6.toInt ≤ 407) → ((-1) ≤ x_7.toInt) → (tA.toInt ≤ x_6.toInt) → (x_6.toInt ≤ en.toInt + 7 - 4) → (-1 ≤ x_7.toInt) → ((x_7.toInt = -1 ∧ ∀ r9, zCoT ft en.toInt (zAtom ft en.toInt 2) (zbg ft en.toInt x_6.toInt) r9 → zCond ft en.toInt (zAtom ft en.toInt 2) (zbg ft en.toInt tA.toInt) r9) ∨ (0 ≤ x_7.toInt ∧ zCond ft en.toInt (zAtom ft en.toInt 2) (zbg ft en.toInt tA.toInt) (.bad x_7.toInt))) → ∀ (H : Heap) (locs : List Loc) (ls : Array Slot), ((en.toInt + 8 - x_6.toInt).toNat) < kf → va_P g.1 vwCl (List.flatten [bMo g o a th hi ac tp (-1) en x_6 x_7 4 iD iO tU fm fk fa fc ft ff fb fi]) H → va_D A (List.flatten [bMo g o a th hi ac tp (-1) en x_6 x_7 4 iD iO tU fm fk fa fc ft ff fb fi]) → va_S A s.heap H locs → lv_has ls 3 [(0, .ref o), (1, .int x_5)] → W p l e ({ frames := 15, cells := 0, slots := 0, locals := 330 } : Room) s m args below meth c H locs (0) (0) (zF g (fun u : Int32 × Int32 × Int32 => (fun (at2 : Int32) (fl2 : Int32) (q : Int32) => some (.int q)) (u.1) (u.2.1) (u.2.2)) (fun u : Int32 × Int32 × Int32 => (fun (at2 : Int32) (fl2 : Int32) (q : Int32) => (0 ≤ at2.toInt ∧ at2.toInt ≤ en.toInt + 7 - 4) ∧ (tA.toInt ≤ at2.toInt) ∧ (0 ≤ q.toInt ∧ q.toInt ≤ 1) ∧ ((-1) = fl2 ∧ (¬ zisW ft en.toInt (zbg ft en.toInt at2.toInt) zwAnd ∧ ∀ r9, zCoT ft en.toInt (zAtom ft en.toInt 2) (zbg ft en.toInt at2.toInt) r9 → zCond ft en.toInt (zAtom ft en.toInt 2) (zbg ft en.toInt tA.toInt) r9) ∨ 0 ≤ fl2.toInt ∧ zCond ft en.toInt (zAtom ft en.toInt 2) (zbg ft en.toInt tA.toInt) (.bad fl2.toInt))) (u.1) (u.2.1) (u.2.2)) (fun u : Int32 × Int32 × Int32 => (fun (at2 : Int32) (fl2 : Int32) (q : Int32) => [bMo g o a th hi ac tp (-1) en at2 fl2 4 iD iO tU fm fk fa fc ft ff fb fi]) (u.1) (u.2.1) (u.2.2)) ({ frames := 15, cells := 0, slots := 0, locals := 330 } : Room) below args s A) (F0 m 5 ls []) := by
      intro kf
      induction kf with
      | zero => intro x_5 x_6 x_7 i8 i9 i10 i11 i12 i13 i14 H locs ls hk; exact absurd hk (Nat.not_lt_zero _)
      | succ kf ih5_16 =>
        intro x_5 x_6 x_7 i8 i9 i10 i11 i12 i13 i14 H locs ls hk5_16 hP hD hS hl
        refine lv_aload_n hx hb dX12_every_5 rfl (lv_at hl 0 rfl) ?_
        refine va_get (D := g.1) (ci := 10) (v := .int x_7) (C := RX12) (T := TX12) (N := 20) hx hb hts izRX12 hown hK hP 0 rfl rfl 12 (by decide) (hts _ k820) (fun _ h9 => h9) rfl dX12_every_6 ?_
        refine lv_iconst (v := (-1)) hx hb dX12_every_9 (by decide) ?_
        refine lv_icmp_ne (tgt := 44) hx hb dX12_every_10 (by decide) (fun cb9 => ?_) (fun cb9 => ?_)
        · skip
          have c17 : ¬ x_7.toInt = (-1) := zne cb9 rfl (by decide)
          have n18 : 0 ≤ x_7.toInt := zN1 c17 i10 (by decide)
          refine lv_iload_n hx hb dX12_every_44 rfl (lv_at hl 1 rfl) ?_
          have hP : va_P g.1 vwCl (List.flatten [bMo g o a th hi ac tp (-1) en x_6 x_7 4 iD iO tU fm fk fa fc ft ff fb fi]) H := hP
          have hD : va_D A (List.flatten [bMo g o a th hi ac tp (-1) en x_6 x_7 4 iD iO tU fm fk fa fc ft ff fb fi]) := hD
          exact mret_z hx hb hr hlocks hS (Nat.le_of_ble_eq_true rfl) (Nat.le_of_ble_eq_true rfl) dX12_every_45 (x_6, x_7, x_5) rfl (by first | assumption | exact zb01 (by omega)) (show (0 ≤ x_6.toInt ∧ x_6.toInt ≤ en.toInt + 7 - 4) ∧ (tA.toInt ≤ x_6.toInt) ∧ (0 ≤ x_5.toInt ∧ x_5.toInt ≤ 1) ∧ ((-1) = x_7 ∧ (¬ zisW ft en.toInt (zbg ft en.toInt x_6.toInt) zwAnd ∧ ∀ r9, zCoT ft en.toInt (zAtom ft en.toInt 2) (zbg ft en.toInt x_6.toInt) r9 → zCond ft en.toInt (zAtom ft en.toInt 2) (zbg ft en.toInt tA.toInt) r9) ∨ 0 ≤ x_7.toInt ∧ zCond ft en.toInt (zAtom ft en.toInt 2) (zbg ft en.toInt tA.toInt) (.bad x_7.toInt)) from ⟨(by first | assumption | omega | exact Or.inl (by decide) | exact Or.inr (by omega)), (by first | assumption | omega | exact Or.inl (by decide) | exact Or.inr (by omega)), (by first | assumption | decide | omega), (Or.inr (i14.resolve_left (fun h9 => by have := h9.1; omega)))⟩) hP hD
        · skip
          have c19 : x_7.toInt = (-1) := zeq cb9 rfl (by decide)
          have n20 : x_7.toInt ≤ (-1) := Int.le_trans (Int.le_of_eq c19) (Int.le_refl _)
          have w21 : ∀ r9, zCoT ft en.toInt (zAtom ft en.toInt 2) (zbg ft en.toInt x_6.toInt) r9 → zCond ft en.toInt (zAtom ft en.toInt 2) (zbg ft en.toInt tA.toInt) r9 := (i14.resolve_right (fun h9 => by have := h9.1; omega)).2
          have w22 : x_7 = -1 := (zm1 (by omega)).symm
          subst w22
          refine lv_aload_n hx hb dX12_every_13 rfl (lv_at hl 0 rfl) ?_
          refine va_ldcS (q := g.2 100) hx hb hown (zra45 hT.2.1) dX12_every_14 ?_
          have hL4 : (4 : Int32).toInt = 4 := by decide
          refine mcallV' (g := g) (q0 := 0) (ci := 10) (As := [.ref (g.2 100)]) (rest := []) St hK hT hA hP hD hS hl.1 [0] [] rfl rfl rfl (m_hasF l g o a th hi ac tp en x_6 (-1) 4 iD iO tU fm fk fa fc ft ff fb fi (g.2 100) 45 zqa45 hen (by first | assumption | omega | decide | exact Or.inl (by decide) | exact Or.inr (by decide)) (by decide) rfl zla45 zna45 (zlitB zla45)) (cwV 1 hts (zgL (zl4 k899 k900 k901 k839) k889) rfl rfl rfl (by decide +kernel) ⟨Nat.le_of_ble_eq_true rfl, Nat.le_of_ble_eq_true rfl⟩) rfl rfl rfl rfl (Nat.le_of_ble_eq_true rfl) dX12_every_16 ⟨(Nat.le_of_ble_eq_true rfl), (Nat.le_of_ble_eq_true rfl)⟩ (fun u_ H locs hq25 hP hD hS => ?_)
          obtain ⟨at2_23, r_24⟩ := u_
          replace hq25 : (0 ≤ at2_23.toInt ∧ at2_23.toInt ≤ en.toInt + 7 - (4 : Int32).toInt) ∧ (x_6.toInt ≤ at2_23.toInt) ∧ (r_24 = 1 ∧ zisW ft en.toInt (zbg ft en.toInt x_6.toInt) zqa45.2.2.2 ∧ at2_23.toInt = znx ft en.toInt (zbg ft en.toInt x_6.toInt) ∧ x_6.toInt < at2_23.toInt ∧ at2_23.toInt ≤ en.toInt ∨ r_24 = 0 ∧ ¬ zisW ft en.toInt (zbg ft en.toInt x_6.toInt) zqa45.2.2.2 ∧ at2_23.toInt = zbg ft en.toInt x_6.toInt) := hq25
          have hP : va_P g.1 vwCl (List.flatten [bMo g o a th hi ac tp (-1) en at2_23 (-1) 4 iD iO tU fm fk fa fc ft ff fb fi]) H := hP
          have hD : va_D A (List.flatten [bMo g o a th hi ac tp (-1) en at2_23 (-1) 4 iD iO tU fm fk fa fc ft ff fb fi]) := hD
          refine W.widen (k := 0) (n := 0) (Nat.le_of_ble_eq_true rfl) (Nat.le_of_ble_eq_true rfl) ?_
          refine W.eq (g2 := F0 m 19 ls [.int r_24]) rfl ?_
          obtain ⟨hq25_0, hq25_1, hq25_2⟩ := hq25
          rcases hq25_2 with ⟨rfl, hq25_k, hq25_km⟩ | ⟨rfl, hq25_k, hq25_km⟩
          · skip
            refine lv_if_eq (tgt := 44) hx hb dX12_every_19 (by decide) (fun c26 => absurd c26 (by decide)) (fun _ => ?_)
            refine lv_aload_n hx hb dX12_every_22 rfl (lv_at hl 0 rfl) ?_
            refine mcallV' (g := g) (q0 := 0) (ci := 10) (As := []) (rest := []) St hK hT hA hP hD hS hl.1 [0] [] rfl rfl rfl (m_atom4F l g o a th hi ac tp en at2_23 iD iO tU fm fk fa fc ft ff fb fi hiD hiO hen (by first | assumption | omega | decide | exact Or.inl (by decide) | exact Or.inr (by decide)) hde) (cwV 0 hts (zgL (zl4 k951 k952 k953 k839) k962) rfl rfl rfl (by decide +kernel) ⟨Nat.le_of_ble_eq_true rfl, Nat.le_of_ble_eq_true rfl⟩) rfl rfl rfl rfl (Nat.le_of_ble_eq_true rfl) dX12_every_23 ⟨(Nat.le_of_ble_eq_true rfl), (Nat.le_of_ble_eq_true rfl)⟩ (fun u_ H locs hq30 hP hD hS => ?_)
            obtain ⟨at2_27, fl2_28, q_29⟩ := u_
            replace hq30 : (0 ≤ at2_27.toInt ∧ at2_27.toInt ≤ en.toInt + 7 - 4) ∧ (at2_23.toInt ≤ at2_27.toInt) ∧ (0 ≤ q_29.toInt ∧ q_29.toInt ≤ 1) ∧ ((-1) = fl2_28 ∧ zAtom ft en.toInt 2 (zbg ft en.toInt at2_23.toInt) (.ok (zbg ft en.toInt at2_27.toInt)) ∨ 0 ≤ fl2_28.toInt ∧ zAtom ft en.toInt 2 (zbg ft en.toInt at2_23.toInt) (.bad fl2_28.toInt)) := hq30
            have hP : va_P g.1 vwCl (List.flatten [bMo g o a th hi ac tp (-1) en at2_27 fl2_28 4 iD iO tU fm fk fa fc ft ff fb fi]) H := hP
            have hD : va_D A (List.flatten [bMo g o a th hi ac tp (-1) en at2_27 fl2_28 4 iD iO tU fm fk fa fc ft ff fb fi]) := hD
            refine W.widen (k := 0) (n := 0) (Nat.le_of_ble_eq_true rfl) (Nat.le_of_ble_eq_true rfl) ?_
            refine W.eq (g2 := F0 m 26 ls [.int q_29]) rfl ?_
            obtain ⟨hq30_0, hq30_1, hq30_2, hq30_3⟩ := hq30
            rcases hq30_3 with ⟨rfl, hq30_k⟩ | ⟨hq30_k, hq30_km⟩
            · skip
              refine lv_istore_n (lv' := [(2, .int q_29), (0, .ref o), (1, .int x_5)]) hx hb dX12_every_26 rfl hl (by decide) rfl (fun ls hl => ?_)
              refine lv_iload_n hx hb dX12_every_27 rfl (lv_at hl 2 rfl) ?_
              refine lv_if_eq (tgt := 39) hx hb dX12_every_28 (by decide) (fun cb9 => ?_) (fun cb9 => ?_)
              · skip
                have c31 : x_5.toInt = 0 := zeq cb9 rfl (by decide)
                have n32 : x_5.toInt ≤ 0 := Int.le_trans (Int.le_of_eq c31) (Int.le_refl _)
                refine lv_iconst (v := 0) hx hb dX12_every_39 (by decide) ?_
                refine lv_istore_n (lv' := [(1, .int 0), (2, .int q_29), (0, .ref o)]) hx hb dX12_every_40 rfl hl (by decide) rfl (fun ls hl => ?_)
                refine lv_goto (tgt := 5) hx hb dX12_every_41 (by decide) ?_
                have hl := lv_sub (l' := [(0, .ref o), (1, .int 0), (2, .int q_29)]) hl [2, 0, 1] rfl
                have hL0 : (0 : Int32).toInt = 0 := by decide
                have hLn1 : ((-1) : Int32).toInt = (-1) := by decide
                have hP : va_P g.1 vwCl (List.flatten [bMo g o a th hi ac tp (-1) en at2_27 (-1) 4 iD iO tU fm fk fa fc ft ff fb fi]) H := hP
                have hD : va_D A (List.flatten [bMo g o a th hi ac tp (-1) en at2_27 (-1) 4 iD iO tU fm fk fa fc ft ff fb fi]) := hD
                exact ih5_16 0 at2_27 (-1) (by decide) (by first | omega | assumption | decide) (by decide) (by first | omega | assumption | decide) (by first | omega | assumption | decide) (by first | omega | assumption | decide) (Or.inl ⟨by decide, fun r9 h9 => zCo_w w21 (Or.inl hq25_k) hq25_km.1 (zCo_t hq30_k h9)⟩) H _ ls (by omega)  hP hD hS (lv_sub hl [0, 1] rfl)
              · skip
                have c33 : ¬ x_5.toInt = 0 := zne cb9 rfl (by decide)
                have n34 : 1 ≤ x_5.toInt := zN1 c33 i8.1 (by decide)
                refine lv_iload_n hx hb dX12_every_31 rfl (lv_at hl 0 rfl) ?_
                refine lv_if_eq (tgt := 39) hx hb dX12_every_32 (by decide) (fun cb9 => ?_) (fun cb9 => ?_)
                · skip
                  have c35 : q_29.toInt = 0 := zeq cb9 rfl (by decide)
                  have n36 : q_29.toInt ≤ 0 := Int.le_trans (Int.le_of_eq c35) (Int.le_refl _)
                  refine lv_iconst (v := 0) hx hb dX12_every_39 (by decide) ?_
                  refine lv_istore_n (lv' := [(1, .int 0), (2, .int q_29), (0, .ref o)]) hx hb dX12_every_40 rfl hl (by decide) rfl (fun ls hl => ?_)
                  refine lv_goto (tgt := 5) hx hb dX12_every_41 (by decide) ?_
                  have hl := lv_sub (l' := [(0, .ref o), (1, .int 0), (2, .int q_29)]) hl [2, 0, 1] rfl
                  have hL0 : (0 : Int32).toInt = 0 := by decide
                  have hLn1 : ((-1) : Int32).toInt = (-1) := by decide
                  have hP : va_P g.1 vwCl (List.flatten [bMo g o a th hi ac tp (-1) en at2_27 (-1) 4 iD iO tU fm fk fa fc ft ff fb fi]) H := hP
                  have hD : va_D A (List.flatten [bMo g o a th hi ac tp (-1) en at2_27 (-1) 4 iD iO tU fm fk fa fc ft ff fb fi]) := hD
                  exact ih5_16 0 at2_27 (-1) (by decide) (by first | omega | assumption | decide) (by decide) (by first | omega | assumption | decide) (by first | omega | assumption | decide) (by first | omega | assumption | decide) (Or.inl ⟨by decide, fun r9 h9 => zCo_w w21 (Or.inl hq25_k) hq25_km.1 (zCo_t hq30_k h9)⟩) H _ ls (by omega)  hP hD hS (lv_sub hl [0, 1] rfl)
                · skip
                  have c37 : ¬ q_29.toInt = 0 := zne cb9 rfl (by decide)
                  have n38 : 1 ≤ q_29.toInt := zN1 c37 hq30_2.1 (by decide)
                  refine lv_iconst (v := 1) hx hb dX12_every_35 (by decide) ?_
                  refine lv_goto (tgt := 40) hx hb dX12_every_36 (by decide) ?_
                  refine lv_istore_n (lv' := [(1, .int 1), (2, .int q_29), (0, .ref o)]) hx hb dX12_every_40 rfl hl (by decide) rfl (fun ls hl => ?_)
                  refine lv_goto (tgt := 5) hx hb dX12_every_41 (by decide) ?_
                  have hl := lv_sub (l' := [(0, .ref o), (1, .int 1), (2, .int q_29)]) hl [2, 0, 1] rfl
                  have hL1 : (1 : Int32).toInt = 1 := by decide
                  have hLn1 : ((-1) : Int32).toInt = (-1) := by decide
                  have hP : va_P g.1 vwCl (List.flatten [bMo g o a th hi ac tp (-1) en at2_27 (-1) 4 iD iO tU fm fk fa fc ft ff fb fi]) H := hP
                  have hD : va_D A (List.flatten [bMo g o a th hi ac tp (-1) en at2_27 (-1) 4 iD iO tU fm fk fa fc ft ff fb fi]) := hD
                  exact ih5_16 1 at2_27 (-1) (by decide) (by first | omega | assumption | decide) (by decide) (by first | omega | assumption | decide) (by first | omega | assumption | decide) (by first | omega | assumption | decide) (Or.inl ⟨by decide, fun r9 h9 => zCo_w w21 (Or.inl hq25_k) hq25_km.1 (zCo_t hq30_k h9)⟩) H _ ls (by omega)  hP hD hS (lv_sub hl [0, 1] rfl)
            · skip
              refine lv_istore_n (lv' := [(2, .int q_29), (0, .ref o), (1, .int x_5)]) hx hb dX12_every_26 rfl hl (by decide) rfl (fun ls hl => ?_)
              refine lv_iload_n hx hb dX12_every_27 rfl (lv_at hl 2 rfl) ?_
              refine lv_if_eq (tgt := 39) hx hb dX12_every_28 (by decide) (fun cb9 => ?_) (fun cb9 => ?_)
              · skip
                have c39 : x_5.toInt = 0 := zeq cb9 rfl (by decide)
                have n40 : x_5.toInt ≤ 0 := Int.le_trans (Int.le_of_eq c39) (Int.le_refl _)
                refine lv_iconst (v := 0) hx hb dX12_every_39 (by decide) ?_
                refine lv_istore_n (lv' := [(1, .int 0), (2, .int q_29), (0, .ref o)]) hx hb dX12_every_40 rfl hl (by decide) rfl (fun ls hl => ?_)
                refine lv_goto (tgt := 5) hx hb dX12_every_41 (by decide) ?_
                have hl := lv_sub (l' := [(0, .ref o), (1, .int 0), (2, .int q_29)]) hl [2, 0, 1] rfl
                have hL0 : (0 : Int32).toInt = 0 := by decide
                have hP : va_P g.1 vwCl (List.flatten [bMo g o a th hi ac tp (-1) en at2_27 fl2_28 4 iD iO tU fm fk fa fc ft ff fb fi]) H := hP
                have hD : va_D A (List.flatten [bMo g o a th hi ac tp (-1) en at2_27 fl2_28 4 iD iO tU fm fk fa fc ft ff fb fi]) := hD
                exact ih5_16 0 at2_27 fl2_28 (by decide) (by first | omega | assumption | decide) (Int.le_trans (by decide) hq30_k) (by first | omega | assumption | decide) (by first | omega | assumption | decide) (by first | omega | assumption | decide) (Or.inr ⟨hq30_k, zCo_w w21 (Or.inl hq25_k) hq25_km.1 (.wrong hq30_km)⟩) H _ ls (by omega)  hP hD hS (lv_sub hl [0, 1] rfl)
              · skip
                have c41 : ¬ x_5.toInt = 0 := zne cb9 rfl (by decide)
                have n42 : 1 ≤ x_5.toInt := zN1 c41 i8.1 (by decide)
                refine lv_iload_n hx hb dX12_every_31 rfl (lv_at hl 0 rfl) ?_
                refine lv_if_eq (tgt := 39) hx hb dX12_every_32 (by decide) (fun cb9 => ?_) (fun cb9 => ?_)
                · skip
                  have c43 : q_29.toInt = 0 := zeq cb9 rfl (by decide)
                  have n44 : q_29.toInt ≤ 0 := Int.le_trans (Int.le_of_eq c43) (Int.le_refl _)
                  refine lv_iconst (v := 0) hx hb dX12_every_39 (by decide) ?_
                  refine lv_istore_n (lv' := [(1, .int 0), (2, .int q_29), (0, .ref o)]) hx hb dX12_every_40 rfl hl (by decide) rfl (fun ls hl => ?_)
                  refine lv_goto (tgt := 5) hx hb dX12_every_41 (by decide) ?_
                  have hl := lv_sub (l' := [(0, .ref o), (1, .int 0), (2, .int q_29)]) hl [2, 0, 1] rfl
                  have hL0 : (0 : Int32).toInt = 0 := by decide
                  have hP : va_P g.1 vwCl (List.flatten [bMo g o a th hi ac tp (-1) en at2_27 fl2_28 4 iD iO tU fm fk fa fc ft ff fb fi]) H := hP
                  have hD : va_D A (List.flatten [bMo g o a th hi ac tp (-1) en at2_27 fl2_28 4 iD iO tU fm fk fa fc ft ff fb fi]) := hD
                  exact ih5_16 0 at2_27 fl2_28 (by decide) (by first | omega | assumption | decide) (Int.le_trans (by decide) hq30_k) (by first | omega | assumption | decide) (by first | omega | assumption | decide) (by first | omega | assumption | decide) (Or.inr ⟨hq30_k, zCo_w w21 (Or.inl hq25_k) hq25_km.1 (.wrong hq30_km)⟩) H _ ls (by omega)  hP hD hS (lv_sub hl [0, 1] rfl)
                · skip
                  have c45 : ¬ q_29.toInt = 0 := zne cb9 rfl (by decide)
                  have n46 : 1 ≤ q_29.toInt := zN1 c45 hq30_2.1 (by decide)
                  refine lv_iconst (v := 1) hx hb dX12_every_35 (by decide) ?_
                  refine lv_goto (tgt := 40) hx hb dX12_every_36 (by decide) ?_
                  refine lv_istore_n (lv' := [(1, .int 1), (2, .int q_29), (0, .ref o)]) hx hb dX12_every_40 rfl hl (by decide) rfl (fun ls hl => ?_)
                  refine lv_goto (tgt := 5) hx hb dX12_every_41 (by decide) ?_
                  have hl := lv_sub (l' := [(0, .ref o), (1, .int 1), (2, .int q_29)]) hl [2, 0, 1] rfl
                  have hL1 : (1 : Int32).toInt = 1 := by decide
                  have hP : va_P g.1 vwCl (List.flatten [bMo g o a th hi ac tp (-1) en at2_27 fl2_28 4 iD iO tU fm fk fa fc ft ff fb fi]) H := hP
                  have hD : va_D A (List.flatten [bMo g o a th hi ac tp (-1) en at2_27 fl2_28 4 iD iO tU fm fk fa fc ft ff fb fi]) := hD
                  exact ih5_16 1 at2_27 fl2_28 (by decide) (by first | omega | assumption | decide) (Int.le_trans (by decide) hq30_k) (by first | omega | assumption | decide) (by first | omega | assumption | decide) (by first | omega | assumption | decide) (Or.inr ⟨hq30_k, zCo_w w21 (Or.inl hq25_k) hq25_km.1 (.wrong hq30_km)⟩) H _ ls (by omega)  hP hD hS (lv_sub hl [0, 1] rfl)
          · skip
            refine lv_if_eq (tgt := 44) hx hb dX12_every_19 (by decide) (fun _ => ?_) (fun c47 => absurd (by decide) c47)
            refine lv_iload_n hx hb dX12_every_44 rfl (lv_at hl 1 rfl) ?_
            have hP : va_P g.1 vwCl (List.flatten [bMo g o a th hi ac tp (-1) en at2_23 (-1) 4 iD iO tU fm fk fa fc ft ff fb fi]) H := hP
            have hD : va_D A (List.flatten [bMo g o a th hi ac tp (-1) en at2_23 (-1) 4 iD iO tU fm fk fa fc ft ff fb fi]) := hD
            exact mret_z hx hb hr hlocks hS (Nat.le_of_ble_eq_true rfl) (Nat.le_of_ble_eq_true rfl) dX12_every_45 (at2_23, -1, x_5) rfl (by first | assumption | exact zb01 (by omega)) (show (0 ≤ at2_23.toInt ∧ at2_23.toInt ≤ en.toInt + 7 - 4) ∧ (tA.toInt ≤ at2_23.toInt) ∧ (0 ≤ x_5.toInt ∧ x_5.toInt ≤ 1) ∧ ((-1) = (-1) ∧ (¬ zisW ft en.toInt (zbg ft en.toInt at2_23.toInt) zwAnd ∧ ∀ r9, zCoT ft en.toInt (zAtom ft en.toInt 2) (zbg ft en.toInt at2_23.toInt) r9 → zCond ft en.toInt (zAtom ft en.toInt 2) (zbg ft en.toInt tA.toInt) r9) ∨ 0 ≤ ((-1) : Int32).toInt ∧ zCond ft en.toInt (zAtom ft en.toInt 2) (zbg ft en.toInt tA.toInt) (.bad ((-1) : Int32).toInt)) from ⟨(by first | assumption | omega | exact Or.inl (by decide) | exact Or.inr (by omega)), (by first | assumption | omega | exact Or.inl (by decide) | exact Or.inr (by omega)), (by first | assumption | decide | omega), (Or.inl ⟨rfl, zEv_end w21 hq25_k hq25_km⟩)⟩) hP hD
    have hLn1 : ((-1) : Int32).toInt = (-1) := by decide
    have hP : va_P g.1 vwCl (List.flatten [bMo g o a th hi ac tp (-1) en at2_1 (-1) 4 iD iO tU fm fk fa fc ft ff fb fi]) H := hP
    have hD : va_D A (List.flatten [bMo g o a th hi ac tp (-1) en at2_1 (-1) 4 iD iO tU fm fk fa fc ft ff fb fi]) := hD
    exact LP5_15 _ q_3 at2_1 (-1) ⟨hq4_2.1, hq4_2.2⟩ (by first | omega | assumption | decide) (by decide) hq4_1 (by first | omega | assumption | decide) (by first | omega | assumption | decide) (Or.inl ⟨by decide, fun r9 h9 => zCo_t hq4_k h9⟩) H _ ls (Nat.lt_succ_self _)  hP hD hS (lv_sub hl [0, 1] rfl)
  · skip
    refine lv_istore_n (lv' := [(1, .int q_3), (0, .ref o)]) hx hb dX12_every_4 rfl hl (by decide) rfl (fun ls hl => ?_)
    have hl := lv_sub (l' := [(0, .ref o), (1, .int q_3)]) hl [1, 0] rfl
    have LP5_58 : ∀ (kf : Nat) (x_48 : Int32) (x_49 : Int32) (x_50 : Int32), (0 ≤ x_48.toInt ∧ x_48.toInt ≤ 1) → (0 ≤ x_49.toInt ∧ x_49.toInt ≤ 407) → ((-1) ≤ x_50.toInt) → (tA.toInt ≤ x_49.toInt) → (x_49.toInt ≤ en.toInt + 7 - 4) → (-1 ≤ x_50.toInt) → ((x_50.toInt = -1 ∧ ∀ r9, zCoT ft en.toInt (zAtom ft en.toInt 2) (zbg ft en.toInt x_49.toInt) r9 → zCond ft en.toInt (zAtom ft en.toInt 2) (zbg ft en.toInt tA.toInt) r9) ∨ (0 ≤ x_50.toInt ∧ zCond ft en.toInt (zAtom ft en.toInt 2) (zbg ft en.toInt tA.toInt) (.bad x_50.toInt))) → ∀ (H : Heap) (locs : List Loc) (ls : Array Slot), ((en.toInt + 8 - x_49.toInt).toNat) < kf → va_P g.1 vwCl (List.flatten [bMo g o a th hi ac tp (-1) en x_49 x_50 4 iD iO tU fm fk fa fc ft ff fb fi]) H → va_D A (List.flatten [bMo g o a th hi ac tp (-1) en x_49 x_50 4 iD iO tU fm fk fa fc ft ff fb fi]) → va_S A s.heap H locs → lv_has ls 3 [(0, .ref o), (1, .int x_48)] → W p l e ({ frames := 15, cells := 0, slots := 0, locals := 330 } : Room) s m args below meth c H locs (0) (0) (zF g (fun u : Int32 × Int32 × Int32 => (fun (at2 : Int32) (fl2 : Int32) (q : Int32) => some (.int q)) (u.1) (u.2.1) (u.2.2)) (fun u : Int32 × Int32 × Int32 => (fun (at2 : Int32) (fl2 : Int32) (q : Int32) => (0 ≤ at2.toInt ∧ at2.toInt ≤ en.toInt + 7 - 4) ∧ (tA.toInt ≤ at2.toInt) ∧ (0 ≤ q.toInt ∧ q.toInt ≤ 1) ∧ ((-1) = fl2 ∧ (¬ zisW ft en.toInt (zbg ft en.toInt at2.toInt) zwAnd ∧ ∀ r9, zCoT ft en.toInt (zAtom ft en.toInt 2) (zbg ft en.toInt at2.toInt) r9 → zCond ft en.toInt (zAtom ft en.toInt 2) (zbg ft en.toInt tA.toInt) r9) ∨ 0 ≤ fl2.toInt ∧ zCond ft en.toInt (zAtom ft en.toInt 2) (zbg ft en.toInt tA.toInt) (.bad fl2.toInt))) (u.1) (u.2.1) (u.2.2)) (fun u : Int32 × Int32 × Int32 => (fun (at2 : Int32) (fl2 : Int32) (q : Int32) => [bMo g o a th hi ac tp (-1) en at2 fl2 4 iD iO tU fm fk fa fc ft ff fb fi]) (u.1) (u.2.1) (u.2.2)) ({ frames := 15, cells := 0, slots := 0, locals := 330 } : Room) below args s A) (F0 m 5 ls []) := by
      intro kf
      induction kf with
      | zero => intro x_48 x_49 x_50 i51 i52 i53 i54 i55 i56 i57 H locs ls hk; exact absurd hk (Nat.not_lt_zero _)
      | succ kf ih5_59 =>
        intro x_48 x_49 x_50 i51 i52 i53 i54 i55 i56 i57 H locs ls hk5_59 hP hD hS hl
        refine lv_aload_n hx hb dX12_every_5 rfl (lv_at hl 0 rfl) ?_
        refine va_get (D := g.1) (ci := 10) (v := .int x_50) (C := RX12) (T := TX12) (N := 20) hx hb hts izRX12 hown hK hP 0 rfl rfl 12 (by decide) (hts _ k820) (fun _ h9 => h9) rfl dX12_every_6 ?_
        refine lv_iconst (v := (-1)) hx hb dX12_every_9 (by decide) ?_
        refine lv_icmp_ne (tgt := 44) hx hb dX12_every_10 (by decide) (fun cb9 => ?_) (fun cb9 => ?_)
        · skip
          have c60 : ¬ x_50.toInt = (-1) := zne cb9 rfl (by decide)
          have n61 : 0 ≤ x_50.toInt := zN1 c60 i53 (by decide)
          refine lv_iload_n hx hb dX12_every_44 rfl (lv_at hl 1 rfl) ?_
          have hP : va_P g.1 vwCl (List.flatten [bMo g o a th hi ac tp (-1) en x_49 x_50 4 iD iO tU fm fk fa fc ft ff fb fi]) H := hP
          have hD : va_D A (List.flatten [bMo g o a th hi ac tp (-1) en x_49 x_50 4 iD iO tU fm fk fa fc ft ff fb fi]) := hD
          exact mret_z hx hb hr hlocks hS (Nat.le_of_ble_eq_true rfl) (Nat.le_of_ble_eq_true rfl) dX12_every_45 (x_49, x_50, x_48) rfl (by first | assumption | exact zb01 (by omega)) (show (0 ≤ x_49.toInt ∧ x_49.toInt ≤ en.toInt + 7 - 4) ∧ (tA.toInt ≤ x_49.toInt) ∧ (0 ≤ x_48.toInt ∧ x_48.toInt ≤ 1) ∧ ((-1) = x_50 ∧ (¬ zisW ft en.toInt (zbg ft en.toInt x_49.toInt) zwAnd ∧ ∀ r9, zCoT ft en.toInt (zAtom ft en.toInt 2) (zbg ft en.toInt x_49.toInt) r9 → zCond ft en.toInt (zAtom ft en.toInt 2) (zbg ft en.toInt tA.toInt) r9) ∨ 0 ≤ x_50.toInt ∧ zCond ft en.toInt (zAtom ft en.toInt 2) (zbg ft en.toInt tA.toInt) (.bad x_50.toInt)) from ⟨(by first | assumption | omega | exact Or.inl (by decide) | exact Or.inr (by omega)), (by first | assumption | omega | exact Or.inl (by decide) | exact Or.inr (by omega)), (by first | assumption | decide | omega), (Or.inr (i57.resolve_left (fun h9 => by have := h9.1; omega)))⟩) hP hD
        · skip
          have c62 : x_50.toInt = (-1) := zeq cb9 rfl (by decide)
          have n63 : x_50.toInt ≤ (-1) := Int.le_trans (Int.le_of_eq c62) (Int.le_refl _)
          have w64 : ∀ r9, zCoT ft en.toInt (zAtom ft en.toInt 2) (zbg ft en.toInt x_49.toInt) r9 → zCond ft en.toInt (zAtom ft en.toInt 2) (zbg ft en.toInt tA.toInt) r9 := (i57.resolve_right (fun h9 => by have := h9.1; omega)).2
          have w65 : x_50 = -1 := (zm1 (by omega)).symm
          subst w65
          refine lv_aload_n hx hb dX12_every_13 rfl (lv_at hl 0 rfl) ?_
          refine va_ldcS (q := g.2 100) hx hb hown (zra45 hT.2.1) dX12_every_14 ?_
          have hL4 : (4 : Int32).toInt = 4 := by decide
          refine mcallV' (g := g) (q0 := 0) (ci := 10) (As := [.ref (g.2 100)]) (rest := []) St hK hT hA hP hD hS hl.1 [0] [] rfl rfl rfl (m_hasF l g o a th hi ac tp en x_49 (-1) 4 iD iO tU fm fk fa fc ft ff fb fi (g.2 100) 45 zqa45 hen (by first | assumption | omega | decide | exact Or.inl (by decide) | exact Or.inr (by decide)) (by decide) rfl zla45 zna45 (zlitB zla45)) (cwV 1 hts (zgL (zl4 k899 k900 k901 k839) k889) rfl rfl rfl (by decide +kernel) ⟨Nat.le_of_ble_eq_true rfl, Nat.le_of_ble_eq_true rfl⟩) rfl rfl rfl rfl (Nat.le_of_ble_eq_true rfl) dX12_every_16 ⟨(Nat.le_of_ble_eq_true rfl), (Nat.le_of_ble_eq_true rfl)⟩ (fun u_ H locs hq68 hP hD hS => ?_)
          obtain ⟨at2_66, r_67⟩ := u_
          replace hq68 : (0 ≤ at2_66.toInt ∧ at2_66.toInt ≤ en.toInt + 7 - (4 : Int32).toInt) ∧ (x_49.toInt ≤ at2_66.toInt) ∧ (r_67 = 1 ∧ zisW ft en.toInt (zbg ft en.toInt x_49.toInt) zqa45.2.2.2 ∧ at2_66.toInt = znx ft en.toInt (zbg ft en.toInt x_49.toInt) ∧ x_49.toInt < at2_66.toInt ∧ at2_66.toInt ≤ en.toInt ∨ r_67 = 0 ∧ ¬ zisW ft en.toInt (zbg ft en.toInt x_49.toInt) zqa45.2.2.2 ∧ at2_66.toInt = zbg ft en.toInt x_49.toInt) := hq68
          have hP : va_P g.1 vwCl (List.flatten [bMo g o a th hi ac tp (-1) en at2_66 (-1) 4 iD iO tU fm fk fa fc ft ff fb fi]) H := hP
          have hD : va_D A (List.flatten [bMo g o a th hi ac tp (-1) en at2_66 (-1) 4 iD iO tU fm fk fa fc ft ff fb fi]) := hD
          refine W.widen (k := 0) (n := 0) (Nat.le_of_ble_eq_true rfl) (Nat.le_of_ble_eq_true rfl) ?_
          refine W.eq (g2 := F0 m 19 ls [.int r_67]) rfl ?_
          obtain ⟨hq68_0, hq68_1, hq68_2⟩ := hq68
          rcases hq68_2 with ⟨rfl, hq68_k, hq68_km⟩ | ⟨rfl, hq68_k, hq68_km⟩
          · skip
            refine lv_if_eq (tgt := 44) hx hb dX12_every_19 (by decide) (fun c69 => absurd c69 (by decide)) (fun _ => ?_)
            refine lv_aload_n hx hb dX12_every_22 rfl (lv_at hl 0 rfl) ?_
            refine mcallV' (g := g) (q0 := 0) (ci := 10) (As := []) (rest := []) St hK hT hA hP hD hS hl.1 [0] [] rfl rfl rfl (m_atom4F l g o a th hi ac tp en at2_66 iD iO tU fm fk fa fc ft ff fb fi hiD hiO hen (by first | assumption | omega | decide | exact Or.inl (by decide) | exact Or.inr (by decide)) hde) (cwV 0 hts (zgL (zl4 k951 k952 k953 k839) k962) rfl rfl rfl (by decide +kernel) ⟨Nat.le_of_ble_eq_true rfl, Nat.le_of_ble_eq_true rfl⟩) rfl rfl rfl rfl (Nat.le_of_ble_eq_true rfl) dX12_every_23 ⟨(Nat.le_of_ble_eq_true rfl), (Nat.le_of_ble_eq_true rfl)⟩ (fun u_ H locs hq73 hP hD hS => ?_)
            obtain ⟨at2_70, fl2_71, q_72⟩ := u_
            replace hq73 : (0 ≤ at2_70.toInt ∧ at2_70.toInt ≤ en.toInt + 7 - 4) ∧ (at2_66.toInt ≤ at2_70.toInt) ∧ (0 ≤ q_72.toInt ∧ q_72.toInt ≤ 1) ∧ ((-1) = fl2_71 ∧ zAtom ft en.toInt 2 (zbg ft en.toInt at2_66.toInt) (.ok (zbg ft en.toInt at2_70.toInt)) ∨ 0 ≤ fl2_71.toInt ∧ zAtom ft en.toInt 2 (zbg ft en.toInt at2_66.toInt) (.bad fl2_71.toInt)) := hq73
            have hP : va_P g.1 vwCl (List.flatten [bMo g o a th hi ac tp (-1) en at2_70 fl2_71 4 iD iO tU fm fk fa fc ft ff fb fi]) H := hP
            have hD : va_D A (List.flatten [bMo g o a th hi ac tp (-1) en at2_70 fl2_71 4 iD iO tU fm fk fa fc ft ff fb fi]) := hD
            refine W.widen (k := 0) (n := 0) (Nat.le_of_ble_eq_true rfl) (Nat.le_of_ble_eq_true rfl) ?_
            refine W.eq (g2 := F0 m 26 ls [.int q_72]) rfl ?_
            obtain ⟨hq73_0, hq73_1, hq73_2, hq73_3⟩ := hq73
            rcases hq73_3 with ⟨rfl, hq73_k⟩ | ⟨hq73_k, hq73_km⟩
            · skip
              refine lv_istore_n (lv' := [(2, .int q_72), (0, .ref o), (1, .int x_48)]) hx hb dX12_every_26 rfl hl (by decide) rfl (fun ls hl => ?_)
              refine lv_iload_n hx hb dX12_every_27 rfl (lv_at hl 2 rfl) ?_
              refine lv_if_eq (tgt := 39) hx hb dX12_every_28 (by decide) (fun cb9 => ?_) (fun cb9 => ?_)
              · skip
                have c74 : x_48.toInt = 0 := zeq cb9 rfl (by decide)
                have n75 : x_48.toInt ≤ 0 := Int.le_trans (Int.le_of_eq c74) (Int.le_refl _)
                refine lv_iconst (v := 0) hx hb dX12_every_39 (by decide) ?_
                refine lv_istore_n (lv' := [(1, .int 0), (2, .int q_72), (0, .ref o)]) hx hb dX12_every_40 rfl hl (by decide) rfl (fun ls hl => ?_)
                refine lv_goto (tgt := 5) hx hb dX12_every_41 (by decide) ?_
                have hl := lv_sub (l' := [(0, .ref o), (1, .int 0), (2, .int q_72)]) hl [2, 0, 1] rfl
                have hL0 : (0 : Int32).toInt = 0 := by decide
                have hLn1 : ((-1) : Int32).toInt = (-1) := by decide
                have hP : va_P g.1 vwCl (List.flatten [bMo g o a th hi ac tp (-1) en at2_70 (-1) 4 iD iO tU fm fk fa fc ft ff fb fi]) H := hP
                have hD : va_D A (List.flatten [bMo g o a th hi ac tp (-1) en at2_70 (-1) 4 iD iO tU fm fk fa fc ft ff fb fi]) := hD
                exact ih5_59 0 at2_70 (-1) (by decide) (by first | omega | assumption | decide) (by decide) (by first | omega | assumption | decide) (by first | omega | assumption | decide) (by first | omega | assumption | decide) (Or.inl ⟨by decide, fun r9 h9 => zCo_w w64 (Or.inl hq68_k) hq68_km.1 (zCo_t hq73_k h9)⟩) H _ ls (by omega)  hP hD hS (lv_sub hl [0, 1] rfl)
              · skip
                have c76 : ¬ x_48.toInt = 0 := zne cb9 rfl (by decide)
                have n77 : 1 ≤ x_48.toInt := zN1 c76 i51.1 (by decide)
                refine lv_iload_n hx hb dX12_every_31 rfl (lv_at hl 0 rfl) ?_
                refine lv_if_eq (tgt := 39) hx hb dX12_every_32 (by decide) (fun cb9 => ?_) (fun cb9 => ?_)
                · skip
                  have c78 : q_72.toInt = 0 := zeq cb9 rfl (by decide)
                  have n79 : q_72.toInt ≤ 0 := Int.le_trans (Int.le_of_eq c78) (Int.le_refl _)
                  refine lv_iconst (v := 0) hx hb dX12_every_39 (by decide) ?_
                  refine lv_istore_n (lv' := [(1, .int 0), (2, .int q_72), (0, .ref o)]) hx hb dX12_every_40 rfl hl (by decide) rfl (fun ls hl => ?_)
                  refine lv_goto (tgt := 5) hx hb dX12_every_41 (by decide) ?_
                  have hl := lv_sub (l' := [(0, .ref o), (1, .int 0), (2, .int q_72)]) hl [2, 0, 1] rfl
                  have hL0 : (0 : Int32).toInt = 0 := by decide
                  have hLn1 : ((-1) : Int32).toInt = (-1) := by decide
                  have hP : va_P g.1 vwCl (List.flatten [bMo g o a th hi ac tp (-1) en at2_70 (-1) 4 iD iO tU fm fk fa fc ft ff fb fi]) H := hP
                  have hD : va_D A (List.flatten [bMo g o a th hi ac tp (-1) en at2_70 (-1) 4 iD iO tU fm fk fa fc ft ff fb fi]) := hD
                  exact ih5_59 0 at2_70 (-1) (by decide) (by first | omega | assumption | decide) (by decide) (by first | omega | assumption | decide) (by first | omega | assumption | decide) (by first | omega | assumption | decide) (Or.inl ⟨by decide, fun r9 h9 => zCo_w w64 (Or.inl hq68_k) hq68_km.1 (zCo_t hq73_k h9)⟩) H _ ls (by omega)  hP hD hS (lv_sub hl [0, 1] rfl)
                · skip
                  have c80 : ¬ q_72.toInt = 0 := zne cb9 rfl (by decide)
                  have n81 : 1 ≤ q_72.toInt := zN1 c80 hq73_2.1 (by decide)
                  refine lv_iconst (v := 1) hx hb dX12_every_35 (by decide) ?_
                  refine lv_goto (tgt := 40) hx hb dX12_every_36 (by decide) ?_
                  refine lv_istore_n (lv' := [(1, .int 1), (2, .int q_72), (0, .ref o)]) hx hb dX12_every_40 rfl hl (by decide) rfl (fun ls hl => ?_)
                  refine lv_goto (tgt := 5) hx hb dX12_every_41 (by decide) ?_
                  have hl := lv_sub (l' := [(0, .ref o), (1, .int 1), (2, .int q_72)]) hl [2, 0, 1] rfl
                  have hL1 : (1 : Int32).toInt = 1 := by decide
                  have hLn1 : ((-1) : Int32).toInt = (-1) := by decide
                  have hP : va_P g.1 vwCl (List.flatten [bMo g o a th hi ac tp (-1) en at2_70 (-1) 4 iD iO tU fm fk fa fc ft ff fb fi]) H := hP
                  have hD : va_D A (List.flatten [bMo g o a th hi ac tp (-1) en at2_70 (-1) 4 iD iO tU fm fk fa fc ft ff fb fi]) := hD
                  exact ih5_59 1 at2_70 (-1) (by decide) (by first | omega | assumption | decide) (by decide) (by first | omega | assumption | decide) (by first | omega | assumption | decide) (by first | omega | assumption | decide) (Or.inl ⟨by decide, fun r9 h9 => zCo_w w64 (Or.inl hq68_k) hq68_km.1 (zCo_t hq73_k h9)⟩) H _ ls (by omega)  hP hD hS (lv_sub hl [0, 1] rfl)
            · skip
              refine lv_istore_n (lv' := [(2, .int q_72), (0, .ref o), (1, .int x_48)]) hx hb dX12_every_26 rfl hl (by decide) rfl (fun ls hl => ?_)
              refine lv_iload_n hx hb dX12_every_27 rfl (lv_at hl 2 rfl) ?_
              refine lv_if_eq (tgt := 39) hx hb dX12_every_28 (by decide) (fun cb9 => ?_) (fun cb9 => ?_)
              · skip
                have c82 : x_48.toInt = 0 := zeq cb9 rfl (by decide)
                have n83 : x_48.toInt ≤ 0 := Int.le_trans (Int.le_of_eq c82) (Int.le_refl _)
                refine lv_iconst (v := 0) hx hb dX12_every_39 (by decide) ?_
                refine lv_istore_n (lv' := [(1, .int 0), (2, .int q_72), (0, .ref o)]) hx hb dX12_every_40 rfl hl (by decide) rfl (fun ls hl => ?_)
                refine lv_goto (tgt := 5) hx hb dX12_every_41 (by decide) ?_
                have hl := lv_sub (l' := [(0, .ref o), (1, .int 0), (2, .int q_72)]) hl [2, 0, 1] rfl
                have hL0 : (0 : Int32).toInt = 0 := by decide
                have hP : va_P g.1 vwCl (List.flatten [bMo g o a th hi ac tp (-1) en at2_70 fl2_71 4 iD iO tU fm fk fa fc ft ff fb fi]) H := hP
                have hD : va_D A (List.flatten [bMo g o a th hi ac tp (-1) en at2_70 fl2_71 4 iD iO tU fm fk fa fc ft ff fb fi]) := hD
                exact ih5_59 0 at2_70 fl2_71 (by decide) (by first | omega | assumption | decide) (Int.le_trans (by decide) hq73_k) (by first | omega | assumption | decide) (by first | omega | assumption | decide) (by first | omega | assumption | decide) (Or.inr ⟨hq73_k, zCo_w w64 (Or.inl hq68_k) hq68_km.1 (.wrong hq73_km)⟩) H _ ls (by omega)  hP hD hS (lv_sub hl [0, 1] rfl)
              · skip
                have c84 : ¬ x_48.toInt = 0 := zne cb9 rfl (by decide)
                have n85 : 1 ≤ x_48.toInt := zN1 c84 i51.1 (by decide)
                refine lv_iload_n hx hb dX12_every_31 rfl (lv_at hl 0 rfl) ?_
                refine lv_if_eq (tgt := 39) hx hb dX12_every_32 (by decide) (fun cb9 => ?_) (fun cb9 => ?_)
                · skip
                  have c86 : q_72.toInt = 0 := zeq cb9 rfl (by decide)
                  have n87 : q_72.toInt ≤ 0 := Int.le_trans (Int.le_of_eq c86) (Int.le_refl _)
                  refine lv_iconst (v := 0) hx hb dX12_every_39 (by decide) ?_
                  refine lv_istore_n (lv' := [(1, .int 0), (2, .int q_72), (0, .ref o)]) hx hb dX12_every_40 rfl hl (by decide) rfl (fun ls hl => ?_)
                  refine lv_goto (tgt := 5) hx hb dX12_every_41 (by decide) ?_
                  have hl := lv_sub (l' := [(0, .ref o), (1, .int 0), (2, .int q_72)]) hl [2, 0, 1] rfl
                  have hL0 : (0 : Int32).toInt = 0 := by decide
                  have hP : va_P g.1 vwCl (List.flatten [bMo g o a th hi ac tp (-1) en at2_70 fl2_71 4 iD iO tU fm fk fa fc ft ff fb fi]) H := hP
                  have hD : va_D A (List.flatten [bMo g o a th hi ac tp (-1) en at2_70 fl2_71 4 iD iO tU fm fk fa fc ft ff fb fi]) := hD
                  exact ih5_59 0 at2_70 fl2_71 (by decide) (by first | omega | assumption | decide) (Int.le_trans (by decide) hq73_k) (by first | omega | assumption | decide) (by first | omega | assumption | decide) (by first | omega | assumption | decide) (Or.inr ⟨hq73_k, zCo_w w64 (Or.inl hq68_k) hq68_km.1 (.wrong hq73_km)⟩) H _ ls (by omega)  hP hD hS (lv_sub hl [0, 1] rfl)
                · skip
                  have c88 : ¬ q_72.toInt = 0 := zne cb9 rfl (by decide)
                  have n89 : 1 ≤ q_72.toInt := zN1 c88 hq73_2.1 (by decide)
                  refine lv_iconst (v := 1) hx hb dX12_every_35 (by decide) ?_
                  refine lv_goto (tgt := 40) hx hb dX12_every_36 (by decide) ?_
                  refine lv_istore_n (lv' := [(1, .int 1), (2, .int q_72), (0, .ref o)]) hx hb dX12_every_40 rfl hl (by decide) rfl (fun ls hl => ?_)
                  refine lv_goto (tgt := 5) hx hb dX12_every_41 (by decide) ?_
                  have hl := lv_sub (l' := [(0, .ref o), (1, .int 1), (2, .int q_72)]) hl [2, 0, 1] rfl
                  have hL1 : (1 : Int32).toInt = 1 := by decide
                  have hP : va_P g.1 vwCl (List.flatten [bMo g o a th hi ac tp (-1) en at2_70 fl2_71 4 iD iO tU fm fk fa fc ft ff fb fi]) H := hP
                  have hD : va_D A (List.flatten [bMo g o a th hi ac tp (-1) en at2_70 fl2_71 4 iD iO tU fm fk fa fc ft ff fb fi]) := hD
                  exact ih5_59 1 at2_70 fl2_71 (by decide) (by first | omega | assumption | decide) (Int.le_trans (by decide) hq73_k) (by first | omega | assumption | decide) (by first | omega | assumption | decide) (by first | omega | assumption | decide) (Or.inr ⟨hq73_k, zCo_w w64 (Or.inl hq68_k) hq68_km.1 (.wrong hq73_km)⟩) H _ ls (by omega)  hP hD hS (lv_sub hl [0, 1] rfl)
          · skip
            refine lv_if_eq (tgt := 44) hx hb dX12_every_19 (by decide) (fun _ => ?_) (fun c90 => absurd (by decide) c90)
            refine lv_iload_n hx hb dX12_every_44 rfl (lv_at hl 1 rfl) ?_
            have hP : va_P g.1 vwCl (List.flatten [bMo g o a th hi ac tp (-1) en at2_66 (-1) 4 iD iO tU fm fk fa fc ft ff fb fi]) H := hP
            have hD : va_D A (List.flatten [bMo g o a th hi ac tp (-1) en at2_66 (-1) 4 iD iO tU fm fk fa fc ft ff fb fi]) := hD
            exact mret_z hx hb hr hlocks hS (Nat.le_of_ble_eq_true rfl) (Nat.le_of_ble_eq_true rfl) dX12_every_45 (at2_66, -1, x_48) rfl (by first | assumption | exact zb01 (by omega)) (show (0 ≤ at2_66.toInt ∧ at2_66.toInt ≤ en.toInt + 7 - 4) ∧ (tA.toInt ≤ at2_66.toInt) ∧ (0 ≤ x_48.toInt ∧ x_48.toInt ≤ 1) ∧ ((-1) = (-1) ∧ (¬ zisW ft en.toInt (zbg ft en.toInt at2_66.toInt) zwAnd ∧ ∀ r9, zCoT ft en.toInt (zAtom ft en.toInt 2) (zbg ft en.toInt at2_66.toInt) r9 → zCond ft en.toInt (zAtom ft en.toInt 2) (zbg ft en.toInt tA.toInt) r9) ∨ 0 ≤ ((-1) : Int32).toInt ∧ zCond ft en.toInt (zAtom ft en.toInt 2) (zbg ft en.toInt tA.toInt) (.bad ((-1) : Int32).toInt)) from ⟨(by first | assumption | omega | exact Or.inl (by decide) | exact Or.inr (by omega)), (by first | assumption | omega | exact Or.inl (by decide) | exact Or.inr (by omega)), (by first | assumption | decide | omega), (Or.inl ⟨rfl, zEv_end w64 hq68_k hq68_km⟩)⟩) hP hD
    have hP : va_P g.1 vwCl (List.flatten [bMo g o a th hi ac tp (-1) en at2_1 fl2_2 4 iD iO tU fm fk fa fc ft ff fb fi]) H := hP
    have hD : va_D A (List.flatten [bMo g o a th hi ac tp (-1) en at2_1 fl2_2 4 iD iO tU fm fk fa fc ft ff fb fi]) := hD
    exact LP5_58 _ q_3 at2_1 fl2_2 ⟨hq4_2.1, hq4_2.2⟩ (by first | omega | assumption | decide) (Int.le_trans (by decide) hq4_k) hq4_1 (by first | omega | assumption | decide) (by first | omega | assumption | decide) (Or.inr ⟨hq4_k, .wrong hq4_km⟩) H _ ls (Nat.lt_succ_self _)  hP hD hS (lv_sub hl [0, 1] rfl)
set_option maxRecDepth 100000 in
set_option maxHeartbeats 4000000 in
theorem m_some4F (l : Launch) (g : zG) (o : Nat) (a : Nat → Nat) (th : Int32) (hi : Int32) (ac : Int32) (tp : Int32) (en : Int32) (tA : Int32) (iD : Int32) (iO : Int32) (tU : Int32) (fm : Nat → Int32) (fk : Nat → Int32) (fa : Nat → Int32) (fc : Nat → Int32) (ft : Nat → Int32) (ff : Nat → Int32) (fb : Nat → Int32) (fi : Nat → Int32) (hiD : 0 ≤ iD.toInt ∧ iD.toInt ≤ 1) (hiO : 0 ≤ iO.toInt ∧ iO.toInt ≤ 1) (hen : 0 ≤ en.toInt ∧ en.toInt ≤ 400) (htA : 0 ≤ tA.toInt ∧ tA.toInt ≤ en.toInt + 7 - 4) (hde : 0 ≤ 4 ∧ 4 ≤ 6) : zM' g l yX12_some (Cond.code yX12_some cX12_some 3 (some .boolean) :: zB) ({ frames := 16, cells := 0, slots := 0, locals := 352 } : Room) [.ref o] [bMo g o a th hi ac tp (-1) en tA (-1) 4 iD iO tU fm fk fa fc ft ff fb fi] (fun u : Int32 × Int32 × Int32 => (fun (at2 : Int32) (fl2 : Int32) (q : Int32) => some (.int q)) (u.1) (u.2.1) (u.2.2)) (fun u : Int32 × Int32 × Int32 => (fun (at2 : Int32) (fl2 : Int32) (q : Int32) => (0 ≤ at2.toInt ∧ at2.toInt ≤ en.toInt + 7 - 4) ∧ (tA.toInt ≤ at2.toInt) ∧ (0 ≤ q.toInt ∧ q.toInt ≤ 1) ∧ ((-1) = fl2 ∧ zCond ft en.toInt (zAtom ft en.toInt 2) (zbg ft en.toInt tA.toInt) (.ok (zbg ft en.toInt at2.toInt)) ∨ 0 ≤ fl2.toInt ∧ zCond ft en.toInt (zAtom ft en.toInt 2) (zbg ft en.toInt tA.toInt) (.bad fl2.toInt))) (u.1) (u.2.1) (u.2.2)) (fun u : Int32 × Int32 × Int32 => (fun (at2 : Int32) (fl2 : Int32) (q : Int32) => [bMo g o a th hi ac tp (-1) en at2 fl2 4 iD iO tU fm fk fa fc ft ff fb fi]) (u.1) (u.2.1) (u.2.2)) := by
  refine zM'.of (cc := cX12_some) (maxL := 3) (rt := (some .boolean)) (by decide) rfl (Nat.le_of_ble_eq_true rfl) ?_
  intro p e s m args below meth c A ls St hr hlocks hin hK hT hA hP hD hS hl
  obtain ⟨hx, hb, hml, hown, hts⟩ := id St
  have hl : lv_has ls 3 [(0, .ref o)] := hl
  refine lv_aload_n hx hb dX12_some_0 rfl (lv_at hl 0 rfl) ?_
  refine mcallV' (g := g) (q0 := 0) (ci := 10) (As := []) (rest := []) St hK hT hA hP hD hS hl.1 [0] [] rfl rfl rfl (m_every4F l g o a th hi ac tp en tA iD iO tU fm fk fa fc ft ff fb fi hiD hiO hen htA hde) (cwV 0 hts (zgL (zl4 k959 k960 k961 k839) k957) rfl rfl rfl (by decide +kernel) ⟨Nat.le_of_ble_eq_true rfl, Nat.le_of_ble_eq_true rfl⟩) rfl rfl rfl rfl (Nat.le_of_ble_eq_true rfl) dX12_some_1 ⟨(Nat.le_of_ble_eq_true rfl), (Nat.le_of_ble_eq_true rfl)⟩ (fun u_ H locs hq4 hP hD hS => ?_)
  obtain ⟨at2_1, fl2_2, q_3⟩ := u_
  replace hq4 : (0 ≤ at2_1.toInt ∧ at2_1.toInt ≤ en.toInt + 7 - 4) ∧ (tA.toInt ≤ at2_1.toInt) ∧ (0 ≤ q_3.toInt ∧ q_3.toInt ≤ 1) ∧ ((-1) = fl2_2 ∧ (¬ zisW ft en.toInt (zbg ft en.toInt at2_1.toInt) zwAnd ∧ ∀ r9, zCoT ft en.toInt (zAtom ft en.toInt 2) (zbg ft en.toInt at2_1.toInt) r9 → zCond ft en.toInt (zAtom ft en.toInt 2) (zbg ft en.toInt tA.toInt) r9) ∨ 0 ≤ fl2_2.toInt ∧ zCond ft en.toInt (zAtom ft en.toInt 2) (zbg ft en.toInt tA.toInt) (.bad fl2_2.toInt)) := hq4
  have hP : va_P g.1 vwCl (List.flatten [bMo g o a th hi ac tp (-1) en at2_1 fl2_2 4 iD iO tU fm fk fa fc ft ff fb fi]) H := hP
  have hD : va_D A (List.flatten [bMo g o a th hi ac tp (-1) en at2_1 fl2_2 4 iD iO tU fm fk fa fc ft ff fb fi]) := hD
  refine W.widen (k := 0) (n := 0) (Nat.le_of_ble_eq_true rfl) (Nat.le_of_ble_eq_true rfl) ?_
  refine W.eq (g2 := F0 m 4 ls [.int q_3]) rfl ?_
  obtain ⟨hq4_0, hq4_1, hq4_2, hq4_3⟩ := hq4
  rcases hq4_3 with ⟨rfl, hq4_k⟩ | ⟨hq4_k, hq4_km⟩
  · skip
    refine lv_istore_n (lv' := [(1, .int q_3), (0, .ref o)]) hx hb dX12_some_4 rfl hl (by decide) rfl (fun ls hl => ?_)
    have hl := lv_sub (l' := [(0, .ref o), (1, .int q_3)]) hl [1, 0] rfl
    have LP5_15 : ∀ (kf : Nat) (x_5 : Int32) (x_6 : Int32) (x_7 : Int32), (0 ≤ x_5.toInt ∧ x_5.toInt ≤ 1) → (0 ≤ x_6.toInt ∧ x_6.toInt ≤ 407) → ((-1) ≤ x_7.toInt) → (tA.toInt ≤ x_6.toInt) → (x_6.toInt ≤ en.toInt + 7 - 4) → (-1 ≤ x_7.toInt) → ((x_7.toInt = -1 ∧ ¬ zisW ft en.toInt (zbg ft en.toInt x_6.toInt) zwAnd ∧ ∀ r9, zCoT ft en.toInt (zAtom ft en.toInt 2) (zbg ft en.toInt x_6.toInt) r9 → zCond ft en.toInt (zAtom ft en.toInt 2) (zbg ft en.toInt tA.toInt) r9) ∨ (0 ≤ x_7.toInt ∧ zCond ft en.toInt (zAtom ft en.toInt 2) (zbg ft en.toInt tA.toInt) (.bad x_7.toInt))) → ∀ (H : Heap) (locs : List Loc) (ls : Array Slot), ((en.toInt + 8 - x_6.toInt).toNat) < kf → va_P g.1 vwCl (List.flatten [bMo g o a th hi ac tp (-1) en x_6 x_7 4 iD iO tU fm fk fa fc ft ff fb fi]) H → va_D A (List.flatten [bMo g o a th hi ac tp (-1) en x_6 x_7 4 iD iO tU fm fk fa fc ft ff fb fi]) → va_S A s.heap H locs → lv_has ls 3 [(0, .ref o), (1, .int x_5)] → W p l e ({ frames := 16, cells := 0, slots := 0, locals := 352 } : Room) s m args below meth c H locs (0) (0) (zF g (fun u : Int32 × Int32 × Int32 => (fun (at2 : Int32) (fl2 : Int32) (q : Int32) => some (.int q)) (u.1) (u.2.1) (u.2.2)) (fun u : Int32 × Int32 × Int32 => (fun (at2 : Int32) (fl2 : Int32) (q : Int32) => (0 ≤ at2.toInt ∧ at2.toInt ≤ en.toInt + 7 - 4) ∧ (tA.toInt ≤ at2.toInt) ∧ (0 ≤ q.toInt ∧ q.toInt ≤ 1) ∧ ((-1) = fl2 ∧ zCond ft en.toInt (zAtom ft en.toInt 2) (zbg ft en.toInt tA.toInt) (.ok (zbg ft en.toInt at2.toInt)) ∨ 0 ≤ fl2.toInt ∧ zCond ft en.toInt (zAtom ft en.toInt 2) (zbg ft en.toInt tA.toInt) (.bad fl2.toInt))) (u.1) (u.2.1) (u.2.2)) (fun u : Int32 × Int32 × Int32 => (fun (at2 : Int32) (fl2 : Int32) (q : Int32) => [bMo g o a th hi ac tp (-1) en at2 fl2 4 iD iO tU fm fk fa fc ft ff fb fi]) (u.1) (u.2.1) (u.2.2)) ({ frames := 16, cells := 0, slots := 0, locals := 352 } : Room) below args s A) (F0 m 5 ls []) := by
      intro kf
      induction kf with
      | zero => intro x_5 x_6 x_7 i8 i9 i10 i11 i12 i13 i14 H locs ls hk; exact absurd hk (Nat.not_lt_zero _)
      | succ kf ih5_16 =>
        intro x_5 x_6 x_7 i8 i9 i10 i11 i12 i13 i14 H locs ls hk5_16 hP hD hS hl
        refine lv_aload_n hx hb dX12_some_5 rfl (lv_at hl 0 rfl) ?_
        refine va_get (D := g.1) (ci := 10) (v := .int x_7) (C := RX12) (T := TX12) (N := 20) hx hb hts izRX12 hown hK hP 0 rfl rfl 12 (by decide) (hts _ k820) (fun _ h9 => h9) rfl dX12_some_6 ?_
        refine lv_iconst (v := (-1)) hx hb dX12_some_9 (by decide) ?_
        refine lv_icmp_ne (tgt := 44) hx hb dX12_some_10 (by decide) (fun cb9 => ?_) (fun cb9 => ?_)
        · skip
          have c17 : ¬ x_7.toInt = (-1) := zne cb9 rfl (by decide)
          have n18 : 0 ≤ x_7.toInt := zN1 c17 i10 (by decide)
          refine lv_iload_n hx hb dX12_some_44 rfl (lv_at hl 1 rfl) ?_
          have hP : va_P g.1 vwCl (List.flatten [bMo g o a th hi ac tp (-1) en x_6 x_7 4 iD iO tU fm fk fa fc ft ff fb fi]) H := hP
          have hD : va_D A (List.flatten [bMo g o a th hi ac tp (-1) en x_6 x_7 4 iD iO tU fm fk fa fc ft ff fb fi]) := hD
          exact mret_z hx hb hr hlocks hS (Nat.le_of_ble_eq_true rfl) (Nat.le_of_ble_eq_true rfl) dX12_some_45 (x_6, x_7, x_5) rfl (by first | assumption | exact zb01 (by omega)) (show (0 ≤ x_6.toInt ∧ x_6.toInt ≤ en.toInt + 7 - 4) ∧ (tA.toInt ≤ x_6.toInt) ∧ (0 ≤ x_5.toInt ∧ x_5.toInt ≤ 1) ∧ ((-1) = x_7 ∧ zCond ft en.toInt (zAtom ft en.toInt 2) (zbg ft en.toInt tA.toInt) (.ok (zbg ft en.toInt x_6.toInt)) ∨ 0 ≤ x_7.toInt ∧ zCond ft en.toInt (zAtom ft en.toInt 2) (zbg ft en.toInt tA.toInt) (.bad x_7.toInt)) from ⟨(by first | assumption | omega | exact Or.inl (by decide) | exact Or.inr (by omega)), (by first | assumption | omega | exact Or.inl (by decide) | exact Or.inr (by omega)), (by first | assumption | decide | omega), (Or.inr (i14.resolve_left (fun h9 => by have := h9.1; omega)))⟩) hP hD
        · skip
          have c19 : x_7.toInt = (-1) := zeq cb9 rfl (by decide)
          have n20 : x_7.toInt ≤ (-1) := Int.le_trans (Int.le_of_eq c19) (Int.le_refl _)
          have w21 : ¬ zisW ft en.toInt (zbg ft en.toInt x_6.toInt) zwAnd := (i14.resolve_right (fun h9 => by have := h9.1; omega)).2.1
          have w21I := i14.imp_left (fun h9 => (⟨h9.1, h9.2.2⟩ : _ ∧ _))
          have w22 : ∀ r9, zCoT ft en.toInt (zAtom ft en.toInt 2) (zbg ft en.toInt x_6.toInt) r9 → zCond ft en.toInt (zAtom ft en.toInt 2) (zbg ft en.toInt tA.toInt) r9 := (w21I.resolve_right (fun h9 => by have := h9.1; omega)).2
          have w23 : x_7 = -1 := (zm1 (by omega)).symm
          subst w23
          refine lv_aload_n hx hb dX12_some_13 rfl (lv_at hl 0 rfl) ?_
          refine va_ldcS (q := g.2 102) hx hb hown (zra46 hT.2.1) dX12_some_14 ?_
          have hL4 : (4 : Int32).toInt = 4 := by decide
          refine mcallV' (g := g) (q0 := 0) (ci := 10) (As := [.ref (g.2 102)]) (rest := []) St hK hT hA hP hD hS hl.1 [0] [] rfl rfl rfl (m_hasF l g o a th hi ac tp en x_6 (-1) 4 iD iO tU fm fk fa fc ft ff fb fi (g.2 102) 46 zqa46 hen (by first | assumption | omega | decide | exact Or.inl (by decide) | exact Or.inr (by decide)) (by decide) rfl zla46 zna46 (zlitB zla46)) (cwV 1 hts (zgL (zl4 k899 k900 k901 k839) k889) rfl rfl rfl (by decide +kernel) ⟨Nat.le_of_ble_eq_true rfl, Nat.le_of_ble_eq_true rfl⟩) rfl rfl rfl rfl (Nat.le_of_ble_eq_true rfl) dX12_some_16 ⟨(Nat.le_of_ble_eq_true rfl), (Nat.le_of_ble_eq_true rfl)⟩ (fun u_ H locs hq26 hP hD hS => ?_)
          obtain ⟨at2_24, r_25⟩ := u_
          replace hq26 : (0 ≤ at2_24.toInt ∧ at2_24.toInt ≤ en.toInt + 7 - (4 : Int32).toInt) ∧ (x_6.toInt ≤ at2_24.toInt) ∧ (r_25 = 1 ∧ zisW ft en.toInt (zbg ft en.toInt x_6.toInt) zqa46.2.2.2 ∧ at2_24.toInt = znx ft en.toInt (zbg ft en.toInt x_6.toInt) ∧ x_6.toInt < at2_24.toInt ∧ at2_24.toInt ≤ en.toInt ∨ r_25 = 0 ∧ ¬ zisW ft en.toInt (zbg ft en.toInt x_6.toInt) zqa46.2.2.2 ∧ at2_24.toInt = zbg ft en.toInt x_6.toInt) := hq26
          have hP : va_P g.1 vwCl (List.flatten [bMo g o a th hi ac tp (-1) en at2_24 (-1) 4 iD iO tU fm fk fa fc ft ff fb fi]) H := hP
          have hD : va_D A (List.flatten [bMo g o a th hi ac tp (-1) en at2_24 (-1) 4 iD iO tU fm fk fa fc ft ff fb fi]) := hD
          refine W.widen (k := 0) (n := 0) (Nat.le_of_ble_eq_true rfl) (Nat.le_of_ble_eq_true rfl) ?_
          refine W.eq (g2 := F0 m 19 ls [.int r_25]) rfl ?_
          obtain ⟨hq26_0, hq26_1, hq26_2⟩ := hq26
          rcases hq26_2 with ⟨rfl, hq26_k, hq26_km⟩ | ⟨rfl, hq26_k, hq26_km⟩
          · skip
            refine lv_if_eq (tgt := 44) hx hb dX12_some_19 (by decide) (fun c27 => absurd c27 (by decide)) (fun _ => ?_)
            refine lv_aload_n hx hb dX12_some_22 rfl (lv_at hl 0 rfl) ?_
            refine mcallV' (g := g) (q0 := 0) (ci := 10) (As := []) (rest := []) St hK hT hA hP hD hS hl.1 [0] [] rfl rfl rfl (m_every4F l g o a th hi ac tp en at2_24 iD iO tU fm fk fa fc ft ff fb fi hiD hiO hen (by first | assumption | omega | decide | exact Or.inl (by decide) | exact Or.inr (by decide)) hde) (cwV 0 hts (zgL (zl4 k959 k960 k961 k839) k957) rfl rfl rfl (by decide +kernel) ⟨Nat.le_of_ble_eq_true rfl, Nat.le_of_ble_eq_true rfl⟩) rfl rfl rfl rfl (Nat.le_of_ble_eq_true rfl) dX12_some_23 ⟨(Nat.le_of_ble_eq_true rfl), (Nat.le_of_ble_eq_true rfl)⟩ (fun u_ H locs hq31 hP hD hS => ?_)
            obtain ⟨at2_28, fl2_29, q_30⟩ := u_
            replace hq31 : (0 ≤ at2_28.toInt ∧ at2_28.toInt ≤ en.toInt + 7 - 4) ∧ (at2_24.toInt ≤ at2_28.toInt) ∧ (0 ≤ q_30.toInt ∧ q_30.toInt ≤ 1) ∧ ((-1) = fl2_29 ∧ (¬ zisW ft en.toInt (zbg ft en.toInt at2_28.toInt) zwAnd ∧ ∀ r9, zCoT ft en.toInt (zAtom ft en.toInt 2) (zbg ft en.toInt at2_28.toInt) r9 → zCond ft en.toInt (zAtom ft en.toInt 2) (zbg ft en.toInt at2_24.toInt) r9) ∨ 0 ≤ fl2_29.toInt ∧ zCond ft en.toInt (zAtom ft en.toInt 2) (zbg ft en.toInt at2_24.toInt) (.bad fl2_29.toInt)) := hq31
            have hP : va_P g.1 vwCl (List.flatten [bMo g o a th hi ac tp (-1) en at2_28 fl2_29 4 iD iO tU fm fk fa fc ft ff fb fi]) H := hP
            have hD : va_D A (List.flatten [bMo g o a th hi ac tp (-1) en at2_28 fl2_29 4 iD iO tU fm fk fa fc ft ff fb fi]) := hD
            refine W.widen (k := 0) (n := 0) (Nat.le_of_ble_eq_true rfl) (Nat.le_of_ble_eq_true rfl) ?_
            refine W.eq (g2 := F0 m 26 ls [.int q_30]) rfl ?_
            obtain ⟨hq31_0, hq31_1, hq31_2, hq31_3⟩ := hq31
            rcases hq31_3 with ⟨rfl, hq31_k⟩ | ⟨hq31_k, hq31_km⟩
            · skip
              refine lv_istore_n (lv' := [(2, .int q_30), (0, .ref o), (1, .int x_5)]) hx hb dX12_some_26 rfl hl (by decide) rfl (fun ls hl => ?_)
              refine lv_iload_n hx hb dX12_some_27 rfl (lv_at hl 2 rfl) ?_
              refine lv_if_ne (tgt := 35) hx hb dX12_some_28 (by decide) (fun cb9 => ?_) (fun cb9 => ?_)
              · skip
                have c32 : ¬ x_5.toInt = 0 := zne cb9 rfl (by decide)
                have n33 : 1 ≤ x_5.toInt := zN1 c32 i8.1 (by decide)
                refine lv_iconst (v := 1) hx hb dX12_some_35 (by decide) ?_
                refine lv_goto (tgt := 40) hx hb dX12_some_36 (by decide) ?_
                refine lv_istore_n (lv' := [(1, .int 1), (2, .int q_30), (0, .ref o)]) hx hb dX12_some_40 rfl hl (by decide) rfl (fun ls hl => ?_)
                refine lv_goto (tgt := 5) hx hb dX12_some_41 (by decide) ?_
                have hl := lv_sub (l' := [(0, .ref o), (1, .int 1), (2, .int q_30)]) hl [2, 0, 1] rfl
                have hL1 : (1 : Int32).toInt = 1 := by decide
                have hLn1 : ((-1) : Int32).toInt = (-1) := by decide
                have hP : va_P g.1 vwCl (List.flatten [bMo g o a th hi ac tp (-1) en at2_28 (-1) 4 iD iO tU fm fk fa fc ft ff fb fi]) H := hP
                have hD : va_D A (List.flatten [bMo g o a th hi ac tp (-1) en at2_28 (-1) 4 iD iO tU fm fk fa fc ft ff fb fi]) := hD
                exact ih5_16 1 at2_28 (-1) (by decide) (by first | omega | assumption | decide) (by decide) (by first | omega | assumption | decide) (by first | omega | assumption | decide) (by first | omega | assumption | decide) (Or.inl ⟨by decide, hq31_k.1, fun r9 h9 => zCo_w w22 (Or.inr hq26_k) hq26_km.1 (hq31_k.2 r9 h9)⟩) H _ ls (by omega)  hP hD hS (lv_sub hl [0, 1] rfl)
              · skip
                have c34 : x_5.toInt = 0 := zeq cb9 rfl (by decide)
                have n35 : x_5.toInt ≤ 0 := Int.le_trans (Int.le_of_eq c34) (Int.le_refl _)
                refine lv_iload_n hx hb dX12_some_31 rfl (lv_at hl 0 rfl) ?_
                refine lv_if_eq (tgt := 39) hx hb dX12_some_32 (by decide) (fun cb9 => ?_) (fun cb9 => ?_)
                · skip
                  have c36 : q_30.toInt = 0 := zeq cb9 rfl (by decide)
                  have n37 : q_30.toInt ≤ 0 := Int.le_trans (Int.le_of_eq c36) (Int.le_refl _)
                  refine lv_iconst (v := 0) hx hb dX12_some_39 (by decide) ?_
                  refine lv_istore_n (lv' := [(1, .int 0), (2, .int q_30), (0, .ref o)]) hx hb dX12_some_40 rfl hl (by decide) rfl (fun ls hl => ?_)
                  refine lv_goto (tgt := 5) hx hb dX12_some_41 (by decide) ?_
                  have hl := lv_sub (l' := [(0, .ref o), (1, .int 0), (2, .int q_30)]) hl [2, 0, 1] rfl
                  have hL0 : (0 : Int32).toInt = 0 := by decide
                  have hLn1 : ((-1) : Int32).toInt = (-1) := by decide
                  have hP : va_P g.1 vwCl (List.flatten [bMo g o a th hi ac tp (-1) en at2_28 (-1) 4 iD iO tU fm fk fa fc ft ff fb fi]) H := hP
                  have hD : va_D A (List.flatten [bMo g o a th hi ac tp (-1) en at2_28 (-1) 4 iD iO tU fm fk fa fc ft ff fb fi]) := hD
                  exact ih5_16 0 at2_28 (-1) (by decide) (by first | omega | assumption | decide) (by decide) (by first | omega | assumption | decide) (by first | omega | assumption | decide) (by first | omega | assumption | decide) (Or.inl ⟨by decide, hq31_k.1, fun r9 h9 => zCo_w w22 (Or.inr hq26_k) hq26_km.1 (hq31_k.2 r9 h9)⟩) H _ ls (by omega)  hP hD hS (lv_sub hl [0, 1] rfl)
                · skip
                  have c38 : ¬ q_30.toInt = 0 := zne cb9 rfl (by decide)
                  have n39 : 1 ≤ q_30.toInt := zN1 c38 hq31_2.1 (by decide)
                  refine lv_iconst (v := 1) hx hb dX12_some_35 (by decide) ?_
                  refine lv_goto (tgt := 40) hx hb dX12_some_36 (by decide) ?_
                  refine lv_istore_n (lv' := [(1, .int 1), (2, .int q_30), (0, .ref o)]) hx hb dX12_some_40 rfl hl (by decide) rfl (fun ls hl => ?_)
                  refine lv_goto (tgt := 5) hx hb dX12_some_41 (by decide) ?_
                  have hl := lv_sub (l' := [(0, .ref o), (1, .int 1), (2, .int q_30)]) hl [2, 0, 1] rfl
                  have hL1 : (1 : Int32).toInt = 1 := by decide
                  have hLn1 : ((-1) : Int32).toInt = (-1) := by decide
                  have hP : va_P g.1 vwCl (List.flatten [bMo g o a th hi ac tp (-1) en at2_28 (-1) 4 iD iO tU fm fk fa fc ft ff fb fi]) H := hP
                  have hD : va_D A (List.flatten [bMo g o a th hi ac tp (-1) en at2_28 (-1) 4 iD iO tU fm fk fa fc ft ff fb fi]) := hD
                  exact ih5_16 1 at2_28 (-1) (by decide) (by first | omega | assumption | decide) (by decide) (by first | omega | assumption | decide) (by first | omega | assumption | decide) (by first | omega | assumption | decide) (Or.inl ⟨by decide, hq31_k.1, fun r9 h9 => zCo_w w22 (Or.inr hq26_k) hq26_km.1 (hq31_k.2 r9 h9)⟩) H _ ls (by omega)  hP hD hS (lv_sub hl [0, 1] rfl)
            · skip
              refine lv_istore_n (lv' := [(2, .int q_30), (0, .ref o), (1, .int x_5)]) hx hb dX12_some_26 rfl hl (by decide) rfl (fun ls hl => ?_)
              refine lv_iload_n hx hb dX12_some_27 rfl (lv_at hl 2 rfl) ?_
              refine lv_if_ne (tgt := 35) hx hb dX12_some_28 (by decide) (fun cb9 => ?_) (fun cb9 => ?_)
              · skip
                have c40 : ¬ x_5.toInt = 0 := zne cb9 rfl (by decide)
                have n41 : 1 ≤ x_5.toInt := zN1 c40 i8.1 (by decide)
                refine lv_iconst (v := 1) hx hb dX12_some_35 (by decide) ?_
                refine lv_goto (tgt := 40) hx hb dX12_some_36 (by decide) ?_
                refine lv_istore_n (lv' := [(1, .int 1), (2, .int q_30), (0, .ref o)]) hx hb dX12_some_40 rfl hl (by decide) rfl (fun ls hl => ?_)
                refine lv_goto (tgt := 5) hx hb dX12_some_41 (by decide) ?_
                have hl := lv_sub (l' := [(0, .ref o), (1, .int 1), (2, .int q_30)]) hl [2, 0, 1] rfl
                have hL1 : (1 : Int32).toInt = 1 := by decide
                have hP : va_P g.1 vwCl (List.flatten [bMo g o a th hi ac tp (-1) en at2_28 fl2_29 4 iD iO tU fm fk fa fc ft ff fb fi]) H := hP
                have hD : va_D A (List.flatten [bMo g o a th hi ac tp (-1) en at2_28 fl2_29 4 iD iO tU fm fk fa fc ft ff fb fi]) := hD
                exact ih5_16 1 at2_28 fl2_29 (by decide) (by first | omega | assumption | decide) (Int.le_trans (by decide) hq31_k) (by first | omega | assumption | decide) (by first | omega | assumption | decide) (by first | omega | assumption | decide) (Or.inr ⟨hq31_k, zCo_w w22 (Or.inr hq26_k) hq26_km.1 hq31_km⟩) H _ ls (by omega)  hP hD hS (lv_sub hl [0, 1] rfl)
              · skip
                have c42 : x_5.toInt = 0 := zeq cb9 rfl (by decide)
                have n43 : x_5.toInt ≤ 0 := Int.le_trans (Int.le_of_eq c42) (Int.le_refl _)
                refine lv_iload_n hx hb dX12_some_31 rfl (lv_at hl 0 rfl) ?_
                refine lv_if_eq (tgt := 39) hx hb dX12_some_32 (by decide) (fun cb9 => ?_) (fun cb9 => ?_)
                · skip
                  have c44 : q_30.toInt = 0 := zeq cb9 rfl (by decide)
                  have n45 : q_30.toInt ≤ 0 := Int.le_trans (Int.le_of_eq c44) (Int.le_refl _)
                  refine lv_iconst (v := 0) hx hb dX12_some_39 (by decide) ?_
                  refine lv_istore_n (lv' := [(1, .int 0), (2, .int q_30), (0, .ref o)]) hx hb dX12_some_40 rfl hl (by decide) rfl (fun ls hl => ?_)
                  refine lv_goto (tgt := 5) hx hb dX12_some_41 (by decide) ?_
                  have hl := lv_sub (l' := [(0, .ref o), (1, .int 0), (2, .int q_30)]) hl [2, 0, 1] rfl
                  have hL0 : (0 : Int32).toInt = 0 := by decide
                  have hP : va_P g.1 vwCl (List.flatten [bMo g o a th hi ac tp (-1) en at2_28 fl2_29 4 iD iO tU fm fk fa fc ft ff fb fi]) H := hP
                  have hD : va_D A (List.flatten [bMo g o a th hi ac tp (-1) en at2_28 fl2_29 4 iD iO tU fm fk fa fc ft ff fb fi]) := hD
                  exact ih5_16 0 at2_28 fl2_29 (by decide) (by first | omega | assumption | decide) (Int.le_trans (by decide) hq31_k) (by first | omega | assumption | decide) (by first | omega | assumption | decide) (by first | omega | assumption | decide) (Or.inr ⟨hq31_k, zCo_w w22 (Or.inr hq26_k) hq26_km.1 hq31_km⟩) H _ ls (by omega)  hP hD hS (lv_sub hl [0, 1] rfl)
                · skip
                  have c46 : ¬ q_30.toInt = 0 := zne cb9 rfl (by decide)
                  have n47 : 1 ≤ q_30.toInt := zN1 c46 hq31_2.1 (by decide)
                  refine lv_iconst (v := 1) hx hb dX12_some_35 (by decide) ?_
                  refine lv_goto (tgt := 40) hx hb dX12_some_36 (by decide) ?_
                  refine lv_istore_n (lv' := [(1, .int 1), (2, .int q_30), (0, .ref o)]) hx hb dX12_some_40 rfl hl (by decide) rfl (fun ls hl => ?_)
                  refine lv_goto (tgt := 5) hx hb dX12_some_41 (by decide) ?_
                  have hl := lv_sub (l' := [(0, .ref o), (1, .int 1), (2, .int q_30)]) hl [2, 0, 1] rfl
                  have hL1 : (1 : Int32).toInt = 1 := by decide
                  have hP : va_P g.1 vwCl (List.flatten [bMo g o a th hi ac tp (-1) en at2_28 fl2_29 4 iD iO tU fm fk fa fc ft ff fb fi]) H := hP
                  have hD : va_D A (List.flatten [bMo g o a th hi ac tp (-1) en at2_28 fl2_29 4 iD iO tU fm fk fa fc ft ff fb fi]) := hD
                  exact ih5_16 1 at2_28 fl2_29 (by decide) (by first | omega | assumption | decide) (Int.le_trans (by decide) hq31_k) (by first | omega | assumption | decide) (by first | omega | assumption | decide) (by first | omega | assumption | decide) (Or.inr ⟨hq31_k, zCo_w w22 (Or.inr hq26_k) hq26_km.1 hq31_km⟩) H _ ls (by omega)  hP hD hS (lv_sub hl [0, 1] rfl)
          · skip
            refine lv_if_eq (tgt := 44) hx hb dX12_some_19 (by decide) (fun _ => ?_) (fun c48 => absurd (by decide) c48)
            refine lv_iload_n hx hb dX12_some_44 rfl (lv_at hl 1 rfl) ?_
            have hP : va_P g.1 vwCl (List.flatten [bMo g o a th hi ac tp (-1) en at2_24 (-1) 4 iD iO tU fm fk fa fc ft ff fb fi]) H := hP
            have hD : va_D A (List.flatten [bMo g o a th hi ac tp (-1) en at2_24 (-1) 4 iD iO tU fm fk fa fc ft ff fb fi]) := hD
            exact mret_z hx hb hr hlocks hS (Nat.le_of_ble_eq_true rfl) (Nat.le_of_ble_eq_true rfl) dX12_some_45 (at2_24, -1, x_5) rfl (by first | assumption | exact zb01 (by omega)) (show (0 ≤ at2_24.toInt ∧ at2_24.toInt ≤ en.toInt + 7 - 4) ∧ (tA.toInt ≤ at2_24.toInt) ∧ (0 ≤ x_5.toInt ∧ x_5.toInt ≤ 1) ∧ ((-1) = (-1) ∧ zCond ft en.toInt (zAtom ft en.toInt 2) (zbg ft en.toInt tA.toInt) (.ok (zbg ft en.toInt at2_24.toInt)) ∨ 0 ≤ ((-1) : Int32).toInt ∧ zCond ft en.toInt (zAtom ft en.toInt 2) (zbg ft en.toInt tA.toInt) (.bad ((-1) : Int32).toInt)) from ⟨(by first | assumption | omega | exact Or.inl (by decide) | exact Or.inr (by omega)), (by first | assumption | omega | exact Or.inl (by decide) | exact Or.inr (by omega)), (by first | assumption | decide | omega), (Or.inl ⟨rfl, zCo_end w22 (zor_n w21 hq26_k) hq26_km⟩)⟩) hP hD
    have hLn1 : ((-1) : Int32).toInt = (-1) := by decide
    have hP : va_P g.1 vwCl (List.flatten [bMo g o a th hi ac tp (-1) en at2_1 (-1) 4 iD iO tU fm fk fa fc ft ff fb fi]) H := hP
    have hD : va_D A (List.flatten [bMo g o a th hi ac tp (-1) en at2_1 (-1) 4 iD iO tU fm fk fa fc ft ff fb fi]) := hD
    exact LP5_15 _ q_3 at2_1 (-1) ⟨hq4_2.1, hq4_2.2⟩ (by first | omega | assumption | decide) (by decide) hq4_1 (by first | omega | assumption | decide) (by first | omega | assumption | decide) (Or.inl ⟨by decide, hq4_k⟩) H _ ls (Nat.lt_succ_self _)  hP hD hS (lv_sub hl [0, 1] rfl)
  · skip
    refine lv_istore_n (lv' := [(1, .int q_3), (0, .ref o)]) hx hb dX12_some_4 rfl hl (by decide) rfl (fun ls hl => ?_)
    have hl := lv_sub (l' := [(0, .ref o), (1, .int q_3)]) hl [1, 0] rfl
    have LP5_59 : ∀ (kf : Nat) (x_49 : Int32) (x_50 : Int32) (x_51 : Int32), (0 ≤ x_49.toInt ∧ x_49.toInt ≤ 1) → (0 ≤ x_50.toInt ∧ x_50.toInt ≤ 407) → ((-1) ≤ x_51.toInt) → (tA.toInt ≤ x_50.toInt) → (x_50.toInt ≤ en.toInt + 7 - 4) → (-1 ≤ x_51.toInt) → ((x_51.toInt = -1 ∧ ¬ zisW ft en.toInt (zbg ft en.toInt x_50.toInt) zwAnd ∧ ∀ r9, zCoT ft en.toInt (zAtom ft en.toInt 2) (zbg ft en.toInt x_50.toInt) r9 → zCond ft en.toInt (zAtom ft en.toInt 2) (zbg ft en.toInt tA.toInt) r9) ∨ (0 ≤ x_51.toInt ∧ zCond ft en.toInt (zAtom ft en.toInt 2) (zbg ft en.toInt tA.toInt) (.bad x_51.toInt))) → ∀ (H : Heap) (locs : List Loc) (ls : Array Slot), ((en.toInt + 8 - x_50.toInt).toNat) < kf → va_P g.1 vwCl (List.flatten [bMo g o a th hi ac tp (-1) en x_50 x_51 4 iD iO tU fm fk fa fc ft ff fb fi]) H → va_D A (List.flatten [bMo g o a th hi ac tp (-1) en x_50 x_51 4 iD iO tU fm fk fa fc ft ff fb fi]) → va_S A s.heap H locs → lv_has ls 3 [(0, .ref o), (1, .int x_49)] → W p l e ({ frames := 16, cells := 0, slots := 0, locals := 352 } : Room) s m args below meth c H locs (0) (0) (zF g (fun u : Int32 × Int32 × Int32 => (fun (at2 : Int32) (fl2 : Int32) (q : Int32) => some (.int q)) (u.1) (u.2.1) (u.2.2)) (fun u : Int32 × Int32 × Int32 => (fun (at2 : Int32) (fl2 : Int32) (q : Int32) => (0 ≤ at2.toInt ∧ at2.toInt ≤ en.toInt + 7 - 4) ∧ (tA.toInt ≤ at2.toInt) ∧ (0 ≤ q.toInt ∧ q.toInt ≤ 1) ∧ ((-1) = fl2 ∧ zCond ft en.toInt (zAtom ft en.toInt 2) (zbg ft en.toInt tA.toInt) (.ok (zbg ft en.toInt at2.toInt)) ∨ 0 ≤ fl2.toInt ∧ zCond ft en.toInt (zAtom ft en.toInt 2) (zbg ft en.toInt tA.toInt) (.bad fl2.toInt))) (u.1) (u.2.1) (u.2.2)) (fun u : Int32 × Int32 × Int32 => (fun (at2 : Int32) (fl2 : Int32) (q : Int32) => [bMo g o a th hi ac tp (-1) en at2 fl2 4 iD iO tU fm fk fa fc ft ff fb fi]) (u.1) (u.2.1) (u.2.2)) ({ frames := 16, cells := 0, slots := 0, locals := 352 } : Room) below args s A) (F0 m 5 ls []) := by
      intro kf
      induction kf with
      | zero => intro x_49 x_50 x_51 i52 i53 i54 i55 i56 i57 i58 H locs ls hk; exact absurd hk (Nat.not_lt_zero _)
      | succ kf ih5_60 =>
        intro x_49 x_50 x_51 i52 i53 i54 i55 i56 i57 i58 H locs ls hk5_60 hP hD hS hl
        refine lv_aload_n hx hb dX12_some_5 rfl (lv_at hl 0 rfl) ?_
        refine va_get (D := g.1) (ci := 10) (v := .int x_51) (C := RX12) (T := TX12) (N := 20) hx hb hts izRX12 hown hK hP 0 rfl rfl 12 (by decide) (hts _ k820) (fun _ h9 => h9) rfl dX12_some_6 ?_
        refine lv_iconst (v := (-1)) hx hb dX12_some_9 (by decide) ?_
        refine lv_icmp_ne (tgt := 44) hx hb dX12_some_10 (by decide) (fun cb9 => ?_) (fun cb9 => ?_)
        · skip
          have c61 : ¬ x_51.toInt = (-1) := zne cb9 rfl (by decide)
          have n62 : 0 ≤ x_51.toInt := zN1 c61 i54 (by decide)
          refine lv_iload_n hx hb dX12_some_44 rfl (lv_at hl 1 rfl) ?_
          have hP : va_P g.1 vwCl (List.flatten [bMo g o a th hi ac tp (-1) en x_50 x_51 4 iD iO tU fm fk fa fc ft ff fb fi]) H := hP
          have hD : va_D A (List.flatten [bMo g o a th hi ac tp (-1) en x_50 x_51 4 iD iO tU fm fk fa fc ft ff fb fi]) := hD
          exact mret_z hx hb hr hlocks hS (Nat.le_of_ble_eq_true rfl) (Nat.le_of_ble_eq_true rfl) dX12_some_45 (x_50, x_51, x_49) rfl (by first | assumption | exact zb01 (by omega)) (show (0 ≤ x_50.toInt ∧ x_50.toInt ≤ en.toInt + 7 - 4) ∧ (tA.toInt ≤ x_50.toInt) ∧ (0 ≤ x_49.toInt ∧ x_49.toInt ≤ 1) ∧ ((-1) = x_51 ∧ zCond ft en.toInt (zAtom ft en.toInt 2) (zbg ft en.toInt tA.toInt) (.ok (zbg ft en.toInt x_50.toInt)) ∨ 0 ≤ x_51.toInt ∧ zCond ft en.toInt (zAtom ft en.toInt 2) (zbg ft en.toInt tA.toInt) (.bad x_51.toInt)) from ⟨(by first | assumption | omega | exact Or.inl (by decide) | exact Or.inr (by omega)), (by first | assumption | omega | exact Or.inl (by decide) | exact Or.inr (by omega)), (by first | assumption | decide | omega), (Or.inr (i58.resolve_left (fun h9 => by have := h9.1; omega)))⟩) hP hD
        · skip
          have c63 : x_51.toInt = (-1) := zeq cb9 rfl (by decide)
          have n64 : x_51.toInt ≤ (-1) := Int.le_trans (Int.le_of_eq c63) (Int.le_refl _)
          have w65 : ¬ zisW ft en.toInt (zbg ft en.toInt x_50.toInt) zwAnd := (i58.resolve_right (fun h9 => by have := h9.1; omega)).2.1
          have w65I := i58.imp_left (fun h9 => (⟨h9.1, h9.2.2⟩ : _ ∧ _))
          have w66 : ∀ r9, zCoT ft en.toInt (zAtom ft en.toInt 2) (zbg ft en.toInt x_50.toInt) r9 → zCond ft en.toInt (zAtom ft en.toInt 2) (zbg ft en.toInt tA.toInt) r9 := (w65I.resolve_right (fun h9 => by have := h9.1; omega)).2
          have w67 : x_51 = -1 := (zm1 (by omega)).symm
          subst w67
          refine lv_aload_n hx hb dX12_some_13 rfl (lv_at hl 0 rfl) ?_
          refine va_ldcS (q := g.2 102) hx hb hown (zra46 hT.2.1) dX12_some_14 ?_
          have hL4 : (4 : Int32).toInt = 4 := by decide
          refine mcallV' (g := g) (q0 := 0) (ci := 10) (As := [.ref (g.2 102)]) (rest := []) St hK hT hA hP hD hS hl.1 [0] [] rfl rfl rfl (m_hasF l g o a th hi ac tp en x_50 (-1) 4 iD iO tU fm fk fa fc ft ff fb fi (g.2 102) 46 zqa46 hen (by first | assumption | omega | decide | exact Or.inl (by decide) | exact Or.inr (by decide)) (by decide) rfl zla46 zna46 (zlitB zla46)) (cwV 1 hts (zgL (zl4 k899 k900 k901 k839) k889) rfl rfl rfl (by decide +kernel) ⟨Nat.le_of_ble_eq_true rfl, Nat.le_of_ble_eq_true rfl⟩) rfl rfl rfl rfl (Nat.le_of_ble_eq_true rfl) dX12_some_16 ⟨(Nat.le_of_ble_eq_true rfl), (Nat.le_of_ble_eq_true rfl)⟩ (fun u_ H locs hq70 hP hD hS => ?_)
          obtain ⟨at2_68, r_69⟩ := u_
          replace hq70 : (0 ≤ at2_68.toInt ∧ at2_68.toInt ≤ en.toInt + 7 - (4 : Int32).toInt) ∧ (x_50.toInt ≤ at2_68.toInt) ∧ (r_69 = 1 ∧ zisW ft en.toInt (zbg ft en.toInt x_50.toInt) zqa46.2.2.2 ∧ at2_68.toInt = znx ft en.toInt (zbg ft en.toInt x_50.toInt) ∧ x_50.toInt < at2_68.toInt ∧ at2_68.toInt ≤ en.toInt ∨ r_69 = 0 ∧ ¬ zisW ft en.toInt (zbg ft en.toInt x_50.toInt) zqa46.2.2.2 ∧ at2_68.toInt = zbg ft en.toInt x_50.toInt) := hq70
          have hP : va_P g.1 vwCl (List.flatten [bMo g o a th hi ac tp (-1) en at2_68 (-1) 4 iD iO tU fm fk fa fc ft ff fb fi]) H := hP
          have hD : va_D A (List.flatten [bMo g o a th hi ac tp (-1) en at2_68 (-1) 4 iD iO tU fm fk fa fc ft ff fb fi]) := hD
          refine W.widen (k := 0) (n := 0) (Nat.le_of_ble_eq_true rfl) (Nat.le_of_ble_eq_true rfl) ?_
          refine W.eq (g2 := F0 m 19 ls [.int r_69]) rfl ?_
          obtain ⟨hq70_0, hq70_1, hq70_2⟩ := hq70
          rcases hq70_2 with ⟨rfl, hq70_k, hq70_km⟩ | ⟨rfl, hq70_k, hq70_km⟩
          · skip
            refine lv_if_eq (tgt := 44) hx hb dX12_some_19 (by decide) (fun c71 => absurd c71 (by decide)) (fun _ => ?_)
            refine lv_aload_n hx hb dX12_some_22 rfl (lv_at hl 0 rfl) ?_
            refine mcallV' (g := g) (q0 := 0) (ci := 10) (As := []) (rest := []) St hK hT hA hP hD hS hl.1 [0] [] rfl rfl rfl (m_every4F l g o a th hi ac tp en at2_68 iD iO tU fm fk fa fc ft ff fb fi hiD hiO hen (by first | assumption | omega | decide | exact Or.inl (by decide) | exact Or.inr (by decide)) hde) (cwV 0 hts (zgL (zl4 k959 k960 k961 k839) k957) rfl rfl rfl (by decide +kernel) ⟨Nat.le_of_ble_eq_true rfl, Nat.le_of_ble_eq_true rfl⟩) rfl rfl rfl rfl (Nat.le_of_ble_eq_true rfl) dX12_some_23 ⟨(Nat.le_of_ble_eq_true rfl), (Nat.le_of_ble_eq_true rfl)⟩ (fun u_ H locs hq75 hP hD hS => ?_)
            obtain ⟨at2_72, fl2_73, q_74⟩ := u_
            replace hq75 : (0 ≤ at2_72.toInt ∧ at2_72.toInt ≤ en.toInt + 7 - 4) ∧ (at2_68.toInt ≤ at2_72.toInt) ∧ (0 ≤ q_74.toInt ∧ q_74.toInt ≤ 1) ∧ ((-1) = fl2_73 ∧ (¬ zisW ft en.toInt (zbg ft en.toInt at2_72.toInt) zwAnd ∧ ∀ r9, zCoT ft en.toInt (zAtom ft en.toInt 2) (zbg ft en.toInt at2_72.toInt) r9 → zCond ft en.toInt (zAtom ft en.toInt 2) (zbg ft en.toInt at2_68.toInt) r9) ∨ 0 ≤ fl2_73.toInt ∧ zCond ft en.toInt (zAtom ft en.toInt 2) (zbg ft en.toInt at2_68.toInt) (.bad fl2_73.toInt)) := hq75
            have hP : va_P g.1 vwCl (List.flatten [bMo g o a th hi ac tp (-1) en at2_72 fl2_73 4 iD iO tU fm fk fa fc ft ff fb fi]) H := hP
            have hD : va_D A (List.flatten [bMo g o a th hi ac tp (-1) en at2_72 fl2_73 4 iD iO tU fm fk fa fc ft ff fb fi]) := hD
            refine W.widen (k := 0) (n := 0) (Nat.le_of_ble_eq_true rfl) (Nat.le_of_ble_eq_true rfl) ?_
            refine W.eq (g2 := F0 m 26 ls [.int q_74]) rfl ?_
            obtain ⟨hq75_0, hq75_1, hq75_2, hq75_3⟩ := hq75
            rcases hq75_3 with ⟨rfl, hq75_k⟩ | ⟨hq75_k, hq75_km⟩
            · skip
              refine lv_istore_n (lv' := [(2, .int q_74), (0, .ref o), (1, .int x_49)]) hx hb dX12_some_26 rfl hl (by decide) rfl (fun ls hl => ?_)
              refine lv_iload_n hx hb dX12_some_27 rfl (lv_at hl 2 rfl) ?_
              refine lv_if_ne (tgt := 35) hx hb dX12_some_28 (by decide) (fun cb9 => ?_) (fun cb9 => ?_)
              · skip
                have c76 : ¬ x_49.toInt = 0 := zne cb9 rfl (by decide)
                have n77 : 1 ≤ x_49.toInt := zN1 c76 i52.1 (by decide)
                refine lv_iconst (v := 1) hx hb dX12_some_35 (by decide) ?_
                refine lv_goto (tgt := 40) hx hb dX12_some_36 (by decide) ?_
                refine lv_istore_n (lv' := [(1, .int 1), (2, .int q_74), (0, .ref o)]) hx hb dX12_some_40 rfl hl (by decide) rfl (fun ls hl => ?_)
                refine lv_goto (tgt := 5) hx hb dX12_some_41 (by decide) ?_
                have hl := lv_sub (l' := [(0, .ref o), (1, .int 1), (2, .int q_74)]) hl [2, 0, 1] rfl
                have hL1 : (1 : Int32).toInt = 1 := by decide
                have hLn1 : ((-1) : Int32).toInt = (-1) := by decide
                have hP : va_P g.1 vwCl (List.flatten [bMo g o a th hi ac tp (-1) en at2_72 (-1) 4 iD iO tU fm fk fa fc ft ff fb fi]) H := hP
                have hD : va_D A (List.flatten [bMo g o a th hi ac tp (-1) en at2_72 (-1) 4 iD iO tU fm fk fa fc ft ff fb fi]) := hD
                exact ih5_60 1 at2_72 (-1) (by decide) (by first | omega | assumption | decide) (by decide) (by first | omega | assumption | decide) (by first | omega | assumption | decide) (by first | omega | assumption | decide) (Or.inl ⟨by decide, hq75_k.1, fun r9 h9 => zCo_w w66 (Or.inr hq70_k) hq70_km.1 (hq75_k.2 r9 h9)⟩) H _ ls (by omega)  hP hD hS (lv_sub hl [0, 1] rfl)
              · skip
                have c78 : x_49.toInt = 0 := zeq cb9 rfl (by decide)
                have n79 : x_49.toInt ≤ 0 := Int.le_trans (Int.le_of_eq c78) (Int.le_refl _)
                refine lv_iload_n hx hb dX12_some_31 rfl (lv_at hl 0 rfl) ?_
                refine lv_if_eq (tgt := 39) hx hb dX12_some_32 (by decide) (fun cb9 => ?_) (fun cb9 => ?_)
                · skip
                  have c80 : q_74.toInt = 0 := zeq cb9 rfl (by decide)
                  have n81 : q_74.toInt ≤ 0 := Int.le_trans (Int.le_of_eq c80) (Int.le_refl _)
                  refine lv_iconst (v := 0) hx hb dX12_some_39 (by decide) ?_
                  refine lv_istore_n (lv' := [(1, .int 0), (2, .int q_74), (0, .ref o)]) hx hb dX12_some_40 rfl hl (by decide) rfl (fun ls hl => ?_)
                  refine lv_goto (tgt := 5) hx hb dX12_some_41 (by decide) ?_
                  have hl := lv_sub (l' := [(0, .ref o), (1, .int 0), (2, .int q_74)]) hl [2, 0, 1] rfl
                  have hL0 : (0 : Int32).toInt = 0 := by decide
                  have hLn1 : ((-1) : Int32).toInt = (-1) := by decide
                  have hP : va_P g.1 vwCl (List.flatten [bMo g o a th hi ac tp (-1) en at2_72 (-1) 4 iD iO tU fm fk fa fc ft ff fb fi]) H := hP
                  have hD : va_D A (List.flatten [bMo g o a th hi ac tp (-1) en at2_72 (-1) 4 iD iO tU fm fk fa fc ft ff fb fi]) := hD
                  exact ih5_60 0 at2_72 (-1) (by decide) (by first | omega | assumption | decide) (by decide) (by first | omega | assumption | decide) (by first | omega | assumption | decide) (by first | omega | assumption | decide) (Or.inl ⟨by decide, hq75_k.1, fun r9 h9 => zCo_w w66 (Or.inr hq70_k) hq70_km.1 (hq75_k.2 r9 h9)⟩) H _ ls (by omega)  hP hD hS (lv_sub hl [0, 1] rfl)
                · skip
                  have c82 : ¬ q_74.toInt = 0 := zne cb9 rfl (by decide)
                  have n83 : 1 ≤ q_74.toInt := zN1 c82 hq75_2.1 (by decide)
                  refine lv_iconst (v := 1) hx hb dX12_some_35 (by decide) ?_
                  refine lv_goto (tgt := 40) hx hb dX12_some_36 (by decide) ?_
                  refine lv_istore_n (lv' := [(1, .int 1), (2, .int q_74), (0, .ref o)]) hx hb dX12_some_40 rfl hl (by decide) rfl (fun ls hl => ?_)
                  refine lv_goto (tgt := 5) hx hb dX12_some_41 (by decide) ?_
                  have hl := lv_sub (l' := [(0, .ref o), (1, .int 1), (2, .int q_74)]) hl [2, 0, 1] rfl
                  have hL1 : (1 : Int32).toInt = 1 := by decide
                  have hLn1 : ((-1) : Int32).toInt = (-1) := by decide
                  have hP : va_P g.1 vwCl (List.flatten [bMo g o a th hi ac tp (-1) en at2_72 (-1) 4 iD iO tU fm fk fa fc ft ff fb fi]) H := hP
                  have hD : va_D A (List.flatten [bMo g o a th hi ac tp (-1) en at2_72 (-1) 4 iD iO tU fm fk fa fc ft ff fb fi]) := hD
                  exact ih5_60 1 at2_72 (-1) (by decide) (by first | omega | assumption | decide) (by decide) (by first | omega | assumption | decide) (by first | omega | assumption | decide) (by first | omega | assumption | decide) (Or.inl ⟨by decide, hq75_k.1, fun r9 h9 => zCo_w w66 (Or.inr hq70_k) hq70_km.1 (hq75_k.2 r9 h9)⟩) H _ ls (by omega)  hP hD hS (lv_sub hl [0, 1] rfl)
            · skip
              refine lv_istore_n (lv' := [(2, .int q_74), (0, .ref o), (1, .int x_49)]) hx hb dX12_some_26 rfl hl (by decide) rfl (fun ls hl => ?_)
              refine lv_iload_n hx hb dX12_some_27 rfl (lv_at hl 2 rfl) ?_
              refine lv_if_ne (tgt := 35) hx hb dX12_some_28 (by decide) (fun cb9 => ?_) (fun cb9 => ?_)
              · skip
                have c84 : ¬ x_49.toInt = 0 := zne cb9 rfl (by decide)
                have n85 : 1 ≤ x_49.toInt := zN1 c84 i52.1 (by decide)
                refine lv_iconst (v := 1) hx hb dX12_some_35 (by decide) ?_
                refine lv_goto (tgt := 40) hx hb dX12_some_36 (by decide) ?_
                refine lv_istore_n (lv' := [(1, .int 1), (2, .int q_74), (0, .ref o)]) hx hb dX12_some_40 rfl hl (by decide) rfl (fun ls hl => ?_)
                refine lv_goto (tgt := 5) hx hb dX12_some_41 (by decide) ?_
                have hl := lv_sub (l' := [(0, .ref o), (1, .int 1), (2, .int q_74)]) hl [2, 0, 1] rfl
                have hL1 : (1 : Int32).toInt = 1 := by decide
                have hP : va_P g.1 vwCl (List.flatten [bMo g o a th hi ac tp (-1) en at2_72 fl2_73 4 iD iO tU fm fk fa fc ft ff fb fi]) H := hP
                have hD : va_D A (List.flatten [bMo g o a th hi ac tp (-1) en at2_72 fl2_73 4 iD iO tU fm fk fa fc ft ff fb fi]) := hD
                exact ih5_60 1 at2_72 fl2_73 (by decide) (by first | omega | assumption | decide) (Int.le_trans (by decide) hq75_k) (by first | omega | assumption | decide) (by first | omega | assumption | decide) (by first | omega | assumption | decide) (Or.inr ⟨hq75_k, zCo_w w66 (Or.inr hq70_k) hq70_km.1 hq75_km⟩) H _ ls (by omega)  hP hD hS (lv_sub hl [0, 1] rfl)
              · skip
                have c86 : x_49.toInt = 0 := zeq cb9 rfl (by decide)
                have n87 : x_49.toInt ≤ 0 := Int.le_trans (Int.le_of_eq c86) (Int.le_refl _)
                refine lv_iload_n hx hb dX12_some_31 rfl (lv_at hl 0 rfl) ?_
                refine lv_if_eq (tgt := 39) hx hb dX12_some_32 (by decide) (fun cb9 => ?_) (fun cb9 => ?_)
                · skip
                  have c88 : q_74.toInt = 0 := zeq cb9 rfl (by decide)
                  have n89 : q_74.toInt ≤ 0 := Int.le_trans (Int.le_of_eq c88) (Int.le_refl _)
                  refine lv_iconst (v := 0) hx hb dX12_some_39 (by decide) ?_
                  refine lv_istore_n (lv' := [(1, .int 0), (2, .int q_74), (0, .ref o)]) hx hb dX12_some_40 rfl hl (by decide) rfl (fun ls hl => ?_)
                  refine lv_goto (tgt := 5) hx hb dX12_some_41 (by decide) ?_
                  have hl := lv_sub (l' := [(0, .ref o), (1, .int 0), (2, .int q_74)]) hl [2, 0, 1] rfl
                  have hL0 : (0 : Int32).toInt = 0 := by decide
                  have hP : va_P g.1 vwCl (List.flatten [bMo g o a th hi ac tp (-1) en at2_72 fl2_73 4 iD iO tU fm fk fa fc ft ff fb fi]) H := hP
                  have hD : va_D A (List.flatten [bMo g o a th hi ac tp (-1) en at2_72 fl2_73 4 iD iO tU fm fk fa fc ft ff fb fi]) := hD
                  exact ih5_60 0 at2_72 fl2_73 (by decide) (by first | omega | assumption | decide) (Int.le_trans (by decide) hq75_k) (by first | omega | assumption | decide) (by first | omega | assumption | decide) (by first | omega | assumption | decide) (Or.inr ⟨hq75_k, zCo_w w66 (Or.inr hq70_k) hq70_km.1 hq75_km⟩) H _ ls (by omega)  hP hD hS (lv_sub hl [0, 1] rfl)
                · skip
                  have c90 : ¬ q_74.toInt = 0 := zne cb9 rfl (by decide)
                  have n91 : 1 ≤ q_74.toInt := zN1 c90 hq75_2.1 (by decide)
                  refine lv_iconst (v := 1) hx hb dX12_some_35 (by decide) ?_
                  refine lv_goto (tgt := 40) hx hb dX12_some_36 (by decide) ?_
                  refine lv_istore_n (lv' := [(1, .int 1), (2, .int q_74), (0, .ref o)]) hx hb dX12_some_40 rfl hl (by decide) rfl (fun ls hl => ?_)
                  refine lv_goto (tgt := 5) hx hb dX12_some_41 (by decide) ?_
                  have hl := lv_sub (l' := [(0, .ref o), (1, .int 1), (2, .int q_74)]) hl [2, 0, 1] rfl
                  have hL1 : (1 : Int32).toInt = 1 := by decide
                  have hP : va_P g.1 vwCl (List.flatten [bMo g o a th hi ac tp (-1) en at2_72 fl2_73 4 iD iO tU fm fk fa fc ft ff fb fi]) H := hP
                  have hD : va_D A (List.flatten [bMo g o a th hi ac tp (-1) en at2_72 fl2_73 4 iD iO tU fm fk fa fc ft ff fb fi]) := hD
                  exact ih5_60 1 at2_72 fl2_73 (by decide) (by first | omega | assumption | decide) (Int.le_trans (by decide) hq75_k) (by first | omega | assumption | decide) (by first | omega | assumption | decide) (by first | omega | assumption | decide) (Or.inr ⟨hq75_k, zCo_w w66 (Or.inr hq70_k) hq70_km.1 hq75_km⟩) H _ ls (by omega)  hP hD hS (lv_sub hl [0, 1] rfl)
          · skip
            refine lv_if_eq (tgt := 44) hx hb dX12_some_19 (by decide) (fun _ => ?_) (fun c92 => absurd (by decide) c92)
            refine lv_iload_n hx hb dX12_some_44 rfl (lv_at hl 1 rfl) ?_
            have hP : va_P g.1 vwCl (List.flatten [bMo g o a th hi ac tp (-1) en at2_68 (-1) 4 iD iO tU fm fk fa fc ft ff fb fi]) H := hP
            have hD : va_D A (List.flatten [bMo g o a th hi ac tp (-1) en at2_68 (-1) 4 iD iO tU fm fk fa fc ft ff fb fi]) := hD
            exact mret_z hx hb hr hlocks hS (Nat.le_of_ble_eq_true rfl) (Nat.le_of_ble_eq_true rfl) dX12_some_45 (at2_68, -1, x_49) rfl (by first | assumption | exact zb01 (by omega)) (show (0 ≤ at2_68.toInt ∧ at2_68.toInt ≤ en.toInt + 7 - 4) ∧ (tA.toInt ≤ at2_68.toInt) ∧ (0 ≤ x_49.toInt ∧ x_49.toInt ≤ 1) ∧ ((-1) = (-1) ∧ zCond ft en.toInt (zAtom ft en.toInt 2) (zbg ft en.toInt tA.toInt) (.ok (zbg ft en.toInt at2_68.toInt)) ∨ 0 ≤ ((-1) : Int32).toInt ∧ zCond ft en.toInt (zAtom ft en.toInt 2) (zbg ft en.toInt tA.toInt) (.bad ((-1) : Int32).toInt)) from ⟨(by first | assumption | omega | exact Or.inl (by decide) | exact Or.inr (by omega)), (by first | assumption | omega | exact Or.inl (by decide) | exact Or.inr (by omega)), (by first | assumption | decide | omega), (Or.inl ⟨rfl, zCo_end w66 (zor_n w65 hq70_k) hq70_km⟩)⟩) hP hD
    have hP : va_P g.1 vwCl (List.flatten [bMo g o a th hi ac tp (-1) en at2_1 fl2_2 4 iD iO tU fm fk fa fc ft ff fb fi]) H := hP
    have hD : va_D A (List.flatten [bMo g o a th hi ac tp (-1) en at2_1 fl2_2 4 iD iO tU fm fk fa fc ft ff fb fi]) := hD
    exact LP5_59 _ q_3 at2_1 fl2_2 ⟨hq4_2.1, hq4_2.2⟩ (by first | omega | assumption | decide) (Int.le_trans (by decide) hq4_k) hq4_1 (by first | omega | assumption | decide) (by first | omega | assumption | decide) (Or.inr ⟨hq4_k, hq4_km⟩) H _ ls (Nat.lt_succ_self _)  hP hD hS (lv_sub hl [0, 1] rfl)
set_option maxRecDepth 100000 in
set_option maxHeartbeats 4000000 in
theorem m_atom3F (l : Launch) (g : zG) (o : Nat) (a : Nat → Nat) (th : Int32) (hi : Int32) (ac : Int32) (tp : Int32) (en : Int32) (tA : Int32) (iD : Int32) (iO : Int32) (tU : Int32) (fm : Nat → Int32) (fk : Nat → Int32) (fa : Nat → Int32) (fc : Nat → Int32) (ft : Nat → Int32) (ff : Nat → Int32) (fb : Nat → Int32) (fi : Nat → Int32) (hiD : 0 ≤ iD.toInt ∧ iD.toInt ≤ 1) (hiO : 0 ≤ iO.toInt ∧ iO.toInt ≤ 1) (hen : 0 ≤ en.toInt ∧ en.toInt ≤ 400) (htA : 0 ≤ tA.toInt ∧ tA.toInt ≤ en.toInt + 7 - 3) (hde : 0 ≤ 3 ∧ 3 ≤ 6) : zM' g l yX12_atom (Cond.code yX12_atom cX12_atom 4 (some .boolean) :: zB) ({ frames := 17, cells := 0, slots := 0, locals := 374 } : Room) [.ref o] [bMo g o a th hi ac tp (-1) en tA (-1) 3 iD iO tU fm fk fa fc ft ff fb fi] (fun u : Int32 × Int32 × Int32 => (fun (at2 : Int32) (fl2 : Int32) (q : Int32) => some (.int q)) (u.1) (u.2.1) (u.2.2)) (fun u : Int32 × Int32 × Int32 => (fun (at2 : Int32) (fl2 : Int32) (q : Int32) => (0 ≤ at2.toInt ∧ at2.toInt ≤ en.toInt + 7 - 3) ∧ (tA.toInt ≤ at2.toInt) ∧ (0 ≤ q.toInt ∧ q.toInt ≤ 1) ∧ ((-1) = fl2 ∧ zAtom ft en.toInt 3 (zbg ft en.toInt tA.toInt) (.ok (zbg ft en.toInt at2.toInt)) ∨ 0 ≤ fl2.toInt ∧ zAtom ft en.toInt 3 (zbg ft en.toInt tA.toInt) (.bad fl2.toInt))) (u.1) (u.2.1) (u.2.2)) (fun u : Int32 × Int32 × Int32 => (fun (at2 : Int32) (fl2 : Int32) (q : Int32) => [bMo g o a th hi ac tp (-1) en at2 fl2 3 iD iO tU fm fk fa fc ft ff fb fi]) (u.1) (u.2.1) (u.2.2)) := by
  refine zM'.of (cc := cX12_atom) (maxL := 4) (rt := (some .boolean)) (by decide) rfl (Nat.le_of_ble_eq_true rfl) ?_
  intro p e s m args below meth c A ls St hr hlocks hin hK hT hA hP hD hS hl
  obtain ⟨hx, hb, hml, hown, hts⟩ := id St
  have hl : lv_has ls 4 [(0, .ref o)] := hl
  refine lv_aload_n hx hb dX12_atom_0 rfl (lv_at hl 0 rfl) ?_
  refine va_get (D := g.1) (ci := 10) (v := .int (-1)) (C := RX12) (T := TX12) (N := 20) hx hb hts izRX12 hown hK hP 0 rfl rfl 12 (by decide) (hts _ k820) (fun _ h9 => h9) rfl dX12_atom_1 ?_
  refine lv_iconst (v := (-1)) hx hb dX12_atom_4 (by decide) ?_
  refine lv_icmp_eq (tgt := 10) hx hb dX12_atom_5 (by decide) (fun _ => ?_) (fun c1 => absurd (by decide) c1)
  refine lv_aload_n hx hb dX12_atom_10 rfl (lv_at hl 0 rfl) ?_
  have hL3 : (3 : Int32).toInt = 3 := by decide
  refine mcallV' (g := g) (q0 := 0) (ci := 10) (As := []) (rest := []) St hK hT hA hP hD hS hl.1 [0] [] rfl rfl rfl (m_hereF l g o a th hi ac tp en tA (-1) 3 iD iO tU fm fk fa fc ft ff fb fi hen (by first | assumption | omega | decide | exact Or.inl (by decide) | exact Or.inr (by decide)) (by decide)) (cwV 0 hts (zgL (zl4 k892 k893 k894 k839) k891) rfl rfl rfl (by decide +kernel) ⟨Nat.le_of_ble_eq_true rfl, Nat.le_of_ble_eq_true rfl⟩) rfl rfl rfl rfl (Nat.le_of_ble_eq_true rfl) dX12_atom_11 ⟨(Nat.le_of_ble_eq_true rfl), (Nat.le_of_ble_eq_true rfl)⟩ (fun at2_2 H locs hq3 hP hD hS => ?_)
  replace hq3 : (0 ≤ at2_2.toInt ∧ at2_2.toInt ≤ en.toInt + 7 - (3 : Int32).toInt) ∧ (tA.toInt ≤ at2_2.toInt) ∧ (zSk ft en.toInt tA.toInt at2_2.toInt) := hq3
  have hP : va_P g.1 vwCl (List.flatten [bMo g o a th hi ac tp (-1) en at2_2 (-1) 3 iD iO tU fm fk fa fc ft ff fb fi]) H := hP
  have hD : va_D A (List.flatten [bMo g o a th hi ac tp (-1) en at2_2 (-1) 3 iD iO tU fm fk fa fc ft ff fb fi]) := hD
  refine W.widen (k := 0) (n := 0) (Nat.le_of_ble_eq_true rfl) (Nat.le_of_ble_eq_true rfl) ?_
  refine W.eq (g2 := F0 m 14 ls [.int at2_2]) rfl ?_
  obtain ⟨hq3_0, hq3_1, hq3_2⟩ := hq3
  refine lv_istore_n (lv' := [(1, .int at2_2), (0, .ref o)]) hx hb dX12_atom_14 rfl hl (by decide) rfl (fun ls hl => ?_)
  refine lv_aload_n hx hb dX12_atom_15 rfl (lv_at hl 1 rfl) ?_
  refine va_ldcS (q := g.2 98) hx hb hown (zra44 hT.2.1) dX12_atom_16 ?_
  refine mcallV' (g := g) (q0 := 0) (ci := 10) (As := [.ref (g.2 98)]) (rest := []) St hK hT hA hP hD hS hl.1 [0] [] rfl rfl rfl (m_hasF l g o a th hi ac tp en at2_2 (-1) 3 iD iO tU fm fk fa fc ft ff fb fi (g.2 98) 44 zqa44 hen hq3_0 (by decide) rfl zla44 zna44 (zlitB zla44)) (cwV 1 hts (zgL (zl4 k899 k900 k901 k839) k889) rfl rfl rfl (by decide +kernel) ⟨Nat.le_of_ble_eq_true rfl, Nat.le_of_ble_eq_true rfl⟩) rfl rfl rfl rfl (Nat.le_of_ble_eq_true rfl) dX12_atom_18 ⟨(Nat.le_of_ble_eq_true rfl), (Nat.le_of_ble_eq_true rfl)⟩ (fun u_ H locs hq6 hP hD hS => ?_)
  obtain ⟨at2_4, r_5⟩ := u_
  replace hq6 : (0 ≤ at2_4.toInt ∧ at2_4.toInt ≤ en.toInt + 7 - (3 : Int32).toInt) ∧ (at2_2.toInt ≤ at2_4.toInt) ∧ (r_5 = 1 ∧ zisW ft en.toInt (zbg ft en.toInt at2_2.toInt) zqa44.2.2.2 ∧ at2_4.toInt = znx ft en.toInt (zbg ft en.toInt at2_2.toInt) ∧ at2_2.toInt < at2_4.toInt ∧ at2_4.toInt ≤ en.toInt ∨ r_5 = 0 ∧ ¬ zisW ft en.toInt (zbg ft en.toInt at2_2.toInt) zqa44.2.2.2 ∧ at2_4.toInt = zbg ft en.toInt at2_2.toInt) := hq6
  have hP : va_P g.1 vwCl (List.flatten [bMo g o a th hi ac tp (-1) en at2_4 (-1) 3 iD iO tU fm fk fa fc ft ff fb fi]) H := hP
  have hD : va_D A (List.flatten [bMo g o a th hi ac tp (-1) en at2_4 (-1) 3 iD iO tU fm fk fa fc ft ff fb fi]) := hD
  refine W.widen (k := 0) (n := 0) (Nat.le_of_ble_eq_true rfl) (Nat.le_of_ble_eq_true rfl) ?_
  refine W.eq (g2 := F0 m 21 ls [.int r_5]) rfl ?_
  obtain ⟨hq6_0, hq6_1, hq6_2⟩ := hq6
  rcases hq6_2 with ⟨rfl, hq6_k, hq6_km⟩ | ⟨rfl, hq6_k, hq6_km⟩
  · skip
    refine lv_istore_n (lv' := [(2, .int 1), (1, .int at2_2), (0, .ref o)]) hx hb dX12_atom_21 rfl hl (by decide) rfl (fun ls hl => ?_)
    refine lv_iload_n hx hb dX12_atom_22 rfl (lv_at hl 0 rfl) ?_
    refine lv_if_ne (tgt := 40) hx hb dX12_atom_23 (by decide) (fun _ => ?_) (fun c7 => absurd c7 (by decide))
    refine lv_aload_n hx hb dX12_atom_40 rfl (lv_at hl 2 rfl) ?_
    refine va_get (D := g.1) (ci := 10) (v := .int 3) (C := RX12) (T := TX12) (N := 20) hx hb hts izRX12 hown hK hP 0 rfl rfl 13 (by decide) (hts _ k933) (fun _ h9 => h9) rfl dX12_atom_41 ?_
    refine lv_bipush (v := 6) hx hb dX12_atom_44 (by decide) ?_
    refine lv_icmp_ne (tgt := 56) hx hb dX12_atom_46 (by decide) (fun _ => ?_) (fun c8 => absurd c8 (by decide))
    refine lv_aload_n hx hb dX12_atom_56 rfl (lv_at hl 2 rfl) ?_
    refine lv_dup hx hb dX12_atom_57 rfl ?_
    refine va_get (D := g.1) (ci := 10) (v := .int 3) (C := RX12) (T := TX12) (N := 20) hx hb hts izRX12 hown hK hP 0 rfl rfl 13 (by decide) (hts _ k933) (fun _ h9 => h9) rfl dX12_atom_58 ?_
    refine lv_iconst (v := 1) hx hb dX12_atom_61 (by decide) ?_
    refine lv_iadd hx hb dX12_atom_62 ?_
    refine ztop (r := 4) (by decide) ?_
    refine va_put (D := g.1) (ci := 10) (v := .int 4) (ty := .int) (C := RX12) (T := TX12) (N := 20) hx hb hts izRX12 tyX12 tyX12_ok nmX12 hown hK hP hD hS 0 rfl rfl 13 (by decide) (hts _ k933) (fun _ h9 => h9) rfl (by decide +kernel) rfl rfl (Nat.le_of_ble_eq_true rfl) dX12_atom_63 (fun H locs hP hD hS => ?_)
    have hP : va_P g.1 vwCl (List.flatten [bMo g o a th hi ac tp (-1) en at2_4 (-1) 4 iD iO tU fm fk fa fc ft ff fb fi]) H := hP
    have hD : va_D A (List.flatten [bMo g o a th hi ac tp (-1) en at2_4 (-1) 4 iD iO tU fm fk fa fc ft ff fb fi]) := hD
    refine lv_iconst (v := 0) hx hb dX12_atom_66 (by decide) ?_
    refine lv_istore_n (lv' := [(3, .int 0), (2, .int 1), (1, .int at2_2), (0, .ref o)]) hx hb dX12_atom_67 rfl hl (by decide) rfl (fun ls hl => ?_)
    refine lv_iload_n hx hb dX12_atom_68 rfl (lv_at hl 1 rfl) ?_
    refine lv_if_eq (tgt := 88) hx hb dX12_atom_69 (by decide) (fun c9 => absurd c9 (by decide)) (fun _ => ?_)
    refine lv_aload_n hx hb dX12_atom_72 rfl (lv_at hl 3 rfl) ?_
    refine mcallV' (g := g) (q0 := 0) (ci := 10) (As := []) (rest := []) St hK hT hA hP hD hS hl.1 [0] [] rfl rfl rfl (m_atom4F l g o a th hi ac tp en at2_4 iD iO tU fm fk fa fc ft ff fb fi hiD hiO hen (by first | assumption | omega | decide | exact Or.inl (by decide) | exact Or.inr (by decide)) (by first | assumption | omega | decide | exact Or.inl (by decide) | exact Or.inr (by decide))) (cwV 0 hts (zgL (zl4 k951 k952 k953 k839) k962) rfl rfl rfl (by decide +kernel) ⟨Nat.le_of_ble_eq_true rfl, Nat.le_of_ble_eq_true rfl⟩) rfl rfl rfl rfl (Nat.le_of_ble_eq_true rfl) dX12_atom_73 ⟨(Nat.le_of_ble_eq_true rfl), (Nat.le_of_ble_eq_true rfl)⟩ (fun u_ H locs hq13 hP hD hS => ?_)
    obtain ⟨at2_10, fl2_11, q_12⟩ := u_
    replace hq13 : (0 ≤ at2_10.toInt ∧ at2_10.toInt ≤ en.toInt + 7 - 4) ∧ (at2_4.toInt ≤ at2_10.toInt) ∧ (0 ≤ q_12.toInt ∧ q_12.toInt ≤ 1) ∧ ((-1) = fl2_11 ∧ zAtom ft en.toInt 2 (zbg ft en.toInt at2_4.toInt) (.ok (zbg ft en.toInt at2_10.toInt)) ∨ 0 ≤ fl2_11.toInt ∧ zAtom ft en.toInt 2 (zbg ft en.toInt at2_4.toInt) (.bad fl2_11.toInt)) := hq13
    have hP : va_P g.1 vwCl (List.flatten [bMo g o a th hi ac tp (-1) en at2_10 fl2_11 4 iD iO tU fm fk fa fc ft ff fb fi]) H := hP
    have hD : va_D A (List.flatten [bMo g o a th hi ac tp (-1) en at2_10 fl2_11 4 iD iO tU fm fk fa fc ft ff fb fi]) := hD
    refine W.widen (k := 0) (n := 0) (Nat.le_of_ble_eq_true rfl) (Nat.le_of_ble_eq_true rfl) ?_
    refine W.eq (g2 := F0 m 76 ls [.int q_12]) rfl ?_
    obtain ⟨hq13_0, hq13_1, hq13_2, hq13_3⟩ := hq13
    rcases hq13_3 with ⟨rfl, hq13_k⟩ | ⟨hq13_k, hq13_km⟩
    · skip
      refine lv_if_ne (tgt := 83) hx hb dX12_atom_76 (by decide) (fun cb9 => ?_) (fun cb9 => ?_)
      · skip
        have c14 : ¬ q_12.toInt = 0 := zne cb9 rfl (by decide)
        have n15 : 1 ≤ q_12.toInt := zN1 c14 hq13_2.1 (by decide)
        refine lv_iconst (v := 0) hx hb dX12_atom_83 (by decide) ?_
        refine lv_istore_n (lv' := [(3, .int 0), (2, .int 1), (1, .int at2_2), (0, .ref o)]) hx hb dX12_atom_84 rfl hl (by decide) rfl (fun ls hl => ?_)
        refine lv_goto (tgt := 138) hx hb dX12_atom_85 (by decide) ?_
        refine lv_aload_n hx hb dX12_atom_138 rfl (lv_at hl 3 rfl) ?_
        refine lv_dup hx hb dX12_atom_139 rfl ?_
        refine va_get (D := g.1) (ci := 10) (v := .int 4) (C := RX12) (T := TX12) (N := 20) hx hb hts izRX12 hown hK hP 0 rfl rfl 13 (by decide) (hts _ k933) (fun _ h9 => h9) rfl dX12_atom_140 ?_
        refine lv_iconst (v := 1) hx hb dX12_atom_143 (by decide) ?_
        refine lv_isub hx hb dX12_atom_144 ?_
        refine ztop (r := 3) (by decide) ?_
        refine va_put (D := g.1) (ci := 10) (v := .int 3) (ty := .int) (C := RX12) (T := TX12) (N := 20) hx hb hts izRX12 tyX12 tyX12_ok nmX12 hown hK hP hD hS 0 rfl rfl 13 (by decide) (hts _ k933) (fun _ h9 => h9) rfl (by decide +kernel) rfl rfl (Nat.le_of_ble_eq_true rfl) dX12_atom_145 (fun H locs hP hD hS => ?_)
        have hP : va_P g.1 vwCl (List.flatten [bMo g o a th hi ac tp (-1) en at2_10 (-1) 3 iD iO tU fm fk fa fc ft ff fb fi]) H := hP
        have hD : va_D A (List.flatten [bMo g o a th hi ac tp (-1) en at2_10 (-1) 3 iD iO tU fm fk fa fc ft ff fb fi]) := hD
        refine lv_iload_n hx hb dX12_atom_148 rfl (lv_at hl 0 rfl) ?_
        have hL0 : (0 : Int32).toInt = 0 := by decide
        have hP : va_P g.1 vwCl (List.flatten [bMo g o a th hi ac tp (-1) en at2_10 (-1) 3 iD iO tU fm fk fa fc ft ff fb fi]) H := hP
        have hD : va_D A (List.flatten [bMo g o a th hi ac tp (-1) en at2_10 (-1) 3 iD iO tU fm fk fa fc ft ff fb fi]) := hD
        exact mret_z hx hb hr hlocks hS (Nat.le_of_ble_eq_true rfl) (Nat.le_of_ble_eq_true rfl) dX12_atom_149 (at2_10, -1, (0 : Int32)) rfl (by decide) (show (0 ≤ at2_10.toInt ∧ at2_10.toInt ≤ en.toInt + 7 - 3) ∧ (tA.toInt ≤ at2_10.toInt) ∧ (0 ≤ (0 : Int32).toInt ∧ (0 : Int32).toInt ≤ 1) ∧ ((-1) = (-1) ∧ zAtom ft en.toInt 3 (zbg ft en.toInt tA.toInt) (.ok (zbg ft en.toInt at2_10.toInt)) ∨ 0 ≤ ((-1) : Int32).toInt ∧ zAtom ft en.toInt 3 (zbg ft en.toInt tA.toInt) (.bad ((-1) : Int32).toInt)) from ⟨(by first | assumption | omega | exact Or.inl (by decide) | exact Or.inr (by omega)), (by first | assumption | omega | exact Or.inl (by decide) | exact Or.inr (by omega)), (by first | assumption | decide | omega), (Or.inl ⟨rfl, zAt_notM (zBy (show _ = zbg ft en.toInt _ from hq3_2) hq6_k) (zBx (show _ = zbg ft en.toInt _ from hq3_2) hq6_km.1) hq13_k⟩)⟩) hP hD
      · skip
        have c16 : q_12.toInt = 0 := zeq cb9 rfl (by decide)
        have n17 : q_12.toInt ≤ 0 := Int.le_trans (Int.le_of_eq c16) (Int.le_refl _)
        refine lv_iconst (v := 1) hx hb dX12_atom_79 (by decide) ?_
        refine lv_goto (tgt := 84) hx hb dX12_atom_80 (by decide) ?_
        refine lv_istore_n (lv' := [(3, .int 1), (2, .int 1), (1, .int at2_2), (0, .ref o)]) hx hb dX12_atom_84 rfl hl (by decide) rfl (fun ls hl => ?_)
        refine lv_goto (tgt := 138) hx hb dX12_atom_85 (by decide) ?_
        refine lv_aload_n hx hb dX12_atom_138 rfl (lv_at hl 3 rfl) ?_
        refine lv_dup hx hb dX12_atom_139 rfl ?_
        refine va_get (D := g.1) (ci := 10) (v := .int 4) (C := RX12) (T := TX12) (N := 20) hx hb hts izRX12 hown hK hP 0 rfl rfl 13 (by decide) (hts _ k933) (fun _ h9 => h9) rfl dX12_atom_140 ?_
        refine lv_iconst (v := 1) hx hb dX12_atom_143 (by decide) ?_
        refine lv_isub hx hb dX12_atom_144 ?_
        refine ztop (r := 3) (by decide) ?_
        refine va_put (D := g.1) (ci := 10) (v := .int 3) (ty := .int) (C := RX12) (T := TX12) (N := 20) hx hb hts izRX12 tyX12 tyX12_ok nmX12 hown hK hP hD hS 0 rfl rfl 13 (by decide) (hts _ k933) (fun _ h9 => h9) rfl (by decide +kernel) rfl rfl (Nat.le_of_ble_eq_true rfl) dX12_atom_145 (fun H locs hP hD hS => ?_)
        have hP : va_P g.1 vwCl (List.flatten [bMo g o a th hi ac tp (-1) en at2_10 (-1) 3 iD iO tU fm fk fa fc ft ff fb fi]) H := hP
        have hD : va_D A (List.flatten [bMo g o a th hi ac tp (-1) en at2_10 (-1) 3 iD iO tU fm fk fa fc ft ff fb fi]) := hD
        refine lv_iload_n hx hb dX12_atom_148 rfl (lv_at hl 0 rfl) ?_
        have hL1 : (1 : Int32).toInt = 1 := by decide
        have hP : va_P g.1 vwCl (List.flatten [bMo g o a th hi ac tp (-1) en at2_10 (-1) 3 iD iO tU fm fk fa fc ft ff fb fi]) H := hP
        have hD : va_D A (List.flatten [bMo g o a th hi ac tp (-1) en at2_10 (-1) 3 iD iO tU fm fk fa fc ft ff fb fi]) := hD
        exact mret_z hx hb hr hlocks hS (Nat.le_of_ble_eq_true rfl) (Nat.le_of_ble_eq_true rfl) dX12_atom_149 (at2_10, -1, (1 : Int32)) rfl (by decide) (show (0 ≤ at2_10.toInt ∧ at2_10.toInt ≤ en.toInt + 7 - 3) ∧ (tA.toInt ≤ at2_10.toInt) ∧ (0 ≤ (1 : Int32).toInt ∧ (1 : Int32).toInt ≤ 1) ∧ ((-1) = (-1) ∧ zAtom ft en.toInt 3 (zbg ft en.toInt tA.toInt) (.ok (zbg ft en.toInt at2_10.toInt)) ∨ 0 ≤ ((-1) : Int32).toInt ∧ zAtom ft en.toInt 3 (zbg ft en.toInt tA.toInt) (.bad ((-1) : Int32).toInt)) from ⟨(by first | assumption | omega | exact Or.inl (by decide) | exact Or.inr (by omega)), (by first | assumption | omega | exact Or.inl (by decide) | exact Or.inr (by omega)), (by first | assumption | decide | omega), (Or.inl ⟨rfl, zAt_notM (zBy (show _ = zbg ft en.toInt _ from hq3_2) hq6_k) (zBx (show _ = zbg ft en.toInt _ from hq3_2) hq6_km.1) hq13_k⟩)⟩) hP hD
    · skip
      refine lv_if_ne (tgt := 83) hx hb dX12_atom_76 (by decide) (fun cb9 => ?_) (fun cb9 => ?_)
      · skip
        have c18 : ¬ q_12.toInt = 0 := zne cb9 rfl (by decide)
        have n19 : 1 ≤ q_12.toInt := zN1 c18 hq13_2.1 (by decide)
        refine lv_iconst (v := 0) hx hb dX12_atom_83 (by decide) ?_
        refine lv_istore_n (lv' := [(3, .int 0), (2, .int 1), (1, .int at2_2), (0, .ref o)]) hx hb dX12_atom_84 rfl hl (by decide) rfl (fun ls hl => ?_)
        refine lv_goto (tgt := 138) hx hb dX12_atom_85 (by decide) ?_
        refine lv_aload_n hx hb dX12_atom_138 rfl (lv_at hl 3 rfl) ?_
        refine lv_dup hx hb dX12_atom_139 rfl ?_
        refine va_get (D := g.1) (ci := 10) (v := .int 4) (C := RX12) (T := TX12) (N := 20) hx hb hts izRX12 hown hK hP 0 rfl rfl 13 (by decide) (hts _ k933) (fun _ h9 => h9) rfl dX12_atom_140 ?_
        refine lv_iconst (v := 1) hx hb dX12_atom_143 (by decide) ?_
        refine lv_isub hx hb dX12_atom_144 ?_
        refine ztop (r := 3) (by decide) ?_
        refine va_put (D := g.1) (ci := 10) (v := .int 3) (ty := .int) (C := RX12) (T := TX12) (N := 20) hx hb hts izRX12 tyX12 tyX12_ok nmX12 hown hK hP hD hS 0 rfl rfl 13 (by decide) (hts _ k933) (fun _ h9 => h9) rfl (by decide +kernel) rfl rfl (Nat.le_of_ble_eq_true rfl) dX12_atom_145 (fun H locs hP hD hS => ?_)
        have hP : va_P g.1 vwCl (List.flatten [bMo g o a th hi ac tp (-1) en at2_10 fl2_11 3 iD iO tU fm fk fa fc ft ff fb fi]) H := hP
        have hD : va_D A (List.flatten [bMo g o a th hi ac tp (-1) en at2_10 fl2_11 3 iD iO tU fm fk fa fc ft ff fb fi]) := hD
        refine lv_iload_n hx hb dX12_atom_148 rfl (lv_at hl 0 rfl) ?_
        have hL0 : (0 : Int32).toInt = 0 := by decide
        have hP : va_P g.1 vwCl (List.flatten [bMo g o a th hi ac tp (-1) en at2_10 fl2_11 3 iD iO tU fm fk fa fc ft ff fb fi]) H := hP
        have hD : va_D A (List.flatten [bMo g o a th hi ac tp (-1) en at2_10 fl2_11 3 iD iO tU fm fk fa fc ft ff fb fi]) := hD
        exact mret_z hx hb hr hlocks hS (Nat.le_of_ble_eq_true rfl) (Nat.le_of_ble_eq_true rfl) dX12_atom_149 (at2_10, fl2_11, (0 : Int32)) rfl (by decide) (show (0 ≤ at2_10.toInt ∧ at2_10.toInt ≤ en.toInt + 7 - 3) ∧ (tA.toInt ≤ at2_10.toInt) ∧ (0 ≤ (0 : Int32).toInt ∧ (0 : Int32).toInt ≤ 1) ∧ ((-1) = fl2_11 ∧ zAtom ft en.toInt 3 (zbg ft en.toInt tA.toInt) (.ok (zbg ft en.toInt at2_10.toInt)) ∨ 0 ≤ fl2_11.toInt ∧ zAtom ft en.toInt 3 (zbg ft en.toInt tA.toInt) (.bad fl2_11.toInt)) from ⟨(by first | assumption | omega | exact Or.inl (by decide) | exact Or.inr (by omega)), (by first | assumption | omega | exact Or.inl (by decide) | exact Or.inr (by omega)), (by first | assumption | decide | omega), (Or.inr ⟨hq13_k, zAt_notM (zBy (show _ = zbg ft en.toInt _ from hq3_2) hq6_k) (zBx (show _ = zbg ft en.toInt _ from hq3_2) hq6_km.1) hq13_km⟩)⟩) hP hD
      · skip
        have c20 : q_12.toInt = 0 := zeq cb9 rfl (by decide)
        have n21 : q_12.toInt ≤ 0 := Int.le_trans (Int.le_of_eq c20) (Int.le_refl _)
        refine lv_iconst (v := 1) hx hb dX12_atom_79 (by decide) ?_
        refine lv_goto (tgt := 84) hx hb dX12_atom_80 (by decide) ?_
        refine lv_istore_n (lv' := [(3, .int 1), (2, .int 1), (1, .int at2_2), (0, .ref o)]) hx hb dX12_atom_84 rfl hl (by decide) rfl (fun ls hl => ?_)
        refine lv_goto (tgt := 138) hx hb dX12_atom_85 (by decide) ?_
        refine lv_aload_n hx hb dX12_atom_138 rfl (lv_at hl 3 rfl) ?_
        refine lv_dup hx hb dX12_atom_139 rfl ?_
        refine va_get (D := g.1) (ci := 10) (v := .int 4) (C := RX12) (T := TX12) (N := 20) hx hb hts izRX12 hown hK hP 0 rfl rfl 13 (by decide) (hts _ k933) (fun _ h9 => h9) rfl dX12_atom_140 ?_
        refine lv_iconst (v := 1) hx hb dX12_atom_143 (by decide) ?_
        refine lv_isub hx hb dX12_atom_144 ?_
        refine ztop (r := 3) (by decide) ?_
        refine va_put (D := g.1) (ci := 10) (v := .int 3) (ty := .int) (C := RX12) (T := TX12) (N := 20) hx hb hts izRX12 tyX12 tyX12_ok nmX12 hown hK hP hD hS 0 rfl rfl 13 (by decide) (hts _ k933) (fun _ h9 => h9) rfl (by decide +kernel) rfl rfl (Nat.le_of_ble_eq_true rfl) dX12_atom_145 (fun H locs hP hD hS => ?_)
        have hP : va_P g.1 vwCl (List.flatten [bMo g o a th hi ac tp (-1) en at2_10 fl2_11 3 iD iO tU fm fk fa fc ft ff fb fi]) H := hP
        have hD : va_D A (List.flatten [bMo g o a th hi ac tp (-1) en at2_10 fl2_11 3 iD iO tU fm fk fa fc ft ff fb fi]) := hD
        refine lv_iload_n hx hb dX12_atom_148 rfl (lv_at hl 0 rfl) ?_
        have hL1 : (1 : Int32).toInt = 1 := by decide
        have hP : va_P g.1 vwCl (List.flatten [bMo g o a th hi ac tp (-1) en at2_10 fl2_11 3 iD iO tU fm fk fa fc ft ff fb fi]) H := hP
        have hD : va_D A (List.flatten [bMo g o a th hi ac tp (-1) en at2_10 fl2_11 3 iD iO tU fm fk fa fc ft ff fb fi]) := hD
        exact mret_z hx hb hr hlocks hS (Nat.le_of_ble_eq_true rfl) (Nat.le_of_ble_eq_true rfl) dX12_atom_149 (at2_10, fl2_11, (1 : Int32)) rfl (by decide) (show (0 ≤ at2_10.toInt ∧ at2_10.toInt ≤ en.toInt + 7 - 3) ∧ (tA.toInt ≤ at2_10.toInt) ∧ (0 ≤ (1 : Int32).toInt ∧ (1 : Int32).toInt ≤ 1) ∧ ((-1) = fl2_11 ∧ zAtom ft en.toInt 3 (zbg ft en.toInt tA.toInt) (.ok (zbg ft en.toInt at2_10.toInt)) ∨ 0 ≤ fl2_11.toInt ∧ zAtom ft en.toInt 3 (zbg ft en.toInt tA.toInt) (.bad fl2_11.toInt)) from ⟨(by first | assumption | omega | exact Or.inl (by decide) | exact Or.inr (by omega)), (by first | assumption | omega | exact Or.inl (by decide) | exact Or.inr (by omega)), (by first | assumption | decide | omega), (Or.inr ⟨hq13_k, zAt_notM (zBy (show _ = zbg ft en.toInt _ from hq3_2) hq6_k) (zBx (show _ = zbg ft en.toInt _ from hq3_2) hq6_km.1) hq13_km⟩)⟩) hP hD
  · skip
    refine lv_istore_n (lv' := [(2, .int 0), (1, .int at2_2), (0, .ref o)]) hx hb dX12_atom_21 rfl hl (by decide) rfl (fun ls hl => ?_)
    refine lv_iload_n hx hb dX12_atom_22 rfl (lv_at hl 0 rfl) ?_
    refine lv_if_ne (tgt := 40) hx hb dX12_atom_23 (by decide) (fun c22 => absurd (by decide) c22) (fun _ => ?_)
    refine lv_aload_n hx hb dX12_atom_26 rfl (lv_at hl 2 rfl) ?_
    refine lv_bipush (v := 40) hx hb dX12_atom_27 (by decide) ?_
    have hL40 : (40 : Int32).toInt = 40 := by decide
    refine mcallV' (g := g) (q0 := 0) (ci := 10) (As := [.int 40]) (rest := []) St hK hT hA hP hD hS hl.1 [0] [] rfl rfl rfl (m_isSignF l g o a th hi ac tp en at2_4 (-1) 3 iD iO tU fm fk fa fc ft ff fb fi 40 hen hq6_0 (by decide) (by first | assumption | omega | decide | exact Or.inl (by decide) | exact Or.inr (by decide))) (cwV 1 hts (zgL (zl4 k938 k939 k940 k839) k883) rfl rfl rfl (by decide +kernel) ⟨Nat.le_of_ble_eq_true rfl, Nat.le_of_ble_eq_true rfl⟩) rfl rfl rfl rfl (Nat.le_of_ble_eq_true rfl) dX12_atom_29 ⟨(Nat.le_of_ble_eq_true rfl), (Nat.le_of_ble_eq_true rfl)⟩ (fun u_ H locs hq25 hP hD hS => ?_)
    obtain ⟨at2_23, q_24⟩ := u_
    replace hq25 : (0 ≤ at2_23.toInt ∧ at2_23.toInt ≤ en.toInt + 7 - (3 : Int32).toInt) ∧ (at2_4.toInt ≤ at2_23.toInt) ∧ (zSk ft en.toInt at2_4.toInt at2_23.toInt) ∧ (q_24 = 1 ∧ zisS ft en.toInt at2_23.toInt (40 : Int32).toInt ∧ at2_23.toInt < en.toInt ∨ q_24 = 0 ∧ ¬ zisS ft en.toInt at2_23.toInt (40 : Int32).toInt) := hq25
    have hP : va_P g.1 vwCl (List.flatten [bMo g o a th hi ac tp (-1) en at2_23 (-1) 3 iD iO tU fm fk fa fc ft ff fb fi]) H := hP
    have hD : va_D A (List.flatten [bMo g o a th hi ac tp (-1) en at2_23 (-1) 3 iD iO tU fm fk fa fc ft ff fb fi]) := hD
    refine W.widen (k := 0) (n := 0) (Nat.le_of_ble_eq_true rfl) (Nat.le_of_ble_eq_true rfl) ?_
    refine W.eq (g2 := F0 m 32 ls [.int q_24]) rfl ?_
    obtain ⟨hq25_0, hq25_1, hq25_2, hq25_3⟩ := hq25
    rcases hq25_3 with ⟨rfl, hq25_k⟩ | ⟨rfl, hq25_k⟩
    · skip
      refine lv_if_ne (tgt := 40) hx hb dX12_atom_32 (by decide) (fun _ => ?_) (fun c26 => absurd c26 (by decide))
      refine lv_aload_n hx hb dX12_atom_40 rfl (lv_at hl 2 rfl) ?_
      refine va_get (D := g.1) (ci := 10) (v := .int 3) (C := RX12) (T := TX12) (N := 20) hx hb hts izRX12 hown hK hP 0 rfl rfl 13 (by decide) (hts _ k933) (fun _ h9 => h9) rfl dX12_atom_41 ?_
      refine lv_bipush (v := 6) hx hb dX12_atom_44 (by decide) ?_
      refine lv_icmp_ne (tgt := 56) hx hb dX12_atom_46 (by decide) (fun _ => ?_) (fun c27 => absurd c27 (by decide))
      refine lv_aload_n hx hb dX12_atom_56 rfl (lv_at hl 2 rfl) ?_
      refine lv_dup hx hb dX12_atom_57 rfl ?_
      refine va_get (D := g.1) (ci := 10) (v := .int 3) (C := RX12) (T := TX12) (N := 20) hx hb hts izRX12 hown hK hP 0 rfl rfl 13 (by decide) (hts _ k933) (fun _ h9 => h9) rfl dX12_atom_58 ?_
      refine lv_iconst (v := 1) hx hb dX12_atom_61 (by decide) ?_
      refine lv_iadd hx hb dX12_atom_62 ?_
      refine ztop (r := 4) (by decide) ?_
      refine va_put (D := g.1) (ci := 10) (v := .int 4) (ty := .int) (C := RX12) (T := TX12) (N := 20) hx hb hts izRX12 tyX12 tyX12_ok nmX12 hown hK hP hD hS 0 rfl rfl 13 (by decide) (hts _ k933) (fun _ h9 => h9) rfl (by decide +kernel) rfl rfl (Nat.le_of_ble_eq_true rfl) dX12_atom_63 (fun H locs hP hD hS => ?_)
      have hP : va_P g.1 vwCl (List.flatten [bMo g o a th hi ac tp (-1) en at2_23 (-1) 4 iD iO tU fm fk fa fc ft ff fb fi]) H := hP
      have hD : va_D A (List.flatten [bMo g o a th hi ac tp (-1) en at2_23 (-1) 4 iD iO tU fm fk fa fc ft ff fb fi]) := hD
      refine lv_iconst (v := 0) hx hb dX12_atom_66 (by decide) ?_
      refine lv_istore_n (lv' := [(3, .int 0), (2, .int 0), (1, .int at2_2), (0, .ref o)]) hx hb dX12_atom_67 rfl hl (by decide) rfl (fun ls hl => ?_)
      refine lv_iload_n hx hb dX12_atom_68 rfl (lv_at hl 1 rfl) ?_
      refine lv_if_eq (tgt := 88) hx hb dX12_atom_69 (by decide) (fun _ => ?_) (fun c28 => absurd (by decide) c28)
      refine lv_aload_n hx hb dX12_atom_88 rfl (lv_at hl 3 rfl) ?_
      refine lv_dup hx hb dX12_atom_89 rfl ?_
      refine va_get (D := g.1) (ci := 10) (v := .int at2_23) (C := RX12) (T := TX12) (N := 20) hx hb hts izRX12 hown hK hP 0 rfl rfl 11 (by decide) (hts _ k878) (fun _ h9 => h9) rfl dX12_atom_90 ?_
      refine lv_iconst (v := 1) hx hb dX12_atom_93 (by decide) ?_
      refine lv_iadd hx hb dX12_atom_94 ?_
      refine zgv (zadd (i := at2_23.toInt) (j := 1) rfl (by decide) (by omega)) (fun x_29 hx_29 => ?_)
      refine va_put (D := g.1) (ci := 10) (v := .int x_29) (ty := .int) (C := RX12) (T := TX12) (N := 20) hx hb hts izRX12 tyX12 tyX12_ok nmX12 hown hK hP hD hS 0 rfl rfl 11 (by decide) (hts _ k878) (fun _ h9 => h9) rfl (by decide +kernel) rfl rfl (Nat.le_of_ble_eq_true rfl) dX12_atom_95 (fun H locs hP hD hS => ?_)
      have hP : va_P g.1 vwCl (List.flatten [bMo g o a th hi ac tp (-1) en x_29 (-1) 4 iD iO tU fm fk fa fc ft ff fb fi]) H := hP
      have hD : va_D A (List.flatten [bMo g o a th hi ac tp (-1) en x_29 (-1) 4 iD iO tU fm fk fa fc ft ff fb fi]) := hD
      refine lv_aload_n hx hb dX12_atom_98 rfl (lv_at hl 3 rfl) ?_
      refine mcallV' (g := g) (q0 := 0) (ci := 10) (As := []) (rest := []) St hK hT hA hP hD hS hl.1 [0] [] rfl rfl rfl (m_some4F l g o a th hi ac tp en x_29 iD iO tU fm fk fa fc ft ff fb fi hiD hiO hen (by first | assumption | omega | decide | exact Or.inl (by decide) | exact Or.inr (by decide)) (by first | assumption | omega | decide | exact Or.inl (by decide) | exact Or.inr (by decide))) (cwV 0 hts (zgL (zl4 k954 k955 k956 k839) k958) rfl rfl rfl (by decide +kernel) ⟨Nat.le_of_ble_eq_true rfl, Nat.le_of_ble_eq_true rfl⟩) rfl rfl rfl rfl (Nat.le_of_ble_eq_true rfl) dX12_atom_99 ⟨(Nat.le_of_ble_eq_true rfl), (Nat.le_of_ble_eq_true rfl)⟩ (fun u_ H locs hq33 hP hD hS => ?_)
      obtain ⟨at2_30, fl2_31, q_32⟩ := u_
      replace hq33 : (0 ≤ at2_30.toInt ∧ at2_30.toInt ≤ en.toInt + 7 - 4) ∧ (x_29.toInt ≤ at2_30.toInt) ∧ (0 ≤ q_32.toInt ∧ q_32.toInt ≤ 1) ∧ ((-1) = fl2_31 ∧ zCond ft en.toInt (zAtom ft en.toInt 2) (zbg ft en.toInt x_29.toInt) (.ok (zbg ft en.toInt at2_30.toInt)) ∨ 0 ≤ fl2_31.toInt ∧ zCond ft en.toInt (zAtom ft en.toInt 2) (zbg ft en.toInt x_29.toInt) (.bad fl2_31.toInt)) := hq33
      have hP : va_P g.1 vwCl (List.flatten [bMo g o a th hi ac tp (-1) en at2_30 fl2_31 4 iD iO tU fm fk fa fc ft ff fb fi]) H := hP
      have hD : va_D A (List.flatten [bMo g o a th hi ac tp (-1) en at2_30 fl2_31 4 iD iO tU fm fk fa fc ft ff fb fi]) := hD
      refine W.widen (k := 0) (n := 0) (Nat.le_of_ble_eq_true rfl) (Nat.le_of_ble_eq_true rfl) ?_
      refine W.eq (g2 := F0 m 102 ls [.int q_32]) rfl ?_
      obtain ⟨hq33_0, hq33_1, hq33_2, hq33_3⟩ := hq33
      rcases hq33_3 with ⟨rfl, hq33_k⟩ | ⟨hq33_k, hq33_km⟩
      · skip
        refine lv_istore_n (lv' := [(3, .int q_32), (2, .int 0), (1, .int at2_2), (0, .ref o)]) hx hb dX12_atom_102 rfl hl (by decide) rfl (fun ls hl => ?_)
        refine lv_aload_n hx hb dX12_atom_103 rfl (lv_at hl 3 rfl) ?_
        refine va_get (D := g.1) (ci := 10) (v := .int (-1)) (C := RX12) (T := TX12) (N := 20) hx hb hts izRX12 hown hK hP 0 rfl rfl 12 (by decide) (hts _ k820) (fun _ h9 => h9) rfl dX12_atom_104 ?_
        refine lv_iconst (v := (-1)) hx hb dX12_atom_107 (by decide) ?_
        refine lv_icmp_ne (tgt := 128) hx hb dX12_atom_108 (by decide) (fun c34 => absurd (by decide) c34) (fun _ => ?_)
        refine lv_aload_n hx hb dX12_atom_111 rfl (lv_at hl 3 rfl) ?_
        refine lv_bipush (v := 41) hx hb dX12_atom_112 (by decide) ?_
        have hL4 : (4 : Int32).toInt = 4 := by decide
        have hL41 : (41 : Int32).toInt = 41 := by decide
        refine mcallV' (g := g) (q0 := 0) (ci := 10) (As := [.int 41]) (rest := []) St hK hT hA hP hD hS hl.1 [0] [] rfl rfl rfl (m_isSignF l g o a th hi ac tp en at2_30 (-1) 4 iD iO tU fm fk fa fc ft ff fb fi 41 hen (by first | assumption | omega | decide | exact Or.inl (by decide) | exact Or.inr (by decide)) (by decide) (by first | assumption | omega | decide | exact Or.inl (by decide) | exact Or.inr (by decide))) (cwV 1 hts (zgL (zl4 k938 k939 k940 k839) k883) rfl rfl rfl (by decide +kernel) ⟨Nat.le_of_ble_eq_true rfl, Nat.le_of_ble_eq_true rfl⟩) rfl rfl rfl rfl (Nat.le_of_ble_eq_true rfl) dX12_atom_114 ⟨(Nat.le_of_ble_eq_true rfl), (Nat.le_of_ble_eq_true rfl)⟩ (fun u_ H locs hq37 hP hD hS => ?_)
        obtain ⟨at2_35, q_36⟩ := u_
        replace hq37 : (0 ≤ at2_35.toInt ∧ at2_35.toInt ≤ en.toInt + 7 - (4 : Int32).toInt) ∧ (at2_30.toInt ≤ at2_35.toInt) ∧ (zSk ft en.toInt at2_30.toInt at2_35.toInt) ∧ (q_36 = 1 ∧ zisS ft en.toInt at2_35.toInt (41 : Int32).toInt ∧ at2_35.toInt < en.toInt ∨ q_36 = 0 ∧ ¬ zisS ft en.toInt at2_35.toInt (41 : Int32).toInt) := hq37
        have hP : va_P g.1 vwCl (List.flatten [bMo g o a th hi ac tp (-1) en at2_35 (-1) 4 iD iO tU fm fk fa fc ft ff fb fi]) H := hP
        have hD : va_D A (List.flatten [bMo g o a th hi ac tp (-1) en at2_35 (-1) 4 iD iO tU fm fk fa fc ft ff fb fi]) := hD
        refine W.widen (k := 0) (n := 0) (Nat.le_of_ble_eq_true rfl) (Nat.le_of_ble_eq_true rfl) ?_
        refine W.eq (g2 := F0 m 117 ls [.int q_36]) rfl ?_
        obtain ⟨hq37_0, hq37_1, hq37_2, hq37_3⟩ := hq37
        rcases hq37_3 with ⟨rfl, hq37_k⟩ | ⟨rfl, hq37_k⟩
        · skip
          refine lv_if_ne (tgt := 128) hx hb dX12_atom_117 (by decide) (fun _ => ?_) (fun c38 => absurd c38 (by decide))
          refine lv_aload_n hx hb dX12_atom_128 rfl (lv_at hl 3 rfl) ?_
          refine lv_dup hx hb dX12_atom_129 rfl ?_
          refine va_get (D := g.1) (ci := 10) (v := .int at2_35) (C := RX12) (T := TX12) (N := 20) hx hb hts izRX12 hown hK hP 0 rfl rfl 11 (by decide) (hts _ k878) (fun _ h9 => h9) rfl dX12_atom_130 ?_
          refine lv_iconst (v := 1) hx hb dX12_atom_133 (by decide) ?_
          refine lv_iadd hx hb dX12_atom_134 ?_
          refine zgv (zadd (i := at2_35.toInt) (j := 1) rfl (by decide) (by omega)) (fun x_39 hx_39 => ?_)
          refine va_put (D := g.1) (ci := 10) (v := .int x_39) (ty := .int) (C := RX12) (T := TX12) (N := 20) hx hb hts izRX12 tyX12 tyX12_ok nmX12 hown hK hP hD hS 0 rfl rfl 11 (by decide) (hts _ k878) (fun _ h9 => h9) rfl (by decide +kernel) rfl rfl (Nat.le_of_ble_eq_true rfl) dX12_atom_135 (fun H locs hP hD hS => ?_)
          have hP : va_P g.1 vwCl (List.flatten [bMo g o a th hi ac tp (-1) en x_39 (-1) 4 iD iO tU fm fk fa fc ft ff fb fi]) H := hP
          have hD : va_D A (List.flatten [bMo g o a th hi ac tp (-1) en x_39 (-1) 4 iD iO tU fm fk fa fc ft ff fb fi]) := hD
          refine lv_aload_n hx hb dX12_atom_138 rfl (lv_at hl 3 rfl) ?_
          refine lv_dup hx hb dX12_atom_139 rfl ?_
          refine va_get (D := g.1) (ci := 10) (v := .int 4) (C := RX12) (T := TX12) (N := 20) hx hb hts izRX12 hown hK hP 0 rfl rfl 13 (by decide) (hts _ k933) (fun _ h9 => h9) rfl dX12_atom_140 ?_
          refine lv_iconst (v := 1) hx hb dX12_atom_143 (by decide) ?_
          refine lv_isub hx hb dX12_atom_144 ?_
          refine ztop (r := 3) (by decide) ?_
          refine va_put (D := g.1) (ci := 10) (v := .int 3) (ty := .int) (C := RX12) (T := TX12) (N := 20) hx hb hts izRX12 tyX12 tyX12_ok nmX12 hown hK hP hD hS 0 rfl rfl 13 (by decide) (hts _ k933) (fun _ h9 => h9) rfl (by decide +kernel) rfl rfl (Nat.le_of_ble_eq_true rfl) dX12_atom_145 (fun H locs hP hD hS => ?_)
          have hP : va_P g.1 vwCl (List.flatten [bMo g o a th hi ac tp (-1) en x_39 (-1) 3 iD iO tU fm fk fa fc ft ff fb fi]) H := hP
          have hD : va_D A (List.flatten [bMo g o a th hi ac tp (-1) en x_39 (-1) 3 iD iO tU fm fk fa fc ft ff fb fi]) := hD
          refine lv_iload_n hx hb dX12_atom_148 rfl (lv_at hl 0 rfl) ?_
          have hP : va_P g.1 vwCl (List.flatten [bMo g o a th hi ac tp (-1) en x_39 (-1) 3 iD iO tU fm fk fa fc ft ff fb fi]) H := hP
          have hD : va_D A (List.flatten [bMo g o a th hi ac tp (-1) en x_39 (-1) 3 iD iO tU fm fk fa fc ft ff fb fi]) := hD
          exact mret_z hx hb hr hlocks hS (Nat.le_of_ble_eq_true rfl) (Nat.le_of_ble_eq_true rfl) dX12_atom_149 (x_39, -1, q_32) rfl (by first | assumption | exact zb01 (by omega)) (show (0 ≤ x_39.toInt ∧ x_39.toInt ≤ en.toInt + 7 - 3) ∧ (tA.toInt ≤ x_39.toInt) ∧ (0 ≤ q_32.toInt ∧ q_32.toInt ≤ 1) ∧ ((-1) = (-1) ∧ zAtom ft en.toInt 3 (zbg ft en.toInt tA.toInt) (.ok (zbg ft en.toInt x_39.toInt)) ∨ 0 ≤ ((-1) : Int32).toInt ∧ zAtom ft en.toInt 3 (zbg ft en.toInt tA.toInt) (.bad ((-1) : Int32).toInt)) from ⟨(by first | assumption | omega | exact Or.inl (by decide) | exact Or.inr (by omega)), (by first | assumption | omega | exact Or.inl (by decide) | exact Or.inr (by omega)), (by first | assumption | decide | omega), (Or.inl ⟨rfl, zBq (R := zAtom ft en.toInt 3) (zBe (zBe (show _ = zbg ft en.toInt _ from hq3_2) hq6_km) (show _ = zbg ft en.toInt _ from hq25_2)) (zAt_parM hq25_k.1 (by decide) (by omega) (zPar_shutM hq33_k (show _ = zbg ft en.toInt _ from hq37_2) hq37_k.1 (by decide) (by omega)))⟩)⟩) hP hD
        · skip
          refine lv_if_ne (tgt := 128) hx hb dX12_atom_117 (by decide) (fun c40 => absurd (by decide) c40) (fun _ => ?_)
          refine lv_aload_n hx hb dX12_atom_120 rfl (lv_at hl 3 rfl) ?_
          refine lv_aload_n hx hb dX12_atom_121 rfl (lv_at hl 3 rfl) ?_
          refine va_get (D := g.1) (ci := 10) (v := .int at2_35) (C := RX12) (T := TX12) (N := 20) hx hb hts izRX12 hown hK hP 0 rfl rfl 11 (by decide) (hts _ k878) (fun _ h9 => h9) rfl dX12_atom_122 ?_
          refine mcallV' (g := g) (q0 := 0) (ci := 10) (As := [.int at2_35]) (rest := []) St hK hT hA hP hD hS hl.1 [0] [] rfl rfl rfl (m_wrongF l g o a th hi ac tp (-1) en at2_35 4 iD iO tU fm fk fa fc ft ff fb fi at2_35 ) (cwV 1 hts (zgL (zl4 k895 k896 k897 k839) k890) rfl rfl rfl (by decide +kernel) ⟨Nat.le_of_ble_eq_true rfl, Nat.le_of_ble_eq_true rfl⟩) rfl rfl rfl rfl (Nat.le_of_ble_eq_true rfl) dX12_atom_125 ⟨(Nat.le_of_ble_eq_true rfl), (Nat.le_of_ble_eq_true rfl)⟩ (fun _u H locs hq41 hP hD hS => ?_)
          have hP : va_P g.1 vwCl (List.flatten [bMo g o a th hi ac tp (-1) en at2_35 at2_35 4 iD iO tU fm fk fa fc ft ff fb fi]) H := hP
          have hD : va_D A (List.flatten [bMo g o a th hi ac tp (-1) en at2_35 at2_35 4 iD iO tU fm fk fa fc ft ff fb fi]) := hD
          refine W.widen (k := 0) (n := 0) (Nat.le_of_ble_eq_true rfl) (Nat.le_of_ble_eq_true rfl) ?_
          refine W.eq (g2 := F0 m 128 ls []) rfl ?_
          refine lv_aload_n hx hb dX12_atom_128 rfl (lv_at hl 3 rfl) ?_
          refine lv_dup hx hb dX12_atom_129 rfl ?_
          refine va_get (D := g.1) (ci := 10) (v := .int at2_35) (C := RX12) (T := TX12) (N := 20) hx hb hts izRX12 hown hK hP 0 rfl rfl 11 (by decide) (hts _ k878) (fun _ h9 => h9) rfl dX12_atom_130 ?_
          refine lv_iconst (v := 1) hx hb dX12_atom_133 (by decide) ?_
          refine lv_iadd hx hb dX12_atom_134 ?_
          refine zgv (zadd (i := at2_35.toInt) (j := 1) rfl (by decide) (by omega)) (fun x_42 hx_42 => ?_)
          refine va_put (D := g.1) (ci := 10) (v := .int x_42) (ty := .int) (C := RX12) (T := TX12) (N := 20) hx hb hts izRX12 tyX12 tyX12_ok nmX12 hown hK hP hD hS 0 rfl rfl 11 (by decide) (hts _ k878) (fun _ h9 => h9) rfl (by decide +kernel) rfl rfl (Nat.le_of_ble_eq_true rfl) dX12_atom_135 (fun H locs hP hD hS => ?_)
          have hP : va_P g.1 vwCl (List.flatten [bMo g o a th hi ac tp (-1) en x_42 at2_35 4 iD iO tU fm fk fa fc ft ff fb fi]) H := hP
          have hD : va_D A (List.flatten [bMo g o a th hi ac tp (-1) en x_42 at2_35 4 iD iO tU fm fk fa fc ft ff fb fi]) := hD
          refine lv_aload_n hx hb dX12_atom_138 rfl (lv_at hl 3 rfl) ?_
          refine lv_dup hx hb dX12_atom_139 rfl ?_
          refine va_get (D := g.1) (ci := 10) (v := .int 4) (C := RX12) (T := TX12) (N := 20) hx hb hts izRX12 hown hK hP 0 rfl rfl 13 (by decide) (hts _ k933) (fun _ h9 => h9) rfl dX12_atom_140 ?_
          refine lv_iconst (v := 1) hx hb dX12_atom_143 (by decide) ?_
          refine lv_isub hx hb dX12_atom_144 ?_
          refine ztop (r := 3) (by decide) ?_
          refine va_put (D := g.1) (ci := 10) (v := .int 3) (ty := .int) (C := RX12) (T := TX12) (N := 20) hx hb hts izRX12 tyX12 tyX12_ok nmX12 hown hK hP hD hS 0 rfl rfl 13 (by decide) (hts _ k933) (fun _ h9 => h9) rfl (by decide +kernel) rfl rfl (Nat.le_of_ble_eq_true rfl) dX12_atom_145 (fun H locs hP hD hS => ?_)
          have hP : va_P g.1 vwCl (List.flatten [bMo g o a th hi ac tp (-1) en x_42 at2_35 3 iD iO tU fm fk fa fc ft ff fb fi]) H := hP
          have hD : va_D A (List.flatten [bMo g o a th hi ac tp (-1) en x_42 at2_35 3 iD iO tU fm fk fa fc ft ff fb fi]) := hD
          refine lv_iload_n hx hb dX12_atom_148 rfl (lv_at hl 0 rfl) ?_
          have hP : va_P g.1 vwCl (List.flatten [bMo g o a th hi ac tp (-1) en x_42 at2_35 3 iD iO tU fm fk fa fc ft ff fb fi]) H := hP
          have hD : va_D A (List.flatten [bMo g o a th hi ac tp (-1) en x_42 at2_35 3 iD iO tU fm fk fa fc ft ff fb fi]) := hD
          exact mret_z hx hb hr hlocks hS (Nat.le_of_ble_eq_true rfl) (Nat.le_of_ble_eq_true rfl) dX12_atom_149 (x_42, at2_35, q_32) rfl (by first | assumption | exact zb01 (by omega)) (show (0 ≤ x_42.toInt ∧ x_42.toInt ≤ en.toInt + 7 - 3) ∧ (tA.toInt ≤ x_42.toInt) ∧ (0 ≤ q_32.toInt ∧ q_32.toInt ≤ 1) ∧ ((-1) = at2_35 ∧ zAtom ft en.toInt 3 (zbg ft en.toInt tA.toInt) (.ok (zbg ft en.toInt x_42.toInt)) ∨ 0 ≤ at2_35.toInt ∧ zAtom ft en.toInt 3 (zbg ft en.toInt tA.toInt) (.bad at2_35.toInt)) from ⟨(by first | assumption | omega | exact Or.inl (by decide) | exact Or.inr (by omega)), (by first | assumption | omega | exact Or.inl (by decide) | exact Or.inr (by omega)), (by first | assumption | decide | omega), (Or.inr ⟨(by omega), zBq (R := zAtom ft en.toInt 3) (zBe (zBe (show _ = zbg ft en.toInt _ from hq3_2) hq6_km) (show _ = zbg ft en.toInt _ from hq25_2)) (zAt_parM hq25_k.1 (by decide) (by omega) (zPar_openM hq33_k (show _ = zbg ft en.toInt _ from hq37_2) hq37_k (by decide)))⟩)⟩) hP hD
      · skip
        refine lv_istore_n (lv' := [(3, .int q_32), (2, .int 0), (1, .int at2_2), (0, .ref o)]) hx hb dX12_atom_102 rfl hl (by decide) rfl (fun ls hl => ?_)
        refine lv_aload_n hx hb dX12_atom_103 rfl (lv_at hl 3 rfl) ?_
        refine va_get (D := g.1) (ci := 10) (v := .int fl2_31) (C := RX12) (T := TX12) (N := 20) hx hb hts izRX12 hown hK hP 0 rfl rfl 12 (by decide) (hts _ k820) (fun _ h9 => h9) rfl dX12_atom_104 ?_
        refine lv_iconst (v := (-1)) hx hb dX12_atom_107 (by decide) ?_
        refine lv_icmp_ne (tgt := 128) hx hb dX12_atom_108 (by decide) (fun cb9 => ?_) (fun cb9 => ?_)
        · skip
          have c43 : ¬ fl2_31.toInt = (-1) := zne cb9 rfl (by decide)
          refine lv_aload_n hx hb dX12_atom_128 rfl (lv_at hl 3 rfl) ?_
          refine lv_dup hx hb dX12_atom_129 rfl ?_
          refine va_get (D := g.1) (ci := 10) (v := .int at2_30) (C := RX12) (T := TX12) (N := 20) hx hb hts izRX12 hown hK hP 0 rfl rfl 11 (by decide) (hts _ k878) (fun _ h9 => h9) rfl dX12_atom_130 ?_
          refine lv_iconst (v := 1) hx hb dX12_atom_133 (by decide) ?_
          refine lv_iadd hx hb dX12_atom_134 ?_
          refine zgv (zadd (i := at2_30.toInt) (j := 1) rfl (by decide) (by omega)) (fun x_44 hx_44 => ?_)
          refine va_put (D := g.1) (ci := 10) (v := .int x_44) (ty := .int) (C := RX12) (T := TX12) (N := 20) hx hb hts izRX12 tyX12 tyX12_ok nmX12 hown hK hP hD hS 0 rfl rfl 11 (by decide) (hts _ k878) (fun _ h9 => h9) rfl (by decide +kernel) rfl rfl (Nat.le_of_ble_eq_true rfl) dX12_atom_135 (fun H locs hP hD hS => ?_)
          have hP : va_P g.1 vwCl (List.flatten [bMo g o a th hi ac tp (-1) en x_44 fl2_31 4 iD iO tU fm fk fa fc ft ff fb fi]) H := hP
          have hD : va_D A (List.flatten [bMo g o a th hi ac tp (-1) en x_44 fl2_31 4 iD iO tU fm fk fa fc ft ff fb fi]) := hD
          refine lv_aload_n hx hb dX12_atom_138 rfl (lv_at hl 3 rfl) ?_
          refine lv_dup hx hb dX12_atom_139 rfl ?_
          refine va_get (D := g.1) (ci := 10) (v := .int 4) (C := RX12) (T := TX12) (N := 20) hx hb hts izRX12 hown hK hP 0 rfl rfl 13 (by decide) (hts _ k933) (fun _ h9 => h9) rfl dX12_atom_140 ?_
          refine lv_iconst (v := 1) hx hb dX12_atom_143 (by decide) ?_
          refine lv_isub hx hb dX12_atom_144 ?_
          refine ztop (r := 3) (by decide) ?_
          refine va_put (D := g.1) (ci := 10) (v := .int 3) (ty := .int) (C := RX12) (T := TX12) (N := 20) hx hb hts izRX12 tyX12 tyX12_ok nmX12 hown hK hP hD hS 0 rfl rfl 13 (by decide) (hts _ k933) (fun _ h9 => h9) rfl (by decide +kernel) rfl rfl (Nat.le_of_ble_eq_true rfl) dX12_atom_145 (fun H locs hP hD hS => ?_)
          have hP : va_P g.1 vwCl (List.flatten [bMo g o a th hi ac tp (-1) en x_44 fl2_31 3 iD iO tU fm fk fa fc ft ff fb fi]) H := hP
          have hD : va_D A (List.flatten [bMo g o a th hi ac tp (-1) en x_44 fl2_31 3 iD iO tU fm fk fa fc ft ff fb fi]) := hD
          refine lv_iload_n hx hb dX12_atom_148 rfl (lv_at hl 0 rfl) ?_
          have hP : va_P g.1 vwCl (List.flatten [bMo g o a th hi ac tp (-1) en x_44 fl2_31 3 iD iO tU fm fk fa fc ft ff fb fi]) H := hP
          have hD : va_D A (List.flatten [bMo g o a th hi ac tp (-1) en x_44 fl2_31 3 iD iO tU fm fk fa fc ft ff fb fi]) := hD
          exact mret_z hx hb hr hlocks hS (Nat.le_of_ble_eq_true rfl) (Nat.le_of_ble_eq_true rfl) dX12_atom_149 (x_44, fl2_31, q_32) rfl (by first | assumption | exact zb01 (by omega)) (show (0 ≤ x_44.toInt ∧ x_44.toInt ≤ en.toInt + 7 - 3) ∧ (tA.toInt ≤ x_44.toInt) ∧ (0 ≤ q_32.toInt ∧ q_32.toInt ≤ 1) ∧ ((-1) = fl2_31 ∧ zAtom ft en.toInt 3 (zbg ft en.toInt tA.toInt) (.ok (zbg ft en.toInt x_44.toInt)) ∨ 0 ≤ fl2_31.toInt ∧ zAtom ft en.toInt 3 (zbg ft en.toInt tA.toInt) (.bad fl2_31.toInt)) from ⟨(by first | assumption | omega | exact Or.inl (by decide) | exact Or.inr (by omega)), (by first | assumption | omega | exact Or.inl (by decide) | exact Or.inr (by omega)), (by first | assumption | decide | omega), (Or.inr ⟨hq33_k, zBq (R := zAtom ft en.toInt 3) (zBe (zBe (show _ = zbg ft en.toInt _ from hq3_2) hq6_km) (show _ = zbg ft en.toInt _ from hq25_2)) (zAt_parM hq25_k.1 (by decide) (by omega) (.wrong hq33_km))⟩)⟩) hP hD
        · skip
          exact absurd (show fl2_31.toInt = (-1) from zeq cb9 rfl (by decide)) (zDeq2 (a := 0) (b := (-1)) hq33_k (Int.le_refl _) (by decide))
    · skip
      refine lv_if_ne (tgt := 40) hx hb dX12_atom_32 (by decide) (fun c46 => absurd (by decide) c46) (fun _ => ?_)
      refine lv_aload_n hx hb dX12_atom_35 rfl (lv_at hl 2 rfl) ?_
      refine mcallV' (g := g) (q0 := 0) (ci := 10) (As := []) (rest := []) St hK hT hA hP hD hS hl.1 [0] [] rfl rfl rfl (m_plainF l g o a th hi ac tp en at2_23 3 iD iO tU fm fk fa fc ft ff fb fi hiD hiO hen hq25_0 (by decide)) (cwV 0 hts (zgL (zl4 k948 k949 k950 k839) k947) rfl rfl rfl (by decide +kernel) ⟨Nat.le_of_ble_eq_true rfl, Nat.le_of_ble_eq_true rfl⟩) rfl rfl rfl rfl (Nat.le_of_ble_eq_true rfl) dX12_atom_36 ⟨(Nat.le_of_ble_eq_true rfl), (Nat.le_of_ble_eq_true rfl)⟩ (fun u_ H locs hq50 hP hD hS => ?_)
      obtain ⟨at2_47, fl2_48, q_49⟩ := u_
      replace hq50 : (0 ≤ at2_47.toInt ∧ at2_47.toInt ≤ en.toInt + 7 - (3 : Int32).toInt) ∧ (at2_23.toInt ≤ at2_47.toInt) ∧ (0 ≤ q_49.toInt ∧ q_49.toInt ≤ 1) ∧ ((-1) = fl2_48 ∧ zPlain ft en.toInt (zbg ft en.toInt at2_23.toInt) (.ok (zbg ft en.toInt at2_47.toInt)) ∨ 0 ≤ fl2_48.toInt ∧ zPlain ft en.toInt (zbg ft en.toInt at2_23.toInt) (.bad fl2_48.toInt)) := hq50
      have hP : va_P g.1 vwCl (List.flatten [bMo g o a th hi ac tp (-1) en at2_47 fl2_48 3 iD iO tU fm fk fa fc ft ff fb fi]) H := hP
      have hD : va_D A (List.flatten [bMo g o a th hi ac tp (-1) en at2_47 fl2_48 3 iD iO tU fm fk fa fc ft ff fb fi]) := hD
      refine W.widen (k := 0) (n := 0) (Nat.le_of_ble_eq_true rfl) (Nat.le_of_ble_eq_true rfl) ?_
      refine W.eq (g2 := F0 m 39 ls [.int q_49]) rfl ?_
      obtain ⟨hq50_0, hq50_1, hq50_2, hq50_3⟩ := hq50
      rcases hq50_3 with ⟨rfl, hq50_k⟩ | ⟨hq50_k, hq50_km⟩
      · skip
        have hP : va_P g.1 vwCl (List.flatten [bMo g o a th hi ac tp (-1) en at2_47 (-1) 3 iD iO tU fm fk fa fc ft ff fb fi]) H := hP
        have hD : va_D A (List.flatten [bMo g o a th hi ac tp (-1) en at2_47 (-1) 3 iD iO tU fm fk fa fc ft ff fb fi]) := hD
        exact mret_z hx hb hr hlocks hS (Nat.le_of_ble_eq_true rfl) (Nat.le_of_ble_eq_true rfl) dX12_atom_39 (at2_47, -1, q_49) rfl (by first | assumption | exact zb01 (by omega)) (show (0 ≤ at2_47.toInt ∧ at2_47.toInt ≤ en.toInt + 7 - 3) ∧ (tA.toInt ≤ at2_47.toInt) ∧ (0 ≤ q_49.toInt ∧ q_49.toInt ≤ 1) ∧ ((-1) = (-1) ∧ zAtom ft en.toInt 3 (zbg ft en.toInt tA.toInt) (.ok (zbg ft en.toInt at2_47.toInt)) ∨ 0 ≤ ((-1) : Int32).toInt ∧ zAtom ft en.toInt 3 (zbg ft en.toInt tA.toInt) (.bad ((-1) : Int32).toInt)) from ⟨(by first | assumption | omega | exact Or.inl (by decide) | exact Or.inr (by omega)), (by first | assumption | omega | exact Or.inl (by decide) | exact Or.inr (by omega)), (by first | assumption | decide | omega), (Or.inl ⟨rfl, zAt_pl (zor_n (zBw (show _ = zbg ft en.toInt _ from hq3_2) hq6_k) (zBsn (zBe (zBe (show _ = zbg ft en.toInt _ from hq3_2) hq6_km) (show _ = zbg ft en.toInt _ from hq25_2)) hq25_k (by decide))) (zBr (R := zPlain ft en.toInt) (zBe (zBe (show _ = zbg ft en.toInt _ from hq3_2) hq6_km) (show _ = zbg ft en.toInt _ from hq25_2)) hq50_k)⟩)⟩) hP hD
      · skip
        have hP : va_P g.1 vwCl (List.flatten [bMo g o a th hi ac tp (-1) en at2_47 fl2_48 3 iD iO tU fm fk fa fc ft ff fb fi]) H := hP
        have hD : va_D A (List.flatten [bMo g o a th hi ac tp (-1) en at2_47 fl2_48 3 iD iO tU fm fk fa fc ft ff fb fi]) := hD
        exact mret_z hx hb hr hlocks hS (Nat.le_of_ble_eq_true rfl) (Nat.le_of_ble_eq_true rfl) dX12_atom_39 (at2_47, fl2_48, q_49) rfl (by first | assumption | exact zb01 (by omega)) (show (0 ≤ at2_47.toInt ∧ at2_47.toInt ≤ en.toInt + 7 - 3) ∧ (tA.toInt ≤ at2_47.toInt) ∧ (0 ≤ q_49.toInt ∧ q_49.toInt ≤ 1) ∧ ((-1) = fl2_48 ∧ zAtom ft en.toInt 3 (zbg ft en.toInt tA.toInt) (.ok (zbg ft en.toInt at2_47.toInt)) ∨ 0 ≤ fl2_48.toInt ∧ zAtom ft en.toInt 3 (zbg ft en.toInt tA.toInt) (.bad fl2_48.toInt)) from ⟨(by first | assumption | omega | exact Or.inl (by decide) | exact Or.inr (by omega)), (by first | assumption | omega | exact Or.inl (by decide) | exact Or.inr (by omega)), (by first | assumption | decide | omega), (Or.inr ⟨hq50_k, zAt_pl (zor_n (zBw (show _ = zbg ft en.toInt _ from hq3_2) hq6_k) (zBsn (zBe (zBe (show _ = zbg ft en.toInt _ from hq3_2) hq6_km) (show _ = zbg ft en.toInt _ from hq25_2)) hq25_k (by decide))) (zBr (R := zPlain ft en.toInt) (zBe (zBe (show _ = zbg ft en.toInt _ from hq3_2) hq6_km) (show _ = zbg ft en.toInt _ from hq25_2)) hq50_km)⟩)⟩) hP hD
set_option maxRecDepth 100000 in
set_option maxHeartbeats 4000000 in
theorem m_every3F (l : Launch) (g : zG) (o : Nat) (a : Nat → Nat) (th : Int32) (hi : Int32) (ac : Int32) (tp : Int32) (en : Int32) (tA : Int32) (iD : Int32) (iO : Int32) (tU : Int32) (fm : Nat → Int32) (fk : Nat → Int32) (fa : Nat → Int32) (fc : Nat → Int32) (ft : Nat → Int32) (ff : Nat → Int32) (fb : Nat → Int32) (fi : Nat → Int32) (hiD : 0 ≤ iD.toInt ∧ iD.toInt ≤ 1) (hiO : 0 ≤ iO.toInt ∧ iO.toInt ≤ 1) (hen : 0 ≤ en.toInt ∧ en.toInt ≤ 400) (htA : 0 ≤ tA.toInt ∧ tA.toInt ≤ en.toInt + 7 - 3) (hde : 0 ≤ 3 ∧ 3 ≤ 6) : zM' g l yX12_every (Cond.code yX12_every cX12_every 3 (some .boolean) :: zB) ({ frames := 18, cells := 0, slots := 0, locals := 397 } : Room) [.ref o] [bMo g o a th hi ac tp (-1) en tA (-1) 3 iD iO tU fm fk fa fc ft ff fb fi] (fun u : Int32 × Int32 × Int32 => (fun (at2 : Int32) (fl2 : Int32) (q : Int32) => some (.int q)) (u.1) (u.2.1) (u.2.2)) (fun u : Int32 × Int32 × Int32 => (fun (at2 : Int32) (fl2 : Int32) (q : Int32) => (0 ≤ at2.toInt ∧ at2.toInt ≤ en.toInt + 7 - 3) ∧ (tA.toInt ≤ at2.toInt) ∧ (0 ≤ q.toInt ∧ q.toInt ≤ 1) ∧ ((-1) = fl2 ∧ (¬ zisW ft en.toInt (zbg ft en.toInt at2.toInt) zwAnd ∧ ∀ r9, zCoT ft en.toInt (zAtom ft en.toInt 3) (zbg ft en.toInt at2.toInt) r9 → zCond ft en.toInt (zAtom ft en.toInt 3) (zbg ft en.toInt tA.toInt) r9) ∨ 0 ≤ fl2.toInt ∧ zCond ft en.toInt (zAtom ft en.toInt 3) (zbg ft en.toInt tA.toInt) (.bad fl2.toInt))) (u.1) (u.2.1) (u.2.2)) (fun u : Int32 × Int32 × Int32 => (fun (at2 : Int32) (fl2 : Int32) (q : Int32) => [bMo g o a th hi ac tp (-1) en at2 fl2 3 iD iO tU fm fk fa fc ft ff fb fi]) (u.1) (u.2.1) (u.2.2)) := by
  refine zM'.of (cc := cX12_every) (maxL := 3) (rt := (some .boolean)) (by decide) rfl (Nat.le_of_ble_eq_true rfl) ?_
  intro p e s m args below meth c A ls St hr hlocks hin hK hT hA hP hD hS hl
  obtain ⟨hx, hb, hml, hown, hts⟩ := id St
  have hl : lv_has ls 3 [(0, .ref o)] := hl
  refine lv_aload_n hx hb dX12_every_0 rfl (lv_at hl 0 rfl) ?_
  refine mcallV' (g := g) (q0 := 0) (ci := 10) (As := []) (rest := []) St hK hT hA hP hD hS hl.1 [0] [] rfl rfl rfl (m_atom3F l g o a th hi ac tp en tA iD iO tU fm fk fa fc ft ff fb fi hiD hiO hen htA hde) (cwV 0 hts (zgL (zl4 k951 k952 k953 k839) k962) rfl rfl rfl (by decide +kernel) ⟨Nat.le_of_ble_eq_true rfl, Nat.le_of_ble_eq_true rfl⟩) rfl rfl rfl rfl (Nat.le_of_ble_eq_true rfl) dX12_every_1 ⟨(Nat.le_of_ble_eq_true rfl), (Nat.le_of_ble_eq_true rfl)⟩ (fun u_ H locs hq4 hP hD hS => ?_)
  obtain ⟨at2_1, fl2_2, q_3⟩ := u_
  replace hq4 : (0 ≤ at2_1.toInt ∧ at2_1.toInt ≤ en.toInt + 7 - 3) ∧ (tA.toInt ≤ at2_1.toInt) ∧ (0 ≤ q_3.toInt ∧ q_3.toInt ≤ 1) ∧ ((-1) = fl2_2 ∧ zAtom ft en.toInt 3 (zbg ft en.toInt tA.toInt) (.ok (zbg ft en.toInt at2_1.toInt)) ∨ 0 ≤ fl2_2.toInt ∧ zAtom ft en.toInt 3 (zbg ft en.toInt tA.toInt) (.bad fl2_2.toInt)) := hq4
  have hP : va_P g.1 vwCl (List.flatten [bMo g o a th hi ac tp (-1) en at2_1 fl2_2 3 iD iO tU fm fk fa fc ft ff fb fi]) H := hP
  have hD : va_D A (List.flatten [bMo g o a th hi ac tp (-1) en at2_1 fl2_2 3 iD iO tU fm fk fa fc ft ff fb fi]) := hD
  refine W.widen (k := 0) (n := 0) (Nat.le_of_ble_eq_true rfl) (Nat.le_of_ble_eq_true rfl) ?_
  refine W.eq (g2 := F0 m 4 ls [.int q_3]) rfl ?_
  obtain ⟨hq4_0, hq4_1, hq4_2, hq4_3⟩ := hq4
  rcases hq4_3 with ⟨rfl, hq4_k⟩ | ⟨hq4_k, hq4_km⟩
  · skip
    refine lv_istore_n (lv' := [(1, .int q_3), (0, .ref o)]) hx hb dX12_every_4 rfl hl (by decide) rfl (fun ls hl => ?_)
    have hl := lv_sub (l' := [(0, .ref o), (1, .int q_3)]) hl [1, 0] rfl
    have LP5_15 : ∀ (kf : Nat) (x_5 : Int32) (x_6 : Int32) (x_7 : Int32), (0 ≤ x_5.toInt ∧ x_5.toInt ≤ 1) → (0 ≤ x_6.toInt ∧ x_6.toInt ≤ 407) → ((-1) ≤ x_7.toInt) → (tA.toInt ≤ x_6.toInt) → (x_6.toInt ≤ en.toInt + 7 - 3) → (-1 ≤ x_7.toInt) → ((x_7.toInt = -1 ∧ ∀ r9, zCoT ft en.toInt (zAtom ft en.toInt 3) (zbg ft en.toInt x_6.toInt) r9 → zCond ft en.toInt (zAtom ft en.toInt 3) (zbg ft en.toInt tA.toInt) r9) ∨ (0 ≤ x_7.toInt ∧ zCond ft en.toInt (zAtom ft en.toInt 3) (zbg ft en.toInt tA.toInt) (.bad x_7.toInt))) → ∀ (H : Heap) (locs : List Loc) (ls : Array Slot), ((en.toInt + 8 - x_6.toInt).toNat) < kf → va_P g.1 vwCl (List.flatten [bMo g o a th hi ac tp (-1) en x_6 x_7 3 iD iO tU fm fk fa fc ft ff fb fi]) H → va_D A (List.flatten [bMo g o a th hi ac tp (-1) en x_6 x_7 3 iD iO tU fm fk fa fc ft ff fb fi]) → va_S A s.heap H locs → lv_has ls 3 [(0, .ref o), (1, .int x_5)] → W p l e ({ frames := 18, cells := 0, slots := 0, locals := 397 } : Room) s m args below meth c H locs (0) (0) (zF g (fun u : Int32 × Int32 × Int32 => (fun (at2 : Int32) (fl2 : Int32) (q : Int32) => some (.int q)) (u.1) (u.2.1) (u.2.2)) (fun u : Int32 × Int32 × Int32 => (fun (at2 : Int32) (fl2 : Int32) (q : Int32) => (0 ≤ at2.toInt ∧ at2.toInt ≤ en.toInt + 7 - 3) ∧ (tA.toInt ≤ at2.toInt) ∧ (0 ≤ q.toInt ∧ q.toInt ≤ 1) ∧ ((-1) = fl2 ∧ (¬ zisW ft en.toInt (zbg ft en.toInt at2.toInt) zwAnd ∧ ∀ r9, zCoT ft en.toInt (zAtom ft en.toInt 3) (zbg ft en.toInt at2.toInt) r9 → zCond ft en.toInt (zAtom ft en.toInt 3) (zbg ft en.toInt tA.toInt) r9) ∨ 0 ≤ fl2.toInt ∧ zCond ft en.toInt (zAtom ft en.toInt 3) (zbg ft en.toInt tA.toInt) (.bad fl2.toInt))) (u.1) (u.2.1) (u.2.2)) (fun u : Int32 × Int32 × Int32 => (fun (at2 : Int32) (fl2 : Int32) (q : Int32) => [bMo g o a th hi ac tp (-1) en at2 fl2 3 iD iO tU fm fk fa fc ft ff fb fi]) (u.1) (u.2.1) (u.2.2)) ({ frames := 18, cells := 0, slots := 0, locals := 397 } : Room) below args s A) (F0 m 5 ls []) := by
      intro kf
      induction kf with
      | zero => intro x_5 x_6 x_7 i8 i9 i10 i11 i12 i13 i14 H locs ls hk; exact absurd hk (Nat.not_lt_zero _)
      | succ kf ih5_16 =>
        intro x_5 x_6 x_7 i8 i9 i10 i11 i12 i13 i14 H locs ls hk5_16 hP hD hS hl
        refine lv_aload_n hx hb dX12_every_5 rfl (lv_at hl 0 rfl) ?_
        refine va_get (D := g.1) (ci := 10) (v := .int x_7) (C := RX12) (T := TX12) (N := 20) hx hb hts izRX12 hown hK hP 0 rfl rfl 12 (by decide) (hts _ k820) (fun _ h9 => h9) rfl dX12_every_6 ?_
        refine lv_iconst (v := (-1)) hx hb dX12_every_9 (by decide) ?_
        refine lv_icmp_ne (tgt := 44) hx hb dX12_every_10 (by decide) (fun cb9 => ?_) (fun cb9 => ?_)
        · skip
          have c17 : ¬ x_7.toInt = (-1) := zne cb9 rfl (by decide)
          have n18 : 0 ≤ x_7.toInt := zN1 c17 i10 (by decide)
          refine lv_iload_n hx hb dX12_every_44 rfl (lv_at hl 1 rfl) ?_
          have hP : va_P g.1 vwCl (List.flatten [bMo g o a th hi ac tp (-1) en x_6 x_7 3 iD iO tU fm fk fa fc ft ff fb fi]) H := hP
          have hD : va_D A (List.flatten [bMo g o a th hi ac tp (-1) en x_6 x_7 3 iD iO tU fm fk fa fc ft ff fb fi]) := hD
          exact mret_z hx hb hr hlocks hS (Nat.le_of_ble_eq_true rfl) (Nat.le_of_ble_eq_true rfl) dX12_every_45 (x_6, x_7, x_5) rfl (by first | assumption | exact zb01 (by omega)) (show (0 ≤ x_6.toInt ∧ x_6.toInt ≤ en.toInt + 7 - 3) ∧ (tA.toInt ≤ x_6.toInt) ∧ (0 ≤ x_5.toInt ∧ x_5.toInt ≤ 1) ∧ ((-1) = x_7 ∧ (¬ zisW ft en.toInt (zbg ft en.toInt x_6.toInt) zwAnd ∧ ∀ r9, zCoT ft en.toInt (zAtom ft en.toInt 3) (zbg ft en.toInt x_6.toInt) r9 → zCond ft en.toInt (zAtom ft en.toInt 3) (zbg ft en.toInt tA.toInt) r9) ∨ 0 ≤ x_7.toInt ∧ zCond ft en.toInt (zAtom ft en.toInt 3) (zbg ft en.toInt tA.toInt) (.bad x_7.toInt)) from ⟨(by first | assumption | omega | exact Or.inl (by decide) | exact Or.inr (by omega)), (by first | assumption | omega | exact Or.inl (by decide) | exact Or.inr (by omega)), (by first | assumption | decide | omega), (Or.inr (i14.resolve_left (fun h9 => by have := h9.1; omega)))⟩) hP hD
        · skip
          have c19 : x_7.toInt = (-1) := zeq cb9 rfl (by decide)
          have n20 : x_7.toInt ≤ (-1) := Int.le_trans (Int.le_of_eq c19) (Int.le_refl _)
          have w21 : ∀ r9, zCoT ft en.toInt (zAtom ft en.toInt 3) (zbg ft en.toInt x_6.toInt) r9 → zCond ft en.toInt (zAtom ft en.toInt 3) (zbg ft en.toInt tA.toInt) r9 := (i14.resolve_right (fun h9 => by have := h9.1; omega)).2
          have w22 : x_7 = -1 := (zm1 (by omega)).symm
          subst w22
          refine lv_aload_n hx hb dX12_every_13 rfl (lv_at hl 0 rfl) ?_
          refine va_ldcS (q := g.2 100) hx hb hown (zra45 hT.2.1) dX12_every_14 ?_
          have hL3 : (3 : Int32).toInt = 3 := by decide
          refine mcallV' (g := g) (q0 := 0) (ci := 10) (As := [.ref (g.2 100)]) (rest := []) St hK hT hA hP hD hS hl.1 [0] [] rfl rfl rfl (m_hasF l g o a th hi ac tp en x_6 (-1) 3 iD iO tU fm fk fa fc ft ff fb fi (g.2 100) 45 zqa45 hen (by first | assumption | omega | decide | exact Or.inl (by decide) | exact Or.inr (by decide)) (by decide) rfl zla45 zna45 (zlitB zla45)) (cwV 1 hts (zgL (zl4 k899 k900 k901 k839) k889) rfl rfl rfl (by decide +kernel) ⟨Nat.le_of_ble_eq_true rfl, Nat.le_of_ble_eq_true rfl⟩) rfl rfl rfl rfl (Nat.le_of_ble_eq_true rfl) dX12_every_16 ⟨(Nat.le_of_ble_eq_true rfl), (Nat.le_of_ble_eq_true rfl)⟩ (fun u_ H locs hq25 hP hD hS => ?_)
          obtain ⟨at2_23, r_24⟩ := u_
          replace hq25 : (0 ≤ at2_23.toInt ∧ at2_23.toInt ≤ en.toInt + 7 - (3 : Int32).toInt) ∧ (x_6.toInt ≤ at2_23.toInt) ∧ (r_24 = 1 ∧ zisW ft en.toInt (zbg ft en.toInt x_6.toInt) zqa45.2.2.2 ∧ at2_23.toInt = znx ft en.toInt (zbg ft en.toInt x_6.toInt) ∧ x_6.toInt < at2_23.toInt ∧ at2_23.toInt ≤ en.toInt ∨ r_24 = 0 ∧ ¬ zisW ft en.toInt (zbg ft en.toInt x_6.toInt) zqa45.2.2.2 ∧ at2_23.toInt = zbg ft en.toInt x_6.toInt) := hq25
          have hP : va_P g.1 vwCl (List.flatten [bMo g o a th hi ac tp (-1) en at2_23 (-1) 3 iD iO tU fm fk fa fc ft ff fb fi]) H := hP
          have hD : va_D A (List.flatten [bMo g o a th hi ac tp (-1) en at2_23 (-1) 3 iD iO tU fm fk fa fc ft ff fb fi]) := hD
          refine W.widen (k := 0) (n := 0) (Nat.le_of_ble_eq_true rfl) (Nat.le_of_ble_eq_true rfl) ?_
          refine W.eq (g2 := F0 m 19 ls [.int r_24]) rfl ?_
          obtain ⟨hq25_0, hq25_1, hq25_2⟩ := hq25
          rcases hq25_2 with ⟨rfl, hq25_k, hq25_km⟩ | ⟨rfl, hq25_k, hq25_km⟩
          · skip
            refine lv_if_eq (tgt := 44) hx hb dX12_every_19 (by decide) (fun c26 => absurd c26 (by decide)) (fun _ => ?_)
            refine lv_aload_n hx hb dX12_every_22 rfl (lv_at hl 0 rfl) ?_
            refine mcallV' (g := g) (q0 := 0) (ci := 10) (As := []) (rest := []) St hK hT hA hP hD hS hl.1 [0] [] rfl rfl rfl (m_atom3F l g o a th hi ac tp en at2_23 iD iO tU fm fk fa fc ft ff fb fi hiD hiO hen (by first | assumption | omega | decide | exact Or.inl (by decide) | exact Or.inr (by decide)) hde) (cwV 0 hts (zgL (zl4 k951 k952 k953 k839) k962) rfl rfl rfl (by decide +kernel) ⟨Nat.le_of_ble_eq_true rfl, Nat.le_of_ble_eq_true rfl⟩) rfl rfl rfl rfl (Nat.le_of_ble_eq_true rfl) dX12_every_23 ⟨(Nat.le_of_ble_eq_true rfl), (Nat.le_of_ble_eq_true rfl)⟩ (fun u_ H locs hq30 hP hD hS => ?_)
            obtain ⟨at2_27, fl2_28, q_29⟩ := u_
            replace hq30 : (0 ≤ at2_27.toInt ∧ at2_27.toInt ≤ en.toInt + 7 - 3) ∧ (at2_23.toInt ≤ at2_27.toInt) ∧ (0 ≤ q_29.toInt ∧ q_29.toInt ≤ 1) ∧ ((-1) = fl2_28 ∧ zAtom ft en.toInt 3 (zbg ft en.toInt at2_23.toInt) (.ok (zbg ft en.toInt at2_27.toInt)) ∨ 0 ≤ fl2_28.toInt ∧ zAtom ft en.toInt 3 (zbg ft en.toInt at2_23.toInt) (.bad fl2_28.toInt)) := hq30
            have hP : va_P g.1 vwCl (List.flatten [bMo g o a th hi ac tp (-1) en at2_27 fl2_28 3 iD iO tU fm fk fa fc ft ff fb fi]) H := hP
            have hD : va_D A (List.flatten [bMo g o a th hi ac tp (-1) en at2_27 fl2_28 3 iD iO tU fm fk fa fc ft ff fb fi]) := hD
            refine W.widen (k := 0) (n := 0) (Nat.le_of_ble_eq_true rfl) (Nat.le_of_ble_eq_true rfl) ?_
            refine W.eq (g2 := F0 m 26 ls [.int q_29]) rfl ?_
            obtain ⟨hq30_0, hq30_1, hq30_2, hq30_3⟩ := hq30
            rcases hq30_3 with ⟨rfl, hq30_k⟩ | ⟨hq30_k, hq30_km⟩
            · skip
              refine lv_istore_n (lv' := [(2, .int q_29), (0, .ref o), (1, .int x_5)]) hx hb dX12_every_26 rfl hl (by decide) rfl (fun ls hl => ?_)
              refine lv_iload_n hx hb dX12_every_27 rfl (lv_at hl 2 rfl) ?_
              refine lv_if_eq (tgt := 39) hx hb dX12_every_28 (by decide) (fun cb9 => ?_) (fun cb9 => ?_)
              · skip
                have c31 : x_5.toInt = 0 := zeq cb9 rfl (by decide)
                have n32 : x_5.toInt ≤ 0 := Int.le_trans (Int.le_of_eq c31) (Int.le_refl _)
                refine lv_iconst (v := 0) hx hb dX12_every_39 (by decide) ?_
                refine lv_istore_n (lv' := [(1, .int 0), (2, .int q_29), (0, .ref o)]) hx hb dX12_every_40 rfl hl (by decide) rfl (fun ls hl => ?_)
                refine lv_goto (tgt := 5) hx hb dX12_every_41 (by decide) ?_
                have hl := lv_sub (l' := [(0, .ref o), (1, .int 0), (2, .int q_29)]) hl [2, 0, 1] rfl
                have hL0 : (0 : Int32).toInt = 0 := by decide
                have hLn1 : ((-1) : Int32).toInt = (-1) := by decide
                have hP : va_P g.1 vwCl (List.flatten [bMo g o a th hi ac tp (-1) en at2_27 (-1) 3 iD iO tU fm fk fa fc ft ff fb fi]) H := hP
                have hD : va_D A (List.flatten [bMo g o a th hi ac tp (-1) en at2_27 (-1) 3 iD iO tU fm fk fa fc ft ff fb fi]) := hD
                exact ih5_16 0 at2_27 (-1) (by decide) (by first | omega | assumption | decide) (by decide) (by first | omega | assumption | decide) (by first | omega | assumption | decide) (by first | omega | assumption | decide) (Or.inl ⟨by decide, fun r9 h9 => zCo_w w21 (Or.inl hq25_k) hq25_km.1 (zCo_t hq30_k h9)⟩) H _ ls (by omega)  hP hD hS (lv_sub hl [0, 1] rfl)
              · skip
                have c33 : ¬ x_5.toInt = 0 := zne cb9 rfl (by decide)
                have n34 : 1 ≤ x_5.toInt := zN1 c33 i8.1 (by decide)
                refine lv_iload_n hx hb dX12_every_31 rfl (lv_at hl 0 rfl) ?_
                refine lv_if_eq (tgt := 39) hx hb dX12_every_32 (by decide) (fun cb9 => ?_) (fun cb9 => ?_)
                · skip
                  have c35 : q_29.toInt = 0 := zeq cb9 rfl (by decide)
                  have n36 : q_29.toInt ≤ 0 := Int.le_trans (Int.le_of_eq c35) (Int.le_refl _)
                  refine lv_iconst (v := 0) hx hb dX12_every_39 (by decide) ?_
                  refine lv_istore_n (lv' := [(1, .int 0), (2, .int q_29), (0, .ref o)]) hx hb dX12_every_40 rfl hl (by decide) rfl (fun ls hl => ?_)
                  refine lv_goto (tgt := 5) hx hb dX12_every_41 (by decide) ?_
                  have hl := lv_sub (l' := [(0, .ref o), (1, .int 0), (2, .int q_29)]) hl [2, 0, 1] rfl
                  have hL0 : (0 : Int32).toInt = 0 := by decide
                  have hLn1 : ((-1) : Int32).toInt = (-1) := by decide
                  have hP : va_P g.1 vwCl (List.flatten [bMo g o a th hi ac tp (-1) en at2_27 (-1) 3 iD iO tU fm fk fa fc ft ff fb fi]) H := hP
                  have hD : va_D A (List.flatten [bMo g o a th hi ac tp (-1) en at2_27 (-1) 3 iD iO tU fm fk fa fc ft ff fb fi]) := hD
                  exact ih5_16 0 at2_27 (-1) (by decide) (by first | omega | assumption | decide) (by decide) (by first | omega | assumption | decide) (by first | omega | assumption | decide) (by first | omega | assumption | decide) (Or.inl ⟨by decide, fun r9 h9 => zCo_w w21 (Or.inl hq25_k) hq25_km.1 (zCo_t hq30_k h9)⟩) H _ ls (by omega)  hP hD hS (lv_sub hl [0, 1] rfl)
                · skip
                  have c37 : ¬ q_29.toInt = 0 := zne cb9 rfl (by decide)
                  have n38 : 1 ≤ q_29.toInt := zN1 c37 hq30_2.1 (by decide)
                  refine lv_iconst (v := 1) hx hb dX12_every_35 (by decide) ?_
                  refine lv_goto (tgt := 40) hx hb dX12_every_36 (by decide) ?_
                  refine lv_istore_n (lv' := [(1, .int 1), (2, .int q_29), (0, .ref o)]) hx hb dX12_every_40 rfl hl (by decide) rfl (fun ls hl => ?_)
                  refine lv_goto (tgt := 5) hx hb dX12_every_41 (by decide) ?_
                  have hl := lv_sub (l' := [(0, .ref o), (1, .int 1), (2, .int q_29)]) hl [2, 0, 1] rfl
                  have hL1 : (1 : Int32).toInt = 1 := by decide
                  have hLn1 : ((-1) : Int32).toInt = (-1) := by decide
                  have hP : va_P g.1 vwCl (List.flatten [bMo g o a th hi ac tp (-1) en at2_27 (-1) 3 iD iO tU fm fk fa fc ft ff fb fi]) H := hP
                  have hD : va_D A (List.flatten [bMo g o a th hi ac tp (-1) en at2_27 (-1) 3 iD iO tU fm fk fa fc ft ff fb fi]) := hD
                  exact ih5_16 1 at2_27 (-1) (by decide) (by first | omega | assumption | decide) (by decide) (by first | omega | assumption | decide) (by first | omega | assumption | decide) (by first | omega | assumption | decide) (Or.inl ⟨by decide, fun r9 h9 => zCo_w w21 (Or.inl hq25_k) hq25_km.1 (zCo_t hq30_k h9)⟩) H _ ls (by omega)  hP hD hS (lv_sub hl [0, 1] rfl)
            · skip
              refine lv_istore_n (lv' := [(2, .int q_29), (0, .ref o), (1, .int x_5)]) hx hb dX12_every_26 rfl hl (by decide) rfl (fun ls hl => ?_)
              refine lv_iload_n hx hb dX12_every_27 rfl (lv_at hl 2 rfl) ?_
              refine lv_if_eq (tgt := 39) hx hb dX12_every_28 (by decide) (fun cb9 => ?_) (fun cb9 => ?_)
              · skip
                have c39 : x_5.toInt = 0 := zeq cb9 rfl (by decide)
                have n40 : x_5.toInt ≤ 0 := Int.le_trans (Int.le_of_eq c39) (Int.le_refl _)
                refine lv_iconst (v := 0) hx hb dX12_every_39 (by decide) ?_
                refine lv_istore_n (lv' := [(1, .int 0), (2, .int q_29), (0, .ref o)]) hx hb dX12_every_40 rfl hl (by decide) rfl (fun ls hl => ?_)
                refine lv_goto (tgt := 5) hx hb dX12_every_41 (by decide) ?_
                have hl := lv_sub (l' := [(0, .ref o), (1, .int 0), (2, .int q_29)]) hl [2, 0, 1] rfl
                have hL0 : (0 : Int32).toInt = 0 := by decide
                have hP : va_P g.1 vwCl (List.flatten [bMo g o a th hi ac tp (-1) en at2_27 fl2_28 3 iD iO tU fm fk fa fc ft ff fb fi]) H := hP
                have hD : va_D A (List.flatten [bMo g o a th hi ac tp (-1) en at2_27 fl2_28 3 iD iO tU fm fk fa fc ft ff fb fi]) := hD
                exact ih5_16 0 at2_27 fl2_28 (by decide) (by first | omega | assumption | decide) (Int.le_trans (by decide) hq30_k) (by first | omega | assumption | decide) (by first | omega | assumption | decide) (by first | omega | assumption | decide) (Or.inr ⟨hq30_k, zCo_w w21 (Or.inl hq25_k) hq25_km.1 (.wrong hq30_km)⟩) H _ ls (by omega)  hP hD hS (lv_sub hl [0, 1] rfl)
              · skip
                have c41 : ¬ x_5.toInt = 0 := zne cb9 rfl (by decide)
                have n42 : 1 ≤ x_5.toInt := zN1 c41 i8.1 (by decide)
                refine lv_iload_n hx hb dX12_every_31 rfl (lv_at hl 0 rfl) ?_
                refine lv_if_eq (tgt := 39) hx hb dX12_every_32 (by decide) (fun cb9 => ?_) (fun cb9 => ?_)
                · skip
                  have c43 : q_29.toInt = 0 := zeq cb9 rfl (by decide)
                  have n44 : q_29.toInt ≤ 0 := Int.le_trans (Int.le_of_eq c43) (Int.le_refl _)
                  refine lv_iconst (v := 0) hx hb dX12_every_39 (by decide) ?_
                  refine lv_istore_n (lv' := [(1, .int 0), (2, .int q_29), (0, .ref o)]) hx hb dX12_every_40 rfl hl (by decide) rfl (fun ls hl => ?_)
                  refine lv_goto (tgt := 5) hx hb dX12_every_41 (by decide) ?_
                  have hl := lv_sub (l' := [(0, .ref o), (1, .int 0), (2, .int q_29)]) hl [2, 0, 1] rfl
                  have hL0 : (0 : Int32).toInt = 0 := by decide
                  have hP : va_P g.1 vwCl (List.flatten [bMo g o a th hi ac tp (-1) en at2_27 fl2_28 3 iD iO tU fm fk fa fc ft ff fb fi]) H := hP
                  have hD : va_D A (List.flatten [bMo g o a th hi ac tp (-1) en at2_27 fl2_28 3 iD iO tU fm fk fa fc ft ff fb fi]) := hD
                  exact ih5_16 0 at2_27 fl2_28 (by decide) (by first | omega | assumption | decide) (Int.le_trans (by decide) hq30_k) (by first | omega | assumption | decide) (by first | omega | assumption | decide) (by first | omega | assumption | decide) (Or.inr ⟨hq30_k, zCo_w w21 (Or.inl hq25_k) hq25_km.1 (.wrong hq30_km)⟩) H _ ls (by omega)  hP hD hS (lv_sub hl [0, 1] rfl)
                · skip
                  have c45 : ¬ q_29.toInt = 0 := zne cb9 rfl (by decide)
                  have n46 : 1 ≤ q_29.toInt := zN1 c45 hq30_2.1 (by decide)
                  refine lv_iconst (v := 1) hx hb dX12_every_35 (by decide) ?_
                  refine lv_goto (tgt := 40) hx hb dX12_every_36 (by decide) ?_
                  refine lv_istore_n (lv' := [(1, .int 1), (2, .int q_29), (0, .ref o)]) hx hb dX12_every_40 rfl hl (by decide) rfl (fun ls hl => ?_)
                  refine lv_goto (tgt := 5) hx hb dX12_every_41 (by decide) ?_
                  have hl := lv_sub (l' := [(0, .ref o), (1, .int 1), (2, .int q_29)]) hl [2, 0, 1] rfl
                  have hL1 : (1 : Int32).toInt = 1 := by decide
                  have hP : va_P g.1 vwCl (List.flatten [bMo g o a th hi ac tp (-1) en at2_27 fl2_28 3 iD iO tU fm fk fa fc ft ff fb fi]) H := hP
                  have hD : va_D A (List.flatten [bMo g o a th hi ac tp (-1) en at2_27 fl2_28 3 iD iO tU fm fk fa fc ft ff fb fi]) := hD
                  exact ih5_16 1 at2_27 fl2_28 (by decide) (by first | omega | assumption | decide) (Int.le_trans (by decide) hq30_k) (by first | omega | assumption | decide) (by first | omega | assumption | decide) (by first | omega | assumption | decide) (Or.inr ⟨hq30_k, zCo_w w21 (Or.inl hq25_k) hq25_km.1 (.wrong hq30_km)⟩) H _ ls (by omega)  hP hD hS (lv_sub hl [0, 1] rfl)
          · skip
            refine lv_if_eq (tgt := 44) hx hb dX12_every_19 (by decide) (fun _ => ?_) (fun c47 => absurd (by decide) c47)
            refine lv_iload_n hx hb dX12_every_44 rfl (lv_at hl 1 rfl) ?_
            have hP : va_P g.1 vwCl (List.flatten [bMo g o a th hi ac tp (-1) en at2_23 (-1) 3 iD iO tU fm fk fa fc ft ff fb fi]) H := hP
            have hD : va_D A (List.flatten [bMo g o a th hi ac tp (-1) en at2_23 (-1) 3 iD iO tU fm fk fa fc ft ff fb fi]) := hD
            exact mret_z hx hb hr hlocks hS (Nat.le_of_ble_eq_true rfl) (Nat.le_of_ble_eq_true rfl) dX12_every_45 (at2_23, -1, x_5) rfl (by first | assumption | exact zb01 (by omega)) (show (0 ≤ at2_23.toInt ∧ at2_23.toInt ≤ en.toInt + 7 - 3) ∧ (tA.toInt ≤ at2_23.toInt) ∧ (0 ≤ x_5.toInt ∧ x_5.toInt ≤ 1) ∧ ((-1) = (-1) ∧ (¬ zisW ft en.toInt (zbg ft en.toInt at2_23.toInt) zwAnd ∧ ∀ r9, zCoT ft en.toInt (zAtom ft en.toInt 3) (zbg ft en.toInt at2_23.toInt) r9 → zCond ft en.toInt (zAtom ft en.toInt 3) (zbg ft en.toInt tA.toInt) r9) ∨ 0 ≤ ((-1) : Int32).toInt ∧ zCond ft en.toInt (zAtom ft en.toInt 3) (zbg ft en.toInt tA.toInt) (.bad ((-1) : Int32).toInt)) from ⟨(by first | assumption | omega | exact Or.inl (by decide) | exact Or.inr (by omega)), (by first | assumption | omega | exact Or.inl (by decide) | exact Or.inr (by omega)), (by first | assumption | decide | omega), (Or.inl ⟨rfl, zEv_end w21 hq25_k hq25_km⟩)⟩) hP hD
    have hLn1 : ((-1) : Int32).toInt = (-1) := by decide
    have hP : va_P g.1 vwCl (List.flatten [bMo g o a th hi ac tp (-1) en at2_1 (-1) 3 iD iO tU fm fk fa fc ft ff fb fi]) H := hP
    have hD : va_D A (List.flatten [bMo g o a th hi ac tp (-1) en at2_1 (-1) 3 iD iO tU fm fk fa fc ft ff fb fi]) := hD
    exact LP5_15 _ q_3 at2_1 (-1) ⟨hq4_2.1, hq4_2.2⟩ (by first | omega | assumption | decide) (by decide) hq4_1 (by first | omega | assumption | decide) (by first | omega | assumption | decide) (Or.inl ⟨by decide, fun r9 h9 => zCo_t hq4_k h9⟩) H _ ls (Nat.lt_succ_self _)  hP hD hS (lv_sub hl [0, 1] rfl)
  · skip
    refine lv_istore_n (lv' := [(1, .int q_3), (0, .ref o)]) hx hb dX12_every_4 rfl hl (by decide) rfl (fun ls hl => ?_)
    have hl := lv_sub (l' := [(0, .ref o), (1, .int q_3)]) hl [1, 0] rfl
    have LP5_58 : ∀ (kf : Nat) (x_48 : Int32) (x_49 : Int32) (x_50 : Int32), (0 ≤ x_48.toInt ∧ x_48.toInt ≤ 1) → (0 ≤ x_49.toInt ∧ x_49.toInt ≤ 407) → ((-1) ≤ x_50.toInt) → (tA.toInt ≤ x_49.toInt) → (x_49.toInt ≤ en.toInt + 7 - 3) → (-1 ≤ x_50.toInt) → ((x_50.toInt = -1 ∧ ∀ r9, zCoT ft en.toInt (zAtom ft en.toInt 3) (zbg ft en.toInt x_49.toInt) r9 → zCond ft en.toInt (zAtom ft en.toInt 3) (zbg ft en.toInt tA.toInt) r9) ∨ (0 ≤ x_50.toInt ∧ zCond ft en.toInt (zAtom ft en.toInt 3) (zbg ft en.toInt tA.toInt) (.bad x_50.toInt))) → ∀ (H : Heap) (locs : List Loc) (ls : Array Slot), ((en.toInt + 8 - x_49.toInt).toNat) < kf → va_P g.1 vwCl (List.flatten [bMo g o a th hi ac tp (-1) en x_49 x_50 3 iD iO tU fm fk fa fc ft ff fb fi]) H → va_D A (List.flatten [bMo g o a th hi ac tp (-1) en x_49 x_50 3 iD iO tU fm fk fa fc ft ff fb fi]) → va_S A s.heap H locs → lv_has ls 3 [(0, .ref o), (1, .int x_48)] → W p l e ({ frames := 18, cells := 0, slots := 0, locals := 397 } : Room) s m args below meth c H locs (0) (0) (zF g (fun u : Int32 × Int32 × Int32 => (fun (at2 : Int32) (fl2 : Int32) (q : Int32) => some (.int q)) (u.1) (u.2.1) (u.2.2)) (fun u : Int32 × Int32 × Int32 => (fun (at2 : Int32) (fl2 : Int32) (q : Int32) => (0 ≤ at2.toInt ∧ at2.toInt ≤ en.toInt + 7 - 3) ∧ (tA.toInt ≤ at2.toInt) ∧ (0 ≤ q.toInt ∧ q.toInt ≤ 1) ∧ ((-1) = fl2 ∧ (¬ zisW ft en.toInt (zbg ft en.toInt at2.toInt) zwAnd ∧ ∀ r9, zCoT ft en.toInt (zAtom ft en.toInt 3) (zbg ft en.toInt at2.toInt) r9 → zCond ft en.toInt (zAtom ft en.toInt 3) (zbg ft en.toInt tA.toInt) r9) ∨ 0 ≤ fl2.toInt ∧ zCond ft en.toInt (zAtom ft en.toInt 3) (zbg ft en.toInt tA.toInt) (.bad fl2.toInt))) (u.1) (u.2.1) (u.2.2)) (fun u : Int32 × Int32 × Int32 => (fun (at2 : Int32) (fl2 : Int32) (q : Int32) => [bMo g o a th hi ac tp (-1) en at2 fl2 3 iD iO tU fm fk fa fc ft ff fb fi]) (u.1) (u.2.1) (u.2.2)) ({ frames := 18, cells := 0, slots := 0, locals := 397 } : Room) below args s A) (F0 m 5 ls []) := by
      intro kf
      induction kf with
      | zero => intro x_48 x_49 x_50 i51 i52 i53 i54 i55 i56 i57 H locs ls hk; exact absurd hk (Nat.not_lt_zero _)
      | succ kf ih5_59 =>
        intro x_48 x_49 x_50 i51 i52 i53 i54 i55 i56 i57 H locs ls hk5_59 hP hD hS hl
        refine lv_aload_n hx hb dX12_every_5 rfl (lv_at hl 0 rfl) ?_
        refine va_get (D := g.1) (ci := 10) (v := .int x_50) (C := RX12) (T := TX12) (N := 20) hx hb hts izRX12 hown hK hP 0 rfl rfl 12 (by decide) (hts _ k820) (fun _ h9 => h9) rfl dX12_every_6 ?_
        refine lv_iconst (v := (-1)) hx hb dX12_every_9 (by decide) ?_
        refine lv_icmp_ne (tgt := 44) hx hb dX12_every_10 (by decide) (fun cb9 => ?_) (fun cb9 => ?_)
        · skip
          have c60 : ¬ x_50.toInt = (-1) := zne cb9 rfl (by decide)
          have n61 : 0 ≤ x_50.toInt := zN1 c60 i53 (by decide)
          refine lv_iload_n hx hb dX12_every_44 rfl (lv_at hl 1 rfl) ?_
          have hP : va_P g.1 vwCl (List.flatten [bMo g o a th hi ac tp (-1) en x_49 x_50 3 iD iO tU fm fk fa fc ft ff fb fi]) H := hP
          have hD : va_D A (List.flatten [bMo g o a th hi ac tp (-1) en x_49 x_50 3 iD iO tU fm fk fa fc ft ff fb fi]) := hD
          exact mret_z hx hb hr hlocks hS (Nat.le_of_ble_eq_true rfl) (Nat.le_of_ble_eq_true rfl) dX12_every_45 (x_49, x_50, x_48) rfl (by first | assumption | exact zb01 (by omega)) (show (0 ≤ x_49.toInt ∧ x_49.toInt ≤ en.toInt + 7 - 3) ∧ (tA.toInt ≤ x_49.toInt) ∧ (0 ≤ x_48.toInt ∧ x_48.toInt ≤ 1) ∧ ((-1) = x_50 ∧ (¬ zisW ft en.toInt (zbg ft en.toInt x_49.toInt) zwAnd ∧ ∀ r9, zCoT ft en.toInt (zAtom ft en.toInt 3) (zbg ft en.toInt x_49.toInt) r9 → zCond ft en.toInt (zAtom ft en.toInt 3) (zbg ft en.toInt tA.toInt) r9) ∨ 0 ≤ x_50.toInt ∧ zCond ft en.toInt (zAtom ft en.toInt 3) (zbg ft en.toInt tA.toInt) (.bad x_50.toInt)) from ⟨(by first | assumption | omega | exact Or.inl (by decide) | exact Or.inr (by omega)), (by first | assumption | omega | exact Or.inl (by decide) | exact Or.inr (by omega)), (by first | assumption | decide | omega), (Or.inr (i57.resolve_left (fun h9 => by have := h9.1; omega)))⟩) hP hD
        · skip
          have c62 : x_50.toInt = (-1) := zeq cb9 rfl (by decide)
          have n63 : x_50.toInt ≤ (-1) := Int.le_trans (Int.le_of_eq c62) (Int.le_refl _)
          have w64 : ∀ r9, zCoT ft en.toInt (zAtom ft en.toInt 3) (zbg ft en.toInt x_49.toInt) r9 → zCond ft en.toInt (zAtom ft en.toInt 3) (zbg ft en.toInt tA.toInt) r9 := (i57.resolve_right (fun h9 => by have := h9.1; omega)).2
          have w65 : x_50 = -1 := (zm1 (by omega)).symm
          subst w65
          refine lv_aload_n hx hb dX12_every_13 rfl (lv_at hl 0 rfl) ?_
          refine va_ldcS (q := g.2 100) hx hb hown (zra45 hT.2.1) dX12_every_14 ?_
          have hL3 : (3 : Int32).toInt = 3 := by decide
          refine mcallV' (g := g) (q0 := 0) (ci := 10) (As := [.ref (g.2 100)]) (rest := []) St hK hT hA hP hD hS hl.1 [0] [] rfl rfl rfl (m_hasF l g o a th hi ac tp en x_49 (-1) 3 iD iO tU fm fk fa fc ft ff fb fi (g.2 100) 45 zqa45 hen (by first | assumption | omega | decide | exact Or.inl (by decide) | exact Or.inr (by decide)) (by decide) rfl zla45 zna45 (zlitB zla45)) (cwV 1 hts (zgL (zl4 k899 k900 k901 k839) k889) rfl rfl rfl (by decide +kernel) ⟨Nat.le_of_ble_eq_true rfl, Nat.le_of_ble_eq_true rfl⟩) rfl rfl rfl rfl (Nat.le_of_ble_eq_true rfl) dX12_every_16 ⟨(Nat.le_of_ble_eq_true rfl), (Nat.le_of_ble_eq_true rfl)⟩ (fun u_ H locs hq68 hP hD hS => ?_)
          obtain ⟨at2_66, r_67⟩ := u_
          replace hq68 : (0 ≤ at2_66.toInt ∧ at2_66.toInt ≤ en.toInt + 7 - (3 : Int32).toInt) ∧ (x_49.toInt ≤ at2_66.toInt) ∧ (r_67 = 1 ∧ zisW ft en.toInt (zbg ft en.toInt x_49.toInt) zqa45.2.2.2 ∧ at2_66.toInt = znx ft en.toInt (zbg ft en.toInt x_49.toInt) ∧ x_49.toInt < at2_66.toInt ∧ at2_66.toInt ≤ en.toInt ∨ r_67 = 0 ∧ ¬ zisW ft en.toInt (zbg ft en.toInt x_49.toInt) zqa45.2.2.2 ∧ at2_66.toInt = zbg ft en.toInt x_49.toInt) := hq68
          have hP : va_P g.1 vwCl (List.flatten [bMo g o a th hi ac tp (-1) en at2_66 (-1) 3 iD iO tU fm fk fa fc ft ff fb fi]) H := hP
          have hD : va_D A (List.flatten [bMo g o a th hi ac tp (-1) en at2_66 (-1) 3 iD iO tU fm fk fa fc ft ff fb fi]) := hD
          refine W.widen (k := 0) (n := 0) (Nat.le_of_ble_eq_true rfl) (Nat.le_of_ble_eq_true rfl) ?_
          refine W.eq (g2 := F0 m 19 ls [.int r_67]) rfl ?_
          obtain ⟨hq68_0, hq68_1, hq68_2⟩ := hq68
          rcases hq68_2 with ⟨rfl, hq68_k, hq68_km⟩ | ⟨rfl, hq68_k, hq68_km⟩
          · skip
            refine lv_if_eq (tgt := 44) hx hb dX12_every_19 (by decide) (fun c69 => absurd c69 (by decide)) (fun _ => ?_)
            refine lv_aload_n hx hb dX12_every_22 rfl (lv_at hl 0 rfl) ?_
            refine mcallV' (g := g) (q0 := 0) (ci := 10) (As := []) (rest := []) St hK hT hA hP hD hS hl.1 [0] [] rfl rfl rfl (m_atom3F l g o a th hi ac tp en at2_66 iD iO tU fm fk fa fc ft ff fb fi hiD hiO hen (by first | assumption | omega | decide | exact Or.inl (by decide) | exact Or.inr (by decide)) hde) (cwV 0 hts (zgL (zl4 k951 k952 k953 k839) k962) rfl rfl rfl (by decide +kernel) ⟨Nat.le_of_ble_eq_true rfl, Nat.le_of_ble_eq_true rfl⟩) rfl rfl rfl rfl (Nat.le_of_ble_eq_true rfl) dX12_every_23 ⟨(Nat.le_of_ble_eq_true rfl), (Nat.le_of_ble_eq_true rfl)⟩ (fun u_ H locs hq73 hP hD hS => ?_)
            obtain ⟨at2_70, fl2_71, q_72⟩ := u_
            replace hq73 : (0 ≤ at2_70.toInt ∧ at2_70.toInt ≤ en.toInt + 7 - 3) ∧ (at2_66.toInt ≤ at2_70.toInt) ∧ (0 ≤ q_72.toInt ∧ q_72.toInt ≤ 1) ∧ ((-1) = fl2_71 ∧ zAtom ft en.toInt 3 (zbg ft en.toInt at2_66.toInt) (.ok (zbg ft en.toInt at2_70.toInt)) ∨ 0 ≤ fl2_71.toInt ∧ zAtom ft en.toInt 3 (zbg ft en.toInt at2_66.toInt) (.bad fl2_71.toInt)) := hq73
            have hP : va_P g.1 vwCl (List.flatten [bMo g o a th hi ac tp (-1) en at2_70 fl2_71 3 iD iO tU fm fk fa fc ft ff fb fi]) H := hP
            have hD : va_D A (List.flatten [bMo g o a th hi ac tp (-1) en at2_70 fl2_71 3 iD iO tU fm fk fa fc ft ff fb fi]) := hD
            refine W.widen (k := 0) (n := 0) (Nat.le_of_ble_eq_true rfl) (Nat.le_of_ble_eq_true rfl) ?_
            refine W.eq (g2 := F0 m 26 ls [.int q_72]) rfl ?_
            obtain ⟨hq73_0, hq73_1, hq73_2, hq73_3⟩ := hq73
            rcases hq73_3 with ⟨rfl, hq73_k⟩ | ⟨hq73_k, hq73_km⟩
            · skip
              refine lv_istore_n (lv' := [(2, .int q_72), (0, .ref o), (1, .int x_48)]) hx hb dX12_every_26 rfl hl (by decide) rfl (fun ls hl => ?_)
              refine lv_iload_n hx hb dX12_every_27 rfl (lv_at hl 2 rfl) ?_
              refine lv_if_eq (tgt := 39) hx hb dX12_every_28 (by decide) (fun cb9 => ?_) (fun cb9 => ?_)
              · skip
                have c74 : x_48.toInt = 0 := zeq cb9 rfl (by decide)
                have n75 : x_48.toInt ≤ 0 := Int.le_trans (Int.le_of_eq c74) (Int.le_refl _)
                refine lv_iconst (v := 0) hx hb dX12_every_39 (by decide) ?_
                refine lv_istore_n (lv' := [(1, .int 0), (2, .int q_72), (0, .ref o)]) hx hb dX12_every_40 rfl hl (by decide) rfl (fun ls hl => ?_)
                refine lv_goto (tgt := 5) hx hb dX12_every_41 (by decide) ?_
                have hl := lv_sub (l' := [(0, .ref o), (1, .int 0), (2, .int q_72)]) hl [2, 0, 1] rfl
                have hL0 : (0 : Int32).toInt = 0 := by decide
                have hLn1 : ((-1) : Int32).toInt = (-1) := by decide
                have hP : va_P g.1 vwCl (List.flatten [bMo g o a th hi ac tp (-1) en at2_70 (-1) 3 iD iO tU fm fk fa fc ft ff fb fi]) H := hP
                have hD : va_D A (List.flatten [bMo g o a th hi ac tp (-1) en at2_70 (-1) 3 iD iO tU fm fk fa fc ft ff fb fi]) := hD
                exact ih5_59 0 at2_70 (-1) (by decide) (by first | omega | assumption | decide) (by decide) (by first | omega | assumption | decide) (by first | omega | assumption | decide) (by first | omega | assumption | decide) (Or.inl ⟨by decide, fun r9 h9 => zCo_w w64 (Or.inl hq68_k) hq68_km.1 (zCo_t hq73_k h9)⟩) H _ ls (by omega)  hP hD hS (lv_sub hl [0, 1] rfl)
              · skip
                have c76 : ¬ x_48.toInt = 0 := zne cb9 rfl (by decide)
                have n77 : 1 ≤ x_48.toInt := zN1 c76 i51.1 (by decide)
                refine lv_iload_n hx hb dX12_every_31 rfl (lv_at hl 0 rfl) ?_
                refine lv_if_eq (tgt := 39) hx hb dX12_every_32 (by decide) (fun cb9 => ?_) (fun cb9 => ?_)
                · skip
                  have c78 : q_72.toInt = 0 := zeq cb9 rfl (by decide)
                  have n79 : q_72.toInt ≤ 0 := Int.le_trans (Int.le_of_eq c78) (Int.le_refl _)
                  refine lv_iconst (v := 0) hx hb dX12_every_39 (by decide) ?_
                  refine lv_istore_n (lv' := [(1, .int 0), (2, .int q_72), (0, .ref o)]) hx hb dX12_every_40 rfl hl (by decide) rfl (fun ls hl => ?_)
                  refine lv_goto (tgt := 5) hx hb dX12_every_41 (by decide) ?_
                  have hl := lv_sub (l' := [(0, .ref o), (1, .int 0), (2, .int q_72)]) hl [2, 0, 1] rfl
                  have hL0 : (0 : Int32).toInt = 0 := by decide
                  have hLn1 : ((-1) : Int32).toInt = (-1) := by decide
                  have hP : va_P g.1 vwCl (List.flatten [bMo g o a th hi ac tp (-1) en at2_70 (-1) 3 iD iO tU fm fk fa fc ft ff fb fi]) H := hP
                  have hD : va_D A (List.flatten [bMo g o a th hi ac tp (-1) en at2_70 (-1) 3 iD iO tU fm fk fa fc ft ff fb fi]) := hD
                  exact ih5_59 0 at2_70 (-1) (by decide) (by first | omega | assumption | decide) (by decide) (by first | omega | assumption | decide) (by first | omega | assumption | decide) (by first | omega | assumption | decide) (Or.inl ⟨by decide, fun r9 h9 => zCo_w w64 (Or.inl hq68_k) hq68_km.1 (zCo_t hq73_k h9)⟩) H _ ls (by omega)  hP hD hS (lv_sub hl [0, 1] rfl)
                · skip
                  have c80 : ¬ q_72.toInt = 0 := zne cb9 rfl (by decide)
                  have n81 : 1 ≤ q_72.toInt := zN1 c80 hq73_2.1 (by decide)
                  refine lv_iconst (v := 1) hx hb dX12_every_35 (by decide) ?_
                  refine lv_goto (tgt := 40) hx hb dX12_every_36 (by decide) ?_
                  refine lv_istore_n (lv' := [(1, .int 1), (2, .int q_72), (0, .ref o)]) hx hb dX12_every_40 rfl hl (by decide) rfl (fun ls hl => ?_)
                  refine lv_goto (tgt := 5) hx hb dX12_every_41 (by decide) ?_
                  have hl := lv_sub (l' := [(0, .ref o), (1, .int 1), (2, .int q_72)]) hl [2, 0, 1] rfl
                  have hL1 : (1 : Int32).toInt = 1 := by decide
                  have hLn1 : ((-1) : Int32).toInt = (-1) := by decide
                  have hP : va_P g.1 vwCl (List.flatten [bMo g o a th hi ac tp (-1) en at2_70 (-1) 3 iD iO tU fm fk fa fc ft ff fb fi]) H := hP
                  have hD : va_D A (List.flatten [bMo g o a th hi ac tp (-1) en at2_70 (-1) 3 iD iO tU fm fk fa fc ft ff fb fi]) := hD
                  exact ih5_59 1 at2_70 (-1) (by decide) (by first | omega | assumption | decide) (by decide) (by first | omega | assumption | decide) (by first | omega | assumption | decide) (by first | omega | assumption | decide) (Or.inl ⟨by decide, fun r9 h9 => zCo_w w64 (Or.inl hq68_k) hq68_km.1 (zCo_t hq73_k h9)⟩) H _ ls (by omega)  hP hD hS (lv_sub hl [0, 1] rfl)
            · skip
              refine lv_istore_n (lv' := [(2, .int q_72), (0, .ref o), (1, .int x_48)]) hx hb dX12_every_26 rfl hl (by decide) rfl (fun ls hl => ?_)
              refine lv_iload_n hx hb dX12_every_27 rfl (lv_at hl 2 rfl) ?_
              refine lv_if_eq (tgt := 39) hx hb dX12_every_28 (by decide) (fun cb9 => ?_) (fun cb9 => ?_)
              · skip
                have c82 : x_48.toInt = 0 := zeq cb9 rfl (by decide)
                have n83 : x_48.toInt ≤ 0 := Int.le_trans (Int.le_of_eq c82) (Int.le_refl _)
                refine lv_iconst (v := 0) hx hb dX12_every_39 (by decide) ?_
                refine lv_istore_n (lv' := [(1, .int 0), (2, .int q_72), (0, .ref o)]) hx hb dX12_every_40 rfl hl (by decide) rfl (fun ls hl => ?_)
                refine lv_goto (tgt := 5) hx hb dX12_every_41 (by decide) ?_
                have hl := lv_sub (l' := [(0, .ref o), (1, .int 0), (2, .int q_72)]) hl [2, 0, 1] rfl
                have hL0 : (0 : Int32).toInt = 0 := by decide
                have hP : va_P g.1 vwCl (List.flatten [bMo g o a th hi ac tp (-1) en at2_70 fl2_71 3 iD iO tU fm fk fa fc ft ff fb fi]) H := hP
                have hD : va_D A (List.flatten [bMo g o a th hi ac tp (-1) en at2_70 fl2_71 3 iD iO tU fm fk fa fc ft ff fb fi]) := hD
                exact ih5_59 0 at2_70 fl2_71 (by decide) (by first | omega | assumption | decide) (Int.le_trans (by decide) hq73_k) (by first | omega | assumption | decide) (by first | omega | assumption | decide) (by first | omega | assumption | decide) (Or.inr ⟨hq73_k, zCo_w w64 (Or.inl hq68_k) hq68_km.1 (.wrong hq73_km)⟩) H _ ls (by omega)  hP hD hS (lv_sub hl [0, 1] rfl)
              · skip
                have c84 : ¬ x_48.toInt = 0 := zne cb9 rfl (by decide)
                have n85 : 1 ≤ x_48.toInt := zN1 c84 i51.1 (by decide)
                refine lv_iload_n hx hb dX12_every_31 rfl (lv_at hl 0 rfl) ?_
                refine lv_if_eq (tgt := 39) hx hb dX12_every_32 (by decide) (fun cb9 => ?_) (fun cb9 => ?_)
                · skip
                  have c86 : q_72.toInt = 0 := zeq cb9 rfl (by decide)
                  have n87 : q_72.toInt ≤ 0 := Int.le_trans (Int.le_of_eq c86) (Int.le_refl _)
                  refine lv_iconst (v := 0) hx hb dX12_every_39 (by decide) ?_
                  refine lv_istore_n (lv' := [(1, .int 0), (2, .int q_72), (0, .ref o)]) hx hb dX12_every_40 rfl hl (by decide) rfl (fun ls hl => ?_)
                  refine lv_goto (tgt := 5) hx hb dX12_every_41 (by decide) ?_
                  have hl := lv_sub (l' := [(0, .ref o), (1, .int 0), (2, .int q_72)]) hl [2, 0, 1] rfl
                  have hL0 : (0 : Int32).toInt = 0 := by decide
                  have hP : va_P g.1 vwCl (List.flatten [bMo g o a th hi ac tp (-1) en at2_70 fl2_71 3 iD iO tU fm fk fa fc ft ff fb fi]) H := hP
                  have hD : va_D A (List.flatten [bMo g o a th hi ac tp (-1) en at2_70 fl2_71 3 iD iO tU fm fk fa fc ft ff fb fi]) := hD
                  exact ih5_59 0 at2_70 fl2_71 (by decide) (by first | omega | assumption | decide) (Int.le_trans (by decide) hq73_k) (by first | omega | assumption | decide) (by first | omega | assumption | decide) (by first | omega | assumption | decide) (Or.inr ⟨hq73_k, zCo_w w64 (Or.inl hq68_k) hq68_km.1 (.wrong hq73_km)⟩) H _ ls (by omega)  hP hD hS (lv_sub hl [0, 1] rfl)
                · skip
                  have c88 : ¬ q_72.toInt = 0 := zne cb9 rfl (by decide)
                  have n89 : 1 ≤ q_72.toInt := zN1 c88 hq73_2.1 (by decide)
                  refine lv_iconst (v := 1) hx hb dX12_every_35 (by decide) ?_
                  refine lv_goto (tgt := 40) hx hb dX12_every_36 (by decide) ?_
                  refine lv_istore_n (lv' := [(1, .int 1), (2, .int q_72), (0, .ref o)]) hx hb dX12_every_40 rfl hl (by decide) rfl (fun ls hl => ?_)
                  refine lv_goto (tgt := 5) hx hb dX12_every_41 (by decide) ?_
                  have hl := lv_sub (l' := [(0, .ref o), (1, .int 1), (2, .int q_72)]) hl [2, 0, 1] rfl
                  have hL1 : (1 : Int32).toInt = 1 := by decide
                  have hP : va_P g.1 vwCl (List.flatten [bMo g o a th hi ac tp (-1) en at2_70 fl2_71 3 iD iO tU fm fk fa fc ft ff fb fi]) H := hP
                  have hD : va_D A (List.flatten [bMo g o a th hi ac tp (-1) en at2_70 fl2_71 3 iD iO tU fm fk fa fc ft ff fb fi]) := hD
                  exact ih5_59 1 at2_70 fl2_71 (by decide) (by first | omega | assumption | decide) (Int.le_trans (by decide) hq73_k) (by first | omega | assumption | decide) (by first | omega | assumption | decide) (by first | omega | assumption | decide) (Or.inr ⟨hq73_k, zCo_w w64 (Or.inl hq68_k) hq68_km.1 (.wrong hq73_km)⟩) H _ ls (by omega)  hP hD hS (lv_sub hl [0, 1] rfl)
          · skip
            refine lv_if_eq (tgt := 44) hx hb dX12_every_19 (by decide) (fun _ => ?_) (fun c90 => absurd (by decide) c90)
            refine lv_iload_n hx hb dX12_every_44 rfl (lv_at hl 1 rfl) ?_
            have hP : va_P g.1 vwCl (List.flatten [bMo g o a th hi ac tp (-1) en at2_66 (-1) 3 iD iO tU fm fk fa fc ft ff fb fi]) H := hP
            have hD : va_D A (List.flatten [bMo g o a th hi ac tp (-1) en at2_66 (-1) 3 iD iO tU fm fk fa fc ft ff fb fi]) := hD
            exact mret_z hx hb hr hlocks hS (Nat.le_of_ble_eq_true rfl) (Nat.le_of_ble_eq_true rfl) dX12_every_45 (at2_66, -1, x_48) rfl (by first | assumption | exact zb01 (by omega)) (show (0 ≤ at2_66.toInt ∧ at2_66.toInt ≤ en.toInt + 7 - 3) ∧ (tA.toInt ≤ at2_66.toInt) ∧ (0 ≤ x_48.toInt ∧ x_48.toInt ≤ 1) ∧ ((-1) = (-1) ∧ (¬ zisW ft en.toInt (zbg ft en.toInt at2_66.toInt) zwAnd ∧ ∀ r9, zCoT ft en.toInt (zAtom ft en.toInt 3) (zbg ft en.toInt at2_66.toInt) r9 → zCond ft en.toInt (zAtom ft en.toInt 3) (zbg ft en.toInt tA.toInt) r9) ∨ 0 ≤ ((-1) : Int32).toInt ∧ zCond ft en.toInt (zAtom ft en.toInt 3) (zbg ft en.toInt tA.toInt) (.bad ((-1) : Int32).toInt)) from ⟨(by first | assumption | omega | exact Or.inl (by decide) | exact Or.inr (by omega)), (by first | assumption | omega | exact Or.inl (by decide) | exact Or.inr (by omega)), (by first | assumption | decide | omega), (Or.inl ⟨rfl, zEv_end w64 hq68_k hq68_km⟩)⟩) hP hD
    have hP : va_P g.1 vwCl (List.flatten [bMo g o a th hi ac tp (-1) en at2_1 fl2_2 3 iD iO tU fm fk fa fc ft ff fb fi]) H := hP
    have hD : va_D A (List.flatten [bMo g o a th hi ac tp (-1) en at2_1 fl2_2 3 iD iO tU fm fk fa fc ft ff fb fi]) := hD
    exact LP5_58 _ q_3 at2_1 fl2_2 ⟨hq4_2.1, hq4_2.2⟩ (by first | omega | assumption | decide) (Int.le_trans (by decide) hq4_k) hq4_1 (by first | omega | assumption | decide) (by first | omega | assumption | decide) (Or.inr ⟨hq4_k, .wrong hq4_km⟩) H _ ls (Nat.lt_succ_self _)  hP hD hS (lv_sub hl [0, 1] rfl)
set_option maxRecDepth 100000 in
set_option maxHeartbeats 4000000 in
theorem m_some3F (l : Launch) (g : zG) (o : Nat) (a : Nat → Nat) (th : Int32) (hi : Int32) (ac : Int32) (tp : Int32) (en : Int32) (tA : Int32) (iD : Int32) (iO : Int32) (tU : Int32) (fm : Nat → Int32) (fk : Nat → Int32) (fa : Nat → Int32) (fc : Nat → Int32) (ft : Nat → Int32) (ff : Nat → Int32) (fb : Nat → Int32) (fi : Nat → Int32) (hiD : 0 ≤ iD.toInt ∧ iD.toInt ≤ 1) (hiO : 0 ≤ iO.toInt ∧ iO.toInt ≤ 1) (hen : 0 ≤ en.toInt ∧ en.toInt ≤ 400) (htA : 0 ≤ tA.toInt ∧ tA.toInt ≤ en.toInt + 7 - 3) (hde : 0 ≤ 3 ∧ 3 ≤ 6) : zM' g l yX12_some (Cond.code yX12_some cX12_some 3 (some .boolean) :: zB) ({ frames := 19, cells := 0, slots := 0, locals := 419 } : Room) [.ref o] [bMo g o a th hi ac tp (-1) en tA (-1) 3 iD iO tU fm fk fa fc ft ff fb fi] (fun u : Int32 × Int32 × Int32 => (fun (at2 : Int32) (fl2 : Int32) (q : Int32) => some (.int q)) (u.1) (u.2.1) (u.2.2)) (fun u : Int32 × Int32 × Int32 => (fun (at2 : Int32) (fl2 : Int32) (q : Int32) => (0 ≤ at2.toInt ∧ at2.toInt ≤ en.toInt + 7 - 3) ∧ (tA.toInt ≤ at2.toInt) ∧ (0 ≤ q.toInt ∧ q.toInt ≤ 1) ∧ ((-1) = fl2 ∧ zCond ft en.toInt (zAtom ft en.toInt 3) (zbg ft en.toInt tA.toInt) (.ok (zbg ft en.toInt at2.toInt)) ∨ 0 ≤ fl2.toInt ∧ zCond ft en.toInt (zAtom ft en.toInt 3) (zbg ft en.toInt tA.toInt) (.bad fl2.toInt))) (u.1) (u.2.1) (u.2.2)) (fun u : Int32 × Int32 × Int32 => (fun (at2 : Int32) (fl2 : Int32) (q : Int32) => [bMo g o a th hi ac tp (-1) en at2 fl2 3 iD iO tU fm fk fa fc ft ff fb fi]) (u.1) (u.2.1) (u.2.2)) := by
  refine zM'.of (cc := cX12_some) (maxL := 3) (rt := (some .boolean)) (by decide) rfl (Nat.le_of_ble_eq_true rfl) ?_
  intro p e s m args below meth c A ls St hr hlocks hin hK hT hA hP hD hS hl
  obtain ⟨hx, hb, hml, hown, hts⟩ := id St
  have hl : lv_has ls 3 [(0, .ref o)] := hl
  refine lv_aload_n hx hb dX12_some_0 rfl (lv_at hl 0 rfl) ?_
  refine mcallV' (g := g) (q0 := 0) (ci := 10) (As := []) (rest := []) St hK hT hA hP hD hS hl.1 [0] [] rfl rfl rfl (m_every3F l g o a th hi ac tp en tA iD iO tU fm fk fa fc ft ff fb fi hiD hiO hen htA hde) (cwV 0 hts (zgL (zl4 k959 k960 k961 k839) k957) rfl rfl rfl (by decide +kernel) ⟨Nat.le_of_ble_eq_true rfl, Nat.le_of_ble_eq_true rfl⟩) rfl rfl rfl rfl (Nat.le_of_ble_eq_true rfl) dX12_some_1 ⟨(Nat.le_of_ble_eq_true rfl), (Nat.le_of_ble_eq_true rfl)⟩ (fun u_ H locs hq4 hP hD hS => ?_)
  obtain ⟨at2_1, fl2_2, q_3⟩ := u_
  replace hq4 : (0 ≤ at2_1.toInt ∧ at2_1.toInt ≤ en.toInt + 7 - 3) ∧ (tA.toInt ≤ at2_1.toInt) ∧ (0 ≤ q_3.toInt ∧ q_3.toInt ≤ 1) ∧ ((-1) = fl2_2 ∧ (¬ zisW ft en.toInt (zbg ft en.toInt at2_1.toInt) zwAnd ∧ ∀ r9, zCoT ft en.toInt (zAtom ft en.toInt 3) (zbg ft en.toInt at2_1.toInt) r9 → zCond ft en.toInt (zAtom ft en.toInt 3) (zbg ft en.toInt tA.toInt) r9) ∨ 0 ≤ fl2_2.toInt ∧ zCond ft en.toInt (zAtom ft en.toInt 3) (zbg ft en.toInt tA.toInt) (.bad fl2_2.toInt)) := hq4
  have hP : va_P g.1 vwCl (List.flatten [bMo g o a th hi ac tp (-1) en at2_1 fl2_2 3 iD iO tU fm fk fa fc ft ff fb fi]) H := hP
  have hD : va_D A (List.flatten [bMo g o a th hi ac tp (-1) en at2_1 fl2_2 3 iD iO tU fm fk fa fc ft ff fb fi]) := hD
  refine W.widen (k := 0) (n := 0) (Nat.le_of_ble_eq_true rfl) (Nat.le_of_ble_eq_true rfl) ?_
  refine W.eq (g2 := F0 m 4 ls [.int q_3]) rfl ?_
  obtain ⟨hq4_0, hq4_1, hq4_2, hq4_3⟩ := hq4
  rcases hq4_3 with ⟨rfl, hq4_k⟩ | ⟨hq4_k, hq4_km⟩
  · skip
    refine lv_istore_n (lv' := [(1, .int q_3), (0, .ref o)]) hx hb dX12_some_4 rfl hl (by decide) rfl (fun ls hl => ?_)
    have hl := lv_sub (l' := [(0, .ref o), (1, .int q_3)]) hl [1, 0] rfl
    have LP5_15 : ∀ (kf : Nat) (x_5 : Int32) (x_6 : Int32) (x_7 : Int32), (0 ≤ x_5.toInt ∧ x_5.toInt ≤ 1) → (0 ≤ x_6.toInt ∧ x_6.toInt ≤ 407) → ((-1) ≤ x_7.toInt) → (tA.toInt ≤ x_6.toInt) → (x_6.toInt ≤ en.toInt + 7 - 3) → (-1 ≤ x_7.toInt) → ((x_7.toInt = -1 ∧ ¬ zisW ft en.toInt (zbg ft en.toInt x_6.toInt) zwAnd ∧ ∀ r9, zCoT ft en.toInt (zAtom ft en.toInt 3) (zbg ft en.toInt x_6.toInt) r9 → zCond ft en.toInt (zAtom ft en.toInt 3) (zbg ft en.toInt tA.toInt) r9) ∨ (0 ≤ x_7.toInt ∧ zCond ft en.toInt (zAtom ft en.toInt 3) (zbg ft en.toInt tA.toInt) (.bad x_7.toInt))) → ∀ (H : Heap) (locs : List Loc) (ls : Array Slot), ((en.toInt + 8 - x_6.toInt).toNat) < kf → va_P g.1 vwCl (List.flatten [bMo g o a th hi ac tp (-1) en x_6 x_7 3 iD iO tU fm fk fa fc ft ff fb fi]) H → va_D A (List.flatten [bMo g o a th hi ac tp (-1) en x_6 x_7 3 iD iO tU fm fk fa fc ft ff fb fi]) → va_S A s.heap H locs → lv_has ls 3 [(0, .ref o), (1, .int x_5)] → W p l e ({ frames := 19, cells := 0, slots := 0, locals := 419 } : Room) s m args below meth c H locs (0) (0) (zF g (fun u : Int32 × Int32 × Int32 => (fun (at2 : Int32) (fl2 : Int32) (q : Int32) => some (.int q)) (u.1) (u.2.1) (u.2.2)) (fun u : Int32 × Int32 × Int32 => (fun (at2 : Int32) (fl2 : Int32) (q : Int32) => (0 ≤ at2.toInt ∧ at2.toInt ≤ en.toInt + 7 - 3) ∧ (tA.toInt ≤ at2.toInt) ∧ (0 ≤ q.toInt ∧ q.toInt ≤ 1) ∧ ((-1) = fl2 ∧ zCond ft en.toInt (zAtom ft en.toInt 3) (zbg ft en.toInt tA.toInt) (.ok (zbg ft en.toInt at2.toInt)) ∨ 0 ≤ fl2.toInt ∧ zCond ft en.toInt (zAtom ft en.toInt 3) (zbg ft en.toInt tA.toInt) (.bad fl2.toInt))) (u.1) (u.2.1) (u.2.2)) (fun u : Int32 × Int32 × Int32 => (fun (at2 : Int32) (fl2 : Int32) (q : Int32) => [bMo g o a th hi ac tp (-1) en at2 fl2 3 iD iO tU fm fk fa fc ft ff fb fi]) (u.1) (u.2.1) (u.2.2)) ({ frames := 19, cells := 0, slots := 0, locals := 419 } : Room) below args s A) (F0 m 5 ls []) := by
      intro kf
      induction kf with
      | zero => intro x_5 x_6 x_7 i8 i9 i10 i11 i12 i13 i14 H locs ls hk; exact absurd hk (Nat.not_lt_zero _)
      | succ kf ih5_16 =>
        intro x_5 x_6 x_7 i8 i9 i10 i11 i12 i13 i14 H locs ls hk5_16 hP hD hS hl
        refine lv_aload_n hx hb dX12_some_5 rfl (lv_at hl 0 rfl) ?_
        refine va_get (D := g.1) (ci := 10) (v := .int x_7) (C := RX12) (T := TX12) (N := 20) hx hb hts izRX12 hown hK hP 0 rfl rfl 12 (by decide) (hts _ k820) (fun _ h9 => h9) rfl dX12_some_6 ?_
        refine lv_iconst (v := (-1)) hx hb dX12_some_9 (by decide) ?_
        refine lv_icmp_ne (tgt := 44) hx hb dX12_some_10 (by decide) (fun cb9 => ?_) (fun cb9 => ?_)
        · skip
          have c17 : ¬ x_7.toInt = (-1) := zne cb9 rfl (by decide)
          have n18 : 0 ≤ x_7.toInt := zN1 c17 i10 (by decide)
          refine lv_iload_n hx hb dX12_some_44 rfl (lv_at hl 1 rfl) ?_
          have hP : va_P g.1 vwCl (List.flatten [bMo g o a th hi ac tp (-1) en x_6 x_7 3 iD iO tU fm fk fa fc ft ff fb fi]) H := hP
          have hD : va_D A (List.flatten [bMo g o a th hi ac tp (-1) en x_6 x_7 3 iD iO tU fm fk fa fc ft ff fb fi]) := hD
          exact mret_z hx hb hr hlocks hS (Nat.le_of_ble_eq_true rfl) (Nat.le_of_ble_eq_true rfl) dX12_some_45 (x_6, x_7, x_5) rfl (by first | assumption | exact zb01 (by omega)) (show (0 ≤ x_6.toInt ∧ x_6.toInt ≤ en.toInt + 7 - 3) ∧ (tA.toInt ≤ x_6.toInt) ∧ (0 ≤ x_5.toInt ∧ x_5.toInt ≤ 1) ∧ ((-1) = x_7 ∧ zCond ft en.toInt (zAtom ft en.toInt 3) (zbg ft en.toInt tA.toInt) (.ok (zbg ft en.toInt x_6.toInt)) ∨ 0 ≤ x_7.toInt ∧ zCond ft en.toInt (zAtom ft en.toInt 3) (zbg ft en.toInt tA.toInt) (.bad x_7.toInt)) from ⟨(by first | assumption | omega | exact Or.inl (by decide) | exact Or.inr (by omega)), (by first | assumption | omega | exact Or.inl (by decide) | exact Or.inr (by omega)), (by first | assumption | decide | omega), (Or.inr (i14.resolve_left (fun h9 => by have := h9.1; omega)))⟩) hP hD
        · skip
          have c19 : x_7.toInt = (-1) := zeq cb9 rfl (by decide)
          have n20 : x_7.toInt ≤ (-1) := Int.le_trans (Int.le_of_eq c19) (Int.le_refl _)
          have w21 : ¬ zisW ft en.toInt (zbg ft en.toInt x_6.toInt) zwAnd := (i14.resolve_right (fun h9 => by have := h9.1; omega)).2.1
          have w21I := i14.imp_left (fun h9 => (⟨h9.1, h9.2.2⟩ : _ ∧ _))
          have w22 : ∀ r9, zCoT ft en.toInt (zAtom ft en.toInt 3) (zbg ft en.toInt x_6.toInt) r9 → zCond ft en.toInt (zAtom ft en.toInt 3) (zbg ft en.toInt tA.toInt) r9 := (w21I.resolve_right (fun h9 => by have := h9.1; omega)).2
          have w23 : x_7 = -1 := (zm1 (by omega)).symm
          subst w23
          refine lv_aload_n hx hb dX12_some_13 rfl (lv_at hl 0 rfl) ?_
          refine va_ldcS (q := g.2 102) hx hb hown (zra46 hT.2.1) dX12_some_14 ?_
          have hL3 : (3 : Int32).toInt = 3 := by decide
          refine mcallV' (g := g) (q0 := 0) (ci := 10) (As := [.ref (g.2 102)]) (rest := []) St hK hT hA hP hD hS hl.1 [0] [] rfl rfl rfl (m_hasF l g o a th hi ac tp en x_6 (-1) 3 iD iO tU fm fk fa fc ft ff fb fi (g.2 102) 46 zqa46 hen (by first | assumption | omega | decide | exact Or.inl (by decide) | exact Or.inr (by decide)) (by decide) rfl zla46 zna46 (zlitB zla46)) (cwV 1 hts (zgL (zl4 k899 k900 k901 k839) k889) rfl rfl rfl (by decide +kernel) ⟨Nat.le_of_ble_eq_true rfl, Nat.le_of_ble_eq_true rfl⟩) rfl rfl rfl rfl (Nat.le_of_ble_eq_true rfl) dX12_some_16 ⟨(Nat.le_of_ble_eq_true rfl), (Nat.le_of_ble_eq_true rfl)⟩ (fun u_ H locs hq26 hP hD hS => ?_)
          obtain ⟨at2_24, r_25⟩ := u_
          replace hq26 : (0 ≤ at2_24.toInt ∧ at2_24.toInt ≤ en.toInt + 7 - (3 : Int32).toInt) ∧ (x_6.toInt ≤ at2_24.toInt) ∧ (r_25 = 1 ∧ zisW ft en.toInt (zbg ft en.toInt x_6.toInt) zqa46.2.2.2 ∧ at2_24.toInt = znx ft en.toInt (zbg ft en.toInt x_6.toInt) ∧ x_6.toInt < at2_24.toInt ∧ at2_24.toInt ≤ en.toInt ∨ r_25 = 0 ∧ ¬ zisW ft en.toInt (zbg ft en.toInt x_6.toInt) zqa46.2.2.2 ∧ at2_24.toInt = zbg ft en.toInt x_6.toInt) := hq26
          have hP : va_P g.1 vwCl (List.flatten [bMo g o a th hi ac tp (-1) en at2_24 (-1) 3 iD iO tU fm fk fa fc ft ff fb fi]) H := hP
          have hD : va_D A (List.flatten [bMo g o a th hi ac tp (-1) en at2_24 (-1) 3 iD iO tU fm fk fa fc ft ff fb fi]) := hD
          refine W.widen (k := 0) (n := 0) (Nat.le_of_ble_eq_true rfl) (Nat.le_of_ble_eq_true rfl) ?_
          refine W.eq (g2 := F0 m 19 ls [.int r_25]) rfl ?_
          obtain ⟨hq26_0, hq26_1, hq26_2⟩ := hq26
          rcases hq26_2 with ⟨rfl, hq26_k, hq26_km⟩ | ⟨rfl, hq26_k, hq26_km⟩
          · skip
            refine lv_if_eq (tgt := 44) hx hb dX12_some_19 (by decide) (fun c27 => absurd c27 (by decide)) (fun _ => ?_)
            refine lv_aload_n hx hb dX12_some_22 rfl (lv_at hl 0 rfl) ?_
            refine mcallV' (g := g) (q0 := 0) (ci := 10) (As := []) (rest := []) St hK hT hA hP hD hS hl.1 [0] [] rfl rfl rfl (m_every3F l g o a th hi ac tp en at2_24 iD iO tU fm fk fa fc ft ff fb fi hiD hiO hen (by first | assumption | omega | decide | exact Or.inl (by decide) | exact Or.inr (by decide)) hde) (cwV 0 hts (zgL (zl4 k959 k960 k961 k839) k957) rfl rfl rfl (by decide +kernel) ⟨Nat.le_of_ble_eq_true rfl, Nat.le_of_ble_eq_true rfl⟩) rfl rfl rfl rfl (Nat.le_of_ble_eq_true rfl) dX12_some_23 ⟨(Nat.le_of_ble_eq_true rfl), (Nat.le_of_ble_eq_true rfl)⟩ (fun u_ H locs hq31 hP hD hS => ?_)
            obtain ⟨at2_28, fl2_29, q_30⟩ := u_
            replace hq31 : (0 ≤ at2_28.toInt ∧ at2_28.toInt ≤ en.toInt + 7 - 3) ∧ (at2_24.toInt ≤ at2_28.toInt) ∧ (0 ≤ q_30.toInt ∧ q_30.toInt ≤ 1) ∧ ((-1) = fl2_29 ∧ (¬ zisW ft en.toInt (zbg ft en.toInt at2_28.toInt) zwAnd ∧ ∀ r9, zCoT ft en.toInt (zAtom ft en.toInt 3) (zbg ft en.toInt at2_28.toInt) r9 → zCond ft en.toInt (zAtom ft en.toInt 3) (zbg ft en.toInt at2_24.toInt) r9) ∨ 0 ≤ fl2_29.toInt ∧ zCond ft en.toInt (zAtom ft en.toInt 3) (zbg ft en.toInt at2_24.toInt) (.bad fl2_29.toInt)) := hq31
            have hP : va_P g.1 vwCl (List.flatten [bMo g o a th hi ac tp (-1) en at2_28 fl2_29 3 iD iO tU fm fk fa fc ft ff fb fi]) H := hP
            have hD : va_D A (List.flatten [bMo g o a th hi ac tp (-1) en at2_28 fl2_29 3 iD iO tU fm fk fa fc ft ff fb fi]) := hD
            refine W.widen (k := 0) (n := 0) (Nat.le_of_ble_eq_true rfl) (Nat.le_of_ble_eq_true rfl) ?_
            refine W.eq (g2 := F0 m 26 ls [.int q_30]) rfl ?_
            obtain ⟨hq31_0, hq31_1, hq31_2, hq31_3⟩ := hq31
            rcases hq31_3 with ⟨rfl, hq31_k⟩ | ⟨hq31_k, hq31_km⟩
            · skip
              refine lv_istore_n (lv' := [(2, .int q_30), (0, .ref o), (1, .int x_5)]) hx hb dX12_some_26 rfl hl (by decide) rfl (fun ls hl => ?_)
              refine lv_iload_n hx hb dX12_some_27 rfl (lv_at hl 2 rfl) ?_
              refine lv_if_ne (tgt := 35) hx hb dX12_some_28 (by decide) (fun cb9 => ?_) (fun cb9 => ?_)
              · skip
                have c32 : ¬ x_5.toInt = 0 := zne cb9 rfl (by decide)
                have n33 : 1 ≤ x_5.toInt := zN1 c32 i8.1 (by decide)
                refine lv_iconst (v := 1) hx hb dX12_some_35 (by decide) ?_
                refine lv_goto (tgt := 40) hx hb dX12_some_36 (by decide) ?_
                refine lv_istore_n (lv' := [(1, .int 1), (2, .int q_30), (0, .ref o)]) hx hb dX12_some_40 rfl hl (by decide) rfl (fun ls hl => ?_)
                refine lv_goto (tgt := 5) hx hb dX12_some_41 (by decide) ?_
                have hl := lv_sub (l' := [(0, .ref o), (1, .int 1), (2, .int q_30)]) hl [2, 0, 1] rfl
                have hL1 : (1 : Int32).toInt = 1 := by decide
                have hLn1 : ((-1) : Int32).toInt = (-1) := by decide
                have hP : va_P g.1 vwCl (List.flatten [bMo g o a th hi ac tp (-1) en at2_28 (-1) 3 iD iO tU fm fk fa fc ft ff fb fi]) H := hP
                have hD : va_D A (List.flatten [bMo g o a th hi ac tp (-1) en at2_28 (-1) 3 iD iO tU fm fk fa fc ft ff fb fi]) := hD
                exact ih5_16 1 at2_28 (-1) (by decide) (by first | omega | assumption | decide) (by decide) (by first | omega | assumption | decide) (by first | omega | assumption | decide) (by first | omega | assumption | decide) (Or.inl ⟨by decide, hq31_k.1, fun r9 h9 => zCo_w w22 (Or.inr hq26_k) hq26_km.1 (hq31_k.2 r9 h9)⟩) H _ ls (by omega)  hP hD hS (lv_sub hl [0, 1] rfl)
              · skip
                have c34 : x_5.toInt = 0 := zeq cb9 rfl (by decide)
                have n35 : x_5.toInt ≤ 0 := Int.le_trans (Int.le_of_eq c34) (Int.le_refl _)
                refine lv_iload_n hx hb dX12_some_31 rfl (lv_at hl 0 rfl) ?_
                refine lv_if_eq (tgt := 39) hx hb dX12_some_32 (by decide) (fun cb9 => ?_) (fun cb9 => ?_)
                · skip
                  have c36 : q_30.toInt = 0 := zeq cb9 rfl (by decide)
                  have n37 : q_30.toInt ≤ 0 := Int.le_trans (Int.le_of_eq c36) (Int.le_refl _)
                  refine lv_iconst (v := 0) hx hb dX12_some_39 (by decide) ?_
                  refine lv_istore_n (lv' := [(1, .int 0), (2, .int q_30), (0, .ref o)]) hx hb dX12_some_40 rfl hl (by decide) rfl (fun ls hl => ?_)
                  refine lv_goto (tgt := 5) hx hb dX12_some_41 (by decide) ?_
                  have hl := lv_sub (l' := [(0, .ref o), (1, .int 0), (2, .int q_30)]) hl [2, 0, 1] rfl
                  have hL0 : (0 : Int32).toInt = 0 := by decide
                  have hLn1 : ((-1) : Int32).toInt = (-1) := by decide
                  have hP : va_P g.1 vwCl (List.flatten [bMo g o a th hi ac tp (-1) en at2_28 (-1) 3 iD iO tU fm fk fa fc ft ff fb fi]) H := hP
                  have hD : va_D A (List.flatten [bMo g o a th hi ac tp (-1) en at2_28 (-1) 3 iD iO tU fm fk fa fc ft ff fb fi]) := hD
                  exact ih5_16 0 at2_28 (-1) (by decide) (by first | omega | assumption | decide) (by decide) (by first | omega | assumption | decide) (by first | omega | assumption | decide) (by first | omega | assumption | decide) (Or.inl ⟨by decide, hq31_k.1, fun r9 h9 => zCo_w w22 (Or.inr hq26_k) hq26_km.1 (hq31_k.2 r9 h9)⟩) H _ ls (by omega)  hP hD hS (lv_sub hl [0, 1] rfl)
                · skip
                  have c38 : ¬ q_30.toInt = 0 := zne cb9 rfl (by decide)
                  have n39 : 1 ≤ q_30.toInt := zN1 c38 hq31_2.1 (by decide)
                  refine lv_iconst (v := 1) hx hb dX12_some_35 (by decide) ?_
                  refine lv_goto (tgt := 40) hx hb dX12_some_36 (by decide) ?_
                  refine lv_istore_n (lv' := [(1, .int 1), (2, .int q_30), (0, .ref o)]) hx hb dX12_some_40 rfl hl (by decide) rfl (fun ls hl => ?_)
                  refine lv_goto (tgt := 5) hx hb dX12_some_41 (by decide) ?_
                  have hl := lv_sub (l' := [(0, .ref o), (1, .int 1), (2, .int q_30)]) hl [2, 0, 1] rfl
                  have hL1 : (1 : Int32).toInt = 1 := by decide
                  have hLn1 : ((-1) : Int32).toInt = (-1) := by decide
                  have hP : va_P g.1 vwCl (List.flatten [bMo g o a th hi ac tp (-1) en at2_28 (-1) 3 iD iO tU fm fk fa fc ft ff fb fi]) H := hP
                  have hD : va_D A (List.flatten [bMo g o a th hi ac tp (-1) en at2_28 (-1) 3 iD iO tU fm fk fa fc ft ff fb fi]) := hD
                  exact ih5_16 1 at2_28 (-1) (by decide) (by first | omega | assumption | decide) (by decide) (by first | omega | assumption | decide) (by first | omega | assumption | decide) (by first | omega | assumption | decide) (Or.inl ⟨by decide, hq31_k.1, fun r9 h9 => zCo_w w22 (Or.inr hq26_k) hq26_km.1 (hq31_k.2 r9 h9)⟩) H _ ls (by omega)  hP hD hS (lv_sub hl [0, 1] rfl)
            · skip
              refine lv_istore_n (lv' := [(2, .int q_30), (0, .ref o), (1, .int x_5)]) hx hb dX12_some_26 rfl hl (by decide) rfl (fun ls hl => ?_)
              refine lv_iload_n hx hb dX12_some_27 rfl (lv_at hl 2 rfl) ?_
              refine lv_if_ne (tgt := 35) hx hb dX12_some_28 (by decide) (fun cb9 => ?_) (fun cb9 => ?_)
              · skip
                have c40 : ¬ x_5.toInt = 0 := zne cb9 rfl (by decide)
                have n41 : 1 ≤ x_5.toInt := zN1 c40 i8.1 (by decide)
                refine lv_iconst (v := 1) hx hb dX12_some_35 (by decide) ?_
                refine lv_goto (tgt := 40) hx hb dX12_some_36 (by decide) ?_
                refine lv_istore_n (lv' := [(1, .int 1), (2, .int q_30), (0, .ref o)]) hx hb dX12_some_40 rfl hl (by decide) rfl (fun ls hl => ?_)
                refine lv_goto (tgt := 5) hx hb dX12_some_41 (by decide) ?_
                have hl := lv_sub (l' := [(0, .ref o), (1, .int 1), (2, .int q_30)]) hl [2, 0, 1] rfl
                have hL1 : (1 : Int32).toInt = 1 := by decide
                have hP : va_P g.1 vwCl (List.flatten [bMo g o a th hi ac tp (-1) en at2_28 fl2_29 3 iD iO tU fm fk fa fc ft ff fb fi]) H := hP
                have hD : va_D A (List.flatten [bMo g o a th hi ac tp (-1) en at2_28 fl2_29 3 iD iO tU fm fk fa fc ft ff fb fi]) := hD
                exact ih5_16 1 at2_28 fl2_29 (by decide) (by first | omega | assumption | decide) (Int.le_trans (by decide) hq31_k) (by first | omega | assumption | decide) (by first | omega | assumption | decide) (by first | omega | assumption | decide) (Or.inr ⟨hq31_k, zCo_w w22 (Or.inr hq26_k) hq26_km.1 hq31_km⟩) H _ ls (by omega)  hP hD hS (lv_sub hl [0, 1] rfl)
              · skip
                have c42 : x_5.toInt = 0 := zeq cb9 rfl (by decide)
                have n43 : x_5.toInt ≤ 0 := Int.le_trans (Int.le_of_eq c42) (Int.le_refl _)
                refine lv_iload_n hx hb dX12_some_31 rfl (lv_at hl 0 rfl) ?_
                refine lv_if_eq (tgt := 39) hx hb dX12_some_32 (by decide) (fun cb9 => ?_) (fun cb9 => ?_)
                · skip
                  have c44 : q_30.toInt = 0 := zeq cb9 rfl (by decide)
                  have n45 : q_30.toInt ≤ 0 := Int.le_trans (Int.le_of_eq c44) (Int.le_refl _)
                  refine lv_iconst (v := 0) hx hb dX12_some_39 (by decide) ?_
                  refine lv_istore_n (lv' := [(1, .int 0), (2, .int q_30), (0, .ref o)]) hx hb dX12_some_40 rfl hl (by decide) rfl (fun ls hl => ?_)
                  refine lv_goto (tgt := 5) hx hb dX12_some_41 (by decide) ?_
                  have hl := lv_sub (l' := [(0, .ref o), (1, .int 0), (2, .int q_30)]) hl [2, 0, 1] rfl
                  have hL0 : (0 : Int32).toInt = 0 := by decide
                  have hP : va_P g.1 vwCl (List.flatten [bMo g o a th hi ac tp (-1) en at2_28 fl2_29 3 iD iO tU fm fk fa fc ft ff fb fi]) H := hP
                  have hD : va_D A (List.flatten [bMo g o a th hi ac tp (-1) en at2_28 fl2_29 3 iD iO tU fm fk fa fc ft ff fb fi]) := hD
                  exact ih5_16 0 at2_28 fl2_29 (by decide) (by first | omega | assumption | decide) (Int.le_trans (by decide) hq31_k) (by first | omega | assumption | decide) (by first | omega | assumption | decide) (by first | omega | assumption | decide) (Or.inr ⟨hq31_k, zCo_w w22 (Or.inr hq26_k) hq26_km.1 hq31_km⟩) H _ ls (by omega)  hP hD hS (lv_sub hl [0, 1] rfl)
                · skip
                  have c46 : ¬ q_30.toInt = 0 := zne cb9 rfl (by decide)
                  have n47 : 1 ≤ q_30.toInt := zN1 c46 hq31_2.1 (by decide)
                  refine lv_iconst (v := 1) hx hb dX12_some_35 (by decide) ?_
                  refine lv_goto (tgt := 40) hx hb dX12_some_36 (by decide) ?_
                  refine lv_istore_n (lv' := [(1, .int 1), (2, .int q_30), (0, .ref o)]) hx hb dX12_some_40 rfl hl (by decide) rfl (fun ls hl => ?_)
                  refine lv_goto (tgt := 5) hx hb dX12_some_41 (by decide) ?_
                  have hl := lv_sub (l' := [(0, .ref o), (1, .int 1), (2, .int q_30)]) hl [2, 0, 1] rfl
                  have hL1 : (1 : Int32).toInt = 1 := by decide
                  have hP : va_P g.1 vwCl (List.flatten [bMo g o a th hi ac tp (-1) en at2_28 fl2_29 3 iD iO tU fm fk fa fc ft ff fb fi]) H := hP
                  have hD : va_D A (List.flatten [bMo g o a th hi ac tp (-1) en at2_28 fl2_29 3 iD iO tU fm fk fa fc ft ff fb fi]) := hD
                  exact ih5_16 1 at2_28 fl2_29 (by decide) (by first | omega | assumption | decide) (Int.le_trans (by decide) hq31_k) (by first | omega | assumption | decide) (by first | omega | assumption | decide) (by first | omega | assumption | decide) (Or.inr ⟨hq31_k, zCo_w w22 (Or.inr hq26_k) hq26_km.1 hq31_km⟩) H _ ls (by omega)  hP hD hS (lv_sub hl [0, 1] rfl)
          · skip
            refine lv_if_eq (tgt := 44) hx hb dX12_some_19 (by decide) (fun _ => ?_) (fun c48 => absurd (by decide) c48)
            refine lv_iload_n hx hb dX12_some_44 rfl (lv_at hl 1 rfl) ?_
            have hP : va_P g.1 vwCl (List.flatten [bMo g o a th hi ac tp (-1) en at2_24 (-1) 3 iD iO tU fm fk fa fc ft ff fb fi]) H := hP
            have hD : va_D A (List.flatten [bMo g o a th hi ac tp (-1) en at2_24 (-1) 3 iD iO tU fm fk fa fc ft ff fb fi]) := hD
            exact mret_z hx hb hr hlocks hS (Nat.le_of_ble_eq_true rfl) (Nat.le_of_ble_eq_true rfl) dX12_some_45 (at2_24, -1, x_5) rfl (by first | assumption | exact zb01 (by omega)) (show (0 ≤ at2_24.toInt ∧ at2_24.toInt ≤ en.toInt + 7 - 3) ∧ (tA.toInt ≤ at2_24.toInt) ∧ (0 ≤ x_5.toInt ∧ x_5.toInt ≤ 1) ∧ ((-1) = (-1) ∧ zCond ft en.toInt (zAtom ft en.toInt 3) (zbg ft en.toInt tA.toInt) (.ok (zbg ft en.toInt at2_24.toInt)) ∨ 0 ≤ ((-1) : Int32).toInt ∧ zCond ft en.toInt (zAtom ft en.toInt 3) (zbg ft en.toInt tA.toInt) (.bad ((-1) : Int32).toInt)) from ⟨(by first | assumption | omega | exact Or.inl (by decide) | exact Or.inr (by omega)), (by first | assumption | omega | exact Or.inl (by decide) | exact Or.inr (by omega)), (by first | assumption | decide | omega), (Or.inl ⟨rfl, zCo_end w22 (zor_n w21 hq26_k) hq26_km⟩)⟩) hP hD
    have hLn1 : ((-1) : Int32).toInt = (-1) := by decide
    have hP : va_P g.1 vwCl (List.flatten [bMo g o a th hi ac tp (-1) en at2_1 (-1) 3 iD iO tU fm fk fa fc ft ff fb fi]) H := hP
    have hD : va_D A (List.flatten [bMo g o a th hi ac tp (-1) en at2_1 (-1) 3 iD iO tU fm fk fa fc ft ff fb fi]) := hD
    exact LP5_15 _ q_3 at2_1 (-1) ⟨hq4_2.1, hq4_2.2⟩ (by first | omega | assumption | decide) (by decide) hq4_1 (by first | omega | assumption | decide) (by first | omega | assumption | decide) (Or.inl ⟨by decide, hq4_k⟩) H _ ls (Nat.lt_succ_self _)  hP hD hS (lv_sub hl [0, 1] rfl)
  · skip
    refine lv_istore_n (lv' := [(1, .int q_3), (0, .ref o)]) hx hb dX12_some_4 rfl hl (by decide) rfl (fun ls hl => ?_)
    have hl := lv_sub (l' := [(0, .ref o), (1, .int q_3)]) hl [1, 0] rfl
    have LP5_59 : ∀ (kf : Nat) (x_49 : Int32) (x_50 : Int32) (x_51 : Int32), (0 ≤ x_49.toInt ∧ x_49.toInt ≤ 1) → (0 ≤ x_50.toInt ∧ x_50.toInt ≤ 407) → ((-1) ≤ x_51.toInt) → (tA.toInt ≤ x_50.toInt) → (x_50.toInt ≤ en.toInt + 7 - 3) → (-1 ≤ x_51.toInt) → ((x_51.toInt = -1 ∧ ¬ zisW ft en.toInt (zbg ft en.toInt x_50.toInt) zwAnd ∧ ∀ r9, zCoT ft en.toInt (zAtom ft en.toInt 3) (zbg ft en.toInt x_50.toInt) r9 → zCond ft en.toInt (zAtom ft en.toInt 3) (zbg ft en.toInt tA.toInt) r9) ∨ (0 ≤ x_51.toInt ∧ zCond ft en.toInt (zAtom ft en.toInt 3) (zbg ft en.toInt tA.toInt) (.bad x_51.toInt))) → ∀ (H : Heap) (locs : List Loc) (ls : Array Slot), ((en.toInt + 8 - x_50.toInt).toNat) < kf → va_P g.1 vwCl (List.flatten [bMo g o a th hi ac tp (-1) en x_50 x_51 3 iD iO tU fm fk fa fc ft ff fb fi]) H → va_D A (List.flatten [bMo g o a th hi ac tp (-1) en x_50 x_51 3 iD iO tU fm fk fa fc ft ff fb fi]) → va_S A s.heap H locs → lv_has ls 3 [(0, .ref o), (1, .int x_49)] → W p l e ({ frames := 19, cells := 0, slots := 0, locals := 419 } : Room) s m args below meth c H locs (0) (0) (zF g (fun u : Int32 × Int32 × Int32 => (fun (at2 : Int32) (fl2 : Int32) (q : Int32) => some (.int q)) (u.1) (u.2.1) (u.2.2)) (fun u : Int32 × Int32 × Int32 => (fun (at2 : Int32) (fl2 : Int32) (q : Int32) => (0 ≤ at2.toInt ∧ at2.toInt ≤ en.toInt + 7 - 3) ∧ (tA.toInt ≤ at2.toInt) ∧ (0 ≤ q.toInt ∧ q.toInt ≤ 1) ∧ ((-1) = fl2 ∧ zCond ft en.toInt (zAtom ft en.toInt 3) (zbg ft en.toInt tA.toInt) (.ok (zbg ft en.toInt at2.toInt)) ∨ 0 ≤ fl2.toInt ∧ zCond ft en.toInt (zAtom ft en.toInt 3) (zbg ft en.toInt tA.toInt) (.bad fl2.toInt))) (u.1) (u.2.1) (u.2.2)) (fun u : Int32 × Int32 × Int32 => (fun (at2 : Int32) (fl2 : Int32) (q : Int32) => [bMo g o a th hi ac tp (-1) en at2 fl2 3 iD iO tU fm fk fa fc ft ff fb fi]) (u.1) (u.2.1) (u.2.2)) ({ frames := 19, cells := 0, slots := 0, locals := 419 } : Room) below args s A) (F0 m 5 ls []) := by
      intro kf
      induction kf with
      | zero => intro x_49 x_50 x_51 i52 i53 i54 i55 i56 i57 i58 H locs ls hk; exact absurd hk (Nat.not_lt_zero _)
      | succ kf ih5_60 =>
        intro x_49 x_50 x_51 i52 i53 i54 i55 i56 i57 i58 H locs ls hk5_60 hP hD hS hl
        refine lv_aload_n hx hb dX12_some_5 rfl (lv_at hl 0 rfl) ?_
        refine va_get (D := g.1) (ci := 10) (v := .int x_51) (C := RX12) (T := TX12) (N := 20) hx hb hts izRX12 hown hK hP 0 rfl rfl 12 (by decide) (hts _ k820) (fun _ h9 => h9) rfl dX12_some_6 ?_
        refine lv_iconst (v := (-1)) hx hb dX12_some_9 (by decide) ?_
        refine lv_icmp_ne (tgt := 44) hx hb dX12_some_10 (by decide) (fun cb9 => ?_) (fun cb9 => ?_)
        · skip
          have c61 : ¬ x_51.toInt = (-1) := zne cb9 rfl (by decide)
          have n62 : 0 ≤ x_51.toInt := zN1 c61 i54 (by decide)
          refine lv_iload_n hx hb dX12_some_44 rfl (lv_at hl 1 rfl) ?_
          have hP : va_P g.1 vwCl (List.flatten [bMo g o a th hi ac tp (-1) en x_50 x_51 3 iD iO tU fm fk fa fc ft ff fb fi]) H := hP
          have hD : va_D A (List.flatten [bMo g o a th hi ac tp (-1) en x_50 x_51 3 iD iO tU fm fk fa fc ft ff fb fi]) := hD
          exact mret_z hx hb hr hlocks hS (Nat.le_of_ble_eq_true rfl) (Nat.le_of_ble_eq_true rfl) dX12_some_45 (x_50, x_51, x_49) rfl (by first | assumption | exact zb01 (by omega)) (show (0 ≤ x_50.toInt ∧ x_50.toInt ≤ en.toInt + 7 - 3) ∧ (tA.toInt ≤ x_50.toInt) ∧ (0 ≤ x_49.toInt ∧ x_49.toInt ≤ 1) ∧ ((-1) = x_51 ∧ zCond ft en.toInt (zAtom ft en.toInt 3) (zbg ft en.toInt tA.toInt) (.ok (zbg ft en.toInt x_50.toInt)) ∨ 0 ≤ x_51.toInt ∧ zCond ft en.toInt (zAtom ft en.toInt 3) (zbg ft en.toInt tA.toInt) (.bad x_51.toInt)) from ⟨(by first | assumption | omega | exact Or.inl (by decide) | exact Or.inr (by omega)), (by first | assumption | omega | exact Or.inl (by decide) | exact Or.inr (by omega)), (by first | assumption | decide | omega), (Or.inr (i58.resolve_left (fun h9 => by have := h9.1; omega)))⟩) hP hD
        · skip
          have c63 : x_51.toInt = (-1) := zeq cb9 rfl (by decide)
          have n64 : x_51.toInt ≤ (-1) := Int.le_trans (Int.le_of_eq c63) (Int.le_refl _)
          have w65 : ¬ zisW ft en.toInt (zbg ft en.toInt x_50.toInt) zwAnd := (i58.resolve_right (fun h9 => by have := h9.1; omega)).2.1
          have w65I := i58.imp_left (fun h9 => (⟨h9.1, h9.2.2⟩ : _ ∧ _))
          have w66 : ∀ r9, zCoT ft en.toInt (zAtom ft en.toInt 3) (zbg ft en.toInt x_50.toInt) r9 → zCond ft en.toInt (zAtom ft en.toInt 3) (zbg ft en.toInt tA.toInt) r9 := (w65I.resolve_right (fun h9 => by have := h9.1; omega)).2
          have w67 : x_51 = -1 := (zm1 (by omega)).symm
          subst w67
          refine lv_aload_n hx hb dX12_some_13 rfl (lv_at hl 0 rfl) ?_
          refine va_ldcS (q := g.2 102) hx hb hown (zra46 hT.2.1) dX12_some_14 ?_
          have hL3 : (3 : Int32).toInt = 3 := by decide
          refine mcallV' (g := g) (q0 := 0) (ci := 10) (As := [.ref (g.2 102)]) (rest := []) St hK hT hA hP hD hS hl.1 [0] [] rfl rfl rfl (m_hasF l g o a th hi ac tp en x_50 (-1) 3 iD iO tU fm fk fa fc ft ff fb fi (g.2 102) 46 zqa46 hen (by first | assumption | omega | decide | exact Or.inl (by decide) | exact Or.inr (by decide)) (by decide) rfl zla46 zna46 (zlitB zla46)) (cwV 1 hts (zgL (zl4 k899 k900 k901 k839) k889) rfl rfl rfl (by decide +kernel) ⟨Nat.le_of_ble_eq_true rfl, Nat.le_of_ble_eq_true rfl⟩) rfl rfl rfl rfl (Nat.le_of_ble_eq_true rfl) dX12_some_16 ⟨(Nat.le_of_ble_eq_true rfl), (Nat.le_of_ble_eq_true rfl)⟩ (fun u_ H locs hq70 hP hD hS => ?_)
          obtain ⟨at2_68, r_69⟩ := u_
          replace hq70 : (0 ≤ at2_68.toInt ∧ at2_68.toInt ≤ en.toInt + 7 - (3 : Int32).toInt) ∧ (x_50.toInt ≤ at2_68.toInt) ∧ (r_69 = 1 ∧ zisW ft en.toInt (zbg ft en.toInt x_50.toInt) zqa46.2.2.2 ∧ at2_68.toInt = znx ft en.toInt (zbg ft en.toInt x_50.toInt) ∧ x_50.toInt < at2_68.toInt ∧ at2_68.toInt ≤ en.toInt ∨ r_69 = 0 ∧ ¬ zisW ft en.toInt (zbg ft en.toInt x_50.toInt) zqa46.2.2.2 ∧ at2_68.toInt = zbg ft en.toInt x_50.toInt) := hq70
          have hP : va_P g.1 vwCl (List.flatten [bMo g o a th hi ac tp (-1) en at2_68 (-1) 3 iD iO tU fm fk fa fc ft ff fb fi]) H := hP
          have hD : va_D A (List.flatten [bMo g o a th hi ac tp (-1) en at2_68 (-1) 3 iD iO tU fm fk fa fc ft ff fb fi]) := hD
          refine W.widen (k := 0) (n := 0) (Nat.le_of_ble_eq_true rfl) (Nat.le_of_ble_eq_true rfl) ?_
          refine W.eq (g2 := F0 m 19 ls [.int r_69]) rfl ?_
          obtain ⟨hq70_0, hq70_1, hq70_2⟩ := hq70
          rcases hq70_2 with ⟨rfl, hq70_k, hq70_km⟩ | ⟨rfl, hq70_k, hq70_km⟩
          · skip
            refine lv_if_eq (tgt := 44) hx hb dX12_some_19 (by decide) (fun c71 => absurd c71 (by decide)) (fun _ => ?_)
            refine lv_aload_n hx hb dX12_some_22 rfl (lv_at hl 0 rfl) ?_
            refine mcallV' (g := g) (q0 := 0) (ci := 10) (As := []) (rest := []) St hK hT hA hP hD hS hl.1 [0] [] rfl rfl rfl (m_every3F l g o a th hi ac tp en at2_68 iD iO tU fm fk fa fc ft ff fb fi hiD hiO hen (by first | assumption | omega | decide | exact Or.inl (by decide) | exact Or.inr (by decide)) hde) (cwV 0 hts (zgL (zl4 k959 k960 k961 k839) k957) rfl rfl rfl (by decide +kernel) ⟨Nat.le_of_ble_eq_true rfl, Nat.le_of_ble_eq_true rfl⟩) rfl rfl rfl rfl (Nat.le_of_ble_eq_true rfl) dX12_some_23 ⟨(Nat.le_of_ble_eq_true rfl), (Nat.le_of_ble_eq_true rfl)⟩ (fun u_ H locs hq75 hP hD hS => ?_)
            obtain ⟨at2_72, fl2_73, q_74⟩ := u_
            replace hq75 : (0 ≤ at2_72.toInt ∧ at2_72.toInt ≤ en.toInt + 7 - 3) ∧ (at2_68.toInt ≤ at2_72.toInt) ∧ (0 ≤ q_74.toInt ∧ q_74.toInt ≤ 1) ∧ ((-1) = fl2_73 ∧ (¬ zisW ft en.toInt (zbg ft en.toInt at2_72.toInt) zwAnd ∧ ∀ r9, zCoT ft en.toInt (zAtom ft en.toInt 3) (zbg ft en.toInt at2_72.toInt) r9 → zCond ft en.toInt (zAtom ft en.toInt 3) (zbg ft en.toInt at2_68.toInt) r9) ∨ 0 ≤ fl2_73.toInt ∧ zCond ft en.toInt (zAtom ft en.toInt 3) (zbg ft en.toInt at2_68.toInt) (.bad fl2_73.toInt)) := hq75
            have hP : va_P g.1 vwCl (List.flatten [bMo g o a th hi ac tp (-1) en at2_72 fl2_73 3 iD iO tU fm fk fa fc ft ff fb fi]) H := hP
            have hD : va_D A (List.flatten [bMo g o a th hi ac tp (-1) en at2_72 fl2_73 3 iD iO tU fm fk fa fc ft ff fb fi]) := hD
            refine W.widen (k := 0) (n := 0) (Nat.le_of_ble_eq_true rfl) (Nat.le_of_ble_eq_true rfl) ?_
            refine W.eq (g2 := F0 m 26 ls [.int q_74]) rfl ?_
            obtain ⟨hq75_0, hq75_1, hq75_2, hq75_3⟩ := hq75
            rcases hq75_3 with ⟨rfl, hq75_k⟩ | ⟨hq75_k, hq75_km⟩
            · skip
              refine lv_istore_n (lv' := [(2, .int q_74), (0, .ref o), (1, .int x_49)]) hx hb dX12_some_26 rfl hl (by decide) rfl (fun ls hl => ?_)
              refine lv_iload_n hx hb dX12_some_27 rfl (lv_at hl 2 rfl) ?_
              refine lv_if_ne (tgt := 35) hx hb dX12_some_28 (by decide) (fun cb9 => ?_) (fun cb9 => ?_)
              · skip
                have c76 : ¬ x_49.toInt = 0 := zne cb9 rfl (by decide)
                have n77 : 1 ≤ x_49.toInt := zN1 c76 i52.1 (by decide)
                refine lv_iconst (v := 1) hx hb dX12_some_35 (by decide) ?_
                refine lv_goto (tgt := 40) hx hb dX12_some_36 (by decide) ?_
                refine lv_istore_n (lv' := [(1, .int 1), (2, .int q_74), (0, .ref o)]) hx hb dX12_some_40 rfl hl (by decide) rfl (fun ls hl => ?_)
                refine lv_goto (tgt := 5) hx hb dX12_some_41 (by decide) ?_
                have hl := lv_sub (l' := [(0, .ref o), (1, .int 1), (2, .int q_74)]) hl [2, 0, 1] rfl
                have hL1 : (1 : Int32).toInt = 1 := by decide
                have hLn1 : ((-1) : Int32).toInt = (-1) := by decide
                have hP : va_P g.1 vwCl (List.flatten [bMo g o a th hi ac tp (-1) en at2_72 (-1) 3 iD iO tU fm fk fa fc ft ff fb fi]) H := hP
                have hD : va_D A (List.flatten [bMo g o a th hi ac tp (-1) en at2_72 (-1) 3 iD iO tU fm fk fa fc ft ff fb fi]) := hD
                exact ih5_60 1 at2_72 (-1) (by decide) (by first | omega | assumption | decide) (by decide) (by first | omega | assumption | decide) (by first | omega | assumption | decide) (by first | omega | assumption | decide) (Or.inl ⟨by decide, hq75_k.1, fun r9 h9 => zCo_w w66 (Or.inr hq70_k) hq70_km.1 (hq75_k.2 r9 h9)⟩) H _ ls (by omega)  hP hD hS (lv_sub hl [0, 1] rfl)
              · skip
                have c78 : x_49.toInt = 0 := zeq cb9 rfl (by decide)
                have n79 : x_49.toInt ≤ 0 := Int.le_trans (Int.le_of_eq c78) (Int.le_refl _)
                refine lv_iload_n hx hb dX12_some_31 rfl (lv_at hl 0 rfl) ?_
                refine lv_if_eq (tgt := 39) hx hb dX12_some_32 (by decide) (fun cb9 => ?_) (fun cb9 => ?_)
                · skip
                  have c80 : q_74.toInt = 0 := zeq cb9 rfl (by decide)
                  have n81 : q_74.toInt ≤ 0 := Int.le_trans (Int.le_of_eq c80) (Int.le_refl _)
                  refine lv_iconst (v := 0) hx hb dX12_some_39 (by decide) ?_
                  refine lv_istore_n (lv' := [(1, .int 0), (2, .int q_74), (0, .ref o)]) hx hb dX12_some_40 rfl hl (by decide) rfl (fun ls hl => ?_)
                  refine lv_goto (tgt := 5) hx hb dX12_some_41 (by decide) ?_
                  have hl := lv_sub (l' := [(0, .ref o), (1, .int 0), (2, .int q_74)]) hl [2, 0, 1] rfl
                  have hL0 : (0 : Int32).toInt = 0 := by decide
                  have hLn1 : ((-1) : Int32).toInt = (-1) := by decide
                  have hP : va_P g.1 vwCl (List.flatten [bMo g o a th hi ac tp (-1) en at2_72 (-1) 3 iD iO tU fm fk fa fc ft ff fb fi]) H := hP
                  have hD : va_D A (List.flatten [bMo g o a th hi ac tp (-1) en at2_72 (-1) 3 iD iO tU fm fk fa fc ft ff fb fi]) := hD
                  exact ih5_60 0 at2_72 (-1) (by decide) (by first | omega | assumption | decide) (by decide) (by first | omega | assumption | decide) (by first | omega | assumption | decide) (by first | omega | assumption | decide) (Or.inl ⟨by decide, hq75_k.1, fun r9 h9 => zCo_w w66 (Or.inr hq70_k) hq70_km.1 (hq75_k.2 r9 h9)⟩) H _ ls (by omega)  hP hD hS (lv_sub hl [0, 1] rfl)
                · skip
                  have c82 : ¬ q_74.toInt = 0 := zne cb9 rfl (by decide)
                  have n83 : 1 ≤ q_74.toInt := zN1 c82 hq75_2.1 (by decide)
                  refine lv_iconst (v := 1) hx hb dX12_some_35 (by decide) ?_
                  refine lv_goto (tgt := 40) hx hb dX12_some_36 (by decide) ?_
                  refine lv_istore_n (lv' := [(1, .int 1), (2, .int q_74), (0, .ref o)]) hx hb dX12_some_40 rfl hl (by decide) rfl (fun ls hl => ?_)
                  refine lv_goto (tgt := 5) hx hb dX12_some_41 (by decide) ?_
                  have hl := lv_sub (l' := [(0, .ref o), (1, .int 1), (2, .int q_74)]) hl [2, 0, 1] rfl
                  have hL1 : (1 : Int32).toInt = 1 := by decide
                  have hLn1 : ((-1) : Int32).toInt = (-1) := by decide
                  have hP : va_P g.1 vwCl (List.flatten [bMo g o a th hi ac tp (-1) en at2_72 (-1) 3 iD iO tU fm fk fa fc ft ff fb fi]) H := hP
                  have hD : va_D A (List.flatten [bMo g o a th hi ac tp (-1) en at2_72 (-1) 3 iD iO tU fm fk fa fc ft ff fb fi]) := hD
                  exact ih5_60 1 at2_72 (-1) (by decide) (by first | omega | assumption | decide) (by decide) (by first | omega | assumption | decide) (by first | omega | assumption | decide) (by first | omega | assumption | decide) (Or.inl ⟨by decide, hq75_k.1, fun r9 h9 => zCo_w w66 (Or.inr hq70_k) hq70_km.1 (hq75_k.2 r9 h9)⟩) H _ ls (by omega)  hP hD hS (lv_sub hl [0, 1] rfl)
            · skip
              refine lv_istore_n (lv' := [(2, .int q_74), (0, .ref o), (1, .int x_49)]) hx hb dX12_some_26 rfl hl (by decide) rfl (fun ls hl => ?_)
              refine lv_iload_n hx hb dX12_some_27 rfl (lv_at hl 2 rfl) ?_
              refine lv_if_ne (tgt := 35) hx hb dX12_some_28 (by decide) (fun cb9 => ?_) (fun cb9 => ?_)
              · skip
                have c84 : ¬ x_49.toInt = 0 := zne cb9 rfl (by decide)
                have n85 : 1 ≤ x_49.toInt := zN1 c84 i52.1 (by decide)
                refine lv_iconst (v := 1) hx hb dX12_some_35 (by decide) ?_
                refine lv_goto (tgt := 40) hx hb dX12_some_36 (by decide) ?_
                refine lv_istore_n (lv' := [(1, .int 1), (2, .int q_74), (0, .ref o)]) hx hb dX12_some_40 rfl hl (by decide) rfl (fun ls hl => ?_)
                refine lv_goto (tgt := 5) hx hb dX12_some_41 (by decide) ?_
                have hl := lv_sub (l' := [(0, .ref o), (1, .int 1), (2, .int q_74)]) hl [2, 0, 1] rfl
                have hL1 : (1 : Int32).toInt = 1 := by decide
                have hP : va_P g.1 vwCl (List.flatten [bMo g o a th hi ac tp (-1) en at2_72 fl2_73 3 iD iO tU fm fk fa fc ft ff fb fi]) H := hP
                have hD : va_D A (List.flatten [bMo g o a th hi ac tp (-1) en at2_72 fl2_73 3 iD iO tU fm fk fa fc ft ff fb fi]) := hD
                exact ih5_60 1 at2_72 fl2_73 (by decide) (by first | omega | assumption | decide) (Int.le_trans (by decide) hq75_k) (by first | omega | assumption | decide) (by first | omega | assumption | decide) (by first | omega | assumption | decide) (Or.inr ⟨hq75_k, zCo_w w66 (Or.inr hq70_k) hq70_km.1 hq75_km⟩) H _ ls (by omega)  hP hD hS (lv_sub hl [0, 1] rfl)
              · skip
                have c86 : x_49.toInt = 0 := zeq cb9 rfl (by decide)
                have n87 : x_49.toInt ≤ 0 := Int.le_trans (Int.le_of_eq c86) (Int.le_refl _)
                refine lv_iload_n hx hb dX12_some_31 rfl (lv_at hl 0 rfl) ?_
                refine lv_if_eq (tgt := 39) hx hb dX12_some_32 (by decide) (fun cb9 => ?_) (fun cb9 => ?_)
                · skip
                  have c88 : q_74.toInt = 0 := zeq cb9 rfl (by decide)
                  have n89 : q_74.toInt ≤ 0 := Int.le_trans (Int.le_of_eq c88) (Int.le_refl _)
                  refine lv_iconst (v := 0) hx hb dX12_some_39 (by decide) ?_
                  refine lv_istore_n (lv' := [(1, .int 0), (2, .int q_74), (0, .ref o)]) hx hb dX12_some_40 rfl hl (by decide) rfl (fun ls hl => ?_)
                  refine lv_goto (tgt := 5) hx hb dX12_some_41 (by decide) ?_
                  have hl := lv_sub (l' := [(0, .ref o), (1, .int 0), (2, .int q_74)]) hl [2, 0, 1] rfl
                  have hL0 : (0 : Int32).toInt = 0 := by decide
                  have hP : va_P g.1 vwCl (List.flatten [bMo g o a th hi ac tp (-1) en at2_72 fl2_73 3 iD iO tU fm fk fa fc ft ff fb fi]) H := hP
                  have hD : va_D A (List.flatten [bMo g o a th hi ac tp (-1) en at2_72 fl2_73 3 iD iO tU fm fk fa fc ft ff fb fi]) := hD
                  exact ih5_60 0 at2_72 fl2_73 (by decide) (by first | omega | assumption | decide) (Int.le_trans (by decide) hq75_k) (by first | omega | assumption | decide) (by first | omega | assumption | decide) (by first | omega | assumption | decide) (Or.inr ⟨hq75_k, zCo_w w66 (Or.inr hq70_k) hq70_km.1 hq75_km⟩) H _ ls (by omega)  hP hD hS (lv_sub hl [0, 1] rfl)
                · skip
                  have c90 : ¬ q_74.toInt = 0 := zne cb9 rfl (by decide)
                  have n91 : 1 ≤ q_74.toInt := zN1 c90 hq75_2.1 (by decide)
                  refine lv_iconst (v := 1) hx hb dX12_some_35 (by decide) ?_
                  refine lv_goto (tgt := 40) hx hb dX12_some_36 (by decide) ?_
                  refine lv_istore_n (lv' := [(1, .int 1), (2, .int q_74), (0, .ref o)]) hx hb dX12_some_40 rfl hl (by decide) rfl (fun ls hl => ?_)
                  refine lv_goto (tgt := 5) hx hb dX12_some_41 (by decide) ?_
                  have hl := lv_sub (l' := [(0, .ref o), (1, .int 1), (2, .int q_74)]) hl [2, 0, 1] rfl
                  have hL1 : (1 : Int32).toInt = 1 := by decide
                  have hP : va_P g.1 vwCl (List.flatten [bMo g o a th hi ac tp (-1) en at2_72 fl2_73 3 iD iO tU fm fk fa fc ft ff fb fi]) H := hP
                  have hD : va_D A (List.flatten [bMo g o a th hi ac tp (-1) en at2_72 fl2_73 3 iD iO tU fm fk fa fc ft ff fb fi]) := hD
                  exact ih5_60 1 at2_72 fl2_73 (by decide) (by first | omega | assumption | decide) (Int.le_trans (by decide) hq75_k) (by first | omega | assumption | decide) (by first | omega | assumption | decide) (by first | omega | assumption | decide) (Or.inr ⟨hq75_k, zCo_w w66 (Or.inr hq70_k) hq70_km.1 hq75_km⟩) H _ ls (by omega)  hP hD hS (lv_sub hl [0, 1] rfl)
          · skip
            refine lv_if_eq (tgt := 44) hx hb dX12_some_19 (by decide) (fun _ => ?_) (fun c92 => absurd (by decide) c92)
            refine lv_iload_n hx hb dX12_some_44 rfl (lv_at hl 1 rfl) ?_
            have hP : va_P g.1 vwCl (List.flatten [bMo g o a th hi ac tp (-1) en at2_68 (-1) 3 iD iO tU fm fk fa fc ft ff fb fi]) H := hP
            have hD : va_D A (List.flatten [bMo g o a th hi ac tp (-1) en at2_68 (-1) 3 iD iO tU fm fk fa fc ft ff fb fi]) := hD
            exact mret_z hx hb hr hlocks hS (Nat.le_of_ble_eq_true rfl) (Nat.le_of_ble_eq_true rfl) dX12_some_45 (at2_68, -1, x_49) rfl (by first | assumption | exact zb01 (by omega)) (show (0 ≤ at2_68.toInt ∧ at2_68.toInt ≤ en.toInt + 7 - 3) ∧ (tA.toInt ≤ at2_68.toInt) ∧ (0 ≤ x_49.toInt ∧ x_49.toInt ≤ 1) ∧ ((-1) = (-1) ∧ zCond ft en.toInt (zAtom ft en.toInt 3) (zbg ft en.toInt tA.toInt) (.ok (zbg ft en.toInt at2_68.toInt)) ∨ 0 ≤ ((-1) : Int32).toInt ∧ zCond ft en.toInt (zAtom ft en.toInt 3) (zbg ft en.toInt tA.toInt) (.bad ((-1) : Int32).toInt)) from ⟨(by first | assumption | omega | exact Or.inl (by decide) | exact Or.inr (by omega)), (by first | assumption | omega | exact Or.inl (by decide) | exact Or.inr (by omega)), (by first | assumption | decide | omega), (Or.inl ⟨rfl, zCo_end w66 (zor_n w65 hq70_k) hq70_km⟩)⟩) hP hD
    have hP : va_P g.1 vwCl (List.flatten [bMo g o a th hi ac tp (-1) en at2_1 fl2_2 3 iD iO tU fm fk fa fc ft ff fb fi]) H := hP
    have hD : va_D A (List.flatten [bMo g o a th hi ac tp (-1) en at2_1 fl2_2 3 iD iO tU fm fk fa fc ft ff fb fi]) := hD
    exact LP5_59 _ q_3 at2_1 fl2_2 ⟨hq4_2.1, hq4_2.2⟩ (by first | omega | assumption | decide) (Int.le_trans (by decide) hq4_k) hq4_1 (by first | omega | assumption | decide) (by first | omega | assumption | decide) (Or.inr ⟨hq4_k, hq4_km⟩) H _ ls (Nat.lt_succ_self _)  hP hD hS (lv_sub hl [0, 1] rfl)
