set_option maxRecDepth 100000 in
set_option maxHeartbeats 4000000 in
theorem m_readLF (l : Launch) (g : zG) (o : Nat) (a : Nat → Nat) (th : Int32) (hi : Int32) (ac : Int32) (tp : Int32) (en : Int32) (tA : Int32) (iD : Int32) (iO : Int32) (tU : Int32) (fm : Nat → Int32) (fk : Nat → Int32) (fa : Nat → Int32) (fc : Nat → Int32) (ft : Nat → Int32) (ff : Nat → Int32) (fb : Nat → Int32) (fi : Nat → Int32) (hiD : 0 ≤ iD.toInt ∧ iD.toInt ≤ 1) (hiO : 0 ≤ iO.toInt ∧ iO.toInt ≤ 1) (hen : 0 ≤ en.toInt ∧ en.toInt ≤ 400) (htA : 0 ≤ tA.toInt ∧ tA.toInt ≤ en.toInt + 7 - 0) (hde : 0 ≤ 0 ∧ 0 ≤ 6) : zM' g l yX12_read (Cond.code yX12_read cX12_read 4 (some .int) :: zB) ({ frames := 30, cells := 0, slots := 0, locals := 665 } : Room) [.ref o, .int 1] [bMo g o a th hi ac tp (-1) en tA (-1) 0 iD iO tU fm fk fa fc ft ff fb fi] (fun u : Int32 × Int32 × Int32 × Int32 => (fun (at2 : Int32) (fl2 : Int32) (tU2 : Int32) (q : Int32) => some (.int q)) (u.1) (u.2.1) (u.2.2.1) (u.2.2.2)) (fun u : Int32 × Int32 × Int32 × Int32 => (fun (at2 : Int32) (fl2 : Int32) (tU2 : Int32) (q : Int32) => (0 ≤ at2.toInt ∧ at2.toInt ≤ en.toInt + 7 - 0) ∧ (tA.toInt ≤ at2.toInt) ∧ ((-1) = fl2 ∧ zLawR ft en.toInt tA.toInt q.toInt ∨ 0 ≤ fl2.toInt ∧ zLawB ft en.toInt tA.toInt fl2.toInt)) (u.1) (u.2.1) (u.2.2.1) (u.2.2.2)) (fun u : Int32 × Int32 × Int32 × Int32 => (fun (at2 : Int32) (fl2 : Int32) (tU2 : Int32) (q : Int32) => [bMo g o a th hi ac tp (-1) en at2 fl2 0 iD iO tU2 fm fk fa fc ft ff fb fi]) (u.1) (u.2.1) (u.2.2.1) (u.2.2.2)) := by
  refine zM'.of (cc := cX12_read) (maxL := 4) (rt := (some .int)) (by decide) rfl (Nat.le_of_ble_eq_true rfl) ?_
  intro p e s m args below meth c A ls St hr hlocks hin hK hT hA hP hD hS hl
  obtain ⟨hx, hb, hml, hown, hts⟩ := id St
  have hl : lv_has ls 4 [(0, .ref o), (1, .int 1)] := hl
  refine lv_aload_n hx hb dX12_read_0 rfl (lv_at hl 0 rfl) ?_
  have hL0 : (0 : Int32).toInt = 0 := by decide
  refine mcallV' (g := g) (q0 := 0) (ci := 10) (As := []) (rest := []) St hK hT hA hP hD hS hl.1 [0] [] rfl rfl rfl (m_skipF l g o a th hi ac tp en tA (-1) 0 iD iO tU fm fk fa fc ft ff fb fi hen (by first | assumption | omega | decide | exact Or.inl (by decide) | exact Or.inr (by decide)) (by decide)) (cwV 0 hts (zgL (zl4 k884 k885 k886 k839) k877) rfl rfl rfl (by decide +kernel) ⟨Nat.le_of_ble_eq_true rfl, Nat.le_of_ble_eq_true rfl⟩) rfl rfl rfl rfl (Nat.le_of_ble_eq_true rfl) dX12_read_1 ⟨(Nat.le_of_ble_eq_true rfl), (Nat.le_of_ble_eq_true rfl)⟩ (fun at2_1 H locs hq2 hP hD hS => ?_)
  replace hq2 : (0 ≤ at2_1.toInt ∧ at2_1.toInt ≤ en.toInt + 7 - (0 : Int32).toInt) ∧ (tA.toInt ≤ at2_1.toInt) ∧ (zSk ft en.toInt tA.toInt at2_1.toInt) := hq2
  have hP : va_P g.1 vwCl (List.flatten [bMo g o a th hi ac tp (-1) en at2_1 (-1) 0 iD iO tU fm fk fa fc ft ff fb fi]) H := hP
  have hD : va_D A (List.flatten [bMo g o a th hi ac tp (-1) en at2_1 (-1) 0 iD iO tU fm fk fa fc ft ff fb fi]) := hD
  refine W.widen (k := 0) (n := 0) (Nat.le_of_ble_eq_true rfl) (Nat.le_of_ble_eq_true rfl) ?_
  refine W.eq (g2 := F0 m 4 ls []) rfl ?_
  obtain ⟨hq2_0, hq2_1, hq2_2⟩ := hq2
  refine lv_aload_n hx hb dX12_read_4 rfl (lv_at hl 0 rfl) ?_
  refine va_get (D := g.1) (ci := 10) (v := .int at2_1) (C := RX12) (T := TX12) (N := 20) hx hb hts izRX12 hown hK hP 0 rfl rfl 11 (by decide) (hts _ k878) (fun _ h9 => h9) rfl dX12_read_5 ?_
  refine lv_aload_n hx hb dX12_read_8 rfl (lv_at hl 0 rfl) ?_
  refine va_get (D := g.1) (ci := 10) (v := .int en) (C := RX12) (T := TX12) (N := 20) hx hb hts izRX12 hown hK hP 0 rfl rfl 10 (by decide) (hts _ k879) (fun _ h9 => h9) rfl dX12_read_9 ?_
  refine lv_icmp_ge (tgt := 19) hx hb dX12_read_12 (by decide) (fun cb9 => ?_) (fun cb9 => ?_)
  · skip
    have c3 : en.toInt ≤ at2_1.toInt := zle cb9 rfl rfl
    refine lv_iconst (v := 0) hx hb dX12_read_19 (by decide) ?_
    refine lv_istore_n (lv' := [(2, .int 0), (0, .ref o), (1, .int 1)]) hx hb dX12_read_20 rfl hl (by decide) rfl (fun ls hl => ?_)
    refine lv_iconst (v := 0) hx hb dX12_read_21 (by decide) ?_
    refine lv_istore_n (lv' := [(3, .int 0), (2, .int 0), (0, .ref o), (1, .int 1)]) hx hb dX12_read_22 rfl hl (by decide) rfl (fun ls hl => ?_)
    have hl := lv_sub (l' := [(0, .ref o), (1, .int 1), (2, .int 0), (3, .int 0)]) hl [2, 3, 1, 0] rfl
    have LP23_17 : ∀ (kf : Nat) (x_4 : Int32) (x_5 : Int32) (x_6 : Int32) (x_7 : Int32) (x_8 : Int32), (0 ≤ x_4.toInt ∧ x_4.toInt ≤ 1) → (0 ≤ x_5.toInt ∧ x_5.toInt ≤ 14) → (0 ≤ x_6.toInt ∧ x_6.toInt ≤ 408) → (x_4.toInt = 0 ∨ ¬ x_7.toInt = -1 ∨ x_5.toInt ≤ 12) → (tA.toInt ≤ x_6.toInt) → (x_6.toInt ≤ en.toInt + 7 - 0) → (-1 ≤ x_7.toInt) → (zRd ft en.toInt tA.toInt x_4.toInt x_7.toInt x_5.toInt x_6.toInt) → ∀ (H : Heap) (locs : List Loc) (ls : Array Slot), ((15 - x_5.toInt).toNat) < kf → va_P g.1 vwCl (List.flatten [bMo g o a th hi ac tp (-1) en x_6 x_7 0 iD iO x_8 fm fk fa fc ft ff fb fi]) H → va_D A (List.flatten [bMo g o a th hi ac tp (-1) en x_6 x_7 0 iD iO x_8 fm fk fa fc ft ff fb fi]) → va_S A s.heap H locs → lv_has ls 4 [(0, .ref o), (1, .int 1), (2, .int x_4), (3, .int x_5)] → W p l e ({ frames := 30, cells := 0, slots := 0, locals := 665 } : Room) s m args below meth c H locs (0) (0) (zF g (fun u : Int32 × Int32 × Int32 × Int32 => (fun (at2 : Int32) (fl2 : Int32) (tU2 : Int32) (q : Int32) => some (.int q)) (u.1) (u.2.1) (u.2.2.1) (u.2.2.2)) (fun u : Int32 × Int32 × Int32 × Int32 => (fun (at2 : Int32) (fl2 : Int32) (tU2 : Int32) (q : Int32) => (0 ≤ at2.toInt ∧ at2.toInt ≤ en.toInt + 7 - 0) ∧ (tA.toInt ≤ at2.toInt) ∧ ((-1) = fl2 ∧ zLawR ft en.toInt tA.toInt q.toInt ∨ 0 ≤ fl2.toInt ∧ zLawB ft en.toInt tA.toInt fl2.toInt)) (u.1) (u.2.1) (u.2.2.1) (u.2.2.2)) (fun u : Int32 × Int32 × Int32 × Int32 => (fun (at2 : Int32) (fl2 : Int32) (tU2 : Int32) (q : Int32) => [bMo g o a th hi ac tp (-1) en at2 fl2 0 iD iO tU2 fm fk fa fc ft ff fb fi]) (u.1) (u.2.1) (u.2.2.1) (u.2.2.2)) ({ frames := 30, cells := 0, slots := 0, locals := 665 } : Room) below args s A) (F0 m 23 ls []) := by
      intro kf
      induction kf with
      | zero => intro x_4 x_5 x_6 x_7 x_8 i9 i10 i11 i12 i13 i14 i15 i16 H locs ls hk; exact absurd hk (Nat.not_lt_zero _)
      | succ kf ih23_18 =>
        intro x_4 x_5 x_6 x_7 x_8 i9 i10 i11 i12 i13 i14 i15 i16 H locs ls hk23_18 hP hD hS hl
        refine lv_iload_n hx hb dX12_read_23 rfl (lv_at hl 2 rfl) ?_
        refine lv_if_eq (tgt := 144) hx hb dX12_read_24 (by decide) (fun cb9 => ?_) (fun cb9 => ?_)
        · skip
          have c19 : x_4.toInt = 0 := zeq cb9 rfl (by decide)
          have n20 : x_4.toInt ≤ 0 := Int.le_trans (Int.le_of_eq c19) (Int.le_refl _)
          refine lv_iload_n hx hb dX12_read_144 rfl (lv_at hl 3 rfl) ?_
          have hP : va_P g.1 vwCl (List.flatten [bMo g o a th hi ac tp (-1) en x_6 x_7 0 iD iO x_8 fm fk fa fc ft ff fb fi]) H := hP
          have hD : va_D A (List.flatten [bMo g o a th hi ac tp (-1) en x_6 x_7 0 iD iO x_8 fm fk fa fc ft ff fb fi]) := hD
          exact mret_i hx hb hr hlocks hS (Nat.le_of_ble_eq_true rfl) (Nat.le_of_ble_eq_true rfl) dX12_read_145 (x_6, x_7, x_8, x_5) rfl (show (0 ≤ x_6.toInt ∧ x_6.toInt ≤ en.toInt + 7 - 0) ∧ (tA.toInt ≤ x_6.toInt) ∧ ((-1) = x_7 ∧ zLawR ft en.toInt tA.toInt x_5.toInt ∨ 0 ≤ x_7.toInt ∧ zLawB ft en.toInt tA.toInt x_7.toInt) from ⟨(by first | assumption | omega | exact Or.inl (by decide) | exact Or.inr (by omega)), (by first | assumption | omega | exact Or.inl (by decide) | exact Or.inr (by omega)), zRd_x i16 (Or.inl (by omega))⟩) hP hD
        · skip
          have c21 : ¬ x_4.toInt = 0 := zne cb9 rfl (by decide)
          have n22 : 1 ≤ x_4.toInt := zN1 c21 i9.1 (by decide)
          refine lv_aload_n hx hb dX12_read_27 rfl (lv_at hl 0 rfl) ?_
          refine va_get (D := g.1) (ci := 10) (v := .int x_7) (C := RX12) (T := TX12) (N := 20) hx hb hts izRX12 hown hK hP 0 rfl rfl 12 (by decide) (hts _ k820) (fun _ h9 => h9) rfl dX12_read_28 ?_
          refine lv_iconst (v := (-1)) hx hb dX12_read_31 (by decide) ?_
          refine lv_icmp_ne (tgt := 144) hx hb dX12_read_32 (by decide) (fun cb9 => ?_) (fun cb9 => ?_)
          · skip
            have c23 : ¬ x_7.toInt = (-1) := zne cb9 rfl (by decide)
            refine lv_iload_n hx hb dX12_read_144 rfl (lv_at hl 3 rfl) ?_
            have hP : va_P g.1 vwCl (List.flatten [bMo g o a th hi ac tp (-1) en x_6 x_7 0 iD iO x_8 fm fk fa fc ft ff fb fi]) H := hP
            have hD : va_D A (List.flatten [bMo g o a th hi ac tp (-1) en x_6 x_7 0 iD iO x_8 fm fk fa fc ft ff fb fi]) := hD
            exact mret_i hx hb hr hlocks hS (Nat.le_of_ble_eq_true rfl) (Nat.le_of_ble_eq_true rfl) dX12_read_145 (x_6, x_7, x_8, x_5) rfl (show (0 ≤ x_6.toInt ∧ x_6.toInt ≤ en.toInt + 7 - 0) ∧ (tA.toInt ≤ x_6.toInt) ∧ ((-1) = x_7 ∧ zLawR ft en.toInt tA.toInt x_5.toInt ∨ 0 ≤ x_7.toInt ∧ zLawB ft en.toInt tA.toInt x_7.toInt) from ⟨(by first | assumption | omega | exact Or.inl (by decide) | exact Or.inr (by omega)), (by first | assumption | omega | exact Or.inl (by decide) | exact Or.inr (by omega)), zRd_x i16 (Or.inr (by omega))⟩) hP hD
          · skip
            have c24 : x_7.toInt = (-1) := zeq cb9 rfl (by decide)
            have n25 : (-1) ≤ x_7.toInt := Int.le_trans (Int.le_refl _) (Int.le_of_eq c24.symm)
            have n26 : x_7.toInt ≤ (-1) := Int.le_trans (Int.le_of_eq c24) (Int.le_refl _)
            obtain ⟨w27, w28, w29⟩ := zRd_A i16 (by omega) (by omega)
            have w30 : x_7 = -1 := (zm1 (by omega)).symm
            subst w30
            refine lv_aload_n hx hb dX12_read_35 rfl (lv_at hl 0 rfl) ?_
            refine mcallV' (g := g) (q0 := 0) (ci := 10) (As := []) (rest := []) St hK hT hA hP hD hS hl.1 [0] [] rfl rfl rfl (m_skipF l g o a th hi ac tp en x_6 (-1) 0 iD iO x_8 fm fk fa fc ft ff fb fi hen (by first | assumption | omega | decide | exact Or.inl (by decide) | exact Or.inr (by decide)) (by decide)) (cwV 0 hts (zgL (zl4 k884 k885 k886 k839) k877) rfl rfl rfl (by decide +kernel) ⟨Nat.le_of_ble_eq_true rfl, Nat.le_of_ble_eq_true rfl⟩) rfl rfl rfl rfl (Nat.le_of_ble_eq_true rfl) dX12_read_36 ⟨(Nat.le_of_ble_eq_true rfl), (Nat.le_of_ble_eq_true rfl)⟩ (fun at2_31 H locs hq32 hP hD hS => ?_)
            replace hq32 : (0 ≤ at2_31.toInt ∧ at2_31.toInt ≤ en.toInt + 7 - (0 : Int32).toInt) ∧ (x_6.toInt ≤ at2_31.toInt) ∧ (zSk ft en.toInt x_6.toInt at2_31.toInt) := hq32
            have hP : va_P g.1 vwCl (List.flatten [bMo g o a th hi ac tp (-1) en at2_31 (-1) 0 iD iO x_8 fm fk fa fc ft ff fb fi]) H := hP
            have hD : va_D A (List.flatten [bMo g o a th hi ac tp (-1) en at2_31 (-1) 0 iD iO x_8 fm fk fa fc ft ff fb fi]) := hD
            refine W.widen (k := 0) (n := 0) (Nat.le_of_ble_eq_true rfl) (Nat.le_of_ble_eq_true rfl) ?_
            refine W.eq (g2 := F0 m 39 ls []) rfl ?_
            obtain ⟨hq32_0, hq32_1, hq32_2⟩ := hq32
            refine lv_iload_n hx hb dX12_read_39 rfl (lv_at hl 3 rfl) ?_
            refine lv_iload_n hx hb dX12_read_40 rfl (lv_at hl 1 rfl) ?_
            refine lv_if_eq (tgt := 49) hx hb dX12_read_41 (by decide) (fun c33 => absurd c33 (by decide)) (fun _ => ?_)
            refine lv_bipush (v := 12) hx hb dX12_read_44 (by decide) ?_
            refine lv_goto (tgt := 51) hx hb dX12_read_46 (by decide) ?_
            refine lv_icmp_ne (tgt := 65) hx hb dX12_read_51 (by decide) (fun cb9 => ?_) (fun cb9 => ?_)
            · skip
              have c34 : ¬ x_5.toInt = 12 := zne cb9 rfl (by decide)
              refine lv_iload_n hx hb dX12_read_65 rfl (lv_at hl 1 rfl) ?_
              refine lv_if_eq (tgt := 76) hx hb dX12_read_66 (by decide) (fun c35 => absurd c35 (by decide)) (fun _ => ?_)
              refine lv_aload_n hx hb dX12_read_69 rfl (lv_at hl 0 rfl) ?_
              refine mcallV' (g := g) (q0 := 0) (ci := 10) (As := []) (rest := []) St hK hT hA hP hD hS hl.1 [0] [] rfl rfl rfl (m_lawLineF l g o a th hi ac tp en at2_31 iD iO x_8 fm fk fa fc ft ff fb fi hiD hiO hen (by first | assumption | omega | decide | exact Or.inl (by decide) | exact Or.inr (by decide)) hde) (cwV 0 hts (zgL (zl4 k965 k966 k967 k839) k964) rfl rfl rfl (by decide +kernel) ⟨Nat.le_of_ble_eq_true rfl, Nat.le_of_ble_eq_true rfl⟩) rfl rfl rfl rfl (Nat.le_of_ble_eq_true rfl) dX12_read_70 ⟨(Nat.le_of_ble_eq_true rfl), (Nat.le_of_ble_eq_true rfl)⟩ (fun u_ H locs hq39 hP hD hS => ?_)
              obtain ⟨at2_36, fl2_37, tU2_38⟩ := u_
              replace hq39 : (0 ≤ at2_36.toInt ∧ at2_36.toInt ≤ en.toInt + 7 - 0) ∧ (at2_31.toInt ≤ at2_36.toInt) ∧ ((-1) = fl2_37 ∧ zLLine ft en.toInt (zbg ft en.toInt at2_31.toInt) (.ok (zbg ft en.toInt at2_36.toInt)) ∨ 0 ≤ fl2_37.toInt ∧ zLLine ft en.toInt (zbg ft en.toInt at2_31.toInt) (.bad fl2_37.toInt)) := hq39
              have hP : va_P g.1 vwCl (List.flatten [bMo g o a th hi ac tp (-1) en at2_36 fl2_37 0 iD iO tU2_38 fm fk fa fc ft ff fb fi]) H := hP
              have hD : va_D A (List.flatten [bMo g o a th hi ac tp (-1) en at2_36 fl2_37 0 iD iO tU2_38 fm fk fa fc ft ff fb fi]) := hD
              refine W.widen (k := 0) (n := 0) (Nat.le_of_ble_eq_true rfl) (Nat.le_of_ble_eq_true rfl) ?_
              refine W.eq (g2 := F0 m 73 ls []) rfl ?_
              obtain ⟨hq39_0, hq39_1, hq39_2⟩ := hq39
              rcases hq39_2 with ⟨rfl, hq39_k⟩ | ⟨hq39_k, hq39_km⟩
              · skip
                refine lv_goto (tgt := 80) hx hb dX12_read_73 (by decide) ?_
                refine ziinc3 (n' := 1) (a' := 1) (b' := 15) (lv' := fun v9 => [(3, .int v9), (0, .ref o), (1, .int 1), (2, .int x_4)]) hx hb dX12_read_80 hl (k := 3) rfl (by decide) (fun _ => rfl) (zaddK (i := x_5.toInt) (j := 1) rfl (by decide) i10.1 i10.2 (Int.le_refl _) (Int.le_refl _) (by decide)) (fun x_40 ls hx_40 hl => ?_)
                refine lv_aload_n hx hb dX12_read_83 rfl (lv_at hl 1 rfl) ?_
                refine mcallV' (g := g) (q0 := 0) (ci := 10) (As := []) (rest := []) St hK hT hA hP hD hS hl.1 [0] [] rfl rfl rfl (m_skipF l g o a th hi ac tp en at2_36 (-1) 0 iD iO tU2_38 fm fk fa fc ft ff fb fi hen (by first | assumption | omega | decide | exact Or.inl (by decide) | exact Or.inr (by decide)) (by decide)) (cwV 0 hts (zgL (zl4 k884 k885 k886 k839) k877) rfl rfl rfl (by decide +kernel) ⟨Nat.le_of_ble_eq_true rfl, Nat.le_of_ble_eq_true rfl⟩) rfl rfl rfl rfl (Nat.le_of_ble_eq_true rfl) dX12_read_84 ⟨(Nat.le_of_ble_eq_true rfl), (Nat.le_of_ble_eq_true rfl)⟩ (fun at2_41 H locs hq42 hP hD hS => ?_)
                replace hq42 : (0 ≤ at2_41.toInt ∧ at2_41.toInt ≤ en.toInt + 7 - (0 : Int32).toInt) ∧ (at2_36.toInt ≤ at2_41.toInt) ∧ (zSk ft en.toInt at2_36.toInt at2_41.toInt) := hq42
                have hP : va_P g.1 vwCl (List.flatten [bMo g o a th hi ac tp (-1) en at2_41 (-1) 0 iD iO tU2_38 fm fk fa fc ft ff fb fi]) H := hP
                have hD : va_D A (List.flatten [bMo g o a th hi ac tp (-1) en at2_41 (-1) 0 iD iO tU2_38 fm fk fa fc ft ff fb fi]) := hD
                refine W.widen (k := 0) (n := 0) (Nat.le_of_ble_eq_true rfl) (Nat.le_of_ble_eq_true rfl) ?_
                refine W.eq (g2 := F0 m 87 ls []) rfl ?_
                obtain ⟨hq42_0, hq42_1, hq42_2⟩ := hq42
                refine lv_aload_n hx hb dX12_read_87 rfl (lv_at hl 1 rfl) ?_
                refine va_get (D := g.1) (ci := 10) (v := .int (-1)) (C := RX12) (T := TX12) (N := 20) hx hb hts izRX12 hown hK hP 0 rfl rfl 12 (by decide) (hts _ k820) (fun _ h9 => h9) rfl dX12_read_88 ?_
                refine lv_iconst (v := (-1)) hx hb dX12_read_91 (by decide) ?_
                refine lv_icmp_ne (tgt := 106) hx hb dX12_read_92 (by decide) (fun c43 => absurd (by decide) c43) (fun _ => ?_)
                refine lv_aload_n hx hb dX12_read_95 rfl (lv_at hl 1 rfl) ?_
                refine va_get (D := g.1) (ci := 10) (v := .int at2_41) (C := RX12) (T := TX12) (N := 20) hx hb hts izRX12 hown hK hP 0 rfl rfl 11 (by decide) (hts _ k878) (fun _ h9 => h9) rfl dX12_read_96 ?_
                refine lv_aload_n hx hb dX12_read_99 rfl (lv_at hl 1 rfl) ?_
                refine va_get (D := g.1) (ci := 10) (v := .int en) (C := RX12) (T := TX12) (N := 20) hx hb hts izRX12 hown hK hP 0 rfl rfl 10 (by decide) (hts _ k879) (fun _ h9 => h9) rfl dX12_read_100 ?_
                refine lv_icmp_ne (tgt := 111) hx hb dX12_read_103 (by decide) (fun cb9 => ?_) (fun cb9 => ?_)
                · skip
                  have c44 : ¬ at2_41.toInt = en.toInt := zne cb9 rfl rfl
                  refine lv_aload_n hx hb dX12_read_111 rfl (lv_at hl 1 rfl) ?_
                  refine lv_bipush (v := 59) hx hb dX12_read_112 (by decide) ?_
                  have hL59 : (59 : Int32).toInt = 59 := by decide
                  refine mcallV' (g := g) (q0 := 0) (ci := 10) (As := [.int 59]) (rest := []) St hK hT hA hP hD hS hl.1 [0] [] rfl rfl rfl (m_isSignF l g o a th hi ac tp en at2_41 (-1) 0 iD iO tU2_38 fm fk fa fc ft ff fb fi 59 hen hq42_0 (by decide) (by first | assumption | omega | decide | exact Or.inl (by decide) | exact Or.inr (by decide))) (cwV 1 hts (zgL (zl4 k938 k939 k940 k839) k883) rfl rfl rfl (by decide +kernel) ⟨Nat.le_of_ble_eq_true rfl, Nat.le_of_ble_eq_true rfl⟩) rfl rfl rfl rfl (Nat.le_of_ble_eq_true rfl) dX12_read_114 ⟨(Nat.le_of_ble_eq_true rfl), (Nat.le_of_ble_eq_true rfl)⟩ (fun u_ H locs hq47 hP hD hS => ?_)
                  obtain ⟨at2_45, q_46⟩ := u_
                  replace hq47 : (0 ≤ at2_45.toInt ∧ at2_45.toInt ≤ en.toInt + 7 - (0 : Int32).toInt) ∧ (at2_41.toInt ≤ at2_45.toInt) ∧ (zSk ft en.toInt at2_41.toInt at2_45.toInt) ∧ (q_46 = 1 ∧ zisS ft en.toInt at2_45.toInt (59 : Int32).toInt ∧ at2_45.toInt < en.toInt ∨ q_46 = 0 ∧ ¬ zisS ft en.toInt at2_45.toInt (59 : Int32).toInt) := hq47
                  have hP : va_P g.1 vwCl (List.flatten [bMo g o a th hi ac tp (-1) en at2_45 (-1) 0 iD iO tU2_38 fm fk fa fc ft ff fb fi]) H := hP
                  have hD : va_D A (List.flatten [bMo g o a th hi ac tp (-1) en at2_45 (-1) 0 iD iO tU2_38 fm fk fa fc ft ff fb fi]) := hD
                  refine W.widen (k := 0) (n := 0) (Nat.le_of_ble_eq_true rfl) (Nat.le_of_ble_eq_true rfl) ?_
                  refine W.eq (g2 := F0 m 117 ls [.int q_46]) rfl ?_
                  obtain ⟨hq47_0, hq47_1, hq47_2, hq47_3⟩ := hq47
                  rcases hq47_3 with ⟨rfl, hq47_k⟩ | ⟨rfl, hq47_k⟩
                  · skip
                    refine lv_if_eq (tgt := 133) hx hb dX12_read_117 (by decide) (fun c48 => absurd c48 (by decide)) (fun _ => ?_)
                    refine lv_aload_n hx hb dX12_read_120 rfl (lv_at hl 1 rfl) ?_
                    refine lv_dup hx hb dX12_read_121 rfl ?_
                    refine va_get (D := g.1) (ci := 10) (v := .int at2_45) (C := RX12) (T := TX12) (N := 20) hx hb hts izRX12 hown hK hP 0 rfl rfl 11 (by decide) (hts _ k878) (fun _ h9 => h9) rfl dX12_read_122 ?_
                    refine lv_iconst (v := 1) hx hb dX12_read_125 (by decide) ?_
                    refine lv_iadd hx hb dX12_read_126 ?_
                    refine zgv (zadd (i := at2_45.toInt) (j := 1) rfl (by decide) (by omega)) (fun x_49 hx_49 => ?_)
                    refine va_put (D := g.1) (ci := 10) (v := .int x_49) (ty := .int) (C := RX12) (T := TX12) (N := 20) hx hb hts izRX12 tyX12 tyX12_ok nmX12 hown hK hP hD hS 0 rfl rfl 11 (by decide) (hts _ k878) (fun _ h9 => h9) rfl (by decide +kernel) rfl rfl (Nat.le_of_ble_eq_true rfl) dX12_read_127 (fun H locs hP hD hS => ?_)
                    have hP : va_P g.1 vwCl (List.flatten [bMo g o a th hi ac tp (-1) en x_49 (-1) 0 iD iO tU2_38 fm fk fa fc ft ff fb fi]) H := hP
                    have hD : va_D A (List.flatten [bMo g o a th hi ac tp (-1) en x_49 (-1) 0 iD iO tU2_38 fm fk fa fc ft ff fb fi]) := hD
                    refine lv_goto (tgt := 23) hx hb dX12_read_130 (by decide) ?_
                    have hl := lv_sub (l' := [(0, .ref o), (1, .int 1), (2, .int x_4), (3, .int x_40)]) hl [1, 2, 3, 0] rfl
                    have hP : va_P g.1 vwCl (List.flatten [bMo g o a th hi ac tp (-1) en x_49 (-1) 0 iD iO tU2_38 fm fk fa fc ft ff fb fi]) H := hP
                    have hD : va_D A (List.flatten [bMo g o a th hi ac tp (-1) en x_49 (-1) 0 iD iO tU2_38 fm fk fa fc ft ff fb fi]) := hD
                    exact ih23_18 x_4 x_40 x_49 (-1) tU2_38 ⟨(Int.le_trans (by decide) n22), i9.2⟩ (by first | omega | assumption | decide) (by first | omega | assumption | decide) (by first | omega | assumption | decide) (by first | omega | assumption | decide) (by first | omega | assumption | decide) (by first | omega | assumption | decide) (zRd_d (by omega) w27 w28 w29 hq32_2 hq39_k hq42_2 (by omega) hq47_2 hq47_k.1 (by decide) (by omega) (by decide) hx_40.1 (by omega)) H _ ls (by omega)  hP hD hS (lv_sub hl [0, 1, 2, 3] rfl)
                  · skip
                    refine lv_if_eq (tgt := 133) hx hb dX12_read_117 (by decide) (fun _ => ?_) (fun c50 => absurd (by decide) c50)
                    refine lv_aload_n hx hb dX12_read_133 rfl (lv_at hl 1 rfl) ?_
                    refine lv_aload_n hx hb dX12_read_134 rfl (lv_at hl 1 rfl) ?_
                    refine va_get (D := g.1) (ci := 10) (v := .int at2_45) (C := RX12) (T := TX12) (N := 20) hx hb hts izRX12 hown hK hP 0 rfl rfl 11 (by decide) (hts _ k878) (fun _ h9 => h9) rfl dX12_read_135 ?_
                    refine mcallV' (g := g) (q0 := 0) (ci := 10) (As := [.int at2_45]) (rest := []) St hK hT hA hP hD hS hl.1 [0] [] rfl rfl rfl (m_wrongF l g o a th hi ac tp (-1) en at2_45 0 iD iO tU2_38 fm fk fa fc ft ff fb fi at2_45 ) (cwV 1 hts (zgL (zl4 k895 k896 k897 k839) k890) rfl rfl rfl (by decide +kernel) ⟨Nat.le_of_ble_eq_true rfl, Nat.le_of_ble_eq_true rfl⟩) rfl rfl rfl rfl (Nat.le_of_ble_eq_true rfl) dX12_read_138 ⟨(Nat.le_of_ble_eq_true rfl), (Nat.le_of_ble_eq_true rfl)⟩ (fun _u H locs hq51 hP hD hS => ?_)
                    have hP : va_P g.1 vwCl (List.flatten [bMo g o a th hi ac tp (-1) en at2_45 at2_45 0 iD iO tU2_38 fm fk fa fc ft ff fb fi]) H := hP
                    have hD : va_D A (List.flatten [bMo g o a th hi ac tp (-1) en at2_45 at2_45 0 iD iO tU2_38 fm fk fa fc ft ff fb fi]) := hD
                    refine W.widen (k := 0) (n := 0) (Nat.le_of_ble_eq_true rfl) (Nat.le_of_ble_eq_true rfl) ?_
                    refine W.eq (g2 := F0 m 141 ls []) rfl ?_
                    refine lv_goto (tgt := 23) hx hb dX12_read_141 (by decide) ?_
                    have hl := lv_sub (l' := [(0, .ref o), (1, .int 1), (2, .int x_4), (3, .int x_40)]) hl [1, 2, 3, 0] rfl
                    have hP : va_P g.1 vwCl (List.flatten [bMo g o a th hi ac tp (-1) en at2_45 at2_45 0 iD iO tU2_38 fm fk fa fc ft ff fb fi]) H := hP
                    have hD : va_D A (List.flatten [bMo g o a th hi ac tp (-1) en at2_45 at2_45 0 iD iO tU2_38 fm fk fa fc ft ff fb fi]) := hD
                    exact ih23_18 x_4 x_40 at2_45 at2_45 tU2_38 ⟨(Int.le_trans (by decide) n22), i9.2⟩ (by first | omega | assumption | decide) (by first | omega | assumption | decide) (by first | omega | assumption | decide) (by first | omega | assumption | decide) (by first | omega | assumption | decide) (by first | omega | assumption | decide) (zRd_e (by omega) w27 w28 w29 hq32_2 hq39_k hq42_2 (by omega) hq47_2 hq47_k (by decide) rfl) H _ ls (by omega)  hP hD hS (lv_sub hl [0, 1, 2, 3] rfl)
                · skip
                  have c52 : at2_41.toInt = en.toInt := zeq cb9 rfl rfl
                  have n53 : at2_41.toInt ≤ 400 := Int.le_trans (Int.le_of_eq c52) hen.2
                  refine lv_iconst (v := 0) hx hb dX12_read_106 (by decide) ?_
                  refine lv_istore_n (lv' := [(2, .int 0), (3, .int x_40), (0, .ref o), (1, .int 1)]) hx hb dX12_read_107 rfl hl (by decide) rfl (fun ls hl => ?_)
                  refine lv_goto (tgt := 23) hx hb dX12_read_108 (by decide) ?_
                  have hl := lv_sub (l' := [(0, .ref o), (1, .int 1), (2, .int 0), (3, .int x_40)]) hl [2, 3, 0, 1] rfl
                  have hLn1 : ((-1) : Int32).toInt = (-1) := by decide
                  have hP : va_P g.1 vwCl (List.flatten [bMo g o a th hi ac tp (-1) en at2_41 (-1) 0 iD iO tU2_38 fm fk fa fc ft ff fb fi]) H := hP
                  have hD : va_D A (List.flatten [bMo g o a th hi ac tp (-1) en at2_41 (-1) 0 iD iO tU2_38 fm fk fa fc ft ff fb fi]) := hD
                  exact ih23_18 0 x_40 at2_41 (-1) tU2_38 (by decide) (by first | omega | assumption | decide) (by first | omega | assumption | decide) (by first | omega | assumption | decide) (by first | omega | assumption | decide) (by first | omega | assumption | decide) (by first | omega | assumption | decide) (zRd_c (by omega) w27 w28 w29 hq32_2 hq39_k hq42_2 (by omega) (by decide) (by decide) hx_40.1) H _ ls (by omega)  hP hD hS (lv_sub hl [0, 1, 2, 3] rfl)
              · skip
                refine lv_goto (tgt := 80) hx hb dX12_read_73 (by decide) ?_
                refine ziinc3 (n' := 1) (a' := 1) (b' := 15) (lv' := fun v9 => [(3, .int v9), (0, .ref o), (1, .int 1), (2, .int x_4)]) hx hb dX12_read_80 hl (k := 3) rfl (by decide) (fun _ => rfl) (zaddK (i := x_5.toInt) (j := 1) rfl (by decide) i10.1 i10.2 (Int.le_refl _) (Int.le_refl _) (by decide)) (fun x_54 ls hx_54 hl => ?_)
                refine lv_aload_n hx hb dX12_read_83 rfl (lv_at hl 1 rfl) ?_
                refine mcallV' (g := g) (q0 := 0) (ci := 10) (As := []) (rest := []) St hK hT hA hP hD hS hl.1 [0] [] rfl rfl rfl (m_skipF l g o a th hi ac tp en at2_36 fl2_37 0 iD iO tU2_38 fm fk fa fc ft ff fb fi hen (by first | assumption | omega | decide | exact Or.inl (by decide) | exact Or.inr (by decide)) (by decide)) (cwV 0 hts (zgL (zl4 k884 k885 k886 k839) k877) rfl rfl rfl (by decide +kernel) ⟨Nat.le_of_ble_eq_true rfl, Nat.le_of_ble_eq_true rfl⟩) rfl rfl rfl rfl (Nat.le_of_ble_eq_true rfl) dX12_read_84 ⟨(Nat.le_of_ble_eq_true rfl), (Nat.le_of_ble_eq_true rfl)⟩ (fun at2_55 H locs hq56 hP hD hS => ?_)
                replace hq56 : (0 ≤ at2_55.toInt ∧ at2_55.toInt ≤ en.toInt + 7 - (0 : Int32).toInt) ∧ (at2_36.toInt ≤ at2_55.toInt) ∧ (zSk ft en.toInt at2_36.toInt at2_55.toInt) := hq56
                have hP : va_P g.1 vwCl (List.flatten [bMo g o a th hi ac tp (-1) en at2_55 fl2_37 0 iD iO tU2_38 fm fk fa fc ft ff fb fi]) H := hP
                have hD : va_D A (List.flatten [bMo g o a th hi ac tp (-1) en at2_55 fl2_37 0 iD iO tU2_38 fm fk fa fc ft ff fb fi]) := hD
                refine W.widen (k := 0) (n := 0) (Nat.le_of_ble_eq_true rfl) (Nat.le_of_ble_eq_true rfl) ?_
                refine W.eq (g2 := F0 m 87 ls []) rfl ?_
                obtain ⟨hq56_0, hq56_1, hq56_2⟩ := hq56
                refine lv_aload_n hx hb dX12_read_87 rfl (lv_at hl 1 rfl) ?_
                refine va_get (D := g.1) (ci := 10) (v := .int fl2_37) (C := RX12) (T := TX12) (N := 20) hx hb hts izRX12 hown hK hP 0 rfl rfl 12 (by decide) (hts _ k820) (fun _ h9 => h9) rfl dX12_read_88 ?_
                refine lv_iconst (v := (-1)) hx hb dX12_read_91 (by decide) ?_
                refine lv_icmp_ne (tgt := 106) hx hb dX12_read_92 (by decide) (fun cb9 => ?_) (fun cb9 => ?_)
                · skip
                  have c57 : ¬ fl2_37.toInt = (-1) := zne cb9 rfl (by decide)
                  refine lv_iconst (v := 0) hx hb dX12_read_106 (by decide) ?_
                  refine lv_istore_n (lv' := [(2, .int 0), (3, .int x_54), (0, .ref o), (1, .int 1)]) hx hb dX12_read_107 rfl hl (by decide) rfl (fun ls hl => ?_)
                  refine lv_goto (tgt := 23) hx hb dX12_read_108 (by decide) ?_
                  have hl := lv_sub (l' := [(0, .ref o), (1, .int 1), (2, .int 0), (3, .int x_54)]) hl [2, 3, 0, 1] rfl
                  have hP : va_P g.1 vwCl (List.flatten [bMo g o a th hi ac tp (-1) en at2_55 fl2_37 0 iD iO tU2_38 fm fk fa fc ft ff fb fi]) H := hP
                  have hD : va_D A (List.flatten [bMo g o a th hi ac tp (-1) en at2_55 fl2_37 0 iD iO tU2_38 fm fk fa fc ft ff fb fi]) := hD
                  exact ih23_18 0 x_54 at2_55 fl2_37 tU2_38 (by decide) (by first | omega | assumption | decide) (by first | omega | assumption | decide) (by first | omega | assumption | decide) (by first | omega | assumption | decide) (by first | omega | assumption | decide) (by first | omega | assumption | decide) (zRd_b (by omega) w27 w28 w29 hq32_2 hq39_km hq39_k) H _ ls (by omega)  hP hD hS (lv_sub hl [0, 1, 2, 3] rfl)
                · skip
                  exact absurd (show fl2_37.toInt = (-1) from zeq cb9 rfl (by decide)) (zDeq2 (a := 0) (b := (-1)) hq39_k (Int.le_refl _) (by decide))
            · skip
              have c59 : x_5.toInt = 12 := zeq cb9 rfl (by decide)
              have n60 : 12 ≤ x_5.toInt := Int.le_trans (Int.le_refl _) (Int.le_of_eq c59.symm)
              have n61 : x_5.toInt ≤ 12 := Int.le_trans (Int.le_of_eq c59) (Int.le_refl _)
              refine lv_aload_n hx hb dX12_read_54 rfl (lv_at hl 0 rfl) ?_
              refine lv_aload_n hx hb dX12_read_55 rfl (lv_at hl 0 rfl) ?_
              refine va_get (D := g.1) (ci := 10) (v := .int at2_31) (C := RX12) (T := TX12) (N := 20) hx hb hts izRX12 hown hK hP 0 rfl rfl 11 (by decide) (hts _ k878) (fun _ h9 => h9) rfl dX12_read_56 ?_
              refine mcallV' (g := g) (q0 := 0) (ci := 10) (As := [.int at2_31]) (rest := []) St hK hT hA hP hD hS hl.1 [0] [] rfl rfl rfl (m_wrongF l g o a th hi ac tp (-1) en at2_31 0 iD iO x_8 fm fk fa fc ft ff fb fi at2_31 ) (cwV 1 hts (zgL (zl4 k895 k896 k897 k839) k890) rfl rfl rfl (by decide +kernel) ⟨Nat.le_of_ble_eq_true rfl, Nat.le_of_ble_eq_true rfl⟩) rfl rfl rfl rfl (Nat.le_of_ble_eq_true rfl) dX12_read_59 ⟨(Nat.le_of_ble_eq_true rfl), (Nat.le_of_ble_eq_true rfl)⟩ (fun _u H locs hq62 hP hD hS => ?_)
              have hP : va_P g.1 vwCl (List.flatten [bMo g o a th hi ac tp (-1) en at2_31 at2_31 0 iD iO x_8 fm fk fa fc ft ff fb fi]) H := hP
              have hD : va_D A (List.flatten [bMo g o a th hi ac tp (-1) en at2_31 at2_31 0 iD iO x_8 fm fk fa fc ft ff fb fi]) := hD
              refine W.widen (k := 0) (n := 0) (Nat.le_of_ble_eq_true rfl) (Nat.le_of_ble_eq_true rfl) ?_
              refine W.eq (g2 := F0 m 62 ls []) rfl ?_
              refine lv_goto (tgt := 80) hx hb dX12_read_62 (by decide) ?_
              refine ziinc3 (n' := 1) (a' := 13) (b' := 13) (lv' := fun v9 => [(3, .int v9), (0, .ref o), (1, .int 1), (2, .int x_4)]) hx hb dX12_read_80 hl (k := 3) rfl (by decide) (fun _ => rfl) (zaddK (i := x_5.toInt) (j := 1) rfl (by decide) n60 n61 (Int.le_refl _) (Int.le_refl _) (by decide)) (fun x_63 ls hx_63 hl => ?_)
              refine lv_aload_n hx hb dX12_read_83 rfl (lv_at hl 1 rfl) ?_
              refine mcallV' (g := g) (q0 := 0) (ci := 10) (As := []) (rest := []) St hK hT hA hP hD hS hl.1 [0] [] rfl rfl rfl (m_skipF l g o a th hi ac tp en at2_31 at2_31 0 iD iO x_8 fm fk fa fc ft ff fb fi hen hq32_0 (by decide)) (cwV 0 hts (zgL (zl4 k884 k885 k886 k839) k877) rfl rfl rfl (by decide +kernel) ⟨Nat.le_of_ble_eq_true rfl, Nat.le_of_ble_eq_true rfl⟩) rfl rfl rfl rfl (Nat.le_of_ble_eq_true rfl) dX12_read_84 ⟨(Nat.le_of_ble_eq_true rfl), (Nat.le_of_ble_eq_true rfl)⟩ (fun at2_64 H locs hq65 hP hD hS => ?_)
              replace hq65 : (0 ≤ at2_64.toInt ∧ at2_64.toInt ≤ en.toInt + 7 - (0 : Int32).toInt) ∧ (at2_31.toInt ≤ at2_64.toInt) ∧ (zSk ft en.toInt at2_31.toInt at2_64.toInt) := hq65
              have hP : va_P g.1 vwCl (List.flatten [bMo g o a th hi ac tp (-1) en at2_64 at2_31 0 iD iO x_8 fm fk fa fc ft ff fb fi]) H := hP
              have hD : va_D A (List.flatten [bMo g o a th hi ac tp (-1) en at2_64 at2_31 0 iD iO x_8 fm fk fa fc ft ff fb fi]) := hD
              refine W.widen (k := 0) (n := 0) (Nat.le_of_ble_eq_true rfl) (Nat.le_of_ble_eq_true rfl) ?_
              refine W.eq (g2 := F0 m 87 ls []) rfl ?_
              obtain ⟨hq65_0, hq65_1, hq65_2⟩ := hq65
              refine lv_aload_n hx hb dX12_read_87 rfl (lv_at hl 1 rfl) ?_
              refine va_get (D := g.1) (ci := 10) (v := .int at2_31) (C := RX12) (T := TX12) (N := 20) hx hb hts izRX12 hown hK hP 0 rfl rfl 12 (by decide) (hts _ k820) (fun _ h9 => h9) rfl dX12_read_88 ?_
              refine lv_iconst (v := (-1)) hx hb dX12_read_91 (by decide) ?_
              refine lv_icmp_ne (tgt := 106) hx hb dX12_read_92 (by decide) (fun cb9 => ?_) (fun cb9 => ?_)
              · skip
                have c66 : ¬ at2_31.toInt = (-1) := zne cb9 rfl (by decide)
                refine lv_iconst (v := 0) hx hb dX12_read_106 (by decide) ?_
                refine lv_istore_n (lv' := [(2, .int 0), (3, .int x_63), (0, .ref o), (1, .int 1)]) hx hb dX12_read_107 rfl hl (by decide) rfl (fun ls hl => ?_)
                refine lv_goto (tgt := 23) hx hb dX12_read_108 (by decide) ?_
                have hl := lv_sub (l' := [(0, .ref o), (1, .int 1), (2, .int 0), (3, .int x_63)]) hl [2, 3, 0, 1] rfl
                have hP : va_P g.1 vwCl (List.flatten [bMo g o a th hi ac tp (-1) en at2_64 at2_31 0 iD iO x_8 fm fk fa fc ft ff fb fi]) H := hP
                have hD : va_D A (List.flatten [bMo g o a th hi ac tp (-1) en at2_64 at2_31 0 iD iO x_8 fm fk fa fc ft ff fb fi]) := hD
                exact ih23_18 0 x_63 at2_64 at2_31 x_8 (by decide) ⟨(Int.le_trans (by decide) hx_63.2.1), (Int.le_trans hx_63.2.2 (by decide))⟩ (by first | omega | assumption | decide) (by first | omega | assumption | decide) (by first | omega | assumption | decide) (by first | omega | assumption | decide) (by first | omega | assumption | decide) (zRd_a (by omega) w28 w29 hq32_2 rfl) H _ ls (by omega)  hP hD hS (lv_sub hl [0, 1, 2, 3] rfl)
              · skip
                exact absurd (show at2_31.toInt = (-1) from zeq cb9 rfl (by decide)) (by omega)
    have hLn1 : ((-1) : Int32).toInt = (-1) := by decide
    have hP : va_P g.1 vwCl (List.flatten [bMo g o a th hi ac tp (-1) en at2_1 (-1) 0 iD iO tU fm fk fa fc ft ff fb fi]) H := hP
    have hD : va_D A (List.flatten [bMo g o a th hi ac tp (-1) en at2_1 (-1) 0 iD iO tU fm fk fa fc ft ff fb fi]) := hD
    exact LP23_17 _ 0 0 at2_1 (-1) tU (by decide) (by decide) (by first | omega | assumption | decide) (by first | omega | assumption | decide) hq2_1 (by first | omega | assumption | decide) (by first | omega | assumption | decide) (zRd_i0 (by decide) (by decide) (by decide) hq2_2 (by omega)) H _ ls (Nat.lt_succ_self _)  hP hD hS (lv_sub hl [0, 1, 2, 3] rfl)
  · skip
    have c68 : at2_1.toInt < en.toInt := zlti (Int32.not_le.mp cb9) rfl rfl
    have n69 : at2_1.toInt ≤ 399 := zL1 (b := 400) c68 hen.2 (by decide)
    refine lv_iconst (v := 1) hx hb dX12_read_15 (by decide) ?_
    refine lv_goto (tgt := 20) hx hb dX12_read_16 (by decide) ?_
    refine lv_istore_n (lv' := [(2, .int 1), (0, .ref o), (1, .int 1)]) hx hb dX12_read_20 rfl hl (by decide) rfl (fun ls hl => ?_)
    refine lv_iconst (v := 0) hx hb dX12_read_21 (by decide) ?_
    refine lv_istore_n (lv' := [(3, .int 0), (2, .int 1), (0, .ref o), (1, .int 1)]) hx hb dX12_read_22 rfl hl (by decide) rfl (fun ls hl => ?_)
    have hl := lv_sub (l' := [(0, .ref o), (1, .int 1), (2, .int 1), (3, .int 0)]) hl [2, 3, 1, 0] rfl
    have LP23_83 : ∀ (kf : Nat) (x_70 : Int32) (x_71 : Int32) (x_72 : Int32) (x_73 : Int32) (x_74 : Int32), (0 ≤ x_70.toInt ∧ x_70.toInt ≤ 1) → (0 ≤ x_71.toInt ∧ x_71.toInt ≤ 14) → (0 ≤ x_72.toInt ∧ x_72.toInt ≤ 408) → (x_70.toInt = 0 ∨ ¬ x_73.toInt = -1 ∨ x_71.toInt ≤ 12) → (tA.toInt ≤ x_72.toInt) → (x_72.toInt ≤ en.toInt + 7 - 0) → (-1 ≤ x_73.toInt) → (zRd ft en.toInt tA.toInt x_70.toInt x_73.toInt x_71.toInt x_72.toInt) → ∀ (H : Heap) (locs : List Loc) (ls : Array Slot), ((15 - x_71.toInt).toNat) < kf → va_P g.1 vwCl (List.flatten [bMo g o a th hi ac tp (-1) en x_72 x_73 0 iD iO x_74 fm fk fa fc ft ff fb fi]) H → va_D A (List.flatten [bMo g o a th hi ac tp (-1) en x_72 x_73 0 iD iO x_74 fm fk fa fc ft ff fb fi]) → va_S A s.heap H locs → lv_has ls 4 [(0, .ref o), (1, .int 1), (2, .int x_70), (3, .int x_71)] → W p l e ({ frames := 30, cells := 0, slots := 0, locals := 665 } : Room) s m args below meth c H locs (0) (0) (zF g (fun u : Int32 × Int32 × Int32 × Int32 => (fun (at2 : Int32) (fl2 : Int32) (tU2 : Int32) (q : Int32) => some (.int q)) (u.1) (u.2.1) (u.2.2.1) (u.2.2.2)) (fun u : Int32 × Int32 × Int32 × Int32 => (fun (at2 : Int32) (fl2 : Int32) (tU2 : Int32) (q : Int32) => (0 ≤ at2.toInt ∧ at2.toInt ≤ en.toInt + 7 - 0) ∧ (tA.toInt ≤ at2.toInt) ∧ ((-1) = fl2 ∧ zLawR ft en.toInt tA.toInt q.toInt ∨ 0 ≤ fl2.toInt ∧ zLawB ft en.toInt tA.toInt fl2.toInt)) (u.1) (u.2.1) (u.2.2.1) (u.2.2.2)) (fun u : Int32 × Int32 × Int32 × Int32 => (fun (at2 : Int32) (fl2 : Int32) (tU2 : Int32) (q : Int32) => [bMo g o a th hi ac tp (-1) en at2 fl2 0 iD iO tU2 fm fk fa fc ft ff fb fi]) (u.1) (u.2.1) (u.2.2.1) (u.2.2.2)) ({ frames := 30, cells := 0, slots := 0, locals := 665 } : Room) below args s A) (F0 m 23 ls []) := by
      intro kf
      induction kf with
      | zero => intro x_70 x_71 x_72 x_73 x_74 i75 i76 i77 i78 i79 i80 i81 i82 H locs ls hk; exact absurd hk (Nat.not_lt_zero _)
      | succ kf ih23_84 =>
        intro x_70 x_71 x_72 x_73 x_74 i75 i76 i77 i78 i79 i80 i81 i82 H locs ls hk23_84 hP hD hS hl
        refine lv_iload_n hx hb dX12_read_23 rfl (lv_at hl 2 rfl) ?_
        refine lv_if_eq (tgt := 144) hx hb dX12_read_24 (by decide) (fun cb9 => ?_) (fun cb9 => ?_)
        · skip
          have c85 : x_70.toInt = 0 := zeq cb9 rfl (by decide)
          have n86 : x_70.toInt ≤ 0 := Int.le_trans (Int.le_of_eq c85) (Int.le_refl _)
          refine lv_iload_n hx hb dX12_read_144 rfl (lv_at hl 3 rfl) ?_
          have hP : va_P g.1 vwCl (List.flatten [bMo g o a th hi ac tp (-1) en x_72 x_73 0 iD iO x_74 fm fk fa fc ft ff fb fi]) H := hP
          have hD : va_D A (List.flatten [bMo g o a th hi ac tp (-1) en x_72 x_73 0 iD iO x_74 fm fk fa fc ft ff fb fi]) := hD
          exact mret_i hx hb hr hlocks hS (Nat.le_of_ble_eq_true rfl) (Nat.le_of_ble_eq_true rfl) dX12_read_145 (x_72, x_73, x_74, x_71) rfl (show (0 ≤ x_72.toInt ∧ x_72.toInt ≤ en.toInt + 7 - 0) ∧ (tA.toInt ≤ x_72.toInt) ∧ ((-1) = x_73 ∧ zLawR ft en.toInt tA.toInt x_71.toInt ∨ 0 ≤ x_73.toInt ∧ zLawB ft en.toInt tA.toInt x_73.toInt) from ⟨(by first | assumption | omega | exact Or.inl (by decide) | exact Or.inr (by omega)), (by first | assumption | omega | exact Or.inl (by decide) | exact Or.inr (by omega)), zRd_x i82 (Or.inl (by omega))⟩) hP hD
        · skip
          have c87 : ¬ x_70.toInt = 0 := zne cb9 rfl (by decide)
          have n88 : 1 ≤ x_70.toInt := zN1 c87 i75.1 (by decide)
          refine lv_aload_n hx hb dX12_read_27 rfl (lv_at hl 0 rfl) ?_
          refine va_get (D := g.1) (ci := 10) (v := .int x_73) (C := RX12) (T := TX12) (N := 20) hx hb hts izRX12 hown hK hP 0 rfl rfl 12 (by decide) (hts _ k820) (fun _ h9 => h9) rfl dX12_read_28 ?_
          refine lv_iconst (v := (-1)) hx hb dX12_read_31 (by decide) ?_
          refine lv_icmp_ne (tgt := 144) hx hb dX12_read_32 (by decide) (fun cb9 => ?_) (fun cb9 => ?_)
          · skip
            have c89 : ¬ x_73.toInt = (-1) := zne cb9 rfl (by decide)
            refine lv_iload_n hx hb dX12_read_144 rfl (lv_at hl 3 rfl) ?_
            have hP : va_P g.1 vwCl (List.flatten [bMo g o a th hi ac tp (-1) en x_72 x_73 0 iD iO x_74 fm fk fa fc ft ff fb fi]) H := hP
            have hD : va_D A (List.flatten [bMo g o a th hi ac tp (-1) en x_72 x_73 0 iD iO x_74 fm fk fa fc ft ff fb fi]) := hD
            exact mret_i hx hb hr hlocks hS (Nat.le_of_ble_eq_true rfl) (Nat.le_of_ble_eq_true rfl) dX12_read_145 (x_72, x_73, x_74, x_71) rfl (show (0 ≤ x_72.toInt ∧ x_72.toInt ≤ en.toInt + 7 - 0) ∧ (tA.toInt ≤ x_72.toInt) ∧ ((-1) = x_73 ∧ zLawR ft en.toInt tA.toInt x_71.toInt ∨ 0 ≤ x_73.toInt ∧ zLawB ft en.toInt tA.toInt x_73.toInt) from ⟨(by first | assumption | omega | exact Or.inl (by decide) | exact Or.inr (by omega)), (by first | assumption | omega | exact Or.inl (by decide) | exact Or.inr (by omega)), zRd_x i82 (Or.inr (by omega))⟩) hP hD
          · skip
            have c90 : x_73.toInt = (-1) := zeq cb9 rfl (by decide)
            have n91 : (-1) ≤ x_73.toInt := Int.le_trans (Int.le_refl _) (Int.le_of_eq c90.symm)
            have n92 : x_73.toInt ≤ (-1) := Int.le_trans (Int.le_of_eq c90) (Int.le_refl _)
            obtain ⟨w93, w94, w95⟩ := zRd_A i82 (by omega) (by omega)
            have w96 : x_73 = -1 := (zm1 (by omega)).symm
            subst w96
            refine lv_aload_n hx hb dX12_read_35 rfl (lv_at hl 0 rfl) ?_
            refine mcallV' (g := g) (q0 := 0) (ci := 10) (As := []) (rest := []) St hK hT hA hP hD hS hl.1 [0] [] rfl rfl rfl (m_skipF l g o a th hi ac tp en x_72 (-1) 0 iD iO x_74 fm fk fa fc ft ff fb fi hen (by first | assumption | omega | decide | exact Or.inl (by decide) | exact Or.inr (by decide)) (by decide)) (cwV 0 hts (zgL (zl4 k884 k885 k886 k839) k877) rfl rfl rfl (by decide +kernel) ⟨Nat.le_of_ble_eq_true rfl, Nat.le_of_ble_eq_true rfl⟩) rfl rfl rfl rfl (Nat.le_of_ble_eq_true rfl) dX12_read_36 ⟨(Nat.le_of_ble_eq_true rfl), (Nat.le_of_ble_eq_true rfl)⟩ (fun at2_97 H locs hq98 hP hD hS => ?_)
            replace hq98 : (0 ≤ at2_97.toInt ∧ at2_97.toInt ≤ en.toInt + 7 - (0 : Int32).toInt) ∧ (x_72.toInt ≤ at2_97.toInt) ∧ (zSk ft en.toInt x_72.toInt at2_97.toInt) := hq98
            have hP : va_P g.1 vwCl (List.flatten [bMo g o a th hi ac tp (-1) en at2_97 (-1) 0 iD iO x_74 fm fk fa fc ft ff fb fi]) H := hP
            have hD : va_D A (List.flatten [bMo g o a th hi ac tp (-1) en at2_97 (-1) 0 iD iO x_74 fm fk fa fc ft ff fb fi]) := hD
            refine W.widen (k := 0) (n := 0) (Nat.le_of_ble_eq_true rfl) (Nat.le_of_ble_eq_true rfl) ?_
            refine W.eq (g2 := F0 m 39 ls []) rfl ?_
            obtain ⟨hq98_0, hq98_1, hq98_2⟩ := hq98
            refine lv_iload_n hx hb dX12_read_39 rfl (lv_at hl 3 rfl) ?_
            refine lv_iload_n hx hb dX12_read_40 rfl (lv_at hl 1 rfl) ?_
            refine lv_if_eq (tgt := 49) hx hb dX12_read_41 (by decide) (fun c99 => absurd c99 (by decide)) (fun _ => ?_)
            refine lv_bipush (v := 12) hx hb dX12_read_44 (by decide) ?_
            refine lv_goto (tgt := 51) hx hb dX12_read_46 (by decide) ?_
            refine lv_icmp_ne (tgt := 65) hx hb dX12_read_51 (by decide) (fun cb9 => ?_) (fun cb9 => ?_)
            · skip
              have c100 : ¬ x_71.toInt = 12 := zne cb9 rfl (by decide)
              refine lv_iload_n hx hb dX12_read_65 rfl (lv_at hl 1 rfl) ?_
              refine lv_if_eq (tgt := 76) hx hb dX12_read_66 (by decide) (fun c101 => absurd c101 (by decide)) (fun _ => ?_)
              refine lv_aload_n hx hb dX12_read_69 rfl (lv_at hl 0 rfl) ?_
              refine mcallV' (g := g) (q0 := 0) (ci := 10) (As := []) (rest := []) St hK hT hA hP hD hS hl.1 [0] [] rfl rfl rfl (m_lawLineF l g o a th hi ac tp en at2_97 iD iO x_74 fm fk fa fc ft ff fb fi hiD hiO hen (by first | assumption | omega | decide | exact Or.inl (by decide) | exact Or.inr (by decide)) hde) (cwV 0 hts (zgL (zl4 k965 k966 k967 k839) k964) rfl rfl rfl (by decide +kernel) ⟨Nat.le_of_ble_eq_true rfl, Nat.le_of_ble_eq_true rfl⟩) rfl rfl rfl rfl (Nat.le_of_ble_eq_true rfl) dX12_read_70 ⟨(Nat.le_of_ble_eq_true rfl), (Nat.le_of_ble_eq_true rfl)⟩ (fun u_ H locs hq105 hP hD hS => ?_)
              obtain ⟨at2_102, fl2_103, tU2_104⟩ := u_
              replace hq105 : (0 ≤ at2_102.toInt ∧ at2_102.toInt ≤ en.toInt + 7 - 0) ∧ (at2_97.toInt ≤ at2_102.toInt) ∧ ((-1) = fl2_103 ∧ zLLine ft en.toInt (zbg ft en.toInt at2_97.toInt) (.ok (zbg ft en.toInt at2_102.toInt)) ∨ 0 ≤ fl2_103.toInt ∧ zLLine ft en.toInt (zbg ft en.toInt at2_97.toInt) (.bad fl2_103.toInt)) := hq105
              have hP : va_P g.1 vwCl (List.flatten [bMo g o a th hi ac tp (-1) en at2_102 fl2_103 0 iD iO tU2_104 fm fk fa fc ft ff fb fi]) H := hP
              have hD : va_D A (List.flatten [bMo g o a th hi ac tp (-1) en at2_102 fl2_103 0 iD iO tU2_104 fm fk fa fc ft ff fb fi]) := hD
              refine W.widen (k := 0) (n := 0) (Nat.le_of_ble_eq_true rfl) (Nat.le_of_ble_eq_true rfl) ?_
              refine W.eq (g2 := F0 m 73 ls []) rfl ?_
              obtain ⟨hq105_0, hq105_1, hq105_2⟩ := hq105
              rcases hq105_2 with ⟨rfl, hq105_k⟩ | ⟨hq105_k, hq105_km⟩
              · skip
                refine lv_goto (tgt := 80) hx hb dX12_read_73 (by decide) ?_
                refine ziinc3 (n' := 1) (a' := 1) (b' := 15) (lv' := fun v9 => [(3, .int v9), (0, .ref o), (1, .int 1), (2, .int x_70)]) hx hb dX12_read_80 hl (k := 3) rfl (by decide) (fun _ => rfl) (zaddK (i := x_71.toInt) (j := 1) rfl (by decide) i76.1 i76.2 (Int.le_refl _) (Int.le_refl _) (by decide)) (fun x_106 ls hx_106 hl => ?_)
                refine lv_aload_n hx hb dX12_read_83 rfl (lv_at hl 1 rfl) ?_
                refine mcallV' (g := g) (q0 := 0) (ci := 10) (As := []) (rest := []) St hK hT hA hP hD hS hl.1 [0] [] rfl rfl rfl (m_skipF l g o a th hi ac tp en at2_102 (-1) 0 iD iO tU2_104 fm fk fa fc ft ff fb fi hen (by first | assumption | omega | decide | exact Or.inl (by decide) | exact Or.inr (by decide)) (by decide)) (cwV 0 hts (zgL (zl4 k884 k885 k886 k839) k877) rfl rfl rfl (by decide +kernel) ⟨Nat.le_of_ble_eq_true rfl, Nat.le_of_ble_eq_true rfl⟩) rfl rfl rfl rfl (Nat.le_of_ble_eq_true rfl) dX12_read_84 ⟨(Nat.le_of_ble_eq_true rfl), (Nat.le_of_ble_eq_true rfl)⟩ (fun at2_107 H locs hq108 hP hD hS => ?_)
                replace hq108 : (0 ≤ at2_107.toInt ∧ at2_107.toInt ≤ en.toInt + 7 - (0 : Int32).toInt) ∧ (at2_102.toInt ≤ at2_107.toInt) ∧ (zSk ft en.toInt at2_102.toInt at2_107.toInt) := hq108
                have hP : va_P g.1 vwCl (List.flatten [bMo g o a th hi ac tp (-1) en at2_107 (-1) 0 iD iO tU2_104 fm fk fa fc ft ff fb fi]) H := hP
                have hD : va_D A (List.flatten [bMo g o a th hi ac tp (-1) en at2_107 (-1) 0 iD iO tU2_104 fm fk fa fc ft ff fb fi]) := hD
                refine W.widen (k := 0) (n := 0) (Nat.le_of_ble_eq_true rfl) (Nat.le_of_ble_eq_true rfl) ?_
                refine W.eq (g2 := F0 m 87 ls []) rfl ?_
                obtain ⟨hq108_0, hq108_1, hq108_2⟩ := hq108
                refine lv_aload_n hx hb dX12_read_87 rfl (lv_at hl 1 rfl) ?_
                refine va_get (D := g.1) (ci := 10) (v := .int (-1)) (C := RX12) (T := TX12) (N := 20) hx hb hts izRX12 hown hK hP 0 rfl rfl 12 (by decide) (hts _ k820) (fun _ h9 => h9) rfl dX12_read_88 ?_
                refine lv_iconst (v := (-1)) hx hb dX12_read_91 (by decide) ?_
                refine lv_icmp_ne (tgt := 106) hx hb dX12_read_92 (by decide) (fun c109 => absurd (by decide) c109) (fun _ => ?_)
                refine lv_aload_n hx hb dX12_read_95 rfl (lv_at hl 1 rfl) ?_
                refine va_get (D := g.1) (ci := 10) (v := .int at2_107) (C := RX12) (T := TX12) (N := 20) hx hb hts izRX12 hown hK hP 0 rfl rfl 11 (by decide) (hts _ k878) (fun _ h9 => h9) rfl dX12_read_96 ?_
                refine lv_aload_n hx hb dX12_read_99 rfl (lv_at hl 1 rfl) ?_
                refine va_get (D := g.1) (ci := 10) (v := .int en) (C := RX12) (T := TX12) (N := 20) hx hb hts izRX12 hown hK hP 0 rfl rfl 10 (by decide) (hts _ k879) (fun _ h9 => h9) rfl dX12_read_100 ?_
                refine lv_icmp_ne (tgt := 111) hx hb dX12_read_103 (by decide) (fun cb9 => ?_) (fun cb9 => ?_)
                · skip
                  have c110 : ¬ at2_107.toInt = en.toInt := zne cb9 rfl rfl
                  refine lv_aload_n hx hb dX12_read_111 rfl (lv_at hl 1 rfl) ?_
                  refine lv_bipush (v := 59) hx hb dX12_read_112 (by decide) ?_
                  have hL59 : (59 : Int32).toInt = 59 := by decide
                  refine mcallV' (g := g) (q0 := 0) (ci := 10) (As := [.int 59]) (rest := []) St hK hT hA hP hD hS hl.1 [0] [] rfl rfl rfl (m_isSignF l g o a th hi ac tp en at2_107 (-1) 0 iD iO tU2_104 fm fk fa fc ft ff fb fi 59 hen hq108_0 (by decide) (by first | assumption | omega | decide | exact Or.inl (by decide) | exact Or.inr (by decide))) (cwV 1 hts (zgL (zl4 k938 k939 k940 k839) k883) rfl rfl rfl (by decide +kernel) ⟨Nat.le_of_ble_eq_true rfl, Nat.le_of_ble_eq_true rfl⟩) rfl rfl rfl rfl (Nat.le_of_ble_eq_true rfl) dX12_read_114 ⟨(Nat.le_of_ble_eq_true rfl), (Nat.le_of_ble_eq_true rfl)⟩ (fun u_ H locs hq113 hP hD hS => ?_)
                  obtain ⟨at2_111, q_112⟩ := u_
                  replace hq113 : (0 ≤ at2_111.toInt ∧ at2_111.toInt ≤ en.toInt + 7 - (0 : Int32).toInt) ∧ (at2_107.toInt ≤ at2_111.toInt) ∧ (zSk ft en.toInt at2_107.toInt at2_111.toInt) ∧ (q_112 = 1 ∧ zisS ft en.toInt at2_111.toInt (59 : Int32).toInt ∧ at2_111.toInt < en.toInt ∨ q_112 = 0 ∧ ¬ zisS ft en.toInt at2_111.toInt (59 : Int32).toInt) := hq113
                  have hP : va_P g.1 vwCl (List.flatten [bMo g o a th hi ac tp (-1) en at2_111 (-1) 0 iD iO tU2_104 fm fk fa fc ft ff fb fi]) H := hP
                  have hD : va_D A (List.flatten [bMo g o a th hi ac tp (-1) en at2_111 (-1) 0 iD iO tU2_104 fm fk fa fc ft ff fb fi]) := hD
                  refine W.widen (k := 0) (n := 0) (Nat.le_of_ble_eq_true rfl) (Nat.le_of_ble_eq_true rfl) ?_
                  refine W.eq (g2 := F0 m 117 ls [.int q_112]) rfl ?_
                  obtain ⟨hq113_0, hq113_1, hq113_2, hq113_3⟩ := hq113
                  rcases hq113_3 with ⟨rfl, hq113_k⟩ | ⟨rfl, hq113_k⟩
                  · skip
                    refine lv_if_eq (tgt := 133) hx hb dX12_read_117 (by decide) (fun c114 => absurd c114 (by decide)) (fun _ => ?_)
                    refine lv_aload_n hx hb dX12_read_120 rfl (lv_at hl 1 rfl) ?_
                    refine lv_dup hx hb dX12_read_121 rfl ?_
                    refine va_get (D := g.1) (ci := 10) (v := .int at2_111) (C := RX12) (T := TX12) (N := 20) hx hb hts izRX12 hown hK hP 0 rfl rfl 11 (by decide) (hts _ k878) (fun _ h9 => h9) rfl dX12_read_122 ?_
                    refine lv_iconst (v := 1) hx hb dX12_read_125 (by decide) ?_
                    refine lv_iadd hx hb dX12_read_126 ?_
                    refine zgv (zadd (i := at2_111.toInt) (j := 1) rfl (by decide) (by omega)) (fun x_115 hx_115 => ?_)
                    refine va_put (D := g.1) (ci := 10) (v := .int x_115) (ty := .int) (C := RX12) (T := TX12) (N := 20) hx hb hts izRX12 tyX12 tyX12_ok nmX12 hown hK hP hD hS 0 rfl rfl 11 (by decide) (hts _ k878) (fun _ h9 => h9) rfl (by decide +kernel) rfl rfl (Nat.le_of_ble_eq_true rfl) dX12_read_127 (fun H locs hP hD hS => ?_)
                    have hP : va_P g.1 vwCl (List.flatten [bMo g o a th hi ac tp (-1) en x_115 (-1) 0 iD iO tU2_104 fm fk fa fc ft ff fb fi]) H := hP
                    have hD : va_D A (List.flatten [bMo g o a th hi ac tp (-1) en x_115 (-1) 0 iD iO tU2_104 fm fk fa fc ft ff fb fi]) := hD
                    refine lv_goto (tgt := 23) hx hb dX12_read_130 (by decide) ?_
                    have hl := lv_sub (l' := [(0, .ref o), (1, .int 1), (2, .int x_70), (3, .int x_106)]) hl [1, 2, 3, 0] rfl
                    have hP : va_P g.1 vwCl (List.flatten [bMo g o a th hi ac tp (-1) en x_115 (-1) 0 iD iO tU2_104 fm fk fa fc ft ff fb fi]) H := hP
                    have hD : va_D A (List.flatten [bMo g o a th hi ac tp (-1) en x_115 (-1) 0 iD iO tU2_104 fm fk fa fc ft ff fb fi]) := hD
                    exact ih23_84 x_70 x_106 x_115 (-1) tU2_104 ⟨(Int.le_trans (by decide) n88), i75.2⟩ (by first | omega | assumption | decide) (by first | omega | assumption | decide) (by first | omega | assumption | decide) (by first | omega | assumption | decide) (by first | omega | assumption | decide) (by first | omega | assumption | decide) (zRd_d (by omega) w93 w94 w95 hq98_2 hq105_k hq108_2 (by omega) hq113_2 hq113_k.1 (by decide) (by omega) (by decide) hx_106.1 (by omega)) H _ ls (by omega)  hP hD hS (lv_sub hl [0, 1, 2, 3] rfl)
                  · skip
                    refine lv_if_eq (tgt := 133) hx hb dX12_read_117 (by decide) (fun _ => ?_) (fun c116 => absurd (by decide) c116)
                    refine lv_aload_n hx hb dX12_read_133 rfl (lv_at hl 1 rfl) ?_
                    refine lv_aload_n hx hb dX12_read_134 rfl (lv_at hl 1 rfl) ?_
                    refine va_get (D := g.1) (ci := 10) (v := .int at2_111) (C := RX12) (T := TX12) (N := 20) hx hb hts izRX12 hown hK hP 0 rfl rfl 11 (by decide) (hts _ k878) (fun _ h9 => h9) rfl dX12_read_135 ?_
                    refine mcallV' (g := g) (q0 := 0) (ci := 10) (As := [.int at2_111]) (rest := []) St hK hT hA hP hD hS hl.1 [0] [] rfl rfl rfl (m_wrongF l g o a th hi ac tp (-1) en at2_111 0 iD iO tU2_104 fm fk fa fc ft ff fb fi at2_111 ) (cwV 1 hts (zgL (zl4 k895 k896 k897 k839) k890) rfl rfl rfl (by decide +kernel) ⟨Nat.le_of_ble_eq_true rfl, Nat.le_of_ble_eq_true rfl⟩) rfl rfl rfl rfl (Nat.le_of_ble_eq_true rfl) dX12_read_138 ⟨(Nat.le_of_ble_eq_true rfl), (Nat.le_of_ble_eq_true rfl)⟩ (fun _u H locs hq117 hP hD hS => ?_)
                    have hP : va_P g.1 vwCl (List.flatten [bMo g o a th hi ac tp (-1) en at2_111 at2_111 0 iD iO tU2_104 fm fk fa fc ft ff fb fi]) H := hP
                    have hD : va_D A (List.flatten [bMo g o a th hi ac tp (-1) en at2_111 at2_111 0 iD iO tU2_104 fm fk fa fc ft ff fb fi]) := hD
                    refine W.widen (k := 0) (n := 0) (Nat.le_of_ble_eq_true rfl) (Nat.le_of_ble_eq_true rfl) ?_
                    refine W.eq (g2 := F0 m 141 ls []) rfl ?_
                    refine lv_goto (tgt := 23) hx hb dX12_read_141 (by decide) ?_
                    have hl := lv_sub (l' := [(0, .ref o), (1, .int 1), (2, .int x_70), (3, .int x_106)]) hl [1, 2, 3, 0] rfl
                    have hP : va_P g.1 vwCl (List.flatten [bMo g o a th hi ac tp (-1) en at2_111 at2_111 0 iD iO tU2_104 fm fk fa fc ft ff fb fi]) H := hP
                    have hD : va_D A (List.flatten [bMo g o a th hi ac tp (-1) en at2_111 at2_111 0 iD iO tU2_104 fm fk fa fc ft ff fb fi]) := hD
                    exact ih23_84 x_70 x_106 at2_111 at2_111 tU2_104 ⟨(Int.le_trans (by decide) n88), i75.2⟩ (by first | omega | assumption | decide) (by first | omega | assumption | decide) (by first | omega | assumption | decide) (by first | omega | assumption | decide) (by first | omega | assumption | decide) (by first | omega | assumption | decide) (zRd_e (by omega) w93 w94 w95 hq98_2 hq105_k hq108_2 (by omega) hq113_2 hq113_k (by decide) rfl) H _ ls (by omega)  hP hD hS (lv_sub hl [0, 1, 2, 3] rfl)
                · skip
                  have c118 : at2_107.toInt = en.toInt := zeq cb9 rfl rfl
                  have n119 : at2_107.toInt ≤ 400 := Int.le_trans (Int.le_of_eq c118) hen.2
                  refine lv_iconst (v := 0) hx hb dX12_read_106 (by decide) ?_
                  refine lv_istore_n (lv' := [(2, .int 0), (3, .int x_106), (0, .ref o), (1, .int 1)]) hx hb dX12_read_107 rfl hl (by decide) rfl (fun ls hl => ?_)
                  refine lv_goto (tgt := 23) hx hb dX12_read_108 (by decide) ?_
                  have hl := lv_sub (l' := [(0, .ref o), (1, .int 1), (2, .int 0), (3, .int x_106)]) hl [2, 3, 0, 1] rfl
                  have hLn1 : ((-1) : Int32).toInt = (-1) := by decide
                  have hP : va_P g.1 vwCl (List.flatten [bMo g o a th hi ac tp (-1) en at2_107 (-1) 0 iD iO tU2_104 fm fk fa fc ft ff fb fi]) H := hP
                  have hD : va_D A (List.flatten [bMo g o a th hi ac tp (-1) en at2_107 (-1) 0 iD iO tU2_104 fm fk fa fc ft ff fb fi]) := hD
                  exact ih23_84 0 x_106 at2_107 (-1) tU2_104 (by decide) (by first | omega | assumption | decide) (by first | omega | assumption | decide) (by first | omega | assumption | decide) (by first | omega | assumption | decide) (by first | omega | assumption | decide) (by first | omega | assumption | decide) (zRd_c (by omega) w93 w94 w95 hq98_2 hq105_k hq108_2 (by omega) (by decide) (by decide) hx_106.1) H _ ls (by omega)  hP hD hS (lv_sub hl [0, 1, 2, 3] rfl)
              · skip
                refine lv_goto (tgt := 80) hx hb dX12_read_73 (by decide) ?_
                refine ziinc3 (n' := 1) (a' := 1) (b' := 15) (lv' := fun v9 => [(3, .int v9), (0, .ref o), (1, .int 1), (2, .int x_70)]) hx hb dX12_read_80 hl (k := 3) rfl (by decide) (fun _ => rfl) (zaddK (i := x_71.toInt) (j := 1) rfl (by decide) i76.1 i76.2 (Int.le_refl _) (Int.le_refl _) (by decide)) (fun x_120 ls hx_120 hl => ?_)
                refine lv_aload_n hx hb dX12_read_83 rfl (lv_at hl 1 rfl) ?_
                refine mcallV' (g := g) (q0 := 0) (ci := 10) (As := []) (rest := []) St hK hT hA hP hD hS hl.1 [0] [] rfl rfl rfl (m_skipF l g o a th hi ac tp en at2_102 fl2_103 0 iD iO tU2_104 fm fk fa fc ft ff fb fi hen (by first | assumption | omega | decide | exact Or.inl (by decide) | exact Or.inr (by decide)) (by decide)) (cwV 0 hts (zgL (zl4 k884 k885 k886 k839) k877) rfl rfl rfl (by decide +kernel) ⟨Nat.le_of_ble_eq_true rfl, Nat.le_of_ble_eq_true rfl⟩) rfl rfl rfl rfl (Nat.le_of_ble_eq_true rfl) dX12_read_84 ⟨(Nat.le_of_ble_eq_true rfl), (Nat.le_of_ble_eq_true rfl)⟩ (fun at2_121 H locs hq122 hP hD hS => ?_)
                replace hq122 : (0 ≤ at2_121.toInt ∧ at2_121.toInt ≤ en.toInt + 7 - (0 : Int32).toInt) ∧ (at2_102.toInt ≤ at2_121.toInt) ∧ (zSk ft en.toInt at2_102.toInt at2_121.toInt) := hq122
                have hP : va_P g.1 vwCl (List.flatten [bMo g o a th hi ac tp (-1) en at2_121 fl2_103 0 iD iO tU2_104 fm fk fa fc ft ff fb fi]) H := hP
                have hD : va_D A (List.flatten [bMo g o a th hi ac tp (-1) en at2_121 fl2_103 0 iD iO tU2_104 fm fk fa fc ft ff fb fi]) := hD
                refine W.widen (k := 0) (n := 0) (Nat.le_of_ble_eq_true rfl) (Nat.le_of_ble_eq_true rfl) ?_
                refine W.eq (g2 := F0 m 87 ls []) rfl ?_
                obtain ⟨hq122_0, hq122_1, hq122_2⟩ := hq122
                refine lv_aload_n hx hb dX12_read_87 rfl (lv_at hl 1 rfl) ?_
                refine va_get (D := g.1) (ci := 10) (v := .int fl2_103) (C := RX12) (T := TX12) (N := 20) hx hb hts izRX12 hown hK hP 0 rfl rfl 12 (by decide) (hts _ k820) (fun _ h9 => h9) rfl dX12_read_88 ?_
                refine lv_iconst (v := (-1)) hx hb dX12_read_91 (by decide) ?_
                refine lv_icmp_ne (tgt := 106) hx hb dX12_read_92 (by decide) (fun cb9 => ?_) (fun cb9 => ?_)
                · skip
                  have c123 : ¬ fl2_103.toInt = (-1) := zne cb9 rfl (by decide)
                  refine lv_iconst (v := 0) hx hb dX12_read_106 (by decide) ?_
                  refine lv_istore_n (lv' := [(2, .int 0), (3, .int x_120), (0, .ref o), (1, .int 1)]) hx hb dX12_read_107 rfl hl (by decide) rfl (fun ls hl => ?_)
                  refine lv_goto (tgt := 23) hx hb dX12_read_108 (by decide) ?_
                  have hl := lv_sub (l' := [(0, .ref o), (1, .int 1), (2, .int 0), (3, .int x_120)]) hl [2, 3, 0, 1] rfl
                  have hP : va_P g.1 vwCl (List.flatten [bMo g o a th hi ac tp (-1) en at2_121 fl2_103 0 iD iO tU2_104 fm fk fa fc ft ff fb fi]) H := hP
                  have hD : va_D A (List.flatten [bMo g o a th hi ac tp (-1) en at2_121 fl2_103 0 iD iO tU2_104 fm fk fa fc ft ff fb fi]) := hD
                  exact ih23_84 0 x_120 at2_121 fl2_103 tU2_104 (by decide) (by first | omega | assumption | decide) (by first | omega | assumption | decide) (by first | omega | assumption | decide) (by first | omega | assumption | decide) (by first | omega | assumption | decide) (by first | omega | assumption | decide) (zRd_b (by omega) w93 w94 w95 hq98_2 hq105_km hq105_k) H _ ls (by omega)  hP hD hS (lv_sub hl [0, 1, 2, 3] rfl)
                · skip
                  exact absurd (show fl2_103.toInt = (-1) from zeq cb9 rfl (by decide)) (zDeq2 (a := 0) (b := (-1)) hq105_k (Int.le_refl _) (by decide))
            · skip
              have c125 : x_71.toInt = 12 := zeq cb9 rfl (by decide)
              have n126 : 12 ≤ x_71.toInt := Int.le_trans (Int.le_refl _) (Int.le_of_eq c125.symm)
              have n127 : x_71.toInt ≤ 12 := Int.le_trans (Int.le_of_eq c125) (Int.le_refl _)
              refine lv_aload_n hx hb dX12_read_54 rfl (lv_at hl 0 rfl) ?_
              refine lv_aload_n hx hb dX12_read_55 rfl (lv_at hl 0 rfl) ?_
              refine va_get (D := g.1) (ci := 10) (v := .int at2_97) (C := RX12) (T := TX12) (N := 20) hx hb hts izRX12 hown hK hP 0 rfl rfl 11 (by decide) (hts _ k878) (fun _ h9 => h9) rfl dX12_read_56 ?_
              refine mcallV' (g := g) (q0 := 0) (ci := 10) (As := [.int at2_97]) (rest := []) St hK hT hA hP hD hS hl.1 [0] [] rfl rfl rfl (m_wrongF l g o a th hi ac tp (-1) en at2_97 0 iD iO x_74 fm fk fa fc ft ff fb fi at2_97 ) (cwV 1 hts (zgL (zl4 k895 k896 k897 k839) k890) rfl rfl rfl (by decide +kernel) ⟨Nat.le_of_ble_eq_true rfl, Nat.le_of_ble_eq_true rfl⟩) rfl rfl rfl rfl (Nat.le_of_ble_eq_true rfl) dX12_read_59 ⟨(Nat.le_of_ble_eq_true rfl), (Nat.le_of_ble_eq_true rfl)⟩ (fun _u H locs hq128 hP hD hS => ?_)
              have hP : va_P g.1 vwCl (List.flatten [bMo g o a th hi ac tp (-1) en at2_97 at2_97 0 iD iO x_74 fm fk fa fc ft ff fb fi]) H := hP
              have hD : va_D A (List.flatten [bMo g o a th hi ac tp (-1) en at2_97 at2_97 0 iD iO x_74 fm fk fa fc ft ff fb fi]) := hD
              refine W.widen (k := 0) (n := 0) (Nat.le_of_ble_eq_true rfl) (Nat.le_of_ble_eq_true rfl) ?_
              refine W.eq (g2 := F0 m 62 ls []) rfl ?_
              refine lv_goto (tgt := 80) hx hb dX12_read_62 (by decide) ?_
              refine ziinc3 (n' := 1) (a' := 13) (b' := 13) (lv' := fun v9 => [(3, .int v9), (0, .ref o), (1, .int 1), (2, .int x_70)]) hx hb dX12_read_80 hl (k := 3) rfl (by decide) (fun _ => rfl) (zaddK (i := x_71.toInt) (j := 1) rfl (by decide) n126 n127 (Int.le_refl _) (Int.le_refl _) (by decide)) (fun x_129 ls hx_129 hl => ?_)
              refine lv_aload_n hx hb dX12_read_83 rfl (lv_at hl 1 rfl) ?_
              refine mcallV' (g := g) (q0 := 0) (ci := 10) (As := []) (rest := []) St hK hT hA hP hD hS hl.1 [0] [] rfl rfl rfl (m_skipF l g o a th hi ac tp en at2_97 at2_97 0 iD iO x_74 fm fk fa fc ft ff fb fi hen hq98_0 (by decide)) (cwV 0 hts (zgL (zl4 k884 k885 k886 k839) k877) rfl rfl rfl (by decide +kernel) ⟨Nat.le_of_ble_eq_true rfl, Nat.le_of_ble_eq_true rfl⟩) rfl rfl rfl rfl (Nat.le_of_ble_eq_true rfl) dX12_read_84 ⟨(Nat.le_of_ble_eq_true rfl), (Nat.le_of_ble_eq_true rfl)⟩ (fun at2_130 H locs hq131 hP hD hS => ?_)
              replace hq131 : (0 ≤ at2_130.toInt ∧ at2_130.toInt ≤ en.toInt + 7 - (0 : Int32).toInt) ∧ (at2_97.toInt ≤ at2_130.toInt) ∧ (zSk ft en.toInt at2_97.toInt at2_130.toInt) := hq131
              have hP : va_P g.1 vwCl (List.flatten [bMo g o a th hi ac tp (-1) en at2_130 at2_97 0 iD iO x_74 fm fk fa fc ft ff fb fi]) H := hP
              have hD : va_D A (List.flatten [bMo g o a th hi ac tp (-1) en at2_130 at2_97 0 iD iO x_74 fm fk fa fc ft ff fb fi]) := hD
              refine W.widen (k := 0) (n := 0) (Nat.le_of_ble_eq_true rfl) (Nat.le_of_ble_eq_true rfl) ?_
              refine W.eq (g2 := F0 m 87 ls []) rfl ?_
              obtain ⟨hq131_0, hq131_1, hq131_2⟩ := hq131
              refine lv_aload_n hx hb dX12_read_87 rfl (lv_at hl 1 rfl) ?_
              refine va_get (D := g.1) (ci := 10) (v := .int at2_97) (C := RX12) (T := TX12) (N := 20) hx hb hts izRX12 hown hK hP 0 rfl rfl 12 (by decide) (hts _ k820) (fun _ h9 => h9) rfl dX12_read_88 ?_
              refine lv_iconst (v := (-1)) hx hb dX12_read_91 (by decide) ?_
              refine lv_icmp_ne (tgt := 106) hx hb dX12_read_92 (by decide) (fun cb9 => ?_) (fun cb9 => ?_)
              · skip
                have c132 : ¬ at2_97.toInt = (-1) := zne cb9 rfl (by decide)
                refine lv_iconst (v := 0) hx hb dX12_read_106 (by decide) ?_
                refine lv_istore_n (lv' := [(2, .int 0), (3, .int x_129), (0, .ref o), (1, .int 1)]) hx hb dX12_read_107 rfl hl (by decide) rfl (fun ls hl => ?_)
                refine lv_goto (tgt := 23) hx hb dX12_read_108 (by decide) ?_
                have hl := lv_sub (l' := [(0, .ref o), (1, .int 1), (2, .int 0), (3, .int x_129)]) hl [2, 3, 0, 1] rfl
                have hP : va_P g.1 vwCl (List.flatten [bMo g o a th hi ac tp (-1) en at2_130 at2_97 0 iD iO x_74 fm fk fa fc ft ff fb fi]) H := hP
                have hD : va_D A (List.flatten [bMo g o a th hi ac tp (-1) en at2_130 at2_97 0 iD iO x_74 fm fk fa fc ft ff fb fi]) := hD
                exact ih23_84 0 x_129 at2_130 at2_97 x_74 (by decide) ⟨(Int.le_trans (by decide) hx_129.2.1), (Int.le_trans hx_129.2.2 (by decide))⟩ (by first | omega | assumption | decide) (by first | omega | assumption | decide) (by first | omega | assumption | decide) (by first | omega | assumption | decide) (by first | omega | assumption | decide) (zRd_a (by omega) w94 w95 hq98_2 rfl) H _ ls (by omega)  hP hD hS (lv_sub hl [0, 1, 2, 3] rfl)
              · skip
                exact absurd (show at2_97.toInt = (-1) from zeq cb9 rfl (by decide)) (by omega)
    have hL1 : (1 : Int32).toInt = 1 := by decide
    have hLn1 : ((-1) : Int32).toInt = (-1) := by decide
    have hP : va_P g.1 vwCl (List.flatten [bMo g o a th hi ac tp (-1) en at2_1 (-1) 0 iD iO tU fm fk fa fc ft ff fb fi]) H := hP
    have hD : va_D A (List.flatten [bMo g o a th hi ac tp (-1) en at2_1 (-1) 0 iD iO tU fm fk fa fc ft ff fb fi]) := hD
    exact LP23_83 _ 1 0 at2_1 (-1) tU (by decide) (by decide) (by first | omega | assumption | decide) (by first | omega | assumption | decide) hq2_1 (by first | omega | assumption | decide) (by first | omega | assumption | decide) (zRd_i1 (by decide) (by decide) (by decide) hq2_2 (by omega)) H _ ls (Nat.lt_succ_self _)  hP hD hS (lv_sub hl [0, 1, 2, 3] rfl)
