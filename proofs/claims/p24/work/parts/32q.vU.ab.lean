set_option maxRecDepth 100000 in
set_option maxHeartbeats 4000000 in
theorem m_readTG (l : Launch) (g : zG) (o : Nat) (a : Nat → Nat) (th : Int32) (hi : Int32) (ac : Int32) (tp : Int32) (en : Int32) (tA : Int32) (iD : Int32) (iO : Int32) (tU : Int32) (fm : Nat → Int32) (fk : Nat → Int32) (fa : Nat → Int32) (fc : Nat → Int32) (ft : Nat → Int32) (ff : Nat → Int32) (fb : Nat → Int32) (fi : Nat → Int32) (rfm : rM fm) (hen : 0 ≤ en.toInt ∧ en.toInt ≤ 400) (htA : 0 ≤ tA.toInt ∧ tA.toInt ≤ en.toInt + 7 - 0) (hde : 0 ≤ 0 ∧ 0 ≤ 6) : zM' g l yX12_read (Cond.code yX12_read cX12_read 4 (some .int) :: zB) ({ frames := 8, cells := 0, slots := 0, locals := 178 } : Room) [.ref o, .int 0] [bMo g o a th hi ac tp (-1) en tA (-1) 0 iD iO tU fm fk fa fc ft ff fb fi] (fun u : Int32 × Int32 × (Nat → Int32) × Int32 => (fun (at2 : Int32) (fl2 : Int32) (fm2 : Nat → Int32) (q : Int32) => some (.int q)) (u.1) (u.2.1) (u.2.2.1) (u.2.2.2)) (fun u : Int32 × Int32 × (Nat → Int32) × Int32 => (fun (at2 : Int32) (fl2 : Int32) (fm2 : Nat → Int32) (q : Int32) => (rM fm2) ∧ (0 ≤ at2.toInt ∧ at2.toInt ≤ en.toInt + 7 - 0) ∧ (tA.toInt ≤ at2.toInt) ∧ ((fm2 0).toInt = (fm 0).toInt) ∧ (zTgm fm fm2) ∧ ((-1) = fl2 ∧ zTwR ft en.toInt tA.toInt (fm 3).toInt (fm 4).toInt (fm2 3).toInt (fm2 4).toInt ∧ zTwV ft en.toInt tA.toInt (zSm fm) (zSm fm2) ∨ 0 ≤ fl2.toInt ∧ zTwB ft en.toInt tA.toInt (fm 3).toInt (fm 4).toInt fl2.toInt)) (u.1) (u.2.1) (u.2.2.1) (u.2.2.2)) (fun u : Int32 × Int32 × (Nat → Int32) × Int32 => (fun (at2 : Int32) (fl2 : Int32) (fm2 : Nat → Int32) (q : Int32) => [bMo g o a th hi ac tp (-1) en at2 fl2 0 iD iO tU fm2 fk fa fc ft ff fb fi]) (u.1) (u.2.1) (u.2.2.1) (u.2.2.2)) := by
  refine zM'.of (cc := cX12_read) (maxL := 4) (rt := (some .int)) (by decide) rfl (Nat.le_of_ble_eq_true rfl) ?_
  intro p e s m args below meth c A ls St hr hlocks hin hK hT hA hP hD hS hl
  obtain ⟨hx, hb, hml, hown, hts⟩ := id St
  have hl : lv_has ls 4 [(0, .ref o), (1, .int 0)] := hl
  refine lv_aload_n hx hb dX12_read_0 rfl (lv_at hl 0 rfl) ?_
  have hL0 : (0 : Int32).toInt = 0 := by decide
  refine mcallV' (g := g) (q0 := 0) (ci := 10) (As := []) (rest := []) St hK hT hA hP hD hS hl.1 [0] [] rfl rfl rfl (m_skipF l g o a th hi ac tp en tA (-1) 0 iD iO tU fm fk fa fc ft ff fb fi hen (by first | assumption | omega | decide | exact Or.inl (by decide) | exact Or.inr (by decide)) (by decide)) (cwV 0 hts (zgL (zl4 k884 k885 k886 k839) k877) rfl rfl rfl (by decide +kernel) ⟨Nat.le_of_ble_eq_true rfl, Nat.le_of_ble_eq_true rfl⟩) rfl rfl rfl rfl (Nat.le_of_ble_eq_true rfl) dX12_read_1 ⟨(Nat.le_of_ble_eq_true rfl), (Nat.le_of_ble_eq_true rfl)⟩ (fun at2_1 H locs hq2 hP hD hS => ?_)
  replace hq2 : (0 ≤ at2_1.toInt ∧ at2_1.toInt ≤ en.toInt + 7 - (0 : Int32).toInt) ∧ (tA.toInt ≤ at2_1.toInt) ∧ (zSk ft en.toInt tA.toInt at2_1.toInt) := hq2
  have hP : va_P g.1 vwCl (List.flatten [bMo g o a th hi ac tp (-1) en at2_1 (-1) 0 iD iO tU fm fk fa fc ft ff fb fi]) H := hP
  have hD : va_D A (List.flatten [bMo g o a th hi ac tp (-1) en at2_1 (-1) 0 iD iO tU fm fk fa fc ft ff fb fi]) := hD
  refine W.widen (k := 0) (n := 0) (Nat.le_of_ble_eq_true rfl) (Nat.le_of_ble_eq_true rfl) ?_
  refine W.eq (g2 := F0 m 4 ls []) rfl ?_
  obtain ⟨hq2_0, hq2_1, hq2_2⟩ := hq2
  refine lv_aload_n hx hb dX12_read_4 rfl (lv_at hl 0 rfl) ?_
  refine va_get (D := g.1) (ci := 10) (v := .int at2_1) (C := RX12) (T := TX12) (N := 20) hx hb hts izRX12 hown hK hP 0 rfl rfl 11 (by decide) (hts _ k878) (fun _ h9 => h9) rfl dX12_read_5 ?_
  refine lv_aload_n hx hb dX12_read_8 rfl (lv_at hl 0 rfl) ?_
  refine va_get (D := g.1) (ci := 10) (v := .int en) (C := RX12) (T := TX12) (N := 20) hx hb hts izRX12 hown hK hP 0 rfl rfl 10 (by decide) (hts _ k879) (fun _ h9 => h9) rfl dX12_read_9 ?_
  refine lv_icmp_ge (tgt := 19) hx hb dX12_read_12 (by decide) (fun cb9 => ?_) (fun cb9 => ?_)
  · skip
    have c3 : en.toInt ≤ at2_1.toInt := zle cb9 rfl rfl
    refine lv_iconst (v := 0) hx hb dX12_read_19 (by decide) ?_
    refine lv_istore_n (lv' := [(2, .int 0), (0, .ref o), (1, .int 0)]) hx hb dX12_read_20 rfl hl (by decide) rfl (fun ls hl => ?_)
    refine lv_iconst (v := 0) hx hb dX12_read_21 (by decide) ?_
    refine lv_istore_n (lv' := [(3, .int 0), (2, .int 0), (0, .ref o), (1, .int 0)]) hx hb dX12_read_22 rfl hl (by decide) rfl (fun ls hl => ?_)
    have hl := lv_sub (l' := [(0, .ref o), (1, .int 0), (2, .int 0), (3, .int 0)]) hl [2, 3, 1, 0] rfl
    have LP23_20 : ∀ (kf : Nat) (x_4 : Int32) (x_5 : Int32) (x_6 : Int32) (x_7 : Int32) (fm_8 : Nat → Int32), (0 ≤ x_4.toInt ∧ x_4.toInt ≤ 1) → (0 ≤ x_5.toInt ∧ x_5.toInt ≤ 16) → (0 ≤ x_6.toInt ∧ x_6.toInt ≤ 408) → (rM fm_8) → (x_4.toInt = 0 ∨ ¬ x_7.toInt = -1 ∨ x_5.toInt ≤ 14) → (tA.toInt ≤ x_6.toInt) → (x_6.toInt ≤ en.toInt + 7 - 0) → (-1 ≤ x_7.toInt) → ((fm_8 0).toInt = (fm 0).toInt) → (zTd ft en.toInt tA.toInt (fm 3).toInt (fm 4).toInt x_4.toInt x_7.toInt x_5.toInt x_6.toInt (fm_8 3).toInt (fm_8 4).toInt) → (zTgm fm fm_8) → (zTdV ft en.toInt tA.toInt (zSm fm) x_4.toInt x_7.toInt x_5.toInt x_6.toInt (zSm fm_8)) → ∀ (H : Heap) (locs : List Loc) (ls : Array Slot), ((17 - x_5.toInt).toNat) < kf → va_P g.1 vwCl (List.flatten [bMo g o a th hi ac tp (-1) en x_6 x_7 0 iD iO tU fm_8 fk fa fc ft ff fb fi]) H → va_D A (List.flatten [bMo g o a th hi ac tp (-1) en x_6 x_7 0 iD iO tU fm_8 fk fa fc ft ff fb fi]) → va_S A s.heap H locs → lv_has ls 4 [(0, .ref o), (1, .int 0), (2, .int x_4), (3, .int x_5)] → W p l e ({ frames := 8, cells := 0, slots := 0, locals := 178 } : Room) s m args below meth c H locs (0) (0) (zF g (fun u : Int32 × Int32 × (Nat → Int32) × Int32 => (fun (at2 : Int32) (fl2 : Int32) (fm2 : Nat → Int32) (q : Int32) => some (.int q)) (u.1) (u.2.1) (u.2.2.1) (u.2.2.2)) (fun u : Int32 × Int32 × (Nat → Int32) × Int32 => (fun (at2 : Int32) (fl2 : Int32) (fm2 : Nat → Int32) (q : Int32) => (rM fm2) ∧ (0 ≤ at2.toInt ∧ at2.toInt ≤ en.toInt + 7 - 0) ∧ (tA.toInt ≤ at2.toInt) ∧ ((fm2 0).toInt = (fm 0).toInt) ∧ (zTgm fm fm2) ∧ ((-1) = fl2 ∧ zTwR ft en.toInt tA.toInt (fm 3).toInt (fm 4).toInt (fm2 3).toInt (fm2 4).toInt ∧ zTwV ft en.toInt tA.toInt (zSm fm) (zSm fm2) ∨ 0 ≤ fl2.toInt ∧ zTwB ft en.toInt tA.toInt (fm 3).toInt (fm 4).toInt fl2.toInt)) (u.1) (u.2.1) (u.2.2.1) (u.2.2.2)) (fun u : Int32 × Int32 × (Nat → Int32) × Int32 => (fun (at2 : Int32) (fl2 : Int32) (fm2 : Nat → Int32) (q : Int32) => [bMo g o a th hi ac tp (-1) en at2 fl2 0 iD iO tU fm2 fk fa fc ft ff fb fi]) (u.1) (u.2.1) (u.2.2.1) (u.2.2.2)) ({ frames := 8, cells := 0, slots := 0, locals := 178 } : Room) below args s A) (F0 m 23 ls []) := by
      intro kf
      induction kf with
      | zero => intro x_4 x_5 x_6 x_7 fm_8 i9 i10 i11 rfm_8 i12 i13 i14 i15 i16 i17 i18 i19 H locs ls hk; exact absurd hk (Nat.not_lt_zero _)
      | succ kf ih23_21 =>
        intro x_4 x_5 x_6 x_7 fm_8 i9 i10 i11 rfm_8 i12 i13 i14 i15 i16 i17 i18 i19 H locs ls hk23_21 hP hD hS hl
        refine lv_iload_n hx hb dX12_read_23 rfl (lv_at hl 2 rfl) ?_
        refine lv_if_eq (tgt := 144) hx hb dX12_read_24 (by decide) (fun cb9 => ?_) (fun cb9 => ?_)
        · skip
          have c22 : x_4.toInt = 0 := zeq cb9 rfl (by decide)
          have n23 : x_4.toInt ≤ 0 := Int.le_trans (Int.le_of_eq c22) (Int.le_refl _)
          refine lv_iload_n hx hb dX12_read_144 rfl (lv_at hl 3 rfl) ?_
          have hP : va_P g.1 vwCl (List.flatten [bMo g o a th hi ac tp (-1) en x_6 x_7 0 iD iO tU fm_8 fk fa fc ft ff fb fi]) H := hP
          have hD : va_D A (List.flatten [bMo g o a th hi ac tp (-1) en x_6 x_7 0 iD iO tU fm_8 fk fa fc ft ff fb fi]) := hD
          exact mret_i hx hb hr hlocks hS (Nat.le_of_ble_eq_true rfl) (Nat.le_of_ble_eq_true rfl) dX12_read_145 (x_6, x_7, fm_8, x_5) rfl (show (rM fm_8) ∧ (0 ≤ x_6.toInt ∧ x_6.toInt ≤ en.toInt + 7 - 0) ∧ (tA.toInt ≤ x_6.toInt) ∧ ((fm_8 0).toInt = (fm 0).toInt) ∧ (zTgm fm fm_8) ∧ ((-1) = x_7 ∧ zTwR ft en.toInt tA.toInt (fm 3).toInt (fm 4).toInt (fm_8 3).toInt (fm_8 4).toInt ∧ zTwV ft en.toInt tA.toInt (zSm fm) (zSm fm_8) ∨ 0 ≤ x_7.toInt ∧ zTwB ft en.toInt tA.toInt (fm 3).toInt (fm 4).toInt x_7.toInt) from ⟨(by first | assumption | omega | exact Or.inl (by decide) | exact Or.inr (by omega) | decide), (by first | assumption | omega | exact Or.inl (by decide) | exact Or.inr (by omega) | decide), (by first | assumption | omega | exact Or.inl (by decide) | exact Or.inr (by omega) | decide), (by first | assumption | omega | exact Or.inl (by decide) | exact Or.inr (by omega) | decide), i18, zTd_xV i17 i19 (Or.inl (by omega))⟩) hP hD
        · skip
          have c24 : ¬ x_4.toInt = 0 := zne cb9 rfl (by decide)
          have n25 : 1 ≤ x_4.toInt := zN1 c24 i9.1 (by decide)
          refine lv_aload_n hx hb dX12_read_27 rfl (lv_at hl 0 rfl) ?_
          refine va_get (D := g.1) (ci := 10) (v := .int x_7) (C := RX12) (T := TX12) (N := 20) hx hb hts izRX12 hown hK hP 0 rfl rfl 12 (by decide) (hts _ k820) (fun _ h9 => h9) rfl dX12_read_28 ?_
          refine lv_iconst (v := (-1)) hx hb dX12_read_31 (by decide) ?_
          refine lv_icmp_ne (tgt := 144) hx hb dX12_read_32 (by decide) (fun cb9 => ?_) (fun cb9 => ?_)
          · skip
            have c26 : ¬ x_7.toInt = (-1) := zne cb9 rfl (by decide)
            refine lv_iload_n hx hb dX12_read_144 rfl (lv_at hl 3 rfl) ?_
            have hP : va_P g.1 vwCl (List.flatten [bMo g o a th hi ac tp (-1) en x_6 x_7 0 iD iO tU fm_8 fk fa fc ft ff fb fi]) H := hP
            have hD : va_D A (List.flatten [bMo g o a th hi ac tp (-1) en x_6 x_7 0 iD iO tU fm_8 fk fa fc ft ff fb fi]) := hD
            exact mret_i hx hb hr hlocks hS (Nat.le_of_ble_eq_true rfl) (Nat.le_of_ble_eq_true rfl) dX12_read_145 (x_6, x_7, fm_8, x_5) rfl (show (rM fm_8) ∧ (0 ≤ x_6.toInt ∧ x_6.toInt ≤ en.toInt + 7 - 0) ∧ (tA.toInt ≤ x_6.toInt) ∧ ((fm_8 0).toInt = (fm 0).toInt) ∧ (zTgm fm fm_8) ∧ ((-1) = x_7 ∧ zTwR ft en.toInt tA.toInt (fm 3).toInt (fm 4).toInt (fm_8 3).toInt (fm_8 4).toInt ∧ zTwV ft en.toInt tA.toInt (zSm fm) (zSm fm_8) ∨ 0 ≤ x_7.toInt ∧ zTwB ft en.toInt tA.toInt (fm 3).toInt (fm 4).toInt x_7.toInt) from ⟨(by first | assumption | omega | exact Or.inl (by decide) | exact Or.inr (by omega) | decide), (by first | assumption | omega | exact Or.inl (by decide) | exact Or.inr (by omega) | decide), (by first | assumption | omega | exact Or.inl (by decide) | exact Or.inr (by omega) | decide), (by first | assumption | omega | exact Or.inl (by decide) | exact Or.inr (by omega) | decide), i18, zTd_xV i17 i19 (Or.inr (by omega))⟩) hP hD
          · skip
            have c27 : x_7.toInt = (-1) := zeq cb9 rfl (by decide)
            have n28 : (-1) ≤ x_7.toInt := Int.le_trans (Int.le_refl _) (Int.le_of_eq c27.symm)
            have n29 : x_7.toInt ≤ (-1) := Int.le_trans (Int.le_of_eq c27) (Int.le_refl _)
            obtain ⟨w30, w31, w32⟩ := zTd_A i17 (by omega) (by omega)
            have w33 : x_7 = -1 := (zm1 (by omega)).symm
            subst w33
            refine lv_aload_n hx hb dX12_read_35 rfl (lv_at hl 0 rfl) ?_
            refine mcallV' (g := g) (q0 := 0) (ci := 10) (As := []) (rest := []) St hK hT hA hP hD hS hl.1 [0] [] rfl rfl rfl (m_skipF l g o a th hi ac tp en x_6 (-1) 0 iD iO tU fm_8 fk fa fc ft ff fb fi hen (by first | assumption | omega | decide | exact Or.inl (by decide) | exact Or.inr (by decide)) (by decide)) (cwV 0 hts (zgL (zl4 k884 k885 k886 k839) k877) rfl rfl rfl (by decide +kernel) ⟨Nat.le_of_ble_eq_true rfl, Nat.le_of_ble_eq_true rfl⟩) rfl rfl rfl rfl (Nat.le_of_ble_eq_true rfl) dX12_read_36 ⟨(Nat.le_of_ble_eq_true rfl), (Nat.le_of_ble_eq_true rfl)⟩ (fun at2_34 H locs hq35 hP hD hS => ?_)
            replace hq35 : (0 ≤ at2_34.toInt ∧ at2_34.toInt ≤ en.toInt + 7 - (0 : Int32).toInt) ∧ (x_6.toInt ≤ at2_34.toInt) ∧ (zSk ft en.toInt x_6.toInt at2_34.toInt) := hq35
            have hP : va_P g.1 vwCl (List.flatten [bMo g o a th hi ac tp (-1) en at2_34 (-1) 0 iD iO tU fm_8 fk fa fc ft ff fb fi]) H := hP
            have hD : va_D A (List.flatten [bMo g o a th hi ac tp (-1) en at2_34 (-1) 0 iD iO tU fm_8 fk fa fc ft ff fb fi]) := hD
            refine W.widen (k := 0) (n := 0) (Nat.le_of_ble_eq_true rfl) (Nat.le_of_ble_eq_true rfl) ?_
            refine W.eq (g2 := F0 m 39 ls []) rfl ?_
            obtain ⟨hq35_0, hq35_1, hq35_2⟩ := hq35
            refine lv_iload_n hx hb dX12_read_39 rfl (lv_at hl 3 rfl) ?_
            refine lv_iload_n hx hb dX12_read_40 rfl (lv_at hl 1 rfl) ?_
            refine lv_if_eq (tgt := 49) hx hb dX12_read_41 (by decide) (fun _ => ?_) (fun c36 => absurd (by decide) c36)
            refine lv_bipush (v := 14) hx hb dX12_read_49 (by decide) ?_
            refine lv_icmp_ne (tgt := 65) hx hb dX12_read_51 (by decide) (fun cb9 => ?_) (fun cb9 => ?_)
            · skip
              have c37 : ¬ x_5.toInt = 14 := zne cb9 rfl (by decide)
              refine lv_iload_n hx hb dX12_read_65 rfl (lv_at hl 1 rfl) ?_
              refine lv_if_eq (tgt := 76) hx hb dX12_read_66 (by decide) (fun _ => ?_) (fun c38 => absurd (by decide) c38)
              refine lv_aload_n hx hb dX12_read_76 rfl (lv_at hl 0 rfl) ?_
              refine mcallV' (g := g) (q0 := 0) (ci := 10) (As := []) (rest := []) St hK hT hA hP hD hS hl.1 [0] [] rfl rfl rfl (m_townLineG l g o a th hi ac tp en at2_34 0 iD iO tU fm_8 fk fa fc ft ff fb fi rfm_8 hen hq35_0 (by decide)) (cwV 0 hts (zgL (zl4 k968 k969 k970 k839) k931) rfl rfl rfl (by decide +kernel) ⟨Nat.le_of_ble_eq_true rfl, Nat.le_of_ble_eq_true rfl⟩) rfl rfl rfl rfl (Nat.le_of_ble_eq_true rfl) dX12_read_77 ⟨(Nat.le_of_ble_eq_true rfl), (Nat.le_of_ble_eq_true rfl)⟩ (fun u_ H locs hq42 hP hD hS => ?_)
              obtain ⟨at2_39, fl2_40, fm2_41⟩ := u_
              replace hq42 : (rM fm2_41) ∧ (0 ≤ at2_39.toInt ∧ at2_39.toInt ≤ en.toInt + 7 - (0 : Int32).toInt) ∧ (at2_34.toInt ≤ at2_39.toInt) ∧ ((fm2_41 0).toInt = (fm_8 0).toInt) ∧ (zTgm fm_8 fm2_41) ∧ ((-1) = fl2_40 ∧ zTO (zTLine ft en.toInt (fm_8 3).toInt (fm_8 4).toInt (zbg ft en.toInt at2_34.toInt)) (zbg ft en.toInt at2_39.toInt) (fm_8 3).toInt (fm2_41 3).toInt (fm_8 4).toInt (fm2_41 4).toInt ∧ zTQ (zTLine ft en.toInt (fm_8 3).toInt (fm_8 4).toInt (zbg ft en.toInt at2_34.toInt)) ft (zbg ft en.toInt at2_39.toInt) (zSm fm_8) (zSm fm2_41) ∨ 0 ≤ fl2_40.toInt ∧ zTLine ft en.toInt (fm_8 3).toInt (fm_8 4).toInt (zbg ft en.toInt at2_34.toInt) (.bad fl2_40.toInt)) := hq42
              have hP : va_P g.1 vwCl (List.flatten [bMo g o a th hi ac tp (-1) en at2_39 fl2_40 0 iD iO tU fm2_41 fk fa fc ft ff fb fi]) H := hP
              have hD : va_D A (List.flatten [bMo g o a th hi ac tp (-1) en at2_39 fl2_40 0 iD iO tU fm2_41 fk fa fc ft ff fb fi]) := hD
              refine W.widen (k := 0) (n := 0) (Nat.le_of_ble_eq_true rfl) (Nat.le_of_ble_eq_true rfl) ?_
              refine W.eq (g2 := F0 m 80 ls []) rfl ?_
              obtain ⟨rfm2_41, hq42_1, hq42_2, hq42_3, hq42_4, hq42_5⟩ := hq42
              rcases hq42_5 with ⟨rfl, hq42_k, hq42_kc⟩ | ⟨hq42_k, hq42_km⟩
              · skip
                refine ziinc3 (n' := 1) (a' := 1) (b' := 17) (lv' := fun v9 => [(3, .int v9), (0, .ref o), (1, .int 0), (2, .int x_4)]) hx hb dX12_read_80 hl (k := 3) rfl (by decide) (fun _ => rfl) (zaddK (i := x_5.toInt) (j := 1) rfl (by decide) i10.1 i10.2 (Int.le_refl _) (Int.le_refl _) (by decide)) (fun x_43 ls hx_43 hl => ?_)
                refine lv_aload_n hx hb dX12_read_83 rfl (lv_at hl 1 rfl) ?_
                refine mcallV' (g := g) (q0 := 0) (ci := 10) (As := []) (rest := []) St hK hT hA hP hD hS hl.1 [0] [] rfl rfl rfl (m_skipF l g o a th hi ac tp en at2_39 (-1) 0 iD iO tU fm2_41 fk fa fc ft ff fb fi hen hq42_1 (by decide)) (cwV 0 hts (zgL (zl4 k884 k885 k886 k839) k877) rfl rfl rfl (by decide +kernel) ⟨Nat.le_of_ble_eq_true rfl, Nat.le_of_ble_eq_true rfl⟩) rfl rfl rfl rfl (Nat.le_of_ble_eq_true rfl) dX12_read_84 ⟨(Nat.le_of_ble_eq_true rfl), (Nat.le_of_ble_eq_true rfl)⟩ (fun at2_44 H locs hq45 hP hD hS => ?_)
                replace hq45 : (0 ≤ at2_44.toInt ∧ at2_44.toInt ≤ en.toInt + 7 - (0 : Int32).toInt) ∧ (at2_39.toInt ≤ at2_44.toInt) ∧ (zSk ft en.toInt at2_39.toInt at2_44.toInt) := hq45
                have hP : va_P g.1 vwCl (List.flatten [bMo g o a th hi ac tp (-1) en at2_44 (-1) 0 iD iO tU fm2_41 fk fa fc ft ff fb fi]) H := hP
                have hD : va_D A (List.flatten [bMo g o a th hi ac tp (-1) en at2_44 (-1) 0 iD iO tU fm2_41 fk fa fc ft ff fb fi]) := hD
                refine W.widen (k := 0) (n := 0) (Nat.le_of_ble_eq_true rfl) (Nat.le_of_ble_eq_true rfl) ?_
                refine W.eq (g2 := F0 m 87 ls []) rfl ?_
                obtain ⟨hq45_0, hq45_1, hq45_2⟩ := hq45
                refine lv_aload_n hx hb dX12_read_87 rfl (lv_at hl 1 rfl) ?_
                refine va_get (D := g.1) (ci := 10) (v := .int (-1)) (C := RX12) (T := TX12) (N := 20) hx hb hts izRX12 hown hK hP 0 rfl rfl 12 (by decide) (hts _ k820) (fun _ h9 => h9) rfl dX12_read_88 ?_
                refine lv_iconst (v := (-1)) hx hb dX12_read_91 (by decide) ?_
                refine lv_icmp_ne (tgt := 106) hx hb dX12_read_92 (by decide) (fun c46 => absurd (by decide) c46) (fun _ => ?_)
                refine lv_aload_n hx hb dX12_read_95 rfl (lv_at hl 1 rfl) ?_
                refine va_get (D := g.1) (ci := 10) (v := .int at2_44) (C := RX12) (T := TX12) (N := 20) hx hb hts izRX12 hown hK hP 0 rfl rfl 11 (by decide) (hts _ k878) (fun _ h9 => h9) rfl dX12_read_96 ?_
                refine lv_aload_n hx hb dX12_read_99 rfl (lv_at hl 1 rfl) ?_
                refine va_get (D := g.1) (ci := 10) (v := .int en) (C := RX12) (T := TX12) (N := 20) hx hb hts izRX12 hown hK hP 0 rfl rfl 10 (by decide) (hts _ k879) (fun _ h9 => h9) rfl dX12_read_100 ?_
                refine lv_icmp_ne (tgt := 111) hx hb dX12_read_103 (by decide) (fun cb9 => ?_) (fun cb9 => ?_)
                · skip
                  have c47 : ¬ at2_44.toInt = en.toInt := zne cb9 rfl rfl
                  refine lv_aload_n hx hb dX12_read_111 rfl (lv_at hl 1 rfl) ?_
                  refine lv_bipush (v := 59) hx hb dX12_read_112 (by decide) ?_
                  have hL59 : (59 : Int32).toInt = 59 := by decide
                  refine mcallV' (g := g) (q0 := 0) (ci := 10) (As := [.int 59]) (rest := []) St hK hT hA hP hD hS hl.1 [0] [] rfl rfl rfl (m_isSignF l g o a th hi ac tp en at2_44 (-1) 0 iD iO tU fm2_41 fk fa fc ft ff fb fi 59 hen hq45_0 (by decide) (by first | assumption | omega | decide | exact Or.inl (by decide) | exact Or.inr (by decide))) (cwV 1 hts (zgL (zl4 k938 k939 k940 k839) k883) rfl rfl rfl (by decide +kernel) ⟨Nat.le_of_ble_eq_true rfl, Nat.le_of_ble_eq_true rfl⟩) rfl rfl rfl rfl (Nat.le_of_ble_eq_true rfl) dX12_read_114 ⟨(Nat.le_of_ble_eq_true rfl), (Nat.le_of_ble_eq_true rfl)⟩ (fun u_ H locs hq50 hP hD hS => ?_)
                  obtain ⟨at2_48, q_49⟩ := u_
                  replace hq50 : (0 ≤ at2_48.toInt ∧ at2_48.toInt ≤ en.toInt + 7 - (0 : Int32).toInt) ∧ (at2_44.toInt ≤ at2_48.toInt) ∧ (zSk ft en.toInt at2_44.toInt at2_48.toInt) ∧ (q_49 = 1 ∧ zisS ft en.toInt at2_48.toInt (59 : Int32).toInt ∧ at2_48.toInt < en.toInt ∨ q_49 = 0 ∧ ¬ zisS ft en.toInt at2_48.toInt (59 : Int32).toInt) := hq50
                  have hP : va_P g.1 vwCl (List.flatten [bMo g o a th hi ac tp (-1) en at2_48 (-1) 0 iD iO tU fm2_41 fk fa fc ft ff fb fi]) H := hP
                  have hD : va_D A (List.flatten [bMo g o a th hi ac tp (-1) en at2_48 (-1) 0 iD iO tU fm2_41 fk fa fc ft ff fb fi]) := hD
                  refine W.widen (k := 0) (n := 0) (Nat.le_of_ble_eq_true rfl) (Nat.le_of_ble_eq_true rfl) ?_
                  refine W.eq (g2 := F0 m 117 ls [.int q_49]) rfl ?_
                  obtain ⟨hq50_0, hq50_1, hq50_2, hq50_3⟩ := hq50
                  rcases hq50_3 with ⟨rfl, hq50_k⟩ | ⟨rfl, hq50_k⟩
                  · skip
                    refine lv_if_eq (tgt := 133) hx hb dX12_read_117 (by decide) (fun c51 => absurd c51 (by decide)) (fun _ => ?_)
                    refine lv_aload_n hx hb dX12_read_120 rfl (lv_at hl 1 rfl) ?_
                    refine lv_dup hx hb dX12_read_121 rfl ?_
                    refine va_get (D := g.1) (ci := 10) (v := .int at2_48) (C := RX12) (T := TX12) (N := 20) hx hb hts izRX12 hown hK hP 0 rfl rfl 11 (by decide) (hts _ k878) (fun _ h9 => h9) rfl dX12_read_122 ?_
                    refine lv_iconst (v := 1) hx hb dX12_read_125 (by decide) ?_
                    refine lv_iadd hx hb dX12_read_126 ?_
                    refine zgv (zadd (i := at2_48.toInt) (j := 1) rfl (by decide) (by omega)) (fun x_52 hx_52 => ?_)
                    refine va_put (D := g.1) (ci := 10) (v := .int x_52) (ty := .int) (C := RX12) (T := TX12) (N := 20) hx hb hts izRX12 tyX12 tyX12_ok nmX12 hown hK hP hD hS 0 rfl rfl 11 (by decide) (hts _ k878) (fun _ h9 => h9) rfl (by decide +kernel) rfl rfl (Nat.le_of_ble_eq_true rfl) dX12_read_127 (fun H locs hP hD hS => ?_)
                    have hP : va_P g.1 vwCl (List.flatten [bMo g o a th hi ac tp (-1) en x_52 (-1) 0 iD iO tU fm2_41 fk fa fc ft ff fb fi]) H := hP
                    have hD : va_D A (List.flatten [bMo g o a th hi ac tp (-1) en x_52 (-1) 0 iD iO tU fm2_41 fk fa fc ft ff fb fi]) := hD
                    refine lv_goto (tgt := 23) hx hb dX12_read_130 (by decide) ?_
                    have hl := lv_sub (l' := [(0, .ref o), (1, .int 0), (2, .int x_4), (3, .int x_43)]) hl [1, 2, 3, 0] rfl
                    have hP : va_P g.1 vwCl (List.flatten [bMo g o a th hi ac tp (-1) en x_52 (-1) 0 iD iO tU fm2_41 fk fa fc ft ff fb fi]) H := hP
                    have hD : va_D A (List.flatten [bMo g o a th hi ac tp (-1) en x_52 (-1) 0 iD iO tU fm2_41 fk fa fc ft ff fb fi]) := hD
                    exact ih23_21 x_4 x_43 x_52 (-1) fm2_41 ⟨(Int.le_trans (by decide) n25), i9.2⟩ (by first | omega | assumption | decide) (by first | omega | assumption | decide) rfm2_41 (by first | omega | assumption | decide) (by first | omega | assumption | decide) (by first | omega | assumption | decide) (by first | omega | assumption | decide) (by first | omega | assumption | decide) (zTd_d (by omega) w30 w31 w32 hq35_2 hq42_k hq45_2 (by omega) hq50_2 hq50_k.1 (by decide) (by omega) (by decide) hx_43.1 (by omega)) (zTg_t i18 hq42_4) (zTdV_d i19 (by decide) (by omega) (by omega) w30 hq35_2 rfl rfl hq42_kc hq45_2 (by omega) hq50_2 hq50_k.1 (by decide) (by first | decide | omega) hx_43.1 (by omega)) H _ ls (by omega)  hP hD hS (lv_sub hl [0, 1, 2, 3] rfl)
                  · skip
                    refine lv_if_eq (tgt := 133) hx hb dX12_read_117 (by decide) (fun _ => ?_) (fun c53 => absurd (by decide) c53)
                    refine lv_aload_n hx hb dX12_read_133 rfl (lv_at hl 1 rfl) ?_
                    refine lv_aload_n hx hb dX12_read_134 rfl (lv_at hl 1 rfl) ?_
                    refine va_get (D := g.1) (ci := 10) (v := .int at2_48) (C := RX12) (T := TX12) (N := 20) hx hb hts izRX12 hown hK hP 0 rfl rfl 11 (by decide) (hts _ k878) (fun _ h9 => h9) rfl dX12_read_135 ?_
                    refine mcallV' (g := g) (q0 := 0) (ci := 10) (As := [.int at2_48]) (rest := []) St hK hT hA hP hD hS hl.1 [0] [] rfl rfl rfl (m_wrongF l g o a th hi ac tp (-1) en at2_48 0 iD iO tU fm2_41 fk fa fc ft ff fb fi at2_48 ) (cwV 1 hts (zgL (zl4 k895 k896 k897 k839) k890) rfl rfl rfl (by decide +kernel) ⟨Nat.le_of_ble_eq_true rfl, Nat.le_of_ble_eq_true rfl⟩) rfl rfl rfl rfl (Nat.le_of_ble_eq_true rfl) dX12_read_138 ⟨(Nat.le_of_ble_eq_true rfl), (Nat.le_of_ble_eq_true rfl)⟩ (fun _u H locs hq54 hP hD hS => ?_)
                    have hP : va_P g.1 vwCl (List.flatten [bMo g o a th hi ac tp (-1) en at2_48 at2_48 0 iD iO tU fm2_41 fk fa fc ft ff fb fi]) H := hP
                    have hD : va_D A (List.flatten [bMo g o a th hi ac tp (-1) en at2_48 at2_48 0 iD iO tU fm2_41 fk fa fc ft ff fb fi]) := hD
                    refine W.widen (k := 0) (n := 0) (Nat.le_of_ble_eq_true rfl) (Nat.le_of_ble_eq_true rfl) ?_
                    refine W.eq (g2 := F0 m 141 ls []) rfl ?_
                    refine lv_goto (tgt := 23) hx hb dX12_read_141 (by decide) ?_
                    have hl := lv_sub (l' := [(0, .ref o), (1, .int 0), (2, .int x_4), (3, .int x_43)]) hl [1, 2, 3, 0] rfl
                    have hP : va_P g.1 vwCl (List.flatten [bMo g o a th hi ac tp (-1) en at2_48 at2_48 0 iD iO tU fm2_41 fk fa fc ft ff fb fi]) H := hP
                    have hD : va_D A (List.flatten [bMo g o a th hi ac tp (-1) en at2_48 at2_48 0 iD iO tU fm2_41 fk fa fc ft ff fb fi]) := hD
                    exact ih23_21 x_4 x_43 at2_48 at2_48 fm2_41 ⟨(Int.le_trans (by decide) n25), i9.2⟩ (by first | omega | assumption | decide) (by first | omega | assumption | decide) rfm2_41 (by first | omega | assumption | decide) (by first | omega | assumption | decide) (by first | omega | assumption | decide) (by first | omega | assumption | decide) (by first | omega | assumption | decide) (zTd_e (by omega) w30 w31 w32 hq35_2 hq42_k hq45_2 (by omega) hq50_2 hq50_k (by decide) rfl) (zTg_t i18 hq42_4) (zTdV_x (by omega)) H _ ls (by omega)  hP hD hS (lv_sub hl [0, 1, 2, 3] rfl)
                · skip
                  have c55 : at2_44.toInt = en.toInt := zeq cb9 rfl rfl
                  have n56 : at2_44.toInt ≤ 400 := Int.le_trans (Int.le_of_eq c55) hen.2
                  refine lv_iconst (v := 0) hx hb dX12_read_106 (by decide) ?_
                  refine lv_istore_n (lv' := [(2, .int 0), (3, .int x_43), (0, .ref o), (1, .int 0)]) hx hb dX12_read_107 rfl hl (by decide) rfl (fun ls hl => ?_)
                  refine lv_goto (tgt := 23) hx hb dX12_read_108 (by decide) ?_
                  have hl := lv_sub (l' := [(0, .ref o), (1, .int 0), (2, .int 0), (3, .int x_43)]) hl [2, 3, 0, 1] rfl
                  have hLn1 : ((-1) : Int32).toInt = (-1) := by decide
                  have hP : va_P g.1 vwCl (List.flatten [bMo g o a th hi ac tp (-1) en at2_44 (-1) 0 iD iO tU fm2_41 fk fa fc ft ff fb fi]) H := hP
                  have hD : va_D A (List.flatten [bMo g o a th hi ac tp (-1) en at2_44 (-1) 0 iD iO tU fm2_41 fk fa fc ft ff fb fi]) := hD
                  exact ih23_21 0 x_43 at2_44 (-1) fm2_41 (by decide) (by first | omega | assumption | decide) (by first | omega | assumption | decide) rfm2_41 (by first | omega | assumption | decide) (by first | omega | assumption | decide) (by first | omega | assumption | decide) (by first | omega | assumption | decide) (by first | omega | assumption | decide) (zTd_c (by omega) w30 w31 w32 hq35_2 hq42_k hq45_2 (by omega) (by decide) (by decide) hx_43.1) (zTg_t i18 hq42_4) (zTdV_c i19 (by decide) (by omega) (by omega) w30 w31 hq35_2 rfl rfl hq42_kc hq45_2 (by omega) (by decide)) H _ ls (by omega)  hP hD hS (lv_sub hl [0, 1, 2, 3] rfl)
              · skip
                refine ziinc3 (n' := 1) (a' := 1) (b' := 17) (lv' := fun v9 => [(3, .int v9), (0, .ref o), (1, .int 0), (2, .int x_4)]) hx hb dX12_read_80 hl (k := 3) rfl (by decide) (fun _ => rfl) (zaddK (i := x_5.toInt) (j := 1) rfl (by decide) i10.1 i10.2 (Int.le_refl _) (Int.le_refl _) (by decide)) (fun x_57 ls hx_57 hl => ?_)
                refine lv_aload_n hx hb dX12_read_83 rfl (lv_at hl 1 rfl) ?_
                refine mcallV' (g := g) (q0 := 0) (ci := 10) (As := []) (rest := []) St hK hT hA hP hD hS hl.1 [0] [] rfl rfl rfl (m_skipF l g o a th hi ac tp en at2_39 fl2_40 0 iD iO tU fm2_41 fk fa fc ft ff fb fi hen hq42_1 (by decide)) (cwV 0 hts (zgL (zl4 k884 k885 k886 k839) k877) rfl rfl rfl (by decide +kernel) ⟨Nat.le_of_ble_eq_true rfl, Nat.le_of_ble_eq_true rfl⟩) rfl rfl rfl rfl (Nat.le_of_ble_eq_true rfl) dX12_read_84 ⟨(Nat.le_of_ble_eq_true rfl), (Nat.le_of_ble_eq_true rfl)⟩ (fun at2_58 H locs hq59 hP hD hS => ?_)
                replace hq59 : (0 ≤ at2_58.toInt ∧ at2_58.toInt ≤ en.toInt + 7 - (0 : Int32).toInt) ∧ (at2_39.toInt ≤ at2_58.toInt) ∧ (zSk ft en.toInt at2_39.toInt at2_58.toInt) := hq59
                have hP : va_P g.1 vwCl (List.flatten [bMo g o a th hi ac tp (-1) en at2_58 fl2_40 0 iD iO tU fm2_41 fk fa fc ft ff fb fi]) H := hP
                have hD : va_D A (List.flatten [bMo g o a th hi ac tp (-1) en at2_58 fl2_40 0 iD iO tU fm2_41 fk fa fc ft ff fb fi]) := hD
                refine W.widen (k := 0) (n := 0) (Nat.le_of_ble_eq_true rfl) (Nat.le_of_ble_eq_true rfl) ?_
                refine W.eq (g2 := F0 m 87 ls []) rfl ?_
                obtain ⟨hq59_0, hq59_1, hq59_2⟩ := hq59
                refine lv_aload_n hx hb dX12_read_87 rfl (lv_at hl 1 rfl) ?_
                refine va_get (D := g.1) (ci := 10) (v := .int fl2_40) (C := RX12) (T := TX12) (N := 20) hx hb hts izRX12 hown hK hP 0 rfl rfl 12 (by decide) (hts _ k820) (fun _ h9 => h9) rfl dX12_read_88 ?_
                refine lv_iconst (v := (-1)) hx hb dX12_read_91 (by decide) ?_
                refine lv_icmp_ne (tgt := 106) hx hb dX12_read_92 (by decide) (fun cb9 => ?_) (fun cb9 => ?_)
                · skip
                  have c60 : ¬ fl2_40.toInt = (-1) := zne cb9 rfl (by decide)
                  refine lv_iconst (v := 0) hx hb dX12_read_106 (by decide) ?_
                  refine lv_istore_n (lv' := [(2, .int 0), (3, .int x_57), (0, .ref o), (1, .int 0)]) hx hb dX12_read_107 rfl hl (by decide) rfl (fun ls hl => ?_)
                  refine lv_goto (tgt := 23) hx hb dX12_read_108 (by decide) ?_
                  have hl := lv_sub (l' := [(0, .ref o), (1, .int 0), (2, .int 0), (3, .int x_57)]) hl [2, 3, 0, 1] rfl
                  have hP : va_P g.1 vwCl (List.flatten [bMo g o a th hi ac tp (-1) en at2_58 fl2_40 0 iD iO tU fm2_41 fk fa fc ft ff fb fi]) H := hP
                  have hD : va_D A (List.flatten [bMo g o a th hi ac tp (-1) en at2_58 fl2_40 0 iD iO tU fm2_41 fk fa fc ft ff fb fi]) := hD
                  exact ih23_21 0 x_57 at2_58 fl2_40 fm2_41 (by decide) (by first | omega | assumption | decide) (by first | omega | assumption | decide) rfm2_41 (by first | omega | assumption | decide) (by first | omega | assumption | decide) (by first | omega | assumption | decide) (by first | omega | assumption | decide) (by first | omega | assumption | decide) (zTd_b (by omega) w30 w31 w32 hq35_2 hq42_km hq42_k) (zTg_t i18 hq42_4) (zTdV_x (by omega)) H _ ls (by omega)  hP hD hS (lv_sub hl [0, 1, 2, 3] rfl)
                · skip
                  exact absurd (show fl2_40.toInt = (-1) from zeq cb9 rfl (by decide)) (zDeq2 (a := 0) (b := (-1)) hq42_k (Int.le_refl _) (by decide))
            · skip
              have c62 : x_5.toInt = 14 := zeq cb9 rfl (by decide)
              have n63 : 14 ≤ x_5.toInt := Int.le_trans (Int.le_refl _) (Int.le_of_eq c62.symm)
              have n64 : x_5.toInt ≤ 14 := Int.le_trans (Int.le_of_eq c62) (Int.le_refl _)
              refine lv_aload_n hx hb dX12_read_54 rfl (lv_at hl 0 rfl) ?_
              refine lv_aload_n hx hb dX12_read_55 rfl (lv_at hl 0 rfl) ?_
              refine va_get (D := g.1) (ci := 10) (v := .int at2_34) (C := RX12) (T := TX12) (N := 20) hx hb hts izRX12 hown hK hP 0 rfl rfl 11 (by decide) (hts _ k878) (fun _ h9 => h9) rfl dX12_read_56 ?_
              refine mcallV' (g := g) (q0 := 0) (ci := 10) (As := [.int at2_34]) (rest := []) St hK hT hA hP hD hS hl.1 [0] [] rfl rfl rfl (m_wrongF l g o a th hi ac tp (-1) en at2_34 0 iD iO tU fm_8 fk fa fc ft ff fb fi at2_34 ) (cwV 1 hts (zgL (zl4 k895 k896 k897 k839) k890) rfl rfl rfl (by decide +kernel) ⟨Nat.le_of_ble_eq_true rfl, Nat.le_of_ble_eq_true rfl⟩) rfl rfl rfl rfl (Nat.le_of_ble_eq_true rfl) dX12_read_59 ⟨(Nat.le_of_ble_eq_true rfl), (Nat.le_of_ble_eq_true rfl)⟩ (fun _u H locs hq65 hP hD hS => ?_)
              have hP : va_P g.1 vwCl (List.flatten [bMo g o a th hi ac tp (-1) en at2_34 at2_34 0 iD iO tU fm_8 fk fa fc ft ff fb fi]) H := hP
              have hD : va_D A (List.flatten [bMo g o a th hi ac tp (-1) en at2_34 at2_34 0 iD iO tU fm_8 fk fa fc ft ff fb fi]) := hD
              refine W.widen (k := 0) (n := 0) (Nat.le_of_ble_eq_true rfl) (Nat.le_of_ble_eq_true rfl) ?_
              refine W.eq (g2 := F0 m 62 ls []) rfl ?_
              refine lv_goto (tgt := 80) hx hb dX12_read_62 (by decide) ?_
              refine ziinc3 (n' := 1) (a' := 15) (b' := 15) (lv' := fun v9 => [(3, .int v9), (0, .ref o), (1, .int 0), (2, .int x_4)]) hx hb dX12_read_80 hl (k := 3) rfl (by decide) (fun _ => rfl) (zaddK (i := x_5.toInt) (j := 1) rfl (by decide) n63 n64 (Int.le_refl _) (Int.le_refl _) (by decide)) (fun x_66 ls hx_66 hl => ?_)
              refine lv_aload_n hx hb dX12_read_83 rfl (lv_at hl 1 rfl) ?_
              refine mcallV' (g := g) (q0 := 0) (ci := 10) (As := []) (rest := []) St hK hT hA hP hD hS hl.1 [0] [] rfl rfl rfl (m_skipF l g o a th hi ac tp en at2_34 at2_34 0 iD iO tU fm_8 fk fa fc ft ff fb fi hen hq35_0 (by decide)) (cwV 0 hts (zgL (zl4 k884 k885 k886 k839) k877) rfl rfl rfl (by decide +kernel) ⟨Nat.le_of_ble_eq_true rfl, Nat.le_of_ble_eq_true rfl⟩) rfl rfl rfl rfl (Nat.le_of_ble_eq_true rfl) dX12_read_84 ⟨(Nat.le_of_ble_eq_true rfl), (Nat.le_of_ble_eq_true rfl)⟩ (fun at2_67 H locs hq68 hP hD hS => ?_)
              replace hq68 : (0 ≤ at2_67.toInt ∧ at2_67.toInt ≤ en.toInt + 7 - (0 : Int32).toInt) ∧ (at2_34.toInt ≤ at2_67.toInt) ∧ (zSk ft en.toInt at2_34.toInt at2_67.toInt) := hq68
              have hP : va_P g.1 vwCl (List.flatten [bMo g o a th hi ac tp (-1) en at2_67 at2_34 0 iD iO tU fm_8 fk fa fc ft ff fb fi]) H := hP
              have hD : va_D A (List.flatten [bMo g o a th hi ac tp (-1) en at2_67 at2_34 0 iD iO tU fm_8 fk fa fc ft ff fb fi]) := hD
              refine W.widen (k := 0) (n := 0) (Nat.le_of_ble_eq_true rfl) (Nat.le_of_ble_eq_true rfl) ?_
              refine W.eq (g2 := F0 m 87 ls []) rfl ?_
              obtain ⟨hq68_0, hq68_1, hq68_2⟩ := hq68
              refine lv_aload_n hx hb dX12_read_87 rfl (lv_at hl 1 rfl) ?_
              refine va_get (D := g.1) (ci := 10) (v := .int at2_34) (C := RX12) (T := TX12) (N := 20) hx hb hts izRX12 hown hK hP 0 rfl rfl 12 (by decide) (hts _ k820) (fun _ h9 => h9) rfl dX12_read_88 ?_
              refine lv_iconst (v := (-1)) hx hb dX12_read_91 (by decide) ?_
              refine lv_icmp_ne (tgt := 106) hx hb dX12_read_92 (by decide) (fun cb9 => ?_) (fun cb9 => ?_)
              · skip
                have c69 : ¬ at2_34.toInt = (-1) := zne cb9 rfl (by decide)
                refine lv_iconst (v := 0) hx hb dX12_read_106 (by decide) ?_
                refine lv_istore_n (lv' := [(2, .int 0), (3, .int x_66), (0, .ref o), (1, .int 0)]) hx hb dX12_read_107 rfl hl (by decide) rfl (fun ls hl => ?_)
                refine lv_goto (tgt := 23) hx hb dX12_read_108 (by decide) ?_
                have hl := lv_sub (l' := [(0, .ref o), (1, .int 0), (2, .int 0), (3, .int x_66)]) hl [2, 3, 0, 1] rfl
                have hP : va_P g.1 vwCl (List.flatten [bMo g o a th hi ac tp (-1) en at2_67 at2_34 0 iD iO tU fm_8 fk fa fc ft ff fb fi]) H := hP
                have hD : va_D A (List.flatten [bMo g o a th hi ac tp (-1) en at2_67 at2_34 0 iD iO tU fm_8 fk fa fc ft ff fb fi]) := hD
                exact ih23_21 0 x_66 at2_67 at2_34 fm_8 (by decide) ⟨(Int.le_trans (by decide) hx_66.2.1), (Int.le_trans hx_66.2.2 (by decide))⟩ (by first | omega | assumption | decide) rfm_8 (by first | omega | assumption | decide) (by first | omega | assumption | decide) (by first | omega | assumption | decide) (by first | omega | assumption | decide) i16 (zTd_a (by omega) w31 w32 hq35_2 rfl) i18 (zTdV_x (by omega)) H _ ls (by omega)  hP hD hS (lv_sub hl [0, 1, 2, 3] rfl)
              · skip
                exact absurd (show at2_34.toInt = (-1) from zeq cb9 rfl (by decide)) (by omega)
    have hLn1 : ((-1) : Int32).toInt = (-1) := by decide
    have hP : va_P g.1 vwCl (List.flatten [bMo g o a th hi ac tp (-1) en at2_1 (-1) 0 iD iO tU fm fk fa fc ft ff fb fi]) H := hP
    have hD : va_D A (List.flatten [bMo g o a th hi ac tp (-1) en at2_1 (-1) 0 iD iO tU fm fk fa fc ft ff fb fi]) := hD
    exact LP23_20 _ 0 0 at2_1 (-1) fm (by decide) (by decide) (by first | omega | assumption | decide) rfm (by first | omega | assumption | decide) hq2_1 (by first | omega | assumption | decide) (by first | omega | assumption | decide) (by first | omega | assumption | decide) (zTd_i0 (by decide) (by decide) (by decide) hq2_2 (by omega) rfl rfl) (zTg_r _) (zTdV_i0 (by decide) hq2_2 (by omega)) H _ ls (Nat.lt_succ_self _)  hP hD hS (lv_sub hl [0, 1, 2, 3] rfl)
  · skip
    have c71 : at2_1.toInt < en.toInt := zlti (Int32.not_le.mp cb9) rfl rfl
    have n72 : at2_1.toInt ≤ 399 := zL1 (b := 400) c71 hen.2 (by decide)
    refine lv_iconst (v := 1) hx hb dX12_read_15 (by decide) ?_
    refine lv_goto (tgt := 20) hx hb dX12_read_16 (by decide) ?_
    refine lv_istore_n (lv' := [(2, .int 1), (0, .ref o), (1, .int 0)]) hx hb dX12_read_20 rfl hl (by decide) rfl (fun ls hl => ?_)
    refine lv_iconst (v := 0) hx hb dX12_read_21 (by decide) ?_
    refine lv_istore_n (lv' := [(3, .int 0), (2, .int 1), (0, .ref o), (1, .int 0)]) hx hb dX12_read_22 rfl hl (by decide) rfl (fun ls hl => ?_)
    have hl := lv_sub (l' := [(0, .ref o), (1, .int 0), (2, .int 1), (3, .int 0)]) hl [2, 3, 1, 0] rfl
    have LP23_89 : ∀ (kf : Nat) (x_73 : Int32) (x_74 : Int32) (x_75 : Int32) (x_76 : Int32) (fm_77 : Nat → Int32), (0 ≤ x_73.toInt ∧ x_73.toInt ≤ 1) → (0 ≤ x_74.toInt ∧ x_74.toInt ≤ 16) → (0 ≤ x_75.toInt ∧ x_75.toInt ≤ 408) → (rM fm_77) → (x_73.toInt = 0 ∨ ¬ x_76.toInt = -1 ∨ x_74.toInt ≤ 14) → (tA.toInt ≤ x_75.toInt) → (x_75.toInt ≤ en.toInt + 7 - 0) → (-1 ≤ x_76.toInt) → ((fm_77 0).toInt = (fm 0).toInt) → (zTd ft en.toInt tA.toInt (fm 3).toInt (fm 4).toInt x_73.toInt x_76.toInt x_74.toInt x_75.toInt (fm_77 3).toInt (fm_77 4).toInt) → (zTgm fm fm_77) → (zTdV ft en.toInt tA.toInt (zSm fm) x_73.toInt x_76.toInt x_74.toInt x_75.toInt (zSm fm_77)) → ∀ (H : Heap) (locs : List Loc) (ls : Array Slot), ((17 - x_74.toInt).toNat) < kf → va_P g.1 vwCl (List.flatten [bMo g o a th hi ac tp (-1) en x_75 x_76 0 iD iO tU fm_77 fk fa fc ft ff fb fi]) H → va_D A (List.flatten [bMo g o a th hi ac tp (-1) en x_75 x_76 0 iD iO tU fm_77 fk fa fc ft ff fb fi]) → va_S A s.heap H locs → lv_has ls 4 [(0, .ref o), (1, .int 0), (2, .int x_73), (3, .int x_74)] → W p l e ({ frames := 8, cells := 0, slots := 0, locals := 178 } : Room) s m args below meth c H locs (0) (0) (zF g (fun u : Int32 × Int32 × (Nat → Int32) × Int32 => (fun (at2 : Int32) (fl2 : Int32) (fm2 : Nat → Int32) (q : Int32) => some (.int q)) (u.1) (u.2.1) (u.2.2.1) (u.2.2.2)) (fun u : Int32 × Int32 × (Nat → Int32) × Int32 => (fun (at2 : Int32) (fl2 : Int32) (fm2 : Nat → Int32) (q : Int32) => (rM fm2) ∧ (0 ≤ at2.toInt ∧ at2.toInt ≤ en.toInt + 7 - 0) ∧ (tA.toInt ≤ at2.toInt) ∧ ((fm2 0).toInt = (fm 0).toInt) ∧ (zTgm fm fm2) ∧ ((-1) = fl2 ∧ zTwR ft en.toInt tA.toInt (fm 3).toInt (fm 4).toInt (fm2 3).toInt (fm2 4).toInt ∧ zTwV ft en.toInt tA.toInt (zSm fm) (zSm fm2) ∨ 0 ≤ fl2.toInt ∧ zTwB ft en.toInt tA.toInt (fm 3).toInt (fm 4).toInt fl2.toInt)) (u.1) (u.2.1) (u.2.2.1) (u.2.2.2)) (fun u : Int32 × Int32 × (Nat → Int32) × Int32 => (fun (at2 : Int32) (fl2 : Int32) (fm2 : Nat → Int32) (q : Int32) => [bMo g o a th hi ac tp (-1) en at2 fl2 0 iD iO tU fm2 fk fa fc ft ff fb fi]) (u.1) (u.2.1) (u.2.2.1) (u.2.2.2)) ({ frames := 8, cells := 0, slots := 0, locals := 178 } : Room) below args s A) (F0 m 23 ls []) := by
      intro kf
      induction kf with
      | zero => intro x_73 x_74 x_75 x_76 fm_77 i78 i79 i80 rfm_77 i81 i82 i83 i84 i85 i86 i87 i88 H locs ls hk; exact absurd hk (Nat.not_lt_zero _)
      | succ kf ih23_90 =>
        intro x_73 x_74 x_75 x_76 fm_77 i78 i79 i80 rfm_77 i81 i82 i83 i84 i85 i86 i87 i88 H locs ls hk23_90 hP hD hS hl
        refine lv_iload_n hx hb dX12_read_23 rfl (lv_at hl 2 rfl) ?_
        refine lv_if_eq (tgt := 144) hx hb dX12_read_24 (by decide) (fun cb9 => ?_) (fun cb9 => ?_)
        · skip
          have c91 : x_73.toInt = 0 := zeq cb9 rfl (by decide)
          have n92 : x_73.toInt ≤ 0 := Int.le_trans (Int.le_of_eq c91) (Int.le_refl _)
          refine lv_iload_n hx hb dX12_read_144 rfl (lv_at hl 3 rfl) ?_
          have hP : va_P g.1 vwCl (List.flatten [bMo g o a th hi ac tp (-1) en x_75 x_76 0 iD iO tU fm_77 fk fa fc ft ff fb fi]) H := hP
          have hD : va_D A (List.flatten [bMo g o a th hi ac tp (-1) en x_75 x_76 0 iD iO tU fm_77 fk fa fc ft ff fb fi]) := hD
          exact mret_i hx hb hr hlocks hS (Nat.le_of_ble_eq_true rfl) (Nat.le_of_ble_eq_true rfl) dX12_read_145 (x_75, x_76, fm_77, x_74) rfl (show (rM fm_77) ∧ (0 ≤ x_75.toInt ∧ x_75.toInt ≤ en.toInt + 7 - 0) ∧ (tA.toInt ≤ x_75.toInt) ∧ ((fm_77 0).toInt = (fm 0).toInt) ∧ (zTgm fm fm_77) ∧ ((-1) = x_76 ∧ zTwR ft en.toInt tA.toInt (fm 3).toInt (fm 4).toInt (fm_77 3).toInt (fm_77 4).toInt ∧ zTwV ft en.toInt tA.toInt (zSm fm) (zSm fm_77) ∨ 0 ≤ x_76.toInt ∧ zTwB ft en.toInt tA.toInt (fm 3).toInt (fm 4).toInt x_76.toInt) from ⟨(by first | assumption | omega | exact Or.inl (by decide) | exact Or.inr (by omega) | decide), (by first | assumption | omega | exact Or.inl (by decide) | exact Or.inr (by omega) | decide), (by first | assumption | omega | exact Or.inl (by decide) | exact Or.inr (by omega) | decide), (by first | assumption | omega | exact Or.inl (by decide) | exact Or.inr (by omega) | decide), i87, zTd_xV i86 i88 (Or.inl (by omega))⟩) hP hD
        · skip
          have c93 : ¬ x_73.toInt = 0 := zne cb9 rfl (by decide)
          have n94 : 1 ≤ x_73.toInt := zN1 c93 i78.1 (by decide)
          refine lv_aload_n hx hb dX12_read_27 rfl (lv_at hl 0 rfl) ?_
          refine va_get (D := g.1) (ci := 10) (v := .int x_76) (C := RX12) (T := TX12) (N := 20) hx hb hts izRX12 hown hK hP 0 rfl rfl 12 (by decide) (hts _ k820) (fun _ h9 => h9) rfl dX12_read_28 ?_
          refine lv_iconst (v := (-1)) hx hb dX12_read_31 (by decide) ?_
          refine lv_icmp_ne (tgt := 144) hx hb dX12_read_32 (by decide) (fun cb9 => ?_) (fun cb9 => ?_)
          · skip
            have c95 : ¬ x_76.toInt = (-1) := zne cb9 rfl (by decide)
            refine lv_iload_n hx hb dX12_read_144 rfl (lv_at hl 3 rfl) ?_
            have hP : va_P g.1 vwCl (List.flatten [bMo g o a th hi ac tp (-1) en x_75 x_76 0 iD iO tU fm_77 fk fa fc ft ff fb fi]) H := hP
            have hD : va_D A (List.flatten [bMo g o a th hi ac tp (-1) en x_75 x_76 0 iD iO tU fm_77 fk fa fc ft ff fb fi]) := hD
            exact mret_i hx hb hr hlocks hS (Nat.le_of_ble_eq_true rfl) (Nat.le_of_ble_eq_true rfl) dX12_read_145 (x_75, x_76, fm_77, x_74) rfl (show (rM fm_77) ∧ (0 ≤ x_75.toInt ∧ x_75.toInt ≤ en.toInt + 7 - 0) ∧ (tA.toInt ≤ x_75.toInt) ∧ ((fm_77 0).toInt = (fm 0).toInt) ∧ (zTgm fm fm_77) ∧ ((-1) = x_76 ∧ zTwR ft en.toInt tA.toInt (fm 3).toInt (fm 4).toInt (fm_77 3).toInt (fm_77 4).toInt ∧ zTwV ft en.toInt tA.toInt (zSm fm) (zSm fm_77) ∨ 0 ≤ x_76.toInt ∧ zTwB ft en.toInt tA.toInt (fm 3).toInt (fm 4).toInt x_76.toInt) from ⟨(by first | assumption | omega | exact Or.inl (by decide) | exact Or.inr (by omega) | decide), (by first | assumption | omega | exact Or.inl (by decide) | exact Or.inr (by omega) | decide), (by first | assumption | omega | exact Or.inl (by decide) | exact Or.inr (by omega) | decide), (by first | assumption | omega | exact Or.inl (by decide) | exact Or.inr (by omega) | decide), i87, zTd_xV i86 i88 (Or.inr (by omega))⟩) hP hD
          · skip
            have c96 : x_76.toInt = (-1) := zeq cb9 rfl (by decide)
            have n97 : (-1) ≤ x_76.toInt := Int.le_trans (Int.le_refl _) (Int.le_of_eq c96.symm)
            have n98 : x_76.toInt ≤ (-1) := Int.le_trans (Int.le_of_eq c96) (Int.le_refl _)
            obtain ⟨w99, w100, w101⟩ := zTd_A i86 (by omega) (by omega)
            have w102 : x_76 = -1 := (zm1 (by omega)).symm
            subst w102
            refine lv_aload_n hx hb dX12_read_35 rfl (lv_at hl 0 rfl) ?_
            refine mcallV' (g := g) (q0 := 0) (ci := 10) (As := []) (rest := []) St hK hT hA hP hD hS hl.1 [0] [] rfl rfl rfl (m_skipF l g o a th hi ac tp en x_75 (-1) 0 iD iO tU fm_77 fk fa fc ft ff fb fi hen (by first | assumption | omega | decide | exact Or.inl (by decide) | exact Or.inr (by decide)) (by decide)) (cwV 0 hts (zgL (zl4 k884 k885 k886 k839) k877) rfl rfl rfl (by decide +kernel) ⟨Nat.le_of_ble_eq_true rfl, Nat.le_of_ble_eq_true rfl⟩) rfl rfl rfl rfl (Nat.le_of_ble_eq_true rfl) dX12_read_36 ⟨(Nat.le_of_ble_eq_true rfl), (Nat.le_of_ble_eq_true rfl)⟩ (fun at2_103 H locs hq104 hP hD hS => ?_)
            replace hq104 : (0 ≤ at2_103.toInt ∧ at2_103.toInt ≤ en.toInt + 7 - (0 : Int32).toInt) ∧ (x_75.toInt ≤ at2_103.toInt) ∧ (zSk ft en.toInt x_75.toInt at2_103.toInt) := hq104
            have hP : va_P g.1 vwCl (List.flatten [bMo g o a th hi ac tp (-1) en at2_103 (-1) 0 iD iO tU fm_77 fk fa fc ft ff fb fi]) H := hP
            have hD : va_D A (List.flatten [bMo g o a th hi ac tp (-1) en at2_103 (-1) 0 iD iO tU fm_77 fk fa fc ft ff fb fi]) := hD
            refine W.widen (k := 0) (n := 0) (Nat.le_of_ble_eq_true rfl) (Nat.le_of_ble_eq_true rfl) ?_
            refine W.eq (g2 := F0 m 39 ls []) rfl ?_
            obtain ⟨hq104_0, hq104_1, hq104_2⟩ := hq104
            refine lv_iload_n hx hb dX12_read_39 rfl (lv_at hl 3 rfl) ?_
            refine lv_iload_n hx hb dX12_read_40 rfl (lv_at hl 1 rfl) ?_
            refine lv_if_eq (tgt := 49) hx hb dX12_read_41 (by decide) (fun _ => ?_) (fun c105 => absurd (by decide) c105)
            refine lv_bipush (v := 14) hx hb dX12_read_49 (by decide) ?_
            refine lv_icmp_ne (tgt := 65) hx hb dX12_read_51 (by decide) (fun cb9 => ?_) (fun cb9 => ?_)
            · skip
              have c106 : ¬ x_74.toInt = 14 := zne cb9 rfl (by decide)
              refine lv_iload_n hx hb dX12_read_65 rfl (lv_at hl 1 rfl) ?_
              refine lv_if_eq (tgt := 76) hx hb dX12_read_66 (by decide) (fun _ => ?_) (fun c107 => absurd (by decide) c107)
              refine lv_aload_n hx hb dX12_read_76 rfl (lv_at hl 0 rfl) ?_
              refine mcallV' (g := g) (q0 := 0) (ci := 10) (As := []) (rest := []) St hK hT hA hP hD hS hl.1 [0] [] rfl rfl rfl (m_townLineG l g o a th hi ac tp en at2_103 0 iD iO tU fm_77 fk fa fc ft ff fb fi rfm_77 hen hq104_0 (by decide)) (cwV 0 hts (zgL (zl4 k968 k969 k970 k839) k931) rfl rfl rfl (by decide +kernel) ⟨Nat.le_of_ble_eq_true rfl, Nat.le_of_ble_eq_true rfl⟩) rfl rfl rfl rfl (Nat.le_of_ble_eq_true rfl) dX12_read_77 ⟨(Nat.le_of_ble_eq_true rfl), (Nat.le_of_ble_eq_true rfl)⟩ (fun u_ H locs hq111 hP hD hS => ?_)
              obtain ⟨at2_108, fl2_109, fm2_110⟩ := u_
              replace hq111 : (rM fm2_110) ∧ (0 ≤ at2_108.toInt ∧ at2_108.toInt ≤ en.toInt + 7 - (0 : Int32).toInt) ∧ (at2_103.toInt ≤ at2_108.toInt) ∧ ((fm2_110 0).toInt = (fm_77 0).toInt) ∧ (zTgm fm_77 fm2_110) ∧ ((-1) = fl2_109 ∧ zTO (zTLine ft en.toInt (fm_77 3).toInt (fm_77 4).toInt (zbg ft en.toInt at2_103.toInt)) (zbg ft en.toInt at2_108.toInt) (fm_77 3).toInt (fm2_110 3).toInt (fm_77 4).toInt (fm2_110 4).toInt ∧ zTQ (zTLine ft en.toInt (fm_77 3).toInt (fm_77 4).toInt (zbg ft en.toInt at2_103.toInt)) ft (zbg ft en.toInt at2_108.toInt) (zSm fm_77) (zSm fm2_110) ∨ 0 ≤ fl2_109.toInt ∧ zTLine ft en.toInt (fm_77 3).toInt (fm_77 4).toInt (zbg ft en.toInt at2_103.toInt) (.bad fl2_109.toInt)) := hq111
              have hP : va_P g.1 vwCl (List.flatten [bMo g o a th hi ac tp (-1) en at2_108 fl2_109 0 iD iO tU fm2_110 fk fa fc ft ff fb fi]) H := hP
              have hD : va_D A (List.flatten [bMo g o a th hi ac tp (-1) en at2_108 fl2_109 0 iD iO tU fm2_110 fk fa fc ft ff fb fi]) := hD
              refine W.widen (k := 0) (n := 0) (Nat.le_of_ble_eq_true rfl) (Nat.le_of_ble_eq_true rfl) ?_
              refine W.eq (g2 := F0 m 80 ls []) rfl ?_
              obtain ⟨rfm2_110, hq111_1, hq111_2, hq111_3, hq111_4, hq111_5⟩ := hq111
              rcases hq111_5 with ⟨rfl, hq111_k, hq111_kc⟩ | ⟨hq111_k, hq111_km⟩
              · skip
                refine ziinc3 (n' := 1) (a' := 1) (b' := 17) (lv' := fun v9 => [(3, .int v9), (0, .ref o), (1, .int 0), (2, .int x_73)]) hx hb dX12_read_80 hl (k := 3) rfl (by decide) (fun _ => rfl) (zaddK (i := x_74.toInt) (j := 1) rfl (by decide) i79.1 i79.2 (Int.le_refl _) (Int.le_refl _) (by decide)) (fun x_112 ls hx_112 hl => ?_)
                refine lv_aload_n hx hb dX12_read_83 rfl (lv_at hl 1 rfl) ?_
                refine mcallV' (g := g) (q0 := 0) (ci := 10) (As := []) (rest := []) St hK hT hA hP hD hS hl.1 [0] [] rfl rfl rfl (m_skipF l g o a th hi ac tp en at2_108 (-1) 0 iD iO tU fm2_110 fk fa fc ft ff fb fi hen hq111_1 (by decide)) (cwV 0 hts (zgL (zl4 k884 k885 k886 k839) k877) rfl rfl rfl (by decide +kernel) ⟨Nat.le_of_ble_eq_true rfl, Nat.le_of_ble_eq_true rfl⟩) rfl rfl rfl rfl (Nat.le_of_ble_eq_true rfl) dX12_read_84 ⟨(Nat.le_of_ble_eq_true rfl), (Nat.le_of_ble_eq_true rfl)⟩ (fun at2_113 H locs hq114 hP hD hS => ?_)
                replace hq114 : (0 ≤ at2_113.toInt ∧ at2_113.toInt ≤ en.toInt + 7 - (0 : Int32).toInt) ∧ (at2_108.toInt ≤ at2_113.toInt) ∧ (zSk ft en.toInt at2_108.toInt at2_113.toInt) := hq114
                have hP : va_P g.1 vwCl (List.flatten [bMo g o a th hi ac tp (-1) en at2_113 (-1) 0 iD iO tU fm2_110 fk fa fc ft ff fb fi]) H := hP
                have hD : va_D A (List.flatten [bMo g o a th hi ac tp (-1) en at2_113 (-1) 0 iD iO tU fm2_110 fk fa fc ft ff fb fi]) := hD
                refine W.widen (k := 0) (n := 0) (Nat.le_of_ble_eq_true rfl) (Nat.le_of_ble_eq_true rfl) ?_
                refine W.eq (g2 := F0 m 87 ls []) rfl ?_
                obtain ⟨hq114_0, hq114_1, hq114_2⟩ := hq114
                refine lv_aload_n hx hb dX12_read_87 rfl (lv_at hl 1 rfl) ?_
                refine va_get (D := g.1) (ci := 10) (v := .int (-1)) (C := RX12) (T := TX12) (N := 20) hx hb hts izRX12 hown hK hP 0 rfl rfl 12 (by decide) (hts _ k820) (fun _ h9 => h9) rfl dX12_read_88 ?_
                refine lv_iconst (v := (-1)) hx hb dX12_read_91 (by decide) ?_
                refine lv_icmp_ne (tgt := 106) hx hb dX12_read_92 (by decide) (fun c115 => absurd (by decide) c115) (fun _ => ?_)
                refine lv_aload_n hx hb dX12_read_95 rfl (lv_at hl 1 rfl) ?_
                refine va_get (D := g.1) (ci := 10) (v := .int at2_113) (C := RX12) (T := TX12) (N := 20) hx hb hts izRX12 hown hK hP 0 rfl rfl 11 (by decide) (hts _ k878) (fun _ h9 => h9) rfl dX12_read_96 ?_
                refine lv_aload_n hx hb dX12_read_99 rfl (lv_at hl 1 rfl) ?_
                refine va_get (D := g.1) (ci := 10) (v := .int en) (C := RX12) (T := TX12) (N := 20) hx hb hts izRX12 hown hK hP 0 rfl rfl 10 (by decide) (hts _ k879) (fun _ h9 => h9) rfl dX12_read_100 ?_
                refine lv_icmp_ne (tgt := 111) hx hb dX12_read_103 (by decide) (fun cb9 => ?_) (fun cb9 => ?_)
                · skip
                  have c116 : ¬ at2_113.toInt = en.toInt := zne cb9 rfl rfl
                  refine lv_aload_n hx hb dX12_read_111 rfl (lv_at hl 1 rfl) ?_
                  refine lv_bipush (v := 59) hx hb dX12_read_112 (by decide) ?_
                  have hL59 : (59 : Int32).toInt = 59 := by decide
                  refine mcallV' (g := g) (q0 := 0) (ci := 10) (As := [.int 59]) (rest := []) St hK hT hA hP hD hS hl.1 [0] [] rfl rfl rfl (m_isSignF l g o a th hi ac tp en at2_113 (-1) 0 iD iO tU fm2_110 fk fa fc ft ff fb fi 59 hen hq114_0 (by decide) (by first | assumption | omega | decide | exact Or.inl (by decide) | exact Or.inr (by decide))) (cwV 1 hts (zgL (zl4 k938 k939 k940 k839) k883) rfl rfl rfl (by decide +kernel) ⟨Nat.le_of_ble_eq_true rfl, Nat.le_of_ble_eq_true rfl⟩) rfl rfl rfl rfl (Nat.le_of_ble_eq_true rfl) dX12_read_114 ⟨(Nat.le_of_ble_eq_true rfl), (Nat.le_of_ble_eq_true rfl)⟩ (fun u_ H locs hq119 hP hD hS => ?_)
                  obtain ⟨at2_117, q_118⟩ := u_
                  replace hq119 : (0 ≤ at2_117.toInt ∧ at2_117.toInt ≤ en.toInt + 7 - (0 : Int32).toInt) ∧ (at2_113.toInt ≤ at2_117.toInt) ∧ (zSk ft en.toInt at2_113.toInt at2_117.toInt) ∧ (q_118 = 1 ∧ zisS ft en.toInt at2_117.toInt (59 : Int32).toInt ∧ at2_117.toInt < en.toInt ∨ q_118 = 0 ∧ ¬ zisS ft en.toInt at2_117.toInt (59 : Int32).toInt) := hq119
                  have hP : va_P g.1 vwCl (List.flatten [bMo g o a th hi ac tp (-1) en at2_117 (-1) 0 iD iO tU fm2_110 fk fa fc ft ff fb fi]) H := hP
                  have hD : va_D A (List.flatten [bMo g o a th hi ac tp (-1) en at2_117 (-1) 0 iD iO tU fm2_110 fk fa fc ft ff fb fi]) := hD
                  refine W.widen (k := 0) (n := 0) (Nat.le_of_ble_eq_true rfl) (Nat.le_of_ble_eq_true rfl) ?_
                  refine W.eq (g2 := F0 m 117 ls [.int q_118]) rfl ?_
                  obtain ⟨hq119_0, hq119_1, hq119_2, hq119_3⟩ := hq119
                  rcases hq119_3 with ⟨rfl, hq119_k⟩ | ⟨rfl, hq119_k⟩
                  · skip
                    refine lv_if_eq (tgt := 133) hx hb dX12_read_117 (by decide) (fun c120 => absurd c120 (by decide)) (fun _ => ?_)
                    refine lv_aload_n hx hb dX12_read_120 rfl (lv_at hl 1 rfl) ?_
                    refine lv_dup hx hb dX12_read_121 rfl ?_
                    refine va_get (D := g.1) (ci := 10) (v := .int at2_117) (C := RX12) (T := TX12) (N := 20) hx hb hts izRX12 hown hK hP 0 rfl rfl 11 (by decide) (hts _ k878) (fun _ h9 => h9) rfl dX12_read_122 ?_
                    refine lv_iconst (v := 1) hx hb dX12_read_125 (by decide) ?_
                    refine lv_iadd hx hb dX12_read_126 ?_
                    refine zgv (zadd (i := at2_117.toInt) (j := 1) rfl (by decide) (by omega)) (fun x_121 hx_121 => ?_)
                    refine va_put (D := g.1) (ci := 10) (v := .int x_121) (ty := .int) (C := RX12) (T := TX12) (N := 20) hx hb hts izRX12 tyX12 tyX12_ok nmX12 hown hK hP hD hS 0 rfl rfl 11 (by decide) (hts _ k878) (fun _ h9 => h9) rfl (by decide +kernel) rfl rfl (Nat.le_of_ble_eq_true rfl) dX12_read_127 (fun H locs hP hD hS => ?_)
                    have hP : va_P g.1 vwCl (List.flatten [bMo g o a th hi ac tp (-1) en x_121 (-1) 0 iD iO tU fm2_110 fk fa fc ft ff fb fi]) H := hP
                    have hD : va_D A (List.flatten [bMo g o a th hi ac tp (-1) en x_121 (-1) 0 iD iO tU fm2_110 fk fa fc ft ff fb fi]) := hD
                    refine lv_goto (tgt := 23) hx hb dX12_read_130 (by decide) ?_
                    have hl := lv_sub (l' := [(0, .ref o), (1, .int 0), (2, .int x_73), (3, .int x_112)]) hl [1, 2, 3, 0] rfl
                    have hP : va_P g.1 vwCl (List.flatten [bMo g o a th hi ac tp (-1) en x_121 (-1) 0 iD iO tU fm2_110 fk fa fc ft ff fb fi]) H := hP
                    have hD : va_D A (List.flatten [bMo g o a th hi ac tp (-1) en x_121 (-1) 0 iD iO tU fm2_110 fk fa fc ft ff fb fi]) := hD
                    exact ih23_90 x_73 x_112 x_121 (-1) fm2_110 ⟨(Int.le_trans (by decide) n94), i78.2⟩ (by first | omega | assumption | decide) (by first | omega | assumption | decide) rfm2_110 (by first | omega | assumption | decide) (by first | omega | assumption | decide) (by first | omega | assumption | decide) (by first | omega | assumption | decide) (by first | omega | assumption | decide) (zTd_d (by omega) w99 w100 w101 hq104_2 hq111_k hq114_2 (by omega) hq119_2 hq119_k.1 (by decide) (by omega) (by decide) hx_112.1 (by omega)) (zTg_t i87 hq111_4) (zTdV_d i88 (by decide) (by omega) (by omega) w99 hq104_2 rfl rfl hq111_kc hq114_2 (by omega) hq119_2 hq119_k.1 (by decide) (by first | decide | omega) hx_112.1 (by omega)) H _ ls (by omega)  hP hD hS (lv_sub hl [0, 1, 2, 3] rfl)
                  · skip
                    refine lv_if_eq (tgt := 133) hx hb dX12_read_117 (by decide) (fun _ => ?_) (fun c122 => absurd (by decide) c122)
                    refine lv_aload_n hx hb dX12_read_133 rfl (lv_at hl 1 rfl) ?_
                    refine lv_aload_n hx hb dX12_read_134 rfl (lv_at hl 1 rfl) ?_
                    refine va_get (D := g.1) (ci := 10) (v := .int at2_117) (C := RX12) (T := TX12) (N := 20) hx hb hts izRX12 hown hK hP 0 rfl rfl 11 (by decide) (hts _ k878) (fun _ h9 => h9) rfl dX12_read_135 ?_
                    refine mcallV' (g := g) (q0 := 0) (ci := 10) (As := [.int at2_117]) (rest := []) St hK hT hA hP hD hS hl.1 [0] [] rfl rfl rfl (m_wrongF l g o a th hi ac tp (-1) en at2_117 0 iD iO tU fm2_110 fk fa fc ft ff fb fi at2_117 ) (cwV 1 hts (zgL (zl4 k895 k896 k897 k839) k890) rfl rfl rfl (by decide +kernel) ⟨Nat.le_of_ble_eq_true rfl, Nat.le_of_ble_eq_true rfl⟩) rfl rfl rfl rfl (Nat.le_of_ble_eq_true rfl) dX12_read_138 ⟨(Nat.le_of_ble_eq_true rfl), (Nat.le_of_ble_eq_true rfl)⟩ (fun _u H locs hq123 hP hD hS => ?_)
                    have hP : va_P g.1 vwCl (List.flatten [bMo g o a th hi ac tp (-1) en at2_117 at2_117 0 iD iO tU fm2_110 fk fa fc ft ff fb fi]) H := hP
                    have hD : va_D A (List.flatten [bMo g o a th hi ac tp (-1) en at2_117 at2_117 0 iD iO tU fm2_110 fk fa fc ft ff fb fi]) := hD
                    refine W.widen (k := 0) (n := 0) (Nat.le_of_ble_eq_true rfl) (Nat.le_of_ble_eq_true rfl) ?_
                    refine W.eq (g2 := F0 m 141 ls []) rfl ?_
                    refine lv_goto (tgt := 23) hx hb dX12_read_141 (by decide) ?_
                    have hl := lv_sub (l' := [(0, .ref o), (1, .int 0), (2, .int x_73), (3, .int x_112)]) hl [1, 2, 3, 0] rfl
                    have hP : va_P g.1 vwCl (List.flatten [bMo g o a th hi ac tp (-1) en at2_117 at2_117 0 iD iO tU fm2_110 fk fa fc ft ff fb fi]) H := hP
                    have hD : va_D A (List.flatten [bMo g o a th hi ac tp (-1) en at2_117 at2_117 0 iD iO tU fm2_110 fk fa fc ft ff fb fi]) := hD
                    exact ih23_90 x_73 x_112 at2_117 at2_117 fm2_110 ⟨(Int.le_trans (by decide) n94), i78.2⟩ (by first | omega | assumption | decide) (by first | omega | assumption | decide) rfm2_110 (by first | omega | assumption | decide) (by first | omega | assumption | decide) (by first | omega | assumption | decide) (by first | omega | assumption | decide) (by first | omega | assumption | decide) (zTd_e (by omega) w99 w100 w101 hq104_2 hq111_k hq114_2 (by omega) hq119_2 hq119_k (by decide) rfl) (zTg_t i87 hq111_4) (zTdV_x (by omega)) H _ ls (by omega)  hP hD hS (lv_sub hl [0, 1, 2, 3] rfl)
                · skip
                  have c124 : at2_113.toInt = en.toInt := zeq cb9 rfl rfl
                  have n125 : at2_113.toInt ≤ 400 := Int.le_trans (Int.le_of_eq c124) hen.2
                  refine lv_iconst (v := 0) hx hb dX12_read_106 (by decide) ?_
                  refine lv_istore_n (lv' := [(2, .int 0), (3, .int x_112), (0, .ref o), (1, .int 0)]) hx hb dX12_read_107 rfl hl (by decide) rfl (fun ls hl => ?_)
                  refine lv_goto (tgt := 23) hx hb dX12_read_108 (by decide) ?_
                  have hl := lv_sub (l' := [(0, .ref o), (1, .int 0), (2, .int 0), (3, .int x_112)]) hl [2, 3, 0, 1] rfl
                  have hLn1 : ((-1) : Int32).toInt = (-1) := by decide
                  have hP : va_P g.1 vwCl (List.flatten [bMo g o a th hi ac tp (-1) en at2_113 (-1) 0 iD iO tU fm2_110 fk fa fc ft ff fb fi]) H := hP
                  have hD : va_D A (List.flatten [bMo g o a th hi ac tp (-1) en at2_113 (-1) 0 iD iO tU fm2_110 fk fa fc ft ff fb fi]) := hD
                  exact ih23_90 0 x_112 at2_113 (-1) fm2_110 (by decide) (by first | omega | assumption | decide) (by first | omega | assumption | decide) rfm2_110 (by first | omega | assumption | decide) (by first | omega | assumption | decide) (by first | omega | assumption | decide) (by first | omega | assumption | decide) (by first | omega | assumption | decide) (zTd_c (by omega) w99 w100 w101 hq104_2 hq111_k hq114_2 (by omega) (by decide) (by decide) hx_112.1) (zTg_t i87 hq111_4) (zTdV_c i88 (by decide) (by omega) (by omega) w99 w100 hq104_2 rfl rfl hq111_kc hq114_2 (by omega) (by decide)) H _ ls (by omega)  hP hD hS (lv_sub hl [0, 1, 2, 3] rfl)
              · skip
                refine ziinc3 (n' := 1) (a' := 1) (b' := 17) (lv' := fun v9 => [(3, .int v9), (0, .ref o), (1, .int 0), (2, .int x_73)]) hx hb dX12_read_80 hl (k := 3) rfl (by decide) (fun _ => rfl) (zaddK (i := x_74.toInt) (j := 1) rfl (by decide) i79.1 i79.2 (Int.le_refl _) (Int.le_refl _) (by decide)) (fun x_126 ls hx_126 hl => ?_)
                refine lv_aload_n hx hb dX12_read_83 rfl (lv_at hl 1 rfl) ?_
                refine mcallV' (g := g) (q0 := 0) (ci := 10) (As := []) (rest := []) St hK hT hA hP hD hS hl.1 [0] [] rfl rfl rfl (m_skipF l g o a th hi ac tp en at2_108 fl2_109 0 iD iO tU fm2_110 fk fa fc ft ff fb fi hen hq111_1 (by decide)) (cwV 0 hts (zgL (zl4 k884 k885 k886 k839) k877) rfl rfl rfl (by decide +kernel) ⟨Nat.le_of_ble_eq_true rfl, Nat.le_of_ble_eq_true rfl⟩) rfl rfl rfl rfl (Nat.le_of_ble_eq_true rfl) dX12_read_84 ⟨(Nat.le_of_ble_eq_true rfl), (Nat.le_of_ble_eq_true rfl)⟩ (fun at2_127 H locs hq128 hP hD hS => ?_)
                replace hq128 : (0 ≤ at2_127.toInt ∧ at2_127.toInt ≤ en.toInt + 7 - (0 : Int32).toInt) ∧ (at2_108.toInt ≤ at2_127.toInt) ∧ (zSk ft en.toInt at2_108.toInt at2_127.toInt) := hq128
                have hP : va_P g.1 vwCl (List.flatten [bMo g o a th hi ac tp (-1) en at2_127 fl2_109 0 iD iO tU fm2_110 fk fa fc ft ff fb fi]) H := hP
                have hD : va_D A (List.flatten [bMo g o a th hi ac tp (-1) en at2_127 fl2_109 0 iD iO tU fm2_110 fk fa fc ft ff fb fi]) := hD
                refine W.widen (k := 0) (n := 0) (Nat.le_of_ble_eq_true rfl) (Nat.le_of_ble_eq_true rfl) ?_
                refine W.eq (g2 := F0 m 87 ls []) rfl ?_
                obtain ⟨hq128_0, hq128_1, hq128_2⟩ := hq128
                refine lv_aload_n hx hb dX12_read_87 rfl (lv_at hl 1 rfl) ?_
                refine va_get (D := g.1) (ci := 10) (v := .int fl2_109) (C := RX12) (T := TX12) (N := 20) hx hb hts izRX12 hown hK hP 0 rfl rfl 12 (by decide) (hts _ k820) (fun _ h9 => h9) rfl dX12_read_88 ?_
                refine lv_iconst (v := (-1)) hx hb dX12_read_91 (by decide) ?_
                refine lv_icmp_ne (tgt := 106) hx hb dX12_read_92 (by decide) (fun cb9 => ?_) (fun cb9 => ?_)
                · skip
                  have c129 : ¬ fl2_109.toInt = (-1) := zne cb9 rfl (by decide)
                  refine lv_iconst (v := 0) hx hb dX12_read_106 (by decide) ?_
                  refine lv_istore_n (lv' := [(2, .int 0), (3, .int x_126), (0, .ref o), (1, .int 0)]) hx hb dX12_read_107 rfl hl (by decide) rfl (fun ls hl => ?_)
                  refine lv_goto (tgt := 23) hx hb dX12_read_108 (by decide) ?_
                  have hl := lv_sub (l' := [(0, .ref o), (1, .int 0), (2, .int 0), (3, .int x_126)]) hl [2, 3, 0, 1] rfl
                  have hP : va_P g.1 vwCl (List.flatten [bMo g o a th hi ac tp (-1) en at2_127 fl2_109 0 iD iO tU fm2_110 fk fa fc ft ff fb fi]) H := hP
                  have hD : va_D A (List.flatten [bMo g o a th hi ac tp (-1) en at2_127 fl2_109 0 iD iO tU fm2_110 fk fa fc ft ff fb fi]) := hD
                  exact ih23_90 0 x_126 at2_127 fl2_109 fm2_110 (by decide) (by first | omega | assumption | decide) (by first | omega | assumption | decide) rfm2_110 (by first | omega | assumption | decide) (by first | omega | assumption | decide) (by first | omega | assumption | decide) (by first | omega | assumption | decide) (by first | omega | assumption | decide) (zTd_b (by omega) w99 w100 w101 hq104_2 hq111_km hq111_k) (zTg_t i87 hq111_4) (zTdV_x (by omega)) H _ ls (by omega)  hP hD hS (lv_sub hl [0, 1, 2, 3] rfl)
                · skip
                  exact absurd (show fl2_109.toInt = (-1) from zeq cb9 rfl (by decide)) (zDeq2 (a := 0) (b := (-1)) hq111_k (Int.le_refl _) (by decide))
            · skip
              have c131 : x_74.toInt = 14 := zeq cb9 rfl (by decide)
              have n132 : 14 ≤ x_74.toInt := Int.le_trans (Int.le_refl _) (Int.le_of_eq c131.symm)
              have n133 : x_74.toInt ≤ 14 := Int.le_trans (Int.le_of_eq c131) (Int.le_refl _)
              refine lv_aload_n hx hb dX12_read_54 rfl (lv_at hl 0 rfl) ?_
              refine lv_aload_n hx hb dX12_read_55 rfl (lv_at hl 0 rfl) ?_
              refine va_get (D := g.1) (ci := 10) (v := .int at2_103) (C := RX12) (T := TX12) (N := 20) hx hb hts izRX12 hown hK hP 0 rfl rfl 11 (by decide) (hts _ k878) (fun _ h9 => h9) rfl dX12_read_56 ?_
              refine mcallV' (g := g) (q0 := 0) (ci := 10) (As := [.int at2_103]) (rest := []) St hK hT hA hP hD hS hl.1 [0] [] rfl rfl rfl (m_wrongF l g o a th hi ac tp (-1) en at2_103 0 iD iO tU fm_77 fk fa fc ft ff fb fi at2_103 ) (cwV 1 hts (zgL (zl4 k895 k896 k897 k839) k890) rfl rfl rfl (by decide +kernel) ⟨Nat.le_of_ble_eq_true rfl, Nat.le_of_ble_eq_true rfl⟩) rfl rfl rfl rfl (Nat.le_of_ble_eq_true rfl) dX12_read_59 ⟨(Nat.le_of_ble_eq_true rfl), (Nat.le_of_ble_eq_true rfl)⟩ (fun _u H locs hq134 hP hD hS => ?_)
              have hP : va_P g.1 vwCl (List.flatten [bMo g o a th hi ac tp (-1) en at2_103 at2_103 0 iD iO tU fm_77 fk fa fc ft ff fb fi]) H := hP
              have hD : va_D A (List.flatten [bMo g o a th hi ac tp (-1) en at2_103 at2_103 0 iD iO tU fm_77 fk fa fc ft ff fb fi]) := hD
              refine W.widen (k := 0) (n := 0) (Nat.le_of_ble_eq_true rfl) (Nat.le_of_ble_eq_true rfl) ?_
              refine W.eq (g2 := F0 m 62 ls []) rfl ?_
              refine lv_goto (tgt := 80) hx hb dX12_read_62 (by decide) ?_
              refine ziinc3 (n' := 1) (a' := 15) (b' := 15) (lv' := fun v9 => [(3, .int v9), (0, .ref o), (1, .int 0), (2, .int x_73)]) hx hb dX12_read_80 hl (k := 3) rfl (by decide) (fun _ => rfl) (zaddK (i := x_74.toInt) (j := 1) rfl (by decide) n132 n133 (Int.le_refl _) (Int.le_refl _) (by decide)) (fun x_135 ls hx_135 hl => ?_)
              refine lv_aload_n hx hb dX12_read_83 rfl (lv_at hl 1 rfl) ?_
              refine mcallV' (g := g) (q0 := 0) (ci := 10) (As := []) (rest := []) St hK hT hA hP hD hS hl.1 [0] [] rfl rfl rfl (m_skipF l g o a th hi ac tp en at2_103 at2_103 0 iD iO tU fm_77 fk fa fc ft ff fb fi hen hq104_0 (by decide)) (cwV 0 hts (zgL (zl4 k884 k885 k886 k839) k877) rfl rfl rfl (by decide +kernel) ⟨Nat.le_of_ble_eq_true rfl, Nat.le_of_ble_eq_true rfl⟩) rfl rfl rfl rfl (Nat.le_of_ble_eq_true rfl) dX12_read_84 ⟨(Nat.le_of_ble_eq_true rfl), (Nat.le_of_ble_eq_true rfl)⟩ (fun at2_136 H locs hq137 hP hD hS => ?_)
              replace hq137 : (0 ≤ at2_136.toInt ∧ at2_136.toInt ≤ en.toInt + 7 - (0 : Int32).toInt) ∧ (at2_103.toInt ≤ at2_136.toInt) ∧ (zSk ft en.toInt at2_103.toInt at2_136.toInt) := hq137
              have hP : va_P g.1 vwCl (List.flatten [bMo g o a th hi ac tp (-1) en at2_136 at2_103 0 iD iO tU fm_77 fk fa fc ft ff fb fi]) H := hP
              have hD : va_D A (List.flatten [bMo g o a th hi ac tp (-1) en at2_136 at2_103 0 iD iO tU fm_77 fk fa fc ft ff fb fi]) := hD
              refine W.widen (k := 0) (n := 0) (Nat.le_of_ble_eq_true rfl) (Nat.le_of_ble_eq_true rfl) ?_
              refine W.eq (g2 := F0 m 87 ls []) rfl ?_
              obtain ⟨hq137_0, hq137_1, hq137_2⟩ := hq137
              refine lv_aload_n hx hb dX12_read_87 rfl (lv_at hl 1 rfl) ?_
              refine va_get (D := g.1) (ci := 10) (v := .int at2_103) (C := RX12) (T := TX12) (N := 20) hx hb hts izRX12 hown hK hP 0 rfl rfl 12 (by decide) (hts _ k820) (fun _ h9 => h9) rfl dX12_read_88 ?_
              refine lv_iconst (v := (-1)) hx hb dX12_read_91 (by decide) ?_
              refine lv_icmp_ne (tgt := 106) hx hb dX12_read_92 (by decide) (fun cb9 => ?_) (fun cb9 => ?_)
              · skip
                have c138 : ¬ at2_103.toInt = (-1) := zne cb9 rfl (by decide)
                refine lv_iconst (v := 0) hx hb dX12_read_106 (by decide) ?_
                refine lv_istore_n (lv' := [(2, .int 0), (3, .int x_135), (0, .ref o), (1, .int 0)]) hx hb dX12_read_107 rfl hl (by decide) rfl (fun ls hl => ?_)
                refine lv_goto (tgt := 23) hx hb dX12_read_108 (by decide) ?_
                have hl := lv_sub (l' := [(0, .ref o), (1, .int 0), (2, .int 0), (3, .int x_135)]) hl [2, 3, 0, 1] rfl
                have hP : va_P g.1 vwCl (List.flatten [bMo g o a th hi ac tp (-1) en at2_136 at2_103 0 iD iO tU fm_77 fk fa fc ft ff fb fi]) H := hP
                have hD : va_D A (List.flatten [bMo g o a th hi ac tp (-1) en at2_136 at2_103 0 iD iO tU fm_77 fk fa fc ft ff fb fi]) := hD
                exact ih23_90 0 x_135 at2_136 at2_103 fm_77 (by decide) ⟨(Int.le_trans (by decide) hx_135.2.1), (Int.le_trans hx_135.2.2 (by decide))⟩ (by first | omega | assumption | decide) rfm_77 (by first | omega | assumption | decide) (by first | omega | assumption | decide) (by first | omega | assumption | decide) (by first | omega | assumption | decide) i85 (zTd_a (by omega) w100 w101 hq104_2 rfl) i87 (zTdV_x (by omega)) H _ ls (by omega)  hP hD hS (lv_sub hl [0, 1, 2, 3] rfl)
              · skip
                exact absurd (show at2_103.toInt = (-1) from zeq cb9 rfl (by decide)) (by omega)
    have hL1 : (1 : Int32).toInt = 1 := by decide
    have hLn1 : ((-1) : Int32).toInt = (-1) := by decide
    have hP : va_P g.1 vwCl (List.flatten [bMo g o a th hi ac tp (-1) en at2_1 (-1) 0 iD iO tU fm fk fa fc ft ff fb fi]) H := hP
    have hD : va_D A (List.flatten [bMo g o a th hi ac tp (-1) en at2_1 (-1) 0 iD iO tU fm fk fa fc ft ff fb fi]) := hD
    exact LP23_89 _ 1 0 at2_1 (-1) fm (by decide) (by decide) (by first | omega | assumption | decide) rfm (by first | omega | assumption | decide) hq2_1 (by first | omega | assumption | decide) (by first | omega | assumption | decide) (by first | omega | assumption | decide) (zTd_i1 (by decide) (by decide) (by decide) hq2_2 (by omega) rfl rfl) (zTg_r _) (zTdV_i1 (by decide) (by decide) hq2_2) H _ ls (Nat.lt_succ_self _)  hP hD hS (lv_sub hl [0, 1, 2, 3] rfl)
