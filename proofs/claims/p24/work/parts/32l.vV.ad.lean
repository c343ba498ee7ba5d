set_option maxRecDepth 100000 in
set_option maxHeartbeats 4000000 in
theorem m_readV (l : Launch) (g : zG) (o : Nat) (a : Nat → Nat) (th : Int32) (hi : Int32) (ac : Int32) (tp : Int32) (en : Int32) (tA : Int32) (iD : Int32) (iO : Int32) (tU : Int32) (fm : Nat → Int32) (fk : Nat → Int32) (fa : Nat → Int32) (fc : Nat → Int32) (ft : Nat → Int32) (ff : Nat → Int32) (fb : Nat → Int32) (fi : Nat → Int32) (tx : Nat → Int32) (ev : Nat → Int32) (v9 : Int32) (hen : 0 ≤ en.toInt ∧ en.toInt ≤ 400) (htA : 0 ≤ tA.toInt ∧ tA.toInt ≤ en.toInt + 7 - 0) (hde : 0 ≤ 0 ∧ 0 ≤ 6) (hff : ∀ k9 : Nat, k9 < 6 → ff k9 = ev k9) (hdr : iD = zBi (zNz (ev 6))) (how : iO = zBi (zNz (ev 7))) (hw9 : (en.toInt ≤ zbg tx en.toInt tA.toInt ∧ v9 = tU) ∨ (¬ en.toInt ≤ zbg tx en.toInt tA.toInt ∧ zLsN tx en.toInt ev 12 (zbg tx en.toInt tA.toInt) tU v9)) (htx : ∀ k9 : Nat, (k9 : Int) < en.toInt → fm (379 + k9) = tx k9) : zM' g l yX12_read (Cond.code yX12_read cX12_read 4 (some .int) :: zB) ({ frames := 30, cells := 0, slots := 0, locals := 665 } : Room) [.ref o, .int 1] [bMo g o a th hi ac tp 379 en tA (-1) 0 iD iO tU fm fk fa fc ft ff fb fi] (fun u : Int32 × Int32 × Int32 => (fun (at2 : Int32) (tU2 : Int32) (q : Int32) => some (.int q)) (u.1) (u.2.1) (u.2.2)) (fun u : Int32 × Int32 × Int32 => (fun (at2 : Int32) (tU2 : Int32) (q : Int32) => (0 ≤ at2.toInt ∧ at2.toInt ≤ en.toInt + 7 - 0) ∧ (tA.toInt ≤ at2.toInt) ∧ (tU2 = v9)) (u.1) (u.2.1) (u.2.2)) (fun u : Int32 × Int32 × Int32 => (fun (at2 : Int32) (tU2 : Int32) (q : Int32) => [bMo g o a th hi ac tp 379 en at2 (-1) 0 iD iO tU2 fm fk fa fc ft ff fb fi]) (u.1) (u.2.1) (u.2.2)) := by
  refine zM'.of (cc := cX12_read) (maxL := 4) (rt := (some .int)) (by decide) rfl (Nat.le_of_ble_eq_true rfl) ?_
  intro p e s m args below meth c A ls St hr hlocks hin hK hT hA hP hD hS hl
  obtain ⟨hx, hb, hml, hown, hts⟩ := id St
  have hl : lv_has ls 4 [(0, .ref o), (1, .int 1)] := hl
  refine lv_aload_n hx hb dX12_read_0 rfl (lv_at hl 0 rfl) ?_
  have hL0 : (0 : Int32).toInt = 0 := by decide
  refine mcallV' (g := g) (q0 := 0) (ci := 10) (As := []) (rest := []) St hK hT hA hP hD hS hl.1 [0] [] rfl rfl rfl (m_skipH l g o a th hi ac tp en tA (-1) 0 iD iO tU fm fk fa fc ft ff fb fi tx hen (by first | assumption | omega | decide | exact Or.inl (by decide) | exact Or.inr (by decide)) (by decide) htx) (cwV 0 hts (zgL (zl4 k884 k885 k886 k839) k877) rfl rfl rfl (by decide +kernel) ⟨Nat.le_of_ble_eq_true rfl, Nat.le_of_ble_eq_true rfl⟩) rfl rfl rfl rfl (Nat.le_of_ble_eq_true rfl) dX12_read_1 ⟨(Nat.le_of_ble_eq_true rfl), (Nat.le_of_ble_eq_true rfl)⟩ (fun at2_1 H locs hq2 hP hD hS => ?_)
  replace hq2 : (0 ≤ at2_1.toInt ∧ at2_1.toInt ≤ en.toInt + 7 - (0 : Int32).toInt) ∧ (tA.toInt ≤ at2_1.toInt) ∧ (zSk tx en.toInt tA.toInt at2_1.toInt) := hq2
  have hP : va_P g.1 vwCl (List.flatten [bMo g o a th hi ac tp 379 en at2_1 (-1) 0 iD iO tU fm fk fa fc ft ff fb fi]) H := hP
  have hD : va_D A (List.flatten [bMo g o a th hi ac tp 379 en at2_1 (-1) 0 iD iO tU fm fk fa fc ft ff fb fi]) := hD
  refine W.widen (k := 0) (n := 0) (Nat.le_of_ble_eq_true rfl) (Nat.le_of_ble_eq_true rfl) ?_
  refine W.eq (g2 := F0 m 4 ls []) rfl ?_
  obtain ⟨hq2_0, hq2_1, hq2_2⟩ := hq2
  refine lv_aload_n hx hb dX12_read_4 rfl (lv_at hl 0 rfl) ?_
  refine va_get (D := g.1) (ci := 10) (v := .int at2_1) (C := RX12) (T := TX12) (N := 20) hx hb hts izRX12 hown hK hP 0 rfl rfl 11 (by decide) (hts _ k878) (fun _ h9 => h9) rfl dX12_read_5 ?_
  refine lv_aload_n hx hb dX12_read_8 rfl (lv_at hl 0 rfl) ?_
  refine va_get (D := g.1) (ci := 10) (v := .int en) (C := RX12) (T := TX12) (N := 20) hx hb hts izRX12 hown hK hP 0 rfl rfl 10 (by decide) (hts _ k879) (fun _ h9 => h9) rfl dX12_read_9 ?_
  refine lv_icmp_ge (tgt := 19) hx hb dX12_read_12 (by decide) (fun cb9 => ?_) (fun cb9 => ?_)
  · skip
    have c3 : en.toInt ≤ at2_1.toInt := zle cb9 rfl rfl
    refine lv_iconst (v := 0) hx hb dX12_read_19 (by decide) ?_
    refine lv_istore_n (lv' := [(2, .int 0), (0, .ref o), (1, .int 1)]) hx hb dX12_read_20 rfl hl (by decide) rfl (fun ls hl => ?_)
    refine lv_iconst (v := 0) hx hb dX12_read_21 (by decide) ?_
    refine lv_istore_n (lv' := [(3, .int 0), (2, .int 0), (0, .ref o), (1, .int 1)]) hx hb dX12_read_22 rfl hl (by decide) rfl (fun ls hl => ?_)
    have hl := lv_sub (l' := [(0, .ref o), (1, .int 1), (2, .int 0), (3, .int 0)]) hl [2, 3, 1, 0] rfl
    have LP23_14 : ∀ (kf : Nat) (x_4 : Int32) (x_5 : Int32) (x_6 : Int32) (x_7 : Int32), (0 ≤ x_4.toInt ∧ x_4.toInt ≤ 1) → (0 ≤ x_5.toInt ∧ x_5.toInt ≤ 12) → (0 ≤ x_6.toInt ∧ x_6.toInt ≤ 408) → (tA.toInt ≤ x_6.toInt) → (x_6.toInt ≤ en.toInt + 7 - 0) → (zRv tx en.toInt ev x_4.toInt x_5.toInt x_6.toInt x_7 v9) → ∀ (H : Heap) (locs : List Loc) (ls : Array Slot), ((13 - x_5.toInt).toNat) < kf → va_P g.1 vwCl (List.flatten [bMo g o a th hi ac tp 379 en x_6 (-1) 0 iD iO x_7 fm fk fa fc ft ff fb fi]) H → va_D A (List.flatten [bMo g o a th hi ac tp 379 en x_6 (-1) 0 iD iO x_7 fm fk fa fc ft ff fb fi]) → va_S A s.heap H locs → lv_has ls 4 [(0, .ref o), (1, .int 1), (2, .int x_4), (3, .int x_5)] → W p l e ({ frames := 30, cells := 0, slots := 0, locals := 665 } : Room) s m args below meth c H locs (0) (0) (zF g (fun u : Int32 × Int32 × Int32 => (fun (at2 : Int32) (tU2 : Int32) (q : Int32) => some (.int q)) (u.1) (u.2.1) (u.2.2)) (fun u : Int32 × Int32 × Int32 => (fun (at2 : Int32) (tU2 : Int32) (q : Int32) => (0 ≤ at2.toInt ∧ at2.toInt ≤ en.toInt + 7 - 0) ∧ (tA.toInt ≤ at2.toInt) ∧ (tU2 = v9)) (u.1) (u.2.1) (u.2.2)) (fun u : Int32 × Int32 × Int32 => (fun (at2 : Int32) (tU2 : Int32) (q : Int32) => [bMo g o a th hi ac tp 379 en at2 (-1) 0 iD iO tU2 fm fk fa fc ft ff fb fi]) (u.1) (u.2.1) (u.2.2)) ({ frames := 30, cells := 0, slots := 0, locals := 665 } : Room) below args s A) (F0 m 23 ls []) := by
      intro kf
      induction kf with
      | zero => intro x_4 x_5 x_6 x_7 i8 i9 i10 i11 i12 i13 H locs ls hk; exact absurd hk (Nat.not_lt_zero _)
      | succ kf ih23_15 =>
        intro x_4 x_5 x_6 x_7 i8 i9 i10 i11 i12 i13 H locs ls hk23_15 hP hD hS hl
        refine lv_iload_n hx hb dX12_read_23 rfl (lv_at hl 2 rfl) ?_
        refine lv_if_eq (tgt := 144) hx hb dX12_read_24 (by decide) (fun cb9 => ?_) (fun cb9 => ?_)
        · skip
          have c16 : x_4.toInt = 0 := zeq cb9 rfl (by decide)
          have n17 : x_4.toInt ≤ 0 := Int.le_trans (Int.le_of_eq c16) (Int.le_refl _)
          refine lv_iload_n hx hb dX12_read_144 rfl (lv_at hl 3 rfl) ?_
          have hP : va_P g.1 vwCl (List.flatten [bMo g o a th hi ac tp 379 en x_6 (-1) 0 iD iO x_7 fm fk fa fc ft ff fb fi]) H := hP
          have hD : va_D A (List.flatten [bMo g o a th hi ac tp 379 en x_6 (-1) 0 iD iO x_7 fm fk fa fc ft ff fb fi]) := hD
          exact mret_i hx hb hr hlocks hS (Nat.le_of_ble_eq_true rfl) (Nat.le_of_ble_eq_true rfl) dX12_read_145 (x_6, x_7, x_5) rfl (show (0 ≤ x_6.toInt ∧ x_6.toInt ≤ en.toInt + 7 - 0) ∧ (tA.toInt ≤ x_6.toInt) ∧ (x_7 = v9) from ⟨(by first | assumption | omega | decide), (by first | assumption | omega | decide), zRv_0 i13 (by omega)⟩) hP hD
        · skip
          have c18 : ¬ x_4.toInt = 0 := zne cb9 rfl (by decide)
          have n19 : 1 ≤ x_4.toInt := zN1 c18 i8.1 (by decide)
          refine lv_aload_n hx hb dX12_read_27 rfl (lv_at hl 0 rfl) ?_
          refine va_get (D := g.1) (ci := 10) (v := .int (-1)) (C := RX12) (T := TX12) (N := 20) hx hb hts izRX12 hown hK hP 0 rfl rfl 12 (by decide) (hts _ k820) (fun _ h9 => h9) rfl dX12_read_28 ?_
          refine lv_iconst (v := (-1)) hx hb dX12_read_31 (by decide) ?_
          refine lv_icmp_ne (tgt := 144) hx hb dX12_read_32 (by decide) (fun c20 => absurd (by decide) c20) (fun _ => ?_)
          refine lv_aload_n hx hb dX12_read_35 rfl (lv_at hl 0 rfl) ?_
          obtain ⟨h21, h22⟩ := zRv_1 i13 (by omega)
          obtain ⟨k23, p24, t25, e26, h27, h28⟩ := zLs_i h22
          have hPn := zLvt_le h27
          refine mcallV' (g := g) (q0 := 0) (ci := 10) (As := []) (rest := []) St hK hT hA hP hD hS hl.1 [0] [] rfl rfl rfl (m_skipH l g o a th hi ac tp en x_6 (-1) 0 iD iO x_7 fm fk fa fc ft ff fb fi tx hen (by first | assumption | omega | decide | exact Or.inl (by decide) | exact Or.inr (by decide)) (by decide) htx) (cwV 0 hts (zgL (zl4 k884 k885 k886 k839) k877) rfl rfl rfl (by decide +kernel) ⟨Nat.le_of_ble_eq_true rfl, Nat.le_of_ble_eq_true rfl⟩) rfl rfl rfl rfl (Nat.le_of_ble_eq_true rfl) dX12_read_36 ⟨(Nat.le_of_ble_eq_true rfl), (Nat.le_of_ble_eq_true rfl)⟩ (fun at2_29 H locs hq30 hP hD hS => ?_)
          replace hq30 : (0 ≤ at2_29.toInt ∧ at2_29.toInt ≤ en.toInt + 7 - (0 : Int32).toInt) ∧ (x_6.toInt ≤ at2_29.toInt) ∧ (zSk tx en.toInt x_6.toInt at2_29.toInt) := hq30
          have hP : va_P g.1 vwCl (List.flatten [bMo g o a th hi ac tp 379 en at2_29 (-1) 0 iD iO x_7 fm fk fa fc ft ff fb fi]) H := hP
          have hD : va_D A (List.flatten [bMo g o a th hi ac tp 379 en at2_29 (-1) 0 iD iO x_7 fm fk fa fc ft ff fb fi]) := hD
          refine W.widen (k := 0) (n := 0) (Nat.le_of_ble_eq_true rfl) (Nat.le_of_ble_eq_true rfl) ?_
          refine W.eq (g2 := F0 m 39 ls []) rfl ?_
          obtain ⟨hq30_0, hq30_1, hq30_2⟩ := hq30
          refine lv_iload_n hx hb dX12_read_39 rfl (lv_at hl 3 rfl) ?_
          refine lv_iload_n hx hb dX12_read_40 rfl (lv_at hl 1 rfl) ?_
          refine lv_if_eq (tgt := 49) hx hb dX12_read_41 (by decide) (fun c31 => absurd c31 (by decide)) (fun _ => ?_)
          refine lv_bipush (v := 12) hx hb dX12_read_44 (by decide) ?_
          refine lv_goto (tgt := 51) hx hb dX12_read_46 (by decide) ?_
          refine lv_icmp_ne (tgt := 65) hx hb dX12_read_51 (by decide) (fun cb9 => ?_) (fun cb9 => ?_)
          · skip
            have c32 : ¬ x_5.toInt = 12 := zne cb9 rfl (by decide)
            have n33 : x_5.toInt ≤ 11 := zN2 c32 i9.2 (by decide)
            refine lv_iload_n hx hb dX12_read_65 rfl (lv_at hl 1 rfl) ?_
            refine lv_if_eq (tgt := 76) hx hb dX12_read_66 (by decide) (fun c34 => absurd c34 (by decide)) (fun _ => ?_)
            have h27 := zLvt_b h27 (zbs hq30_2)
            refine lv_aload_n hx hb dX12_read_69 rfl (lv_at hl 0 rfl) ?_
            refine mcallV' (g := g) (q0 := 0) (ci := 10) (As := []) (rest := []) St hK hT hA hP hD hS hl.1 [0] [] rfl rfl rfl (m_lawLineV l g o a th hi ac tp en at2_29 iD iO x_7 fm fk fa fc ft ff fb fi tx ev p24 t25 hen (by first | assumption | omega | decide | exact Or.inl (by decide) | exact Or.inr (by decide)) hde hff hdr how (by first | assumption | omega | decide | exact Or.inl (by decide) | exact Or.inr (by decide)) htx) (cwV 0 hts (zgL (zl4 k965 k966 k967 k839) k964) rfl rfl rfl (by decide +kernel) ⟨Nat.le_of_ble_eq_true rfl, Nat.le_of_ble_eq_true rfl⟩) rfl rfl rfl rfl (Nat.le_of_ble_eq_true rfl) dX12_read_70 ⟨(Nat.le_of_ble_eq_true rfl), (Nat.le_of_ble_eq_true rfl)⟩ (fun u_ H locs hq37 hP hD hS => ?_)
            obtain ⟨at2_35, tU2_36⟩ := u_
            replace hq37 : (0 ≤ at2_35.toInt ∧ at2_35.toInt ≤ en.toInt + 7 - 0) ∧ (at2_29.toInt ≤ at2_35.toInt) ∧ (zbg tx en.toInt at2_35.toInt = p24) ∧ (tU2_36 = t25) := hq37
            have hP : va_P g.1 vwCl (List.flatten [bMo g o a th hi ac tp 379 en at2_35 (-1) 0 iD iO tU2_36 fm fk fa fc ft ff fb fi]) H := hP
            have hD : va_D A (List.flatten [bMo g o a th hi ac tp 379 en at2_35 (-1) 0 iD iO tU2_36 fm fk fa fc ft ff fb fi]) := hD
            refine W.widen (k := 0) (n := 0) (Nat.le_of_ble_eq_true rfl) (Nat.le_of_ble_eq_true rfl) ?_
            refine W.eq (g2 := F0 m 73 ls []) rfl ?_
            obtain ⟨hq37_0, hq37_1, hq37_2, hq37_3⟩ := hq37
            refine lv_goto (tgt := 80) hx hb dX12_read_73 (by decide) ?_
            refine ziinc3 (n' := 1) (a' := 1) (b' := 12) (lv' := fun v9 => [(3, .int v9), (0, .ref o), (1, .int 1), (2, .int x_4)]) hx hb dX12_read_80 hl (k := 3) rfl (by decide) (fun _ => rfl) (zaddK (i := x_5.toInt) (j := 1) rfl (by decide) i9.1 n33 (Int.le_refl _) (Int.le_refl _) (by decide)) (fun x_38 ls hx_38 hl => ?_)
            refine lv_aload_n hx hb dX12_read_83 rfl (lv_at hl 1 rfl) ?_
            refine mcallV' (g := g) (q0 := 0) (ci := 10) (As := []) (rest := []) St hK hT hA hP hD hS hl.1 [0] [] rfl rfl rfl (m_skipH l g o a th hi ac tp en at2_35 (-1) 0 iD iO tU2_36 fm fk fa fc ft ff fb fi tx hen (by first | assumption | omega | decide | exact Or.inl (by decide) | exact Or.inr (by decide)) (by decide) htx) (cwV 0 hts (zgL (zl4 k884 k885 k886 k839) k877) rfl rfl rfl (by decide +kernel) ⟨Nat.le_of_ble_eq_true rfl, Nat.le_of_ble_eq_true rfl⟩) rfl rfl rfl rfl (Nat.le_of_ble_eq_true rfl) dX12_read_84 ⟨(Nat.le_of_ble_eq_true rfl), (Nat.le_of_ble_eq_true rfl)⟩ (fun at2_39 H locs hq40 hP hD hS => ?_)
            replace hq40 : (0 ≤ at2_39.toInt ∧ at2_39.toInt ≤ en.toInt + 7 - (0 : Int32).toInt) ∧ (at2_35.toInt ≤ at2_39.toInt) ∧ (zSk tx en.toInt at2_35.toInt at2_39.toInt) := hq40
            have hP : va_P g.1 vwCl (List.flatten [bMo g o a th hi ac tp 379 en at2_39 (-1) 0 iD iO tU2_36 fm fk fa fc ft ff fb fi]) H := hP
            have hD : va_D A (List.flatten [bMo g o a th hi ac tp 379 en at2_39 (-1) 0 iD iO tU2_36 fm fk fa fc ft ff fb fi]) := hD
            refine W.widen (k := 0) (n := 0) (Nat.le_of_ble_eq_true rfl) (Nat.le_of_ble_eq_true rfl) ?_
            refine W.eq (g2 := F0 m 87 ls []) rfl ?_
            obtain ⟨hq40_0, hq40_1, hq40_2⟩ := hq40
            have hP9 : at2_39.toInt = p24 := (show at2_39.toInt = _ from hq40_2).trans hq37_2
            refine lv_aload_n hx hb dX12_read_87 rfl (lv_at hl 1 rfl) ?_
            refine va_get (D := g.1) (ci := 10) (v := .int (-1)) (C := RX12) (T := TX12) (N := 20) hx hb hts izRX12 hown hK hP 0 rfl rfl 12 (by decide) (hts _ k820) (fun _ h9 => h9) rfl dX12_read_88 ?_
            refine lv_iconst (v := (-1)) hx hb dX12_read_91 (by decide) ?_
            refine lv_icmp_ne (tgt := 106) hx hb dX12_read_92 (by decide) (fun c41 => absurd (by decide) c41) (fun _ => ?_)
            refine lv_aload_n hx hb dX12_read_95 rfl (lv_at hl 1 rfl) ?_
            refine va_get (D := g.1) (ci := 10) (v := .int at2_39) (C := RX12) (T := TX12) (N := 20) hx hb hts izRX12 hown hK hP 0 rfl rfl 11 (by decide) (hts _ k878) (fun _ h9 => h9) rfl dX12_read_96 ?_
            refine lv_aload_n hx hb dX12_read_99 rfl (lv_at hl 1 rfl) ?_
            refine va_get (D := g.1) (ci := 10) (v := .int en) (C := RX12) (T := TX12) (N := 20) hx hb hts izRX12 hown hK hP 0 rfl rfl 10 (by decide) (hts _ k879) (fun _ h9 => h9) rfl dX12_read_100 ?_
            refine lv_icmp_ne (tgt := 111) hx hb dX12_read_103 (by decide) (fun cb9 => ?_) (fun cb9 => ?_)
            · skip
              have c42 : ¬ at2_39.toInt = en.toInt := zne cb9 rfl rfl
              refine lv_aload_n hx hb dX12_read_111 rfl (lv_at hl 1 rfl) ?_
              refine lv_bipush (v := 59) hx hb dX12_read_112 (by decide) ?_
              have hL59 : (59 : Int32).toInt = 59 := by decide
              refine mcallV' (g := g) (q0 := 0) (ci := 10) (As := [.int 59]) (rest := []) St hK hT hA hP hD hS hl.1 [0] [] rfl rfl rfl (m_isSignH l g o a th hi ac tp en at2_39 (-1) 0 iD iO tU2_36 fm fk fa fc ft ff fb fi 59 tx hen hq40_0 (by decide) (by first | assumption | omega | decide | exact Or.inl (by decide) | exact Or.inr (by decide)) htx) (cwV 1 hts (zgL (zl4 k938 k939 k940 k839) k883) rfl rfl rfl (by decide +kernel) ⟨Nat.le_of_ble_eq_true rfl, Nat.le_of_ble_eq_true rfl⟩) rfl rfl rfl rfl (Nat.le_of_ble_eq_true rfl) dX12_read_114 ⟨(Nat.le_of_ble_eq_true rfl), (Nat.le_of_ble_eq_true rfl)⟩ (fun u_ H locs hq45 hP hD hS => ?_)
              obtain ⟨at2_43, q_44⟩ := u_
              replace hq45 : (0 ≤ at2_43.toInt ∧ at2_43.toInt ≤ en.toInt + 7 - (0 : Int32).toInt) ∧ (at2_39.toInt ≤ at2_43.toInt) ∧ (zSk tx en.toInt at2_39.toInt at2_43.toInt) ∧ (q_44 = 1 ∧ zisS tx en.toInt at2_43.toInt (59 : Int32).toInt ∧ at2_43.toInt < en.toInt ∨ q_44 = 0 ∧ ¬ zisS tx en.toInt at2_43.toInt (59 : Int32).toInt) := hq45
              have hP : va_P g.1 vwCl (List.flatten [bMo g o a th hi ac tp 379 en at2_43 (-1) 0 iD iO tU2_36 fm fk fa fc ft ff fb fi]) H := hP
              have hD : va_D A (List.flatten [bMo g o a th hi ac tp 379 en at2_43 (-1) 0 iD iO tU2_36 fm fk fa fc ft ff fb fi]) := hD
              refine W.widen (k := 0) (n := 0) (Nat.le_of_ble_eq_true rfl) (Nat.le_of_ble_eq_true rfl) ?_
              refine W.eq (g2 := F0 m 117 ls [.int q_44]) rfl ?_
              obtain ⟨hq45_0, hq45_1, hq45_2, hq45_3⟩ := hq45
              rcases hq45_3 with ⟨rfl, hq45_k⟩ | ⟨rfl, hq45_k⟩
              · skip
                refine lv_if_eq (tgt := 133) hx hb dX12_read_117 (by decide) (fun c46 => absurd c46 (by decide)) (fun _ => ?_)
                refine lv_aload_n hx hb dX12_read_120 rfl (lv_at hl 1 rfl) ?_
                refine lv_dup hx hb dX12_read_121 rfl ?_
                refine va_get (D := g.1) (ci := 10) (v := .int at2_43) (C := RX12) (T := TX12) (N := 20) hx hb hts izRX12 hown hK hP 0 rfl rfl 11 (by decide) (hts _ k878) (fun _ h9 => h9) rfl dX12_read_122 ?_
                refine lv_iconst (v := 1) hx hb dX12_read_125 (by decide) ?_
                refine lv_iadd hx hb dX12_read_126 ?_
                refine zgv (zadd (i := at2_43.toInt) (j := 1) rfl (by decide) (by omega)) (fun x_47 hx_47 => ?_)
                refine va_put (D := g.1) (ci := 10) (v := .int x_47) (ty := .int) (C := RX12) (T := TX12) (N := 20) hx hb hts izRX12 tyX12 tyX12_ok nmX12 hown hK hP hD hS 0 rfl rfl 11 (by decide) (hts _ k878) (fun _ h9 => h9) rfl (by decide +kernel) rfl rfl (Nat.le_of_ble_eq_true rfl) dX12_read_127 (fun H locs hP hD hS => ?_)
                have hP : va_P g.1 vwCl (List.flatten [bMo g o a th hi ac tp 379 en x_47 (-1) 0 iD iO tU2_36 fm fk fa fc ft ff fb fi]) H := hP
                have hD : va_D A (List.flatten [bMo g o a th hi ac tp 379 en x_47 (-1) 0 iD iO tU2_36 fm fk fa fc ft ff fb fi]) := hD
                refine lv_goto (tgt := 23) hx hb dX12_read_130 (by decide) ?_
                have hl := lv_sub (l' := [(0, .ref o), (1, .int 1), (2, .int x_4), (3, .int x_38)]) hl [1, 2, 3, 0] rfl
                have hP : va_P g.1 vwCl (List.flatten [bMo g o a th hi ac tp 379 en x_47 (-1) 0 iD iO tU2_36 fm fk fa fc ft ff fb fi]) H := hP
                have hD : va_D A (List.flatten [bMo g o a th hi ac tp 379 en x_47 (-1) 0 iD iO tU2_36 fm fk fa fc ft ff fb fi]) := hD
                exact ih23_15 x_4 x_38 x_47 tU2_36 ⟨(Int.le_trans (by decide) n19), i8.2⟩ ⟨(Int.le_trans (by decide) hx_38.2.1), hx_38.2.2⟩ (by first | omega | assumption | decide) (by first | omega | assumption | decide) (by first | omega | assumption | decide) (by rw [hq37_3]; exact zRv_go (by first | omega | decide) h28 (by omega) (show (12 - x_5.toInt).toNat = k23 + 1 from e26) rfl hx_38.1 h21 ((zbs hq40_2).trans hq37_2) hq45_2 hq45_k.1 (by omega)) H _ ls (by omega)  hP hD hS (lv_sub hl [0, 1, 2, 3] rfl)
              · skip
                exact (zRv_sep h28 (by omega) ((zbs hq40_2).trans hq37_2) hq45_2 hq45_k (by decide)).elim
            · skip
              have c48 : at2_39.toInt = en.toInt := zeq cb9 rfl rfl
              have n49 : at2_39.toInt ≤ 400 := Int.le_trans (Int.le_of_eq c48) hen.2
              refine lv_iconst (v := 0) hx hb dX12_read_106 (by decide) ?_
              refine lv_istore_n (lv' := [(2, .int 0), (3, .int x_38), (0, .ref o), (1, .int 1)]) hx hb dX12_read_107 rfl hl (by decide) rfl (fun ls hl => ?_)
              refine lv_goto (tgt := 23) hx hb dX12_read_108 (by decide) ?_
              have hl := lv_sub (l' := [(0, .ref o), (1, .int 1), (2, .int 0), (3, .int x_38)]) hl [2, 3, 0, 1] rfl
              have hP : va_P g.1 vwCl (List.flatten [bMo g o a th hi ac tp 379 en at2_39 (-1) 0 iD iO tU2_36 fm fk fa fc ft ff fb fi]) H := hP
              have hD : va_D A (List.flatten [bMo g o a th hi ac tp 379 en at2_39 (-1) 0 iD iO tU2_36 fm fk fa fc ft ff fb fi]) := hD
              exact ih23_15 0 x_38 at2_39 tU2_36 (by decide) ⟨(Int.le_trans (by decide) hx_38.2.1), hx_38.2.2⟩ (by first | omega | assumption | decide) (by first | omega | assumption | decide) (by first | omega | assumption | decide) (by rw [hq37_3]; exact zRv_stop (p := 0) h28 (by omega)) H _ ls (by omega)  hP hD hS (lv_sub hl [0, 1, 2, 3] rfl)
          · skip
            have c50 : x_5.toInt = 12 := zeq cb9 rfl (by decide)
            have n51 : 12 ≤ x_5.toInt := Int.le_trans (Int.le_refl _) (Int.le_of_eq c50.symm)
            exfalso; have h9 := e26; omega
    have hP : va_P g.1 vwCl (List.flatten [bMo g o a th hi ac tp 379 en at2_1 (-1) 0 iD iO tU fm fk fa fc ft ff fb fi]) H := hP
    have hD : va_D A (List.flatten [bMo g o a th hi ac tp 379 en at2_1 (-1) 0 iD iO tU fm fk fa fc ft ff fb fi]) := hD
    exact LP23_14 _ 0 0 at2_1 tU (by decide) (by decide) (by first | omega | assumption | decide) hq2_1 (by first | omega | assumption | decide) (zRv_e0 hw9 hq2_2 (by omega)) H _ ls (Nat.lt_succ_self _)  hP hD hS (lv_sub hl [0, 1, 2, 3] rfl)
  · skip
    have c52 : at2_1.toInt < en.toInt := zlti (Int32.not_le.mp cb9) rfl rfl
    have n53 : at2_1.toInt ≤ 399 := zL1 (b := 400) c52 hen.2 (by decide)
    refine lv_iconst (v := 1) hx hb dX12_read_15 (by decide) ?_
    refine lv_goto (tgt := 20) hx hb dX12_read_16 (by decide) ?_
    refine lv_istore_n (lv' := [(2, .int 1), (0, .ref o), (1, .int 1)]) hx hb dX12_read_20 rfl hl (by decide) rfl (fun ls hl => ?_)
    refine lv_iconst (v := 0) hx hb dX12_read_21 (by decide) ?_
    refine lv_istore_n (lv' := [(3, .int 0), (2, .int 1), (0, .ref o), (1, .int 1)]) hx hb dX12_read_22 rfl hl (by decide) rfl (fun ls hl => ?_)
    have hl := lv_sub (l' := [(0, .ref o), (1, .int 1), (2, .int 1), (3, .int 0)]) hl [2, 3, 1, 0] rfl
    have LP23_64 : ∀ (kf : Nat) (x_54 : Int32) (x_55 : Int32) (x_56 : Int32) (x_57 : Int32), (0 ≤ x_54.toInt ∧ x_54.toInt ≤ 1) → (0 ≤ x_55.toInt ∧ x_55.toInt ≤ 12) → (0 ≤ x_56.toInt ∧ x_56.toInt ≤ 408) → (tA.toInt ≤ x_56.toInt) → (x_56.toInt ≤ en.toInt + 7 - 0) → (zRv tx en.toInt ev x_54.toInt x_55.toInt x_56.toInt x_57 v9) → ∀ (H : Heap) (locs : List Loc) (ls : Array Slot), ((13 - x_55.toInt).toNat) < kf → va_P g.1 vwCl (List.flatten [bMo g o a th hi ac tp 379 en x_56 (-1) 0 iD iO x_57 fm fk fa fc ft ff fb fi]) H → va_D A (List.flatten [bMo g o a th hi ac tp 379 en x_56 (-1) 0 iD iO x_57 fm fk fa fc ft ff fb fi]) → va_S A s.heap H locs → lv_has ls 4 [(0, .ref o), (1, .int 1), (2, .int x_54), (3, .int x_55)] → W p l e ({ frames := 30, cells := 0, slots := 0, locals := 665 } : Room) s m args below meth c H locs (0) (0) (zF g (fun u : Int32 × Int32 × Int32 => (fun (at2 : Int32) (tU2 : Int32) (q : Int32) => some (.int q)) (u.1) (u.2.1) (u.2.2)) (fun u : Int32 × Int32 × Int32 => (fun (at2 : Int32) (tU2 : Int32) (q : Int32) => (0 ≤ at2.toInt ∧ at2.toInt ≤ en.toInt + 7 - 0) ∧ (tA.toInt ≤ at2.toInt) ∧ (tU2 = v9)) (u.1) (u.2.1) (u.2.2)) (fun u : Int32 × Int32 × Int32 => (fun (at2 : Int32) (tU2 : Int32) (q : Int32) => [bMo g o a th hi ac tp 379 en at2 (-1) 0 iD iO tU2 fm fk fa fc ft ff fb fi]) (u.1) (u.2.1) (u.2.2)) ({ frames := 30, cells := 0, slots := 0, locals := 665 } : Room) below args s A) (F0 m 23 ls []) := by
      intro kf
      induction kf with
      | zero => intro x_54 x_55 x_56 x_57 i58 i59 i60 i61 i62 i63 H locs ls hk; exact absurd hk (Nat.not_lt_zero _)
      | succ kf ih23_65 =>
        intro x_54 x_55 x_56 x_57 i58 i59 i60 i61 i62 i63 H locs ls hk23_65 hP hD hS hl
        refine lv_iload_n hx hb dX12_read_23 rfl (lv_at hl 2 rfl) ?_
        refine lv_if_eq (tgt := 144) hx hb dX12_read_24 (by decide) (fun cb9 => ?_) (fun cb9 => ?_)
        · skip
          have c66 : x_54.toInt = 0 := zeq cb9 rfl (by decide)
          have n67 : x_54.toInt ≤ 0 := Int.le_trans (Int.le_of_eq c66) (Int.le_refl _)
          refine lv_iload_n hx hb dX12_read_144 rfl (lv_at hl 3 rfl) ?_
          have hP : va_P g.1 vwCl (List.flatten [bMo g o a th hi ac tp 379 en x_56 (-1) 0 iD iO x_57 fm fk fa fc ft ff fb fi]) H := hP
          have hD : va_D A (List.flatten [bMo g o a th hi ac tp 379 en x_56 (-1) 0 iD iO x_57 fm fk fa fc ft ff fb fi]) := hD
          exact mret_i hx hb hr hlocks hS (Nat.le_of_ble_eq_true rfl) (Nat.le_of_ble_eq_true rfl) dX12_read_145 (x_56, x_57, x_55) rfl (show (0 ≤ x_56.toInt ∧ x_56.toInt ≤ en.toInt + 7 - 0) ∧ (tA.toInt ≤ x_56.toInt) ∧ (x_57 = v9) from ⟨(by first | assumption | omega | decide), (by first | assumption | omega | decide), zRv_0 i63 (by omega)⟩) hP hD
        · skip
          have c68 : ¬ x_54.toInt = 0 := zne cb9 rfl (by decide)
          have n69 : 1 ≤ x_54.toInt := zN1 c68 i58.1 (by decide)
          refine lv_aload_n hx hb dX12_read_27 rfl (lv_at hl 0 rfl) ?_
          refine va_get (D := g.1) (ci := 10) (v := .int (-1)) (C := RX12) (T := TX12) (N := 20) hx hb hts izRX12 hown hK hP 0 rfl rfl 12 (by decide) (hts _ k820) (fun _ h9 => h9) rfl dX12_read_28 ?_
          refine lv_iconst (v := (-1)) hx hb dX12_read_31 (by decide) ?_
          refine lv_icmp_ne (tgt := 144) hx hb dX12_read_32 (by decide) (fun c70 => absurd (by decide) c70) (fun _ => ?_)
          refine lv_aload_n hx hb dX12_read_35 rfl (lv_at hl 0 rfl) ?_
          obtain ⟨h71, h72⟩ := zRv_1 i63 (by omega)
          obtain ⟨k73, p74, t75, e76, h77, h78⟩ := zLs_i h72
          have hPn := zLvt_le h77
          refine mcallV' (g := g) (q0 := 0) (ci := 10) (As := []) (rest := []) St hK hT hA hP hD hS hl.1 [0] [] rfl rfl rfl (m_skipH l g o a th hi ac tp en x_56 (-1) 0 iD iO x_57 fm fk fa fc ft ff fb fi tx hen (by first | assumption | omega | decide | exact Or.inl (by decide) | exact Or.inr (by decide)) (by decide) htx) (cwV 0 hts (zgL (zl4 k884 k885 k886 k839) k877) rfl rfl rfl (by decide +kernel) ⟨Nat.le_of_ble_eq_true rfl, Nat.le_of_ble_eq_true rfl⟩) rfl rfl rfl rfl (Nat.le_of_ble_eq_true rfl) dX12_read_36 ⟨(Nat.le_of_ble_eq_true rfl), (Nat.le_of_ble_eq_true rfl)⟩ (fun at2_79 H locs hq80 hP hD hS => ?_)
          replace hq80 : (0 ≤ at2_79.toInt ∧ at2_79.toInt ≤ en.toInt + 7 - (0 : Int32).toInt) ∧ (x_56.toInt ≤ at2_79.toInt) ∧ (zSk tx en.toInt x_56.toInt at2_79.toInt) := hq80
          have hP : va_P g.1 vwCl (List.flatten [bMo g o a th hi ac tp 379 en at2_79 (-1) 0 iD iO x_57 fm fk fa fc ft ff fb fi]) H := hP
          have hD : va_D A (List.flatten [bMo g o a th hi ac tp 379 en at2_79 (-1) 0 iD iO x_57 fm fk fa fc ft ff fb fi]) := hD
          refine W.widen (k := 0) (n := 0) (Nat.le_of_ble_eq_true rfl) (Nat.le_of_ble_eq_true rfl) ?_
          refine W.eq (g2 := F0 m 39 ls []) rfl ?_
          obtain ⟨hq80_0, hq80_1, hq80_2⟩ := hq80
          refine lv_iload_n hx hb dX12_read_39 rfl (lv_at hl 3 rfl) ?_
          refine lv_iload_n hx hb dX12_read_40 rfl (lv_at hl 1 rfl) ?_
          refine lv_if_eq (tgt := 49) hx hb dX12_read_41 (by decide) (fun c81 => absurd c81 (by decide)) (fun _ => ?_)
          refine lv_bipush (v := 12) hx hb dX12_read_44 (by decide) ?_
          refine lv_goto (tgt := 51) hx hb dX12_read_46 (by decide) ?_
          refine lv_icmp_ne (tgt := 65) hx hb dX12_read_51 (by decide) (fun cb9 => ?_) (fun cb9 => ?_)
          · skip
            have c82 : ¬ x_55.toInt = 12 := zne cb9 rfl (by decide)
            have n83 : x_55.toInt ≤ 11 := zN2 c82 i59.2 (by decide)
            refine lv_iload_n hx hb dX12_read_65 rfl (lv_at hl 1 rfl) ?_
            refine lv_if_eq (tgt := 76) hx hb dX12_read_66 (by decide) (fun c84 => absurd c84 (by decide)) (fun _ => ?_)
            have h77 := zLvt_b h77 (zbs hq80_2)
            refine lv_aload_n hx hb dX12_read_69 rfl (lv_at hl 0 rfl) ?_
            refine mcallV' (g := g) (q0 := 0) (ci := 10) (As := []) (rest := []) St hK hT hA hP hD hS hl.1 [0] [] rfl rfl rfl (m_lawLineV l g o a th hi ac tp en at2_79 iD iO x_57 fm fk fa fc ft ff fb fi tx ev p74 t75 hen (by first | assumption | omega | decide | exact Or.inl (by decide) | exact Or.inr (by decide)) hde hff hdr how (by first | assumption | omega | decide | exact Or.inl (by decide) | exact Or.inr (by decide)) htx) (cwV 0 hts (zgL (zl4 k965 k966 k967 k839) k964) rfl rfl rfl (by decide +kernel) ⟨Nat.le_of_ble_eq_true rfl, Nat.le_of_ble_eq_true rfl⟩) rfl rfl rfl rfl (Nat.le_of_ble_eq_true rfl) dX12_read_70 ⟨(Nat.le_of_ble_eq_true rfl), (Nat.le_of_ble_eq_true rfl)⟩ (fun u_ H locs hq87 hP hD hS => ?_)
            obtain ⟨at2_85, tU2_86⟩ := u_
            replace hq87 : (0 ≤ at2_85.toInt ∧ at2_85.toInt ≤ en.toInt + 7 - 0) ∧ (at2_79.toInt ≤ at2_85.toInt) ∧ (zbg tx en.toInt at2_85.toInt = p74) ∧ (tU2_86 = t75) := hq87
            have hP : va_P g.1 vwCl (List.flatten [bMo g o a th hi ac tp 379 en at2_85 (-1) 0 iD iO tU2_86 fm fk fa fc ft ff fb fi]) H := hP
            have hD : va_D A (List.flatten [bMo g o a th hi ac tp 379 en at2_85 (-1) 0 iD iO tU2_86 fm fk fa fc ft ff fb fi]) := hD
            refine W.widen (k := 0) (n := 0) (Nat.le_of_ble_eq_true rfl) (Nat.le_of_ble_eq_true rfl) ?_
            refine W.eq (g2 := F0 m 73 ls []) rfl ?_
            obtain ⟨hq87_0, hq87_1, hq87_2, hq87_3⟩ := hq87
            refine lv_goto (tgt := 80) hx hb dX12_read_73 (by decide) ?_
            refine ziinc3 (n' := 1) (a' := 1) (b' := 12) (lv' := fun v9 => [(3, .int v9), (0, .ref o), (1, .int 1), (2, .int x_54)]) hx hb dX12_read_80 hl (k := 3) rfl (by decide) (fun _ => rfl) (zaddK (i := x_55.toInt) (j := 1) rfl (by decide) i59.1 n83 (Int.le_refl _) (Int.le_refl _) (by decide)) (fun x_88 ls hx_88 hl => ?_)
            refine lv_aload_n hx hb dX12_read_83 rfl (lv_at hl 1 rfl) ?_
            refine mcallV' (g := g) (q0 := 0) (ci := 10) (As := []) (rest := []) St hK hT hA hP hD hS hl.1 [0] [] rfl rfl rfl (m_skipH l g o a th hi ac tp en at2_85 (-1) 0 iD iO tU2_86 fm fk fa fc ft ff fb fi tx hen (by first | assumption | omega | decide | exact Or.inl (by decide) | exact Or.inr (by decide)) (by decide) htx) (cwV 0 hts (zgL (zl4 k884 k885 k886 k839) k877) rfl rfl rfl (by decide +kernel) ⟨Nat.le_of_ble_eq_true rfl, Nat.le_of_ble_eq_true rfl⟩) rfl rfl rfl rfl (Nat.le_of_ble_eq_true rfl) dX12_read_84 ⟨(Nat.le_of_ble_eq_true rfl), (Nat.le_of_ble_eq_true rfl)⟩ (fun at2_89 H locs hq90 hP hD hS => ?_)
            replace hq90 : (0 ≤ at2_89.toInt ∧ at2_89.toInt ≤ en.toInt + 7 - (0 : Int32).toInt) ∧ (at2_85.toInt ≤ at2_89.toInt) ∧ (zSk tx en.toInt at2_85.toInt at2_89.toInt) := hq90
            have hP : va_P g.1 vwCl (List.flatten [bMo g o a th hi ac tp 379 en at2_89 (-1) 0 iD iO tU2_86 fm fk fa fc ft ff fb fi]) H := hP
            have hD : va_D A (List.flatten [bMo g o a th hi ac tp 379 en at2_89 (-1) 0 iD iO tU2_86 fm fk fa fc ft ff fb fi]) := hD
            refine W.widen (k := 0) (n := 0) (Nat.le_of_ble_eq_true rfl) (Nat.le_of_ble_eq_true rfl) ?_
            refine W.eq (g2 := F0 m 87 ls []) rfl ?_
            obtain ⟨hq90_0, hq90_1, hq90_2⟩ := hq90
            have hP9 : at2_89.toInt = p74 := (show at2_89.toInt = _ from hq90_2).trans hq87_2
            refine lv_aload_n hx hb dX12_read_87 rfl (lv_at hl 1 rfl) ?_
            refine va_get (D := g.1) (ci := 10) (v := .int (-1)) (C := RX12) (T := TX12) (N := 20) hx hb hts izRX12 hown hK hP 0 rfl rfl 12 (by decide) (hts _ k820) (fun _ h9 => h9) rfl dX12_read_88 ?_
            refine lv_iconst (v := (-1)) hx hb dX12_read_91 (by decide) ?_
            refine lv_icmp_ne (tgt := 106) hx hb dX12_read_92 (by decide) (fun c91 => absurd (by decide) c91) (fun _ => ?_)
            refine lv_aload_n hx hb dX12_read_95 rfl (lv_at hl 1 rfl) ?_
            refine va_get (D := g.1) (ci := 10) (v := .int at2_89) (C := RX12) (T := TX12) (N := 20) hx hb hts izRX12 hown hK hP 0 rfl rfl 11 (by decide) (hts _ k878) (fun _ h9 => h9) rfl dX12_read_96 ?_
            refine lv_aload_n hx hb dX12_read_99 rfl (lv_at hl 1 rfl) ?_
            refine va_get (D := g.1) (ci := 10) (v := .int en) (C := RX12) (T := TX12) (N := 20) hx hb hts izRX12 hown hK hP 0 rfl rfl 10 (by decide) (hts _ k879) (fun _ h9 => h9) rfl dX12_read_100 ?_
            refine lv_icmp_ne (tgt := 111) hx hb dX12_read_103 (by decide) (fun cb9 => ?_) (fun cb9 => ?_)
            · skip
              have c92 : ¬ at2_89.toInt = en.toInt := zne cb9 rfl rfl
              refine lv_aload_n hx hb dX12_read_111 rfl (lv_at hl 1 rfl) ?_
              refine lv_bipush (v := 59) hx hb dX12_read_112 (by decide) ?_
              have hL59 : (59 : Int32).toInt = 59 := by decide
              refine mcallV' (g := g) (q0 := 0) (ci := 10) (As := [.int 59]) (rest := []) St hK hT hA hP hD hS hl.1 [0] [] rfl rfl rfl (m_isSignH l g o a th hi ac tp en at2_89 (-1) 0 iD iO tU2_86 fm fk fa fc ft ff fb fi 59 tx hen hq90_0 (by decide) (by first | assumption | omega | decide | exact Or.inl (by decide) | exact Or.inr (by decide)) htx) (cwV 1 hts (zgL (zl4 k938 k939 k940 k839) k883) rfl rfl rfl (by decide +kernel) ⟨Nat.le_of_ble_eq_true rfl, Nat.le_of_ble_eq_true rfl⟩) rfl rfl rfl rfl (Nat.le_of_ble_eq_true rfl) dX12_read_114 ⟨(Nat.le_of_ble_eq_true rfl), (Nat.le_of_ble_eq_true rfl)⟩ (fun u_ H locs hq95 hP hD hS => ?_)
              obtain ⟨at2_93, q_94⟩ := u_
              replace hq95 : (0 ≤ at2_93.toInt ∧ at2_93.toInt ≤ en.toInt + 7 - (0 : Int32).toInt) ∧ (at2_89.toInt ≤ at2_93.toInt) ∧ (zSk tx en.toInt at2_89.toInt at2_93.toInt) ∧ (q_94 = 1 ∧ zisS tx en.toInt at2_93.toInt (59 : Int32).toInt ∧ at2_93.toInt < en.toInt ∨ q_94 = 0 ∧ ¬ zisS tx en.toInt at2_93.toInt (59 : Int32).toInt) := hq95
              have hP : va_P g.1 vwCl (List.flatten [bMo g o a th hi ac tp 379 en at2_93 (-1) 0 iD iO tU2_86 fm fk fa fc ft ff fb fi]) H := hP
              have hD : va_D A (List.flatten [bMo g o a th hi ac tp 379 en at2_93 (-1) 0 iD iO tU2_86 fm fk fa fc ft ff fb fi]) := hD
              refine W.widen (k := 0) (n := 0) (Nat.le_of_ble_eq_true rfl) (Nat.le_of_ble_eq_true rfl) ?_
              refine W.eq (g2 := F0 m 117 ls [.int q_94]) rfl ?_
              obtain ⟨hq95_0, hq95_1, hq95_2, hq95_3⟩ := hq95
              rcases hq95_3 with ⟨rfl, hq95_k⟩ | ⟨rfl, hq95_k⟩
              · skip
                refine lv_if_eq (tgt := 133) hx hb dX12_read_117 (by decide) (fun c96 => absurd c96 (by decide)) (fun _ => ?_)
                refine lv_aload_n hx hb dX12_read_120 rfl (lv_at hl 1 rfl) ?_
                refine lv_dup hx hb dX12_read_121 rfl ?_
                refine va_get (D := g.1) (ci := 10) (v := .int at2_93) (C := RX12) (T := TX12) (N := 20) hx hb hts izRX12 hown hK hP 0 rfl rfl 11 (by decide) (hts _ k878) (fun _ h9 => h9) rfl dX12_read_122 ?_
                refine lv_iconst (v := 1) hx hb dX12_read_125 (by decide) ?_
                refine lv_iadd hx hb dX12_read_126 ?_
                refine zgv (zadd (i := at2_93.toInt) (j := 1) rfl (by decide) (by omega)) (fun x_97 hx_97 => ?_)
                refine va_put (D := g.1) (ci := 10) (v := .int x_97) (ty := .int) (C := RX12) (T := TX12) (N := 20) hx hb hts izRX12 tyX12 tyX12_ok nmX12 hown hK hP hD hS 0 rfl rfl 11 (by decide) (hts _ k878) (fun _ h9 => h9) rfl (by decide +kernel) rfl rfl (Nat.le_of_ble_eq_true rfl) dX12_read_127 (fun H locs hP hD hS => ?_)
                have hP : va_P g.1 vwCl (List.flatten [bMo g o a th hi ac tp 379 en x_97 (-1) 0 iD iO tU2_86 fm fk fa fc ft ff fb fi]) H := hP
                have hD : va_D A (List.flatten [bMo g o a th hi ac tp 379 en x_97 (-1) 0 iD iO tU2_86 fm fk fa fc ft ff fb fi]) := hD
                refine lv_goto (tgt := 23) hx hb dX12_read_130 (by decide) ?_
                have hl := lv_sub (l' := [(0, .ref o), (1, .int 1), (2, .int x_54), (3, .int x_88)]) hl [1, 2, 3, 0] rfl
                have hP : va_P g.1 vwCl (List.flatten [bMo g o a th hi ac tp 379 en x_97 (-1) 0 iD iO tU2_86 fm fk fa fc ft ff fb fi]) H := hP
                have hD : va_D A (List.flatten [bMo g o a th hi ac tp 379 en x_97 (-1) 0 iD iO tU2_86 fm fk fa fc ft ff fb fi]) := hD
                exact ih23_65 x_54 x_88 x_97 tU2_86 ⟨(Int.le_trans (by decide) n69), i58.2⟩ ⟨(Int.le_trans (by decide) hx_88.2.1), hx_88.2.2⟩ (by first | omega | assumption | decide) (by first | omega | assumption | decide) (by first | omega | assumption | decide) (by rw [hq87_3]; exact zRv_go (by first | omega | decide) h78 (by omega) (show (12 - x_55.toInt).toNat = k73 + 1 from e76) rfl hx_88.1 h71 ((zbs hq90_2).trans hq87_2) hq95_2 hq95_k.1 (by omega)) H _ ls (by omega)  hP hD hS (lv_sub hl [0, 1, 2, 3] rfl)
              · skip
                exact (zRv_sep h78 (by omega) ((zbs hq90_2).trans hq87_2) hq95_2 hq95_k (by decide)).elim
            · skip
              have c98 : at2_89.toInt = en.toInt := zeq cb9 rfl rfl
              have n99 : at2_89.toInt ≤ 400 := Int.le_trans (Int.le_of_eq c98) hen.2
              refine lv_iconst (v := 0) hx hb dX12_read_106 (by decide) ?_
              refine lv_istore_n (lv' := [(2, .int 0), (3, .int x_88), (0, .ref o), (1, .int 1)]) hx hb dX12_read_107 rfl hl (by decide) rfl (fun ls hl => ?_)
              refine lv_goto (tgt := 23) hx hb dX12_read_108 (by decide) ?_
              have hl := lv_sub (l' := [(0, .ref o), (1, .int 1), (2, .int 0), (3, .int x_88)]) hl [2, 3, 0, 1] rfl
              have hP : va_P g.1 vwCl (List.flatten [bMo g o a th hi ac tp 379 en at2_89 (-1) 0 iD iO tU2_86 fm fk fa fc ft ff fb fi]) H := hP
              have hD : va_D A (List.flatten [bMo g o a th hi ac tp 379 en at2_89 (-1) 0 iD iO tU2_86 fm fk fa fc ft ff fb fi]) := hD
              exact ih23_65 0 x_88 at2_89 tU2_86 (by decide) ⟨(Int.le_trans (by decide) hx_88.2.1), hx_88.2.2⟩ (by first | omega | assumption | decide) (by first | omega | assumption | decide) (by first | omega | assumption | decide) (by rw [hq87_3]; exact zRv_stop (p := 0) h78 (by omega)) H _ ls (by omega)  hP hD hS (lv_sub hl [0, 1, 2, 3] rfl)
          · skip
            have c100 : x_55.toInt = 12 := zeq cb9 rfl (by decide)
            have n101 : 12 ≤ x_55.toInt := Int.le_trans (Int.le_refl _) (Int.le_of_eq c100.symm)
            exfalso; have h9 := e76; omega
    have hL1 : (1 : Int32).toInt = 1 := by decide
    have hP : va_P g.1 vwCl (List.flatten [bMo g o a th hi ac tp 379 en at2_1 (-1) 0 iD iO tU fm fk fa fc ft ff fb fi]) H := hP
    have hD : va_D A (List.flatten [bMo g o a th hi ac tp 379 en at2_1 (-1) 0 iD iO tU fm fk fa fc ft ff fb fi]) := hD
    exact LP23_64 _ 1 0 at2_1 tU (by decide) (by decide) (by first | omega | assumption | decide) hq2_1 (by first | omega | assumption | decide) (zRv_e1 hw9 hq2_2 (by omega)) H _ ls (Nat.lt_succ_self _)  hP hD hS (lv_sub hl [0, 1, 2, 3] rfl)
