set_option maxRecDepth 100000 in
set_option maxHeartbeats 4000000 in
theorem m_atomV5 (l : Launch) (g : zG) (o : Nat) (a : Nat → Nat) (th : Int32) (hi : Int32) (ac : Int32) (tp : Int32) (en : Int32) (tA : Int32) (iD : Int32) (iO : Int32) (tU : Int32) (fm : Nat → Int32) (fk : Nat → Int32) (fa : Nat → Int32) (fc : Nat → Int32) (ft : Nat → Int32) (ff : Nat → Int32) (fb : Nat → Int32) (fi : Nat → Int32) (tx : Nat → Int32) (ev : Nat → Int32) (b1 : Int) (bv : Bool) (hen : 0 ≤ en.toInt ∧ en.toInt ≤ 400) (htA : 0 ≤ tA.toInt ∧ tA.toInt ≤ en.toInt + 7 - 5) (hde : 0 ≤ 5 ∧ 5 ≤ 6) (hff : ∀ k9 : Nat, k9 < 6 → ff k9 = ev k9) (hdr : iD = zBi (zNz (ev 6))) (how : iO = zBi (zNz (ev 7))) (ha : zAv tx en.toInt ev 1 (zbg tx en.toInt tA.toInt) b1 bv) (htx : ∀ k9 : Nat, (k9 : Int) < en.toInt → fm (379 + k9) = tx k9) : zM' g l yX12_atom (Cond.code yX12_atom cX12_atom 4 (some .boolean) :: zB) ({ frames := 11, cells := 0, slots := 0, locals := 240 } : Room) [.ref o] [bMo g o a th hi ac tp 379 en tA (-1) 5 iD iO tU fm fk fa fc ft ff fb fi] (fun (at2 : Int32) => some (.int (zBi bv))) (fun (at2 : Int32) => (0 ≤ at2.toInt ∧ at2.toInt ≤ en.toInt + 7 - 5) ∧ (tA.toInt ≤ at2.toInt) ∧ (zbg tx en.toInt at2.toInt = b1)) (fun (at2 : Int32) => [bMo g o a th hi ac tp 379 en at2 (-1) 5 iD iO tU fm fk fa fc ft ff fb fi]) := by
  refine zM'.of (cc := cX12_atom) (maxL := 4) (rt := (some .boolean)) (by decide) rfl (Nat.le_of_ble_eq_true rfl) ?_
  intro p e s m args below meth c A ls St hr hlocks hin hK hT hA hP hD hS hl
  obtain ⟨hx, hb, hml, hown, hts⟩ := id St
  have hl : lv_has ls 4 [(0, .ref o)] := hl
  refine lv_aload_n hx hb dX12_atom_0 rfl (lv_at hl 0 rfl) ?_
  refine va_get (D := g.1) (ci := 10) (v := .int (-1)) (C := RX12) (T := TX12) (N := 20) hx hb hts izRX12 hown hK hP 0 rfl rfl 12 (by decide) (hts _ k820) (fun _ h9 => h9) rfl dX12_atom_1 ?_
  refine lv_iconst (v := (-1)) hx hb dX12_atom_4 (by decide) ?_
  refine lv_icmp_eq (tgt := 10) hx hb dX12_atom_5 (by decide) (fun _ => ?_) (fun c1 => absurd (by decide) c1)
  refine lv_aload_n hx hb dX12_atom_10 rfl (lv_at hl 0 rfl) ?_
  have hL5 : (5 : Int32).toInt = 5 := by decide
  refine mcallV' (g := g) (q0 := 0) (ci := 10) (As := []) (rest := []) St hK hT hA hP hD hS hl.1 [0] [] rfl rfl rfl (m_hereH l g o a th hi ac tp en tA (-1) 5 iD iO tU fm fk fa fc ft ff fb fi tx hen (by first | assumption | omega | decide | exact Or.inl (by decide) | exact Or.inr (by decide)) (by decide) htx) (cwV 0 hts (zgL (zl4 k892 k893 k894 k839) k891) rfl rfl rfl (by decide +kernel) ⟨Nat.le_of_ble_eq_true rfl, Nat.le_of_ble_eq_true rfl⟩) rfl rfl rfl rfl (Nat.le_of_ble_eq_true rfl) dX12_atom_11 ⟨(Nat.le_of_ble_eq_true rfl), (Nat.le_of_ble_eq_true rfl)⟩ (fun at2_2 H locs hq3 hP hD hS => ?_)
  replace hq3 : (0 ≤ at2_2.toInt ∧ at2_2.toInt ≤ en.toInt + 7 - (5 : Int32).toInt) ∧ (tA.toInt ≤ at2_2.toInt) ∧ (zSk tx en.toInt tA.toInt at2_2.toInt) := hq3
  have hP : va_P g.1 vwCl (List.flatten [bMo g o a th hi ac tp 379 en at2_2 (-1) 5 iD iO tU fm fk fa fc ft ff fb fi]) H := hP
  have hD : va_D A (List.flatten [bMo g o a th hi ac tp 379 en at2_2 (-1) 5 iD iO tU fm fk fa fc ft ff fb fi]) := hD
  refine W.widen (k := 0) (n := 0) (Nat.le_of_ble_eq_true rfl) (Nat.le_of_ble_eq_true rfl) ?_
  refine W.eq (g2 := F0 m 14 ls [.int at2_2]) rfl ?_
  obtain ⟨hq3_0, hq3_1, hq3_2⟩ := hq3
  refine lv_istore_n (lv' := [(1, .int at2_2), (0, .ref o)]) hx hb dX12_atom_14 rfl hl (by decide) rfl (fun ls hl => ?_)
  refine lv_aload_n hx hb dX12_atom_15 rfl (lv_at hl 1 rfl) ?_
  refine va_ldcS (q := g.2 98) hx hb hown (zra44 hT.2.1) dX12_atom_16 ?_
  refine mcallV' (g := g) (q0 := 0) (ci := 10) (As := [.ref (g.2 98)]) (rest := []) St hK hT hA hP hD hS hl.1 [0] [] rfl rfl rfl (m_hasH l g o a th hi ac tp en at2_2 (-1) 5 iD iO tU fm fk fa fc ft ff fb fi tx (g.2 98) 44 zqa44 hen hq3_0 (by decide) htx rfl zla44 zna44 (zlitB zla44)) (cwV 1 hts (zgL (zl4 k899 k900 k901 k839) k889) rfl rfl rfl (by decide +kernel) ⟨Nat.le_of_ble_eq_true rfl, Nat.le_of_ble_eq_true rfl⟩) rfl rfl rfl rfl (Nat.le_of_ble_eq_true rfl) dX12_atom_18 ⟨(Nat.le_of_ble_eq_true rfl), (Nat.le_of_ble_eq_true rfl)⟩ (fun u_ H locs hq6 hP hD hS => ?_)
  obtain ⟨at2_4, r_5⟩ := u_
  replace hq6 : (0 ≤ at2_4.toInt ∧ at2_4.toInt ≤ en.toInt + 7 - (5 : Int32).toInt) ∧ (at2_2.toInt ≤ at2_4.toInt) ∧ (r_5 = 1 ∧ zisW tx en.toInt (zbg tx en.toInt at2_2.toInt) zqa44.2.2.2 ∧ at2_4.toInt = znx tx en.toInt (zbg tx en.toInt at2_2.toInt) ∧ at2_2.toInt < at2_4.toInt ∧ at2_4.toInt ≤ en.toInt ∨ r_5 = 0 ∧ ¬ zisW tx en.toInt (zbg tx en.toInt at2_2.toInt) zqa44.2.2.2 ∧ at2_4.toInt = zbg tx en.toInt at2_2.toInt) := hq6
  have hP : va_P g.1 vwCl (List.flatten [bMo g o a th hi ac tp 379 en at2_4 (-1) 5 iD iO tU fm fk fa fc ft ff fb fi]) H := hP
  have hD : va_D A (List.flatten [bMo g o a th hi ac tp 379 en at2_4 (-1) 5 iD iO tU fm fk fa fc ft ff fb fi]) := hD
  refine W.widen (k := 0) (n := 0) (Nat.le_of_ble_eq_true rfl) (Nat.le_of_ble_eq_true rfl) ?_
  refine W.eq (g2 := F0 m 21 ls [.int r_5]) rfl ?_
  obtain ⟨hq6_0, hq6_1, hq6_2⟩ := hq6
  rcases hq6_2 with ⟨rfl, hq6_k, hq6_km⟩ | ⟨rfl, hq6_k, hq6_km⟩
  · skip
    refine lv_istore_n (lv' := [(2, .int 1), (1, .int at2_2), (0, .ref o)]) hx hb dX12_atom_21 rfl hl (by decide) rfl (fun ls hl => ?_)
    refine lv_iload_n hx hb dX12_atom_22 rfl (lv_at hl 0 rfl) ?_
    refine lv_if_ne (tgt := 40) hx hb dX12_atom_23 (by decide) (fun _ => ?_) (fun c7 => absurd c7 (by decide))
    refine lv_aload_n hx hb dX12_atom_40 rfl (lv_at hl 2 rfl) ?_
    refine va_get (D := g.1) (ci := 10) (v := .int 5) (C := RX12) (T := TX12) (N := 20) hx hb hts izRX12 hown hK hP 0 rfl rfl 13 (by decide) (hts _ k933) (fun _ h9 => h9) rfl dX12_atom_41 ?_
    refine lv_bipush (v := 6) hx hb dX12_atom_44 (by decide) ?_
    refine lv_icmp_ne (tgt := 56) hx hb dX12_atom_46 (by decide) (fun _ => ?_) (fun c8 => absurd c8 (by decide))
    refine lv_aload_n hx hb dX12_atom_56 rfl (lv_at hl 2 rfl) ?_
    refine lv_dup hx hb dX12_atom_57 rfl ?_
    refine va_get (D := g.1) (ci := 10) (v := .int 5) (C := RX12) (T := TX12) (N := 20) hx hb hts izRX12 hown hK hP 0 rfl rfl 13 (by decide) (hts _ k933) (fun _ h9 => h9) rfl dX12_atom_58 ?_
    refine lv_iconst (v := 1) hx hb dX12_atom_61 (by decide) ?_
    refine lv_iadd hx hb dX12_atom_62 ?_
    refine ztop (r := 6) (by decide) ?_
    refine va_put (D := g.1) (ci := 10) (v := .int 6) (ty := .int) (C := RX12) (T := TX12) (N := 20) hx hb hts izRX12 tyX12 tyX12_ok nmX12 hown hK hP hD hS 0 rfl rfl 13 (by decide) (hts _ k933) (fun _ h9 => h9) rfl (by decide +kernel) rfl rfl (Nat.le_of_ble_eq_true rfl) dX12_atom_63 (fun H locs hP hD hS => ?_)
    have hP : va_P g.1 vwCl (List.flatten [bMo g o a th hi ac tp 379 en at2_4 (-1) 6 iD iO tU fm fk fa fc ft ff fb fi]) H := hP
    have hD : va_D A (List.flatten [bMo g o a th hi ac tp 379 en at2_4 (-1) 6 iD iO tU fm fk fa fc ft ff fb fi]) := hD
    refine lv_iconst (v := 0) hx hb dX12_atom_66 (by decide) ?_
    refine lv_istore_n (lv' := [(3, .int 0), (2, .int 1), (1, .int at2_2), (0, .ref o)]) hx hb dX12_atom_67 rfl hl (by decide) rfl (fun ls hl => ?_)
    refine lv_iload_n hx hb dX12_atom_68 rfl (lv_at hl 1 rfl) ?_
    refine lv_if_eq (tgt := 88) hx hb dX12_atom_69 (by decide) (fun c9 => absurd c9 (by decide)) (fun _ => ?_)
    have ha9 : zAv tx en.toInt ev 0 (zbg tx en.toInt at2_4.toInt) b1 (!bv) := zAv_b (zAv_n ha (zBy (show _ = zbg tx en.toInt tA.toInt from hq3_2) hq6_k)) (zbt (zBx (show _ = zbg tx en.toInt tA.toInt from hq3_2) hq6_km.1))
    refine lv_aload_n hx hb dX12_atom_72 rfl (lv_at hl 3 rfl) ?_
    refine mcallV' (g := g) (q0 := 0) (ci := 10) (As := []) (rest := []) St hK hT hA hP hD hS hl.1 [0] [] rfl rfl rfl (m_atomV6 l g o a th hi ac tp en at2_4 iD iO tU fm fk fa fc ft ff fb fi tx ev b1 (!bv) hen (by first | assumption | omega | decide | exact Or.inl (by decide) | exact Or.inr (by decide)) (by first | assumption | omega | decide | exact Or.inl (by decide) | exact Or.inr (by decide)) hff hdr how (by first | assumption | omega | decide | exact Or.inl (by decide) | exact Or.inr (by decide)) htx) (cwV 0 hts (zgL (zl4 k951 k952 k953 k839) k962) rfl rfl rfl (by decide +kernel) ⟨Nat.le_of_ble_eq_true rfl, Nat.le_of_ble_eq_true rfl⟩) rfl rfl rfl rfl (Nat.le_of_ble_eq_true rfl) dX12_atom_73 ⟨(Nat.le_of_ble_eq_true rfl), (Nat.le_of_ble_eq_true rfl)⟩ (fun at2_10 H locs hq11 hP hD hS => ?_)
    replace hq11 : (0 ≤ at2_10.toInt ∧ at2_10.toInt ≤ en.toInt + 7 - 6) ∧ (at2_4.toInt ≤ at2_10.toInt) ∧ (zbg tx en.toInt at2_10.toInt = b1) := hq11
    have hP : va_P g.1 vwCl (List.flatten [bMo g o a th hi ac tp 379 en at2_10 (-1) 6 iD iO tU fm fk fa fc ft ff fb fi]) H := hP
    have hD : va_D A (List.flatten [bMo g o a th hi ac tp 379 en at2_10 (-1) 6 iD iO tU fm fk fa fc ft ff fb fi]) := hD
    refine W.widen (k := 0) (n := 0) (Nat.le_of_ble_eq_true rfl) (Nat.le_of_ble_eq_true rfl) ?_
    refine W.eq (g2 := F0 m 76 ls [.int (zBi (!bv))]) rfl ?_
    obtain ⟨hq11_0, hq11_1, hq11_2⟩ := hq11
    refine lv_if_ne (tgt := 83) hx hb dX12_atom_76 (by decide) (fun cb9 => ?_) (fun cb9 => ?_)
    · skip
      have c12 : ¬ (zBi (!bv)).toInt = 0 := zne cb9 rfl (by decide)
      refine lv_iconst (v := 0) hx hb dX12_atom_83 (by decide) ?_
      refine lv_istore_n (lv' := [(3, .int 0), (2, .int 1), (1, .int at2_2), (0, .ref o)]) hx hb dX12_atom_84 rfl hl (by decide) rfl (fun ls hl => ?_)
      refine lv_goto (tgt := 138) hx hb dX12_atom_85 (by decide) ?_
      refine lv_aload_n hx hb dX12_atom_138 rfl (lv_at hl 3 rfl) ?_
      refine lv_dup hx hb dX12_atom_139 rfl ?_
      refine va_get (D := g.1) (ci := 10) (v := .int 6) (C := RX12) (T := TX12) (N := 20) hx hb hts izRX12 hown hK hP 0 rfl rfl 13 (by decide) (hts _ k933) (fun _ h9 => h9) rfl dX12_atom_140 ?_
      refine lv_iconst (v := 1) hx hb dX12_atom_143 (by decide) ?_
      refine lv_isub hx hb dX12_atom_144 ?_
      refine ztop (r := 5) (by decide) ?_
      refine va_put (D := g.1) (ci := 10) (v := .int 5) (ty := .int) (C := RX12) (T := TX12) (N := 20) hx hb hts izRX12 tyX12 tyX12_ok nmX12 hown hK hP hD hS 0 rfl rfl 13 (by decide) (hts _ k933) (fun _ h9 => h9) rfl (by decide +kernel) rfl rfl (Nat.le_of_ble_eq_true rfl) dX12_atom_145 (fun H locs hP hD hS => ?_)
      have hP : va_P g.1 vwCl (List.flatten [bMo g o a th hi ac tp 379 en at2_10 (-1) 5 iD iO tU fm fk fa fc ft ff fb fi]) H := hP
      have hD : va_D A (List.flatten [bMo g o a th hi ac tp 379 en at2_10 (-1) 5 iD iO tU fm fk fa fc ft ff fb fi]) := hD
      refine lv_iload_n hx hb dX12_atom_148 rfl (lv_at hl 0 rfl) ?_
      refine ztop (r := (zBi bv)) (zBn0 (by omega)) ?_
      have hP : va_P g.1 vwCl (List.flatten [bMo g o a th hi ac tp 379 en at2_10 (-1) 5 iD iO tU fm fk fa fc ft ff fb fi]) H := hP
      have hD : va_D A (List.flatten [bMo g o a th hi ac tp 379 en at2_10 (-1) 5 iD iO tU fm fk fa fc ft ff fb fi]) := hD
      exact mret_z hx hb hr hlocks hS (Nat.le_of_ble_eq_true rfl) (Nat.le_of_ble_eq_true rfl) dX12_atom_149 (at2_10) rfl (zb01 (zBi_01 _)) (show (0 ≤ at2_10.toInt ∧ at2_10.toInt ≤ en.toInt + 7 - 5) ∧ (tA.toInt ≤ at2_10.toInt) ∧ (zbg tx en.toInt at2_10.toInt = b1) from ⟨(by first | assumption | omega | decide), (by first | assumption | omega | decide), hq11_2⟩) hP hD
    · skip
      have c13 : (zBi (!bv)).toInt = 0 := zeq cb9 rfl (by decide)
      have n14 : 0 ≤ (zBi (!bv)).toInt := Int.le_trans (Int.le_refl _) (Int.le_of_eq c13.symm)
      have n15 : (zBi (!bv)).toInt ≤ 0 := Int.le_trans (Int.le_of_eq c13) (Int.le_refl _)
      refine lv_iconst (v := 1) hx hb dX12_atom_79 (by decide) ?_
      refine lv_goto (tgt := 84) hx hb dX12_atom_80 (by decide) ?_
      refine lv_istore_n (lv' := [(3, .int 1), (2, .int 1), (1, .int at2_2), (0, .ref o)]) hx hb dX12_atom_84 rfl hl (by decide) rfl (fun ls hl => ?_)
      refine lv_goto (tgt := 138) hx hb dX12_atom_85 (by decide) ?_
      refine lv_aload_n hx hb dX12_atom_138 rfl (lv_at hl 3 rfl) ?_
      refine lv_dup hx hb dX12_atom_139 rfl ?_
      refine va_get (D := g.1) (ci := 10) (v := .int 6) (C := RX12) (T := TX12) (N := 20) hx hb hts izRX12 hown hK hP 0 rfl rfl 13 (by decide) (hts _ k933) (fun _ h9 => h9) rfl dX12_atom_140 ?_
      refine lv_iconst (v := 1) hx hb dX12_atom_143 (by decide) ?_
      refine lv_isub hx hb dX12_atom_144 ?_
      refine ztop (r := 5) (by decide) ?_
      refine va_put (D := g.1) (ci := 10) (v := .int 5) (ty := .int) (C := RX12) (T := TX12) (N := 20) hx hb hts izRX12 tyX12 tyX12_ok nmX12 hown hK hP hD hS 0 rfl rfl 13 (by decide) (hts _ k933) (fun _ h9 => h9) rfl (by decide +kernel) rfl rfl (Nat.le_of_ble_eq_true rfl) dX12_atom_145 (fun H locs hP hD hS => ?_)
      have hP : va_P g.1 vwCl (List.flatten [bMo g o a th hi ac tp 379 en at2_10 (-1) 5 iD iO tU fm fk fa fc ft ff fb fi]) H := hP
      have hD : va_D A (List.flatten [bMo g o a th hi ac tp 379 en at2_10 (-1) 5 iD iO tU fm fk fa fc ft ff fb fi]) := hD
      refine lv_iload_n hx hb dX12_atom_148 rfl (lv_at hl 0 rfl) ?_
      refine ztop (r := (zBi bv)) (zBn1 (by omega)) ?_
      have hP : va_P g.1 vwCl (List.flatten [bMo g o a th hi ac tp 379 en at2_10 (-1) 5 iD iO tU fm fk fa fc ft ff fb fi]) H := hP
      have hD : va_D A (List.flatten [bMo g o a th hi ac tp 379 en at2_10 (-1) 5 iD iO tU fm fk fa fc ft ff fb fi]) := hD
      exact mret_z hx hb hr hlocks hS (Nat.le_of_ble_eq_true rfl) (Nat.le_of_ble_eq_true rfl) dX12_atom_149 (at2_10) rfl (zb01 (zBi_01 _)) (show (0 ≤ at2_10.toInt ∧ at2_10.toInt ≤ en.toInt + 7 - 5) ∧ (tA.toInt ≤ at2_10.toInt) ∧ (zbg tx en.toInt at2_10.toInt = b1) from ⟨(by first | assumption | omega | decide), (by first | assumption | omega | decide), hq11_2⟩) hP hD
  · skip
    refine lv_istore_n (lv' := [(2, .int 0), (1, .int at2_2), (0, .ref o)]) hx hb dX12_atom_21 rfl hl (by decide) rfl (fun ls hl => ?_)
    refine lv_iload_n hx hb dX12_atom_22 rfl (lv_at hl 0 rfl) ?_
    refine lv_if_ne (tgt := 40) hx hb dX12_atom_23 (by decide) (fun c16 => absurd (by decide) c16) (fun _ => ?_)
    refine lv_aload_n hx hb dX12_atom_26 rfl (lv_at hl 2 rfl) ?_
    refine lv_bipush (v := 40) hx hb dX12_atom_27 (by decide) ?_
    have hL40 : (40 : Int32).toInt = 40 := by decide
    refine mcallV' (g := g) (q0 := 0) (ci := 10) (As := [.int 40]) (rest := []) St hK hT hA hP hD hS hl.1 [0] [] rfl rfl rfl (m_isSignH l g o a th hi ac tp en at2_4 (-1) 5 iD iO tU fm fk fa fc ft ff fb fi 40 tx hen hq6_0 (by decide) (by first | assumption | omega | decide | exact Or.inl (by decide) | exact Or.inr (by decide)) htx) (cwV 1 hts (zgL (zl4 k938 k939 k940 k839) k883) rfl rfl rfl (by decide +kernel) ⟨Nat.le_of_ble_eq_true rfl, Nat.le_of_ble_eq_true rfl⟩) rfl rfl rfl rfl (Nat.le_of_ble_eq_true rfl) dX12_atom_29 ⟨(Nat.le_of_ble_eq_true rfl), (Nat.le_of_ble_eq_true rfl)⟩ (fun u_ H locs hq19 hP hD hS => ?_)
    obtain ⟨at2_17, q_18⟩ := u_
    replace hq19 : (0 ≤ at2_17.toInt ∧ at2_17.toInt ≤ en.toInt + 7 - (5 : Int32).toInt) ∧ (at2_4.toInt ≤ at2_17.toInt) ∧ (zSk tx en.toInt at2_4.toInt at2_17.toInt) ∧ (q_18 = 1 ∧ zisS tx en.toInt at2_17.toInt (40 : Int32).toInt ∧ at2_17.toInt < en.toInt ∨ q_18 = 0 ∧ ¬ zisS tx en.toInt at2_17.toInt (40 : Int32).toInt) := hq19
    have hP : va_P g.1 vwCl (List.flatten [bMo g o a th hi ac tp 379 en at2_17 (-1) 5 iD iO tU fm fk fa fc ft ff fb fi]) H := hP
    have hD : va_D A (List.flatten [bMo g o a th hi ac tp 379 en at2_17 (-1) 5 iD iO tU fm fk fa fc ft ff fb fi]) := hD
    refine W.widen (k := 0) (n := 0) (Nat.le_of_ble_eq_true rfl) (Nat.le_of_ble_eq_true rfl) ?_
    refine W.eq (g2 := F0 m 32 ls [.int q_18]) rfl ?_
    obtain ⟨hq19_0, hq19_1, hq19_2, hq19_3⟩ := hq19
    rcases hq19_3 with ⟨rfl, hq19_k⟩ | ⟨rfl, hq19_k⟩
    · skip
      refine lv_if_ne (tgt := 40) hx hb dX12_atom_32 (by decide) (fun _ => ?_) (fun c20 => absurd c20 (by decide))
      refine lv_aload_n hx hb dX12_atom_40 rfl (lv_at hl 2 rfl) ?_
      refine va_get (D := g.1) (ci := 10) (v := .int 5) (C := RX12) (T := TX12) (N := 20) hx hb hts izRX12 hown hK hP 0 rfl rfl 13 (by decide) (hts _ k933) (fun _ h9 => h9) rfl dX12_atom_41 ?_
      refine lv_bipush (v := 6) hx hb dX12_atom_44 (by decide) ?_
      refine lv_icmp_ne (tgt := 56) hx hb dX12_atom_46 (by decide) (fun _ => ?_) (fun c21 => absurd c21 (by decide))
      refine lv_aload_n hx hb dX12_atom_56 rfl (lv_at hl 2 rfl) ?_
      refine lv_dup hx hb dX12_atom_57 rfl ?_
      refine va_get (D := g.1) (ci := 10) (v := .int 5) (C := RX12) (T := TX12) (N := 20) hx hb hts izRX12 hown hK hP 0 rfl rfl 13 (by decide) (hts _ k933) (fun _ h9 => h9) rfl dX12_atom_58 ?_
      refine lv_iconst (v := 1) hx hb dX12_atom_61 (by decide) ?_
      refine lv_iadd hx hb dX12_atom_62 ?_
      refine ztop (r := 6) (by decide) ?_
      refine va_put (D := g.1) (ci := 10) (v := .int 6) (ty := .int) (C := RX12) (T := TX12) (N := 20) hx hb hts izRX12 tyX12 tyX12_ok nmX12 hown hK hP hD hS 0 rfl rfl 13 (by decide) (hts _ k933) (fun _ h9 => h9) rfl (by decide +kernel) rfl rfl (Nat.le_of_ble_eq_true rfl) dX12_atom_63 (fun H locs hP hD hS => ?_)
      have hP : va_P g.1 vwCl (List.flatten [bMo g o a th hi ac tp 379 en at2_17 (-1) 6 iD iO tU fm fk fa fc ft ff fb fi]) H := hP
      have hD : va_D A (List.flatten [bMo g o a th hi ac tp 379 en at2_17 (-1) 6 iD iO tU fm fk fa fc ft ff fb fi]) := hD
      refine lv_iconst (v := 0) hx hb dX12_atom_66 (by decide) ?_
      refine lv_istore_n (lv' := [(3, .int 0), (2, .int 0), (1, .int at2_2), (0, .ref o)]) hx hb dX12_atom_67 rfl hl (by decide) rfl (fun ls hl => ?_)
      refine lv_iload_n hx hb dX12_atom_68 rfl (lv_at hl 1 rfl) ?_
      refine lv_if_eq (tgt := 88) hx hb dX12_atom_69 (by decide) (fun _ => ?_) (fun c22 => absurd (by decide) c22)
      refine lv_aload_n hx hb dX12_atom_88 rfl (lv_at hl 3 rfl) ?_
      refine lv_dup hx hb dX12_atom_89 rfl ?_
      refine va_get (D := g.1) (ci := 10) (v := .int at2_17) (C := RX12) (T := TX12) (N := 20) hx hb hts izRX12 hown hK hP 0 rfl rfl 11 (by decide) (hts _ k878) (fun _ h9 => h9) rfl dX12_atom_90 ?_
      refine lv_iconst (v := 1) hx hb dX12_atom_93 (by decide) ?_
      refine lv_iadd hx hb dX12_atom_94 ?_
      refine zgv (zadd (i := at2_17.toInt) (j := 1) rfl (by decide) (by omega)) (fun x_23 hx_23 => ?_)
      refine va_put (D := g.1) (ci := 10) (v := .int x_23) (ty := .int) (C := RX12) (T := TX12) (N := 20) hx hb hts izRX12 tyX12 tyX12_ok nmX12 hown hK hP hD hS 0 rfl rfl 11 (by decide) (hts _ k878) (fun _ h9 => h9) rfl (by decide +kernel) rfl rfl (Nat.le_of_ble_eq_true rfl) dX12_atom_95 (fun H locs hP hD hS => ?_)
      have hP : va_P g.1 vwCl (List.flatten [bMo g o a th hi ac tp 379 en x_23 (-1) 6 iD iO tU fm fk fa fc ft ff fb fi]) H := hP
      have hD : va_D A (List.flatten [bMo g o a th hi ac tp 379 en x_23 (-1) 6 iD iO tU fm fk fa fc ft ff fb fi]) := hD
      have hs40 : zisS tx en.toInt (zbg tx en.toInt tA.toInt) 40 := by rw [← zbz (zBe (show _ = zbg tx en.toInt tA.toInt from hq3_2) hq6_km)]; exact zisS_b hq19_2 hq19_k.1 (by decide)
      obtain ⟨p0, hc0, hs0, hb0⟩ := zAv_q ha hs40
      have hc9 := zCv_b hc0 (show zbg tx en.toInt x_23.toInt = _ from (zb1 hq19_2 hq19_k.1 (by omega)).trans (by rw [zbz (zBe (show _ = zbg tx en.toInt tA.toInt from hq3_2) hq6_km)]))
      refine lv_aload_n hx hb dX12_atom_98 rfl (lv_at hl 3 rfl) ?_
      refine mcallV' (g := g) (q0 := 0) (ci := 10) (As := []) (rest := []) St hK hT hA hP hD hS hl.1 [0] [] rfl rfl rfl (m_someV6 l g o a th hi ac tp en x_23 iD iO tU fm fk fa fc ft ff fb fi tx ev p0 bv hen (by first | assumption | omega | decide | exact Or.inl (by decide) | exact Or.inr (by decide)) (by first | assumption | omega | decide | exact Or.inl (by decide) | exact Or.inr (by decide)) hff hdr how (by first | assumption | omega | decide | exact Or.inl (by decide) | exact Or.inr (by decide)) htx) (cwV 0 hts (zgL (zl4 k954 k955 k956 k839) k958) rfl rfl rfl (by decide +kernel) ⟨Nat.le_of_ble_eq_true rfl, Nat.le_of_ble_eq_true rfl⟩) rfl rfl rfl rfl (Nat.le_of_ble_eq_true rfl) dX12_atom_99 ⟨(Nat.le_of_ble_eq_true rfl), (Nat.le_of_ble_eq_true rfl)⟩ (fun at2_24 H locs hq25 hP hD hS => ?_)
      replace hq25 : (0 ≤ at2_24.toInt ∧ at2_24.toInt ≤ en.toInt + 7 - 6) ∧ (x_23.toInt ≤ at2_24.toInt) ∧ (zbg tx en.toInt at2_24.toInt = p0) := hq25
      have hP : va_P g.1 vwCl (List.flatten [bMo g o a th hi ac tp 379 en at2_24 (-1) 6 iD iO tU fm fk fa fc ft ff fb fi]) H := hP
      have hD : va_D A (List.flatten [bMo g o a th hi ac tp 379 en at2_24 (-1) 6 iD iO tU fm fk fa fc ft ff fb fi]) := hD
      refine W.widen (k := 0) (n := 0) (Nat.le_of_ble_eq_true rfl) (Nat.le_of_ble_eq_true rfl) ?_
      refine W.eq (g2 := F0 m 102 ls [.int (zBi bv)]) rfl ?_
      obtain ⟨hq25_0, hq25_1, hq25_2⟩ := hq25
      refine lv_istore_n (lv' := [(3, .int (zBi bv)), (2, .int 0), (1, .int at2_2), (0, .ref o)]) hx hb dX12_atom_102 rfl hl (by decide) rfl (fun ls hl => ?_)
      refine lv_aload_n hx hb dX12_atom_103 rfl (lv_at hl 3 rfl) ?_
      refine va_get (D := g.1) (ci := 10) (v := .int (-1)) (C := RX12) (T := TX12) (N := 20) hx hb hts izRX12 hown hK hP 0 rfl rfl 12 (by decide) (hts _ k820) (fun _ h9 => h9) rfl dX12_atom_104 ?_
      refine lv_iconst (v := (-1)) hx hb dX12_atom_107 (by decide) ?_
      refine lv_icmp_ne (tgt := 128) hx hb dX12_atom_108 (by decide) (fun c26 => absurd (by decide) c26) (fun _ => ?_)
      refine lv_aload_n hx hb dX12_atom_111 rfl (lv_at hl 3 rfl) ?_
      refine lv_bipush (v := 41) hx hb dX12_atom_112 (by decide) ?_
      have hL6 : (6 : Int32).toInt = 6 := by decide
      have hL41 : (41 : Int32).toInt = 41 := by decide
      refine mcallV' (g := g) (q0 := 0) (ci := 10) (As := [.int 41]) (rest := []) St hK hT hA hP hD hS hl.1 [0] [] rfl rfl rfl (m_isSignH l g o a th hi ac tp en at2_24 (-1) 6 iD iO tU fm fk fa fc ft ff fb fi 41 tx hen (by first | assumption | omega | decide | exact Or.inl (by decide) | exact Or.inr (by decide)) (by decide) (by first | assumption | omega | decide | exact Or.inl (by decide) | exact Or.inr (by decide)) htx) (cwV 1 hts (zgL (zl4 k938 k939 k940 k839) k883) rfl rfl rfl (by decide +kernel) ⟨Nat.le_of_ble_eq_true rfl, Nat.le_of_ble_eq_true rfl⟩) rfl rfl rfl rfl (Nat.le_of_ble_eq_true rfl) dX12_atom_114 ⟨(Nat.le_of_ble_eq_true rfl), (Nat.le_of_ble_eq_true rfl)⟩ (fun u_ H locs hq29 hP hD hS => ?_)
      obtain ⟨at2_27, q_28⟩ := u_
      replace hq29 : (0 ≤ at2_27.toInt ∧ at2_27.toInt ≤ en.toInt + 7 - (6 : Int32).toInt) ∧ (at2_24.toInt ≤ at2_27.toInt) ∧ (zSk tx en.toInt at2_24.toInt at2_27.toInt) ∧ (q_28 = 1 ∧ zisS tx en.toInt at2_27.toInt (41 : Int32).toInt ∧ at2_27.toInt < en.toInt ∨ q_28 = 0 ∧ ¬ zisS tx en.toInt at2_27.toInt (41 : Int32).toInt) := hq29
      have hP : va_P g.1 vwCl (List.flatten [bMo g o a th hi ac tp 379 en at2_27 (-1) 6 iD iO tU fm fk fa fc ft ff fb fi]) H := hP
      have hD : va_D A (List.flatten [bMo g o a th hi ac tp 379 en at2_27 (-1) 6 iD iO tU fm fk fa fc ft ff fb fi]) := hD
      refine W.widen (k := 0) (n := 0) (Nat.le_of_ble_eq_true rfl) (Nat.le_of_ble_eq_true rfl) ?_
      refine W.eq (g2 := F0 m 117 ls [.int q_28]) rfl ?_
      obtain ⟨hq29_0, hq29_1, hq29_2, hq29_3⟩ := hq29
      rcases hq29_3 with ⟨rfl, hq29_k⟩ | ⟨rfl, hq29_k⟩
      · skip
        refine lv_if_ne (tgt := 128) hx hb dX12_atom_117 (by decide) (fun _ => ?_) (fun c30 => absurd c30 (by decide))
        refine lv_aload_n hx hb dX12_atom_128 rfl (lv_at hl 3 rfl) ?_
        refine lv_dup hx hb dX12_atom_129 rfl ?_
        refine va_get (D := g.1) (ci := 10) (v := .int at2_27) (C := RX12) (T := TX12) (N := 20) hx hb hts izRX12 hown hK hP 0 rfl rfl 11 (by decide) (hts _ k878) (fun _ h9 => h9) rfl dX12_atom_130 ?_
        refine lv_iconst (v := 1) hx hb dX12_atom_133 (by decide) ?_
        refine lv_iadd hx hb dX12_atom_134 ?_
        refine zgv (zadd (i := at2_27.toInt) (j := 1) rfl (by decide) (by omega)) (fun x_31 hx_31 => ?_)
        refine va_put (D := g.1) (ci := 10) (v := .int x_31) (ty := .int) (C := RX12) (T := TX12) (N := 20) hx hb hts izRX12 tyX12 tyX12_ok nmX12 hown hK hP hD hS 0 rfl rfl 11 (by decide) (hts _ k878) (fun _ h9 => h9) rfl (by decide +kernel) rfl rfl (Nat.le_of_ble_eq_true rfl) dX12_atom_135 (fun H locs hP hD hS => ?_)
        have hP : va_P g.1 vwCl (List.flatten [bMo g o a th hi ac tp 379 en x_31 (-1) 6 iD iO tU fm fk fa fc ft ff fb fi]) H := hP
        have hD : va_D A (List.flatten [bMo g o a th hi ac tp 379 en x_31 (-1) 6 iD iO tU fm fk fa fc ft ff fb fi]) := hD
        refine lv_aload_n hx hb dX12_atom_138 rfl (lv_at hl 3 rfl) ?_
        refine lv_dup hx hb dX12_atom_139 rfl ?_
        refine va_get (D := g.1) (ci := 10) (v := .int 6) (C := RX12) (T := TX12) (N := 20) hx hb hts izRX12 hown hK hP 0 rfl rfl 13 (by decide) (hts _ k933) (fun _ h9 => h9) rfl dX12_atom_140 ?_
        refine lv_iconst (v := 1) hx hb dX12_atom_143 (by decide) ?_
        refine lv_isub hx hb dX12_atom_144 ?_
        refine ztop (r := 5) (by decide) ?_
        refine va_put (D := g.1) (ci := 10) (v := .int 5) (ty := .int) (C := RX12) (T := TX12) (N := 20) hx hb hts izRX12 tyX12 tyX12_ok nmX12 hown hK hP hD hS 0 rfl rfl 13 (by decide) (hts _ k933) (fun _ h9 => h9) rfl (by decide +kernel) rfl rfl (Nat.le_of_ble_eq_true rfl) dX12_atom_145 (fun H locs hP hD hS => ?_)
        have hP : va_P g.1 vwCl (List.flatten [bMo g o a th hi ac tp 379 en x_31 (-1) 5 iD iO tU fm fk fa fc ft ff fb fi]) H := hP
        have hD : va_D A (List.flatten [bMo g o a th hi ac tp 379 en x_31 (-1) 5 iD iO tU fm fk fa fc ft ff fb fi]) := hD
        refine lv_iload_n hx hb dX12_atom_148 rfl (lv_at hl 0 rfl) ?_
        have hP : va_P g.1 vwCl (List.flatten [bMo g o a th hi ac tp 379 en x_31 (-1) 5 iD iO tU fm fk fa fc ft ff fb fi]) H := hP
        have hD : va_D A (List.flatten [bMo g o a th hi ac tp 379 en x_31 (-1) 5 iD iO tU fm fk fa fc ft ff fb fi]) := hD
        exact mret_z hx hb hr hlocks hS (Nat.le_of_ble_eq_true rfl) (Nat.le_of_ble_eq_true rfl) dX12_atom_149 (x_31) rfl (zb01 (zBi_01 _)) (show (0 ≤ x_31.toInt ∧ x_31.toInt ≤ en.toInt + 7 - 5) ∧ (tA.toInt ≤ x_31.toInt) ∧ (zbg tx en.toInt x_31.toInt = b1) from ⟨(by first | assumption | omega | decide), (by first | assumption | omega | decide), ((zb1 hq29_2 hq29_k.1 (by omega)).trans (by rw [hq25_2]; exact hb0.symm))⟩) hP hD
      · skip
        exact ((zisS_bn (d := 41) hq29_2 hq29_k (by decide)) (by rw [hq25_2]; exact hs0)).elim
    · skip
      refine lv_if_ne (tgt := 40) hx hb dX12_atom_32 (by decide) (fun c32 => absurd (by decide) c32) (fun _ => ?_)
      have hnd : ¬ zDeep tx en.toInt (zbg tx en.toInt tA.toInt) := zor_n (zBw (show _ = zbg tx en.toInt tA.toInt from hq3_2) hq6_k) (by rw [← zbz (zBe (show _ = zbg tx en.toInt tA.toInt from hq3_2) hq6_km)]; exact zisS_bn (d := 40) hq19_2 hq19_k (by decide))
      have hpl9 : zPlV tx en.toInt ev (zbg tx en.toInt at2_17.toInt) b1 bv := zPlV_b (zAv_p ha hnd) ((zbs hq19_2).trans (zbz (zBe (show _ = zbg tx en.toInt tA.toInt from hq3_2) hq6_km)))
      refine lv_aload_n hx hb dX12_atom_35 rfl (lv_at hl 2 rfl) ?_
      refine mcallV' (g := g) (q0 := 0) (ci := 10) (As := []) (rest := []) St hK hT hA hP hD hS hl.1 [0] [] rfl rfl rfl (m_plainV l g o a th hi ac tp en at2_17 5 iD iO tU fm fk fa fc ft ff fb fi tx ev b1 bv hen hq19_0 (by decide) hff hdr how (by first | assumption | omega | decide | exact Or.inl (by decide) | exact Or.inr (by decide)) htx) (cwV 0 hts (zgL (zl4 k948 k949 k950 k839) k947) rfl rfl rfl (by decide +kernel) ⟨Nat.le_of_ble_eq_true rfl, Nat.le_of_ble_eq_true rfl⟩) rfl rfl rfl rfl (Nat.le_of_ble_eq_true rfl) dX12_atom_36 ⟨(Nat.le_of_ble_eq_true rfl), (Nat.le_of_ble_eq_true rfl)⟩ (fun at2_33 H locs hq34 hP hD hS => ?_)
      replace hq34 : (0 ≤ at2_33.toInt ∧ at2_33.toInt ≤ en.toInt + 7 - (5 : Int32).toInt) ∧ (at2_17.toInt ≤ at2_33.toInt) ∧ (zbg tx en.toInt at2_33.toInt = b1) := hq34
      have hP : va_P g.1 vwCl (List.flatten [bMo g o a th hi ac tp 379 en at2_33 (-1) 5 iD iO tU fm fk fa fc ft ff fb fi]) H := hP
      have hD : va_D A (List.flatten [bMo g o a th hi ac tp 379 en at2_33 (-1) 5 iD iO tU fm fk fa fc ft ff fb fi]) := hD
      refine W.widen (k := 0) (n := 0) (Nat.le_of_ble_eq_true rfl) (Nat.le_of_ble_eq_true rfl) ?_
      refine W.eq (g2 := F0 m 39 ls [.int (zBi bv)]) rfl ?_
      obtain ⟨hq34_0, hq34_1, hq34_2⟩ := hq34
      have hP : va_P g.1 vwCl (List.flatten [bMo g o a th hi ac tp 379 en at2_33 (-1) 5 iD iO tU fm fk fa fc ft ff fb fi]) H := hP
      have hD : va_D A (List.flatten [bMo g o a th hi ac tp 379 en at2_33 (-1) 5 iD iO tU fm fk fa fc ft ff fb fi]) := hD
      exact mret_z hx hb hr hlocks hS (Nat.le_of_ble_eq_true rfl) (Nat.le_of_ble_eq_true rfl) dX12_atom_39 (at2_33) rfl (zb01 (zBi_01 _)) (show (0 ≤ at2_33.toInt ∧ at2_33.toInt ≤ en.toInt + 7 - 5) ∧ (tA.toInt ≤ at2_33.toInt) ∧ (zbg tx en.toInt at2_33.toInt = b1) from ⟨(by first | assumption | omega | decide), (by first | assumption | omega | decide), hq34_2⟩) hP hD
set_option maxRecDepth 100000 in
set_option maxHeartbeats 4000000 in
theorem m_everyV5 (l : Launch) (g : zG) (o : Nat) (a : Nat → Nat) (th : Int32) (hi : Int32) (ac : Int32) (tp : Int32) (en : Int32) (tA : Int32) (iD : Int32) (iO : Int32) (tU : Int32) (fm : Nat → Int32) (fk : Nat → Int32) (fa : Nat → Int32) (fc : Nat → Int32) (ft : Nat → Int32) (ff : Nat → Int32) (fb : Nat → Int32) (fi : Nat → Int32) (tx : Nat → Int32) (ev : Nat → Int32) (b1 : Int) (bv : Bool) (o9 : Bool) (hen : 0 ≤ en.toInt ∧ en.toInt ≤ 400) (htA : 0 ≤ tA.toInt ∧ tA.toInt ≤ en.toInt + 7 - 5) (hde : 0 ≤ 5 ∧ 5 ≤ 6) (hff : ∀ k9 : Nat, k9 < 6 → ff k9 = ev k9) (hdr : iD = zBi (zNz (ev 6))) (how : iO = zBi (zNz (ev 7))) (hc : zCv tx en.toInt (zAv tx en.toInt ev 1) o9 true (zbg tx en.toInt tA.toInt) b1 bv) (htx : ∀ k9 : Nat, (k9 : Int) < en.toInt → fm (379 + k9) = tx k9) : zM' g l yX12_every (Cond.code yX12_every cX12_every 3 (some .boolean) :: zB) ({ frames := 12, cells := 0, slots := 0, locals := 263 } : Room) [.ref o] [bMo g o a th hi ac tp 379 en tA (-1) 5 iD iO tU fm fk fa fc ft ff fb fi] (fun u : Int32 × Int32 × Bool => (fun (at2 : Int32) (q : Int32) (w9 : Bool) => some (.int q)) (u.1) (u.2.1) (u.2.2)) (fun u : Int32 × Int32 × Bool => (fun (at2 : Int32) (q : Int32) (w9 : Bool) => (0 ≤ at2.toInt ∧ at2.toInt ≤ en.toInt + 7 - 5) ∧ (tA.toInt ≤ at2.toInt) ∧ (q = zBi w9) ∧ (zCvE tx en.toInt (zAv tx en.toInt ev 1) o9 w9 (zbg tx en.toInt at2.toInt) b1 bv)) (u.1) (u.2.1) (u.2.2)) (fun u : Int32 × Int32 × Bool => (fun (at2 : Int32) (q : Int32) (w9 : Bool) => [bMo g o a th hi ac tp 379 en at2 (-1) 5 iD iO tU fm fk fa fc ft ff fb fi]) (u.1) (u.2.1) (u.2.2)) := by
  refine zM'.of (cc := cX12_every) (maxL := 3) (rt := (some .boolean)) (by decide) rfl (Nat.le_of_ble_eq_true rfl) ?_
  intro p e s m args below meth c A ls St hr hlocks hin hK hT hA hP hD hS hl
  obtain ⟨hx, hb, hml, hown, hts⟩ := id St
  have hl : lv_has ls 3 [(0, .ref o)] := hl
  obtain ⟨p0, w0, ha0, hm0⟩ := zCv_a hc
  refine lv_aload_n hx hb dX12_every_0 rfl (lv_at hl 0 rfl) ?_
  refine mcallV' (g := g) (q0 := 0) (ci := 10) (As := []) (rest := []) St hK hT hA hP hD hS hl.1 [0] [] rfl rfl rfl (m_atomV5 l g o a th hi ac tp en tA iD iO tU fm fk fa fc ft ff fb fi tx ev p0 w0 hen htA hde hff hdr how (by first | assumption | omega | decide | exact Or.inl (by decide) | exact Or.inr (by decide)) htx) (cwV 0 hts (zgL (zl4 k951 k952 k953 k839) k962) rfl rfl rfl (by decide +kernel) ⟨Nat.le_of_ble_eq_true rfl, Nat.le_of_ble_eq_true rfl⟩) rfl rfl rfl rfl (Nat.le_of_ble_eq_true rfl) dX12_every_1 ⟨(Nat.le_of_ble_eq_true rfl), (Nat.le_of_ble_eq_true rfl)⟩ (fun at2_1 H locs hq2 hP hD hS => ?_)
  replace hq2 : (0 ≤ at2_1.toInt ∧ at2_1.toInt ≤ en.toInt + 7 - 5) ∧ (tA.toInt ≤ at2_1.toInt) ∧ (zbg tx en.toInt at2_1.toInt = p0) := hq2
  have hP : va_P g.1 vwCl (List.flatten [bMo g o a th hi ac tp 379 en at2_1 (-1) 5 iD iO tU fm fk fa fc ft ff fb fi]) H := hP
  have hD : va_D A (List.flatten [bMo g o a th hi ac tp 379 en at2_1 (-1) 5 iD iO tU fm fk fa fc ft ff fb fi]) := hD
  refine W.widen (k := 0) (n := 0) (Nat.le_of_ble_eq_true rfl) (Nat.le_of_ble_eq_true rfl) ?_
  refine W.eq (g2 := F0 m 4 ls [.int (zBi w0)]) rfl ?_
  obtain ⟨hq2_0, hq2_1, hq2_2⟩ := hq2
  refine lv_istore_n (lv' := [(1, .int (zBi w0)), (0, .ref o)]) hx hb dX12_every_4 rfl hl (by decide) rfl (fun ls hl => ?_)
  have hl := lv_sub (l' := [(0, .ref o), (1, .int (zBi w0))]) hl [1, 0] rfl
  have LP5_9 : ∀ (kf : Nat) (x_3 : Int32) (x_4 : Int32), (0 ≤ x_4.toInt ∧ x_4.toInt ≤ 407) → (tA.toInt ≤ x_4.toInt) → (x_4.toInt ≤ en.toInt + 7 - 5) → (∃ a9, x_3 = zBi a9 ∧ zCvM tx en.toInt (zAv tx en.toInt ev 1) o9 a9 (zbg tx en.toInt x_4.toInt) b1 bv) → ∀ (H : Heap) (locs : List Loc) (ls : Array Slot), ((en.toInt + 8 - x_4.toInt).toNat) < kf → va_P g.1 vwCl (List.flatten [bMo g o a th hi ac tp 379 en x_4 (-1) 5 iD iO tU fm fk fa fc ft ff fb fi]) H → va_D A (List.flatten [bMo g o a th hi ac tp 379 en x_4 (-1) 5 iD iO tU fm fk fa fc ft ff fb fi]) → va_S A s.heap H locs → lv_has ls 3 [(0, .ref o), (1, .int x_3)] → W p l e ({ frames := 12, cells := 0, slots := 0, locals := 263 } : Room) s m args below meth c H locs (0) (0) (zF g (fun u : Int32 × Int32 × Bool => (fun (at2 : Int32) (q : Int32) (w9 : Bool) => some (.int q)) (u.1) (u.2.1) (u.2.2)) (fun u : Int32 × Int32 × Bool => (fun (at2 : Int32) (q : Int32) (w9 : Bool) => (0 ≤ at2.toInt ∧ at2.toInt ≤ en.toInt + 7 - 5) ∧ (tA.toInt ≤ at2.toInt) ∧ (q = zBi w9) ∧ (zCvE tx en.toInt (zAv tx en.toInt ev 1) o9 w9 (zbg tx en.toInt at2.toInt) b1 bv)) (u.1) (u.2.1) (u.2.2)) (fun u : Int32 × Int32 × Bool => (fun (at2 : Int32) (q : Int32) (w9 : Bool) => [bMo g o a th hi ac tp 379 en at2 (-1) 5 iD iO tU fm fk fa fc ft ff fb fi]) (u.1) (u.2.1) (u.2.2)) ({ frames := 12, cells := 0, slots := 0, locals := 263 } : Room) below args s A) (F0 m 5 ls []) := by
    intro kf
    induction kf with
    | zero => intro x_3 x_4 i5 i6 i7 i8 H locs ls hk; exact absurd hk (Nat.not_lt_zero _)
    | succ kf ih5_10 =>
      intro x_3 x_4 i5 i6 i7 i8 H locs ls hk5_10 hP hD hS hl
      refine lv_aload_n hx hb dX12_every_5 rfl (lv_at hl 0 rfl) ?_
      refine va_get (D := g.1) (ci := 10) (v := .int (-1)) (C := RX12) (T := TX12) (N := 20) hx hb hts izRX12 hown hK hP 0 rfl rfl 12 (by decide) (hts _ k820) (fun _ h9 => h9) rfl dX12_every_6 ?_
      refine lv_iconst (v := (-1)) hx hb dX12_every_9 (by decide) ?_
      refine lv_icmp_ne (tgt := 44) hx hb dX12_every_10 (by decide) (fun c11 => absurd (by decide) c11) (fun _ => ?_)
      obtain ⟨a12, e13, h14⟩ := i8
      refine lv_aload_n hx hb dX12_every_13 rfl (lv_at hl 0 rfl) ?_
      refine va_ldcS (q := g.2 100) hx hb hown (zra45 hT.2.1) dX12_every_14 ?_
      have hL5 : (5 : Int32).toInt = 5 := by decide
      refine mcallV' (g := g) (q0 := 0) (ci := 10) (As := [.ref (g.2 100)]) (rest := []) St hK hT hA hP hD hS hl.1 [0] [] rfl rfl rfl (m_hasH l g o a th hi ac tp en x_4 (-1) 5 iD iO tU fm fk fa fc ft ff fb fi tx (g.2 100) 45 zqa45 hen (by first | assumption | omega | decide | exact Or.inl (by decide) | exact Or.inr (by decide)) (by decide) htx rfl zla45 zna45 (zlitB zla45)) (cwV 1 hts (zgL (zl4 k899 k900 k901 k839) k889) rfl rfl rfl (by decide +kernel) ⟨Nat.le_of_ble_eq_true rfl, Nat.le_of_ble_eq_true rfl⟩) rfl rfl rfl rfl (Nat.le_of_ble_eq_true rfl) dX12_every_16 ⟨(Nat.le_of_ble_eq_true rfl), (Nat.le_of_ble_eq_true rfl)⟩ (fun u_ H locs hq17 hP hD hS => ?_)
      obtain ⟨at2_15, r_16⟩ := u_
      replace hq17 : (0 ≤ at2_15.toInt ∧ at2_15.toInt ≤ en.toInt + 7 - (5 : Int32).toInt) ∧ (x_4.toInt ≤ at2_15.toInt) ∧ (r_16 = 1 ∧ zisW tx en.toInt (zbg tx en.toInt x_4.toInt) zqa45.2.2.2 ∧ at2_15.toInt = znx tx en.toInt (zbg tx en.toInt x_4.toInt) ∧ x_4.toInt < at2_15.toInt ∧ at2_15.toInt ≤ en.toInt ∨ r_16 = 0 ∧ ¬ zisW tx en.toInt (zbg tx en.toInt x_4.toInt) zqa45.2.2.2 ∧ at2_15.toInt = zbg tx en.toInt x_4.toInt) := hq17
      have hP : va_P g.1 vwCl (List.flatten [bMo g o a th hi ac tp 379 en at2_15 (-1) 5 iD iO tU fm fk fa fc ft ff fb fi]) H := hP
      have hD : va_D A (List.flatten [bMo g o a th hi ac tp 379 en at2_15 (-1) 5 iD iO tU fm fk fa fc ft ff fb fi]) := hD
      refine W.widen (k := 0) (n := 0) (Nat.le_of_ble_eq_true rfl) (Nat.le_of_ble_eq_true rfl) ?_
      refine W.eq (g2 := F0 m 19 ls [.int r_16]) rfl ?_
      obtain ⟨hq17_0, hq17_1, hq17_2⟩ := hq17
      rcases hq17_2 with ⟨rfl, hq17_k, hq17_km⟩ | ⟨rfl, hq17_k, hq17_km⟩
      · skip
        refine lv_if_eq (tgt := 44) hx hb dX12_every_19 (by decide) (fun c18 => absurd c18 (by decide)) (fun _ => ?_)
        obtain ⟨p19, w20, h21, m22⟩ := zCv_a (zCvM_y h14 hq17_k)
        have h21 := zAv_b h21 (show zbg tx en.toInt at2_15.toInt = _ from zbt hq17_km.1)
        refine lv_aload_n hx hb dX12_every_22 rfl (lv_at hl 0 rfl) ?_
        refine mcallV' (g := g) (q0 := 0) (ci := 10) (As := []) (rest := []) St hK hT hA hP hD hS hl.1 [0] [] rfl rfl rfl (m_atomV5 l g o a th hi ac tp en at2_15 iD iO tU fm fk fa fc ft ff fb fi tx ev p19 w20 hen (by first | assumption | omega | decide | exact Or.inl (by decide) | exact Or.inr (by decide)) hde hff hdr how (by first | assumption | omega | decide | exact Or.inl (by decide) | exact Or.inr (by decide)) htx) (cwV 0 hts (zgL (zl4 k951 k952 k953 k839) k962) rfl rfl rfl (by decide +kernel) ⟨Nat.le_of_ble_eq_true rfl, Nat.le_of_ble_eq_true rfl⟩) rfl rfl rfl rfl (Nat.le_of_ble_eq_true rfl) dX12_every_23 ⟨(Nat.le_of_ble_eq_true rfl), (Nat.le_of_ble_eq_true rfl)⟩ (fun at2_23 H locs hq24 hP hD hS => ?_)
        replace hq24 : (0 ≤ at2_23.toInt ∧ at2_23.toInt ≤ en.toInt + 7 - 5) ∧ (at2_15.toInt ≤ at2_23.toInt) ∧ (zbg tx en.toInt at2_23.toInt = p19) := hq24
        have hP : va_P g.1 vwCl (List.flatten [bMo g o a th hi ac tp 379 en at2_23 (-1) 5 iD iO tU fm fk fa fc ft ff fb fi]) H := hP
        have hD : va_D A (List.flatten [bMo g o a th hi ac tp 379 en at2_23 (-1) 5 iD iO tU fm fk fa fc ft ff fb fi]) := hD
        refine W.widen (k := 0) (n := 0) (Nat.le_of_ble_eq_true rfl) (Nat.le_of_ble_eq_true rfl) ?_
        refine W.eq (g2 := F0 m 26 ls [.int (zBi w20)]) rfl ?_
        obtain ⟨hq24_0, hq24_1, hq24_2⟩ := hq24
        refine lv_istore_n (lv' := [(2, .int (zBi w20)), (0, .ref o), (1, .int x_3)]) hx hb dX12_every_26 rfl hl (by decide) rfl (fun ls hl => ?_)
        refine lv_iload_n hx hb dX12_every_27 rfl (lv_at hl 2 rfl) ?_
        refine lv_if_eq (tgt := 39) hx hb dX12_every_28 (by decide) (fun cb9 => ?_) (fun cb9 => ?_)
        · skip
          have c25 : x_3.toInt = 0 := zeq cb9 rfl (by decide)
          have n26 : 0 ≤ x_3.toInt := Int.le_trans (Int.le_refl _) (Int.le_of_eq c25.symm)
          have n27 : x_3.toInt ≤ 0 := Int.le_trans (Int.le_of_eq c25) (Int.le_refl _)
          refine lv_iconst (v := 0) hx hb dX12_every_39 (by decide) ?_
          refine lv_istore_n (lv' := [(1, .int 0), (2, .int (zBi w20)), (0, .ref o)]) hx hb dX12_every_40 rfl hl (by decide) rfl (fun ls hl => ?_)
          refine lv_goto (tgt := 5) hx hb dX12_every_41 (by decide) ?_
          have hl := lv_sub (l' := [(0, .ref o), (1, .int 0), (2, .int (zBi w20))]) hl [2, 0, 1] rfl
          have hL0 : (0 : Int32).toInt = 0 := by decide
          have hP : va_P g.1 vwCl (List.flatten [bMo g o a th hi ac tp 379 en at2_23 (-1) 5 iD iO tU fm fk fa fc ft ff fb fi]) H := hP
          have hD : va_D A (List.flatten [bMo g o a th hi ac tp 379 en at2_23 (-1) 5 iD iO tU fm fk fa fc ft ff fb fi]) := hD
          exact ih5_10 0 at2_23 (by first | omega | assumption | decide) (by first | omega | assumption | decide) (by first | omega | assumption | decide) ⟨(a12 && w20), (zBiA0 (by rw [← e13]; omega)), zCM_b m22 hq24_2⟩ H _ ls (by omega)  hP hD hS (lv_sub hl [0, 1] rfl)
        · skip
          have c28 : ¬ x_3.toInt = 0 := zne cb9 rfl (by decide)
          refine lv_iload_n hx hb dX12_every_31 rfl (lv_at hl 0 rfl) ?_
          refine lv_if_eq (tgt := 39) hx hb dX12_every_32 (by decide) (fun cb9 => ?_) (fun cb9 => ?_)
          · skip
            have c29 : (zBi w20).toInt = 0 := zeq cb9 rfl (by decide)
            have n30 : 0 ≤ (zBi w20).toInt := Int.le_trans (Int.le_refl _) (Int.le_of_eq c29.symm)
            have n31 : (zBi w20).toInt ≤ 0 := Int.le_trans (Int.le_of_eq c29) (Int.le_refl _)
            refine lv_iconst (v := 0) hx hb dX12_every_39 (by decide) ?_
            refine lv_istore_n (lv' := [(1, .int 0), (2, .int (zBi w20)), (0, .ref o)]) hx hb dX12_every_40 rfl hl (by decide) rfl (fun ls hl => ?_)
            refine lv_goto (tgt := 5) hx hb dX12_every_41 (by decide) ?_
            have hl := lv_sub (l' := [(0, .ref o), (1, .int 0), (2, .int (zBi w20))]) hl [2, 0, 1] rfl
            have hL0 : (0 : Int32).toInt = 0 := by decide
            have hP : va_P g.1 vwCl (List.flatten [bMo g o a th hi ac tp 379 en at2_23 (-1) 5 iD iO tU fm fk fa fc ft ff fb fi]) H := hP
            have hD : va_D A (List.flatten [bMo g o a th hi ac tp 379 en at2_23 (-1) 5 iD iO tU fm fk fa fc ft ff fb fi]) := hD
            exact ih5_10 0 at2_23 (by first | omega | assumption | decide) (by first | omega | assumption | decide) (by first | omega | assumption | decide) ⟨(a12 && w20), (zBiA1 (by omega)), zCM_b m22 hq24_2⟩ H _ ls (by omega)  hP hD hS (lv_sub hl [0, 1] rfl)
          · skip
            have c32 : ¬ (zBi w20).toInt = 0 := zne cb9 rfl (by decide)
            refine lv_iconst (v := 1) hx hb dX12_every_35 (by decide) ?_
            refine lv_goto (tgt := 40) hx hb dX12_every_36 (by decide) ?_
            refine lv_istore_n (lv' := [(1, .int 1), (2, .int (zBi w20)), (0, .ref o)]) hx hb dX12_every_40 rfl hl (by decide) rfl (fun ls hl => ?_)
            refine lv_goto (tgt := 5) hx hb dX12_every_41 (by decide) ?_
            have hl := lv_sub (l' := [(0, .ref o), (1, .int 1), (2, .int (zBi w20))]) hl [2, 0, 1] rfl
            have hL1 : (1 : Int32).toInt = 1 := by decide
            have hP : va_P g.1 vwCl (List.flatten [bMo g o a th hi ac tp 379 en at2_23 (-1) 5 iD iO tU fm fk fa fc ft ff fb fi]) H := hP
            have hD : va_D A (List.flatten [bMo g o a th hi ac tp 379 en at2_23 (-1) 5 iD iO tU fm fk fa fc ft ff fb fi]) := hD
            exact ih5_10 1 at2_23 (by first | omega | assumption | decide) (by first | omega | assumption | decide) (by first | omega | assumption | decide) ⟨(a12 && w20), (zBiA (by rw [← e13]; omega) (by omega)), zCM_b m22 hq24_2⟩ H _ ls (by omega)  hP hD hS (lv_sub hl [0, 1] rfl)
      · skip
        refine lv_if_eq (tgt := 44) hx hb dX12_every_19 (by decide) (fun _ => ?_) (fun c33 => absurd (by decide) c33)
        refine lv_iload_n hx hb dX12_every_44 rfl (lv_at hl 1 rfl) ?_
        have hP : va_P g.1 vwCl (List.flatten [bMo g o a th hi ac tp 379 en at2_15 (-1) 5 iD iO tU fm fk fa fc ft ff fb fi]) H := hP
        have hD : va_D A (List.flatten [bMo g o a th hi ac tp 379 en at2_15 (-1) 5 iD iO tU fm fk fa fc ft ff fb fi]) := hD
        exact mret_z hx hb hr hlocks hS (Nat.le_of_ble_eq_true rfl) (Nat.le_of_ble_eq_true rfl) dX12_every_45 (at2_15, x_3, a12) rfl (zb01 (by rw [e13]; exact zBi_01 _)) (show (0 ≤ at2_15.toInt ∧ at2_15.toInt ≤ en.toInt + 7 - 5) ∧ (tA.toInt ≤ at2_15.toInt) ∧ (x_3 = zBi a12) ∧ (zCvE tx en.toInt (zAv tx en.toInt ev 1) o9 a12 (zbg tx en.toInt at2_15.toInt) b1 bv) from ⟨(by first | assumption | omega | decide), (by first | assumption | omega | decide), e13, zCE_b (zCvM_n h14 hq17_k) (zbz hq17_km)⟩) hP hD
  have hP : va_P g.1 vwCl (List.flatten [bMo g o a th hi ac tp 379 en at2_1 (-1) 5 iD iO tU fm fk fa fc ft ff fb fi]) H := hP
  have hD : va_D A (List.flatten [bMo g o a th hi ac tp 379 en at2_1 (-1) 5 iD iO tU fm fk fa fc ft ff fb fi]) := hD
  exact LP5_9 _ (zBi w0) at2_1 (by first | omega | assumption | decide) hq2_1 (by first | omega | assumption | decide) ⟨w0, rfl, zCvM_w (zCM_b hm0 hq2_2)⟩ H _ ls (Nat.lt_succ_self _)  hP hD hS (lv_sub hl [0, 1] rfl)
set_option maxRecDepth 100000 in
set_option maxHeartbeats 4000000 in
theorem m_someV5 (l : Launch) (g : zG) (o : Nat) (a : Nat → Nat) (th : Int32) (hi : Int32) (ac : Int32) (tp : Int32) (en : Int32) (tA : Int32) (iD : Int32) (iO : Int32) (tU : Int32) (fm : Nat → Int32) (fk : Nat → Int32) (fa : Nat → Int32) (fc : Nat → Int32) (ft : Nat → Int32) (ff : Nat → Int32) (fb : Nat → Int32) (fi : Nat → Int32) (tx : Nat → Int32) (ev : Nat → Int32) (b1 : Int) (bv : Bool) (hen : 0 ≤ en.toInt ∧ en.toInt ≤ 400) (htA : 0 ≤ tA.toInt ∧ tA.toInt ≤ en.toInt + 7 - 5) (hde : 0 ≤ 5 ∧ 5 ≤ 6) (hff : ∀ k9 : Nat, k9 < 6 → ff k9 = ev k9) (hdr : iD = zBi (zNz (ev 6))) (how : iO = zBi (zNz (ev 7))) (hc : zCv tx en.toInt (zAv tx en.toInt ev 1) false true (zbg tx en.toInt tA.toInt) b1 bv) (htx : ∀ k9 : Nat, (k9 : Int) < en.toInt → fm (379 + k9) = tx k9) : zM' g l yX12_some (Cond.code yX12_some cX12_some 3 (some .boolean) :: zB) ({ frames := 13, cells := 0, slots := 0, locals := 285 } : Room) [.ref o] [bMo g o a th hi ac tp 379 en tA (-1) 5 iD iO tU fm fk fa fc ft ff fb fi] (fun (at2 : Int32) => some (.int (zBi bv))) (fun (at2 : Int32) => (0 ≤ at2.toInt ∧ at2.toInt ≤ en.toInt + 7 - 5) ∧ (tA.toInt ≤ at2.toInt) ∧ (zbg tx en.toInt at2.toInt = b1)) (fun (at2 : Int32) => [bMo g o a th hi ac tp 379 en at2 (-1) 5 iD iO tU fm fk fa fc ft ff fb fi]) := by
  refine zM'.of (cc := cX12_some) (maxL := 3) (rt := (some .boolean)) (by decide) rfl (Nat.le_of_ble_eq_true rfl) ?_
  intro p e s m args below meth c A ls St hr hlocks hin hK hT hA hP hD hS hl
  obtain ⟨hx, hb, hml, hown, hts⟩ := id St
  have hl : lv_has ls 3 [(0, .ref o)] := hl
  refine lv_aload_n hx hb dX12_some_0 rfl (lv_at hl 0 rfl) ?_
  refine mcallV' (g := g) (q0 := 0) (ci := 10) (As := []) (rest := []) St hK hT hA hP hD hS hl.1 [0] [] rfl rfl rfl (m_everyV5 l g o a th hi ac tp en tA iD iO tU fm fk fa fc ft ff fb fi tx ev b1 bv false hen htA hde hff hdr how hc htx) (cwV 0 hts (zgL (zl4 k959 k960 k961 k839) k957) rfl rfl rfl (by decide +kernel) ⟨Nat.le_of_ble_eq_true rfl, Nat.le_of_ble_eq_true rfl⟩) rfl rfl rfl rfl (Nat.le_of_ble_eq_true rfl) dX12_some_1 ⟨(Nat.le_of_ble_eq_true rfl), (Nat.le_of_ble_eq_true rfl)⟩ (fun u_ H locs hq4 hP hD hS => ?_)
  obtain ⟨at2_1, q_2, w9_3⟩ := u_
  replace hq4 : (0 ≤ at2_1.toInt ∧ at2_1.toInt ≤ en.toInt + 7 - 5) ∧ (tA.toInt ≤ at2_1.toInt) ∧ (q_2 = zBi w9_3) ∧ (zCvE tx en.toInt (zAv tx en.toInt ev 1) false w9_3 (zbg tx en.toInt at2_1.toInt) b1 bv) := hq4
  have hP : va_P g.1 vwCl (List.flatten [bMo g o a th hi ac tp 379 en at2_1 (-1) 5 iD iO tU fm fk fa fc ft ff fb fi]) H := hP
  have hD : va_D A (List.flatten [bMo g o a th hi ac tp 379 en at2_1 (-1) 5 iD iO tU fm fk fa fc ft ff fb fi]) := hD
  refine W.widen (k := 0) (n := 0) (Nat.le_of_ble_eq_true rfl) (Nat.le_of_ble_eq_true rfl) ?_
  refine W.eq (g2 := F0 m 4 ls [.int q_2]) rfl ?_
  obtain ⟨hq4_0, hq4_1, hq4_2, hq4_3⟩ := hq4
  refine lv_istore_n (lv' := [(1, .int q_2), (0, .ref o)]) hx hb dX12_some_4 rfl hl (by decide) rfl (fun ls hl => ?_)
  have hl := lv_sub (l' := [(0, .ref o), (1, .int q_2)]) hl [1, 0] rfl
  have LP5_11 : ∀ (kf : Nat) (x_5 : Int32) (x_6 : Int32), (0 ≤ x_6.toInt ∧ x_6.toInt ≤ 407) → (tA.toInt ≤ x_6.toInt) → (x_6.toInt ≤ en.toInt + 7 - 5) → (∃ a9, x_5 = zBi a9 ∧ zCvO tx en.toInt (zAv tx en.toInt ev 1) a9 (zbg tx en.toInt x_6.toInt) b1 bv) → ∀ (H : Heap) (locs : List Loc) (ls : Array Slot), ((en.toInt + 8 - x_6.toInt).toNat) < kf → va_P g.1 vwCl (List.flatten [bMo g o a th hi ac tp 379 en x_6 (-1) 5 iD iO tU fm fk fa fc ft ff fb fi]) H → va_D A (List.flatten [bMo g o a th hi ac tp 379 en x_6 (-1) 5 iD iO tU fm fk fa fc ft ff fb fi]) → va_S A s.heap H locs → lv_has ls 3 [(0, .ref o), (1, .int x_5)] → W p l e ({ frames := 13, cells := 0, slots := 0, locals := 285 } : Room) s m args below meth c H locs (0) (0) (zF g (fun (at2 : Int32) => some (.int (zBi bv))) (fun (at2 : Int32) => (0 ≤ at2.toInt ∧ at2.toInt ≤ en.toInt + 7 - 5) ∧ (tA.toInt ≤ at2.toInt) ∧ (zbg tx en.toInt at2.toInt = b1)) (fun (at2 : Int32) => [bMo g o a th hi ac tp 379 en at2 (-1) 5 iD iO tU fm fk fa fc ft ff fb fi]) ({ frames := 13, cells := 0, slots := 0, locals := 285 } : Room) below args s A) (F0 m 5 ls []) := by
    intro kf
    induction kf with
    | zero => intro x_5 x_6 i7 i8 i9 i10 H locs ls hk; exact absurd hk (Nat.not_lt_zero _)
    | succ kf ih5_12 =>
      intro x_5 x_6 i7 i8 i9 i10 H locs ls hk5_12 hP hD hS hl
      refine lv_aload_n hx hb dX12_some_5 rfl (lv_at hl 0 rfl) ?_
      refine va_get (D := g.1) (ci := 10) (v := .int (-1)) (C := RX12) (T := TX12) (N := 20) hx hb hts izRX12 hown hK hP 0 rfl rfl 12 (by decide) (hts _ k820) (fun _ h9 => h9) rfl dX12_some_6 ?_
      refine lv_iconst (v := (-1)) hx hb dX12_some_9 (by decide) ?_
      refine lv_icmp_ne (tgt := 44) hx hb dX12_some_10 (by decide) (fun c13 => absurd (by decide) c13) (fun _ => ?_)
      obtain ⟨a14, e15, h16⟩ := i10
      refine lv_aload_n hx hb dX12_some_13 rfl (lv_at hl 0 rfl) ?_
      refine va_ldcS (q := g.2 102) hx hb hown (zra46 hT.2.1) dX12_some_14 ?_
      have hL5 : (5 : Int32).toInt = 5 := by decide
      refine mcallV' (g := g) (q0 := 0) (ci := 10) (As := [.ref (g.2 102)]) (rest := []) St hK hT hA hP hD hS hl.1 [0] [] rfl rfl rfl (m_hasH l g o a th hi ac tp en x_6 (-1) 5 iD iO tU fm fk fa fc ft ff fb fi tx (g.2 102) 46 zqa46 hen (by first | assumption | omega | decide | exact Or.inl (by decide) | exact Or.inr (by decide)) (by decide) htx rfl zla46 zna46 (zlitB zla46)) (cwV 1 hts (zgL (zl4 k899 k900 k901 k839) k889) rfl rfl rfl (by decide +kernel) ⟨Nat.le_of_ble_eq_true rfl, Nat.le_of_ble_eq_true rfl⟩) rfl rfl rfl rfl (Nat.le_of_ble_eq_true rfl) dX12_some_16 ⟨(Nat.le_of_ble_eq_true rfl), (Nat.le_of_ble_eq_true rfl)⟩ (fun u_ H locs hq19 hP hD hS => ?_)
      obtain ⟨at2_17, r_18⟩ := u_
      replace hq19 : (0 ≤ at2_17.toInt ∧ at2_17.toInt ≤ en.toInt + 7 - (5 : Int32).toInt) ∧ (x_6.toInt ≤ at2_17.toInt) ∧ (r_18 = 1 ∧ zisW tx en.toInt (zbg tx en.toInt x_6.toInt) zqa46.2.2.2 ∧ at2_17.toInt = znx tx en.toInt (zbg tx en.toInt x_6.toInt) ∧ x_6.toInt < at2_17.toInt ∧ at2_17.toInt ≤ en.toInt ∨ r_18 = 0 ∧ ¬ zisW tx en.toInt (zbg tx en.toInt x_6.toInt) zqa46.2.2.2 ∧ at2_17.toInt = zbg tx en.toInt x_6.toInt) := hq19
      have hP : va_P g.1 vwCl (List.flatten [bMo g o a th hi ac tp 379 en at2_17 (-1) 5 iD iO tU fm fk fa fc ft ff fb fi]) H := hP
      have hD : va_D A (List.flatten [bMo g o a th hi ac tp 379 en at2_17 (-1) 5 iD iO tU fm fk fa fc ft ff fb fi]) := hD
      refine W.widen (k := 0) (n := 0) (Nat.le_of_ble_eq_true rfl) (Nat.le_of_ble_eq_true rfl) ?_
      refine W.eq (g2 := F0 m 19 ls [.int r_18]) rfl ?_
      obtain ⟨hq19_0, hq19_1, hq19_2⟩ := hq19
      rcases hq19_2 with ⟨rfl, hq19_k, hq19_km⟩ | ⟨rfl, hq19_k, hq19_km⟩
      · skip
        refine lv_if_eq (tgt := 44) hx hb dX12_some_19 (by decide) (fun c20 => absurd c20 (by decide)) (fun _ => ?_)
        have h21 := zCv_b (zCvO_y h16 hq19_k) (show zbg tx en.toInt at2_17.toInt = _ from zbt hq19_km.1)
        refine lv_aload_n hx hb dX12_some_22 rfl (lv_at hl 0 rfl) ?_
        refine mcallV' (g := g) (q0 := 0) (ci := 10) (As := []) (rest := []) St hK hT hA hP hD hS hl.1 [0] [] rfl rfl rfl (m_everyV5 l g o a th hi ac tp en at2_17 iD iO tU fm fk fa fc ft ff fb fi tx ev b1 bv a14 hen (by first | assumption | omega | decide | exact Or.inl (by decide) | exact Or.inr (by decide)) hde hff hdr how (by first | assumption | omega | decide | exact Or.inl (by decide) | exact Or.inr (by decide)) htx) (cwV 0 hts (zgL (zl4 k959 k960 k961 k839) k957) rfl rfl rfl (by decide +kernel) ⟨Nat.le_of_ble_eq_true rfl, Nat.le_of_ble_eq_true rfl⟩) rfl rfl rfl rfl (Nat.le_of_ble_eq_true rfl) dX12_some_23 ⟨(Nat.le_of_ble_eq_true rfl), (Nat.le_of_ble_eq_true rfl)⟩ (fun u_ H locs hq25 hP hD hS => ?_)
        obtain ⟨at2_22, q_23, w9_24⟩ := u_
        replace hq25 : (0 ≤ at2_22.toInt ∧ at2_22.toInt ≤ en.toInt + 7 - 5) ∧ (at2_17.toInt ≤ at2_22.toInt) ∧ (q_23 = zBi w9_24) ∧ (zCvE tx en.toInt (zAv tx en.toInt ev 1) a14 w9_24 (zbg tx en.toInt at2_22.toInt) b1 bv) := hq25
        have hP : va_P g.1 vwCl (List.flatten [bMo g o a th hi ac tp 379 en at2_22 (-1) 5 iD iO tU fm fk fa fc ft ff fb fi]) H := hP
        have hD : va_D A (List.flatten [bMo g o a th hi ac tp 379 en at2_22 (-1) 5 iD iO tU fm fk fa fc ft ff fb fi]) := hD
        refine W.widen (k := 0) (n := 0) (Nat.le_of_ble_eq_true rfl) (Nat.le_of_ble_eq_true rfl) ?_
        refine W.eq (g2 := F0 m 26 ls [.int q_23]) rfl ?_
        obtain ⟨hq25_0, hq25_1, hq25_2, hq25_3⟩ := hq25
        refine lv_istore_n (lv' := [(2, .int q_23), (0, .ref o), (1, .int x_5)]) hx hb dX12_some_26 rfl hl (by decide) rfl (fun ls hl => ?_)
        refine lv_iload_n hx hb dX12_some_27 rfl (lv_at hl 2 rfl) ?_
        refine lv_if_ne (tgt := 35) hx hb dX12_some_28 (by decide) (fun cb9 => ?_) (fun cb9 => ?_)
        · skip
          have c26 : ¬ x_5.toInt = 0 := zne cb9 rfl (by decide)
          refine lv_iconst (v := 1) hx hb dX12_some_35 (by decide) ?_
          refine lv_goto (tgt := 40) hx hb dX12_some_36 (by decide) ?_
          refine lv_istore_n (lv' := [(1, .int 1), (2, .int q_23), (0, .ref o)]) hx hb dX12_some_40 rfl hl (by decide) rfl (fun ls hl => ?_)
          refine lv_goto (tgt := 5) hx hb dX12_some_41 (by decide) ?_
          have hl := lv_sub (l' := [(0, .ref o), (1, .int 1), (2, .int q_23)]) hl [2, 0, 1] rfl
          have hL1 : (1 : Int32).toInt = 1 := by decide
          have hP : va_P g.1 vwCl (List.flatten [bMo g o a th hi ac tp 379 en at2_22 (-1) 5 iD iO tU fm fk fa fc ft ff fb fi]) H := hP
          have hD : va_D A (List.flatten [bMo g o a th hi ac tp 379 en at2_22 (-1) 5 iD iO tU fm fk fa fc ft ff fb fi]) := hD
          exact ih5_12 1 at2_22 (by first | omega | assumption | decide) (by first | omega | assumption | decide) (by first | omega | assumption | decide) ⟨_, (zBo1 (by rw [← e15]; omega)), zCvE_o hq25_3⟩ H _ ls (by omega)  hP hD hS (lv_sub hl [0, 1] rfl)
        · skip
          have c27 : x_5.toInt = 0 := zeq cb9 rfl (by decide)
          have n28 : 0 ≤ x_5.toInt := Int.le_trans (Int.le_refl _) (Int.le_of_eq c27.symm)
          have n29 : x_5.toInt ≤ 0 := Int.le_trans (Int.le_of_eq c27) (Int.le_refl _)
          refine lv_iload_n hx hb dX12_some_31 rfl (lv_at hl 0 rfl) ?_
          refine lv_if_eq (tgt := 39) hx hb dX12_some_32 (by decide) (fun cb9 => ?_) (fun cb9 => ?_)
          · skip
            have c30 : q_23.toInt = 0 := zeq cb9 rfl (by decide)
            have n31 : 0 ≤ q_23.toInt := Int.le_trans (Int.le_refl _) (Int.le_of_eq c30.symm)
            have n32 : q_23.toInt ≤ 0 := Int.le_trans (Int.le_of_eq c30) (Int.le_refl _)
            refine lv_iconst (v := 0) hx hb dX12_some_39 (by decide) ?_
            refine lv_istore_n (lv' := [(1, .int 0), (2, .int q_23), (0, .ref o)]) hx hb dX12_some_40 rfl hl (by decide) rfl (fun ls hl => ?_)
            refine lv_goto (tgt := 5) hx hb dX12_some_41 (by decide) ?_
            have hl := lv_sub (l' := [(0, .ref o), (1, .int 0), (2, .int q_23)]) hl [2, 0, 1] rfl
            have hL0 : (0 : Int32).toInt = 0 := by decide
            have hP : va_P g.1 vwCl (List.flatten [bMo g o a th hi ac tp 379 en at2_22 (-1) 5 iD iO tU fm fk fa fc ft ff fb fi]) H := hP
            have hD : va_D A (List.flatten [bMo g o a th hi ac tp 379 en at2_22 (-1) 5 iD iO tU fm fk fa fc ft ff fb fi]) := hD
            exact ih5_12 0 at2_22 (by first | omega | assumption | decide) (by first | omega | assumption | decide) (by first | omega | assumption | decide) ⟨_, (zBo0 (by rw [← e15]; omega) (by rw [← hq25_2]; omega)), zCvE_o hq25_3⟩ H _ ls (by omega)  hP hD hS (lv_sub hl [0, 1] rfl)
          · skip
            have c33 : ¬ q_23.toInt = 0 := zne cb9 rfl (by decide)
            refine lv_iconst (v := 1) hx hb dX12_some_35 (by decide) ?_
            refine lv_goto (tgt := 40) hx hb dX12_some_36 (by decide) ?_
            refine lv_istore_n (lv' := [(1, .int 1), (2, .int q_23), (0, .ref o)]) hx hb dX12_some_40 rfl hl (by decide) rfl (fun ls hl => ?_)
            refine lv_goto (tgt := 5) hx hb dX12_some_41 (by decide) ?_
            have hl := lv_sub (l' := [(0, .ref o), (1, .int 1), (2, .int q_23)]) hl [2, 0, 1] rfl
            have hL1 : (1 : Int32).toInt = 1 := by decide
            have hP : va_P g.1 vwCl (List.flatten [bMo g o a th hi ac tp 379 en at2_22 (-1) 5 iD iO tU fm fk fa fc ft ff fb fi]) H := hP
            have hD : va_D A (List.flatten [bMo g o a th hi ac tp 379 en at2_22 (-1) 5 iD iO tU fm fk fa fc ft ff fb fi]) := hD
            exact ih5_12 1 at2_22 (by first | omega | assumption | decide) (by first | omega | assumption | decide) (by first | omega | assumption | decide) ⟨_, (zBo2 (by rw [← hq25_2]; omega)), zCvE_o hq25_3⟩ H _ ls (by omega)  hP hD hS (lv_sub hl [0, 1] rfl)
      · skip
        refine lv_if_eq (tgt := 44) hx hb dX12_some_19 (by decide) (fun _ => ?_) (fun c34 => absurd (by decide) c34)
        refine lv_iload_n hx hb dX12_some_44 rfl (lv_at hl 1 rfl) ?_
        refine ztop (r := (zBi bv)) (by rw [(zCvO_n h16 hq19_k).2]; exact e15) ?_
        have hP : va_P g.1 vwCl (List.flatten [bMo g o a th hi ac tp 379 en at2_17 (-1) 5 iD iO tU fm fk fa fc ft ff fb fi]) H := hP
        have hD : va_D A (List.flatten [bMo g o a th hi ac tp 379 en at2_17 (-1) 5 iD iO tU fm fk fa fc ft ff fb fi]) := hD
        exact mret_z hx hb hr hlocks hS (Nat.le_of_ble_eq_true rfl) (Nat.le_of_ble_eq_true rfl) dX12_some_45 (at2_17) rfl (zb01 (zBi_01 _)) (show (0 ≤ at2_17.toInt ∧ at2_17.toInt ≤ en.toInt + 7 - 5) ∧ (tA.toInt ≤ at2_17.toInt) ∧ (zbg tx en.toInt at2_17.toInt = b1) from ⟨(by first | assumption | omega | decide), (by first | assumption | omega | decide), ((zbz hq19_km).trans (zCvO_n h16 hq19_k).1.symm)⟩) hP hD
  have hP : va_P g.1 vwCl (List.flatten [bMo g o a th hi ac tp 379 en at2_1 (-1) 5 iD iO tU fm fk fa fc ft ff fb fi]) H := hP
  have hD : va_D A (List.flatten [bMo g o a th hi ac tp 379 en at2_1 (-1) 5 iD iO tU fm fk fa fc ft ff fb fi]) := hD
  exact LP5_11 _ q_2 at2_1 (by first | omega | assumption | decide) hq4_1 (by first | omega | assumption | decide) ⟨_, hq4_2, zCvO_w (zCvE_o hq4_3)⟩ H _ ls (Nat.lt_succ_self _)  hP hD hS (lv_sub hl [0, 1] rfl)
set_option maxRecDepth 100000 in
set_option maxHeartbeats 4000000 in
theorem m_atomV4 (l : Launch) (g : zG) (o : Nat) (a : Nat → Nat) (th : Int32) (hi : Int32) (ac : Int32) (tp : Int32) (en : Int32) (tA : Int32) (iD : Int32) (iO : Int32) (tU : Int32) (fm : Nat → Int32) (fk : Nat → Int32) (fa : Nat → Int32) (fc : Nat → Int32) (ft : Nat → Int32) (ff : Nat → Int32) (fb : Nat → Int32) (fi : Nat → Int32) (tx : Nat → Int32) (ev : Nat → Int32) (b1 : Int) (bv : Bool) (hen : 0 ≤ en.toInt ∧ en.toInt ≤ 400) (htA : 0 ≤ tA.toInt ∧ tA.toInt ≤ en.toInt + 7 - 4) (hde : 0 ≤ 4 ∧ 4 ≤ 6) (hff : ∀ k9 : Nat, k9 < 6 → ff k9 = ev k9) (hdr : iD = zBi (zNz (ev 6))) (how : iO = zBi (zNz (ev 7))) (ha : zAv tx en.toInt ev 2 (zbg tx en.toInt tA.toInt) b1 bv) (htx : ∀ k9 : Nat, (k9 : Int) < en.toInt → fm (379 + k9) = tx k9) : zM' g l yX12_atom (Cond.code yX12_atom cX12_atom 4 (some .boolean) :: zB) ({ frames := 14, cells := 0, slots := 0, locals := 307 } : Room) [.ref o] [bMo g o a th hi ac tp 379 en tA (-1) 4 iD iO tU fm fk fa fc ft ff fb fi] (fun (at2 : Int32) => some (.int (zBi bv))) (fun (at2 : Int32) => (0 ≤ at2.toInt ∧ at2.toInt ≤ en.toInt + 7 - 4) ∧ (tA.toInt ≤ at2.toInt) ∧ (zbg tx en.toInt at2.toInt = b1)) (fun (at2 : Int32) => [bMo g o a th hi ac tp 379 en at2 (-1) 4 iD iO tU fm fk fa fc ft ff fb fi]) := by
  refine zM'.of (cc := cX12_atom) (maxL := 4) (rt := (some .boolean)) (by decide) rfl (Nat.le_of_ble_eq_true rfl) ?_
  intro p e s m args below meth c A ls St hr hlocks hin hK hT hA hP hD hS hl
  obtain ⟨hx, hb, hml, hown, hts⟩ := id St
  have hl : lv_has ls 4 [(0, .ref o)] := hl
  refine lv_aload_n hx hb dX12_atom_0 rfl (lv_at hl 0 rfl) ?_
  refine va_get (D := g.1) (ci := 10) (v := .int (-1)) (C := RX12) (T := TX12) (N := 20) hx hb hts izRX12 hown hK hP 0 rfl rfl 12 (by decide) (hts _ k820) (fun _ h9 => h9) rfl dX12_atom_1 ?_
  refine lv_iconst (v := (-1)) hx hb dX12_atom_4 (by decide) ?_
  refine lv_icmp_eq (tgt := 10) hx hb dX12_atom_5 (by decide) (fun _ => ?_) (fun c1 => absurd (by decide) c1)
  refine lv_aload_n hx hb dX12_atom_10 rfl (lv_at hl 0 rfl) ?_
  have hL4 : (4 : Int32).toInt = 4 := by decide
  refine mcallV' (g := g) (q0 := 0) (ci := 10) (As := []) (rest := []) St hK hT hA hP hD hS hl.1 [0] [] rfl rfl rfl (m_hereH l g o a th hi ac tp en tA (-1) 4 iD iO tU fm fk fa fc ft ff fb fi tx hen (by first | assumption | omega | decide | exact Or.inl (by decide) | exact Or.inr (by decide)) (by decide) htx) (cwV 0 hts (zgL (zl4 k892 k893 k894 k839) k891) rfl rfl rfl (by decide +kernel) ⟨Nat.le_of_ble_eq_true rfl, Nat.le_of_ble_eq_true rfl⟩) rfl rfl rfl rfl (Nat.le_of_ble_eq_true rfl) dX12_atom_11 ⟨(Nat.le_of_ble_eq_true rfl), (Nat.le_of_ble_eq_true rfl)⟩ (fun at2_2 H locs hq3 hP hD hS => ?_)
  replace hq3 : (0 ≤ at2_2.toInt ∧ at2_2.toInt ≤ en.toInt + 7 - (4 : Int32).toInt) ∧ (tA.toInt ≤ at2_2.toInt) ∧ (zSk tx en.toInt tA.toInt at2_2.toInt) := hq3
  have hP : va_P g.1 vwCl (List.flatten [bMo g o a th hi ac tp 379 en at2_2 (-1) 4 iD iO tU fm fk fa fc ft ff fb fi]) H := hP
  have hD : va_D A (List.flatten [bMo g o a th hi ac tp 379 en at2_2 (-1) 4 iD iO tU fm fk fa fc ft ff fb fi]) := hD
  refine W.widen (k := 0) (n := 0) (Nat.le_of_ble_eq_true rfl) (Nat.le_of_ble_eq_true rfl) ?_
  refine W.eq (g2 := F0 m 14 ls [.int at2_2]) rfl ?_
  obtain ⟨hq3_0, hq3_1, hq3_2⟩ := hq3
  refine lv_istore_n (lv' := [(1, .int at2_2), (0, .ref o)]) hx hb dX12_atom_14 rfl hl (by decide) rfl (fun ls hl => ?_)
  refine lv_aload_n hx hb dX12_atom_15 rfl (lv_at hl 1 rfl) ?_
  refine va_ldcS (q := g.2 98) hx hb hown (zra44 hT.2.1) dX12_atom_16 ?_
  refine mcallV' (g := g) (q0 := 0) (ci := 10) (As := [.ref (g.2 98)]) (rest := []) St hK hT hA hP hD hS hl.1 [0] [] rfl rfl rfl (m_hasH l g o a th hi ac tp en at2_2 (-1) 4 iD iO tU fm fk fa fc ft ff fb fi tx (g.2 98) 44 zqa44 hen hq3_0 (by decide) htx rfl zla44 zna44 (zlitB zla44)) (cwV 1 hts (zgL (zl4 k899 k900 k901 k839) k889) rfl rfl rfl (by decide +kernel) ⟨Nat.le_of_ble_eq_true rfl, Nat.le_of_ble_eq_true rfl⟩) rfl rfl rfl rfl (Nat.le_of_ble_eq_true rfl) dX12_atom_18 ⟨(Nat.le_of_ble_eq_true rfl), (Nat.le_of_ble_eq_true rfl)⟩ (fun u_ H locs hq6 hP hD hS => ?_)
  obtain ⟨at2_4, r_5⟩ := u_
  replace hq6 : (0 ≤ at2_4.toInt ∧ at2_4.toInt ≤ en.toInt + 7 - (4 : Int32).toInt) ∧ (at2_2.toInt ≤ at2_4.toInt) ∧ (r_5 = 1 ∧ zisW tx en.toInt (zbg tx en.toInt at2_2.toInt) zqa44.2.2.2 ∧ at2_4.toInt = znx tx en.toInt (zbg tx en.toInt at2_2.toInt) ∧ at2_2.toInt < at2_4.toInt ∧ at2_4.toInt ≤ en.toInt ∨ r_5 = 0 ∧ ¬ zisW tx en.toInt (zbg tx en.toInt at2_2.toInt) zqa44.2.2.2 ∧ at2_4.toInt = zbg tx en.toInt at2_2.toInt) := hq6
  have hP : va_P g.1 vwCl (List.flatten [bMo g o a th hi ac tp 379 en at2_4 (-1) 4 iD iO tU fm fk fa fc ft ff fb fi]) H := hP
  have hD : va_D A (List.flatten [bMo g o a th hi ac tp 379 en at2_4 (-1) 4 iD iO tU fm fk fa fc ft ff fb fi]) := hD
  refine W.widen (k := 0) (n := 0) (Nat.le_of_ble_eq_true rfl) (Nat.le_of_ble_eq_true rfl) ?_
  refine W.eq (g2 := F0 m 21 ls [.int r_5]) rfl ?_
  obtain ⟨hq6_0, hq6_1, hq6_2⟩ := hq6
  rcases hq6_2 with ⟨rfl, hq6_k, hq6_km⟩ | ⟨rfl, hq6_k, hq6_km⟩
  · skip
    refine lv_istore_n (lv' := [(2, .int 1), (1, .int at2_2), (0, .ref o)]) hx hb dX12_atom_21 rfl hl (by decide) rfl (fun ls hl => ?_)
    refine lv_iload_n hx hb dX12_atom_22 rfl (lv_at hl 0 rfl) ?_
    refine lv_if_ne (tgt := 40) hx hb dX12_atom_23 (by decide) (fun _ => ?_) (fun c7 => absurd c7 (by decide))
    refine lv_aload_n hx hb dX12_atom_40 rfl (lv_at hl 2 rfl) ?_
    refine va_get (D := g.1) (ci := 10) (v := .int 4) (C := RX12) (T := TX12) (N := 20) hx hb hts izRX12 hown hK hP 0 rfl rfl 13 (by decide) (hts _ k933) (fun _ h9 => h9) rfl dX12_atom_41 ?_
    refine lv_bipush (v := 6) hx hb dX12_atom_44 (by decide) ?_
    refine lv_icmp_ne (tgt := 56) hx hb dX12_atom_46 (by decide) (fun _ => ?_) (fun c8 => absurd c8 (by decide))
    refine lv_aload_n hx hb dX12_atom_56 rfl (lv_at hl 2 rfl) ?_
    refine lv_dup hx hb dX12_atom_57 rfl ?_
    refine va_get (D := g.1) (ci := 10) (v := .int 4) (C := RX12) (T := TX12) (N := 20) hx hb hts izRX12 hown hK hP 0 rfl rfl 13 (by decide) (hts _ k933) (fun _ h9 => h9) rfl dX12_atom_58 ?_
    refine lv_iconst (v := 1) hx hb dX12_atom_61 (by decide) ?_
    refine lv_iadd hx hb dX12_atom_62 ?_
    refine ztop (r := 5) (by decide) ?_
    refine va_put (D := g.1) (ci := 10) (v := .int 5) (ty := .int) (C := RX12) (T := TX12) (N := 20) hx hb hts izRX12 tyX12 tyX12_ok nmX12 hown hK hP hD hS 0 rfl rfl 13 (by decide) (hts _ k933) (fun _ h9 => h9) rfl (by decide +kernel) rfl rfl (Nat.le_of_ble_eq_true rfl) dX12_atom_63 (fun H locs hP hD hS => ?_)
    have hP : va_P g.1 vwCl (List.flatten [bMo g o a th hi ac tp 379 en at2_4 (-1) 5 iD iO tU fm fk fa fc ft ff fb fi]) H := hP
    have hD : va_D A (List.flatten [bMo g o a th hi ac tp 379 en at2_4 (-1) 5 iD iO tU fm fk fa fc ft ff fb fi]) := hD
    refine lv_iconst (v := 0) hx hb dX12_atom_66 (by decide) ?_
    refine lv_istore_n (lv' := [(3, .int 0), (2, .int 1), (1, .int at2_2), (0, .ref o)]) hx hb dX12_atom_67 rfl hl (by decide) rfl (fun ls hl => ?_)
    refine lv_iload_n hx hb dX12_atom_68 rfl (lv_at hl 1 rfl) ?_
    refine lv_if_eq (tgt := 88) hx hb dX12_atom_69 (by decide) (fun c9 => absurd c9 (by decide)) (fun _ => ?_)
    have ha9 : zAv tx en.toInt ev 1 (zbg tx en.toInt at2_4.toInt) b1 (!bv) := zAv_b (zAv_n ha (zBy (show _ = zbg tx en.toInt tA.toInt from hq3_2) hq6_k)) (zbt (zBx (show _ = zbg tx en.toInt tA.toInt from hq3_2) hq6_km.1))
    refine lv_aload_n hx hb dX12_atom_72 rfl (lv_at hl 3 rfl) ?_
    refine mcallV' (g := g) (q0 := 0) (ci := 10) (As := []) (rest := []) St hK hT hA hP hD hS hl.1 [0] [] rfl rfl rfl (m_atomV5 l g o a th hi ac tp en at2_4 iD iO tU fm fk fa fc ft ff fb fi tx ev b1 (!bv) hen (by first | assumption | omega | decide | exact Or.inl (by decide) | exact Or.inr (by decide)) (by first | assumption | omega | decide | exact Or.inl (by decide) | exact Or.inr (by decide)) hff hdr how (by first | assumption | omega | decide | exact Or.inl (by decide) | exact Or.inr (by decide)) htx) (cwV 0 hts (zgL (zl4 k951 k952 k953 k839) k962) rfl rfl rfl (by decide +kernel) ⟨Nat.le_of_ble_eq_true rfl, Nat.le_of_ble_eq_true rfl⟩) rfl rfl rfl rfl (Nat.le_of_ble_eq_true rfl) dX12_atom_73 ⟨(Nat.le_of_ble_eq_true rfl), (Nat.le_of_ble_eq_true rfl)⟩ (fun at2_10 H locs hq11 hP hD hS => ?_)
    replace hq11 : (0 ≤ at2_10.toInt ∧ at2_10.toInt ≤ en.toInt + 7 - 5) ∧ (at2_4.toInt ≤ at2_10.toInt) ∧ (zbg tx en.toInt at2_10.toInt = b1) := hq11
    have hP : va_P g.1 vwCl (List.flatten [bMo g o a th hi ac tp 379 en at2_10 (-1) 5 iD iO tU fm fk fa fc ft ff fb fi]) H := hP
    have hD : va_D A (List.flatten [bMo g o a th hi ac tp 379 en at2_10 (-1) 5 iD iO tU fm fk fa fc ft ff fb fi]) := hD
    refine W.widen (k := 0) (n := 0) (Nat.le_of_ble_eq_true rfl) (Nat.le_of_ble_eq_true rfl) ?_
    refine W.eq (g2 := F0 m 76 ls [.int (zBi (!bv))]) rfl ?_
    obtain ⟨hq11_0, hq11_1, hq11_2⟩ := hq11
    refine lv_if_ne (tgt := 83) hx hb dX12_atom_76 (by decide) (fun cb9 => ?_) (fun cb9 => ?_)
    · skip
      have c12 : ¬ (zBi (!bv)).toInt = 0 := zne cb9 rfl (by decide)
      refine lv_iconst (v := 0) hx hb dX12_atom_83 (by decide) ?_
      refine lv_istore_n (lv' := [(3, .int 0), (2, .int 1), (1, .int at2_2), (0, .ref o)]) hx hb dX12_atom_84 rfl hl (by decide) rfl (fun ls hl => ?_)
      refine lv_goto (tgt := 138) hx hb dX12_atom_85 (by decide) ?_
      refine lv_aload_n hx hb dX12_atom_138 rfl (lv_at hl 3 rfl) ?_
      refine lv_dup hx hb dX12_atom_139 rfl ?_
      refine va_get (D := g.1) (ci := 10) (v := .int 5) (C := RX12) (T := TX12) (N := 20) hx hb hts izRX12 hown hK hP 0 rfl rfl 13 (by decide) (hts _ k933) (fun _ h9 => h9) rfl dX12_atom_140 ?_
      refine lv_iconst (v := 1) hx hb dX12_atom_143 (by decide) ?_
      refine lv_isub hx hb dX12_atom_144 ?_
      refine ztop (r := 4) (by decide) ?_
      refine va_put (D := g.1) (ci := 10) (v := .int 4) (ty := .int) (C := RX12) (T := TX12) (N := 20) hx hb hts izRX12 tyX12 tyX12_ok nmX12 hown hK hP hD hS 0 rfl rfl 13 (by decide) (hts _ k933) (fun _ h9 => h9) rfl (by decide +kernel) rfl rfl (Nat.le_of_ble_eq_true rfl) dX12_atom_145 (fun H locs hP hD hS => ?_)
      have hP : va_P g.1 vwCl (List.flatten [bMo g o a th hi ac tp 379 en at2_10 (-1) 4 iD iO tU fm fk fa fc ft ff fb fi]) H := hP
      have hD : va_D A (List.flatten [bMo g o a th hi ac tp 379 en at2_10 (-1) 4 iD iO tU fm fk fa fc ft ff fb fi]) := hD
      refine lv_iload_n hx hb dX12_atom_148 rfl (lv_at hl 0 rfl) ?_
      refine ztop (r := (zBi bv)) (zBn0 (by omega)) ?_
      have hP : va_P g.1 vwCl (List.flatten [bMo g o a th hi ac tp 379 en at2_10 (-1) 4 iD iO tU fm fk fa fc ft ff fb fi]) H := hP
      have hD : va_D A (List.flatten [bMo g o a th hi ac tp 379 en at2_10 (-1) 4 iD iO tU fm fk fa fc ft ff fb fi]) := hD
      exact mret_z hx hb hr hlocks hS (Nat.le_of_ble_eq_true rfl) (Nat.le_of_ble_eq_true rfl) dX12_atom_149 (at2_10) rfl (zb01 (zBi_01 _)) (show (0 ≤ at2_10.toInt ∧ at2_10.toInt ≤ en.toInt + 7 - 4) ∧ (tA.toInt ≤ at2_10.toInt) ∧ (zbg tx en.toInt at2_10.toInt = b1) from ⟨(by first | assumption | omega | decide), (by first | assumption | omega | decide), hq11_2⟩) hP hD
    · skip
      have c13 : (zBi (!bv)).toInt = 0 := zeq cb9 rfl (by decide)
      have n14 : 0 ≤ (zBi (!bv)).toInt := Int.le_trans (Int.le_refl _) (Int.le_of_eq c13.symm)
      have n15 : (zBi (!bv)).toInt ≤ 0 := Int.le_trans (Int.le_of_eq c13) (Int.le_refl _)
      refine lv_iconst (v := 1) hx hb dX12_atom_79 (by decide) ?_
      refine lv_goto (tgt := 84) hx hb dX12_atom_80 (by decide) ?_
      refine lv_istore_n (lv' := [(3, .int 1), (2, .int 1), (1, .int at2_2), (0, .ref o)]) hx hb dX12_atom_84 rfl hl (by decide) rfl (fun ls hl => ?_)
      refine lv_goto (tgt := 138) hx hb dX12_atom_85 (by decide) ?_
      refine lv_aload_n hx hb dX12_atom_138 rfl (lv_at hl 3 rfl) ?_
      refine lv_dup hx hb dX12_atom_139 rfl ?_
      refine va_get (D := g.1) (ci := 10) (v := .int 5) (C := RX12) (T := TX12) (N := 20) hx hb hts izRX12 hown hK hP 0 rfl rfl 13 (by decide) (hts _ k933) (fun _ h9 => h9) rfl dX12_atom_140 ?_
      refine lv_iconst (v := 1) hx hb dX12_atom_143 (by decide) ?_
      refine lv_isub hx hb dX12_atom_144 ?_
      refine ztop (r := 4) (by decide) ?_
      refine va_put (D := g.1) (ci := 10) (v := .int 4) (ty := .int) (C := RX12) (T := TX12) (N := 20) hx hb hts izRX12 tyX12 tyX12_ok nmX12 hown hK hP hD hS 0 rfl rfl 13 (by decide) (hts _ k933) (fun _ h9 => h9) rfl (by decide +kernel) rfl rfl (Nat.le_of_ble_eq_true rfl) dX12_atom_145 (fun H locs hP hD hS => ?_)
      have hP : va_P g.1 vwCl (List.flatten [bMo g o a th hi ac tp 379 en at2_10 (-1) 4 iD iO tU fm fk fa fc ft ff fb fi]) H := hP
      have hD : va_D A (List.flatten [bMo g o a th hi ac tp 379 en at2_10 (-1) 4 iD iO tU fm fk fa fc ft ff fb fi]) := hD
      refine lv_iload_n hx hb dX12_atom_148 rfl (lv_at hl 0 rfl) ?_
      refine ztop (r := (zBi bv)) (zBn1 (by omega)) ?_
      have hP : va_P g.1 vwCl (List.flatten [bMo g o a th hi ac tp 379 en at2_10 (-1) 4 iD iO tU fm fk fa fc ft ff fb fi]) H := hP
      have hD : va_D A (List.flatten [bMo g o a th hi ac tp 379 en at2_10 (-1) 4 iD iO tU fm fk fa fc ft ff fb fi]) := hD
      exact mret_z hx hb hr hlocks hS (Nat.le_of_ble_eq_true rfl) (Nat.le_of_ble_eq_true rfl) dX12_atom_149 (at2_10) rfl (zb01 (zBi_01 _)) (show (0 ≤ at2_10.toInt ∧ at2_10.toInt ≤ en.toInt + 7 - 4) ∧ (tA.toInt ≤ at2_10.toInt) ∧ (zbg tx en.toInt at2_10.toInt = b1) from ⟨(by first | assumption | omega | decide), (by first | assumption | omega | decide), hq11_2⟩) hP hD
  · skip
    refine lv_istore_n (lv' := [(2, .int 0), (1, .int at2_2), (0, .ref o)]) hx hb dX12_atom_21 rfl hl (by decide) rfl (fun ls hl => ?_)
    refine lv_iload_n hx hb dX12_atom_22 rfl (lv_at hl 0 rfl) ?_
    refine lv_if_ne (tgt := 40) hx hb dX12_atom_23 (by decide) (fun c16 => absurd (by decide) c16) (fun _ => ?_)
    refine lv_aload_n hx hb dX12_atom_26 rfl (lv_at hl 2 rfl) ?_
    refine lv_bipush (v := 40) hx hb dX12_atom_27 (by decide) ?_
    have hL40 : (40 : Int32).toInt = 40 := by decide
    refine mcallV' (g := g) (q0 := 0) (ci := 10) (As := [.int 40]) (rest := []) St hK hT hA hP hD hS hl.1 [0] [] rfl rfl rfl (m_isSignH l g o a th hi ac tp en at2_4 (-1) 4 iD iO tU fm fk fa fc ft ff fb fi 40 tx hen hq6_0 (by decide) (by first | assumption | omega | decide | exact Or.inl (by decide) | exact Or.inr (by decide)) htx) (cwV 1 hts (zgL (zl4 k938 k939 k940 k839) k883) rfl rfl rfl (by decide +kernel) ⟨Nat.le_of_ble_eq_true rfl, Nat.le_of_ble_eq_true rfl⟩) rfl rfl rfl rfl (Nat.le_of_ble_eq_true rfl) dX12_atom_29 ⟨(Nat.le_of_ble_eq_true rfl), (Nat.le_of_ble_eq_true rfl)⟩ (fun u_ H locs hq19 hP hD hS => ?_)
    obtain ⟨at2_17, q_18⟩ := u_
    replace hq19 : (0 ≤ at2_17.toInt ∧ at2_17.toInt ≤ en.toInt + 7 - (4 : Int32).toInt) ∧ (at2_4.toInt ≤ at2_17.toInt) ∧ (zSk tx en.toInt at2_4.toInt at2_17.toInt) ∧ (q_18 = 1 ∧ zisS tx en.toInt at2_17.toInt (40 : Int32).toInt ∧ at2_17.toInt < en.toInt ∨ q_18 = 0 ∧ ¬ zisS tx en.toInt at2_17.toInt (40 : Int32).toInt) := hq19
    have hP : va_P g.1 vwCl (List.flatten [bMo g o a th hi ac tp 379 en at2_17 (-1) 4 iD iO tU fm fk fa fc ft ff fb fi]) H := hP
    have hD : va_D A (List.flatten [bMo g o a th hi ac tp 379 en at2_17 (-1) 4 iD iO tU fm fk fa fc ft ff fb fi]) := hD
    refine W.widen (k := 0) (n := 0) (Nat.le_of_ble_eq_true rfl) (Nat.le_of_ble_eq_true rfl) ?_
    refine W.eq (g2 := F0 m 32 ls [.int q_18]) rfl ?_
    obtain ⟨hq19_0, hq19_1, hq19_2, hq19_3⟩ := hq19
    rcases hq19_3 with ⟨rfl, hq19_k⟩ | ⟨rfl, hq19_k⟩
    · skip
      refine lv_if_ne (tgt := 40) hx hb dX12_atom_32 (by decide) (fun _ => ?_) (fun c20 => absurd c20 (by decide))
      refine lv_aload_n hx hb dX12_atom_40 rfl (lv_at hl 2 rfl) ?_
      refine va_get (D := g.1) (ci := 10) (v := .int 4) (C := RX12) (T := TX12) (N := 20) hx hb hts izRX12 hown hK hP 0 rfl rfl 13 (by decide) (hts _ k933) (fun _ h9 => h9) rfl dX12_atom_41 ?_
      refine lv_bipush (v := 6) hx hb dX12_atom_44 (by decide) ?_
      refine lv_icmp_ne (tgt := 56) hx hb dX12_atom_46 (by decide) (fun _ => ?_) (fun c21 => absurd c21 (by decide))
      refine lv_aload_n hx hb dX12_atom_56 rfl (lv_at hl 2 rfl) ?_
      refine lv_dup hx hb dX12_atom_57 rfl ?_
      refine va_get (D := g.1) (ci := 10) (v := .int 4) (C := RX12) (T := TX12) (N := 20) hx hb hts izRX12 hown hK hP 0 rfl rfl 13 (by decide) (hts _ k933) (fun _ h9 => h9) rfl dX12_atom_58 ?_
      refine lv_iconst (v := 1) hx hb dX12_atom_61 (by decide) ?_
      refine lv_iadd hx hb dX12_atom_62 ?_
      refine ztop (r := 5) (by decide) ?_
      refine va_put (D := g.1) (ci := 10) (v := .int 5) (ty := .int) (C := RX12) (T := TX12) (N := 20) hx hb hts izRX12 tyX12 tyX12_ok nmX12 hown hK hP hD hS 0 rfl rfl 13 (by decide) (hts _ k933) (fun _ h9 => h9) rfl (by decide +kernel) rfl rfl (Nat.le_of_ble_eq_true rfl) dX12_atom_63 (fun H locs hP hD hS => ?_)
      have hP : va_P g.1 vwCl (List.flatten [bMo g o a th hi ac tp 379 en at2_17 (-1) 5 iD iO tU fm fk fa fc ft ff fb fi]) H := hP
      have hD : va_D A (List.flatten [bMo g o a th hi ac tp 379 en at2_17 (-1) 5 iD iO tU fm fk fa fc ft ff fb fi]) := hD
      refine lv_iconst (v := 0) hx hb dX12_atom_66 (by decide) ?_
      refine lv_istore_n (lv' := [(3, .int 0), (2, .int 0), (1, .int at2_2), (0, .ref o)]) hx hb dX12_atom_67 rfl hl (by decide) rfl (fun ls hl => ?_)
      refine lv_iload_n hx hb dX12_atom_68 rfl (lv_at hl 1 rfl) ?_
      refine lv_if_eq (tgt := 88) hx hb dX12_atom_69 (by decide) (fun _ => ?_) (fun c22 => absurd (by decide) c22)
      refine lv_aload_n hx hb dX12_atom_88 rfl (lv_at hl 3 rfl) ?_
      refine lv_dup hx hb dX12_atom_89 rfl ?_
      refine va_get (D := g.1) (ci := 10) (v := .int at2_17) (C := RX12) (T := TX12) (N := 20) hx hb hts izRX12 hown hK hP 0 rfl rfl 11 (by decide) (hts _ k878) (fun _ h9 => h9) rfl dX12_atom_90 ?_
      refine lv_iconst (v := 1) hx hb dX12_atom_93 (by decide) ?_
      refine lv_iadd hx hb dX12_atom_94 ?_
      refine zgv (zadd (i := at2_17.toInt) (j := 1) rfl (by decide) (by omega)) (fun x_23 hx_23 => ?_)
      refine va_put (D := g.1) (ci := 10) (v := .int x_23) (ty := .int) (C := RX12) (T := TX12) (N := 20) hx hb hts izRX12 tyX12 tyX12_ok nmX12 hown hK hP hD hS 0 rfl rfl 11 (by decide) (hts _ k878) (fun _ h9 => h9) rfl (by decide +kernel) rfl rfl (Nat.le_of_ble_eq_true rfl) dX12_atom_95 (fun H locs hP hD hS => ?_)
      have hP : va_P g.1 vwCl (List.flatten [bMo g o a th hi ac tp 379 en x_23 (-1) 5 iD iO tU fm fk fa fc ft ff fb fi]) H := hP
      have hD : va_D A (List.flatten [bMo g o a th hi ac tp 379 en x_23 (-1) 5 iD iO tU fm fk fa fc ft ff fb fi]) := hD
      have hs40 : zisS tx en.toInt (zbg tx en.toInt tA.toInt) 40 := by rw [← zbz (zBe (show _ = zbg tx en.toInt tA.toInt from hq3_2) hq6_km)]; exact zisS_b hq19_2 hq19_k.1 (by decide)
      obtain ⟨p0, hc0, hs0, hb0⟩ := zAv_q ha hs40
      have hc9 := zCv_b hc0 (show zbg tx en.toInt x_23.toInt = _ from (zb1 hq19_2 hq19_k.1 (by omega)).trans (by rw [zbz (zBe (show _ = zbg tx en.toInt tA.toInt from hq3_2) hq6_km)]))
      refine lv_aload_n hx hb dX12_atom_98 rfl (lv_at hl 3 rfl) ?_
      refine mcallV' (g := g) (q0 := 0) (ci := 10) (As := []) (rest := []) St hK hT hA hP hD hS hl.1 [0] [] rfl rfl rfl (m_someV5 l g o a th hi ac tp en x_23 iD iO tU fm fk fa fc ft ff fb fi tx ev p0 bv hen (by first | assumption | omega | decide | exact Or.inl (by decide) | exact Or.inr (by decide)) (by first | assumption | omega | decide | exact Or.inl (by decide) | exact Or.inr (by decide)) hff hdr how (by first | assumption | omega | decide | exact Or.inl (by decide) | exact Or.inr (by decide)) htx) (cwV 0 hts (zgL (zl4 k954 k955 k956 k839) k958) rfl rfl rfl (by decide +kernel) ⟨Nat.le_of_ble_eq_true rfl, Nat.le_of_ble_eq_true rfl⟩) rfl rfl rfl rfl (Nat.le_of_ble_eq_true rfl) dX12_atom_99 ⟨(Nat.le_of_ble_eq_true rfl), (Nat.le_of_ble_eq_true rfl)⟩ (fun at2_24 H locs hq25 hP hD hS => ?_)
      replace hq25 : (0 ≤ at2_24.toInt ∧ at2_24.toInt ≤ en.toInt + 7 - 5) ∧ (x_23.toInt ≤ at2_24.toInt) ∧ (zbg tx en.toInt at2_24.toInt = p0) := hq25
      have hP : va_P g.1 vwCl (List.flatten [bMo g o a th hi ac tp 379 en at2_24 (-1) 5 iD iO tU fm fk fa fc ft ff fb fi]) H := hP
      have hD : va_D A (List.flatten [bMo g o a th hi ac tp 379 en at2_24 (-1) 5 iD iO tU fm fk fa fc ft ff fb fi]) := hD
      refine W.widen (k := 0) (n := 0) (Nat.le_of_ble_eq_true rfl) (Nat.le_of_ble_eq_true rfl) ?_
      refine W.eq (g2 := F0 m 102 ls [.int (zBi bv)]) rfl ?_
      obtain ⟨hq25_0, hq25_1, hq25_2⟩ := hq25
      refine lv_istore_n (lv' := [(3, .int (zBi bv)), (2, .int 0), (1, .int at2_2), (0, .ref o)]) hx hb dX12_atom_102 rfl hl (by decide) rfl (fun ls hl => ?_)
      refine lv_aload_n hx hb dX12_atom_103 rfl (lv_at hl 3 rfl) ?_
      refine va_get (D := g.1) (ci := 10) (v := .int (-1)) (C := RX12) (T := TX12) (N := 20) hx hb hts izRX12 hown hK hP 0 rfl rfl 12 (by decide) (hts _ k820) (fun _ h9 => h9) rfl dX12_atom_104 ?_
      refine lv_iconst (v := (-1)) hx hb dX12_atom_107 (by decide) ?_
      refine lv_icmp_ne (tgt := 128) hx hb dX12_atom_108 (by decide) (fun c26 => absurd (by decide) c26) (fun _ => ?_)
      refine lv_aload_n hx hb dX12_atom_111 rfl (lv_at hl 3 rfl) ?_
      refine lv_bipush (v := 41) hx hb dX12_atom_112 (by decide) ?_
      have hL5 : (5 : Int32).toInt = 5 := by decide
      have hL41 : (41 : Int32).toInt = 41 := by decide
      refine mcallV' (g := g) (q0 := 0) (ci := 10) (As := [.int 41]) (rest := []) St hK hT hA hP hD hS hl.1 [0] [] rfl rfl rfl (m_isSignH l g o a th hi ac tp en at2_24 (-1) 5 iD iO tU fm fk fa fc ft ff fb fi 41 tx hen (by first | assumption | omega | decide | exact Or.inl (by decide) | exact Or.inr (by decide)) (by decide) (by first | assumption | omega | decide | exact Or.inl (by decide) | exact Or.inr (by decide)) htx) (cwV 1 hts (zgL (zl4 k938 k939 k940 k839) k883) rfl rfl rfl (by decide +kernel) ⟨Nat.le_of_ble_eq_true rfl, Nat.le_of_ble_eq_true rfl⟩) rfl rfl rfl rfl (Nat.le_of_ble_eq_true rfl) dX12_atom_114 ⟨(Nat.le_of_ble_eq_true rfl), (Nat.le_of_ble_eq_true rfl)⟩ (fun u_ H locs hq29 hP hD hS => ?_)
      obtain ⟨at2_27, q_28⟩ := u_
      replace hq29 : (0 ≤ at2_27.toInt ∧ at2_27.toInt ≤ en.toInt + 7 - (5 : Int32).toInt) ∧ (at2_24.toInt ≤ at2_27.toInt) ∧ (zSk tx en.toInt at2_24.toInt at2_27.toInt) ∧ (q_28 = 1 ∧ zisS tx en.toInt at2_27.toInt (41 : Int32).toInt ∧ at2_27.toInt < en.toInt ∨ q_28 = 0 ∧ ¬ zisS tx en.toInt at2_27.toInt (41 : Int32).toInt) := hq29
      have hP : va_P g.1 vwCl (List.flatten [bMo g o a th hi ac tp 379 en at2_27 (-1) 5 iD iO tU fm fk fa fc ft ff fb fi]) H := hP
      have hD : va_D A (List.flatten [bMo g o a th hi ac tp 379 en at2_27 (-1) 5 iD iO tU fm fk fa fc ft ff fb fi]) := hD
      refine W.widen (k := 0) (n := 0) (Nat.le_of_ble_eq_true rfl) (Nat.le_of_ble_eq_true rfl) ?_
      refine W.eq (g2 := F0 m 117 ls [.int q_28]) rfl ?_
      obtain ⟨hq29_0, hq29_1, hq29_2, hq29_3⟩ := hq29
      rcases hq29_3 with ⟨rfl, hq29_k⟩ | ⟨rfl, hq29_k⟩
      · skip
        refine lv_if_ne (tgt := 128) hx hb dX12_atom_117 (by decide) (fun _ => ?_) (fun c30 => absurd c30 (by decide))
        refine lv_aload_n hx hb dX12_atom_128 rfl (lv_at hl 3 rfl) ?_
        refine lv_dup hx hb dX12_atom_129 rfl ?_
        refine va_get (D := g.1) (ci := 10) (v := .int at2_27) (C := RX12) (T := TX12) (N := 20) hx hb hts izRX12 hown hK hP 0 rfl rfl 11 (by decide) (hts _ k878) (fun _ h9 => h9) rfl dX12_atom_130 ?_
        refine lv_iconst (v := 1) hx hb dX12_atom_133 (by decide) ?_
        refine lv_iadd hx hb dX12_atom_134 ?_
        refine zgv (zadd (i := at2_27.toInt) (j := 1) rfl (by decide) (by omega)) (fun x_31 hx_31 => ?_)
        refine va_put (D := g.1) (ci := 10) (v := .int x_31) (ty := .int) (C := RX12) (T := TX12) (N := 20) hx hb hts izRX12 tyX12 tyX12_ok nmX12 hown hK hP hD hS 0 rfl rfl 11 (by decide) (hts _ k878) (fun _ h9 => h9) rfl (by decide +kernel) rfl rfl (Nat.le_of_ble_eq_true rfl) dX12_atom_135 (fun H locs hP hD hS => ?_)
        have hP : va_P g.1 vwCl (List.flatten [bMo g o a th hi ac tp 379 en x_31 (-1) 5 iD iO tU fm fk fa fc ft ff fb fi]) H := hP
        have hD : va_D A (List.flatten [bMo g o a th hi ac tp 379 en x_31 (-1) 5 iD iO tU fm fk fa fc ft ff fb fi]) := hD
        refine lv_aload_n hx hb dX12_atom_138 rfl (lv_at hl 3 rfl) ?_
        refine lv_dup hx hb dX12_atom_139 rfl ?_
        refine va_get (D := g.1) (ci := 10) (v := .int 5) (C := RX12) (T := TX12) (N := 20) hx hb hts izRX12 hown hK hP 0 rfl rfl 13 (by decide) (hts _ k933) (fun _ h9 => h9) rfl dX12_atom_140 ?_
        refine lv_iconst (v := 1) hx hb dX12_atom_143 (by decide) ?_
        refine lv_isub hx hb dX12_atom_144 ?_
        refine ztop (r := 4) (by decide) ?_
        refine va_put (D := g.1) (ci := 10) (v := .int 4) (ty := .int) (C := RX12) (T := TX12) (N := 20) hx hb hts izRX12 tyX12 tyX12_ok nmX12 hown hK hP hD hS 0 rfl rfl 13 (by decide) (hts _ k933) (fun _ h9 => h9) rfl (by decide +kernel) rfl rfl (Nat.le_of_ble_eq_true rfl) dX12_atom_145 (fun H locs hP hD hS => ?_)
        have hP : va_P g.1 vwCl (List.flatten [bMo g o a th hi ac tp 379 en x_31 (-1) 4 iD iO tU fm fk fa fc ft ff fb fi]) H := hP
        have hD : va_D A (List.flatten [bMo g o a th hi ac tp 379 en x_31 (-1) 4 iD iO tU fm fk fa fc ft ff fb fi]) := hD
        refine lv_iload_n hx hb dX12_atom_148 rfl (lv_at hl 0 rfl) ?_
        have hP : va_P g.1 vwCl (List.flatten [bMo g o a th hi ac tp 379 en x_31 (-1) 4 iD iO tU fm fk fa fc ft ff fb fi]) H := hP
        have hD : va_D A (List.flatten [bMo g o a th hi ac tp 379 en x_31 (-1) 4 iD iO tU fm fk fa fc ft ff fb fi]) := hD
        exact mret_z hx hb hr hlocks hS (Nat.le_of_ble_eq_true rfl) (Nat.le_of_ble_eq_true rfl) dX12_atom_149 (x_31) rfl (zb01 (zBi_01 _)) (show (0 ≤ x_31.toInt ∧ x_31.toInt ≤ en.toInt + 7 - 4) ∧ (tA.toInt ≤ x_31.toInt) ∧ (zbg tx en.toInt x_31.toInt = b1) from ⟨(by first | assumption | omega | decide), (by first | assumption | omega | decide), ((zb1 hq29_2 hq29_k.1 (by omega)).trans (by rw [hq25_2]; exact hb0.symm))⟩) hP hD
      · skip
        exact ((zisS_bn (d := 41) hq29_2 hq29_k (by decide)) (by rw [hq25_2]; exact hs0)).elim
    · skip
      refine lv_if_ne (tgt := 40) hx hb dX12_atom_32 (by decide) (fun c32 => absurd (by decide) c32) (fun _ => ?_)
      have hnd : ¬ zDeep tx en.toInt (zbg tx en.toInt tA.toInt) := zor_n (zBw (show _ = zbg tx en.toInt tA.toInt from hq3_2) hq6_k) (by rw [← zbz (zBe (show _ = zbg tx en.toInt tA.toInt from hq3_2) hq6_km)]; exact zisS_bn (d := 40) hq19_2 hq19_k (by decide))
      have hpl9 : zPlV tx en.toInt ev (zbg tx en.toInt at2_17.toInt) b1 bv := zPlV_b (zAv_p ha hnd) ((zbs hq19_2).trans (zbz (zBe (show _ = zbg tx en.toInt tA.toInt from hq3_2) hq6_km)))
      refine lv_aload_n hx hb dX12_atom_35 rfl (lv_at hl 2 rfl) ?_
      refine mcallV' (g := g) (q0 := 0) (ci := 10) (As := []) (rest := []) St hK hT hA hP hD hS hl.1 [0] [] rfl rfl rfl (m_plainV l g o a th hi ac tp en at2_17 4 iD iO tU fm fk fa fc ft ff fb fi tx ev b1 bv hen hq19_0 (by decide) hff hdr how (by first | assumption | omega | decide | exact Or.inl (by decide) | exact Or.inr (by decide)) htx) (cwV 0 hts (zgL (zl4 k948 k949 k950 k839) k947) rfl rfl rfl (by decide +kernel) ⟨Nat.le_of_ble_eq_true rfl, Nat.le_of_ble_eq_true rfl⟩) rfl rfl rfl rfl (Nat.le_of_ble_eq_true rfl) dX12_atom_36 ⟨(Nat.le_of_ble_eq_true rfl), (Nat.le_of_ble_eq_true rfl)⟩ (fun at2_33 H locs hq34 hP hD hS => ?_)
      replace hq34 : (0 ≤ at2_33.toInt ∧ at2_33.toInt ≤ en.toInt + 7 - (4 : Int32).toInt) ∧ (at2_17.toInt ≤ at2_33.toInt) ∧ (zbg tx en.toInt at2_33.toInt = b1) := hq34
      have hP : va_P g.1 vwCl (List.flatten [bMo g o a th hi ac tp 379 en at2_33 (-1) 4 iD iO tU fm fk fa fc ft ff fb fi]) H := hP
      have hD : va_D A (List.flatten [bMo g o a th hi ac tp 379 en at2_33 (-1) 4 iD iO tU fm fk fa fc ft ff fb fi]) := hD
      refine W.widen (k := 0) (n := 0) (Nat.le_of_ble_eq_true rfl) (Nat.le_of_ble_eq_true rfl) ?_
      refine W.eq (g2 := F0 m 39 ls [.int (zBi bv)]) rfl ?_
      obtain ⟨hq34_0, hq34_1, hq34_2⟩ := hq34
      have hP : va_P g.1 vwCl (List.flatten [bMo g o a th hi ac tp 379 en at2_33 (-1) 4 iD iO tU fm fk fa fc ft ff fb fi]) H := hP
      have hD : va_D A (List.flatten [bMo g o a th hi ac tp 379 en at2_33 (-1) 4 iD iO tU fm fk fa fc ft ff fb fi]) := hD
      exact mret_z hx hb hr hlocks hS (Nat.le_of_ble_eq_true rfl) (Nat.le_of_ble_eq_true rfl) dX12_atom_39 (at2_33) rfl (zb01 (zBi_01 _)) (show (0 ≤ at2_33.toInt ∧ at2_33.toInt ≤ en.toInt + 7 - 4) ∧ (tA.toInt ≤ at2_33.toInt) ∧ (zbg tx en.toInt at2_33.toInt = b1) from ⟨(by first | assumption | omega | decide), (by first | assumption | omega | decide), hq34_2⟩) hP hD
set_option maxRecDepth 100000 in
set_option maxHeartbeats 4000000 in
theorem m_everyV4 (l : Launch) (g : zG) (o : Nat) (a : Nat → Nat) (th : Int32) (hi : Int32) (ac : Int32) (tp : Int32) (en : Int32) (tA : Int32) (iD : Int32) (iO : Int32) (tU : Int32) (fm : Nat → Int32) (fk : Nat → Int32) (fa : Nat → Int32) (fc : Nat → Int32) (ft : Nat → Int32) (ff : Nat → Int32) (fb : Nat → Int32) (fi : Nat → Int32) (tx : Nat → Int32) (ev : Nat → Int32) (b1 : Int) (bv : Bool) (o9 : Bool) (hen : 0 ≤ en.toInt ∧ en.toInt ≤ 400) (htA : 0 ≤ tA.toInt ∧ tA.toInt ≤ en.toInt + 7 - 4) (hde : 0 ≤ 4 ∧ 4 ≤ 6) (hff : ∀ k9 : Nat, k9 < 6 → ff k9 = ev k9) (hdr : iD = zBi (zNz (ev 6))) (how : iO = zBi (zNz (ev 7))) (hc : zCv tx en.toInt (zAv tx en.toInt ev 2) o9 true (zbg tx en.toInt tA.toInt) b1 bv) (htx : ∀ k9 : Nat, (k9 : Int) < en.toInt → fm (379 + k9) = tx k9) : zM' g l yX12_every (Cond.code yX12_every cX12_every 3 (some .boolean) :: zB) ({ frames := 15, cells := 0, slots := 0, locals := 330 } : Room) [.ref o] [bMo g o a th hi ac tp 379 en tA (-1) 4 iD iO tU fm fk fa fc ft ff fb fi] (fun u : Int32 × Int32 × Bool => (fun (at2 : Int32) (q : Int32) (w9 : Bool) => some (.int q)) (u.1) (u.2.1) (u.2.2)) (fun u : Int32 × Int32 × Bool => (fun (at2 : Int32) (q : Int32) (w9 : Bool) => (0 ≤ at2.toInt ∧ at2.toInt ≤ en.toInt + 7 - 4) ∧ (tA.toInt ≤ at2.toInt) ∧ (q = zBi w9) ∧ (zCvE tx en.toInt (zAv tx en.toInt ev 2) o9 w9 (zbg tx en.toInt at2.toInt) b1 bv)) (u.1) (u.2.1) (u.2.2)) (fun u : Int32 × Int32 × Bool => (fun (at2 : Int32) (q : Int32) (w9 : Bool) => [bMo g o a th hi ac tp 379 en at2 (-1) 4 iD iO tU fm fk fa fc ft ff fb fi]) (u.1) (u.2.1) (u.2.2)) := by
  refine zM'.of (cc := cX12_every) (maxL := 3) (rt := (some .boolean)) (by decide) rfl (Nat.le_of_ble_eq_true rfl) ?_
  intro p e s m args below meth c A ls St hr hlocks hin hK hT hA hP hD hS hl
  obtain ⟨hx, hb, hml, hown, hts⟩ := id St
  have hl : lv_has ls 3 [(0, .ref o)] := hl
  obtain ⟨p0, w0, ha0, hm0⟩ := zCv_a hc
  refine lv_aload_n hx hb dX12_every_0 rfl (lv_at hl 0 rfl) ?_
  refine mcallV' (g := g) (q0 := 0) (ci := 10) (As := []) (rest := []) St hK hT hA hP hD hS hl.1 [0] [] rfl rfl rfl (m_atomV4 l g o a th hi ac tp en tA iD iO tU fm fk fa fc ft ff fb fi tx ev p0 w0 hen htA hde hff hdr how (by first | assumption | omega | decide | exact Or.inl (by decide) | exact Or.inr (by decide)) htx) (cwV 0 hts (zgL (zl4 k951 k952 k953 k839) k962) rfl rfl rfl (by decide +kernel) ⟨Nat.le_of_ble_eq_true rfl, Nat.le_of_ble_eq_true rfl⟩) rfl rfl rfl rfl (Nat.le_of_ble_eq_true rfl) dX12_every_1 ⟨(Nat.le_of_ble_eq_true rfl), (Nat.le_of_ble_eq_true rfl)⟩ (fun at2_1 H locs hq2 hP hD hS => ?_)
  replace hq2 : (0 ≤ at2_1.toInt ∧ at2_1.toInt ≤ en.toInt + 7 - 4) ∧ (tA.toInt ≤ at2_1.toInt) ∧ (zbg tx en.toInt at2_1.toInt = p0) := hq2
  have hP : va_P g.1 vwCl (List.flatten [bMo g o a th hi ac tp 379 en at2_1 (-1) 4 iD iO tU fm fk fa fc ft ff fb fi]) H := hP
  have hD : va_D A (List.flatten [bMo g o a th hi ac tp 379 en at2_1 (-1) 4 iD iO tU fm fk fa fc ft ff fb fi]) := hD
  refine W.widen (k := 0) (n := 0) (Nat.le_of_ble_eq_true rfl) (Nat.le_of_ble_eq_true rfl) ?_
  refine W.eq (g2 := F0 m 4 ls [.int (zBi w0)]) rfl ?_
  obtain ⟨hq2_0, hq2_1, hq2_2⟩ := hq2
  refine lv_istore_n (lv' := [(1, .int (zBi w0)), (0, .ref o)]) hx hb dX12_every_4 rfl hl (by decide) rfl (fun ls hl => ?_)
  have hl := lv_sub (l' := [(0, .ref o), (1, .int (zBi w0))]) hl [1, 0] rfl
  have LP5_9 : ∀ (kf : Nat) (x_3 : Int32) (x_4 : Int32), (0 ≤ x_4.toInt ∧ x_4.toInt ≤ 407) → (tA.toInt ≤ x_4.toInt) → (x_4.toInt ≤ en.toInt + 7 - 4) → (∃ a9, x_3 = zBi a9 ∧ zCvM tx en.toInt (zAv tx en.toInt ev 2) o9 a9 (zbg tx en.toInt x_4.toInt) b1 bv) → ∀ (H : Heap) (locs : List Loc) (ls : Array Slot), ((en.toInt + 8 - x_4.toInt).toNat) < kf → va_P g.1 vwCl (List.flatten [bMo g o a th hi ac tp 379 en x_4 (-1) 4 iD iO tU fm fk fa fc ft ff fb fi]) H → va_D A (List.flatten [bMo g o a th hi ac tp 379 en x_4 (-1) 4 iD iO tU fm fk fa fc ft ff fb fi]) → va_S A s.heap H locs → lv_has ls 3 [(0, .ref o), (1, .int x_3)] → W p l e ({ frames := 15, cells := 0, slots := 0, locals := 330 } : Room) s m args below meth c H locs (0) (0) (zF g (fun u : Int32 × Int32 × Bool => (fun (at2 : Int32) (q : Int32) (w9 : Bool) => some (.int q)) (u.1) (u.2.1) (u.2.2)) (fun u : Int32 × Int32 × Bool => (fun (at2 : Int32) (q : Int32) (w9 : Bool) => (0 ≤ at2.toInt ∧ at2.toInt ≤ en.toInt + 7 - 4) ∧ (tA.toInt ≤ at2.toInt) ∧ (q = zBi w9) ∧ (zCvE tx en.toInt (zAv tx en.toInt ev 2) o9 w9 (zbg tx en.toInt at2.toInt) b1 bv)) (u.1) (u.2.1) (u.2.2)) (fun u : Int32 × Int32 × Bool => (fun (at2 : Int32) (q : Int32) (w9 : Bool) => [bMo g o a th hi ac tp 379 en at2 (-1) 4 iD iO tU fm fk fa fc ft ff fb fi]) (u.1) (u.2.1) (u.2.2)) ({ frames := 15, cells := 0, slots := 0, locals := 330 } : Room) below args s A) (F0 m 5 ls []) := by
    intro kf
    induction kf with
    | zero => intro x_3 x_4 i5 i6 i7 i8 H locs ls hk; exact absurd hk (Nat.not_lt_zero _)
    | succ kf ih5_10 =>
      intro x_3 x_4 i5 i6 i7 i8 H locs ls hk5_10 hP hD hS hl
      refine lv_aload_n hx hb dX12_every_5 rfl (lv_at hl 0 rfl) ?_
      refine va_get (D := g.1) (ci := 10) (v := .int (-1)) (C := RX12) (T := TX12) (N := 20) hx hb hts izRX12 hown hK hP 0 rfl rfl 12 (by decide) (hts _ k820) (fun _ h9 => h9) rfl dX12_every_6 ?_
      refine lv_iconst (v := (-1)) hx hb dX12_every_9 (by decide) ?_
      refine lv_icmp_ne (tgt := 44) hx hb dX12_every_10 (by decide) (fun c11 => absurd (by decide) c11) (fun _ => ?_)
      obtain ⟨a12, e13, h14⟩ := i8
      refine lv_aload_n hx hb dX12_every_13 rfl (lv_at hl 0 rfl) ?_
      refine va_ldcS (q := g.2 100) hx hb hown (zra45 hT.2.1) dX12_every_14 ?_
      have hL4 : (4 : Int32).toInt = 4 := by decide
      refine mcallV' (g := g) (q0 := 0) (ci := 10) (As := [.ref (g.2 100)]) (rest := []) St hK hT hA hP hD hS hl.1 [0] [] rfl rfl rfl (m_hasH l g o a th hi ac tp en x_4 (-1) 4 iD iO tU fm fk fa fc ft ff fb fi tx (g.2 100) 45 zqa45 hen (by first | assumption | omega | decide | exact Or.inl (by decide) | exact Or.inr (by decide)) (by decide) htx rfl zla45 zna45 (zlitB zla45)) (cwV 1 hts (zgL (zl4 k899 k900 k901 k839) k889) rfl rfl rfl (by decide +kernel) ⟨Nat.le_of_ble_eq_true rfl, Nat.le_of_ble_eq_true rfl⟩) rfl rfl rfl rfl (Nat.le_of_ble_eq_true rfl) dX12_every_16 ⟨(Nat.le_of_ble_eq_true rfl), (Nat.le_of_ble_eq_true rfl)⟩ (fun u_ H locs hq17 hP hD hS => ?_)
      obtain ⟨at2_15, r_16⟩ := u_
      replace hq17 : (0 ≤ at2_15.toInt ∧ at2_15.toInt ≤ en.toInt + 7 - (4 : Int32).toInt) ∧ (x_4.toInt ≤ at2_15.toInt) ∧ (r_16 = 1 ∧ zisW tx en.toInt (zbg tx en.toInt x_4.toInt) zqa45.2.2.2 ∧ at2_15.toInt = znx tx en.toInt (zbg tx en.toInt x_4.toInt) ∧ x_4.toInt < at2_15.toInt ∧ at2_15.toInt ≤ en.toInt ∨ r_16 = 0 ∧ ¬ zisW tx en.toInt (zbg tx en.toInt x_4.toInt) zqa45.2.2.2 ∧ at2_15.toInt = zbg tx en.toInt x_4.toInt) := hq17
      have hP : va_P g.1 vwCl (List.flatten [bMo g o a th hi ac tp 379 en at2_15 (-1) 4 iD iO tU fm fk fa fc ft ff fb fi]) H := hP
      have hD : va_D A (List.flatten [bMo g o a th hi ac tp 379 en at2_15 (-1) 4 iD iO tU fm fk fa fc ft ff fb fi]) := hD
      refine W.widen (k := 0) (n := 0) (Nat.le_of_ble_eq_true rfl) (Nat.le_of_ble_eq_true rfl) ?_
      refine W.eq (g2 := F0 m 19 ls [.int r_16]) rfl ?_
      obtain ⟨hq17_0, hq17_1, hq17_2⟩ := hq17
      rcases hq17_2 with ⟨rfl, hq17_k, hq17_km⟩ | ⟨rfl, hq17_k, hq17_km⟩
      · skip
        refine lv_if_eq (tgt := 44) hx hb dX12_every_19 (by decide) (fun c18 => absurd c18 (by decide)) (fun _ => ?_)
        obtain ⟨p19, w20, h21, m22⟩ := zCv_a (zCvM_y h14 hq17_k)
        have h21 := zAv_b h21 (show zbg tx en.toInt at2_15.toInt = _ from zbt hq17_km.1)
        refine lv_aload_n hx hb dX12_every_22 rfl (lv_at hl 0 rfl) ?_
        refine mcallV' (g := g) (q0 := 0) (ci := 10) (As := []) (rest := []) St hK hT hA hP hD hS hl.1 [0] [] rfl rfl rfl (m_atomV4 l g o a th hi ac tp en at2_15 iD iO tU fm fk fa fc ft ff fb fi tx ev p19 w20 hen (by first | assumption | omega | decide | exact Or.inl (by decide) | exact Or.inr (by decide)) hde hff hdr how (by first | assumption | omega | decide | exact Or.inl (by decide) | exact Or.inr (by decide)) htx) (cwV 0 hts (zgL (zl4 k951 k952 k953 k839) k962) rfl rfl rfl (by decide +kernel) ⟨Nat.le_of_ble_eq_true rfl, Nat.le_of_ble_eq_true rfl⟩) rfl rfl rfl rfl (Nat.le_of_ble_eq_true rfl) dX12_every_23 ⟨(Nat.le_of_ble_eq_true rfl), (Nat.le_of_ble_eq_true rfl)⟩ (fun at2_23 H locs hq24 hP hD hS => ?_)
        replace hq24 : (0 ≤ at2_23.toInt ∧ at2_23.toInt ≤ en.toInt + 7 - 4) ∧ (at2_15.toInt ≤ at2_23.toInt) ∧ (zbg tx en.toInt at2_23.toInt = p19) := hq24
        have hP : va_P g.1 vwCl (List.flatten [bMo g o a th hi ac tp 379 en at2_23 (-1) 4 iD iO tU fm fk fa fc ft ff fb fi]) H := hP
        have hD : va_D A (List.flatten [bMo g o a th hi ac tp 379 en at2_23 (-1) 4 iD iO tU fm fk fa fc ft ff fb fi]) := hD
        refine W.widen (k := 0) (n := 0) (Nat.le_of_ble_eq_true rfl) (Nat.le_of_ble_eq_true rfl) ?_
        refine W.eq (g2 := F0 m 26 ls [.int (zBi w20)]) rfl ?_
        obtain ⟨hq24_0, hq24_1, hq24_2⟩ := hq24
        refine lv_istore_n (lv' := [(2, .int (zBi w20)), (0, .ref o), (1, .int x_3)]) hx hb dX12_every_26 rfl hl (by decide) rfl (fun ls hl => ?_)
        refine lv_iload_n hx hb dX12_every_27 rfl (lv_at hl 2 rfl) ?_
        refine lv_if_eq (tgt := 39) hx hb dX12_every_28 (by decide) (fun cb9 => ?_) (fun cb9 => ?_)
        · skip
          have c25 : x_3.toInt = 0 := zeq cb9 rfl (by decide)
          have n26 : 0 ≤ x_3.toInt := Int.le_trans (Int.le_refl _) (Int.le_of_eq c25.symm)
          have n27 : x_3.toInt ≤ 0 := Int.le_trans (Int.le_of_eq c25) (Int.le_refl _)
          refine lv_iconst (v := 0) hx hb dX12_every_39 (by decide) ?_
          refine lv_istore_n (lv' := [(1, .int 0), (2, .int (zBi w20)), (0, .ref o)]) hx hb dX12_every_40 rfl hl (by decide) rfl (fun ls hl => ?_)
          refine lv_goto (tgt := 5) hx hb dX12_every_41 (by decide) ?_
          have hl := lv_sub (l' := [(0, .ref o), (1, .int 0), (2, .int (zBi w20))]) hl [2, 0, 1] rfl
          have hL0 : (0 : Int32).toInt = 0 := by decide
          have hP : va_P g.1 vwCl (List.flatten [bMo g o a th hi ac tp 379 en at2_23 (-1) 4 iD iO tU fm fk fa fc ft ff fb fi]) H := hP
          have hD : va_D A (List.flatten [bMo g o a th hi ac tp 379 en at2_23 (-1) 4 iD iO tU fm fk fa fc ft ff fb fi]) := hD
          exact ih5_10 0 at2_23 (by first | omega | assumption | decide) (by first | omega | assumption | decide) (by first | omega | assumption | decide) ⟨(a12 && w20), (zBiA0 (by rw [← e13]; omega)), zCM_b m22 hq24_2⟩ H _ ls (by omega)  hP hD hS (lv_sub hl [0, 1] rfl)
        · skip
          have c28 : ¬ x_3.toInt = 0 := zne cb9 rfl (by decide)
          refine lv_iload_n hx hb dX12_every_31 rfl (lv_at hl 0 rfl) ?_
          refine lv_if_eq (tgt := 39) hx hb dX12_every_32 (by decide) (fun cb9 => ?_) (fun cb9 => ?_)
          · skip
            have c29 : (zBi w20).toInt = 0 := zeq cb9 rfl (by decide)
            have n30 : 0 ≤ (zBi w20).toInt := Int.le_trans (Int.le_refl _) (Int.le_of_eq c29.symm)
            have n31 : (zBi w20).toInt ≤ 0 := Int.le_trans (Int.le_of_eq c29) (Int.le_refl _)
            refine lv_iconst (v := 0) hx hb dX12_every_39 (by decide) ?_
            refine lv_istore_n (lv' := [(1, .int 0), (2, .int (zBi w20)), (0, .ref o)]) hx hb dX12_every_40 rfl hl (by decide) rfl (fun ls hl => ?_)
            refine lv_goto (tgt := 5) hx hb dX12_every_41 (by decide) ?_
            have hl := lv_sub (l' := [(0, .ref o), (1, .int 0), (2, .int (zBi w20))]) hl [2, 0, 1] rfl
            have hL0 : (0 : Int32).toInt = 0 := by decide
            have hP : va_P g.1 vwCl (List.flatten [bMo g o a th hi ac tp 379 en at2_23 (-1) 4 iD iO tU fm fk fa fc ft ff fb fi]) H := hP
            have hD : va_D A (List.flatten [bMo g o a th hi ac tp 379 en at2_23 (-1) 4 iD iO tU fm fk fa fc ft ff fb fi]) := hD
            exact ih5_10 0 at2_23 (by first | omega | assumption | decide) (by first | omega | assumption | decide) (by first | omega | assumption | decide) ⟨(a12 && w20), (zBiA1 (by omega)), zCM_b m22 hq24_2⟩ H _ ls (by omega)  hP hD hS (lv_sub hl [0, 1] rfl)
          · skip
            have c32 : ¬ (zBi w20).toInt = 0 := zne cb9 rfl (by decide)
            refine lv_iconst (v := 1) hx hb dX12_every_35 (by decide) ?_
            refine lv_goto (tgt := 40) hx hb dX12_every_36 (by decide) ?_
            refine lv_istore_n (lv' := [(1, .int 1), (2, .int (zBi w20)), (0, .ref o)]) hx hb dX12_every_40 rfl hl (by decide) rfl (fun ls hl => ?_)
            refine lv_goto (tgt := 5) hx hb dX12_every_41 (by decide) ?_
            have hl := lv_sub (l' := [(0, .ref o), (1, .int 1), (2, .int (zBi w20))]) hl [2, 0, 1] rfl
            have hL1 : (1 : Int32).toInt = 1 := by decide
            have hP : va_P g.1 vwCl (List.flatten [bMo g o a th hi ac tp 379 en at2_23 (-1) 4 iD iO tU fm fk fa fc ft ff fb fi]) H := hP
            have hD : va_D A (List.flatten [bMo g o a th hi ac tp 379 en at2_23 (-1) 4 iD iO tU fm fk fa fc ft ff fb fi]) := hD
            exact ih5_10 1 at2_23 (by first | omega | assumption | decide) (by first | omega | assumption | decide) (by first | omega | assumption | decide) ⟨(a12 && w20), (zBiA (by rw [← e13]; omega) (by omega)), zCM_b m22 hq24_2⟩ H _ ls (by omega)  hP hD hS (lv_sub hl [0, 1] rfl)
      · skip
        refine lv_if_eq (tgt := 44) hx hb dX12_every_19 (by decide) (fun _ => ?_) (fun c33 => absurd (by decide) c33)
        refine lv_iload_n hx hb dX12_every_44 rfl (lv_at hl 1 rfl) ?_
        have hP : va_P g.1 vwCl (List.flatten [bMo g o a th hi ac tp 379 en at2_15 (-1) 4 iD iO tU fm fk fa fc ft ff fb fi]) H := hP
        have hD : va_D A (List.flatten [bMo g o a th hi ac tp 379 en at2_15 (-1) 4 iD iO tU fm fk fa fc ft ff fb fi]) := hD
        exact mret_z hx hb hr hlocks hS (Nat.le_of_ble_eq_true rfl) (Nat.le_of_ble_eq_true rfl) dX12_every_45 (at2_15, x_3, a12) rfl (zb01 (by rw [e13]; exact zBi_01 _)) (show (0 ≤ at2_15.toInt ∧ at2_15.toInt ≤ en.toInt + 7 - 4) ∧ (tA.toInt ≤ at2_15.toInt) ∧ (x_3 = zBi a12) ∧ (zCvE tx en.toInt (zAv tx en.toInt ev 2) o9 a12 (zbg tx en.toInt at2_15.toInt) b1 bv) from ⟨(by first | assumption | omega | decide), (by first | assumption | omega | decide), e13, zCE_b (zCvM_n h14 hq17_k) (zbz hq17_km)⟩) hP hD
  have hP : va_P g.1 vwCl (List.flatten [bMo g o a th hi ac tp 379 en at2_1 (-1) 4 iD iO tU fm fk fa fc ft ff fb fi]) H := hP
  have hD : va_D A (List.flatten [bMo g o a th hi ac tp 379 en at2_1 (-1) 4 iD iO tU fm fk fa fc ft ff fb fi]) := hD
  exact LP5_9 _ (zBi w0) at2_1 (by first | omega | assumption | decide) hq2_1 (by first | omega | assumption | decide) ⟨w0, rfl, zCvM_w (zCM_b hm0 hq2_2)⟩ H _ ls (Nat.lt_succ_self _)  hP hD hS (lv_sub hl [0, 1] rfl)
set_option maxRecDepth 100000 in
set_option maxHeartbeats 4000000 in
theorem m_someV4 (l : Launch) (g : zG) (o : Nat) (a : Nat → Nat) (th : Int32) (hi : Int32) (ac : Int32) (tp : Int32) (en : Int32) (tA : Int32) (iD : Int32) (iO : Int32) (tU : Int32) (fm : Nat → Int32) (fk : Nat → Int32) (fa : Nat → Int32) (fc : Nat → Int32) (ft : Nat → Int32) (ff : Nat → Int32) (fb : Nat → Int32) (fi : Nat → Int32) (tx : Nat → Int32) (ev : Nat → Int32) (b1 : Int) (bv : Bool) (hen : 0 ≤ en.toInt ∧ en.toInt ≤ 400) (htA : 0 ≤ tA.toInt ∧ tA.toInt ≤ en.toInt + 7 - 4) (hde : 0 ≤ 4 ∧ 4 ≤ 6) (hff : ∀ k9 : Nat, k9 < 6 → ff k9 = ev k9) (hdr : iD = zBi (zNz (ev 6))) (how : iO = zBi (zNz (ev 7))) (hc : zCv tx en.toInt (zAv tx en.toInt ev 2) false true (zbg tx en.toInt tA.toInt) b1 bv) (htx : ∀ k9 : Nat, (k9 : Int) < en.toInt → fm (379 + k9) = tx k9) : zM' g l yX12_some (Cond.code yX12_some cX12_some 3 (some .boolean) :: zB) ({ frames := 16, cells := 0, slots := 0, locals := 352 } : Room) [.ref o] [bMo g o a th hi ac tp 379 en tA (-1) 4 iD iO tU fm fk fa fc ft ff fb fi] (fun (at2 : Int32) => some (.int (zBi bv))) (fun (at2 : Int32) => (0 ≤ at2.toInt ∧ at2.toInt ≤ en.toInt + 7 - 4) ∧ (tA.toInt ≤ at2.toInt) ∧ (zbg tx en.toInt at2.toInt = b1)) (fun (at2 : Int32) => [bMo g o a th hi ac tp 379 en at2 (-1) 4 iD iO tU fm fk fa fc ft ff fb fi]) := by
  refine zM'.of (cc := cX12_some) (maxL := 3) (rt := (some .boolean)) (by decide) rfl (Nat.le_of_ble_eq_true rfl) ?_
  intro p e s m args below meth c A ls St hr hlocks hin hK hT hA hP hD hS hl
  obtain ⟨hx, hb, hml, hown, hts⟩ := id St
  have hl : lv_has ls 3 [(0, .ref o)] := hl
  refine lv_aload_n hx hb dX12_some_0 rfl (lv_at hl 0 rfl) ?_
  refine mcallV' (g := g) (q0 := 0) (ci := 10) (As := []) (rest := []) St hK hT hA hP hD hS hl.1 [0] [] rfl rfl rfl (m_everyV4 l g o a th hi ac tp en tA iD iO tU fm fk fa fc ft ff fb fi tx ev b1 bv false hen htA hde hff hdr how hc htx) (cwV 0 hts (zgL (zl4 k959 k960 k961 k839) k957) rfl rfl rfl (by decide +kernel) ⟨Nat.le_of_ble_eq_true rfl, Nat.le_of_ble_eq_true rfl⟩) rfl rfl rfl rfl (Nat.le_of_ble_eq_true rfl) dX12_some_1 ⟨(Nat.le_of_ble_eq_true rfl), (Nat.le_of_ble_eq_true rfl)⟩ (fun u_ H locs hq4 hP hD hS => ?_)
  obtain ⟨at2_1, q_2, w9_3⟩ := u_
  replace hq4 : (0 ≤ at2_1.toInt ∧ at2_1.toInt ≤ en.toInt + 7 - 4) ∧ (tA.toInt ≤ at2_1.toInt) ∧ (q_2 = zBi w9_3) ∧ (zCvE tx en.toInt (zAv tx en.toInt ev 2) false w9_3 (zbg tx en.toInt at2_1.toInt) b1 bv) := hq4
  have hP : va_P g.1 vwCl (List.flatten [bMo g o a th hi ac tp 379 en at2_1 (-1) 4 iD iO tU fm fk fa fc ft ff fb fi]) H := hP
  have hD : va_D A (List.flatten [bMo g o a th hi ac tp 379 en at2_1 (-1) 4 iD iO tU fm fk fa fc ft ff fb fi]) := hD
  refine W.widen (k := 0) (n := 0) (Nat.le_of_ble_eq_true rfl) (Nat.le_of_ble_eq_true rfl) ?_
  refine W.eq (g2 := F0 m 4 ls [.int q_2]) rfl ?_
  obtain ⟨hq4_0, hq4_1, hq4_2, hq4_3⟩ := hq4
  refine lv_istore_n (lv' := [(1, .int q_2), (0, .ref o)]) hx hb dX12_some_4 rfl hl (by decide) rfl (fun ls hl => ?_)
  have hl := lv_sub (l' := [(0, .ref o), (1, .int q_2)]) hl [1, 0] rfl
  have LP5_11 : ∀ (kf : Nat) (x_5 : Int32) (x_6 : Int32), (0 ≤ x_6.toInt ∧ x_6.toInt ≤ 407) → (tA.toInt ≤ x_6.toInt) → (x_6.toInt ≤ en.toInt + 7 - 4) → (∃ a9, x_5 = zBi a9 ∧ zCvO tx en.toInt (zAv tx en.toInt ev 2) a9 (zbg tx en.toInt x_6.toInt) b1 bv) → ∀ (H : Heap) (locs : List Loc) (ls : Array Slot), ((en.toInt + 8 - x_6.toInt).toNat) < kf → va_P g.1 vwCl (List.flatten [bMo g o a th hi ac tp 379 en x_6 (-1) 4 iD iO tU fm fk fa fc ft ff fb fi]) H → va_D A (List.flatten [bMo g o a th hi ac tp 379 en x_6 (-1) 4 iD iO tU fm fk fa fc ft ff fb fi]) → va_S A s.heap H locs → lv_has ls 3 [(0, .ref o), (1, .int x_5)] → W p l e ({ frames := 16, cells := 0, slots := 0, locals := 352 } : Room) s m args below meth c H locs (0) (0) (zF g (fun (at2 : Int32) => some (.int (zBi bv))) (fun (at2 : Int32) => (0 ≤ at2.toInt ∧ at2.toInt ≤ en.toInt + 7 - 4) ∧ (tA.toInt ≤ at2.toInt) ∧ (zbg tx en.toInt at2.toInt = b1)) (fun (at2 : Int32) => [bMo g o a th hi ac tp 379 en at2 (-1) 4 iD iO tU fm fk fa fc ft ff fb fi]) ({ frames := 16, cells := 0, slots := 0, locals := 352 } : Room) below args s A) (F0 m 5 ls []) := by
    intro kf
    induction kf with
    | zero => intro x_5 x_6 i7 i8 i9 i10 H locs ls hk; exact absurd hk (Nat.not_lt_zero _)
    | succ kf ih5_12 =>
      intro x_5 x_6 i7 i8 i9 i10 H locs ls hk5_12 hP hD hS hl
      refine lv_aload_n hx hb dX12_some_5 rfl (lv_at hl 0 rfl) ?_
      refine va_get (D := g.1) (ci := 10) (v := .int (-1)) (C := RX12) (T := TX12) (N := 20) hx hb hts izRX12 hown hK hP 0 rfl rfl 12 (by decide) (hts _ k820) (fun _ h9 => h9) rfl dX12_some_6 ?_
      refine lv_iconst (v := (-1)) hx hb dX12_some_9 (by decide) ?_
      refine lv_icmp_ne (tgt := 44) hx hb dX12_some_10 (by decide) (fun c13 => absurd (by decide) c13) (fun _ => ?_)
      obtain ⟨a14, e15, h16⟩ := i10
      refine lv_aload_n hx hb dX12_some_13 rfl (lv_at hl 0 rfl) ?_
      refine va_ldcS (q := g.2 102) hx hb hown (zra46 hT.2.1) dX12_some_14 ?_
      have hL4 : (4 : Int32).toInt = 4 := by decide
      refine mcallV' (g := g) (q0 := 0) (ci := 10) (As := [.ref (g.2 102)]) (rest := []) St hK hT hA hP hD hS hl.1 [0] [] rfl rfl rfl (m_hasH l g o a th hi ac tp en x_6 (-1) 4 iD iO tU fm fk fa fc ft ff fb fi tx (g.2 102) 46 zqa46 hen (by first | assumption | omega | decide | exact Or.inl (by decide) | exact Or.inr (by decide)) (by decide) htx rfl zla46 zna46 (zlitB zla46)) (cwV 1 hts (zgL (zl4 k899 k900 k901 k839) k889) rfl rfl rfl (by decide +kernel) ⟨Nat.le_of_ble_eq_true rfl, Nat.le_of_ble_eq_true rfl⟩) rfl rfl rfl rfl (Nat.le_of_ble_eq_true rfl) dX12_some_16 ⟨(Nat.le_of_ble_eq_true rfl), (Nat.le_of_ble_eq_true rfl)⟩ (fun u_ H locs hq19 hP hD hS => ?_)
      obtain ⟨at2_17, r_18⟩ := u_
      replace hq19 : (0 ≤ at2_17.toInt ∧ at2_17.toInt ≤ en.toInt + 7 - (4 : Int32).toInt) ∧ (x_6.toInt ≤ at2_17.toInt) ∧ (r_18 = 1 ∧ zisW tx en.toInt (zbg tx en.toInt x_6.toInt) zqa46.2.2.2 ∧ at2_17.toInt = znx tx en.toInt (zbg tx en.toInt x_6.toInt) ∧ x_6.toInt < at2_17.toInt ∧ at2_17.toInt ≤ en.toInt ∨ r_18 = 0 ∧ ¬ zisW tx en.toInt (zbg tx en.toInt x_6.toInt) zqa46.2.2.2 ∧ at2_17.toInt = zbg tx en.toInt x_6.toInt) := hq19
      have hP : va_P g.1 vwCl (List.flatten [bMo g o a th hi ac tp 379 en at2_17 (-1) 4 iD iO tU fm fk fa fc ft ff fb fi]) H := hP
      have hD : va_D A (List.flatten [bMo g o a th hi ac tp 379 en at2_17 (-1) 4 iD iO tU fm fk fa fc ft ff fb fi]) := hD
      refine W.widen (k := 0) (n := 0) (Nat.le_of_ble_eq_true rfl) (Nat.le_of_ble_eq_true rfl) ?_
      refine W.eq (g2 := F0 m 19 ls [.int r_18]) rfl ?_
      obtain ⟨hq19_0, hq19_1, hq19_2⟩ := hq19
      rcases hq19_2 with ⟨rfl, hq19_k, hq19_km⟩ | ⟨rfl, hq19_k, hq19_km⟩
      · skip
        refine lv_if_eq (tgt := 44) hx hb dX12_some_19 (by decide) (fun c20 => absurd c20 (by decide)) (fun _ => ?_)
        have h21 := zCv_b (zCvO_y h16 hq19_k) (show zbg tx en.toInt at2_17.toInt = _ from zbt hq19_km.1)
        refine lv_aload_n hx hb dX12_some_22 rfl (lv_at hl 0 rfl) ?_
        refine mcallV' (g := g) (q0 := 0) (ci := 10) (As := []) (rest := []) St hK hT hA hP hD hS hl.1 [0] [] rfl rfl rfl (m_everyV4 l g o a th hi ac tp en at2_17 iD iO tU fm fk fa fc ft ff fb fi tx ev b1 bv a14 hen (by first | assumption | omega | decide | exact Or.inl (by decide) | exact Or.inr (by decide)) hde hff hdr how (by first | assumption | omega | decide | exact Or.inl (by decide) | exact Or.inr (by decide)) htx) (cwV 0 hts (zgL (zl4 k959 k960 k961 k839) k957) rfl rfl rfl (by decide +kernel) ⟨Nat.le_of_ble_eq_true rfl, Nat.le_of_ble_eq_true rfl⟩) rfl rfl rfl rfl (Nat.le_of_ble_eq_true rfl) dX12_some_23 ⟨(Nat.le_of_ble_eq_true rfl), (Nat.le_of_ble_eq_true rfl)⟩ (fun u_ H locs hq25 hP hD hS => ?_)
        obtain ⟨at2_22, q_23, w9_24⟩ := u_
        replace hq25 : (0 ≤ at2_22.toInt ∧ at2_22.toInt ≤ en.toInt + 7 - 4) ∧ (at2_17.toInt ≤ at2_22.toInt) ∧ (q_23 = zBi w9_24) ∧ (zCvE tx en.toInt (zAv tx en.toInt ev 2) a14 w9_24 (zbg tx en.toInt at2_22.toInt) b1 bv) := hq25
        have hP : va_P g.1 vwCl (List.flatten [bMo g o a th hi ac tp 379 en at2_22 (-1) 4 iD iO tU fm fk fa fc ft ff fb fi]) H := hP
        have hD : va_D A (List.flatten [bMo g o a th hi ac tp 379 en at2_22 (-1) 4 iD iO tU fm fk fa fc ft ff fb fi]) := hD
        refine W.widen (k := 0) (n := 0) (Nat.le_of_ble_eq_true rfl) (Nat.le_of_ble_eq_true rfl) ?_
        refine W.eq (g2 := F0 m 26 ls [.int q_23]) rfl ?_
        obtain ⟨hq25_0, hq25_1, hq25_2, hq25_3⟩ := hq25
        refine lv_istore_n (lv' := [(2, .int q_23), (0, .ref o), (1, .int x_5)]) hx hb dX12_some_26 rfl hl (by decide) rfl (fun ls hl => ?_)
        refine lv_iload_n hx hb dX12_some_27 rfl (lv_at hl 2 rfl) ?_
        refine lv_if_ne (tgt := 35) hx hb dX12_some_28 (by decide) (fun cb9 => ?_) (fun cb9 => ?_)
        · skip
          have c26 : ¬ x_5.toInt = 0 := zne cb9 rfl (by decide)
          refine lv_iconst (v := 1) hx hb dX12_some_35 (by decide) ?_
          refine lv_goto (tgt := 40) hx hb dX12_some_36 (by decide) ?_
          refine lv_istore_n (lv' := [(1, .int 1), (2, .int q_23), (0, .ref o)]) hx hb dX12_some_40 rfl hl (by decide) rfl (fun ls hl => ?_)
          refine lv_goto (tgt := 5) hx hb dX12_some_41 (by decide) ?_
          have hl := lv_sub (l' := [(0, .ref o), (1, .int 1), (2, .int q_23)]) hl [2, 0, 1] rfl
          have hL1 : (1 : Int32).toInt = 1 := by decide
          have hP : va_P g.1 vwCl (List.flatten [bMo g o a th hi ac tp 379 en at2_22 (-1) 4 iD iO tU fm fk fa fc ft ff fb fi]) H := hP
          have hD : va_D A (List.flatten [bMo g o a th hi ac tp 379 en at2_22 (-1) 4 iD iO tU fm fk fa fc ft ff fb fi]) := hD
          exact ih5_12 1 at2_22 (by first | omega | assumption | decide) (by first | omega | assumption | decide) (by first | omega | assumption | decide) ⟨_, (zBo1 (by rw [← e15]; omega)), zCvE_o hq25_3⟩ H _ ls (by omega)  hP hD hS (lv_sub hl [0, 1] rfl)
        · skip
          have c27 : x_5.toInt = 0 := zeq cb9 rfl (by decide)
          have n28 : 0 ≤ x_5.toInt := Int.le_trans (Int.le_refl _) (Int.le_of_eq c27.symm)
          have n29 : x_5.toInt ≤ 0 := Int.le_trans (Int.le_of_eq c27) (Int.le_refl _)
          refine lv_iload_n hx hb dX12_some_31 rfl (lv_at hl 0 rfl) ?_
          refine lv_if_eq (tgt := 39) hx hb dX12_some_32 (by decide) (fun cb9 => ?_) (fun cb9 => ?_)
          · skip
            have c30 : q_23.toInt = 0 := zeq cb9 rfl (by decide)
            have n31 : 0 ≤ q_23.toInt := Int.le_trans (Int.le_refl _) (Int.le_of_eq c30.symm)
            have n32 : q_23.toInt ≤ 0 := Int.le_trans (Int.le_of_eq c30) (Int.le_refl _)
            refine lv_iconst (v := 0) hx hb dX12_some_39 (by decide) ?_
            refine lv_istore_n (lv' := [(1, .int 0), (2, .int q_23), (0, .ref o)]) hx hb dX12_some_40 rfl hl (by decide) rfl (fun ls hl => ?_)
            refine lv_goto (tgt := 5) hx hb dX12_some_41 (by decide) ?_
            have hl := lv_sub (l' := [(0, .ref o), (1, .int 0), (2, .int q_23)]) hl [2, 0, 1] rfl
            have hL0 : (0 : Int32).toInt = 0 := by decide
            have hP : va_P g.1 vwCl (List.flatten [bMo g o a th hi ac tp 379 en at2_22 (-1) 4 iD iO tU fm fk fa fc ft ff fb fi]) H := hP
            have hD : va_D A (List.flatten [bMo g o a th hi ac tp 379 en at2_22 (-1) 4 iD iO tU fm fk fa fc ft ff fb fi]) := hD
            exact ih5_12 0 at2_22 (by first | omega | assumption | decide) (by first | omega | assumption | decide) (by first | omega | assumption | decide) ⟨_, (zBo0 (by rw [← e15]; omega) (by rw [← hq25_2]; omega)), zCvE_o hq25_3⟩ H _ ls (by omega)  hP hD hS (lv_sub hl [0, 1] rfl)
          · skip
            have c33 : ¬ q_23.toInt = 0 := zne cb9 rfl (by decide)
            refine lv_iconst (v := 1) hx hb dX12_some_35 (by decide) ?_
            refine lv_goto (tgt := 40) hx hb dX12_some_36 (by decide) ?_
            refine lv_istore_n (lv' := [(1, .int 1), (2, .int q_23), (0, .ref o)]) hx hb dX12_some_40 rfl hl (by decide) rfl (fun ls hl => ?_)
            refine lv_goto (tgt := 5) hx hb dX12_some_41 (by decide) ?_
            have hl := lv_sub (l' := [(0, .ref o), (1, .int 1), (2, .int q_23)]) hl [2, 0, 1] rfl
            have hL1 : (1 : Int32).toInt = 1 := by decide
            have hP : va_P g.1 vwCl (List.flatten [bMo g o a th hi ac tp 379 en at2_22 (-1) 4 iD iO tU fm fk fa fc ft ff fb fi]) H := hP
            have hD : va_D A (List.flatten [bMo g o a th hi ac tp 379 en at2_22 (-1) 4 iD iO tU fm fk fa fc ft ff fb fi]) := hD
            exact ih5_12 1 at2_22 (by first | omega | assumption | decide) (by first | omega | assumption | decide) (by first | omega | assumption | decide) ⟨_, (zBo2 (by rw [← hq25_2]; omega)), zCvE_o hq25_3⟩ H _ ls (by omega)  hP hD hS (lv_sub hl [0, 1] rfl)
      · skip
        refine lv_if_eq (tgt := 44) hx hb dX12_some_19 (by decide) (fun _ => ?_) (fun c34 => absurd (by decide) c34)
        refine lv_iload_n hx hb dX12_some_44 rfl (lv_at hl 1 rfl) ?_
        refine ztop (r := (zBi bv)) (by rw [(zCvO_n h16 hq19_k).2]; exact e15) ?_
        have hP : va_P g.1 vwCl (List.flatten [bMo g o a th hi ac tp 379 en at2_17 (-1) 4 iD iO tU fm fk fa fc ft ff fb fi]) H := hP
        have hD : va_D A (List.flatten [bMo g o a th hi ac tp 379 en at2_17 (-1) 4 iD iO tU fm fk fa fc ft ff fb fi]) := hD
        exact mret_z hx hb hr hlocks hS (Nat.le_of_ble_eq_true rfl) (Nat.le_of_ble_eq_true rfl) dX12_some_45 (at2_17) rfl (zb01 (zBi_01 _)) (show (0 ≤ at2_17.toInt ∧ at2_17.toInt ≤ en.toInt + 7 - 4) ∧ (tA.toInt ≤ at2_17.toInt) ∧ (zbg tx en.toInt at2_17.toInt = b1) from ⟨(by first | assumption | omega | decide), (by first | assumption | omega | decide), ((zbz hq19_km).trans (zCvO_n h16 hq19_k).1.symm)⟩) hP hD
  have hP : va_P g.1 vwCl (List.flatten [bMo g o a th hi ac tp 379 en at2_1 (-1) 4 iD iO tU fm fk fa fc ft ff fb fi]) H := hP
  have hD : va_D A (List.flatten [bMo g o a th hi ac tp 379 en at2_1 (-1) 4 iD iO tU fm fk fa fc ft ff fb fi]) := hD
  exact LP5_11 _ q_2 at2_1 (by first | omega | assumption | decide) hq4_1 (by first | omega | assumption | decide) ⟨_, hq4_2, zCvO_w (zCvE_o hq4_3)⟩ H _ ls (Nat.lt_succ_self _)  hP hD hS (lv_sub hl [0, 1] rfl)
set_option maxRecDepth 100000 in
set_option maxHeartbeats 4000000 in
theorem m_atomV3 (l : Launch) (g : zG) (o : Nat) (a : Nat → Nat) (th : Int32) (hi : Int32) (ac : Int32) (tp : Int32) (en : Int32) (tA : Int32) (iD : Int32) (iO : Int32) (tU : Int32) (fm : Nat → Int32) (fk : Nat → Int32) (fa : Nat → Int32) (fc : Nat → Int32) (ft : Nat → Int32) (ff : Nat → Int32) (fb : Nat → Int32) (fi : Nat → Int32) (tx : Nat → Int32) (ev : Nat → Int32) (b1 : Int) (bv : Bool) (hen : 0 ≤ en.toInt ∧ en.toInt ≤ 400) (htA : 0 ≤ tA.toInt ∧ tA.toInt ≤ en.toInt + 7 - 3) (hde : 0 ≤ 3 ∧ 3 ≤ 6) (hff : ∀ k9 : Nat, k9 < 6 → ff k9 = ev k9) (hdr : iD = zBi (zNz (ev 6))) (how : iO = zBi (zNz (ev 7))) (ha : zAv tx en.toInt ev 3 (zbg tx en.toInt tA.toInt) b1 bv) (htx : ∀ k9 : Nat, (k9 : Int) < en.toInt → fm (379 + k9) = tx k9) : zM' g l yX12_atom (Cond.code yX12_atom cX12_atom 4 (some .boolean) :: zB) ({ frames := 17, cells := 0, slots := 0, locals := 374 } : Room) [.ref o] [bMo g o a th hi ac tp 379 en tA (-1) 3 iD iO tU fm fk fa fc ft ff fb fi] (fun (at2 : Int32) => some (.int (zBi bv))) (fun (at2 : Int32) => (0 ≤ at2.toInt ∧ at2.toInt ≤ en.toInt + 7 - 3) ∧ (tA.toInt ≤ at2.toInt) ∧ (zbg tx en.toInt at2.toInt = b1)) (fun (at2 : Int32) => [bMo g o a th hi ac tp 379 en at2 (-1) 3 iD iO tU fm fk fa fc ft ff fb fi]) := by
  refine zM'.of (cc := cX12_atom) (maxL := 4) (rt := (some .boolean)) (by decide) rfl (Nat.le_of_ble_eq_true rfl) ?_
  intro p e s m args below meth c A ls St hr hlocks hin hK hT hA hP hD hS hl
  obtain ⟨hx, hb, hml, hown, hts⟩ := id St
  have hl : lv_has ls 4 [(0, .ref o)] := hl
  refine lv_aload_n hx hb dX12_atom_0 rfl (lv_at hl 0 rfl) ?_
  refine va_get (D := g.1) (ci := 10) (v := .int (-1)) (C := RX12) (T := TX12) (N := 20) hx hb hts izRX12 hown hK hP 0 rfl rfl 12 (by decide) (hts _ k820) (fun _ h9 => h9) rfl dX12_atom_1 ?_
  refine lv_iconst (v := (-1)) hx hb dX12_atom_4 (by decide) ?_
  refine lv_icmp_eq (tgt := 10) hx hb dX12_atom_5 (by decide) (fun _ => ?_) (fun c1 => absurd (by decide) c1)
  refine lv_aload_n hx hb dX12_atom_10 rfl (lv_at hl 0 rfl) ?_
  have hL3 : (3 : Int32).toInt = 3 := by decide
  refine mcallV' (g := g) (q0 := 0) (ci := 10) (As := []) (rest := []) St hK hT hA hP hD hS hl.1 [0] [] rfl rfl rfl (m_hereH l g o a th hi ac tp en tA (-1) 3 iD iO tU fm fk fa fc ft ff fb fi tx hen (by first | assumption | omega | decide | exact Or.inl (by decide) | exact Or.inr (by decide)) (by decide) htx) (cwV 0 hts (zgL (zl4 k892 k893 k894 k839) k891) rfl rfl rfl (by decide +kernel) ⟨Nat.le_of_ble_eq_true rfl, Nat.le_of_ble_eq_true rfl⟩) rfl rfl rfl rfl (Nat.le_of_ble_eq_true rfl) dX12_atom_11 ⟨(Nat.le_of_ble_eq_true rfl), (Nat.le_of_ble_eq_true rfl)⟩ (fun at2_2 H locs hq3 hP hD hS => ?_)
  replace hq3 : (0 ≤ at2_2.toInt ∧ at2_2.toInt ≤ en.toInt + 7 - (3 : Int32).toInt) ∧ (tA.toInt ≤ at2_2.toInt) ∧ (zSk tx en.toInt tA.toInt at2_2.toInt) := hq3
  have hP : va_P g.1 vwCl (List.flatten [bMo g o a th hi ac tp 379 en at2_2 (-1) 3 iD iO tU fm fk fa fc ft ff fb fi]) H := hP
  have hD : va_D A (List.flatten [bMo g o a th hi ac tp 379 en at2_2 (-1) 3 iD iO tU fm fk fa fc ft ff fb fi]) := hD
  refine W.widen (k := 0) (n := 0) (Nat.le_of_ble_eq_true rfl) (Nat.le_of_ble_eq_true rfl) ?_
  refine W.eq (g2 := F0 m 14 ls [.int at2_2]) rfl ?_
  obtain ⟨hq3_0, hq3_1, hq3_2⟩ := hq3
  refine lv_istore_n (lv' := [(1, .int at2_2), (0, .ref o)]) hx hb dX12_atom_14 rfl hl (by decide) rfl (fun ls hl => ?_)
  refine lv_aload_n hx hb dX12_atom_15 rfl (lv_at hl 1 rfl) ?_
  refine va_ldcS (q := g.2 98) hx hb hown (zra44 hT.2.1) dX12_atom_16 ?_
  refine mcallV' (g := g) (q0 := 0) (ci := 10) (As := [.ref (g.2 98)]) (rest := []) St hK hT hA hP hD hS hl.1 [0] [] rfl rfl rfl (m_hasH l g o a th hi ac tp en at2_2 (-1) 3 iD iO tU fm fk fa fc ft ff fb fi tx (g.2 98) 44 zqa44 hen hq3_0 (by decide) htx rfl zla44 zna44 (zlitB zla44)) (cwV 1 hts (zgL (zl4 k899 k900 k901 k839) k889) rfl rfl rfl (by decide +kernel) ⟨Nat.le_of_ble_eq_true rfl, Nat.le_of_ble_eq_true rfl⟩) rfl rfl rfl rfl (Nat.le_of_ble_eq_true rfl) dX12_atom_18 ⟨(Nat.le_of_ble_eq_true rfl), (Nat.le_of_ble_eq_true rfl)⟩ (fun u_ H locs hq6 hP hD hS => ?_)
  obtain ⟨at2_4, r_5⟩ := u_
  replace hq6 : (0 ≤ at2_4.toInt ∧ at2_4.toInt ≤ en.toInt + 7 - (3 : Int32).toInt) ∧ (at2_2.toInt ≤ at2_4.toInt) ∧ (r_5 = 1 ∧ zisW tx en.toInt (zbg tx en.toInt at2_2.toInt) zqa44.2.2.2 ∧ at2_4.toInt = znx tx en.toInt (zbg tx en.toInt at2_2.toInt) ∧ at2_2.toInt < at2_4.toInt ∧ at2_4.toInt ≤ en.toInt ∨ r_5 = 0 ∧ ¬ zisW tx en.toInt (zbg tx en.toInt at2_2.toInt) zqa44.2.2.2 ∧ at2_4.toInt = zbg tx en.toInt at2_2.toInt) := hq6
  have hP : va_P g.1 vwCl (List.flatten [bMo g o a th hi ac tp 379 en at2_4 (-1) 3 iD iO tU fm fk fa fc ft ff fb fi]) H := hP
  have hD : va_D A (List.flatten [bMo g o a th hi ac tp 379 en at2_4 (-1) 3 iD iO tU fm fk fa fc ft ff fb fi]) := hD
  refine W.widen (k := 0) (n := 0) (Nat.le_of_ble_eq_true rfl) (Nat.le_of_ble_eq_true rfl) ?_
  refine W.eq (g2 := F0 m 21 ls [.int r_5]) rfl ?_
  obtain ⟨hq6_0, hq6_1, hq6_2⟩ := hq6
  rcases hq6_2 with ⟨rfl, hq6_k, hq6_km⟩ | ⟨rfl, hq6_k, hq6_km⟩
  · skip
    refine lv_istore_n (lv' := [(2, .int 1), (1, .int at2_2), (0, .ref o)]) hx hb dX12_atom_21 rfl hl (by decide) rfl (fun ls hl => ?_)
    refine lv_iload_n hx hb dX12_atom_22 rfl (lv_at hl 0 rfl) ?_
    refine lv_if_ne (tgt := 40) hx hb dX12_atom_23 (by decide) (fun _ => ?_) (fun c7 => absurd c7 (by decide))
    refine lv_aload_n hx hb dX12_atom_40 rfl (lv_at hl 2 rfl) ?_
    refine va_get (D := g.1) (ci := 10) (v := .int 3) (C := RX12) (T := TX12) (N := 20) hx hb hts izRX12 hown hK hP 0 rfl rfl 13 (by decide) (hts _ k933) (fun _ h9 => h9) rfl dX12_atom_41 ?_
    refine lv_bipush (v := 6) hx hb dX12_atom_44 (by decide) ?_
    refine lv_icmp_ne (tgt := 56) hx hb dX12_atom_46 (by decide) (fun _ => ?_) (fun c8 => absurd c8 (by decide))
    refine lv_aload_n hx hb dX12_atom_56 rfl (lv_at hl 2 rfl) ?_
    refine lv_dup hx hb dX12_atom_57 rfl ?_
    refine va_get (D := g.1) (ci := 10) (v := .int 3) (C := RX12) (T := TX12) (N := 20) hx hb hts izRX12 hown hK hP 0 rfl rfl 13 (by decide) (hts _ k933) (fun _ h9 => h9) rfl dX12_atom_58 ?_
    refine lv_iconst (v := 1) hx hb dX12_atom_61 (by decide) ?_
    refine lv_iadd hx hb dX12_atom_62 ?_
    refine ztop (r := 4) (by decide) ?_
    refine va_put (D := g.1) (ci := 10) (v := .int 4) (ty := .int) (C := RX12) (T := TX12) (N := 20) hx hb hts izRX12 tyX12 tyX12_ok nmX12 hown hK hP hD hS 0 rfl rfl 13 (by decide) (hts _ k933) (fun _ h9 => h9) rfl (by decide +kernel) rfl rfl (Nat.le_of_ble_eq_true rfl) dX12_atom_63 (fun H locs hP hD hS => ?_)
    have hP : va_P g.1 vwCl (List.flatten [bMo g o a th hi ac tp 379 en at2_4 (-1) 4 iD iO tU fm fk fa fc ft ff fb fi]) H := hP
    have hD : va_D A (List.flatten [bMo g o a th hi ac tp 379 en at2_4 (-1) 4 iD iO tU fm fk fa fc ft ff fb fi]) := hD
    refine lv_iconst (v := 0) hx hb dX12_atom_66 (by decide) ?_
    refine lv_istore_n (lv' := [(3, .int 0), (2, .int 1), (1, .int at2_2), (0, .ref o)]) hx hb dX12_atom_67 rfl hl (by decide) rfl (fun ls hl => ?_)
    refine lv_iload_n hx hb dX12_atom_68 rfl (lv_at hl 1 rfl) ?_
    refine lv_if_eq (tgt := 88) hx hb dX12_atom_69 (by decide) (fun c9 => absurd c9 (by decide)) (fun _ => ?_)
    have ha9 : zAv tx en.toInt ev 2 (zbg tx en.toInt at2_4.toInt) b1 (!bv) := zAv_b (zAv_n ha (zBy (show _ = zbg tx en.toInt tA.toInt from hq3_2) hq6_k)) (zbt (zBx (show _ = zbg tx en.toInt tA.toInt from hq3_2) hq6_km.1))
    refine lv_aload_n hx hb dX12_atom_72 rfl (lv_at hl 3 rfl) ?_
    refine mcallV' (g := g) (q0 := 0) (ci := 10) (As := []) (rest := []) St hK hT hA hP hD hS hl.1 [0] [] rfl rfl rfl (m_atomV4 l g o a th hi ac tp en at2_4 iD iO tU fm fk fa fc ft ff fb fi tx ev b1 (!bv) hen (by first | assumption | omega | decide | exact Or.inl (by decide) | exact Or.inr (by decide)) (by first | assumption | omega | decide | exact Or.inl (by decide) | exact Or.inr (by decide)) hff hdr how (by first | assumption | omega | decide | exact Or.inl (by decide) | exact Or.inr (by decide)) htx) (cwV 0 hts (zgL (zl4 k951 k952 k953 k839) k962) rfl rfl rfl (by decide +kernel) ⟨Nat.le_of_ble_eq_true rfl, Nat.le_of_ble_eq_true rfl⟩) rfl rfl rfl rfl (Nat.le_of_ble_eq_true rfl) dX12_atom_73 ⟨(Nat.le_of_ble_eq_true rfl), (Nat.le_of_ble_eq_true rfl)⟩ (fun at2_10 H locs hq11 hP hD hS => ?_)
    replace hq11 : (0 ≤ at2_10.toInt ∧ at2_10.toInt ≤ en.toInt + 7 - 4) ∧ (at2_4.toInt ≤ at2_10.toInt) ∧ (zbg tx en.toInt at2_10.toInt = b1) := hq11
    have hP : va_P g.1 vwCl (List.flatten [bMo g o a th hi ac tp 379 en at2_10 (-1) 4 iD iO tU fm fk fa fc ft ff fb fi]) H := hP
    have hD : va_D A (List.flatten [bMo g o a th hi ac tp 379 en at2_10 (-1) 4 iD iO tU fm fk fa fc ft ff fb fi]) := hD
    refine W.widen (k := 0) (n := 0) (Nat.le_of_ble_eq_true rfl) (Nat.le_of_ble_eq_true rfl) ?_
    refine W.eq (g2 := F0 m 76 ls [.int (zBi (!bv))]) rfl ?_
    obtain ⟨hq11_0, hq11_1, hq11_2⟩ := hq11
    refine lv_if_ne (tgt := 83) hx hb dX12_atom_76 (by decide) (fun cb9 => ?_) (fun cb9 => ?_)
    · skip
      have c12 : ¬ (zBi (!bv)).toInt = 0 := zne cb9 rfl (by decide)
      refine lv_iconst (v := 0) hx hb dX12_atom_83 (by decide) ?_
      refine lv_istore_n (lv' := [(3, .int 0), (2, .int 1), (1, .int at2_2), (0, .ref o)]) hx hb dX12_atom_84 rfl hl (by decide) rfl (fun ls hl => ?_)
      refine lv_goto (tgt := 138) hx hb dX12_atom_85 (by decide) ?_
      refine lv_aload_n hx hb dX12_atom_138 rfl (lv_at hl 3 rfl) ?_
      refine lv_dup hx hb dX12_atom_139 rfl ?_
      refine va_get (D := g.1) (ci := 10) (v := .int 4) (C := RX12) (T := TX12) (N := 20) hx hb hts izRX12 hown hK hP 0 rfl rfl 13 (by decide) (hts _ k933) (fun _ h9 => h9) rfl dX12_atom_140 ?_
      refine lv_iconst (v := 1) hx hb dX12_atom_143 (by decide) ?_
      refine lv_isub hx hb dX12_atom_144 ?_
      refine ztop (r := 3) (by decide) ?_
      refine va_put (D := g.1) (ci := 10) (v := .int 3) (ty := .int) (C := RX12) (T := TX12) (N := 20) hx hb hts izRX12 tyX12 tyX12_ok nmX12 hown hK hP hD hS 0 rfl rfl 13 (by decide) (hts _ k933) (fun _ h9 => h9) rfl (by decide +kernel) rfl rfl (Nat.le_of_ble_eq_true rfl) dX12_atom_145 (fun H locs hP hD hS => ?_)
      have hP : va_P g.1 vwCl (List.flatten [bMo g o a th hi ac tp 379 en at2_10 (-1) 3 iD iO tU fm fk fa fc ft ff fb fi]) H := hP
      have hD : va_D A (List.flatten [bMo g o a th hi ac tp 379 en at2_10 (-1) 3 iD iO tU fm fk fa fc ft ff fb fi]) := hD
      refine lv_iload_n hx hb dX12_atom_148 rfl (lv_at hl 0 rfl) ?_
      refine ztop (r := (zBi bv)) (zBn0 (by omega)) ?_
      have hP : va_P g.1 vwCl (List.flatten [bMo g o a th hi ac tp 379 en at2_10 (-1) 3 iD iO tU fm fk fa fc ft ff fb fi]) H := hP
      have hD : va_D A (List.flatten [bMo g o a th hi ac tp 379 en at2_10 (-1) 3 iD iO tU fm fk fa fc ft ff fb fi]) := hD
      exact mret_z hx hb hr hlocks hS (Nat.le_of_ble_eq_true rfl) (Nat.le_of_ble_eq_true rfl) dX12_atom_149 (at2_10) rfl (zb01 (zBi_01 _)) (show (0 ≤ at2_10.toInt ∧ at2_10.toInt ≤ en.toInt + 7 - 3) ∧ (tA.toInt ≤ at2_10.toInt) ∧ (zbg tx en.toInt at2_10.toInt = b1) from ⟨(by first | assumption | omega | decide), (by first | assumption | omega | decide), hq11_2⟩) hP hD
    · skip
      have c13 : (zBi (!bv)).toInt = 0 := zeq cb9 rfl (by decide)
      have n14 : 0 ≤ (zBi (!bv)).toInt := Int.le_trans (Int.le_refl _) (Int.le_of_eq c13.symm)
      have n15 : (zBi (!bv)).toInt ≤ 0 := Int.le_trans (Int.le_of_eq c13) (Int.le_refl _)
      refine lv_iconst (v := 1) hx hb dX12_atom_79 (by decide) ?_
      refine lv_goto (tgt := 84) hx hb dX12_atom_80 (by decide) ?_
      refine lv_istore_n (lv' := [(3, .int 1), (2, .int 1), (1, .int at2_2), (0, .ref o)]) hx hb dX12_atom_84 rfl hl (by decide) rfl (fun ls hl => ?_)
      refine lv_goto (tgt := 138) hx hb dX12_atom_85 (by decide) ?_
      refine lv_aload_n hx hb dX12_atom_138 rfl (lv_at hl 3 rfl) ?_
      refine lv_dup hx hb dX12_atom_139 rfl ?_
      refine va_get (D := g.1) (ci := 10) (v := .int 4) (C := RX12) (T := TX12) (N := 20) hx hb hts izRX12 hown hK hP 0 rfl rfl 13 (by decide) (hts _ k933) (fun _ h9 => h9) rfl dX12_atom_140 ?_
      refine lv_iconst (v := 1) hx hb dX12_atom_143 (by decide) ?_
      refine lv_isub hx hb dX12_atom_144 ?_
      refine ztop (r := 3) (by decide) ?_
      refine va_put (D := g.1) (ci := 10) (v := .int 3) (ty := .int) (C := RX12) (T := TX12) (N := 20) hx hb hts izRX12 tyX12 tyX12_ok nmX12 hown hK hP hD hS 0 rfl rfl 13 (by decide) (hts _ k933) (fun _ h9 => h9) rfl (by decide +kernel) rfl rfl (Nat.le_of_ble_eq_true rfl) dX12_atom_145 (fun H locs hP hD hS => ?_)
      have hP : va_P g.1 vwCl (List.flatten [bMo g o a th hi ac tp 379 en at2_10 (-1) 3 iD iO tU fm fk fa fc ft ff fb fi]) H := hP
      have hD : va_D A (List.flatten [bMo g o a th hi ac tp 379 en at2_10 (-1) 3 iD iO tU fm fk fa fc ft ff fb fi]) := hD
      refine lv_iload_n hx hb dX12_atom_148 rfl (lv_at hl 0 rfl) ?_
      refine ztop (r := (zBi bv)) (zBn1 (by omega)) ?_
      have hP : va_P g.1 vwCl (List.flatten [bMo g o a th hi ac tp 379 en at2_10 (-1) 3 iD iO tU fm fk fa fc ft ff fb fi]) H := hP
      have hD : va_D A (List.flatten [bMo g o a th hi ac tp 379 en at2_10 (-1) 3 iD iO tU fm fk fa fc ft ff fb fi]) := hD
      exact mret_z hx hb hr hlocks hS (Nat.le_of_ble_eq_true rfl) (Nat.le_of_ble_eq_true rfl) dX12_atom_149 (at2_10) rfl (zb01 (zBi_01 _)) (show (0 ≤ at2_10.toInt ∧ at2_10.toInt ≤ en.toInt + 7 - 3) ∧ (tA.toInt ≤ at2_10.toInt) ∧ (zbg tx en.toInt at2_10.toInt = b1) from ⟨(by first | assumption | omega | decide), (by first | assumption | omega | decide), hq11_2⟩) hP hD
  · skip
    refine lv_istore_n (lv' := [(2, .int 0), (1, .int at2_2), (0, .ref o)]) hx hb dX12_atom_21 rfl hl (by decide) rfl (fun ls hl => ?_)
    refine lv_iload_n hx hb dX12_atom_22 rfl (lv_at hl 0 rfl) ?_
    refine lv_if_ne (tgt := 40) hx hb dX12_atom_23 (by decide) (fun c16 => absurd (by decide) c16) (fun _ => ?_)
    refine lv_aload_n hx hb dX12_atom_26 rfl (lv_at hl 2 rfl) ?_
    refine lv_bipush (v := 40) hx hb dX12_atom_27 (by decide) ?_
    have hL40 : (40 : Int32).toInt = 40 := by decide
    refine mcallV' (g := g) (q0 := 0) (ci := 10) (As := [.int 40]) (rest := []) St hK hT hA hP hD hS hl.1 [0] [] rfl rfl rfl (m_isSignH l g o a th hi ac tp en at2_4 (-1) 3 iD iO tU fm fk fa fc ft ff fb fi 40 tx hen hq6_0 (by decide) (by first | assumption | omega | decide | exact Or.inl (by decide) | exact Or.inr (by decide)) htx) (cwV 1 hts (zgL (zl4 k938 k939 k940 k839) k883) rfl rfl rfl (by decide +kernel) ⟨Nat.le_of_ble_eq_true rfl, Nat.le_of_ble_eq_true rfl⟩) rfl rfl rfl rfl (Nat.le_of_ble_eq_true rfl) dX12_atom_29 ⟨(Nat.le_of_ble_eq_true rfl), (Nat.le_of_ble_eq_true rfl)⟩ (fun u_ H locs hq19 hP hD hS => ?_)
    obtain ⟨at2_17, q_18⟩ := u_
    replace hq19 : (0 ≤ at2_17.toInt ∧ at2_17.toInt ≤ en.toInt + 7 - (3 : Int32).toInt) ∧ (at2_4.toInt ≤ at2_17.toInt) ∧ (zSk tx en.toInt at2_4.toInt at2_17.toInt) ∧ (q_18 = 1 ∧ zisS tx en.toInt at2_17.toInt (40 : Int32).toInt ∧ at2_17.toInt < en.toInt ∨ q_18 = 0 ∧ ¬ zisS tx en.toInt at2_17.toInt (40 : Int32).toInt) := hq19
    have hP : va_P g.1 vwCl (List.flatten [bMo g o a th hi ac tp 379 en at2_17 (-1) 3 iD iO tU fm fk fa fc ft ff fb fi]) H := hP
    have hD : va_D A (List.flatten [bMo g o a th hi ac tp 379 en at2_17 (-1) 3 iD iO tU fm fk fa fc ft ff fb fi]) := hD
    refine W.widen (k := 0) (n := 0) (Nat.le_of_ble_eq_true rfl) (Nat.le_of_ble_eq_true rfl) ?_
    refine W.eq (g2 := F0 m 32 ls [.int q_18]) rfl ?_
    obtain ⟨hq19_0, hq19_1, hq19_2, hq19_3⟩ := hq19
    rcases hq19_3 with ⟨rfl, hq19_k⟩ | ⟨rfl, hq19_k⟩
    · skip
      refine lv_if_ne (tgt := 40) hx hb dX12_atom_32 (by decide) (fun _ => ?_) (fun c20 => absurd c20 (by decide))
      refine lv_aload_n hx hb dX12_atom_40 rfl (lv_at hl 2 rfl) ?_
      refine va_get (D := g.1) (ci := 10) (v := .int 3) (C := RX12) (T := TX12) (N := 20) hx hb hts izRX12 hown hK hP 0 rfl rfl 13 (by decide) (hts _ k933) (fun _ h9 => h9) rfl dX12_atom_41 ?_
      refine lv_bipush (v := 6) hx hb dX12_atom_44 (by decide) ?_
      refine lv_icmp_ne (tgt := 56) hx hb dX12_atom_46 (by decide) (fun _ => ?_) (fun c21 => absurd c21 (by decide))
      refine lv_aload_n hx hb dX12_atom_56 rfl (lv_at hl 2 rfl) ?_
      refine lv_dup hx hb dX12_atom_57 rfl ?_
      refine va_get (D := g.1) (ci := 10) (v := .int 3) (C := RX12) (T := TX12) (N := 20) hx hb hts izRX12 hown hK hP 0 rfl rfl 13 (by decide) (hts _ k933) (fun _ h9 => h9) rfl dX12_atom_58 ?_
      refine lv_iconst (v := 1) hx hb dX12_atom_61 (by decide) ?_
      refine lv_iadd hx hb dX12_atom_62 ?_
      refine ztop (r := 4) (by decide) ?_
      refine va_put (D := g.1) (ci := 10) (v := .int 4) (ty := .int) (C := RX12) (T := TX12) (N := 20) hx hb hts izRX12 tyX12 tyX12_ok nmX12 hown hK hP hD hS 0 rfl rfl 13 (by decide) (hts _ k933) (fun _ h9 => h9) rfl (by decide +kernel) rfl rfl (Nat.le_of_ble_eq_true rfl) dX12_atom_63 (fun H locs hP hD hS => ?_)
      have hP : va_P g.1 vwCl (List.flatten [bMo g o a th hi ac tp 379 en at2_17 (-1) 4 iD iO tU fm fk fa fc ft ff fb fi]) H := hP
      have hD : va_D A (List.flatten [bMo g o a th hi ac tp 379 en at2_17 (-1) 4 iD iO tU fm fk fa fc ft ff fb fi]) := hD
      refine lv_iconst (v := 0) hx hb dX12_atom_66 (by decide) ?_
      refine lv_istore_n (lv' := [(3, .int 0), (2, .int 0), (1, .int at2_2), (0, .ref o)]) hx hb dX12_atom_67 rfl hl (by decide) rfl (fun ls hl => ?_)
      refine lv_iload_n hx hb dX12_atom_68 rfl (lv_at hl 1 rfl) ?_
      refine lv_if_eq (tgt := 88) hx hb dX12_atom_69 (by decide) (fun _ => ?_) (fun c22 => absurd (by decide) c22)
      refine lv_aload_n hx hb dX12_atom_88 rfl (lv_at hl 3 rfl) ?_
      refine lv_dup hx hb dX12_atom_89 rfl ?_
      refine va_get (D := g.1) (ci := 10) (v := .int at2_17) (C := RX12) (T := TX12) (N := 20) hx hb hts izRX12 hown hK hP 0 rfl rfl 11 (by decide) (hts _ k878) (fun _ h9 => h9) rfl dX12_atom_90 ?_
      refine lv_iconst (v := 1) hx hb dX12_atom_93 (by decide) ?_
      refine lv_iadd hx hb dX12_atom_94 ?_
      refine zgv (zadd (i := at2_17.toInt) (j := 1) rfl (by decide) (by omega)) (fun x_23 hx_23 => ?_)
      refine va_put (D := g.1) (ci := 10) (v := .int x_23) (ty := .int) (C := RX12) (T := TX12) (N := 20) hx hb hts izRX12 tyX12 tyX12_ok nmX12 hown hK hP hD hS 0 rfl rfl 11 (by decide) (hts _ k878) (fun _ h9 => h9) rfl (by decide +kernel) rfl rfl (Nat.le_of_ble_eq_true rfl) dX12_atom_95 (fun H locs hP hD hS => ?_)
      have hP : va_P g.1 vwCl (List.flatten [bMo g o a th hi ac tp 379 en x_23 (-1) 4 iD iO tU fm fk fa fc ft ff fb fi]) H := hP
      have hD : va_D A (List.flatten [bMo g o a th hi ac tp 379 en x_23 (-1) 4 iD iO tU fm fk fa fc ft ff fb fi]) := hD
      have hs40 : zisS tx en.toInt (zbg tx en.toInt tA.toInt) 40 := by rw [← zbz (zBe (show _ = zbg tx en.toInt tA.toInt from hq3_2) hq6_km)]; exact zisS_b hq19_2 hq19_k.1 (by decide)
      obtain ⟨p0, hc0, hs0, hb0⟩ := zAv_q ha hs40
      have hc9 := zCv_b hc0 (show zbg tx en.toInt x_23.toInt = _ from (zb1 hq19_2 hq19_k.1 (by omega)).trans (by rw [zbz (zBe (show _ = zbg tx en.toInt tA.toInt from hq3_2) hq6_km)]))
      refine lv_aload_n hx hb dX12_atom_98 rfl (lv_at hl 3 rfl) ?_
      refine mcallV' (g := g) (q0 := 0) (ci := 10) (As := []) (rest := []) St hK hT hA hP hD hS hl.1 [0] [] rfl rfl rfl (m_someV4 l g o a th hi ac tp en x_23 iD iO tU fm fk fa fc ft ff fb fi tx ev p0 bv hen (by first | assumption | omega | decide | exact Or.inl (by decide) | exact Or.inr (by decide)) (by first | assumption | omega | decide | exact Or.inl (by decide) | exact Or.inr (by decide)) hff hdr how (by first | assumption | omega | decide | exact Or.inl (by decide) | exact Or.inr (by decide)) htx) (cwV 0 hts (zgL (zl4 k954 k955 k956 k839) k958) rfl rfl rfl (by decide +kernel) ⟨Nat.le_of_ble_eq_true rfl, Nat.le_of_ble_eq_true rfl⟩) rfl rfl rfl rfl (Nat.le_of_ble_eq_true rfl) dX12_atom_99 ⟨(Nat.le_of_ble_eq_true rfl), (Nat.le_of_ble_eq_true rfl)⟩ (fun at2_24 H locs hq25 hP hD hS => ?_)
      replace hq25 : (0 ≤ at2_24.toInt ∧ at2_24.toInt ≤ en.toInt + 7 - 4) ∧ (x_23.toInt ≤ at2_24.toInt) ∧ (zbg tx en.toInt at2_24.toInt = p0) := hq25
      have hP : va_P g.1 vwCl (List.flatten [bMo g o a th hi ac tp 379 en at2_24 (-1) 4 iD iO tU fm fk fa fc ft ff fb fi]) H := hP
      have hD : va_D A (List.flatten [bMo g o a th hi ac tp 379 en at2_24 (-1) 4 iD iO tU fm fk fa fc ft ff fb fi]) := hD
      refine W.widen (k := 0) (n := 0) (Nat.le_of_ble_eq_true rfl) (Nat.le_of_ble_eq_true rfl) ?_
      refine W.eq (g2 := F0 m 102 ls [.int (zBi bv)]) rfl ?_
      obtain ⟨hq25_0, hq25_1, hq25_2⟩ := hq25
      refine lv_istore_n (lv' := [(3, .int (zBi bv)), (2, .int 0), (1, .int at2_2), (0, .ref o)]) hx hb dX12_atom_102 rfl hl (by decide) rfl (fun ls hl => ?_)
      refine lv_aload_n hx hb dX12_atom_103 rfl (lv_at hl 3 rfl) ?_
      refine va_get (D := g.1) (ci := 10) (v := .int (-1)) (C := RX12) (T := TX12) (N := 20) hx hb hts izRX12 hown hK hP 0 rfl rfl 12 (by decide) (hts _ k820) (fun _ h9 => h9) rfl dX12_atom_104 ?_
      refine lv_iconst (v := (-1)) hx hb dX12_atom_107 (by decide) ?_
      refine lv_icmp_ne (tgt := 128) hx hb dX12_atom_108 (by decide) (fun c26 => absurd (by decide) c26) (fun _ => ?_)
      refine lv_aload_n hx hb dX12_atom_111 rfl (lv_at hl 3 rfl) ?_
      refine lv_bipush (v := 41) hx hb dX12_atom_112 (by decide) ?_
      have hL4 : (4 : Int32).toInt = 4 := by decide
      have hL41 : (41 : Int32).toInt = 41 := by decide
      refine mcallV' (g := g) (q0 := 0) (ci := 10) (As := [.int 41]) (rest := []) St hK hT hA hP hD hS hl.1 [0] [] rfl rfl rfl (m_isSignH l g o a th hi ac tp en at2_24 (-1) 4 iD iO tU fm fk fa fc ft ff fb fi 41 tx hen (by first | assumption | omega | decide | exact Or.inl (by decide) | exact Or.inr (by decide)) (by decide) (by first | assumption | omega | decide | exact Or.inl (by decide) | exact Or.inr (by decide)) htx) (cwV 1 hts (zgL (zl4 k938 k939 k940 k839) k883) rfl rfl rfl (by decide +kernel) ⟨Nat.le_of_ble_eq_true rfl, Nat.le_of_ble_eq_true rfl⟩) rfl rfl rfl rfl (Nat.le_of_ble_eq_true rfl) dX12_atom_114 ⟨(Nat.le_of_ble_eq_true rfl), (Nat.le_of_ble_eq_true rfl)⟩ (fun u_ H locs hq29 hP hD hS => ?_)
      obtain ⟨at2_27, q_28⟩ := u_
      replace hq29 : (0 ≤ at2_27.toInt ∧ at2_27.toInt ≤ en.toInt + 7 - (4 : Int32).toInt) ∧ (at2_24.toInt ≤ at2_27.toInt) ∧ (zSk tx en.toInt at2_24.toInt at2_27.toInt) ∧ (q_28 = 1 ∧ zisS tx en.toInt at2_27.toInt (41 : Int32).toInt ∧ at2_27.toInt < en.toInt ∨ q_28 = 0 ∧ ¬ zisS tx en.toInt at2_27.toInt (41 : Int32).toInt) := hq29
      have hP : va_P g.1 vwCl (List.flatten [bMo g o a th hi ac tp 379 en at2_27 (-1) 4 iD iO tU fm fk fa fc ft ff fb fi]) H := hP
      have hD : va_D A (List.flatten [bMo g o a th hi ac tp 379 en at2_27 (-1) 4 iD iO tU fm fk fa fc ft ff fb fi]) := hD
      refine W.widen (k := 0) (n := 0) (Nat.le_of_ble_eq_true rfl) (Nat.le_of_ble_eq_true rfl) ?_
      refine W.eq (g2 := F0 m 117 ls [.int q_28]) rfl ?_
      obtain ⟨hq29_0, hq29_1, hq29_2, hq29_3⟩ := hq29
      rcases hq29_3 with ⟨rfl, hq29_k⟩ | ⟨rfl, hq29_k⟩
      · skip
        refine lv_if_ne (tgt := 128) hx hb dX12_atom_117 (by decide) (fun _ => ?_) (fun c30 => absurd c30 (by decide))
        refine lv_aload_n hx hb dX12_atom_128 rfl (lv_at hl 3 rfl) ?_
        refine lv_dup hx hb dX12_atom_129 rfl ?_
        refine va_get (D := g.1) (ci := 10) (v := .int at2_27) (C := RX12) (T := TX12) (N := 20) hx hb hts izRX12 hown hK hP 0 rfl rfl 11 (by decide) (hts _ k878) (fun _ h9 => h9) rfl dX12_atom_130 ?_
        refine lv_iconst (v := 1) hx hb dX12_atom_133 (by decide) ?_
        refine lv_iadd hx hb dX12_atom_134 ?_
        refine zgv (zadd (i := at2_27.toInt) (j := 1) rfl (by decide) (by omega)) (fun x_31 hx_31 => ?_)
        refine va_put (D := g.1) (ci := 10) (v := .int x_31) (ty := .int) (C := RX12) (T := TX12) (N := 20) hx hb hts izRX12 tyX12 tyX12_ok nmX12 hown hK hP hD hS 0 rfl rfl 11 (by decide) (hts _ k878) (fun _ h9 => h9) rfl (by decide +kernel) rfl rfl (Nat.le_of_ble_eq_true rfl) dX12_atom_135 (fun H locs hP hD hS => ?_)
        have hP : va_P g.1 vwCl (List.flatten [bMo g o a th hi ac tp 379 en x_31 (-1) 4 iD iO tU fm fk fa fc ft ff fb fi]) H := hP
        have hD : va_D A (List.flatten [bMo g o a th hi ac tp 379 en x_31 (-1) 4 iD iO tU fm fk fa fc ft ff fb fi]) := hD
        refine lv_aload_n hx hb dX12_atom_138 rfl (lv_at hl 3 rfl) ?_
        refine lv_dup hx hb dX12_atom_139 rfl ?_
        refine va_get (D := g.1) (ci := 10) (v := .int 4) (C := RX12) (T := TX12) (N := 20) hx hb hts izRX12 hown hK hP 0 rfl rfl 13 (by decide) (hts _ k933) (fun _ h9 => h9) rfl dX12_atom_140 ?_
        refine lv_iconst (v := 1) hx hb dX12_atom_143 (by decide) ?_
        refine lv_isub hx hb dX12_atom_144 ?_
        refine ztop (r := 3) (by decide) ?_
        refine va_put (D := g.1) (ci := 10) (v := .int 3) (ty := .int) (C := RX12) (T := TX12) (N := 20) hx hb hts izRX12 tyX12 tyX12_ok nmX12 hown hK hP hD hS 0 rfl rfl 13 (by decide) (hts _ k933) (fun _ h9 => h9) rfl (by decide +kernel) rfl rfl (Nat.le_of_ble_eq_true rfl) dX12_atom_145 (fun H locs hP hD hS => ?_)
        have hP : va_P g.1 vwCl (List.flatten [bMo g o a th hi ac tp 379 en x_31 (-1) 3 iD iO tU fm fk fa fc ft ff fb fi]) H := hP
        have hD : va_D A (List.flatten [bMo g o a th hi ac tp 379 en x_31 (-1) 3 iD iO tU fm fk fa fc ft ff fb fi]) := hD
        refine lv_iload_n hx hb dX12_atom_148 rfl (lv_at hl 0 rfl) ?_
        have hP : va_P g.1 vwCl (List.flatten [bMo g o a th hi ac tp 379 en x_31 (-1) 3 iD iO tU fm fk fa fc ft ff fb fi]) H := hP
        have hD : va_D A (List.flatten [bMo g o a th hi ac tp 379 en x_31 (-1) 3 iD iO tU fm fk fa fc ft ff fb fi]) := hD
        exact mret_z hx hb hr hlocks hS (Nat.le_of_ble_eq_true rfl) (Nat.le_of_ble_eq_true rfl) dX12_atom_149 (x_31) rfl (zb01 (zBi_01 _)) (show (0 ≤ x_31.toInt ∧ x_31.toInt ≤ en.toInt + 7 - 3) ∧ (tA.toInt ≤ x_31.toInt) ∧ (zbg tx en.toInt x_31.toInt = b1) from ⟨(by first | assumption | omega | decide), (by first | assumption | omega | decide), ((zb1 hq29_2 hq29_k.1 (by omega)).trans (by rw [hq25_2]; exact hb0.symm))⟩) hP hD
      · skip
        exact ((zisS_bn (d := 41) hq29_2 hq29_k (by decide)) (by rw [hq25_2]; exact hs0)).elim
    · skip
      refine lv_if_ne (tgt := 40) hx hb dX12_atom_32 (by decide) (fun c32 => absurd (by decide) c32) (fun _ => ?_)
      have hnd : ¬ zDeep tx en.toInt (zbg tx en.toInt tA.toInt) := zor_n (zBw (show _ = zbg tx en.toInt tA.toInt from hq3_2) hq6_k) (by rw [← zbz (zBe (show _ = zbg tx en.toInt tA.toInt from hq3_2) hq6_km)]; exact zisS_bn (d := 40) hq19_2 hq19_k (by decide))
      have hpl9 : zPlV tx en.toInt ev (zbg tx en.toInt at2_17.toInt) b1 bv := zPlV_b (zAv_p ha hnd) ((zbs hq19_2).trans (zbz (zBe (show _ = zbg tx en.toInt tA.toInt from hq3_2) hq6_km)))
      refine lv_aload_n hx hb dX12_atom_35 rfl (lv_at hl 2 rfl) ?_
      refine mcallV' (g := g) (q0 := 0) (ci := 10) (As := []) (rest := []) St hK hT hA hP hD hS hl.1 [0] [] rfl rfl rfl (m_plainV l g o a th hi ac tp en at2_17 3 iD iO tU fm fk fa fc ft ff fb fi tx ev b1 bv hen hq19_0 (by decide) hff hdr how (by first | assumption | omega | decide | exact Or.inl (by decide) | exact Or.inr (by decide)) htx) (cwV 0 hts (zgL (zl4 k948 k949 k950 k839) k947) rfl rfl rfl (by decide +kernel) ⟨Nat.le_of_ble_eq_true rfl, Nat.le_of_ble_eq_true rfl⟩) rfl rfl rfl rfl (Nat.le_of_ble_eq_true rfl) dX12_atom_36 ⟨(Nat.le_of_ble_eq_true rfl), (Nat.le_of_ble_eq_true rfl)⟩ (fun at2_33 H locs hq34 hP hD hS => ?_)
      replace hq34 : (0 ≤ at2_33.toInt ∧ at2_33.toInt ≤ en.toInt + 7 - (3 : Int32).toInt) ∧ (at2_17.toInt ≤ at2_33.toInt) ∧ (zbg tx en.toInt at2_33.toInt = b1) := hq34
      have hP : va_P g.1 vwCl (List.flatten [bMo g o a th hi ac tp 379 en at2_33 (-1) 3 iD iO tU fm fk fa fc ft ff fb fi]) H := hP
      have hD : va_D A (List.flatten [bMo g o a th hi ac tp 379 en at2_33 (-1) 3 iD iO tU fm fk fa fc ft ff fb fi]) := hD
      refine W.widen (k := 0) (n := 0) (Nat.le_of_ble_eq_true rfl) (Nat.le_of_ble_eq_true rfl) ?_
      refine W.eq (g2 := F0 m 39 ls [.int (zBi bv)]) rfl ?_
      obtain ⟨hq34_0, hq34_1, hq34_2⟩ := hq34
      have hP : va_P g.1 vwCl (List.flatten [bMo g o a th hi ac tp 379 en at2_33 (-1) 3 iD iO tU fm fk fa fc ft ff fb fi]) H := hP
      have hD : va_D A (List.flatten [bMo g o a th hi ac tp 379 en at2_33 (-1) 3 iD iO tU fm fk fa fc ft ff fb fi]) := hD
      exact mret_z hx hb hr hlocks hS (Nat.le_of_ble_eq_true rfl) (Nat.le_of_ble_eq_true rfl) dX12_atom_39 (at2_33) rfl (zb01 (zBi_01 _)) (show (0 ≤ at2_33.toInt ∧ at2_33.toInt ≤ en.toInt + 7 - 3) ∧ (tA.toInt ≤ at2_33.toInt) ∧ (zbg tx en.toInt at2_33.toInt = b1) from ⟨(by first | assumption | omega | decide), (by first | assumption | omega | decide), hq34_2⟩) hP hD
set_option maxRecDepth 100000 in
set_option maxHeartbeats 4000000 in
theorem m_everyV3 (l : Launch) (g : zG) (o : Nat) (a : Nat → Nat) (th : Int32) (hi : Int32) (ac : Int32) (tp : Int32) (en : Int32) (tA : Int32) (iD : Int32) (iO : Int32) (tU : Int32) (fm : Nat → Int32) (fk : Nat → Int32) (fa : Nat → Int32) (fc : Nat → Int32) (ft : Nat → Int32) (ff : Nat → Int32) (fb : Nat → Int32) (fi : Nat → Int32) (tx : Nat → Int32) (ev : Nat → Int32) (b1 : Int) (bv : Bool) (o9 : Bool) (hen : 0 ≤ en.toInt ∧ en.toInt ≤ 400) (htA : 0 ≤ tA.toInt ∧ tA.toInt ≤ en.toInt + 7 - 3) (hde : 0 ≤ 3 ∧ 3 ≤ 6) (hff : ∀ k9 : Nat, k9 < 6 → ff k9 = ev k9) (hdr : iD = zBi (zNz (ev 6))) (how : iO = zBi (zNz (ev 7))) (hc : zCv tx en.toInt (zAv tx en.toInt ev 3) o9 true (zbg tx en.toInt tA.toInt) b1 bv) (htx : ∀ k9 : Nat, (k9 : Int) < en.toInt → fm (379 + k9) = tx k9) : zM' g l yX12_every (Cond.code yX12_every cX12_every 3 (some .boolean) :: zB) ({ frames := 18, cells := 0, slots := 0, locals := 397 } : Room) [.ref o] [bMo g o a th hi ac tp 379 en tA (-1) 3 iD iO tU fm fk fa fc ft ff fb fi] (fun u : Int32 × Int32 × Bool => (fun (at2 : Int32) (q : Int32) (w9 : Bool) => some (.int q)) (u.1) (u.2.1) (u.2.2)) (fun u : Int32 × Int32 × Bool => (fun (at2 : Int32) (q : Int32) (w9 : Bool) => (0 ≤ at2.toInt ∧ at2.toInt ≤ en.toInt + 7 - 3) ∧ (tA.toInt ≤ at2.toInt) ∧ (q = zBi w9) ∧ (zCvE tx en.toInt (zAv tx en.toInt ev 3) o9 w9 (zbg tx en.toInt at2.toInt) b1 bv)) (u.1) (u.2.1) (u.2.2)) (fun u : Int32 × Int32 × Bool => (fun (at2 : Int32) (q : Int32) (w9 : Bool) => [bMo g o a th hi ac tp 379 en at2 (-1) 3 iD iO tU fm fk fa fc ft ff fb fi]) (u.1) (u.2.1) (u.2.2)) := by
  refine zM'.of (cc := cX12_every) (maxL := 3) (rt := (some .boolean)) (by decide) rfl (Nat.le_of_ble_eq_true rfl) ?_
  intro p e s m args below meth c A ls St hr hlocks hin hK hT hA hP hD hS hl
  obtain ⟨hx, hb, hml, hown, hts⟩ := id St
  have hl : lv_has ls 3 [(0, .ref o)] := hl
  obtain ⟨p0, w0, ha0, hm0⟩ := zCv_a hc
  refine lv_aload_n hx hb dX12_every_0 rfl (lv_at hl 0 rfl) ?_
  refine mcallV' (g := g) (q0 := 0) (ci := 10) (As := []) (rest := []) St hK hT hA hP hD hS hl.1 [0] [] rfl rfl rfl (m_atomV3 l g o a th hi ac tp en tA iD iO tU fm fk fa fc ft ff fb fi tx ev p0 w0 hen htA hde hff hdr how (by first | assumption | omega | decide | exact Or.inl (by decide) | exact Or.inr (by decide)) htx) (cwV 0 hts (zgL (zl4 k951 k952 k953 k839) k962) rfl rfl rfl (by decide +kernel) ⟨Nat.le_of_ble_eq_true rfl, Nat.le_of_ble_eq_true rfl⟩) rfl rfl rfl rfl (Nat.le_of_ble_eq_true rfl) dX12_every_1 ⟨(Nat.le_of_ble_eq_true rfl), (Nat.le_of_ble_eq_true rfl)⟩ (fun at2_1 H locs hq2 hP hD hS => ?_)
  replace hq2 : (0 ≤ at2_1.toInt ∧ at2_1.toInt ≤ en.toInt + 7 - 3) ∧ (tA.toInt ≤ at2_1.toInt) ∧ (zbg tx en.toInt at2_1.toInt = p0) := hq2
  have hP : va_P g.1 vwCl (List.flatten [bMo g o a th hi ac tp 379 en at2_1 (-1) 3 iD iO tU fm fk fa fc ft ff fb fi]) H := hP
  have hD : va_D A (List.flatten [bMo g o a th hi ac tp 379 en at2_1 (-1) 3 iD iO tU fm fk fa fc ft ff fb fi]) := hD
  refine W.widen (k := 0) (n := 0) (Nat.le_of_ble_eq_true rfl) (Nat.le_of_ble_eq_true rfl) ?_
  refine W.eq (g2 := F0 m 4 ls [.int (zBi w0)]) rfl ?_
  obtain ⟨hq2_0, hq2_1, hq2_2⟩ := hq2
  refine lv_istore_n (lv' := [(1, .int (zBi w0)), (0, .ref o)]) hx hb dX12_every_4 rfl hl (by decide) rfl (fun ls hl => ?_)
  have hl := lv_sub (l' := [(0, .ref o), (1, .int (zBi w0))]) hl [1, 0] rfl
  have LP5_9 : ∀ (kf : Nat) (x_3 : Int32) (x_4 : Int32), (0 ≤ x_4.toInt ∧ x_4.toInt ≤ 407) → (tA.toInt ≤ x_4.toInt) → (x_4.toInt ≤ en.toInt + 7 - 3) → (∃ a9, x_3 = zBi a9 ∧ zCvM tx en.toInt (zAv tx en.toInt ev 3) o9 a9 (zbg tx en.toInt x_4.toInt) b1 bv) → ∀ (H : Heap) (locs : List Loc) (ls : Array Slot), ((en.toInt + 8 - x_4.toInt).toNat) < kf → va_P g.1 vwCl (List.flatten [bMo g o a th hi ac tp 379 en x_4 (-1) 3 iD iO tU fm fk fa fc ft ff fb fi]) H → va_D A (List.flatten [bMo g o a th hi ac tp 379 en x_4 (-1) 3 iD iO tU fm fk fa fc ft ff fb fi]) → va_S A s.heap H locs → lv_has ls 3 [(0, .ref o), (1, .int x_3)] → W p l e ({ frames := 18, cells := 0, slots := 0, locals := 397 } : Room) s m args below meth c H locs (0) (0) (zF g (fun u : Int32 × Int32 × Bool => (fun (at2 : Int32) (q : Int32) (w9 : Bool) => some (.int q)) (u.1) (u.2.1) (u.2.2)) (fun u : Int32 × Int32 × Bool => (fun (at2 : Int32) (q : Int32) (w9 : Bool) => (0 ≤ at2.toInt ∧ at2.toInt ≤ en.toInt + 7 - 3) ∧ (tA.toInt ≤ at2.toInt) ∧ (q = zBi w9) ∧ (zCvE tx en.toInt (zAv tx en.toInt ev 3) o9 w9 (zbg tx en.toInt at2.toInt) b1 bv)) (u.1) (u.2.1) (u.2.2)) (fun u : Int32 × Int32 × Bool => (fun (at2 : Int32) (q : Int32) (w9 : Bool) => [bMo g o a th hi ac tp 379 en at2 (-1) 3 iD iO tU fm fk fa fc ft ff fb fi]) (u.1) (u.2.1) (u.2.2)) ({ frames := 18, cells := 0, slots := 0, locals := 397 } : Room) below args s A) (F0 m 5 ls []) := by
    intro kf
    induction kf with
    | zero => intro x_3 x_4 i5 i6 i7 i8 H locs ls hk; exact absurd hk (Nat.not_lt_zero _)
    | succ kf ih5_10 =>
      intro x_3 x_4 i5 i6 i7 i8 H locs ls hk5_10 hP hD hS hl
      refine lv_aload_n hx hb dX12_every_5 rfl (lv_at hl 0 rfl) ?_
      refine va_get (D := g.1) (ci := 10) (v := .int (-1)) (C := RX12) (T := TX12) (N := 20) hx hb hts izRX12 hown hK hP 0 rfl rfl 12 (by decide) (hts _ k820) (fun _ h9 => h9) rfl dX12_every_6 ?_
      refine lv_iconst (v := (-1)) hx hb dX12_every_9 (by decide) ?_
      refine lv_icmp_ne (tgt := 44) hx hb dX12_every_10 (by decide) (fun c11 => absurd (by decide) c11) (fun _ => ?_)
      obtain ⟨a12, e13, h14⟩ := i8
      refine lv_aload_n hx hb dX12_every_13 rfl (lv_at hl 0 rfl) ?_
      refine va_ldcS (q := g.2 100) hx hb hown (zra45 hT.2.1) dX12_every_14 ?_
      have hL3 : (3 : Int32).toInt = 3 := by decide
      refine mcallV' (g := g) (q0 := 0) (ci := 10) (As := [.ref (g.2 100)]) (rest := []) St hK hT hA hP hD hS hl.1 [0] [] rfl rfl rfl (m_hasH l g o a th hi ac tp en x_4 (-1) 3 iD iO tU fm fk fa fc ft ff fb fi tx (g.2 100) 45 zqa45 hen (by first | assumption | omega | decide | exact Or.inl (by decide) | exact Or.inr (by decide)) (by decide) htx rfl zla45 zna45 (zlitB zla45)) (cwV 1 hts (zgL (zl4 k899 k900 k901 k839) k889) rfl rfl rfl (by decide +kernel) ⟨Nat.le_of_ble_eq_true rfl, Nat.le_of_ble_eq_true rfl⟩) rfl rfl rfl rfl (Nat.le_of_ble_eq_true rfl) dX12_every_16 ⟨(Nat.le_of_ble_eq_true rfl), (Nat.le_of_ble_eq_true rfl)⟩ (fun u_ H locs hq17 hP hD hS => ?_)
      obtain ⟨at2_15, r_16⟩ := u_
      replace hq17 : (0 ≤ at2_15.toInt ∧ at2_15.toInt ≤ en.toInt + 7 - (3 : Int32).toInt) ∧ (x_4.toInt ≤ at2_15.toInt) ∧ (r_16 = 1 ∧ zisW tx en.toInt (zbg tx en.toInt x_4.toInt) zqa45.2.2.2 ∧ at2_15.toInt = znx tx en.toInt (zbg tx en.toInt x_4.toInt) ∧ x_4.toInt < at2_15.toInt ∧ at2_15.toInt ≤ en.toInt ∨ r_16 = 0 ∧ ¬ zisW tx en.toInt (zbg tx en.toInt x_4.toInt) zqa45.2.2.2 ∧ at2_15.toInt = zbg tx en.toInt x_4.toInt) := hq17
      have hP : va_P g.1 vwCl (List.flatten [bMo g o a th hi ac tp 379 en at2_15 (-1) 3 iD iO tU fm fk fa fc ft ff fb fi]) H := hP
      have hD : va_D A (List.flatten [bMo g o a th hi ac tp 379 en at2_15 (-1) 3 iD iO tU fm fk fa fc ft ff fb fi]) := hD
      refine W.widen (k := 0) (n := 0) (Nat.le_of_ble_eq_true rfl) (Nat.le_of_ble_eq_true rfl) ?_
      refine W.eq (g2 := F0 m 19 ls [.int r_16]) rfl ?_
      obtain ⟨hq17_0, hq17_1, hq17_2⟩ := hq17
      rcases hq17_2 with ⟨rfl, hq17_k, hq17_km⟩ | ⟨rfl, hq17_k, hq17_km⟩
      · skip
        refine lv_if_eq (tgt := 44) hx hb dX12_every_19 (by decide) (fun c18 => absurd c18 (by decide)) (fun _ => ?_)
        obtain ⟨p19, w20, h21, m22⟩ := zCv_a (zCvM_y h14 hq17_k)
        have h21 := zAv_b h21 (show zbg tx en.toInt at2_15.toInt = _ from zbt hq17_km.1)
        refine lv_aload_n hx hb dX12_every_22 rfl (lv_at hl 0 rfl) ?_
        refine mcallV' (g := g) (q0 := 0) (ci := 10) (As := []) (rest := []) St hK hT hA hP hD hS hl.1 [0] [] rfl rfl rfl (m_atomV3 l g o a th hi ac tp en at2_15 iD iO tU fm fk fa fc ft ff fb fi tx ev p19 w20 hen (by first | assumption | omega | decide | exact Or.inl (by decide) | exact Or.inr (by decide)) hde hff hdr how (by first | assumption | omega | decide | exact Or.inl (by decide) | exact Or.inr (by decide)) htx) (cwV 0 hts (zgL (zl4 k951 k952 k953 k839) k962) rfl rfl rfl (by decide +kernel) ⟨Nat.le_of_ble_eq_true rfl, Nat.le_of_ble_eq_true rfl⟩) rfl rfl rfl rfl (Nat.le_of_ble_eq_true rfl) dX12_every_23 ⟨(Nat.le_of_ble_eq_true rfl), (Nat.le_of_ble_eq_true rfl)⟩ (fun at2_23 H locs hq24 hP hD hS => ?_)
        replace hq24 : (0 ≤ at2_23.toInt ∧ at2_23.toInt ≤ en.toInt + 7 - 3) ∧ (at2_15.toInt ≤ at2_23.toInt) ∧ (zbg tx en.toInt at2_23.toInt = p19) := hq24
        have hP : va_P g.1 vwCl (List.flatten [bMo g o a th hi ac tp 379 en at2_23 (-1) 3 iD iO tU fm fk fa fc ft ff fb fi]) H := hP
        have hD : va_D A (List.flatten [bMo g o a th hi ac tp 379 en at2_23 (-1) 3 iD iO tU fm fk fa fc ft ff fb fi]) := hD
        refine W.widen (k := 0) (n := 0) (Nat.le_of_ble_eq_true rfl) (Nat.le_of_ble_eq_true rfl) ?_
        refine W.eq (g2 := F0 m 26 ls [.int (zBi w20)]) rfl ?_
        obtain ⟨hq24_0, hq24_1, hq24_2⟩ := hq24
        refine lv_istore_n (lv' := [(2, .int (zBi w20)), (0, .ref o), (1, .int x_3)]) hx hb dX12_every_26 rfl hl (by decide) rfl (fun ls hl => ?_)
        refine lv_iload_n hx hb dX12_every_27 rfl (lv_at hl 2 rfl) ?_
        refine lv_if_eq (tgt := 39) hx hb dX12_every_28 (by decide) (fun cb9 => ?_) (fun cb9 => ?_)
        · skip
          have c25 : x_3.toInt = 0 := zeq cb9 rfl (by decide)
          have n26 : 0 ≤ x_3.toInt := Int.le_trans (Int.le_refl _) (Int.le_of_eq c25.symm)
          have n27 : x_3.toInt ≤ 0 := Int.le_trans (Int.le_of_eq c25) (Int.le_refl _)
          refine lv_iconst (v := 0) hx hb dX12_every_39 (by decide) ?_
          refine lv_istore_n (lv' := [(1, .int 0), (2, .int (zBi w20)), (0, .ref o)]) hx hb dX12_every_40 rfl hl (by decide) rfl (fun ls hl => ?_)
          refine lv_goto (tgt := 5) hx hb dX12_every_41 (by decide) ?_
          have hl := lv_sub (l' := [(0, .ref o), (1, .int 0), (2, .int (zBi w20))]) hl [2, 0, 1] rfl
          have hL0 : (0 : Int32).toInt = 0 := by decide
          have hP : va_P g.1 vwCl (List.flatten [bMo g o a th hi ac tp 379 en at2_23 (-1) 3 iD iO tU fm fk fa fc ft ff fb fi]) H := hP
          have hD : va_D A (List.flatten [bMo g o a th hi ac tp 379 en at2_23 (-1) 3 iD iO tU fm fk fa fc ft ff fb fi]) := hD
          exact ih5_10 0 at2_23 (by first | omega | assumption | decide) (by first | omega | assumption | decide) (by first | omega | assumption | decide) ⟨(a12 && w20), (zBiA0 (by rw [← e13]; omega)), zCM_b m22 hq24_2⟩ H _ ls (by omega)  hP hD hS (lv_sub hl [0, 1] rfl)
        · skip
          have c28 : ¬ x_3.toInt = 0 := zne cb9 rfl (by decide)
          refine lv_iload_n hx hb dX12_every_31 rfl (lv_at hl 0 rfl) ?_
          refine lv_if_eq (tgt := 39) hx hb dX12_every_32 (by decide) (fun cb9 => ?_) (fun cb9 => ?_)
          · skip
            have c29 : (zBi w20).toInt = 0 := zeq cb9 rfl (by decide)
            have n30 : 0 ≤ (zBi w20).toInt := Int.le_trans (Int.le_refl _) (Int.le_of_eq c29.symm)
            have n31 : (zBi w20).toInt ≤ 0 := Int.le_trans (Int.le_of_eq c29) (Int.le_refl _)
            refine lv_iconst (v := 0) hx hb dX12_every_39 (by decide) ?_
            refine lv_istore_n (lv' := [(1, .int 0), (2, .int (zBi w20)), (0, .ref o)]) hx hb dX12_every_40 rfl hl (by decide) rfl (fun ls hl => ?_)
            refine lv_goto (tgt := 5) hx hb dX12_every_41 (by decide) ?_
            have hl := lv_sub (l' := [(0, .ref o), (1, .int 0), (2, .int (zBi w20))]) hl [2, 0, 1] rfl
            have hL0 : (0 : Int32).toInt = 0 := by decide
            have hP : va_P g.1 vwCl (List.flatten [bMo g o a th hi ac tp 379 en at2_23 (-1) 3 iD iO tU fm fk fa fc ft ff fb fi]) H := hP
            have hD : va_D A (List.flatten [bMo g o a th hi ac tp 379 en at2_23 (-1) 3 iD iO tU fm fk fa fc ft ff fb fi]) := hD
            exact ih5_10 0 at2_23 (by first | omega | assumption | decide) (by first | omega | assumption | decide) (by first | omega | assumption | decide) ⟨(a12 && w20), (zBiA1 (by omega)), zCM_b m22 hq24_2⟩ H _ ls (by omega)  hP hD hS (lv_sub hl [0, 1] rfl)
          · skip
            have c32 : ¬ (zBi w20).toInt = 0 := zne cb9 rfl (by decide)
            refine lv_iconst (v := 1) hx hb dX12_every_35 (by decide) ?_
            refine lv_goto (tgt := 40) hx hb dX12_every_36 (by decide) ?_
            refine lv_istore_n (lv' := [(1, .int 1), (2, .int (zBi w20)), (0, .ref o)]) hx hb dX12_every_40 rfl hl (by decide) rfl (fun ls hl => ?_)
            refine lv_goto (tgt := 5) hx hb dX12_every_41 (by decide) ?_
            have hl := lv_sub (l' := [(0, .ref o), (1, .int 1), (2, .int (zBi w20))]) hl [2, 0, 1] rfl
            have hL1 : (1 : Int32).toInt = 1 := by decide
            have hP : va_P g.1 vwCl (List.flatten [bMo g o a th hi ac tp 379 en at2_23 (-1) 3 iD iO tU fm fk fa fc ft ff fb fi]) H := hP
            have hD : va_D A (List.flatten [bMo g o a th hi ac tp 379 en at2_23 (-1) 3 iD iO tU fm fk fa fc ft ff fb fi]) := hD
            exact ih5_10 1 at2_23 (by first | omega | assumption | decide) (by first | omega | assumption | decide) (by first | omega | assumption | decide) ⟨(a12 && w20), (zBiA (by rw [← e13]; omega) (by omega)), zCM_b m22 hq24_2⟩ H _ ls (by omega)  hP hD hS (lv_sub hl [0, 1] rfl)
      · skip
        refine lv_if_eq (tgt := 44) hx hb dX12_every_19 (by decide) (fun _ => ?_) (fun c33 => absurd (by decide) c33)
        refine lv_iload_n hx hb dX12_every_44 rfl (lv_at hl 1 rfl) ?_
        have hP : va_P g.1 vwCl (List.flatten [bMo g o a th hi ac tp 379 en at2_15 (-1) 3 iD iO tU fm fk fa fc ft ff fb fi]) H := hP
        have hD : va_D A (List.flatten [bMo g o a th hi ac tp 379 en at2_15 (-1) 3 iD iO tU fm fk fa fc ft ff fb fi]) := hD
        exact mret_z hx hb hr hlocks hS (Nat.le_of_ble_eq_true rfl) (Nat.le_of_ble_eq_true rfl) dX12_every_45 (at2_15, x_3, a12) rfl (zb01 (by rw [e13]; exact zBi_01 _)) (show (0 ≤ at2_15.toInt ∧ at2_15.toInt ≤ en.toInt + 7 - 3) ∧ (tA.toInt ≤ at2_15.toInt) ∧ (x_3 = zBi a12) ∧ (zCvE tx en.toInt (zAv tx en.toInt ev 3) o9 a12 (zbg tx en.toInt at2_15.toInt) b1 bv) from ⟨(by first | assumption | omega | decide), (by first | assumption | omega | decide), e13, zCE_b (zCvM_n h14 hq17_k) (zbz hq17_km)⟩) hP hD
  have hP : va_P g.1 vwCl (List.flatten [bMo g o a th hi ac tp 379 en at2_1 (-1) 3 iD iO tU fm fk fa fc ft ff fb fi]) H := hP
  have hD : va_D A (List.flatten [bMo g o a th hi ac tp 379 en at2_1 (-1) 3 iD iO tU fm fk fa fc ft ff fb fi]) := hD
  exact LP5_9 _ (zBi w0) at2_1 (by first | omega | assumption | decide) hq2_1 (by first | omega | assumption | decide) ⟨w0, rfl, zCvM_w (zCM_b hm0 hq2_2)⟩ H _ ls (Nat.lt_succ_self _)  hP hD hS (lv_sub hl [0, 1] rfl)
set_option maxRecDepth 100000 in
set_option maxHeartbeats 4000000 in
theorem m_someV3 (l : Launch) (g : zG) (o : Nat) (a : Nat → Nat) (th : Int32) (hi : Int32) (ac : Int32) (tp : Int32) (en : Int32) (tA : Int32) (iD : Int32) (iO : Int32) (tU : Int32) (fm : Nat → Int32) (fk : Nat → Int32) (fa : Nat → Int32) (fc : Nat → Int32) (ft : Nat → Int32) (ff : Nat → Int32) (fb : Nat → Int32) (fi : Nat → Int32) (tx : Nat → Int32) (ev : Nat → Int32) (b1 : Int) (bv : Bool) (hen : 0 ≤ en.toInt ∧ en.toInt ≤ 400) (htA : 0 ≤ tA.toInt ∧ tA.toInt ≤ en.toInt + 7 - 3) (hde : 0 ≤ 3 ∧ 3 ≤ 6) (hff : ∀ k9 : Nat, k9 < 6 → ff k9 = ev k9) (hdr : iD = zBi (zNz (ev 6))) (how : iO = zBi (zNz (ev 7))) (hc : zCv tx en.toInt (zAv tx en.toInt ev 3) false true (zbg tx en.toInt tA.toInt) b1 bv) (htx : ∀ k9 : Nat, (k9 : Int) < en.toInt → fm (379 + k9) = tx k9) : zM' g l yX12_some (Cond.code yX12_some cX12_some 3 (some .boolean) :: zB) ({ frames := 19, cells := 0, slots := 0, locals := 419 } : Room) [.ref o] [bMo g o a th hi ac tp 379 en tA (-1) 3 iD iO tU fm fk fa fc ft ff fb fi] (fun (at2 : Int32) => some (.int (zBi bv))) (fun (at2 : Int32) => (0 ≤ at2.toInt ∧ at2.toInt ≤ en.toInt + 7 - 3) ∧ (tA.toInt ≤ at2.toInt) ∧ (zbg tx en.toInt at2.toInt = b1)) (fun (at2 : Int32) => [bMo g o a th hi ac tp 379 en at2 (-1) 3 iD iO tU fm fk fa fc ft ff fb fi]) := by
  refine zM'.of (cc := cX12_some) (maxL := 3) (rt := (some .boolean)) (by decide) rfl (Nat.le_of_ble_eq_true rfl) ?_
  intro p e s m args below meth c A ls St hr hlocks hin hK hT hA hP hD hS hl
  obtain ⟨hx, hb, hml, hown, hts⟩ := id St
  have hl : lv_has ls 3 [(0, .ref o)] := hl
  refine lv_aload_n hx hb dX12_some_0 rfl (lv_at hl 0 rfl) ?_
  refine mcallV' (g := g) (q0 := 0) (ci := 10) (As := []) (rest := []) St hK hT hA hP hD hS hl.1 [0] [] rfl rfl rfl (m_everyV3 l g o a th hi ac tp en tA iD iO tU fm fk fa fc ft ff fb fi tx ev b1 bv false hen htA hde hff hdr how hc htx) (cwV 0 hts (zgL (zl4 k959 k960 k961 k839) k957) rfl rfl rfl (by decide +kernel) ⟨Nat.le_of_ble_eq_true rfl, Nat.le_of_ble_eq_true rfl⟩) rfl rfl rfl rfl (Nat.le_of_ble_eq_true rfl) dX12_some_1 ⟨(Nat.le_of_ble_eq_true rfl), (Nat.le_of_ble_eq_true rfl)⟩ (fun u_ H locs hq4 hP hD hS => ?_)
  obtain ⟨at2_1, q_2, w9_3⟩ := u_
  replace hq4 : (0 ≤ at2_1.toInt ∧ at2_1.toInt ≤ en.toInt + 7 - 3) ∧ (tA.toInt ≤ at2_1.toInt) ∧ (q_2 = zBi w9_3) ∧ (zCvE tx en.toInt (zAv tx en.toInt ev 3) false w9_3 (zbg tx en.toInt at2_1.toInt) b1 bv) := hq4
  have hP : va_P g.1 vwCl (List.flatten [bMo g o a th hi ac tp 379 en at2_1 (-1) 3 iD iO tU fm fk fa fc ft ff fb fi]) H := hP
  have hD : va_D A (List.flatten [bMo g o a th hi ac tp 379 en at2_1 (-1) 3 iD iO tU fm fk fa fc ft ff fb fi]) := hD
  refine W.widen (k := 0) (n := 0) (Nat.le_of_ble_eq_true rfl) (Nat.le_of_ble_eq_true rfl) ?_
  refine W.eq (g2 := F0 m 4 ls [.int q_2]) rfl ?_
  obtain ⟨hq4_0, hq4_1, hq4_2, hq4_3⟩ := hq4
  refine lv_istore_n (lv' := [(1, .int q_2), (0, .ref o)]) hx hb dX12_some_4 rfl hl (by decide) rfl (fun ls hl => ?_)
  have hl := lv_sub (l' := [(0, .ref o), (1, .int q_2)]) hl [1, 0] rfl
  have LP5_11 : ∀ (kf : Nat) (x_5 : Int32) (x_6 : Int32), (0 ≤ x_6.toInt ∧ x_6.toInt ≤ 407) → (tA.toInt ≤ x_6.toInt) → (x_6.toInt ≤ en.toInt + 7 - 3) → (∃ a9, x_5 = zBi a9 ∧ zCvO tx en.toInt (zAv tx en.toInt ev 3) a9 (zbg tx en.toInt x_6.toInt) b1 bv) → ∀ (H : Heap) (locs : List Loc) (ls : Array Slot), ((en.toInt + 8 - x_6.toInt).toNat) < kf → va_P g.1 vwCl (List.flatten [bMo g o a th hi ac tp 379 en x_6 (-1) 3 iD iO tU fm fk fa fc ft ff fb fi]) H → va_D A (List.flatten [bMo g o a th hi ac tp 379 en x_6 (-1) 3 iD iO tU fm fk fa fc ft ff fb fi]) → va_S A s.heap H locs → lv_has ls 3 [(0, .ref o), (1, .int x_5)] → W p l e ({ frames := 19, cells := 0, slots := 0, locals := 419 } : Room) s m args below meth c H locs (0) (0) (zF g (fun (at2 : Int32) => some (.int (zBi bv))) (fun (at2 : Int32) => (0 ≤ at2.toInt ∧ at2.toInt ≤ en.toInt + 7 - 3) ∧ (tA.toInt ≤ at2.toInt) ∧ (zbg tx en.toInt at2.toInt = b1)) (fun (at2 : Int32) => [bMo g o a th hi ac tp 379 en at2 (-1) 3 iD iO tU fm fk fa fc ft ff fb fi]) ({ frames := 19, cells := 0, slots := 0, locals := 419 } : Room) below args s A) (F0 m 5 ls []) := by
    intro kf
    induction kf with
    | zero => intro x_5 x_6 i7 i8 i9 i10 H locs ls hk; exact absurd hk (Nat.not_lt_zero _)
    | succ kf ih5_12 =>
      intro x_5 x_6 i7 i8 i9 i10 H locs ls hk5_12 hP hD hS hl
      refine lv_aload_n hx hb dX12_some_5 rfl (lv_at hl 0 rfl) ?_
      refine va_get (D := g.1) (ci := 10) (v := .int (-1)) (C := RX12) (T := TX12) (N := 20) hx hb hts izRX12 hown hK hP 0 rfl rfl 12 (by decide) (hts _ k820) (fun _ h9 => h9) rfl dX12_some_6 ?_
      refine lv_iconst (v := (-1)) hx hb dX12_some_9 (by decide) ?_
      refine lv_icmp_ne (tgt := 44) hx hb dX12_some_10 (by decide) (fun c13 => absurd (by decide) c13) (fun _ => ?_)
      obtain ⟨a14, e15, h16⟩ := i10
      refine lv_aload_n hx hb dX12_some_13 rfl (lv_at hl 0 rfl) ?_
      refine va_ldcS (q := g.2 102) hx hb hown (zra46 hT.2.1) dX12_some_14 ?_
      have hL3 : (3 : Int32).toInt = 3 := by decide
      refine mcallV' (g := g) (q0 := 0) (ci := 10) (As := [.ref (g.2 102)]) (rest := []) St hK hT hA hP hD hS hl.1 [0] [] rfl rfl rfl (m_hasH l g o a th hi ac tp en x_6 (-1) 3 iD iO tU fm fk fa fc ft ff fb fi tx (g.2 102) 46 zqa46 hen (by first | assumption | omega | decide | exact Or.inl (by decide) | exact Or.inr (by decide)) (by decide) htx rfl zla46 zna46 (zlitB zla46)) (cwV 1 hts (zgL (zl4 k899 k900 k901 k839) k889) rfl rfl rfl (by decide +kernel) ⟨Nat.le_of_ble_eq_true rfl, Nat.le_of_ble_eq_true rfl⟩) rfl rfl rfl rfl (Nat.le_of_ble_eq_true rfl) dX12_some_16 ⟨(Nat.le_of_ble_eq_true rfl), (Nat.le_of_ble_eq_true rfl)⟩ (fun u_ H locs hq19 hP hD hS => ?_)
      obtain ⟨at2_17, r_18⟩ := u_
      replace hq19 : (0 ≤ at2_17.toInt ∧ at2_17.toInt ≤ en.toInt + 7 - (3 : Int32).toInt) ∧ (x_6.toInt ≤ at2_17.toInt) ∧ (r_18 = 1 ∧ zisW tx en.toInt (zbg tx en.toInt x_6.toInt) zqa46.2.2.2 ∧ at2_17.toInt = znx tx en.toInt (zbg tx en.toInt x_6.toInt) ∧ x_6.toInt < at2_17.toInt ∧ at2_17.toInt ≤ en.toInt ∨ r_18 = 0 ∧ ¬ zisW tx en.toInt (zbg tx en.toInt x_6.toInt) zqa46.2.2.2 ∧ at2_17.toInt = zbg tx en.toInt x_6.toInt) := hq19
      have hP : va_P g.1 vwCl (List.flatten [bMo g o a th hi ac tp 379 en at2_17 (-1) 3 iD iO tU fm fk fa fc ft ff fb fi]) H := hP
      have hD : va_D A (List.flatten [bMo g o a th hi ac tp 379 en at2_17 (-1) 3 iD iO tU fm fk fa fc ft ff fb fi]) := hD
      refine W.widen (k := 0) (n := 0) (Nat.le_of_ble_eq_true rfl) (Nat.le_of_ble_eq_true rfl) ?_
      refine W.eq (g2 := F0 m 19 ls [.int r_18]) rfl ?_
      obtain ⟨hq19_0, hq19_1, hq19_2⟩ := hq19
      rcases hq19_2 with ⟨rfl, hq19_k, hq19_km⟩ | ⟨rfl, hq19_k, hq19_km⟩
      · skip
        refine lv_if_eq (tgt := 44) hx hb dX12_some_19 (by decide) (fun c20 => absurd c20 (by decide)) (fun _ => ?_)
        have h21 := zCv_b (zCvO_y h16 hq19_k) (show zbg tx en.toInt at2_17.toInt = _ from zbt hq19_km.1)
        refine lv_aload_n hx hb dX12_some_22 rfl (lv_at hl 0 rfl) ?_
        refine mcallV' (g := g) (q0 := 0) (ci := 10) (As := []) (rest := []) St hK hT hA hP hD hS hl.1 [0] [] rfl rfl rfl (m_everyV3 l g o a th hi ac tp en at2_17 iD iO tU fm fk fa fc ft ff fb fi tx ev b1 bv a14 hen (by first | assumption | omega | decide | exact Or.inl (by decide) | exact Or.inr (by decide)) hde hff hdr how (by first | assumption | omega | decide | exact Or.inl (by decide) | exact Or.inr (by decide)) htx) (cwV 0 hts (zgL (zl4 k959 k960 k961 k839) k957) rfl rfl rfl (by decide +kernel) ⟨Nat.le_of_ble_eq_true rfl, Nat.le_of_ble_eq_true rfl⟩) rfl rfl rfl rfl (Nat.le_of_ble_eq_true rfl) dX12_some_23 ⟨(Nat.le_of_ble_eq_true rfl), (Nat.le_of_ble_eq_true rfl)⟩ (fun u_ H locs hq25 hP hD hS => ?_)
        obtain ⟨at2_22, q_23, w9_24⟩ := u_
        replace hq25 : (0 ≤ at2_22.toInt ∧ at2_22.toInt ≤ en.toInt + 7 - 3) ∧ (at2_17.toInt ≤ at2_22.toInt) ∧ (q_23 = zBi w9_24) ∧ (zCvE tx en.toInt (zAv tx en.toInt ev 3) a14 w9_24 (zbg tx en.toInt at2_22.toInt) b1 bv) := hq25
        have hP : va_P g.1 vwCl (List.flatten [bMo g o a th hi ac tp 379 en at2_22 (-1) 3 iD iO tU fm fk fa fc ft ff fb fi]) H := hP
        have hD : va_D A (List.flatten [bMo g o a th hi ac tp 379 en at2_22 (-1) 3 iD iO tU fm fk fa fc ft ff fb fi]) := hD
        refine W.widen (k := 0) (n := 0) (Nat.le_of_ble_eq_true rfl) (Nat.le_of_ble_eq_true rfl) ?_
        refine W.eq (g2 := F0 m 26 ls [.int q_23]) rfl ?_
        obtain ⟨hq25_0, hq25_1, hq25_2, hq25_3⟩ := hq25
        refine lv_istore_n (lv' := [(2, .int q_23), (0, .ref o), (1, .int x_5)]) hx hb dX12_some_26 rfl hl (by decide) rfl (fun ls hl => ?_)
        refine lv_iload_n hx hb dX12_some_27 rfl (lv_at hl 2 rfl) ?_
        refine lv_if_ne (tgt := 35) hx hb dX12_some_28 (by decide) (fun cb9 => ?_) (fun cb9 => ?_)
        · skip
          have c26 : ¬ x_5.toInt = 0 := zne cb9 rfl (by decide)
          refine lv_iconst (v := 1) hx hb dX12_some_35 (by decide) ?_
          refine lv_goto (tgt := 40) hx hb dX12_some_36 (by decide) ?_
          refine lv_istore_n (lv' := [(1, .int 1), (2, .int q_23), (0, .ref o)]) hx hb dX12_some_40 rfl hl (by decide) rfl (fun ls hl => ?_)
          refine lv_goto (tgt := 5) hx hb dX12_some_41 (by decide) ?_
          have hl := lv_sub (l' := [(0, .ref o), (1, .int 1), (2, .int q_23)]) hl [2, 0, 1] rfl
          have hL1 : (1 : Int32).toInt = 1 := by decide
          have hP : va_P g.1 vwCl (List.flatten [bMo g o a th hi ac tp 379 en at2_22 (-1) 3 iD iO tU fm fk fa fc ft ff fb fi]) H := hP
          have hD : va_D A (List.flatten [bMo g o a th hi ac tp 379 en at2_22 (-1) 3 iD iO tU fm fk fa fc ft ff fb fi]) := hD
          exact ih5_12 1 at2_22 (by first | omega | assumption | decide) (by first | omega | assumption | decide) (by first | omega | assumption | decide) ⟨_, (zBo1 (by rw [← e15]; omega)), zCvE_o hq25_3⟩ H _ ls (by omega)  hP hD hS (lv_sub hl [0, 1] rfl)
        · skip
          have c27 : x_5.toInt = 0 := zeq cb9 rfl (by decide)
          have n28 : 0 ≤ x_5.toInt := Int.le_trans (Int.le_refl _) (Int.le_of_eq c27.symm)
          have n29 : x_5.toInt ≤ 0 := Int.le_trans (Int.le_of_eq c27) (Int.le_refl _)
          refine lv_iload_n hx hb dX12_some_31 rfl (lv_at hl 0 rfl) ?_
          refine lv_if_eq (tgt := 39) hx hb dX12_some_32 (by decide) (fun cb9 => ?_) (fun cb9 => ?_)
          · skip
            have c30 : q_23.toInt = 0 := zeq cb9 rfl (by decide)
            have n31 : 0 ≤ q_23.toInt := Int.le_trans (Int.le_refl _) (Int.le_of_eq c30.symm)
            have n32 : q_23.toInt ≤ 0 := Int.le_trans (Int.le_of_eq c30) (Int.le_refl _)
            refine lv_iconst (v := 0) hx hb dX12_some_39 (by decide) ?_
            refine lv_istore_n (lv' := [(1, .int 0), (2, .int q_23), (0, .ref o)]) hx hb dX12_some_40 rfl hl (by decide) rfl (fun ls hl => ?_)
            refine lv_goto (tgt := 5) hx hb dX12_some_41 (by decide) ?_
            have hl := lv_sub (l' := [(0, .ref o), (1, .int 0), (2, .int q_23)]) hl [2, 0, 1] rfl
            have hL0 : (0 : Int32).toInt = 0 := by decide
            have hP : va_P g.1 vwCl (List.flatten [bMo g o a th hi ac tp 379 en at2_22 (-1) 3 iD iO tU fm fk fa fc ft ff fb fi]) H := hP
            have hD : va_D A (List.flatten [bMo g o a th hi ac tp 379 en at2_22 (-1) 3 iD iO tU fm fk fa fc ft ff fb fi]) := hD
            exact ih5_12 0 at2_22 (by first | omega | assumption | decide) (by first | omega | assumption | decide) (by first | omega | assumption | decide) ⟨_, (zBo0 (by rw [← e15]; omega) (by rw [← hq25_2]; omega)), zCvE_o hq25_3⟩ H _ ls (by omega)  hP hD hS (lv_sub hl [0, 1] rfl)
          · skip
            have c33 : ¬ q_23.toInt = 0 := zne cb9 rfl (by decide)
            refine lv_iconst (v := 1) hx hb dX12_some_35 (by decide) ?_
            refine lv_goto (tgt := 40) hx hb dX12_some_36 (by decide) ?_
            refine lv_istore_n (lv' := [(1, .int 1), (2, .int q_23), (0, .ref o)]) hx hb dX12_some_40 rfl hl (by decide) rfl (fun ls hl => ?_)
            refine lv_goto (tgt := 5) hx hb dX12_some_41 (by decide) ?_
            have hl := lv_sub (l' := [(0, .ref o), (1, .int 1), (2, .int q_23)]) hl [2, 0, 1] rfl
            have hL1 : (1 : Int32).toInt = 1 := by decide
            have hP : va_P g.1 vwCl (List.flatten [bMo g o a th hi ac tp 379 en at2_22 (-1) 3 iD iO tU fm fk fa fc ft ff fb fi]) H := hP
            have hD : va_D A (List.flatten [bMo g o a th hi ac tp 379 en at2_22 (-1) 3 iD iO tU fm fk fa fc ft ff fb fi]) := hD
            exact ih5_12 1 at2_22 (by first | omega | assumption | decide) (by first | omega | assumption | decide) (by first | omega | assumption | decide) ⟨_, (zBo2 (by rw [← hq25_2]; omega)), zCvE_o hq25_3⟩ H _ ls (by omega)  hP hD hS (lv_sub hl [0, 1] rfl)
      · skip
        refine lv_if_eq (tgt := 44) hx hb dX12_some_19 (by decide) (fun _ => ?_) (fun c34 => absurd (by decide) c34)
        refine lv_iload_n hx hb dX12_some_44 rfl (lv_at hl 1 rfl) ?_
        refine ztop (r := (zBi bv)) (by rw [(zCvO_n h16 hq19_k).2]; exact e15) ?_
        have hP : va_P g.1 vwCl (List.flatten [bMo g o a th hi ac tp 379 en at2_17 (-1) 3 iD iO tU fm fk fa fc ft ff fb fi]) H := hP
        have hD : va_D A (List.flatten [bMo g o a th hi ac tp 379 en at2_17 (-1) 3 iD iO tU fm fk fa fc ft ff fb fi]) := hD
        exact mret_z hx hb hr hlocks hS (Nat.le_of_ble_eq_true rfl) (Nat.le_of_ble_eq_true rfl) dX12_some_45 (at2_17) rfl (zb01 (zBi_01 _)) (show (0 ≤ at2_17.toInt ∧ at2_17.toInt ≤ en.toInt + 7 - 3) ∧ (tA.toInt ≤ at2_17.toInt) ∧ (zbg tx en.toInt at2_17.toInt = b1) from ⟨(by first | assumption | omega | decide), (by first | assumption | omega | decide), ((zbz hq19_km).trans (zCvO_n h16 hq19_k).1.symm)⟩) hP hD
  have hP : va_P g.1 vwCl (List.flatten [bMo g o a th hi ac tp 379 en at2_1 (-1) 3 iD iO tU fm fk fa fc ft ff fb fi]) H := hP
  have hD : va_D A (List.flatten [bMo g o a th hi ac tp 379 en at2_1 (-1) 3 iD iO tU fm fk fa fc ft ff fb fi]) := hD
  exact LP5_11 _ q_2 at2_1 (by first | omega | assumption | decide) hq4_1 (by first | omega | assumption | decide) ⟨_, hq4_2, zCvO_w (zCvE_o hq4_3)⟩ H _ ls (Nat.lt_succ_self _)  hP hD hS (lv_sub hl [0, 1] rfl)
set_option maxRecDepth 100000 in
set_option maxHeartbeats 4000000 in
theorem m_atomV2 (l : Launch) (g : zG) (o : Nat) (a : Nat → Nat) (th : Int32) (hi : Int32) (ac : Int32) (tp : Int32) (en : Int32) (tA : Int32) (iD : Int32) (iO : Int32) (tU : Int32) (fm : Nat → Int32) (fk : Nat → Int32) (fa : Nat → Int32) (fc : Nat → Int32) (ft : Nat → Int32) (ff : Nat → Int32) (fb : Nat → Int32) (fi : Nat → Int32) (tx : Nat → Int32) (ev : Nat → Int32) (b1 : Int) (bv : Bool) (hen : 0 ≤ en.toInt ∧ en.toInt ≤ 400) (htA : 0 ≤ tA.toInt ∧ tA.toInt ≤ en.toInt + 7 - 2) (hde : 0 ≤ 2 ∧ 2 ≤ 6) (hff : ∀ k9 : Nat, k9 < 6 → ff k9 = ev k9) (hdr : iD = zBi (zNz (ev 6))) (how : iO = zBi (zNz (ev 7))) (ha : zAv tx en.toInt ev 4 (zbg tx en.toInt tA.toInt) b1 bv) (htx : ∀ k9 : Nat, (k9 : Int) < en.toInt → fm (379 + k9) = tx k9) : zM' g l yX12_atom (Cond.code yX12_atom cX12_atom 4 (some .boolean) :: zB) ({ frames := 20, cells := 0, slots := 0, locals := 441 } : Room) [.ref o] [bMo g o a th hi ac tp 379 en tA (-1) 2 iD iO tU fm fk fa fc ft ff fb fi] (fun (at2 : Int32) => some (.int (zBi bv))) (fun (at2 : Int32) => (0 ≤ at2.toInt ∧ at2.toInt ≤ en.toInt + 7 - 2) ∧ (tA.toInt ≤ at2.toInt) ∧ (zbg tx en.toInt at2.toInt = b1)) (fun (at2 : Int32) => [bMo g o a th hi ac tp 379 en at2 (-1) 2 iD iO tU fm fk fa fc ft ff fb fi]) := by
  refine zM'.of (cc := cX12_atom) (maxL := 4) (rt := (some .boolean)) (by decide) rfl (Nat.le_of_ble_eq_true rfl) ?_
  intro p e s m args below meth c A ls St hr hlocks hin hK hT hA hP hD hS hl
  obtain ⟨hx, hb, hml, hown, hts⟩ := id St
  have hl : lv_has ls 4 [(0, .ref o)] := hl
  refine lv_aload_n hx hb dX12_atom_0 rfl (lv_at hl 0 rfl) ?_
  refine va_get (D := g.1) (ci := 10) (v := .int (-1)) (C := RX12) (T := TX12) (N := 20) hx hb hts izRX12 hown hK hP 0 rfl rfl 12 (by decide) (hts _ k820) (fun _ h9 => h9) rfl dX12_atom_1 ?_
  refine lv_iconst (v := (-1)) hx hb dX12_atom_4 (by decide) ?_
  refine lv_icmp_eq (tgt := 10) hx hb dX12_atom_5 (by decide) (fun _ => ?_) (fun c1 => absurd (by decide) c1)
  refine lv_aload_n hx hb dX12_atom_10 rfl (lv_at hl 0 rfl) ?_
  have hL2 : (2 : Int32).toInt = 2 := by decide
  refine mcallV' (g := g) (q0 := 0) (ci := 10) (As := []) (rest := []) St hK hT hA hP hD hS hl.1 [0] [] rfl rfl rfl (m_hereH l g o a th hi ac tp en tA (-1) 2 iD iO tU fm fk fa fc ft ff fb fi tx hen (by first | assumption | omega | decide | exact Or.inl (by decide) | exact Or.inr (by decide)) (by decide) htx) (cwV 0 hts (zgL (zl4 k892 k893 k894 k839) k891) rfl rfl rfl (by decide +kernel) ⟨Nat.le_of_ble_eq_true rfl, Nat.le_of_ble_eq_true rfl⟩) rfl rfl rfl rfl (Nat.le_of_ble_eq_true rfl) dX12_atom_11 ⟨(Nat.le_of_ble_eq_true rfl), (Nat.le_of_ble_eq_true rfl)⟩ (fun at2_2 H locs hq3 hP hD hS => ?_)
  replace hq3 : (0 ≤ at2_2.toInt ∧ at2_2.toInt ≤ en.toInt + 7 - (2 : Int32).toInt) ∧ (tA.toInt ≤ at2_2.toInt) ∧ (zSk tx en.toInt tA.toInt at2_2.toInt) := hq3
  have hP : va_P g.1 vwCl (List.flatten [bMo g o a th hi ac tp 379 en at2_2 (-1) 2 iD iO tU fm fk fa fc ft ff fb fi]) H := hP
  have hD : va_D A (List.flatten [bMo g o a th hi ac tp 379 en at2_2 (-1) 2 iD iO tU fm fk fa fc ft ff fb fi]) := hD
  refine W.widen (k := 0) (n := 0) (Nat.le_of_ble_eq_true rfl) (Nat.le_of_ble_eq_true rfl) ?_
  refine W.eq (g2 := F0 m 14 ls [.int at2_2]) rfl ?_
  obtain ⟨hq3_0, hq3_1, hq3_2⟩ := hq3
  refine lv_istore_n (lv' := [(1, .int at2_2), (0, .ref o)]) hx hb dX12_atom_14 rfl hl (by decide) rfl (fun ls hl => ?_)
  refine lv_aload_n hx hb dX12_atom_15 rfl (lv_at hl 1 rfl) ?_
  refine va_ldcS (q := g.2 98) hx hb hown (zra44 hT.2.1) dX12_atom_16 ?_
  refine mcallV' (g := g) (q0 := 0) (ci := 10) (As := [.ref (g.2 98)]) (rest := []) St hK hT hA hP hD hS hl.1 [0] [] rfl rfl rfl (m_hasH l g o a th hi ac tp en at2_2 (-1) 2 iD iO tU fm fk fa fc ft ff fb fi tx (g.2 98) 44 zqa44 hen hq3_0 (by decide) htx rfl zla44 zna44 (zlitB zla44)) (cwV 1 hts (zgL (zl4 k899 k900 k901 k839) k889) rfl rfl rfl (by decide +kernel) ⟨Nat.le_of_ble_eq_true rfl, Nat.le_of_ble_eq_true rfl⟩) rfl rfl rfl rfl (Nat.le_of_ble_eq_true rfl) dX12_atom_18 ⟨(Nat.le_of_ble_eq_true rfl), (Nat.le_of_ble_eq_true rfl)⟩ (fun u_ H locs hq6 hP hD hS => ?_)
  obtain ⟨at2_4, r_5⟩ := u_
  replace hq6 : (0 ≤ at2_4.toInt ∧ at2_4.toInt ≤ en.toInt + 7 - (2 : Int32).toInt) ∧ (at2_2.toInt ≤ at2_4.toInt) ∧ (r_5 = 1 ∧ zisW tx en.toInt (zbg tx en.toInt at2_2.toInt) zqa44.2.2.2 ∧ at2_4.toInt = znx tx en.toInt (zbg tx en.toInt at2_2.toInt) ∧ at2_2.toInt < at2_4.toInt ∧ at2_4.toInt ≤ en.toInt ∨ r_5 = 0 ∧ ¬ zisW tx en.toInt (zbg tx en.toInt at2_2.toInt) zqa44.2.2.2 ∧ at2_4.toInt = zbg tx en.toInt at2_2.toInt) := hq6
  have hP : va_P g.1 vwCl (List.flatten [bMo g o a th hi ac tp 379 en at2_4 (-1) 2 iD iO tU fm fk fa fc ft ff fb fi]) H := hP
  have hD : va_D A (List.flatten [bMo g o a th hi ac tp 379 en at2_4 (-1) 2 iD iO tU fm fk fa fc ft ff fb fi]) := hD
  refine W.widen (k := 0) (n := 0) (Nat.le_of_ble_eq_true rfl) (Nat.le_of_ble_eq_true rfl) ?_
  refine W.eq (g2 := F0 m 21 ls [.int r_5]) rfl ?_
  obtain ⟨hq6_0, hq6_1, hq6_2⟩ := hq6
  rcases hq6_2 with ⟨rfl, hq6_k, hq6_km⟩ | ⟨rfl, hq6_k, hq6_km⟩
  · skip
    refine lv_istore_n (lv' := [(2, .int 1), (1, .int at2_2), (0, .ref o)]) hx hb dX12_atom_21 rfl hl (by decide) rfl (fun ls hl => ?_)
    refine lv_iload_n hx hb dX12_atom_22 rfl (lv_at hl 0 rfl) ?_
    refine lv_if_ne (tgt := 40) hx hb dX12_atom_23 (by decide) (fun _ => ?_) (fun c7 => absurd c7 (by decide))
    refine lv_aload_n hx hb dX12_atom_40 rfl (lv_at hl 2 rfl) ?_
    refine va_get (D := g.1) (ci := 10) (v := .int 2) (C := RX12) (T := TX12) (N := 20) hx hb hts izRX12 hown hK hP 0 rfl rfl 13 (by decide) (hts _ k933) (fun _ h9 => h9) rfl dX12_atom_41 ?_
    refine lv_bipush (v := 6) hx hb dX12_atom_44 (by decide) ?_
    refine lv_icmp_ne (tgt := 56) hx hb dX12_atom_46 (by decide) (fun _ => ?_) (fun c8 => absurd c8 (by decide))
    refine lv_aload_n hx hb dX12_atom_56 rfl (lv_at hl 2 rfl) ?_
    refine lv_dup hx hb dX12_atom_57 rfl ?_
    refine va_get (D := g.1) (ci := 10) (v := .int 2) (C := RX12) (T := TX12) (N := 20) hx hb hts izRX12 hown hK hP 0 rfl rfl 13 (by decide) (hts _ k933) (fun _ h9 => h9) rfl dX12_atom_58 ?_
    refine lv_iconst (v := 1) hx hb dX12_atom_61 (by decide) ?_
    refine lv_iadd hx hb dX12_atom_62 ?_
    refine ztop (r := 3) (by decide) ?_
    refine va_put (D := g.1) (ci := 10) (v := .int 3) (ty := .int) (C := RX12) (T := TX12) (N := 20) hx hb hts izRX12 tyX12 tyX12_ok nmX12 hown hK hP hD hS 0 rfl rfl 13 (by decide) (hts _ k933) (fun _ h9 => h9) rfl (by decide +kernel) rfl rfl (Nat.le_of_ble_eq_true rfl) dX12_atom_63 (fun H locs hP hD hS => ?_)
    have hP : va_P g.1 vwCl (List.flatten [bMo g o a th hi ac tp 379 en at2_4 (-1) 3 iD iO tU fm fk fa fc ft ff fb fi]) H := hP
    have hD : va_D A (List.flatten [bMo g o a th hi ac tp 379 en at2_4 (-1) 3 iD iO tU fm fk fa fc ft ff fb fi]) := hD
    refine lv_iconst (v := 0) hx hb dX12_atom_66 (by decide) ?_
    refine lv_istore_n (lv' := [(3, .int 0), (2, .int 1), (1, .int at2_2), (0, .ref o)]) hx hb dX12_atom_67 rfl hl (by decide) rfl (fun ls hl => ?_)
    refine lv_iload_n hx hb dX12_atom_68 rfl (lv_at hl 1 rfl) ?_
    refine lv_if_eq (tgt := 88) hx hb dX12_atom_69 (by decide) (fun c9 => absurd c9 (by decide)) (fun _ => ?_)
    have ha9 : zAv tx en.toInt ev 3 (zbg tx en.toInt at2_4.toInt) b1 (!bv) := zAv_b (zAv_n ha (zBy (show _ = zbg tx en.toInt tA.toInt from hq3_2) hq6_k)) (zbt (zBx (show _ = zbg tx en.toInt tA.toInt from hq3_2) hq6_km.1))
    refine lv_aload_n hx hb dX12_atom_72 rfl (lv_at hl 3 rfl) ?_
    refine mcallV' (g := g) (q0 := 0) (ci := 10) (As := []) (rest := []) St hK hT hA hP hD hS hl.1 [0] [] rfl rfl rfl (m_atomV3 l g o a th hi ac tp en at2_4 iD iO tU fm fk fa fc ft ff fb fi tx ev b1 (!bv) hen (by first | assumption | omega | decide | exact Or.inl (by decide) | exact Or.inr (by decide)) (by first | assumption | omega | decide | exact Or.inl (by decide) | exact Or.inr (by decide)) hff hdr how (by first | assumption | omega | decide | exact Or.inl (by decide) | exact Or.inr (by decide)) htx) (cwV 0 hts (zgL (zl4 k951 k952 k953 k839) k962) rfl rfl rfl (by decide +kernel) ⟨Nat.le_of_ble_eq_true rfl, Nat.le_of_ble_eq_true rfl⟩) rfl rfl rfl rfl (Nat.le_of_ble_eq_true rfl) dX12_atom_73 ⟨(Nat.le_of_ble_eq_true rfl), (Nat.le_of_ble_eq_true rfl)⟩ (fun at2_10 H locs hq11 hP hD hS => ?_)
    replace hq11 : (0 ≤ at2_10.toInt ∧ at2_10.toInt ≤ en.toInt + 7 - 3) ∧ (at2_4.toInt ≤ at2_10.toInt) ∧ (zbg tx en.toInt at2_10.toInt = b1) := hq11
    have hP : va_P g.1 vwCl (List.flatten [bMo g o a th hi ac tp 379 en at2_10 (-1) 3 iD iO tU fm fk fa fc ft ff fb fi]) H := hP
    have hD : va_D A (List.flatten [bMo g o a th hi ac tp 379 en at2_10 (-1) 3 iD iO tU fm fk fa fc ft ff fb fi]) := hD
    refine W.widen (k := 0) (n := 0) (Nat.le_of_ble_eq_true rfl) (Nat.le_of_ble_eq_true rfl) ?_
    refine W.eq (g2 := F0 m 76 ls [.int (zBi (!bv))]) rfl ?_
    obtain ⟨hq11_0, hq11_1, hq11_2⟩ := hq11
    refine lv_if_ne (tgt := 83) hx hb dX12_atom_76 (by decide) (fun cb9 => ?_) (fun cb9 => ?_)
    · skip
      have c12 : ¬ (zBi (!bv)).toInt = 0 := zne cb9 rfl (by decide)
      refine lv_iconst (v := 0) hx hb dX12_atom_83 (by decide) ?_
      refine lv_istore_n (lv' := [(3, .int 0), (2, .int 1), (1, .int at2_2), (0, .ref o)]) hx hb dX12_atom_84 rfl hl (by decide) rfl (fun ls hl => ?_)
      refine lv_goto (tgt := 138) hx hb dX12_atom_85 (by decide) ?_
      refine lv_aload_n hx hb dX12_atom_138 rfl (lv_at hl 3 rfl) ?_
      refine lv_dup hx hb dX12_atom_139 rfl ?_
      refine va_get (D := g.1) (ci := 10) (v := .int 3) (C := RX12) (T := TX12) (N := 20) hx hb hts izRX12 hown hK hP 0 rfl rfl 13 (by decide) (hts _ k933) (fun _ h9 => h9) rfl dX12_atom_140 ?_
      refine lv_iconst (v := 1) hx hb dX12_atom_143 (by decide) ?_
      refine lv_isub hx hb dX12_atom_144 ?_
      refine ztop (r := 2) (by decide) ?_
      refine va_put (D := g.1) (ci := 10) (v := .int 2) (ty := .int) (C := RX12) (T := TX12) (N := 20) hx hb hts izRX12 tyX12 tyX12_ok nmX12 hown hK hP hD hS 0 rfl rfl 13 (by decide) (hts _ k933) (fun _ h9 => h9) rfl (by decide +kernel) rfl rfl (Nat.le_of_ble_eq_true rfl) dX12_atom_145 (fun H locs hP hD hS => ?_)
      have hP : va_P g.1 vwCl (List.flatten [bMo g o a th hi ac tp 379 en at2_10 (-1) 2 iD iO tU fm fk fa fc ft ff fb fi]) H := hP
      have hD : va_D A (List.flatten [bMo g o a th hi ac tp 379 en at2_10 (-1) 2 iD iO tU fm fk fa fc ft ff fb fi]) := hD
      refine lv_iload_n hx hb dX12_atom_148 rfl (lv_at hl 0 rfl) ?_
      refine ztop (r := (zBi bv)) (zBn0 (by omega)) ?_
      have hP : va_P g.1 vwCl (List.flatten [bMo g o a th hi ac tp 379 en at2_10 (-1) 2 iD iO tU fm fk fa fc ft ff fb fi]) H := hP
      have hD : va_D A (List.flatten [bMo g o a th hi ac tp 379 en at2_10 (-1) 2 iD iO tU fm fk fa fc ft ff fb fi]) := hD
      exact mret_z hx hb hr hlocks hS (Nat.le_of_ble_eq_true rfl) (Nat.le_of_ble_eq_true rfl) dX12_atom_149 (at2_10) rfl (zb01 (zBi_01 _)) (show (0 ≤ at2_10.toInt ∧ at2_10.toInt ≤ en.toInt + 7 - 2) ∧ (tA.toInt ≤ at2_10.toInt) ∧ (zbg tx en.toInt at2_10.toInt = b1) from ⟨(by first | assumption | omega | decide), (by first | assumption | omega | decide), hq11_2⟩) hP hD
    · skip
      have c13 : (zBi (!bv)).toInt = 0 := zeq cb9 rfl (by decide)
      have n14 : 0 ≤ (zBi (!bv)).toInt := Int.le_trans (Int.le_refl _) (Int.le_of_eq c13.symm)
      have n15 : (zBi (!bv)).toInt ≤ 0 := Int.le_trans (Int.le_of_eq c13) (Int.le_refl _)
      refine lv_iconst (v := 1) hx hb dX12_atom_79 (by decide) ?_
      refine lv_goto (tgt := 84) hx hb dX12_atom_80 (by decide) ?_
      refine lv_istore_n (lv' := [(3, .int 1), (2, .int 1), (1, .int at2_2), (0, .ref o)]) hx hb dX12_atom_84 rfl hl (by decide) rfl (fun ls hl => ?_)
      refine lv_goto (tgt := 138) hx hb dX12_atom_85 (by decide) ?_
      refine lv_aload_n hx hb dX12_atom_138 rfl (lv_at hl 3 rfl) ?_
      refine lv_dup hx hb dX12_atom_139 rfl ?_
      refine va_get (D := g.1) (ci := 10) (v := .int 3) (C := RX12) (T := TX12) (N := 20) hx hb hts izRX12 hown hK hP 0 rfl rfl 13 (by decide) (hts _ k933) (fun _ h9 => h9) rfl dX12_atom_140 ?_
      refine lv_iconst (v := 1) hx hb dX12_atom_143 (by decide) ?_
      refine lv_isub hx hb dX12_atom_144 ?_
      refine ztop (r := 2) (by decide) ?_
      refine va_put (D := g.1) (ci := 10) (v := .int 2) (ty := .int) (C := RX12) (T := TX12) (N := 20) hx hb hts izRX12 tyX12 tyX12_ok nmX12 hown hK hP hD hS 0 rfl rfl 13 (by decide) (hts _ k933) (fun _ h9 => h9) rfl (by decide +kernel) rfl rfl (Nat.le_of_ble_eq_true rfl) dX12_atom_145 (fun H locs hP hD hS => ?_)
      have hP : va_P g.1 vwCl (List.flatten [bMo g o a th hi ac tp 379 en at2_10 (-1) 2 iD iO tU fm fk fa fc ft ff fb fi]) H := hP
      have hD : va_D A (List.flatten [bMo g o a th hi ac tp 379 en at2_10 (-1) 2 iD iO tU fm fk fa fc ft ff fb fi]) := hD
      refine lv_iload_n hx hb dX12_atom_148 rfl (lv_at hl 0 rfl) ?_
      refine ztop (r := (zBi bv)) (zBn1 (by omega)) ?_
      have hP : va_P g.1 vwCl (List.flatten [bMo g o a th hi ac tp 379 en at2_10 (-1) 2 iD iO tU fm fk fa fc ft ff fb fi]) H := hP
      have hD : va_D A (List.flatten [bMo g o a th hi ac tp 379 en at2_10 (-1) 2 iD iO tU fm fk fa fc ft ff fb fi]) := hD
      exact mret_z hx hb hr hlocks hS (Nat.le_of_ble_eq_true rfl) (Nat.le_of_ble_eq_true rfl) dX12_atom_149 (at2_10) rfl (zb01 (zBi_01 _)) (show (0 ≤ at2_10.toInt ∧ at2_10.toInt ≤ en.toInt + 7 - 2) ∧ (tA.toInt ≤ at2_10.toInt) ∧ (zbg tx en.toInt at2_10.toInt = b1) from ⟨(by first | assumption | omega | decide), (by first | assumption | omega | decide), hq11_2⟩) hP hD
  · skip
    refine lv_istore_n (lv' := [(2, .int 0), (1, .int at2_2), (0, .ref o)]) hx hb dX12_atom_21 rfl hl (by decide) rfl (fun ls hl => ?_)
    refine lv_iload_n hx hb dX12_atom_22 rfl (lv_at hl 0 rfl) ?_
    refine lv_if_ne (tgt := 40) hx hb dX12_atom_23 (by decide) (fun c16 => absurd (by decide) c16) (fun _ => ?_)
    refine lv_aload_n hx hb dX12_atom_26 rfl (lv_at hl 2 rfl) ?_
    refine lv_bipush (v := 40) hx hb dX12_atom_27 (by decide) ?_
    have hL40 : (40 : Int32).toInt = 40 := by decide
    refine mcallV' (g := g) (q0 := 0) (ci := 10) (As := [.int 40]) (rest := []) St hK hT hA hP hD hS hl.1 [0] [] rfl rfl rfl (m_isSignH l g o a th hi ac tp en at2_4 (-1) 2 iD iO tU fm fk fa fc ft ff fb fi 40 tx hen hq6_0 (by decide) (by first | assumption | omega | decide | exact Or.inl (by decide) | exact Or.inr (by decide)) htx) (cwV 1 hts (zgL (zl4 k938 k939 k940 k839) k883) rfl rfl rfl (by decide +kernel) ⟨Nat.le_of_ble_eq_true rfl, Nat.le_of_ble_eq_true rfl⟩) rfl rfl rfl rfl (Nat.le_of_ble_eq_true rfl) dX12_atom_29 ⟨(Nat.le_of_ble_eq_true rfl), (Nat.le_of_ble_eq_true rfl)⟩ (fun u_ H locs hq19 hP hD hS => ?_)
    obtain ⟨at2_17, q_18⟩ := u_
    replace hq19 : (0 ≤ at2_17.toInt ∧ at2_17.toInt ≤ en.toInt + 7 - (2 : Int32).toInt) ∧ (at2_4.toInt ≤ at2_17.toInt) ∧ (zSk tx en.toInt at2_4.toInt at2_17.toInt) ∧ (q_18 = 1 ∧ zisS tx en.toInt at2_17.toInt (40 : Int32).toInt ∧ at2_17.toInt < en.toInt ∨ q_18 = 0 ∧ ¬ zisS tx en.toInt at2_17.toInt (40 : Int32).toInt) := hq19
    have hP : va_P g.1 vwCl (List.flatten [bMo g o a th hi ac tp 379 en at2_17 (-1) 2 iD iO tU fm fk fa fc ft ff fb fi]) H := hP
    have hD : va_D A (List.flatten [bMo g o a th hi ac tp 379 en at2_17 (-1) 2 iD iO tU fm fk fa fc ft ff fb fi]) := hD
    refine W.widen (k := 0) (n := 0) (Nat.le_of_ble_eq_true rfl) (Nat.le_of_ble_eq_true rfl) ?_
    refine W.eq (g2 := F0 m 32 ls [.int q_18]) rfl ?_
    obtain ⟨hq19_0, hq19_1, hq19_2, hq19_3⟩ := hq19
    rcases hq19_3 with ⟨rfl, hq19_k⟩ | ⟨rfl, hq19_k⟩
    · skip
      refine lv_if_ne (tgt := 40) hx hb dX12_atom_32 (by decide) (fun _ => ?_) (fun c20 => absurd c20 (by decide))
      refine lv_aload_n hx hb dX12_atom_40 rfl (lv_at hl 2 rfl) ?_
      refine va_get (D := g.1) (ci := 10) (v := .int 2) (C := RX12) (T := TX12) (N := 20) hx hb hts izRX12 hown hK hP 0 rfl rfl 13 (by decide) (hts _ k933) (fun _ h9 => h9) rfl dX12_atom_41 ?_
      refine lv_bipush (v := 6) hx hb dX12_atom_44 (by decide) ?_
      refine lv_icmp_ne (tgt := 56) hx hb dX12_atom_46 (by decide) (fun _ => ?_) (fun c21 => absurd c21 (by decide))
      refine lv_aload_n hx hb dX12_atom_56 rfl (lv_at hl 2 rfl) ?_
      refine lv_dup hx hb dX12_atom_57 rfl ?_
      refine va_get (D := g.1) (ci := 10) (v := .int 2) (C := RX12) (T := TX12) (N := 20) hx hb hts izRX12 hown hK hP 0 rfl rfl 13 (by decide) (hts _ k933) (fun _ h9 => h9) rfl dX12_atom_58 ?_
      refine lv_iconst (v := 1) hx hb dX12_atom_61 (by decide) ?_
      refine lv_iadd hx hb dX12_atom_62 ?_
      refine ztop (r := 3) (by decide) ?_
      refine va_put (D := g.1) (ci := 10) (v := .int 3) (ty := .int) (C := RX12) (T := TX12) (N := 20) hx hb hts izRX12 tyX12 tyX12_ok nmX12 hown hK hP hD hS 0 rfl rfl 13 (by decide) (hts _ k933) (fun _ h9 => h9) rfl (by decide +kernel) rfl rfl (Nat.le_of_ble_eq_true rfl) dX12_atom_63 (fun H locs hP hD hS => ?_)
      have hP : va_P g.1 vwCl (List.flatten [bMo g o a th hi ac tp 379 en at2_17 (-1) 3 iD iO tU fm fk fa fc ft ff fb fi]) H := hP
      have hD : va_D A (List.flatten [bMo g o a th hi ac tp 379 en at2_17 (-1) 3 iD iO tU fm fk fa fc ft ff fb fi]) := hD
      refine lv_iconst (v := 0) hx hb dX12_atom_66 (by decide) ?_
      refine lv_istore_n (lv' := [(3, .int 0), (2, .int 0), (1, .int at2_2), (0, .ref o)]) hx hb dX12_atom_67 rfl hl (by decide) rfl (fun ls hl => ?_)
      refine lv_iload_n hx hb dX12_atom_68 rfl (lv_at hl 1 rfl) ?_
      refine lv_if_eq (tgt := 88) hx hb dX12_atom_69 (by decide) (fun _ => ?_) (fun c22 => absurd (by decide) c22)
      refine lv_aload_n hx hb dX12_atom_88 rfl (lv_at hl 3 rfl) ?_
      refine lv_dup hx hb dX12_atom_89 rfl ?_
      refine va_get (D := g.1) (ci := 10) (v := .int at2_17) (C := RX12) (T := TX12) (N := 20) hx hb hts izRX12 hown hK hP 0 rfl rfl 11 (by decide) (hts _ k878) (fun _ h9 => h9) rfl dX12_atom_90 ?_
      refine lv_iconst (v := 1) hx hb dX12_atom_93 (by decide) ?_
      refine lv_iadd hx hb dX12_atom_94 ?_
      refine zgv (zadd (i := at2_17.toInt) (j := 1) rfl (by decide) (by omega)) (fun x_23 hx_23 => ?_)
      refine va_put (D := g.1) (ci := 10) (v := .int x_23) (ty := .int) (C := RX12) (T := TX12) (N := 20) hx hb hts izRX12 tyX12 tyX12_ok nmX12 hown hK hP hD hS 0 rfl rfl 11 (by decide) (hts _ k878) (fun _ h9 => h9) rfl (by decide +kernel) rfl rfl (Nat.le_of_ble_eq_true rfl) dX12_atom_95 (fun H locs hP hD hS => ?_)
      have hP : va_P g.1 vwCl (List.flatten [bMo g o a th hi ac tp 379 en x_23 (-1) 3 iD iO tU fm fk fa fc ft ff fb fi]) H := hP
      have hD : va_D A (List.flatten [bMo g o a th hi ac tp 379 en x_23 (-1) 3 iD iO tU fm fk fa fc ft ff fb fi]) := hD
      have hs40 : zisS tx en.toInt (zbg tx en.toInt tA.toInt) 40 := by rw [← zbz (zBe (show _ = zbg tx en.toInt tA.toInt from hq3_2) hq6_km)]; exact zisS_b hq19_2 hq19_k.1 (by decide)
      obtain ⟨p0, hc0, hs0, hb0⟩ := zAv_q ha hs40
      have hc9 := zCv_b hc0 (show zbg tx en.toInt x_23.toInt = _ from (zb1 hq19_2 hq19_k.1 (by omega)).trans (by rw [zbz (zBe (show _ = zbg tx en.toInt tA.toInt from hq3_2) hq6_km)]))
      refine lv_aload_n hx hb dX12_atom_98 rfl (lv_at hl 3 rfl) ?_
      refine mcallV' (g := g) (q0 := 0) (ci := 10) (As := []) (rest := []) St hK hT hA hP hD hS hl.1 [0] [] rfl rfl rfl (m_someV3 l g o a th hi ac tp en x_23 iD iO tU fm fk fa fc ft ff fb fi tx ev p0 bv hen (by first | assumption | omega | decide | exact Or.inl (by decide) | exact Or.inr (by decide)) (by first | assumption | omega | decide | exact Or.inl (by decide) | exact Or.inr (by decide)) hff hdr how (by first | assumption | omega | decide | exact Or.inl (by decide) | exact Or.inr (by decide)) htx) (cwV 0 hts (zgL (zl4 k954 k955 k956 k839) k958) rfl rfl rfl (by decide +kernel) ⟨Nat.le_of_ble_eq_true rfl, Nat.le_of_ble_eq_true rfl⟩) rfl rfl rfl rfl (Nat.le_of_ble_eq_true rfl) dX12_atom_99 ⟨(Nat.le_of_ble_eq_true rfl), (Nat.le_of_ble_eq_true rfl)⟩ (fun at2_24 H locs hq25 hP hD hS => ?_)
      replace hq25 : (0 ≤ at2_24.toInt ∧ at2_24.toInt ≤ en.toInt + 7 - 3) ∧ (x_23.toInt ≤ at2_24.toInt) ∧ (zbg tx en.toInt at2_24.toInt = p0) := hq25
      have hP : va_P g.1 vwCl (List.flatten [bMo g o a th hi ac tp 379 en at2_24 (-1) 3 iD iO tU fm fk fa fc ft ff fb fi]) H := hP
      have hD : va_D A (List.flatten [bMo g o a th hi ac tp 379 en at2_24 (-1) 3 iD iO tU fm fk fa fc ft ff fb fi]) := hD
      refine W.widen (k := 0) (n := 0) (Nat.le_of_ble_eq_true rfl) (Nat.le_of_ble_eq_true rfl) ?_
      refine W.eq (g2 := F0 m 102 ls [.int (zBi bv)]) rfl ?_
      obtain ⟨hq25_0, hq25_1, hq25_2⟩ := hq25
      refine lv_istore_n (lv' := [(3, .int (zBi bv)), (2, .int 0), (1, .int at2_2), (0, .ref o)]) hx hb dX12_atom_102 rfl hl (by decide) rfl (fun ls hl => ?_)
      refine lv_aload_n hx hb dX12_atom_103 rfl (lv_at hl 3 rfl) ?_
      refine va_get (D := g.1) (ci := 10) (v := .int (-1)) (C := RX12) (T := TX12) (N := 20) hx hb hts izRX12 hown hK hP 0 rfl rfl 12 (by decide) (hts _ k820) (fun _ h9 => h9) rfl dX12_atom_104 ?_
      refine lv_iconst (v := (-1)) hx hb dX12_atom_107 (by decide) ?_
      refine lv_icmp_ne (tgt := 128) hx hb dX12_atom_108 (by decide) (fun c26 => absurd (by decide) c26) (fun _ => ?_)
      refine lv_aload_n hx hb dX12_atom_111 rfl (lv_at hl 3 rfl) ?_
      refine lv_bipush (v := 41) hx hb dX12_atom_112 (by decide) ?_
      have hL3 : (3 : Int32).toInt = 3 := by decide
      have hL41 : (41 : Int32).toInt = 41 := by decide
      refine mcallV' (g := g) (q0 := 0) (ci := 10) (As := [.int 41]) (rest := []) St hK hT hA hP hD hS hl.1 [0] [] rfl rfl rfl (m_isSignH l g o a th hi ac tp en at2_24 (-1) 3 iD iO tU fm fk fa fc ft ff fb fi 41 tx hen (by first | assumption | omega | decide | exact Or.inl (by decide) | exact Or.inr (by decide)) (by decide) (by first | assumption | omega | decide | exact Or.inl (by decide) | exact Or.inr (by decide)) htx) (cwV 1 hts (zgL (zl4 k938 k939 k940 k839) k883) rfl rfl rfl (by decide +kernel) ⟨Nat.le_of_ble_eq_true rfl, Nat.le_of_ble_eq_true rfl⟩) rfl rfl rfl rfl (Nat.le_of_ble_eq_true rfl) dX12_atom_114 ⟨(Nat.le_of_ble_eq_true rfl), (Nat.le_of_ble_eq_true rfl)⟩ (fun u_ H locs hq29 hP hD hS => ?_)
      obtain ⟨at2_27, q_28⟩ := u_
      replace hq29 : (0 ≤ at2_27.toInt ∧ at2_27.toInt ≤ en.toInt + 7 - (3 : Int32).toInt) ∧ (at2_24.toInt ≤ at2_27.toInt) ∧ (zSk tx en.toInt at2_24.toInt at2_27.toInt) ∧ (q_28 = 1 ∧ zisS tx en.toInt at2_27.toInt (41 : Int32).toInt ∧ at2_27.toInt < en.toInt ∨ q_28 = 0 ∧ ¬ zisS tx en.toInt at2_27.toInt (41 : Int32).toInt) := hq29
      have hP : va_P g.1 vwCl (List.flatten [bMo g o a th hi ac tp 379 en at2_27 (-1) 3 iD iO tU fm fk fa fc ft ff fb fi]) H := hP
      have hD : va_D A (List.flatten [bMo g o a th hi ac tp 379 en at2_27 (-1) 3 iD iO tU fm fk fa fc ft ff fb fi]) := hD
      refine W.widen (k := 0) (n := 0) (Nat.le_of_ble_eq_true rfl) (Nat.le_of_ble_eq_true rfl) ?_
      refine W.eq (g2 := F0 m 117 ls [.int q_28]) rfl ?_
      obtain ⟨hq29_0, hq29_1, hq29_2, hq29_3⟩ := hq29
      rcases hq29_3 with ⟨rfl, hq29_k⟩ | ⟨rfl, hq29_k⟩
      · skip
        refine lv_if_ne (tgt := 128) hx hb dX12_atom_117 (by decide) (fun _ => ?_) (fun c30 => absurd c30 (by decide))
        refine lv_aload_n hx hb dX12_atom_128 rfl (lv_at hl 3 rfl) ?_
        refine lv_dup hx hb dX12_atom_129 rfl ?_
        refine va_get (D := g.1) (ci := 10) (v := .int at2_27) (C := RX12) (T := TX12) (N := 20) hx hb hts izRX12 hown hK hP 0 rfl rfl 11 (by decide) (hts _ k878) (fun _ h9 => h9) rfl dX12_atom_130 ?_
        refine lv_iconst (v := 1) hx hb dX12_atom_133 (by decide) ?_
        refine lv_iadd hx hb dX12_atom_134 ?_
        refine zgv (zadd (i := at2_27.toInt) (j := 1) rfl (by decide) (by omega)) (fun x_31 hx_31 => ?_)
        refine va_put (D := g.1) (ci := 10) (v := .int x_31) (ty := .int) (C := RX12) (T := TX12) (N := 20) hx hb hts izRX12 tyX12 tyX12_ok nmX12 hown hK hP hD hS 0 rfl rfl 11 (by decide) (hts _ k878) (fun _ h9 => h9) rfl (by decide +kernel) rfl rfl (Nat.le_of_ble_eq_true rfl) dX12_atom_135 (fun H locs hP hD hS => ?_)
        have hP : va_P g.1 vwCl (List.flatten [bMo g o a th hi ac tp 379 en x_31 (-1) 3 iD iO tU fm fk fa fc ft ff fb fi]) H := hP
        have hD : va_D A (List.flatten [bMo g o a th hi ac tp 379 en x_31 (-1) 3 iD iO tU fm fk fa fc ft ff fb fi]) := hD
        refine lv_aload_n hx hb dX12_atom_138 rfl (lv_at hl 3 rfl) ?_
        refine lv_dup hx hb dX12_atom_139 rfl ?_
        refine va_get (D := g.1) (ci := 10) (v := .int 3) (C := RX12) (T := TX12) (N := 20) hx hb hts izRX12 hown hK hP 0 rfl rfl 13 (by decide) (hts _ k933) (fun _ h9 => h9) rfl dX12_atom_140 ?_
        refine lv_iconst (v := 1) hx hb dX12_atom_143 (by decide) ?_
        refine lv_isub hx hb dX12_atom_144 ?_
        refine ztop (r := 2) (by decide) ?_
        refine va_put (D := g.1) (ci := 10) (v := .int 2) (ty := .int) (C := RX12) (T := TX12) (N := 20) hx hb hts izRX12 tyX12 tyX12_ok nmX12 hown hK hP hD hS 0 rfl rfl 13 (by decide) (hts _ k933) (fun _ h9 => h9) rfl (by decide +kernel) rfl rfl (Nat.le_of_ble_eq_true rfl) dX12_atom_145 (fun H locs hP hD hS => ?_)
        have hP : va_P g.1 vwCl (List.flatten [bMo g o a th hi ac tp 379 en x_31 (-1) 2 iD iO tU fm fk fa fc ft ff fb fi]) H := hP
        have hD : va_D A (List.flatten [bMo g o a th hi ac tp 379 en x_31 (-1) 2 iD iO tU fm fk fa fc ft ff fb fi]) := hD
        refine lv_iload_n hx hb dX12_atom_148 rfl (lv_at hl 0 rfl) ?_
        have hP : va_P g.1 vwCl (List.flatten [bMo g o a th hi ac tp 379 en x_31 (-1) 2 iD iO tU fm fk fa fc ft ff fb fi]) H := hP
        have hD : va_D A (List.flatten [bMo g o a th hi ac tp 379 en x_31 (-1) 2 iD iO tU fm fk fa fc ft ff fb fi]) := hD
        exact mret_z hx hb hr hlocks hS (Nat.le_of_ble_eq_true rfl) (Nat.le_of_ble_eq_true rfl) dX12_atom_149 (x_31) rfl (zb01 (zBi_01 _)) (show (0 ≤ x_31.toInt ∧ x_31.toInt ≤ en.toInt + 7 - 2) ∧ (tA.toInt ≤ x_31.toInt) ∧ (zbg tx en.toInt x_31.toInt = b1) from ⟨(by first | assumption | omega | decide), (by first | assumption | omega | decide), ((zb1 hq29_2 hq29_k.1 (by omega)).trans (by rw [hq25_2]; exact hb0.symm))⟩) hP hD
      · skip
        exact ((zisS_bn (d := 41) hq29_2 hq29_k (by decide)) (by rw [hq25_2]; exact hs0)).elim
    · skip
      refine lv_if_ne (tgt := 40) hx hb dX12_atom_32 (by decide) (fun c32 => absurd (by decide) c32) (fun _ => ?_)
      have hnd : ¬ zDeep tx en.toInt (zbg tx en.toInt tA.toInt) := zor_n (zBw (show _ = zbg tx en.toInt tA.toInt from hq3_2) hq6_k) (by rw [← zbz (zBe (show _ = zbg tx en.toInt tA.toInt from hq3_2) hq6_km)]; exact zisS_bn (d := 40) hq19_2 hq19_k (by decide))
      have hpl9 : zPlV tx en.toInt ev (zbg tx en.toInt at2_17.toInt) b1 bv := zPlV_b (zAv_p ha hnd) ((zbs hq19_2).trans (zbz (zBe (show _ = zbg tx en.toInt tA.toInt from hq3_2) hq6_km)))
      refine lv_aload_n hx hb dX12_atom_35 rfl (lv_at hl 2 rfl) ?_
      refine mcallV' (g := g) (q0 := 0) (ci := 10) (As := []) (rest := []) St hK hT hA hP hD hS hl.1 [0] [] rfl rfl rfl (m_plainV l g o a th hi ac tp en at2_17 2 iD iO tU fm fk fa fc ft ff fb fi tx ev b1 bv hen hq19_0 (by decide) hff hdr how (by first | assumption | omega | decide | exact Or.inl (by decide) | exact Or.inr (by decide)) htx) (cwV 0 hts (zgL (zl4 k948 k949 k950 k839) k947) rfl rfl rfl (by decide +kernel) ⟨Nat.le_of_ble_eq_true rfl, Nat.le_of_ble_eq_true rfl⟩) rfl rfl rfl rfl (Nat.le_of_ble_eq_true rfl) dX12_atom_36 ⟨(Nat.le_of_ble_eq_true rfl), (Nat.le_of_ble_eq_true rfl)⟩ (fun at2_33 H locs hq34 hP hD hS => ?_)
      replace hq34 : (0 ≤ at2_33.toInt ∧ at2_33.toInt ≤ en.toInt + 7 - (2 : Int32).toInt) ∧ (at2_17.toInt ≤ at2_33.toInt) ∧ (zbg tx en.toInt at2_33.toInt = b1) := hq34
      have hP : va_P g.1 vwCl (List.flatten [bMo g o a th hi ac tp 379 en at2_33 (-1) 2 iD iO tU fm fk fa fc ft ff fb fi]) H := hP
      have hD : va_D A (List.flatten [bMo g o a th hi ac tp 379 en at2_33 (-1) 2 iD iO tU fm fk fa fc ft ff fb fi]) := hD
      refine W.widen (k := 0) (n := 0) (Nat.le_of_ble_eq_true rfl) (Nat.le_of_ble_eq_true rfl) ?_
      refine W.eq (g2 := F0 m 39 ls [.int (zBi bv)]) rfl ?_
      obtain ⟨hq34_0, hq34_1, hq34_2⟩ := hq34
      have hP : va_P g.1 vwCl (List.flatten [bMo g o a th hi ac tp 379 en at2_33 (-1) 2 iD iO tU fm fk fa fc ft ff fb fi]) H := hP
      have hD : va_D A (List.flatten [bMo g o a th hi ac tp 379 en at2_33 (-1) 2 iD iO tU fm fk fa fc ft ff fb fi]) := hD
      exact mret_z hx hb hr hlocks hS (Nat.le_of_ble_eq_true rfl) (Nat.le_of_ble_eq_true rfl) dX12_atom_39 (at2_33) rfl (zb01 (zBi_01 _)) (show (0 ≤ at2_33.toInt ∧ at2_33.toInt ≤ en.toInt + 7 - 2) ∧ (tA.toInt ≤ at2_33.toInt) ∧ (zbg tx en.toInt at2_33.toInt = b1) from ⟨(by first | assumption | omega | decide), (by first | assumption | omega | decide), hq34_2⟩) hP hD
