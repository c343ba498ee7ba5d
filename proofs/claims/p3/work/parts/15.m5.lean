set_option maxRecDepth 100000 in
set_option maxHeartbeats 4000000 in
theorem m_law (l : Launch) (g : zG) (o : Nat) (a : Nat → Nat) (th : Int32) (hi : Int32) (ac : Int32) (tp : Int32) (ba : Int32) (en : Int32) (tA : Int32) (fl : Int32) (de : Int32) (iD : Int32) (iO : Int32) (tU : Int32) (fm : Nat → Int32) (fk : Nat → Int32) (fa : Nat → Int32) (fc : Nat → Int32) (ft : Nat → Int32) (ff : Nat → Int32) (fb : Nat → Int32) (fi : Nat → Int32) (rfm : rM fm) (hac : 0 ≤ ac.toInt ∧ ac.toInt ≤ 12) (htp : 0 ≤ tp.toInt ∧ tp.toInt ≤ 400) (hiD : 0 ≤ iD.toInt ∧ iD.toInt ≤ 1) (hiO : 0 ≤ iO.toInt ∧ iO.toInt ≤ 1) : zM' g l yX12_law (Cond.code yX12_law cX12_law 3 (some .int) :: zB) ({ frames := 31, cells := 0, slots := 0, locals := 688 } : Room) [.ref o] [bMo g o a th hi ac tp ba en tA fl de iD iO tU fm fk fa fc ft ff fb fi] (fun u : Int32 × Int32 × Int32 × Int32 × (Nat → Int32) × Int32 × Int32 => (fun (th2 : Int32) (at2 : Int32) (fl2 : Int32) (tU2 : Int32) (fm2 : Nat → Int32) (ac2 : Int32) (q : Int32) => some (.int q)) (u.1) (u.2.1) (u.2.2.1) (u.2.2.2.1) (u.2.2.2.2.1) (u.2.2.2.2.2.1) (u.2.2.2.2.2.2)) (fun u : Int32 × Int32 × Int32 × Int32 × (Nat → Int32) × Int32 × Int32 => (fun (th2 : Int32) (at2 : Int32) (fl2 : Int32) (tU2 : Int32) (fm2 : Nat → Int32) (ac2 : Int32) (q : Int32) => (0 ≤ ac2.toInt ∧ ac2.toInt ≤ 12) ∧ (rM fm2)) (u.1) (u.2.1) (u.2.2.1) (u.2.2.2.1) (u.2.2.2.2.1) (u.2.2.2.2.2.1) (u.2.2.2.2.2.2)) (fun u : Int32 × Int32 × Int32 × Int32 × (Nat → Int32) × Int32 × Int32 => (fun (th2 : Int32) (at2 : Int32) (fl2 : Int32) (tU2 : Int32) (fm2 : Nat → Int32) (ac2 : Int32) (q : Int32) => [bMo g o a th2 hi ac2 0 (-1) tp at2 fl2 0 iD iO tU2 fm2 fk fa fc ft ff fb fi]) (u.1) (u.2.1) (u.2.2.1) (u.2.2.2.1) (u.2.2.2.2.1) (u.2.2.2.2.2.1) (u.2.2.2.2.2.2)) := by
  refine zM'.of (cc := cX12_law) (maxL := 3) (rt := (some .int)) (by decide) rfl (Nat.le_of_ble_eq_true rfl) ?_
  intro p e s m args below meth c A ls St hr hlocks hin hK hT hA hP hD hS hl
  obtain ⟨hx, hb, hml, hown, hts⟩ := id St
  have hl : lv_has ls 3 [(0, .ref o)] := hl
  refine lv_aload_n hx hb dX12_law_0 rfl (lv_at hl 0 rfl) ?_
  refine mcallV' (g := g) (q0 := 0) (ci := 10) (As := []) (rest := []) St hK hT hA hP hD hS hl.1 [0] [] rfl rfl rfl (m_begins l g o a th hi ac tp ba en tA fl de iD iO tU fm fk fa fc ft ff fb fi ) (cwV 0 hts (zgL (zl4 k977 k978 k979 k837) k931) rfl rfl rfl (by decide +kernel) ⟨Nat.le_of_ble_eq_true rfl, Nat.le_of_ble_eq_true rfl⟩) rfl rfl rfl rfl (Nat.le_of_ble_eq_true rfl) dX12_law_1 ⟨(Nat.le_of_ble_eq_true rfl), (Nat.le_of_ble_eq_true rfl)⟩ (fun _u H locs hq1 hP hD hS => ?_)
  have hP : va_P g.1 vwCl (List.flatten [bMo g o a th hi ac 0 (-1) tp 0 (-1) 0 iD iO tU fm fk fa fc ft ff fb fi]) H := hP
  have hD : va_D A (List.flatten [bMo g o a th hi ac 0 (-1) tp 0 (-1) 0 iD iO tU fm fk fa fc ft ff fb fi]) := hD
  refine W.widen (k := 0) (n := 0) (Nat.le_of_ble_eq_true rfl) (Nat.le_of_ble_eq_true rfl) ?_
  refine W.eq (g2 := F0 m 4 ls []) rfl ?_
  refine lv_aload_n hx hb dX12_law_4 rfl (lv_at hl 0 rfl) ?_
  refine lv_iconst (v := 1) hx hb dX12_law_5 (by decide) ?_
  have hLn1 : ((-1) : Int32).toInt = (-1) := by decide
  have hL0 : (0 : Int32).toInt = 0 := by decide
  refine mcallV' (g := g) (q0 := 0) (ci := 10) (As := [.int 1]) (rest := []) St hK hT hA hP hD hS hl.1 [0] [] rfl rfl rfl (m_readT l g o a th hi ac 0 (-1) tp 0 (-1) iD iO tU fm fk fa fc ft ff fb fi (⟨hiD.1, hiD.2⟩) (⟨hiO.1, hiO.2⟩) (by first | assumption | omega | decide | exact Or.inl (by decide) | exact Or.inr (by decide)) (⟨htp.1, htp.2⟩) (by first | assumption | omega | decide | exact Or.inl (by decide) | exact Or.inr (by decide)) (by first | assumption | omega | decide | exact Or.inl (by decide) | exact Or.inr (by decide)) (by first | assumption | omega | decide | exact Or.inl (by decide) | exact Or.inr (by decide))) (cwV 1 hts (zgL (zl4 k980 k981 k982 k837) k970) rfl rfl rfl (by decide +kernel) ⟨Nat.le_of_ble_eq_true rfl, Nat.le_of_ble_eq_true rfl⟩) rfl rfl rfl rfl (Nat.le_of_ble_eq_true rfl) dX12_law_6 ⟨(Nat.le_of_ble_eq_true rfl), (Nat.le_of_ble_eq_true rfl)⟩ (fun u_ H locs hq6 hP hD hS => ?_)
  obtain ⟨at2_2, fl2_3, tU2_4, q_5⟩ := u_
  replace hq6 : (0 ≤ at2_2.toInt ∧ at2_2.toInt ≤ tp.toInt + 7 - 0) ∧ ((0 : Int32).toInt ≤ at2_2.toInt) ∧ (-1 ≤ fl2_3.toInt) := hq6
  have hP : va_P g.1 vwCl (List.flatten [bMo g o a th hi ac 0 (-1) tp at2_2 fl2_3 0 iD iO tU2_4 fm fk fa fc ft ff fb fi]) H := hP
  have hD : va_D A (List.flatten [bMo g o a th hi ac 0 (-1) tp at2_2 fl2_3 0 iD iO tU2_4 fm fk fa fc ft ff fb fi]) := hD
  refine W.widen (k := 0) (n := 0) (Nat.le_of_ble_eq_true rfl) (Nat.le_of_ble_eq_true rfl) ?_
  refine W.eq (g2 := F0 m 9 ls [.int q_5]) rfl ?_
  obtain ⟨hq6_0, hq6_1, hq6_2⟩ := hq6
  refine lv_istore_n (lv' := [(1, .int q_5), (0, .ref o)]) hx hb dX12_law_9 rfl hl (by decide) rfl (fun ls hl => ?_)
  refine lv_aload_n hx hb dX12_law_10 rfl (lv_at hl 1 rfl) ?_
  refine lv_aload_n hx hb dX12_law_11 rfl (lv_at hl 1 rfl) ?_
  refine va_get (D := g.1) (ci := 10) (v := .int fl2_3) (C := RX12) (T := TX12) (N := 20) hx hb hts izRX12 hown hK hP 0 rfl rfl 12 (by decide) (hts _ k820) (fun _ h9 => h9) rfl dX12_law_12 ?_
  refine lv_iconst (v := (-1)) hx hb dX12_law_15 (by decide) ?_
  refine lv_icmp_eq (tgt := 23) hx hb dX12_law_16 (by decide) (fun cb9 => ?_) (fun cb9 => ?_)
  · skip
    have c7 : fl2_3.toInt = (-1) := zeq cb9 rfl (by decide)
    have n8 : fl2_3.toInt ≤ (-1) := Int.le_trans (Int.le_of_eq c7) (Int.le_refl _)
    refine lv_iconst (v := 0) hx hb dX12_law_23 (by decide) ?_
    refine va_put (D := g.1) (ci := 10) (v := .int 0) (ty := .int) (C := RX12) (T := TX12) (N := 20) hx hb hts izRX12 tyX12 tyX12_ok nmX12 hown hK hP hD hS 0 rfl rfl 0 (by decide) (hts _ k871) (fun _ h9 => h9) rfl (by decide +kernel) rfl rfl (Nat.le_of_ble_eq_true rfl) dX12_law_24 (fun H locs hP hD hS => ?_)
    have hP : va_P g.1 vwCl (List.flatten [bMo g o a 0 hi ac 0 (-1) tp at2_2 fl2_3 0 iD iO tU2_4 fm fk fa fc ft ff fb fi]) H := hP
    have hD : va_D A (List.flatten [bMo g o a 0 hi ac 0 (-1) tp at2_2 fl2_3 0 iD iO tU2_4 fm fk fa fc ft ff fb fi]) := hD
    refine lv_aload_n hx hb dX12_law_27 rfl (lv_at hl 1 rfl) ?_
    refine va_get (D := g.1) (ci := 10) (v := .int 0) (C := RX12) (T := TX12) (N := 20) hx hb hts izRX12 hown hK hP 0 rfl rfl 0 (by decide) (hts _ k871) (fun _ h9 => h9) rfl dX12_law_28 ?_
    refine lv_if_le (tgt := 36) hx hb dX12_law_31 (by decide) (fun _ => ?_) (fun c9 => absurd (by decide) c9)
    refine lv_aload_n hx hb dX12_law_36 rfl (lv_at hl 1 rfl) ?_
    refine va_get (D := g.1) (ci := 10) (v := .ref (a 0)) (C := RX12) (T := TX12) (N := 20) hx hb hts izRX12 hown hK hP 0 rfl rfl 1 (by decide) (hts _ k815) (fun _ h9 => h9) rfl dX12_law_37 ?_
    refine lv_iconst (v := 1) hx hb dX12_law_40 (by decide) ?_
    refine lv_iload_n hx hb dX12_law_41 rfl (lv_at hl 0 rfl) ?_
    refine va_iast hx hb hK hP hD hS 1 0 rfl rfl (zin rfl) dX12_law_42 (fun H locs hP hD hS => ?_)
    obtain ⟨fm_10, rfm_10, hP, hD⟩ : ∃ fm_10 : Nat → Int32, rM fm_10 ∧ va_P g.1 vwCl (List.flatten [bMo g o a 0 hi ac 0 (-1) tp at2_2 fl2_3 0 iD iO tU2_4 fm_10 fk fa fc ft ff fb fi]) H ∧ va_D A (List.flatten [bMo g o a 0 hi ac 0 (-1) tp at2_2 fl2_3 0 iD iO tU2_4 fm_10 fk fa fc ft ff fb fi]) := ⟨upd fm 1 q_5, (rM_stL rfm (by decide)), hP, hD⟩
    refine lv_aload_n hx hb dX12_law_43 rfl (lv_at hl 1 rfl) ?_
    refine va_get (D := g.1) (ci := 10) (v := .ref (a 0)) (C := RX12) (T := TX12) (N := 20) hx hb hts izRX12 hown hK hP 0 rfl rfl 1 (by decide) (hts _ k815) (fun _ h9 => h9) rfl dX12_law_44 ?_
    refine lv_iconst (v := 2) hx hb dX12_law_47 (by decide) ?_
    refine lv_aload_n hx hb dX12_law_48 rfl (lv_at hl 1 rfl) ?_
    refine va_get (D := g.1) (ci := 10) (v := .int tp) (C := RX12) (T := TX12) (N := 20) hx hb hts izRX12 hown hK hP 0 rfl rfl 10 (by decide) (hts _ k878) (fun _ h9 => h9) rfl dX12_law_49 ?_
    refine va_iast hx hb hK hP hD hS 1 0 rfl rfl (zin rfl) dX12_law_52 (fun H locs hP hD hS => ?_)
    obtain ⟨fm_11, rfm_11, hP, hD⟩ : ∃ fm_11 : Nat → Int32, rM fm_11 ∧ va_P g.1 vwCl (List.flatten [bMo g o a 0 hi ac 0 (-1) tp at2_2 fl2_3 0 iD iO tU2_4 fm_11 fk fa fc ft ff fb fi]) H ∧ va_D A (List.flatten [bMo g o a 0 hi ac 0 (-1) tp at2_2 fl2_3 0 iD iO tU2_4 fm_11 fk fa fc ft ff fb fi]) := ⟨upd fm_10 2 tp, (rM_s2 rfm_10 (show 0 ≤ tp.toInt ∧ tp.toInt ≤ 400 from ⟨htp.1, htp.2⟩)), hP, hD⟩
    refine lv_iconst (v := 0) hx hb dX12_law_53 (by decide) ?_
    refine lv_istore_n (lv' := [(2, .int 0), (1, .int q_5), (0, .ref o)]) hx hb dX12_law_54 rfl hl (by decide) rfl (fun ls hl => ?_)
    have hl := lv_sub (l' := [(0, .ref o), (1, .int q_5), (2, .int 0)]) hl [2, 1, 0] rfl
    have LP55_15 : ∀ (kf : Nat) (x_12 : Int32) (fm_13 : Nat → Int32), (0 ≤ x_12.toInt ∧ x_12.toInt ≤ 400) → (rM fm_13) → ∀ (H : Heap) (locs : List Loc) (ls : Array Slot), ((401 - x_12.toInt).toNat) < kf → va_P g.1 vwCl (List.flatten [bMo g o a 0 hi ac 0 (-1) tp at2_2 fl2_3 0 iD iO tU2_4 fm_13 fk fa fc ft ff fb fi]) H → va_D A (List.flatten [bMo g o a 0 hi ac 0 (-1) tp at2_2 fl2_3 0 iD iO tU2_4 fm_13 fk fa fc ft ff fb fi]) → va_S A s.heap H locs → lv_has ls 3 [(0, .ref o), (1, .int q_5), (2, .int x_12)] → W p l e ({ frames := 31, cells := 0, slots := 0, locals := 688 } : Room) s m args below meth c H locs (0) (0) (zF g (fun u : Int32 × Int32 × Int32 × Int32 × (Nat → Int32) × Int32 × Int32 => (fun (th2 : Int32) (at2 : Int32) (fl2 : Int32) (tU2 : Int32) (fm2 : Nat → Int32) (ac2 : Int32) (q : Int32) => some (.int q)) (u.1) (u.2.1) (u.2.2.1) (u.2.2.2.1) (u.2.2.2.2.1) (u.2.2.2.2.2.1) (u.2.2.2.2.2.2)) (fun u : Int32 × Int32 × Int32 × Int32 × (Nat → Int32) × Int32 × Int32 => (fun (th2 : Int32) (at2 : Int32) (fl2 : Int32) (tU2 : Int32) (fm2 : Nat → Int32) (ac2 : Int32) (q : Int32) => (0 ≤ ac2.toInt ∧ ac2.toInt ≤ 12) ∧ (rM fm2)) (u.1) (u.2.1) (u.2.2.1) (u.2.2.2.1) (u.2.2.2.2.1) (u.2.2.2.2.2.1) (u.2.2.2.2.2.2)) (fun u : Int32 × Int32 × Int32 × Int32 × (Nat → Int32) × Int32 × Int32 => (fun (th2 : Int32) (at2 : Int32) (fl2 : Int32) (tU2 : Int32) (fm2 : Nat → Int32) (ac2 : Int32) (q : Int32) => [bMo g o a th2 hi ac2 0 (-1) tp at2 fl2 0 iD iO tU2 fm2 fk fa fc ft ff fb fi]) (u.1) (u.2.1) (u.2.2.1) (u.2.2.2.1) (u.2.2.2.2.1) (u.2.2.2.2.2.1) (u.2.2.2.2.2.2)) ({ frames := 31, cells := 0, slots := 0, locals := 688 } : Room) below args s A) (F0 m 55 ls []) := by
      intro kf
      induction kf with
      | zero => intro x_12 fm_13 i14 rfm_13 H locs ls hk; exact absurd hk (Nat.not_lt_zero _)
      | succ kf ih55_16 =>
        intro x_12 fm_13 i14 rfm_13 H locs ls hk55_16 hP hD hS hl
        refine lv_iload_n hx hb dX12_law_55 rfl (lv_at hl 2 rfl) ?_
        refine lv_aload_n hx hb dX12_law_56 rfl (lv_at hl 0 rfl) ?_
        refine va_get (D := g.1) (ci := 10) (v := .int tp) (C := RX12) (T := TX12) (N := 20) hx hb hts izRX12 hown hK hP 0 rfl rfl 10 (by decide) (hts _ k878) (fun _ h9 => h9) rfl dX12_law_57 ?_
        refine lv_icmp_ge (tgt := 85) hx hb dX12_law_60 (by decide) (fun cb9 => ?_) (fun cb9 => ?_)
        · skip
          have c17 : tp.toInt ≤ x_12.toInt := zle cb9 rfl rfl
          refine lv_aload_n hx hb dX12_law_85 rfl (lv_at hl 0 rfl) ?_
          refine lv_iconst (v := 0) hx hb dX12_law_86 (by decide) ?_
          refine va_put (D := g.1) (ci := 10) (v := .int 0) (ty := .int) (C := RX12) (T := TX12) (N := 20) hx hb hts izRX12 tyX12 tyX12_ok nmX12 hown hK hP hD hS 0 rfl rfl 6 (by decide) (hts _ k973) (fun _ h9 => h9) rfl (by decide +kernel) rfl rfl (Nat.le_of_ble_eq_true rfl) dX12_law_87 (fun H locs hP hD hS => ?_)
          have hP : va_P g.1 vwCl (List.flatten [bMo g o a 0 hi 0 0 (-1) tp at2_2 fl2_3 0 iD iO tU2_4 fm_13 fk fa fc ft ff fb fi]) H := hP
          have hD : va_D A (List.flatten [bMo g o a 0 hi 0 0 (-1) tp at2_2 fl2_3 0 iD iO tU2_4 fm_13 fk fa fc ft ff fb fi]) := hD
          refine lv_iload_n hx hb dX12_law_90 rfl (lv_at hl 1 rfl) ?_
          have hP : va_P g.1 vwCl (List.flatten [bMo g o a 0 hi 0 0 (-1) tp at2_2 fl2_3 0 iD iO tU2_4 fm_13 fk fa fc ft ff fb fi]) H := hP
          have hD : va_D A (List.flatten [bMo g o a 0 hi 0 0 (-1) tp at2_2 fl2_3 0 iD iO tU2_4 fm_13 fk fa fc ft ff fb fi]) := hD
          exact mret_i hx hb hr hlocks hS (Nat.le_of_ble_eq_true rfl) (Nat.le_of_ble_eq_true rfl) dX12_law_91 ((0 : Int32), at2_2, fl2_3, tU2_4, fm_13, (0 : Int32), q_5) rfl (show (0 ≤ (0 : Int32).toInt ∧ (0 : Int32).toInt ≤ 12) ∧ (rM fm_13) from ⟨(by first | assumption | omega | decide | exact rfl | exact zb01 (by omega) | exact Or.inl (by decide) | exact Or.inr (by first | omega | decide)), (by first | assumption | omega | decide | exact rfl | exact zb01 (by omega) | exact Or.inl (by decide) | exact Or.inr (by first | omega | decide))⟩) hP hD
        · skip
          have c18 : x_12.toInt < tp.toInt := zlti (Int32.not_le.mp cb9) rfl rfl
          have n19 : x_12.toInt ≤ 399 := zL1 (b := 400) c18 htp.2 (by decide)
          have n20 : 1 ≤ tp.toInt := zL2 (a := 0) c18 i14.1 (by decide)
          refine lv_aload_n hx hb dX12_law_63 rfl (lv_at hl 0 rfl) ?_
          refine va_get (D := g.1) (ci := 10) (v := .ref (a 0)) (C := RX12) (T := TX12) (N := 20) hx hb hts izRX12 hown hK hP 0 rfl rfl 1 (by decide) (hts _ k815) (fun _ h9 => h9) rfl dX12_law_64 ?_
          refine lv_sipush (v := 379) hx hb dX12_law_67 (by decide) ?_
          refine lv_iload_n hx hb dX12_law_70 rfl (lv_at hl 2 rfl) ?_
          refine lv_iadd hx hb dX12_law_71 ?_
          refine zg3 (zaddK (i := 379) (j := x_12.toInt) (a' := 379) (b' := 778) (by decide) rfl (Int.le_refl _) (Int.le_refl _) i14.1 n19 (by decide)) (fun x_21 hx_21 => ?_)
          refine lv_aload_n hx hb dX12_law_72 rfl (lv_at hl 0 rfl) ?_
          refine va_get (D := g.1) (ci := 10) (v := .ref (a 4)) (C := RX12) (T := TX12) (N := 20) hx hb hts izRX12 hown hK hP 0 rfl rfl 7 (by decide) (hts _ k819) (fun _ h9 => h9) rfl dX12_law_73 ?_
          refine lv_iload_n hx hb dX12_law_76 rfl (lv_at hl 2 rfl) ?_
          refine va_iald hx hb hK hP 5 0 rfl rfl (zinK (a := 0) (b := 399) i14.1 n19 (by decide)) dX12_law_77 ?_
          refine zg (fun x_22 => ?_)
          refine va_iast hx hb hK hP hD hS 1 0 rfl rfl (zinK (a := 379) (b := 778) hx_21.2.1 hx_21.2.2 (by decide)) dX12_law_78 (fun H locs hP hD hS => ?_)
          obtain ⟨fm_23, rfm_23, hkfm_23, hP, hD⟩ : ∃ fm_23 : Nat → Int32, rM fm_23 ∧ ((fm_23 3).toInt = (fm_13 3).toInt ∧ (fm_23 4).toInt = (fm_13 4).toInt) ∧ va_P g.1 vwCl (List.flatten [bMo g o a 0 hi ac 0 (-1) tp at2_2 fl2_3 0 iD iO tU2_4 fm_23 fk fa fc ft ff fb fi]) H ∧ va_D A (List.flatten [bMo g o a 0 hi ac 0 (-1) tp at2_2 fl2_3 0 iD iO tU2_4 fm_23 fk fa fc ft ff fb fi]) := ⟨upd fm_13 x_21.toNatClampNeg x_22, (rM_stB rfm_13 (Int.le_trans (by decide) hx_21.2.1)), (rM_kp (j := x_21.toInt) rfl (Int.le_trans (by decide) hx_21.2.1)), hP, hD⟩
          refine ziinc3 (n' := 1) (a' := 1) (b' := 400) (lv' := fun v9 => [(2, .int v9), (0, .ref o), (1, .int q_5)]) hx hb dX12_law_79 hl (k := 2) rfl (by decide) (fun _ => rfl) (zaddK (i := x_12.toInt) (j := 1) rfl (by decide) i14.1 n19 (Int.le_refl _) (Int.le_refl _) (by decide)) (fun x_24 ls hx_24 hl => ?_)
          refine lv_goto (tgt := 55) hx hb dX12_law_82 (by decide) ?_
          have hl := lv_sub (l' := [(0, .ref o), (1, .int q_5), (2, .int x_24)]) hl [1, 2, 0] rfl
          have hP : va_P g.1 vwCl (List.flatten [bMo g o a 0 hi ac 0 (-1) tp at2_2 fl2_3 0 iD iO tU2_4 fm_23 fk fa fc ft ff fb fi]) H := hP
          have hD : va_D A (List.flatten [bMo g o a 0 hi ac 0 (-1) tp at2_2 fl2_3 0 iD iO tU2_4 fm_23 fk fa fc ft ff fb fi]) := hD
          exact ih55_16 x_24 fm_23 ⟨(Int.le_trans (by decide) hx_24.2.1), hx_24.2.2⟩ rfm_23 H _ ls (zmK hx_24.1 (by decide) n19 (by decide) hk55_16)  hP hD hS (lv_sub hl [0, 1, 2] rfl)
    have hP : va_P g.1 vwCl (List.flatten [bMo g o a 0 hi ac 0 (-1) tp at2_2 fl2_3 0 iD iO tU2_4 fm_11 fk fa fc ft ff fb fi]) H := hP
    have hD : va_D A (List.flatten [bMo g o a 0 hi ac 0 (-1) tp at2_2 fl2_3 0 iD iO tU2_4 fm_11 fk fa fc ft ff fb fi]) := hD
    exact LP55_15 _ 0 fm_11 (by decide) rfm_11 H _ ls (Nat.lt_succ_self _)  hP hD hS (lv_sub hl [0, 1, 2] rfl)
  · skip
    have c25 : ¬ fl2_3.toInt = (-1) := zne cb9 rfl (by decide)
    refine lv_iconst (v := 1) hx hb dX12_law_19 (by decide) ?_
    refine lv_goto (tgt := 24) hx hb dX12_law_20 (by decide) ?_
    refine va_put (D := g.1) (ci := 10) (v := .int 1) (ty := .int) (C := RX12) (T := TX12) (N := 20) hx hb hts izRX12 tyX12 tyX12_ok nmX12 hown hK hP hD hS 0 rfl rfl 0 (by decide) (hts _ k871) (fun _ h9 => h9) rfl (by decide +kernel) rfl rfl (Nat.le_of_ble_eq_true rfl) dX12_law_24 (fun H locs hP hD hS => ?_)
    have hP : va_P g.1 vwCl (List.flatten [bMo g o a 1 hi ac 0 (-1) tp at2_2 fl2_3 0 iD iO tU2_4 fm fk fa fc ft ff fb fi]) H := hP
    have hD : va_D A (List.flatten [bMo g o a 1 hi ac 0 (-1) tp at2_2 fl2_3 0 iD iO tU2_4 fm fk fa fc ft ff fb fi]) := hD
    refine lv_aload_n hx hb dX12_law_27 rfl (lv_at hl 1 rfl) ?_
    refine va_get (D := g.1) (ci := 10) (v := .int 1) (C := RX12) (T := TX12) (N := 20) hx hb hts izRX12 hown hK hP 0 rfl rfl 0 (by decide) (hts _ k871) (fun _ h9 => h9) rfl dX12_law_28 ?_
    refine lv_if_le (tgt := 36) hx hb dX12_law_31 (by decide) (fun c26 => absurd c26 (by decide)) (fun _ => ?_)
    refine lv_iconst (v := 0) hx hb dX12_law_34 (by decide) ?_
    have hP : va_P g.1 vwCl (List.flatten [bMo g o a 1 hi ac 0 (-1) tp at2_2 fl2_3 0 iD iO tU2_4 fm fk fa fc ft ff fb fi]) H := hP
    have hD : va_D A (List.flatten [bMo g o a 1 hi ac 0 (-1) tp at2_2 fl2_3 0 iD iO tU2_4 fm fk fa fc ft ff fb fi]) := hD
    exact mret_i hx hb hr hlocks hS (Nat.le_of_ble_eq_true rfl) (Nat.le_of_ble_eq_true rfl) dX12_law_35 ((1 : Int32), at2_2, fl2_3, tU2_4, fm, ac, (0 : Int32)) rfl (show (0 ≤ ac.toInt ∧ ac.toInt ≤ 12) ∧ (rM fm) from ⟨(by first | assumption | omega | decide | exact rfl | exact zb01 (by omega) | exact Or.inl (by decide) | exact Or.inr (by first | omega | decide)), (by first | assumption | omega | decide | exact rfl | exact zb01 (by omega) | exact Or.inl (by decide) | exact Or.inr (by first | omega | decide))⟩) hP hD
