set_option maxRecDepth 100000 in
set_option maxHeartbeats 4000000 in
theorem m_dry (l : Launch) (g : zG) (o : Nat) (a : Nat → Nat) (th : Int32) (hi : Int32) (ac : Int32) (tp : Int32) (ba : Int32) (en : Int32) (tA : Int32) (fl : Int32) (de : Int32) (iD : Int32) (iO : Int32) (tU : Int32) (fm : Nat → Int32) (fk : Nat → Int32) (fa : Nat → Int32) (fc : Nat → Int32) (ft : Nat → Int32) (ff : Nat → Int32) (fb : Nat → Int32) (fi : Nat → Int32) (x : Int32) (is : Int32) (rfm : rM fm) (rfc : rC fc) (hac : 0 ≤ ac.toInt ∧ ac.toInt ≤ 12) : zM' g l yX12_dry (Cond.code yX12_dry cX12_dry 4 (some .boolean) :: zB) ({ frames := 2, cells := 0, slots := 0, locals := 43 } : Room) [.ref o, .int x, .int is] [bMo g o a th hi ac tp ba en tA fl de iD iO tU fm fk fa fc ft ff fb fi] (fun u : Int32 × Int32 × (Nat → Int32) × (Nat → Int32) × Int32 => (fun (th2 : Int32) (ac2 : Int32) (fc2 : Nat → Int32) (fm2 : Nat → Int32) (q : Int32) => some (.int q)) (u.1) (u.2.1) (u.2.2.1) (u.2.2.2.1) (u.2.2.2.2)) (fun u : Int32 × Int32 × (Nat → Int32) × (Nat → Int32) × Int32 => (fun (th2 : Int32) (ac2 : Int32) (fc2 : Nat → Int32) (fm2 : Nat → Int32) (q : Int32) => (rM fm2) ∧ (rC fc2) ∧ (0 ≤ ac2.toInt ∧ ac2.toInt ≤ 12) ∧ (q = 0 ∨ q = 1)) (u.1) (u.2.1) (u.2.2.1) (u.2.2.2.1) (u.2.2.2.2)) (fun u : Int32 × Int32 × (Nat → Int32) × (Nat → Int32) × Int32 => (fun (th2 : Int32) (ac2 : Int32) (fc2 : Nat → Int32) (fm2 : Nat → Int32) (q : Int32) => [bMo g o a th2 hi ac2 tp ba en tA fl de iD iO tU fm2 fk fa fc2 ft ff fb fi]) (u.1) (u.2.1) (u.2.2.1) (u.2.2.2.1) (u.2.2.2.2)) := by
  refine zM'.of (cc := cX12_dry) (maxL := 4) (rt := (some .boolean)) (by decide) rfl (Nat.le_of_ble_eq_true rfl) ?_
  intro p e s m args below meth c A ls St hr hlocks hin hK hT hA hP hD hS hl
  obtain ⟨hx, hb, hml, hown, hts⟩ := id St
  have hl : lv_has ls 4 [(0, .ref o), (1, .int x), (2, .int is)] := hl
  refine lv_aload_n hx hb dX12_dry_0 rfl (lv_at hl 0 rfl) ?_
  refine lv_aload_n hx hb dX12_dry_1 rfl (lv_at hl 0 rfl) ?_
  refine lv_iload_n hx hb dX12_dry_2 rfl (lv_at hl 1 rfl) ?_
  refine mcallV' (g := g) (q0 := 0) (ci := 10) (As := [.int x]) (rest := [.ref o]) St hK hT hA hP hD hS hl.1 [0] [] rfl rfl rfl (m_isPerson l g o a th hi ac tp ba en tA fl de iD iO tU fm fk fa fc ft ff fb fi x (by first | assumption | omega | decide | exact Or.inl (by decide) | exact Or.inr (by decide))) (cwV 1 hts (zgL (zl4 k1032 k1033 k1034 k837) k834) rfl rfl rfl (by decide +kernel) ⟨Nat.le_of_ble_eq_true rfl, Nat.le_of_ble_eq_true rfl⟩) rfl rfl rfl rfl (Nat.le_of_ble_eq_true rfl) dX12_dry_3 ⟨(Nat.le_of_ble_eq_true rfl), (Nat.le_of_ble_eq_true rfl)⟩ (fun q_1 H locs hq2 hP hD hS => ?_)
  replace hq2 : (q_1 = 1 ∧ 0 ≤ x.toInt ∧ x.toInt ≤ 7 ∧ x.toInt < (fm 3).toInt ∨ q_1 = 0) := hq2
  have hP : va_P g.1 vwCl (List.flatten [bMo g o a th hi ac tp ba en tA fl de iD iO tU fm fk fa fc ft ff fb fi]) H := hP
  have hD : va_D A (List.flatten [bMo g o a th hi ac tp ba en tA fl de iD iO tU fm fk fa fc ft ff fb fi]) := hD
  refine W.widen (k := 0) (n := 0) (Nat.le_of_ble_eq_true rfl) (Nat.le_of_ble_eq_true rfl) ?_
  refine W.eq (g2 := F0 m 6 ls [.int q_1, .ref o]) rfl ?_
  rcases hq2 with ⟨rfl, hq2_k⟩ | rfl
  · skip
    refine lv_if_ne (tgt := 13) hx hb dX12_dry_6 (by decide) (fun _ => ?_) (fun c3 => absurd c3 (by decide))
    refine lv_iconst (v := 0) hx hb dX12_dry_13 (by decide) ?_
    refine va_put (D := g.1) (ci := 10) (v := .int 0) (ty := .int) (C := RX12) (T := TX12) (N := 20) hx hb hts izRX12 tyX12 tyX12_ok nmX12 hown hK hP hD hS 0 rfl rfl 0 (by decide) (hts _ k871) (fun _ h9 => h9) rfl (by decide +kernel) rfl rfl (Nat.le_of_ble_eq_true rfl) dX12_dry_14 (fun H locs hP hD hS => ?_)
    have hP : va_P g.1 vwCl (List.flatten [bMo g o a 0 hi ac tp ba en tA fl de iD iO tU fm fk fa fc ft ff fb fi]) H := hP
    have hD : va_D A (List.flatten [bMo g o a 0 hi ac tp ba en tA fl de iD iO tU fm fk fa fc ft ff fb fi]) := hD
    refine lv_aload_n hx hb dX12_dry_17 rfl (lv_at hl 0 rfl) ?_
    refine va_get (D := g.1) (ci := 10) (v := .int 0) (C := RX12) (T := TX12) (N := 20) hx hb hts izRX12 hown hK hP 0 rfl rfl 0 (by decide) (hts _ k871) (fun _ h9 => h9) rfl dX12_dry_18 ?_
    refine lv_if_le (tgt := 26) hx hb dX12_dry_21 (by decide) (fun _ => ?_) (fun c4 => absurd (by decide) c4)
    refine lv_aload_n hx hb dX12_dry_26 rfl (lv_at hl 0 rfl) ?_
    refine mcallV' (g := g) (q0 := 0) (ci := 10) (As := []) (rest := []) St hK hT hA hP hD hS hl.1 [0] [] rfl rfl rfl (m_remembers l g o a 0 hi ac tp ba en tA fl de iD iO tU fm fk fa fc ft ff fb fi (by first | assumption | omega | decide | exact Or.inl (by decide) | exact Or.inr (by decide)) (by first | assumption | omega | decide | exact Or.inl (by decide) | exact Or.inr (by decide)) (⟨hac.1, hac.2⟩)) (cwV 0 hts (zgL (zl4 k1046 k1047 k1048 k837) k1045) rfl rfl rfl (by decide +kernel) ⟨Nat.le_of_ble_eq_true rfl, Nat.le_of_ble_eq_true rfl⟩) rfl rfl rfl rfl (Nat.le_of_ble_eq_true rfl) dX12_dry_27 ⟨(Nat.le_of_ble_eq_true rfl), (Nat.le_of_ble_eq_true rfl)⟩ (fun u_ H locs hq7 hP hD hS => ?_)
    obtain ⟨ac2_5, fc2_6⟩ := u_
    replace hq7 : (rC fc2_6) ∧ (0 ≤ ac2_5.toInt ∧ ac2_5.toInt ≤ 12) := hq7
    have hP : va_P g.1 vwCl (List.flatten [bMo g o a 0 hi ac2_5 tp ba en tA fl de iD iO tU fm fk fa fc2_6 ft ff fb fi]) H := hP
    have hD : va_D A (List.flatten [bMo g o a 0 hi ac2_5 tp ba en tA fl de iD iO tU fm fk fa fc2_6 ft ff fb fi]) := hD
    refine W.widen (k := 0) (n := 0) (Nat.le_of_ble_eq_true rfl) (Nat.le_of_ble_eq_true rfl) ?_
    refine W.eq (g2 := F0 m 30 ls []) rfl ?_
    obtain ⟨rfc2_6, hq7_1⟩ := hq7
    refine lv_aload_n hx hb dX12_dry_30 rfl (lv_at hl 0 rfl) ?_
    refine lv_iload_n hx hb dX12_dry_31 rfl (lv_at hl 1 rfl) ?_
    refine lv_iconst (v := 3) hx hb dX12_dry_32 (by decide) ?_
    have hL3 : (3 : Int32).toInt = 3 := by decide
    refine mcallV' (g := g) (q0 := 0) (ci := 10) (As := [.int x, .int 3]) (rest := []) St hK hT hA hP hD hS hl.1 [0] [] rfl rfl rfl (m_of l g o a 0 hi ac2_5 tp ba en tA fl de iD iO tU fm fk fa fc2_6 ft ff fb fi x 3 (by first | assumption | omega | decide | exact Or.inl (by decide) | exact Or.inr (by decide)) (by decide)) (cwV 2 hts (zgL (zl4 k840 k841 k842 k837) k829) rfl rfl rfl (by decide +kernel) ⟨Nat.le_of_ble_eq_true rfl, Nat.le_of_ble_eq_true rfl⟩) rfl rfl rfl rfl (Nat.le_of_ble_eq_true rfl) dX12_dry_33 ⟨(Nat.le_of_ble_eq_true rfl), (Nat.le_of_ble_eq_true rfl)⟩ (fun q_8 H locs hq9 hP hD hS => ?_)
    have hP : va_P g.1 vwCl (List.flatten [bMo g o a 0 hi ac2_5 tp ba en tA fl de iD iO tU fm fk fa fc2_6 ft ff fb fi]) H := hP
    have hD : va_D A (List.flatten [bMo g o a 0 hi ac2_5 tp ba en tA fl de iD iO tU fm fk fa fc2_6 ft ff fb fi]) := hD
    refine W.widen (k := 0) (n := 0) (Nat.le_of_ble_eq_true rfl) (Nat.le_of_ble_eq_true rfl) ?_
    refine W.eq (g2 := F0 m 36 ls [.int q_8]) rfl ?_
    refine lv_iconst (v := 1) hx hb dX12_dry_36 (by decide) ?_
    refine lv_icmp_ne (tgt := 44) hx hb dX12_dry_37 (by decide) (fun cb9 => ?_) (fun cb9 => ?_)
    · skip
      have c10 : ¬ q_8.toInt = 1 := zne cb9 rfl (by decide)
      refine lv_iconst (v := 0) hx hb dX12_dry_44 (by decide) ?_
      refine lv_istore_n (lv' := [(3, .int 0), (0, .ref o), (1, .int x), (2, .int is)]) hx hb dX12_dry_45 rfl hl (by decide) rfl (fun ls hl => ?_)
      refine lv_aload_n hx hb dX12_dry_46 rfl (lv_at hl 1 rfl) ?_
      refine lv_iload_n hx hb dX12_dry_47 rfl (lv_at hl 2 rfl) ?_
      refine lv_iconst (v := 3) hx hb dX12_dry_48 (by decide) ?_
      refine lv_iload_n hx hb dX12_dry_49 rfl (lv_at hl 3 rfl) ?_
      refine lv_if_eq (tgt := 57) hx hb dX12_dry_50 (by decide) (fun cb9 => ?_) (fun cb9 => ?_)
      · skip
        have c11 : is.toInt = 0 := zeq cb9 rfl (by decide)
        have n12 : 0 ≤ is.toInt := Int.le_trans (Int.le_refl _) (Int.le_of_eq c11.symm)
        have n13 : is.toInt ≤ 0 := Int.le_trans (Int.le_of_eq c11) (Int.le_refl _)
        refine lv_iconst (v := 0) hx hb dX12_dry_57 (by decide) ?_
        refine mcallV' (g := g) (q0 := 0) (ci := 10) (As := [.int x, .int 3, .int 0]) (rest := []) St hK hT hA hP hD hS hl.1 [0] [] rfl rfl rfl (m_put l g o a 0 hi ac2_5 tp ba en tA fl de iD iO tU fm fk fa fc2_6 ft ff fb fi x 3 0 (by first | assumption | omega | decide | exact Or.inl (by decide) | exact Or.inr (by decide)) (by first | assumption | omega | decide | exact Or.inl (by decide) | exact Or.inr (by decide)) (by decide)) (cwV 3 hts (zgL (zl4 k908 k909 k910 k837) k830) rfl rfl rfl (by decide +kernel) ⟨Nat.le_of_ble_eq_true rfl, Nat.le_of_ble_eq_true rfl⟩) rfl rfl rfl rfl (Nat.le_of_ble_eq_true rfl) dX12_dry_58 ⟨(Nat.le_of_ble_eq_true rfl), (Nat.le_of_ble_eq_true rfl)⟩ (fun fm2_14 H locs hq15 hP hD hS => ?_)
        replace hq15 : (rM fm2_14) ∧ ((fm2_14 3).toInt = (fm 3).toInt ∧ (fm2_14 4).toInt = (fm 4).toInt) := hq15
        have hP : va_P g.1 vwCl (List.flatten [bMo g o a 0 hi ac2_5 tp ba en tA fl de iD iO tU fm2_14 fk fa fc2_6 ft ff fb fi]) H := hP
        have hD : va_D A (List.flatten [bMo g o a 0 hi ac2_5 tp ba en tA fl de iD iO tU fm2_14 fk fa fc2_6 ft ff fb fi]) := hD
        refine W.widen (k := 0) (n := 0) (Nat.le_of_ble_eq_true rfl) (Nat.le_of_ble_eq_true rfl) ?_
        refine W.eq (g2 := F0 m 61 ls []) rfl ?_
        obtain ⟨rfm2_14, hq15_1⟩ := hq15
        refine lv_iload_n hx hb dX12_dry_61 rfl (lv_at hl 0 rfl) ?_
        refine lv_iload_n hx hb dX12_dry_62 rfl (lv_at hl 3 rfl) ?_
        refine lv_icmp_eq (tgt := 70) hx hb dX12_dry_63 (by decide) (fun cb9 => ?_) (fun cb9 => ?_)
        · skip
          have c16 : 0 = is.toInt := zeq cb9 (by decide) rfl
          refine lv_iconst (v := 0) hx hb dX12_dry_70 (by decide) ?_
          have hP : va_P g.1 vwCl (List.flatten [bMo g o a 0 hi ac2_5 tp ba en tA fl de iD iO tU fm2_14 fk fa fc2_6 ft ff fb fi]) H := hP
          have hD : va_D A (List.flatten [bMo g o a 0 hi ac2_5 tp ba en tA fl de iD iO tU fm2_14 fk fa fc2_6 ft ff fb fi]) := hD
          exact mret_z hx hb hr hlocks hS (Nat.le_of_ble_eq_true rfl) (Nat.le_of_ble_eq_true rfl) dX12_dry_71 ((0 : Int32), ac2_5, fc2_6, fm2_14, (0 : Int32)) rfl (by decide) (show (rM fm2_14) ∧ (rC fc2_6) ∧ (0 ≤ ac2_5.toInt ∧ ac2_5.toInt ≤ 12) ∧ (0 = 0 ∨ 0 = 1) from ⟨(by first | assumption | omega | decide | exact rfl | exact zb01 (by omega) | exact Or.inl (by decide) | exact Or.inr (by first | omega | decide)), (by first | assumption | omega | decide | exact rfl | exact zb01 (by omega) | exact Or.inl (by decide) | exact Or.inr (by first | omega | decide)), (by first | assumption | omega | decide | exact rfl | exact zb01 (by omega) | exact Or.inl (by decide) | exact Or.inr (by first | omega | decide)), (by first | assumption | omega | decide | exact rfl | exact zb01 (by omega) | exact Or.inl (by decide) | exact Or.inr (by first | omega | decide))⟩) hP hD
        · skip
          exact absurd (show ¬ 0 = is.toInt from zne cb9 (by decide) rfl) (by omega)
      · skip
        have c18 : ¬ is.toInt = 0 := zne cb9 rfl (by decide)
        refine lv_iconst (v := 1) hx hb dX12_dry_53 (by decide) ?_
        refine lv_goto (tgt := 58) hx hb dX12_dry_54 (by decide) ?_
        refine mcallV' (g := g) (q0 := 0) (ci := 10) (As := [.int x, .int 3, .int 1]) (rest := []) St hK hT hA hP hD hS hl.1 [0] [] rfl rfl rfl (m_put l g o a 0 hi ac2_5 tp ba en tA fl de iD iO tU fm fk fa fc2_6 ft ff fb fi x 3 1 (by first | assumption | omega | decide | exact Or.inl (by decide) | exact Or.inr (by decide)) (by first | assumption | omega | decide | exact Or.inl (by decide) | exact Or.inr (by decide)) (by decide)) (cwV 3 hts (zgL (zl4 k908 k909 k910 k837) k830) rfl rfl rfl (by decide +kernel) ⟨Nat.le_of_ble_eq_true rfl, Nat.le_of_ble_eq_true rfl⟩) rfl rfl rfl rfl (Nat.le_of_ble_eq_true rfl) dX12_dry_58 ⟨(Nat.le_of_ble_eq_true rfl), (Nat.le_of_ble_eq_true rfl)⟩ (fun fm2_19 H locs hq20 hP hD hS => ?_)
        replace hq20 : (rM fm2_19) ∧ ((fm2_19 3).toInt = (fm 3).toInt ∧ (fm2_19 4).toInt = (fm 4).toInt) := hq20
        have hP : va_P g.1 vwCl (List.flatten [bMo g o a 0 hi ac2_5 tp ba en tA fl de iD iO tU fm2_19 fk fa fc2_6 ft ff fb fi]) H := hP
        have hD : va_D A (List.flatten [bMo g o a 0 hi ac2_5 tp ba en tA fl de iD iO tU fm2_19 fk fa fc2_6 ft ff fb fi]) := hD
        refine W.widen (k := 0) (n := 0) (Nat.le_of_ble_eq_true rfl) (Nat.le_of_ble_eq_true rfl) ?_
        refine W.eq (g2 := F0 m 61 ls []) rfl ?_
        obtain ⟨rfm2_19, hq20_1⟩ := hq20
        refine lv_iload_n hx hb dX12_dry_61 rfl (lv_at hl 0 rfl) ?_
        refine lv_iload_n hx hb dX12_dry_62 rfl (lv_at hl 3 rfl) ?_
        refine lv_icmp_eq (tgt := 70) hx hb dX12_dry_63 (by decide) (fun cb9 => ?_) (fun cb9 => ?_)
        · skip
          have c21 : 0 = is.toInt := zeq cb9 (by decide) rfl
          have n22 : 0 ≤ is.toInt := Int.le_trans (Int.le_refl _) (Int.le_of_eq c21)
          have n23 : is.toInt ≤ 0 := Int.le_trans (Int.le_of_eq c21.symm) (Int.le_refl _)
          refine lv_iconst (v := 0) hx hb dX12_dry_70 (by decide) ?_
          have hP : va_P g.1 vwCl (List.flatten [bMo g o a 0 hi ac2_5 tp ba en tA fl de iD iO tU fm2_19 fk fa fc2_6 ft ff fb fi]) H := hP
          have hD : va_D A (List.flatten [bMo g o a 0 hi ac2_5 tp ba en tA fl de iD iO tU fm2_19 fk fa fc2_6 ft ff fb fi]) := hD
          exact mret_z hx hb hr hlocks hS (Nat.le_of_ble_eq_true rfl) (Nat.le_of_ble_eq_true rfl) dX12_dry_71 ((0 : Int32), ac2_5, fc2_6, fm2_19, (0 : Int32)) rfl (by decide) (show (rM fm2_19) ∧ (rC fc2_6) ∧ (0 ≤ ac2_5.toInt ∧ ac2_5.toInt ≤ 12) ∧ (0 = 0 ∨ 0 = 1) from ⟨(by first | assumption | omega | decide | exact rfl | exact zb01 (by omega) | exact Or.inl (by decide) | exact Or.inr (by first | omega | decide)), (by first | assumption | omega | decide | exact rfl | exact zb01 (by omega) | exact Or.inl (by decide) | exact Or.inr (by first | omega | decide)), (by first | assumption | omega | decide | exact rfl | exact zb01 (by omega) | exact Or.inl (by decide) | exact Or.inr (by first | omega | decide)), (by first | assumption | omega | decide | exact rfl | exact zb01 (by omega) | exact Or.inl (by decide) | exact Or.inr (by first | omega | decide))⟩) hP hD
        · skip
          have c24 : ¬ 0 = is.toInt := zne cb9 (by decide) rfl
          refine lv_iconst (v := 1) hx hb dX12_dry_66 (by decide) ?_
          refine lv_goto (tgt := 71) hx hb dX12_dry_67 (by decide) ?_
          have hP : va_P g.1 vwCl (List.flatten [bMo g o a 0 hi ac2_5 tp ba en tA fl de iD iO tU fm2_19 fk fa fc2_6 ft ff fb fi]) H := hP
          have hD : va_D A (List.flatten [bMo g o a 0 hi ac2_5 tp ba en tA fl de iD iO tU fm2_19 fk fa fc2_6 ft ff fb fi]) := hD
          exact mret_z hx hb hr hlocks hS (Nat.le_of_ble_eq_true rfl) (Nat.le_of_ble_eq_true rfl) dX12_dry_71 ((0 : Int32), ac2_5, fc2_6, fm2_19, (1 : Int32)) rfl (by decide) (show (rM fm2_19) ∧ (rC fc2_6) ∧ (0 ≤ ac2_5.toInt ∧ ac2_5.toInt ≤ 12) ∧ (1 = 0 ∨ 1 = 1) from ⟨(by first | assumption | omega | decide | exact rfl | exact zb01 (by omega) | exact Or.inl (by decide) | exact Or.inr (by first | omega | decide)), (by first | assumption | omega | decide | exact rfl | exact zb01 (by omega) | exact Or.inl (by decide) | exact Or.inr (by first | omega | decide)), (by first | assumption | omega | decide | exact rfl | exact zb01 (by omega) | exact Or.inl (by decide) | exact Or.inr (by first | omega | decide)), (by first | assumption | omega | decide | exact rfl | exact zb01 (by omega) | exact Or.inl (by decide) | exact Or.inr (by first | omega | decide))⟩) hP hD
    · skip
      have c25 : q_8.toInt = 1 := zeq cb9 rfl (by decide)
      have n26 : 1 ≤ q_8.toInt := Int.le_trans (Int.le_refl _) (Int.le_of_eq c25.symm)
      have n27 : q_8.toInt ≤ 1 := Int.le_trans (Int.le_of_eq c25) (Int.le_refl _)
      refine lv_iconst (v := 1) hx hb dX12_dry_40 (by decide) ?_
      refine lv_goto (tgt := 45) hx hb dX12_dry_41 (by decide) ?_
      refine lv_istore_n (lv' := [(3, .int 1), (0, .ref o), (1, .int x), (2, .int is)]) hx hb dX12_dry_45 rfl hl (by decide) rfl (fun ls hl => ?_)
      refine lv_aload_n hx hb dX12_dry_46 rfl (lv_at hl 1 rfl) ?_
      refine lv_iload_n hx hb dX12_dry_47 rfl (lv_at hl 2 rfl) ?_
      refine lv_iconst (v := 3) hx hb dX12_dry_48 (by decide) ?_
      refine lv_iload_n hx hb dX12_dry_49 rfl (lv_at hl 3 rfl) ?_
      refine lv_if_eq (tgt := 57) hx hb dX12_dry_50 (by decide) (fun cb9 => ?_) (fun cb9 => ?_)
      · skip
        have c28 : is.toInt = 0 := zeq cb9 rfl (by decide)
        have n29 : 0 ≤ is.toInt := Int.le_trans (Int.le_refl _) (Int.le_of_eq c28.symm)
        have n30 : is.toInt ≤ 0 := Int.le_trans (Int.le_of_eq c28) (Int.le_refl _)
        refine lv_iconst (v := 0) hx hb dX12_dry_57 (by decide) ?_
        refine mcallV' (g := g) (q0 := 0) (ci := 10) (As := [.int x, .int 3, .int 0]) (rest := []) St hK hT hA hP hD hS hl.1 [0] [] rfl rfl rfl (m_put l g o a 0 hi ac2_5 tp ba en tA fl de iD iO tU fm fk fa fc2_6 ft ff fb fi x 3 0 (by first | assumption | omega | decide | exact Or.inl (by decide) | exact Or.inr (by decide)) (by first | assumption | omega | decide | exact Or.inl (by decide) | exact Or.inr (by decide)) (by decide)) (cwV 3 hts (zgL (zl4 k908 k909 k910 k837) k830) rfl rfl rfl (by decide +kernel) ⟨Nat.le_of_ble_eq_true rfl, Nat.le_of_ble_eq_true rfl⟩) rfl rfl rfl rfl (Nat.le_of_ble_eq_true rfl) dX12_dry_58 ⟨(Nat.le_of_ble_eq_true rfl), (Nat.le_of_ble_eq_true rfl)⟩ (fun fm2_31 H locs hq32 hP hD hS => ?_)
        replace hq32 : (rM fm2_31) ∧ ((fm2_31 3).toInt = (fm 3).toInt ∧ (fm2_31 4).toInt = (fm 4).toInt) := hq32
        have hP : va_P g.1 vwCl (List.flatten [bMo g o a 0 hi ac2_5 tp ba en tA fl de iD iO tU fm2_31 fk fa fc2_6 ft ff fb fi]) H := hP
        have hD : va_D A (List.flatten [bMo g o a 0 hi ac2_5 tp ba en tA fl de iD iO tU fm2_31 fk fa fc2_6 ft ff fb fi]) := hD
        refine W.widen (k := 0) (n := 0) (Nat.le_of_ble_eq_true rfl) (Nat.le_of_ble_eq_true rfl) ?_
        refine W.eq (g2 := F0 m 61 ls []) rfl ?_
        obtain ⟨rfm2_31, hq32_1⟩ := hq32
        refine lv_iload_n hx hb dX12_dry_61 rfl (lv_at hl 0 rfl) ?_
        refine lv_iload_n hx hb dX12_dry_62 rfl (lv_at hl 3 rfl) ?_
        refine lv_icmp_eq (tgt := 70) hx hb dX12_dry_63 (by decide) (fun cb9 => ?_) (fun cb9 => ?_)
        · skip
          exact absurd (show 1 = is.toInt from zeq cb9 (by decide) rfl) (zDeq2 (a := 1) (b := 0) (Int.le_refl _) n30 (by decide))
        · skip
          have c34 : ¬ 1 = is.toInt := zne cb9 (by decide) rfl
          refine lv_iconst (v := 1) hx hb dX12_dry_66 (by decide) ?_
          refine lv_goto (tgt := 71) hx hb dX12_dry_67 (by decide) ?_
          have hP : va_P g.1 vwCl (List.flatten [bMo g o a 0 hi ac2_5 tp ba en tA fl de iD iO tU fm2_31 fk fa fc2_6 ft ff fb fi]) H := hP
          have hD : va_D A (List.flatten [bMo g o a 0 hi ac2_5 tp ba en tA fl de iD iO tU fm2_31 fk fa fc2_6 ft ff fb fi]) := hD
          exact mret_z hx hb hr hlocks hS (Nat.le_of_ble_eq_true rfl) (Nat.le_of_ble_eq_true rfl) dX12_dry_71 ((0 : Int32), ac2_5, fc2_6, fm2_31, (1 : Int32)) rfl (by decide) (show (rM fm2_31) ∧ (rC fc2_6) ∧ (0 ≤ ac2_5.toInt ∧ ac2_5.toInt ≤ 12) ∧ (1 = 0 ∨ 1 = 1) from ⟨(by first | assumption | omega | decide | exact rfl | exact zb01 (by omega) | exact Or.inl (by decide) | exact Or.inr (by first | omega | decide)), (by first | assumption | omega | decide | exact rfl | exact zb01 (by omega) | exact Or.inl (by decide) | exact Or.inr (by first | omega | decide)), (by first | assumption | omega | decide | exact rfl | exact zb01 (by omega) | exact Or.inl (by decide) | exact Or.inr (by first | omega | decide)), (by first | assumption | omega | decide | exact rfl | exact zb01 (by omega) | exact Or.inl (by decide) | exact Or.inr (by first | omega | decide))⟩) hP hD
      · skip
        have c35 : ¬ is.toInt = 0 := zne cb9 rfl (by decide)
        refine lv_iconst (v := 1) hx hb dX12_dry_53 (by decide) ?_
        refine lv_goto (tgt := 58) hx hb dX12_dry_54 (by decide) ?_
        refine mcallV' (g := g) (q0 := 0) (ci := 10) (As := [.int x, .int 3, .int 1]) (rest := []) St hK hT hA hP hD hS hl.1 [0] [] rfl rfl rfl (m_put l g o a 0 hi ac2_5 tp ba en tA fl de iD iO tU fm fk fa fc2_6 ft ff fb fi x 3 1 (by first | assumption | omega | decide | exact Or.inl (by decide) | exact Or.inr (by decide)) (by first | assumption | omega | decide | exact Or.inl (by decide) | exact Or.inr (by decide)) (by decide)) (cwV 3 hts (zgL (zl4 k908 k909 k910 k837) k830) rfl rfl rfl (by decide +kernel) ⟨Nat.le_of_ble_eq_true rfl, Nat.le_of_ble_eq_true rfl⟩) rfl rfl rfl rfl (Nat.le_of_ble_eq_true rfl) dX12_dry_58 ⟨(Nat.le_of_ble_eq_true rfl), (Nat.le_of_ble_eq_true rfl)⟩ (fun fm2_36 H locs hq37 hP hD hS => ?_)
        replace hq37 : (rM fm2_36) ∧ ((fm2_36 3).toInt = (fm 3).toInt ∧ (fm2_36 4).toInt = (fm 4).toInt) := hq37
        have hP : va_P g.1 vwCl (List.flatten [bMo g o a 0 hi ac2_5 tp ba en tA fl de iD iO tU fm2_36 fk fa fc2_6 ft ff fb fi]) H := hP
        have hD : va_D A (List.flatten [bMo g o a 0 hi ac2_5 tp ba en tA fl de iD iO tU fm2_36 fk fa fc2_6 ft ff fb fi]) := hD
        refine W.widen (k := 0) (n := 0) (Nat.le_of_ble_eq_true rfl) (Nat.le_of_ble_eq_true rfl) ?_
        refine W.eq (g2 := F0 m 61 ls []) rfl ?_
        obtain ⟨rfm2_36, hq37_1⟩ := hq37
        refine lv_iload_n hx hb dX12_dry_61 rfl (lv_at hl 0 rfl) ?_
        refine lv_iload_n hx hb dX12_dry_62 rfl (lv_at hl 3 rfl) ?_
        refine lv_icmp_eq (tgt := 70) hx hb dX12_dry_63 (by decide) (fun cb9 => ?_) (fun cb9 => ?_)
        · skip
          have c38 : 1 = is.toInt := zeq cb9 (by decide) rfl
          have n39 : 1 ≤ is.toInt := Int.le_trans (Int.le_refl _) (Int.le_of_eq c38)
          have n40 : is.toInt ≤ 1 := Int.le_trans (Int.le_of_eq c38.symm) (Int.le_refl _)
          refine lv_iconst (v := 0) hx hb dX12_dry_70 (by decide) ?_
          have hP : va_P g.1 vwCl (List.flatten [bMo g o a 0 hi ac2_5 tp ba en tA fl de iD iO tU fm2_36 fk fa fc2_6 ft ff fb fi]) H := hP
          have hD : va_D A (List.flatten [bMo g o a 0 hi ac2_5 tp ba en tA fl de iD iO tU fm2_36 fk fa fc2_6 ft ff fb fi]) := hD
          exact mret_z hx hb hr hlocks hS (Nat.le_of_ble_eq_true rfl) (Nat.le_of_ble_eq_true rfl) dX12_dry_71 ((0 : Int32), ac2_5, fc2_6, fm2_36, (0 : Int32)) rfl (by decide) (show (rM fm2_36) ∧ (rC fc2_6) ∧ (0 ≤ ac2_5.toInt ∧ ac2_5.toInt ≤ 12) ∧ (0 = 0 ∨ 0 = 1) from ⟨(by first | assumption | omega | decide | exact rfl | exact zb01 (by omega) | exact Or.inl (by decide) | exact Or.inr (by first | omega | decide)), (by first | assumption | omega | decide | exact rfl | exact zb01 (by omega) | exact Or.inl (by decide) | exact Or.inr (by first | omega | decide)), (by first | assumption | omega | decide | exact rfl | exact zb01 (by omega) | exact Or.inl (by decide) | exact Or.inr (by first | omega | decide)), (by first | assumption | omega | decide | exact rfl | exact zb01 (by omega) | exact Or.inl (by decide) | exact Or.inr (by first | omega | decide))⟩) hP hD
        · skip
          have c41 : ¬ 1 = is.toInt := zne cb9 (by decide) rfl
          refine lv_iconst (v := 1) hx hb dX12_dry_66 (by decide) ?_
          refine lv_goto (tgt := 71) hx hb dX12_dry_67 (by decide) ?_
          have hP : va_P g.1 vwCl (List.flatten [bMo g o a 0 hi ac2_5 tp ba en tA fl de iD iO tU fm2_36 fk fa fc2_6 ft ff fb fi]) H := hP
          have hD : va_D A (List.flatten [bMo g o a 0 hi ac2_5 tp ba en tA fl de iD iO tU fm2_36 fk fa fc2_6 ft ff fb fi]) := hD
          exact mret_z hx hb hr hlocks hS (Nat.le_of_ble_eq_true rfl) (Nat.le_of_ble_eq_true rfl) dX12_dry_71 ((0 : Int32), ac2_5, fc2_6, fm2_36, (1 : Int32)) rfl (by decide) (show (rM fm2_36) ∧ (rC fc2_6) ∧ (0 ≤ ac2_5.toInt ∧ ac2_5.toInt ≤ 12) ∧ (1 = 0 ∨ 1 = 1) from ⟨(by first | assumption | omega | decide | exact rfl | exact zb01 (by omega) | exact Or.inl (by decide) | exact Or.inr (by first | omega | decide)), (by first | assumption | omega | decide | exact rfl | exact zb01 (by omega) | exact Or.inl (by decide) | exact Or.inr (by first | omega | decide)), (by first | assumption | omega | decide | exact rfl | exact zb01 (by omega) | exact Or.inl (by decide) | exact Or.inr (by first | omega | decide)), (by first | assumption | omega | decide | exact rfl | exact zb01 (by omega) | exact Or.inl (by decide) | exact Or.inr (by first | omega | decide))⟩) hP hD
  · skip
    refine lv_if_ne (tgt := 13) hx hb dX12_dry_6 (by decide) (fun c42 => absurd (by decide) c42) (fun _ => ?_)
    refine lv_iconst (v := 1) hx hb dX12_dry_9 (by decide) ?_
    refine lv_goto (tgt := 14) hx hb dX12_dry_10 (by decide) ?_
    refine va_put (D := g.1) (ci := 10) (v := .int 1) (ty := .int) (C := RX12) (T := TX12) (N := 20) hx hb hts izRX12 tyX12 tyX12_ok nmX12 hown hK hP hD hS 0 rfl rfl 0 (by decide) (hts _ k871) (fun _ h9 => h9) rfl (by decide +kernel) rfl rfl (Nat.le_of_ble_eq_true rfl) dX12_dry_14 (fun H locs hP hD hS => ?_)
    have hP : va_P g.1 vwCl (List.flatten [bMo g o a 1 hi ac tp ba en tA fl de iD iO tU fm fk fa fc ft ff fb fi]) H := hP
    have hD : va_D A (List.flatten [bMo g o a 1 hi ac tp ba en tA fl de iD iO tU fm fk fa fc ft ff fb fi]) := hD
    refine lv_aload_n hx hb dX12_dry_17 rfl (lv_at hl 0 rfl) ?_
    refine va_get (D := g.1) (ci := 10) (v := .int 1) (C := RX12) (T := TX12) (N := 20) hx hb hts izRX12 hown hK hP 0 rfl rfl 0 (by decide) (hts _ k871) (fun _ h9 => h9) rfl dX12_dry_18 ?_
    refine lv_if_le (tgt := 26) hx hb dX12_dry_21 (by decide) (fun c43 => absurd c43 (by decide)) (fun _ => ?_)
    refine lv_iconst (v := 0) hx hb dX12_dry_24 (by decide) ?_
    have hP : va_P g.1 vwCl (List.flatten [bMo g o a 1 hi ac tp ba en tA fl de iD iO tU fm fk fa fc ft ff fb fi]) H := hP
    have hD : va_D A (List.flatten [bMo g o a 1 hi ac tp ba en tA fl de iD iO tU fm fk fa fc ft ff fb fi]) := hD
    exact mret_z hx hb hr hlocks hS (Nat.le_of_ble_eq_true rfl) (Nat.le_of_ble_eq_true rfl) dX12_dry_25 ((1 : Int32), ac, fc, fm, (0 : Int32)) rfl (by decide) (show (rM fm) ∧ (rC fc) ∧ (0 ≤ ac.toInt ∧ ac.toInt ≤ 12) ∧ (0 = 0 ∨ 0 = 1) from ⟨(by first | assumption | omega | decide | exact rfl | exact zb01 (by omega) | exact Or.inl (by decide) | exact Or.inr (by first | omega | decide)), (by first | assumption | omega | decide | exact rfl | exact zb01 (by omega) | exact Or.inl (by decide) | exact Or.inr (by first | omega | decide)), (by first | assumption | omega | decide | exact rfl | exact zb01 (by omega) | exact Or.inl (by decide) | exact Or.inr (by first | omega | decide)), (by first | assumption | omega | decide | exact rfl | exact zb01 (by omega) | exact Or.inl (by decide) | exact Or.inr (by first | omega | decide))⟩) hP hD
