set_option maxRecDepth 100000 in
set_option maxHeartbeats 4000000 in
theorem m_plan (l : Launch) (g : zG) (o : Nat) (a : Nat → Nat) (th : Int32) (hi : Int32) (ac : Int32) (tp : Int32) (ba : Int32) (en : Int32) (tA : Int32) (fl : Int32) (de : Int32) (iD : Int32) (iO : Int32) (tU : Int32) (fm : Nat → Int32) (fk : Nat → Int32) (fa : Nat → Int32) (fc : Nat → Int32) (ft : Nat → Int32) (ff : Nat → Int32) (fb : Nat → Int32) (fi : Nat → Int32) (w : Int32) (rfm : rM fm) (rfc : rC fc) (hac : 0 ≤ ac.toInt ∧ ac.toInt ≤ 12) : zM' g l yX12_plan (Cond.code yX12_plan cX12_plan 2 none :: zB) ({ frames := 2, cells := 0, slots := 0, locals := 43 } : Room) [.ref o, .int w] [bMo g o a th hi ac tp ba en tA fl de iD iO tU fm fk fa fc ft ff fb fi] (fun u : Int32 × Int32 × (Nat → Int32) × (Nat → Int32) => (fun (th2 : Int32) (ac2 : Int32) (fc2 : Nat → Int32) (fm2 : Nat → Int32) => none) (u.1) (u.2.1) (u.2.2.1) (u.2.2.2)) (fun u : Int32 × Int32 × (Nat → Int32) × (Nat → Int32) => (fun (th2 : Int32) (ac2 : Int32) (fc2 : Nat → Int32) (fm2 : Nat → Int32) => (rM fm2) ∧ (rC fc2) ∧ (0 ≤ ac2.toInt ∧ ac2.toInt ≤ 12)) (u.1) (u.2.1) (u.2.2.1) (u.2.2.2)) (fun u : Int32 × Int32 × (Nat → Int32) × (Nat → Int32) => (fun (th2 : Int32) (ac2 : Int32) (fc2 : Nat → Int32) (fm2 : Nat → Int32) => [bMo g o a th2 hi ac2 tp ba en tA fl de iD iO tU fm2 fk fa fc2 ft ff fb fi]) (u.1) (u.2.1) (u.2.2.1) (u.2.2.2)) := by
  refine zM'.of (cc := cX12_plan) (maxL := 2) (rt := none) (by decide) rfl (Nat.le_of_ble_eq_true rfl) ?_
  intro p e s m args below meth c A ls St hr hlocks hin hK hT hA hP hD hS hl
  obtain ⟨hx, hb, hml, hown, hts⟩ := id St
  have hl : lv_has ls 2 [(0, .ref o), (1, .int w)] := hl
  refine lv_aload_n hx hb dX12_plan_0 rfl (lv_at hl 0 rfl) ?_
  refine lv_aload_n hx hb dX12_plan_1 rfl (lv_at hl 0 rfl) ?_
  refine lv_iload_n hx hb dX12_plan_2 rfl (lv_at hl 1 rfl) ?_
  refine mcallV' (g := g) (q0 := 0) (ci := 10) (As := [.int w]) (rest := [.ref o]) St hK hT hA hP hD hS hl.1 [0] [] rfl rfl rfl (m_isWork l g o a th hi ac tp ba en tA fl de iD iO tU fm fk fa fc ft ff fb fi w (by first | assumption | omega | decide | exact Or.inl (by decide) | exact Or.inr (by decide))) (cwV 1 hts (zgL (zl4 k1041 k1042 k1043 k837) k838) rfl rfl rfl (by decide +kernel) ⟨Nat.le_of_ble_eq_true rfl, Nat.le_of_ble_eq_true rfl⟩) rfl rfl rfl rfl (Nat.le_of_ble_eq_true rfl) dX12_plan_3 ⟨(Nat.le_of_ble_eq_true rfl), (Nat.le_of_ble_eq_true rfl)⟩ (fun q_1 H locs hq2 hP hD hS => ?_)
  replace hq2 : (q_1 = 1 ∧ 0 ≤ w.toInt ∧ w.toInt ≤ 5 ∧ w.toInt < (fm 4).toInt ∨ q_1 = 0) := hq2
  have hP : va_P g.1 vwCl (List.flatten [bMo g o a th hi ac tp ba en tA fl de iD iO tU fm fk fa fc ft ff fb fi]) H := hP
  have hD : va_D A (List.flatten [bMo g o a th hi ac tp ba en tA fl de iD iO tU fm fk fa fc ft ff fb fi]) := hD
  refine W.widen (k := 0) (n := 0) (Nat.le_of_ble_eq_true rfl) (Nat.le_of_ble_eq_true rfl) ?_
  refine W.eq (g2 := F0 m 6 ls [.int q_1, .ref o]) rfl ?_
  rcases hq2 with ⟨rfl, hq2_k⟩ | rfl
  · skip
    refine lv_if_ne (tgt := 13) hx hb dX12_plan_6 (by decide) (fun _ => ?_) (fun c3 => absurd c3 (by decide))
    refine lv_aload_n hx hb dX12_plan_13 rfl (lv_at hl 0 rfl) ?_
    refine lv_iload_n hx hb dX12_plan_14 rfl (lv_at hl 1 rfl) ?_
    refine lv_iconst (v := 3) hx hb dX12_plan_15 (by decide) ?_
    have hL3 : (3 : Int32).toInt = 3 := by decide
    refine mcallV' (g := g) (q0 := 0) (ci := 10) (As := [.int w, .int 3]) (rest := [.ref o]) St hK hT hA hP hD hS hl.1 [0] [] rfl rfl rfl (m_ofWork l g o a th hi ac tp ba en tA fl de iD iO tU fm fk fa fc ft ff fb fi w 3 (by first | assumption | omega | decide | exact Or.inl (by decide) | exact Or.inr (by decide)) (by decide)) (cwV 2 hts (zgL (zl4 k862 k863 k864 k837) k831) rfl rfl rfl (by decide +kernel) ⟨Nat.le_of_ble_eq_true rfl, Nat.le_of_ble_eq_true rfl⟩) rfl rfl rfl rfl (Nat.le_of_ble_eq_true rfl) dX12_plan_16 ⟨(Nat.le_of_ble_eq_true rfl), (Nat.le_of_ble_eq_true rfl)⟩ (fun q_4 H locs hq5 hP hD hS => ?_)
    have hP : va_P g.1 vwCl (List.flatten [bMo g o a th hi ac tp ba en tA fl de iD iO tU fm fk fa fc ft ff fb fi]) H := hP
    have hD : va_D A (List.flatten [bMo g o a th hi ac tp ba en tA fl de iD iO tU fm fk fa fc ft ff fb fi]) := hD
    refine W.widen (k := 0) (n := 0) (Nat.le_of_ble_eq_true rfl) (Nat.le_of_ble_eq_true rfl) ?_
    refine W.eq (g2 := F0 m 19 ls [.int q_4, .ref o]) rfl ?_
    refine lv_iconst (v := 2) hx hb dX12_plan_19 (by decide) ?_
    refine lv_icmp_eq (tgt := 27) hx hb dX12_plan_20 (by decide) (fun cb9 => ?_) (fun cb9 => ?_)
    · skip
      have c6 : q_4.toInt = 2 := zeq cb9 rfl (by decide)
      have n7 : 2 ≤ q_4.toInt := Int.le_trans (Int.le_refl _) (Int.le_of_eq c6.symm)
      have n8 : q_4.toInt ≤ 2 := Int.le_trans (Int.le_of_eq c6) (Int.le_refl _)
      refine lv_iconst (v := 0) hx hb dX12_plan_27 (by decide) ?_
      refine va_put (D := g.1) (ci := 10) (v := .int 0) (ty := .int) (C := RX12) (T := TX12) (N := 20) hx hb hts izRX12 tyX12 tyX12_ok nmX12 hown hK hP hD hS 0 rfl rfl 0 (by decide) (hts _ k871) (fun _ h9 => h9) rfl (by decide +kernel) rfl rfl (Nat.le_of_ble_eq_true rfl) dX12_plan_28 (fun H locs hP hD hS => ?_)
      have hP : va_P g.1 vwCl (List.flatten [bMo g o a 0 hi ac tp ba en tA fl de iD iO tU fm fk fa fc ft ff fb fi]) H := hP
      have hD : va_D A (List.flatten [bMo g o a 0 hi ac tp ba en tA fl de iD iO tU fm fk fa fc ft ff fb fi]) := hD
      refine lv_aload_n hx hb dX12_plan_31 rfl (lv_at hl 0 rfl) ?_
      refine va_get (D := g.1) (ci := 10) (v := .int 0) (C := RX12) (T := TX12) (N := 20) hx hb hts izRX12 hown hK hP 0 rfl rfl 0 (by decide) (hts _ k871) (fun _ h9 => h9) rfl dX12_plan_32 ?_
      refine lv_if_le (tgt := 39) hx hb dX12_plan_35 (by decide) (fun _ => ?_) (fun c9 => absurd (by decide) c9)
      refine lv_aload_n hx hb dX12_plan_39 rfl (lv_at hl 0 rfl) ?_
      refine mcallV' (g := g) (q0 := 0) (ci := 10) (As := []) (rest := []) St hK hT hA hP hD hS hl.1 [0] [] rfl rfl rfl (m_remembers l g o a 0 hi ac tp ba en tA fl de iD iO tU fm fk fa fc ft ff fb fi (by first | assumption | omega | decide | exact Or.inl (by decide) | exact Or.inr (by decide)) (by first | assumption | omega | decide | exact Or.inl (by decide) | exact Or.inr (by decide)) (⟨hac.1, hac.2⟩)) (cwV 0 hts (zgL (zl4 k1046 k1047 k1048 k837) k1045) rfl rfl rfl (by decide +kernel) ⟨Nat.le_of_ble_eq_true rfl, Nat.le_of_ble_eq_true rfl⟩) rfl rfl rfl rfl (Nat.le_of_ble_eq_true rfl) dX12_plan_40 ⟨(Nat.le_of_ble_eq_true rfl), (Nat.le_of_ble_eq_true rfl)⟩ (fun u_ H locs hq12 hP hD hS => ?_)
      obtain ⟨ac2_10, fc2_11⟩ := u_
      replace hq12 : (rC fc2_11) ∧ (0 ≤ ac2_10.toInt ∧ ac2_10.toInt ≤ 12) := hq12
      have hP : va_P g.1 vwCl (List.flatten [bMo g o a 0 hi ac2_10 tp ba en tA fl de iD iO tU fm fk fa fc2_11 ft ff fb fi]) H := hP
      have hD : va_D A (List.flatten [bMo g o a 0 hi ac2_10 tp ba en tA fl de iD iO tU fm fk fa fc2_11 ft ff fb fi]) := hD
      refine W.widen (k := 0) (n := 0) (Nat.le_of_ble_eq_true rfl) (Nat.le_of_ble_eq_true rfl) ?_
      refine W.eq (g2 := F0 m 43 ls []) rfl ?_
      obtain ⟨rfc2_11, hq12_1⟩ := hq12
      refine lv_aload_n hx hb dX12_plan_43 rfl (lv_at hl 0 rfl) ?_
      refine lv_iload_n hx hb dX12_plan_44 rfl (lv_at hl 1 rfl) ?_
      refine lv_iconst (v := 3) hx hb dX12_plan_45 (by decide) ?_
      refine lv_iconst (v := 0) hx hb dX12_plan_46 (by decide) ?_
      refine mcallV' (g := g) (q0 := 0) (ci := 10) (As := [.int w, .int 3, .int 0]) (rest := []) St hK hT hA hP hD hS hl.1 [0] [] rfl rfl rfl (m_putWork l g o a 0 hi ac2_10 tp ba en tA fl de iD iO tU fm fk fa fc2_11 ft ff fb fi w 3 0 (by first | assumption | omega | decide | exact Or.inl (by decide) | exact Or.inr (by decide)) (by first | assumption | omega | decide | exact Or.inl (by decide) | exact Or.inr (by decide)) (by decide)) (cwV 3 hts (zgL (zl4 k913 k914 k915 k837) k832) rfl rfl rfl (by decide +kernel) ⟨Nat.le_of_ble_eq_true rfl, Nat.le_of_ble_eq_true rfl⟩) rfl rfl rfl rfl (Nat.le_of_ble_eq_true rfl) dX12_plan_47 ⟨(Nat.le_of_ble_eq_true rfl), (Nat.le_of_ble_eq_true rfl)⟩ (fun fm2_13 H locs hq14 hP hD hS => ?_)
      replace hq14 : (rM fm2_13) ∧ ((fm2_13 3).toInt = (fm 3).toInt ∧ (fm2_13 4).toInt = (fm 4).toInt) := hq14
      have hP : va_P g.1 vwCl (List.flatten [bMo g o a 0 hi ac2_10 tp ba en tA fl de iD iO tU fm2_13 fk fa fc2_11 ft ff fb fi]) H := hP
      have hD : va_D A (List.flatten [bMo g o a 0 hi ac2_10 tp ba en tA fl de iD iO tU fm2_13 fk fa fc2_11 ft ff fb fi]) := hD
      refine W.widen (k := 0) (n := 0) (Nat.le_of_ble_eq_true rfl) (Nat.le_of_ble_eq_true rfl) ?_
      refine W.eq (g2 := F0 m 50 ls []) rfl ?_
      obtain ⟨rfm2_13, hq14_1⟩ := hq14
      have hP : va_P g.1 vwCl (List.flatten [bMo g o a 0 hi ac2_10 tp ba en tA fl de iD iO tU fm2_13 fk fa fc2_11 ft ff fb fi]) H := hP
      have hD : va_D A (List.flatten [bMo g o a 0 hi ac2_10 tp ba en tA fl de iD iO tU fm2_13 fk fa fc2_11 ft ff fb fi]) := hD
      exact mret_v hx hb hr hlocks hS (Nat.le_of_ble_eq_true rfl) (Nat.le_of_ble_eq_true rfl) dX12_plan_50 ((0 : Int32), ac2_10, fc2_11, fm2_13) rfl (show (rM fm2_13) ∧ (rC fc2_11) ∧ (0 ≤ ac2_10.toInt ∧ ac2_10.toInt ≤ 12) from ⟨(by first | assumption | omega | decide | exact rfl | exact zb01 (by omega) | exact Or.inl (by decide) | exact Or.inr (by first | omega | decide)), (by first | assumption | omega | decide | exact rfl | exact zb01 (by omega) | exact Or.inl (by decide) | exact Or.inr (by first | omega | decide)), (by first | assumption | omega | decide | exact rfl | exact zb01 (by omega) | exact Or.inl (by decide) | exact Or.inr (by first | omega | decide))⟩) hP hD
    · skip
      have c15 : ¬ q_4.toInt = 2 := zne cb9 rfl (by decide)
      refine lv_iconst (v := 2) hx hb dX12_plan_23 (by decide) ?_
      refine lv_goto (tgt := 28) hx hb dX12_plan_24 (by decide) ?_
      refine va_put (D := g.1) (ci := 10) (v := .int 2) (ty := .int) (C := RX12) (T := TX12) (N := 20) hx hb hts izRX12 tyX12 tyX12_ok nmX12 hown hK hP hD hS 0 rfl rfl 0 (by decide) (hts _ k871) (fun _ h9 => h9) rfl (by decide +kernel) rfl rfl (Nat.le_of_ble_eq_true rfl) dX12_plan_28 (fun H locs hP hD hS => ?_)
      have hP : va_P g.1 vwCl (List.flatten [bMo g o a 2 hi ac tp ba en tA fl de iD iO tU fm fk fa fc ft ff fb fi]) H := hP
      have hD : va_D A (List.flatten [bMo g o a 2 hi ac tp ba en tA fl de iD iO tU fm fk fa fc ft ff fb fi]) := hD
      refine lv_aload_n hx hb dX12_plan_31 rfl (lv_at hl 0 rfl) ?_
      refine va_get (D := g.1) (ci := 10) (v := .int 2) (C := RX12) (T := TX12) (N := 20) hx hb hts izRX12 hown hK hP 0 rfl rfl 0 (by decide) (hts _ k871) (fun _ h9 => h9) rfl dX12_plan_32 ?_
      refine lv_if_le (tgt := 39) hx hb dX12_plan_35 (by decide) (fun c16 => absurd c16 (by decide)) (fun _ => ?_)
      have hP : va_P g.1 vwCl (List.flatten [bMo g o a 2 hi ac tp ba en tA fl de iD iO tU fm fk fa fc ft ff fb fi]) H := hP
      have hD : va_D A (List.flatten [bMo g o a 2 hi ac tp ba en tA fl de iD iO tU fm fk fa fc ft ff fb fi]) := hD
      exact mret_v hx hb hr hlocks hS (Nat.le_of_ble_eq_true rfl) (Nat.le_of_ble_eq_true rfl) dX12_plan_38 ((2 : Int32), ac, fc, fm) rfl (show (rM fm) ∧ (rC fc) ∧ (0 ≤ ac.toInt ∧ ac.toInt ≤ 12) from ⟨(by first | assumption | omega | decide | exact rfl | exact zb01 (by omega) | exact Or.inl (by decide) | exact Or.inr (by first | omega | decide)), (by first | assumption | omega | decide | exact rfl | exact zb01 (by omega) | exact Or.inl (by decide) | exact Or.inr (by first | omega | decide)), (by first | assumption | omega | decide | exact rfl | exact zb01 (by omega) | exact Or.inl (by decide) | exact Or.inr (by first | omega | decide))⟩) hP hD
  · skip
    refine lv_if_ne (tgt := 13) hx hb dX12_plan_6 (by decide) (fun c17 => absurd (by decide) c17) (fun _ => ?_)
    refine lv_iconst (v := 1) hx hb dX12_plan_9 (by decide) ?_
    refine lv_goto (tgt := 28) hx hb dX12_plan_10 (by decide) ?_
    refine va_put (D := g.1) (ci := 10) (v := .int 1) (ty := .int) (C := RX12) (T := TX12) (N := 20) hx hb hts izRX12 tyX12 tyX12_ok nmX12 hown hK hP hD hS 0 rfl rfl 0 (by decide) (hts _ k871) (fun _ h9 => h9) rfl (by decide +kernel) rfl rfl (Nat.le_of_ble_eq_true rfl) dX12_plan_28 (fun H locs hP hD hS => ?_)
    have hP : va_P g.1 vwCl (List.flatten [bMo g o a 1 hi ac tp ba en tA fl de iD iO tU fm fk fa fc ft ff fb fi]) H := hP
    have hD : va_D A (List.flatten [bMo g o a 1 hi ac tp ba en tA fl de iD iO tU fm fk fa fc ft ff fb fi]) := hD
    refine lv_aload_n hx hb dX12_plan_31 rfl (lv_at hl 0 rfl) ?_
    refine va_get (D := g.1) (ci := 10) (v := .int 1) (C := RX12) (T := TX12) (N := 20) hx hb hts izRX12 hown hK hP 0 rfl rfl 0 (by decide) (hts _ k871) (fun _ h9 => h9) rfl dX12_plan_32 ?_
    refine lv_if_le (tgt := 39) hx hb dX12_plan_35 (by decide) (fun c18 => absurd c18 (by decide)) (fun _ => ?_)
    have hP : va_P g.1 vwCl (List.flatten [bMo g o a 1 hi ac tp ba en tA fl de iD iO tU fm fk fa fc ft ff fb fi]) H := hP
    have hD : va_D A (List.flatten [bMo g o a 1 hi ac tp ba en tA fl de iD iO tU fm fk fa fc ft ff fb fi]) := hD
    exact mret_v hx hb hr hlocks hS (Nat.le_of_ble_eq_true rfl) (Nat.le_of_ble_eq_true rfl) dX12_plan_38 ((1 : Int32), ac, fc, fm) rfl (show (rM fm) ∧ (rC fc) ∧ (0 ≤ ac.toInt ∧ ac.toInt ≤ 12) from ⟨(by first | assumption | omega | decide | exact rfl | exact zb01 (by omega) | exact Or.inl (by decide) | exact Or.inr (by first | omega | decide)), (by first | assumption | omega | decide | exact rfl | exact zb01 (by omega) | exact Or.inl (by decide) | exact Or.inr (by first | omega | decide)), (by first | assumption | omega | decide | exact rfl | exact zb01 (by omega) | exact Or.inl (by decide) | exact Or.inr (by first | omega | decide))⟩) hP hD
set_option maxRecDepth 100000 in
set_option maxHeartbeats 4000000 in
theorem m_send (l : Launch) (g : zG) (o : Nat) (a : Nat → Nat) (th : Int32) (hi : Int32) (ac : Int32) (tp : Int32) (ba : Int32) (en : Int32) (tA : Int32) (fl : Int32) (de : Int32) (iD : Int32) (iO : Int32) (tU : Int32) (fm : Nat → Int32) (fk : Nat → Int32) (fa : Nat → Int32) (fc : Nat → Int32) (ft : Nat → Int32) (ff : Nat → Int32) (fb : Nat → Int32) (fi : Nat → Int32) (x : Int32) (rfm : rM fm) (rfc : rC fc) (hac : 0 ≤ ac.toInt ∧ ac.toInt ≤ 12) : zM' g l yX12_send (Cond.code yX12_send cX12_send 2 (some .int) :: zB) ({ frames := 2, cells := 0, slots := 0, locals := 43 } : Room) [.ref o, .int x] [bMo g o a th hi ac tp ba en tA fl de iD iO tU fm fk fa fc ft ff fb fi] (fun u : Int32 × Int32 × (Nat → Int32) × (Nat → Int32) × Int32 => (fun (th2 : Int32) (ac2 : Int32) (fc2 : Nat → Int32) (fm2 : Nat → Int32) (q : Int32) => some (.int q)) (u.1) (u.2.1) (u.2.2.1) (u.2.2.2.1) (u.2.2.2.2)) (fun u : Int32 × Int32 × (Nat → Int32) × (Nat → Int32) × Int32 => (fun (th2 : Int32) (ac2 : Int32) (fc2 : Nat → Int32) (fm2 : Nat → Int32) (q : Int32) => (rM fm2) ∧ (rC fc2) ∧ (0 ≤ ac2.toInt ∧ ac2.toInt ≤ 12)) (u.1) (u.2.1) (u.2.2.1) (u.2.2.2.1) (u.2.2.2.2)) (fun u : Int32 × Int32 × (Nat → Int32) × (Nat → Int32) × Int32 => (fun (th2 : Int32) (ac2 : Int32) (fc2 : Nat → Int32) (fm2 : Nat → Int32) (q : Int32) => [bMo g o a th2 hi ac2 tp ba en tA fl de iD iO tU fm2 fk fa fc2 ft ff fb fi]) (u.1) (u.2.1) (u.2.2.1) (u.2.2.2.1) (u.2.2.2.2)) := by
  refine zM'.of (cc := cX12_send) (maxL := 2) (rt := (some .int)) (by decide) rfl (Nat.le_of_ble_eq_true rfl) ?_
  intro p e s m args below meth c A ls St hr hlocks hin hK hT hA hP hD hS hl
  obtain ⟨hx, hb, hml, hown, hts⟩ := id St
  have hl : lv_has ls 2 [(0, .ref o), (1, .int x)] := hl
  refine lv_aload_n hx hb dX12_send_0 rfl (lv_at hl 0 rfl) ?_
  refine lv_aload_n hx hb dX12_send_1 rfl (lv_at hl 0 rfl) ?_
  refine lv_iload_n hx hb dX12_send_2 rfl (lv_at hl 1 rfl) ?_
  refine mcallV' (g := g) (q0 := 0) (ci := 10) (As := [.int x]) (rest := [.ref o]) St hK hT hA hP hD hS hl.1 [0] [] rfl rfl rfl (m_isPerson l g o a th hi ac tp ba en tA fl de iD iO tU fm fk fa fc ft ff fb fi x (by first | assumption | omega | decide | exact Or.inl (by decide) | exact Or.inr (by decide))) (cwV 1 hts (zgL (zl4 k1032 k1033 k1034 k837) k834) rfl rfl rfl (by decide +kernel) ⟨Nat.le_of_ble_eq_true rfl, Nat.le_of_ble_eq_true rfl⟩) rfl rfl rfl rfl (Nat.le_of_ble_eq_true rfl) dX12_send_3 ⟨(Nat.le_of_ble_eq_true rfl), (Nat.le_of_ble_eq_true rfl)⟩ (fun q_1 H locs hq2 hP hD hS => ?_)
  replace hq2 : (q_1 = 1 ∧ 0 ≤ x.toInt ∧ x.toInt ≤ 7 ∧ x.toInt < (fm 3).toInt ∨ q_1 = 0) := hq2
  have hP : va_P g.1 vwCl (List.flatten [bMo g o a th hi ac tp ba en tA fl de iD iO tU fm fk fa fc ft ff fb fi]) H := hP
  have hD : va_D A (List.flatten [bMo g o a th hi ac tp ba en tA fl de iD iO tU fm fk fa fc ft ff fb fi]) := hD
  refine W.widen (k := 0) (n := 0) (Nat.le_of_ble_eq_true rfl) (Nat.le_of_ble_eq_true rfl) ?_
  refine W.eq (g2 := F0 m 6 ls [.int q_1, .ref o]) rfl ?_
  rcases hq2 with ⟨rfl, hq2_k⟩ | rfl
  · skip
    refine lv_if_ne (tgt := 13) hx hb dX12_send_6 (by decide) (fun _ => ?_) (fun c3 => absurd c3 (by decide))
    refine lv_aload_n hx hb dX12_send_13 rfl (lv_at hl 0 rfl) ?_
    refine lv_iload_n hx hb dX12_send_14 rfl (lv_at hl 1 rfl) ?_
    refine mcallV' (g := g) (q0 := 0) (ci := 10) (As := [.int x]) (rest := [.ref o]) St hK hT hA hP hD hS hl.1 [0] [] rfl rfl rfl (m_isHere l g o a th hi ac tp ba en tA fl de iD iO tU fm fk fa fc ft ff fb fi x (by first | assumption | omega | decide | exact Or.inl (by decide) | exact Or.inr (by decide))) (cwV 1 hts (zgL (zl4 k844 k845 k846 k837) k839) rfl rfl rfl (by decide +kernel) ⟨Nat.le_of_ble_eq_true rfl, Nat.le_of_ble_eq_true rfl⟩) rfl rfl rfl rfl (Nat.le_of_ble_eq_true rfl) dX12_send_15 ⟨(Nat.le_of_ble_eq_true rfl), (Nat.le_of_ble_eq_true rfl)⟩ (fun q_4 H locs hq5 hP hD hS => ?_)
    replace hq5 : (q_4 = 0 ∨ q_4 = 1) := hq5
    have hP : va_P g.1 vwCl (List.flatten [bMo g o a th hi ac tp ba en tA fl de iD iO tU fm fk fa fc ft ff fb fi]) H := hP
    have hD : va_D A (List.flatten [bMo g o a th hi ac tp ba en tA fl de iD iO tU fm fk fa fc ft ff fb fi]) := hD
    refine W.widen (k := 0) (n := 0) (Nat.le_of_ble_eq_true rfl) (Nat.le_of_ble_eq_true rfl) ?_
    refine W.eq (g2 := F0 m 18 ls [.int q_4, .ref o]) rfl ?_
    rcases hq5 with rfl | rfl
    · skip
      refine lv_if_ne (tgt := 25) hx hb dX12_send_18 (by decide) (fun c6 => absurd (by decide) c6) (fun _ => ?_)
      refine lv_iconst (v := 2) hx hb dX12_send_21 (by decide) ?_
      refine lv_goto (tgt := 26) hx hb dX12_send_22 (by decide) ?_
      refine va_put (D := g.1) (ci := 10) (v := .int 2) (ty := .int) (C := RX12) (T := TX12) (N := 20) hx hb hts izRX12 tyX12 tyX12_ok nmX12 hown hK hP hD hS 0 rfl rfl 0 (by decide) (hts _ k871) (fun _ h9 => h9) rfl (by decide +kernel) rfl rfl (Nat.le_of_ble_eq_true rfl) dX12_send_26 (fun H locs hP hD hS => ?_)
      have hP : va_P g.1 vwCl (List.flatten [bMo g o a 2 hi ac tp ba en tA fl de iD iO tU fm fk fa fc ft ff fb fi]) H := hP
      have hD : va_D A (List.flatten [bMo g o a 2 hi ac tp ba en tA fl de iD iO tU fm fk fa fc ft ff fb fi]) := hD
      refine lv_aload_n hx hb dX12_send_29 rfl (lv_at hl 0 rfl) ?_
      refine va_get (D := g.1) (ci := 10) (v := .int 2) (C := RX12) (T := TX12) (N := 20) hx hb hts izRX12 hown hK hP 0 rfl rfl 0 (by decide) (hts _ k871) (fun _ h9 => h9) rfl dX12_send_30 ?_
      refine lv_if_le (tgt := 38) hx hb dX12_send_33 (by decide) (fun c7 => absurd c7 (by decide)) (fun _ => ?_)
      refine lv_iconst (v := 0) hx hb dX12_send_36 (by decide) ?_
      have hP : va_P g.1 vwCl (List.flatten [bMo g o a 2 hi ac tp ba en tA fl de iD iO tU fm fk fa fc ft ff fb fi]) H := hP
      have hD : va_D A (List.flatten [bMo g o a 2 hi ac tp ba en tA fl de iD iO tU fm fk fa fc ft ff fb fi]) := hD
      exact mret_i hx hb hr hlocks hS (Nat.le_of_ble_eq_true rfl) (Nat.le_of_ble_eq_true rfl) dX12_send_37 ((2 : Int32), ac, fc, fm, (0 : Int32)) rfl (show (rM fm) ∧ (rC fc) ∧ (0 ≤ ac.toInt ∧ ac.toInt ≤ 12) from ⟨(by first | assumption | omega | decide | exact rfl | exact zb01 (by omega) | exact Or.inl (by decide) | exact Or.inr (by first | omega | decide)), (by first | assumption | omega | decide | exact rfl | exact zb01 (by omega) | exact Or.inl (by decide) | exact Or.inr (by first | omega | decide)), (by first | assumption | omega | decide | exact rfl | exact zb01 (by omega) | exact Or.inl (by decide) | exact Or.inr (by first | omega | decide))⟩) hP hD
    · skip
      refine lv_if_ne (tgt := 25) hx hb dX12_send_18 (by decide) (fun _ => ?_) (fun c8 => absurd c8 (by decide))
      refine lv_iconst (v := 0) hx hb dX12_send_25 (by decide) ?_
      refine va_put (D := g.1) (ci := 10) (v := .int 0) (ty := .int) (C := RX12) (T := TX12) (N := 20) hx hb hts izRX12 tyX12 tyX12_ok nmX12 hown hK hP hD hS 0 rfl rfl 0 (by decide) (hts _ k871) (fun _ h9 => h9) rfl (by decide +kernel) rfl rfl (Nat.le_of_ble_eq_true rfl) dX12_send_26 (fun H locs hP hD hS => ?_)
      have hP : va_P g.1 vwCl (List.flatten [bMo g o a 0 hi ac tp ba en tA fl de iD iO tU fm fk fa fc ft ff fb fi]) H := hP
      have hD : va_D A (List.flatten [bMo g o a 0 hi ac tp ba en tA fl de iD iO tU fm fk fa fc ft ff fb fi]) := hD
      refine lv_aload_n hx hb dX12_send_29 rfl (lv_at hl 0 rfl) ?_
      refine va_get (D := g.1) (ci := 10) (v := .int 0) (C := RX12) (T := TX12) (N := 20) hx hb hts izRX12 hown hK hP 0 rfl rfl 0 (by decide) (hts _ k871) (fun _ h9 => h9) rfl dX12_send_30 ?_
      refine lv_if_le (tgt := 38) hx hb dX12_send_33 (by decide) (fun _ => ?_) (fun c9 => absurd (by decide) c9)
      refine lv_aload_n hx hb dX12_send_38 rfl (lv_at hl 0 rfl) ?_
      refine mcallV' (g := g) (q0 := 0) (ci := 10) (As := []) (rest := []) St hK hT hA hP hD hS hl.1 [0] [] rfl rfl rfl (m_remembers l g o a 0 hi ac tp ba en tA fl de iD iO tU fm fk fa fc ft ff fb fi (by first | assumption | omega | decide | exact Or.inl (by decide) | exact Or.inr (by decide)) (by first | assumption | omega | decide | exact Or.inl (by decide) | exact Or.inr (by decide)) (⟨hac.1, hac.2⟩)) (cwV 0 hts (zgL (zl4 k1046 k1047 k1048 k837) k1045) rfl rfl rfl (by decide +kernel) ⟨Nat.le_of_ble_eq_true rfl, Nat.le_of_ble_eq_true rfl⟩) rfl rfl rfl rfl (Nat.le_of_ble_eq_true rfl) dX12_send_39 ⟨(Nat.le_of_ble_eq_true rfl), (Nat.le_of_ble_eq_true rfl)⟩ (fun u_ H locs hq12 hP hD hS => ?_)
      obtain ⟨ac2_10, fc2_11⟩ := u_
      replace hq12 : (rC fc2_11) ∧ (0 ≤ ac2_10.toInt ∧ ac2_10.toInt ≤ 12) := hq12
      have hP : va_P g.1 vwCl (List.flatten [bMo g o a 0 hi ac2_10 tp ba en tA fl de iD iO tU fm fk fa fc2_11 ft ff fb fi]) H := hP
      have hD : va_D A (List.flatten [bMo g o a 0 hi ac2_10 tp ba en tA fl de iD iO tU fm fk fa fc2_11 ft ff fb fi]) := hD
      refine W.widen (k := 0) (n := 0) (Nat.le_of_ble_eq_true rfl) (Nat.le_of_ble_eq_true rfl) ?_
      refine W.eq (g2 := F0 m 42 ls []) rfl ?_
      obtain ⟨rfc2_11, hq12_1⟩ := hq12
      refine lv_aload_n hx hb dX12_send_42 rfl (lv_at hl 0 rfl) ?_
      refine lv_iload_n hx hb dX12_send_43 rfl (lv_at hl 1 rfl) ?_
      refine lv_iconst (v := 4) hx hb dX12_send_44 (by decide) ?_
      refine lv_aload_n hx hb dX12_send_45 rfl (lv_at hl 0 rfl) ?_
      refine va_get (D := g.1) (ci := 10) (v := .ref (a 0)) (C := RX12) (T := TX12) (N := 20) hx hb hts izRX12 hown hK hP 0 rfl rfl 1 (by decide) (hts _ k815) (fun _ h9 => h9) rfl dX12_send_46 ?_
      refine lv_bipush (v := 8) hx hb dX12_send_49 (by decide) ?_
      refine va_iald hx hb hK hP 1 0 rfl rfl (zin rfl) dX12_send_51 ?_
      refine zg (fun x_13 => ?_)
      refine lv_aload_n hx hb dX12_send_52 rfl (lv_at hl 0 rfl) ?_
      refine va_get (D := g.1) (ci := 10) (v := .ref (a 0)) (C := RX12) (T := TX12) (N := 20) hx hb hts izRX12 hown hK hP 0 rfl rfl 1 (by decide) (hts _ k815) (fun _ h9 => h9) rfl dX12_send_53 ?_
      refine lv_bipush (v := 6) hx hb dX12_send_56 (by decide) ?_
      refine va_iald hx hb hK hP 1 0 rfl rfl (zin rfl) dX12_send_58 ?_
      refine zg (fun x_14 => ?_)
      refine lv_iadd hx hb dX12_send_59 ?_
      refine zg (fun x_15 => ?_)
      have hL4 : (4 : Int32).toInt = 4 := by decide
      refine mcallV' (g := g) (q0 := 0) (ci := 10) (As := [.int x, .int 4, .int x_15]) (rest := []) St hK hT hA hP hD hS hl.1 [0] [] rfl rfl rfl (m_put l g o a 0 hi ac2_10 tp ba en tA fl de iD iO tU fm fk fa fc2_11 ft ff fb fi x 4 x_15 (by first | assumption | omega | decide | exact Or.inl (by decide) | exact Or.inr (by decide)) (by first | assumption | omega | decide | exact Or.inl (by decide) | exact Or.inr (by decide)) (by decide)) (cwV 3 hts (zgL (zl4 k908 k909 k910 k837) k830) rfl rfl rfl (by decide +kernel) ⟨Nat.le_of_ble_eq_true rfl, Nat.le_of_ble_eq_true rfl⟩) rfl rfl rfl rfl (Nat.le_of_ble_eq_true rfl) dX12_send_60 ⟨(Nat.le_of_ble_eq_true rfl), (Nat.le_of_ble_eq_true rfl)⟩ (fun fm2_16 H locs hq17 hP hD hS => ?_)
      replace hq17 : (rM fm2_16) ∧ ((fm2_16 3).toInt = (fm 3).toInt ∧ (fm2_16 4).toInt = (fm 4).toInt) := hq17
      have hP : va_P g.1 vwCl (List.flatten [bMo g o a 0 hi ac2_10 tp ba en tA fl de iD iO tU fm2_16 fk fa fc2_11 ft ff fb fi]) H := hP
      have hD : va_D A (List.flatten [bMo g o a 0 hi ac2_10 tp ba en tA fl de iD iO tU fm2_16 fk fa fc2_11 ft ff fb fi]) := hD
      refine W.widen (k := 0) (n := 0) (Nat.le_of_ble_eq_true rfl) (Nat.le_of_ble_eq_true rfl) ?_
      refine W.eq (g2 := F0 m 63 ls []) rfl ?_
      obtain ⟨rfm2_16, hq17_1⟩ := hq17
      refine lv_aload_n hx hb dX12_send_63 rfl (lv_at hl 0 rfl) ?_
      refine lv_iload_n hx hb dX12_send_64 rfl (lv_at hl 1 rfl) ?_
      refine lv_iconst (v := 4) hx hb dX12_send_65 (by decide) ?_
      refine mcallV' (g := g) (q0 := 0) (ci := 10) (As := [.int x, .int 4]) (rest := []) St hK hT hA hP hD hS hl.1 [0] [] rfl rfl rfl (m_of l g o a 0 hi ac2_10 tp ba en tA fl de iD iO tU fm2_16 fk fa fc2_11 ft ff fb fi x 4 (by first | assumption | omega | decide | exact Or.inl (by decide) | exact Or.inr (by decide)) (by decide)) (cwV 2 hts (zgL (zl4 k840 k841 k842 k837) k829) rfl rfl rfl (by decide +kernel) ⟨Nat.le_of_ble_eq_true rfl, Nat.le_of_ble_eq_true rfl⟩) rfl rfl rfl rfl (Nat.le_of_ble_eq_true rfl) dX12_send_66 ⟨(Nat.le_of_ble_eq_true rfl), (Nat.le_of_ble_eq_true rfl)⟩ (fun q_18 H locs hq19 hP hD hS => ?_)
      have hP : va_P g.1 vwCl (List.flatten [bMo g o a 0 hi ac2_10 tp ba en tA fl de iD iO tU fm2_16 fk fa fc2_11 ft ff fb fi]) H := hP
      have hD : va_D A (List.flatten [bMo g o a 0 hi ac2_10 tp ba en tA fl de iD iO tU fm2_16 fk fa fc2_11 ft ff fb fi]) := hD
      refine W.widen (k := 0) (n := 0) (Nat.le_of_ble_eq_true rfl) (Nat.le_of_ble_eq_true rfl) ?_
      refine W.eq (g2 := F0 m 69 ls [.int q_18]) rfl ?_
      have hP : va_P g.1 vwCl (List.flatten [bMo g o a 0 hi ac2_10 tp ba en tA fl de iD iO tU fm2_16 fk fa fc2_11 ft ff fb fi]) H := hP
      have hD : va_D A (List.flatten [bMo g o a 0 hi ac2_10 tp ba en tA fl de iD iO tU fm2_16 fk fa fc2_11 ft ff fb fi]) := hD
      exact mret_i hx hb hr hlocks hS (Nat.le_of_ble_eq_true rfl) (Nat.le_of_ble_eq_true rfl) dX12_send_69 ((0 : Int32), ac2_10, fc2_11, fm2_16, q_18) rfl (show (rM fm2_16) ∧ (rC fc2_11) ∧ (0 ≤ ac2_10.toInt ∧ ac2_10.toInt ≤ 12) from ⟨(by first | assumption | omega | decide | exact rfl | exact zb01 (by omega) | exact Or.inl (by decide) | exact Or.inr (by first | omega | decide)), (by first | assumption | omega | decide | exact rfl | exact zb01 (by omega) | exact Or.inl (by decide) | exact Or.inr (by first | omega | decide)), (by first | assumption | omega | decide | exact rfl | exact zb01 (by omega) | exact Or.inl (by decide) | exact Or.inr (by first | omega | decide))⟩) hP hD
  · skip
    refine lv_if_ne (tgt := 13) hx hb dX12_send_6 (by decide) (fun c20 => absurd (by decide) c20) (fun _ => ?_)
    refine lv_iconst (v := 1) hx hb dX12_send_9 (by decide) ?_
    refine lv_goto (tgt := 26) hx hb dX12_send_10 (by decide) ?_
    refine va_put (D := g.1) (ci := 10) (v := .int 1) (ty := .int) (C := RX12) (T := TX12) (N := 20) hx hb hts izRX12 tyX12 tyX12_ok nmX12 hown hK hP hD hS 0 rfl rfl 0 (by decide) (hts _ k871) (fun _ h9 => h9) rfl (by decide +kernel) rfl rfl (Nat.le_of_ble_eq_true rfl) dX12_send_26 (fun H locs hP hD hS => ?_)
    have hP : va_P g.1 vwCl (List.flatten [bMo g o a 1 hi ac tp ba en tA fl de iD iO tU fm fk fa fc ft ff fb fi]) H := hP
    have hD : va_D A (List.flatten [bMo g o a 1 hi ac tp ba en tA fl de iD iO tU fm fk fa fc ft ff fb fi]) := hD
    refine lv_aload_n hx hb dX12_send_29 rfl (lv_at hl 0 rfl) ?_
    refine va_get (D := g.1) (ci := 10) (v := .int 1) (C := RX12) (T := TX12) (N := 20) hx hb hts izRX12 hown hK hP 0 rfl rfl 0 (by decide) (hts _ k871) (fun _ h9 => h9) rfl dX12_send_30 ?_
    refine lv_if_le (tgt := 38) hx hb dX12_send_33 (by decide) (fun c21 => absurd c21 (by decide)) (fun _ => ?_)
    refine lv_iconst (v := 0) hx hb dX12_send_36 (by decide) ?_
    have hP : va_P g.1 vwCl (List.flatten [bMo g o a 1 hi ac tp ba en tA fl de iD iO tU fm fk fa fc ft ff fb fi]) H := hP
    have hD : va_D A (List.flatten [bMo g o a 1 hi ac tp ba en tA fl de iD iO tU fm fk fa fc ft ff fb fi]) := hD
    exact mret_i hx hb hr hlocks hS (Nat.le_of_ble_eq_true rfl) (Nat.le_of_ble_eq_true rfl) dX12_send_37 ((1 : Int32), ac, fc, fm, (0 : Int32)) rfl (show (rM fm) ∧ (rC fc) ∧ (0 ≤ ac.toInt ∧ ac.toInt ≤ 12) from ⟨(by first | assumption | omega | decide | exact rfl | exact zb01 (by omega) | exact Or.inl (by decide) | exact Or.inr (by first | omega | decide)), (by first | assumption | omega | decide | exact rfl | exact zb01 (by omega) | exact Or.inl (by decide) | exact Or.inr (by first | omega | decide)), (by first | assumption | omega | decide | exact rfl | exact zb01 (by omega) | exact Or.inl (by decide) | exact Or.inr (by first | omega | decide))⟩) hP hD
set_option maxRecDepth 100000 in
set_option maxHeartbeats 4000000 in
theorem m_buy (l : Launch) (g : zG) (o : Nat) (a : Nat → Nat) (th : Int32) (hi : Int32) (ac : Int32) (tp : Int32) (ba : Int32) (en : Int32) (tA : Int32) (fl : Int32) (de : Int32) (iD : Int32) (iO : Int32) (tU : Int32) (fm : Nat → Int32) (fk : Nat → Int32) (fa : Nat → Int32) (fc : Nat → Int32) (ft : Nat → Int32) (ff : Nat → Int32) (fb : Nat → Int32) (fi : Nat → Int32) (x : Int32) (n : Int32) (rfm : rM fm) (rfc : rC fc) (hac : 0 ≤ ac.toInt ∧ ac.toInt ≤ 12) : zM' g l yX12_buy (Cond.code yX12_buy cX12_buy 4 (some .int) :: zB) ({ frames := 5, cells := 0, slots := 0, locals := 106 } : Room) [.ref o, .int x, .int n] [bMo g o a th hi ac tp ba en tA fl de iD iO tU fm fk fa fc ft ff fb fi] (fun u : Int32 × Int32 × (Nat → Int32) × (Nat → Int32) × Int32 => (fun (th2 : Int32) (ac2 : Int32) (fc2 : Nat → Int32) (fm2 : Nat → Int32) (q : Int32) => some (.int q)) (u.1) (u.2.1) (u.2.2.1) (u.2.2.2.1) (u.2.2.2.2)) (fun u : Int32 × Int32 × (Nat → Int32) × (Nat → Int32) × Int32 => (fun (th2 : Int32) (ac2 : Int32) (fc2 : Nat → Int32) (fm2 : Nat → Int32) (q : Int32) => (rM fm2) ∧ (rC fc2) ∧ (0 ≤ ac2.toInt ∧ ac2.toInt ≤ 12)) (u.1) (u.2.1) (u.2.2.1) (u.2.2.2.1) (u.2.2.2.2)) (fun u : Int32 × Int32 × (Nat → Int32) × (Nat → Int32) × Int32 => (fun (th2 : Int32) (ac2 : Int32) (fc2 : Nat → Int32) (fm2 : Nat → Int32) (q : Int32) => [bMo g o a th2 hi ac2 tp ba en tA fl de iD iO tU fm2 fk fa fc2 ft ff fb fi]) (u.1) (u.2.1) (u.2.2.1) (u.2.2.2.1) (u.2.2.2.2)) := by
  refine zM'.of (cc := cX12_buy) (maxL := 4) (rt := (some .int)) (by decide) rfl (Nat.le_of_ble_eq_true rfl) ?_
  intro p e s m args below meth c A ls St hr hlocks hin hK hT hA hP hD hS hl
  obtain ⟨hx, hb, hml, hown, hts⟩ := id St
  have hl : lv_has ls 4 [(0, .ref o), (1, .int x), (2, .int n)] := hl
  refine lv_aload_n hx hb dX12_buy_0 rfl (lv_at hl 0 rfl) ?_
  refine lv_aload_n hx hb dX12_buy_1 rfl (lv_at hl 0 rfl) ?_
  refine lv_iload_n hx hb dX12_buy_2 rfl (lv_at hl 1 rfl) ?_
  refine mcallV' (g := g) (q0 := 0) (ci := 10) (As := [.int x]) (rest := [.ref o]) St hK hT hA hP hD hS hl.1 [0] [] rfl rfl rfl (m_isPerson l g o a th hi ac tp ba en tA fl de iD iO tU fm fk fa fc ft ff fb fi x (by first | assumption | omega | decide | exact Or.inl (by decide) | exact Or.inr (by decide))) (cwV 1 hts (zgL (zl4 k1032 k1033 k1034 k837) k834) rfl rfl rfl (by decide +kernel) ⟨Nat.le_of_ble_eq_true rfl, Nat.le_of_ble_eq_true rfl⟩) rfl rfl rfl rfl (Nat.le_of_ble_eq_true rfl) dX12_buy_3 ⟨(Nat.le_of_ble_eq_true rfl), (Nat.le_of_ble_eq_true rfl)⟩ (fun q_1 H locs hq2 hP hD hS => ?_)
  replace hq2 : (q_1 = 1 ∧ 0 ≤ x.toInt ∧ x.toInt ≤ 7 ∧ x.toInt < (fm 3).toInt ∨ q_1 = 0) := hq2
  have hP : va_P g.1 vwCl (List.flatten [bMo g o a th hi ac tp ba en tA fl de iD iO tU fm fk fa fc ft ff fb fi]) H := hP
  have hD : va_D A (List.flatten [bMo g o a th hi ac tp ba en tA fl de iD iO tU fm fk fa fc ft ff fb fi]) := hD
  refine W.widen (k := 0) (n := 0) (Nat.le_of_ble_eq_true rfl) (Nat.le_of_ble_eq_true rfl) ?_
  refine W.eq (g2 := F0 m 6 ls [.int q_1, .ref o]) rfl ?_
  rcases hq2 with ⟨rfl, hq2_k⟩ | rfl
  · skip
    refine lv_if_ne (tgt := 13) hx hb dX12_buy_6 (by decide) (fun _ => ?_) (fun c3 => absurd c3 (by decide))
    refine lv_iload_n hx hb dX12_buy_13 rfl (lv_at hl 2 rfl) ?_
    refine lv_iconst (v := 1) hx hb dX12_buy_14 (by decide) ?_
    refine lv_bipush (v := 99) hx hb dX12_buy_15 (by decide) ?_
    have hL1 : (1 : Int32).toInt = 1 := by decide
    have hL99 : (99 : Int32).toInt = 99 := by decide
    refine mcallS' (g := g) (As := [.int n, .int 1, .int 99]) (rest := [.ref o]) St hK hT hA hP hD hS hl.1 [] [0] rfl rfl rfl (m_isIn l g n 1 99 ) (va_cwS 3 hts (zgL (zl3 k835 k836 k837) k824) rfl rfl rfl (by decide +kernel) ⟨Nat.le_of_ble_eq_true rfl, Nat.le_of_ble_eq_true rfl⟩) rfl rfl (Nat.le_of_ble_eq_true rfl) dX12_buy_17 ⟨(Nat.le_of_ble_eq_true rfl), (Nat.le_of_ble_eq_true rfl)⟩ (fun q_4 H locs hq5 hP hD hS => ?_)
    replace hq5 : (q_4 = 1 ∧ (1 : Int32).toInt ≤ n.toInt ∧ n.toInt ≤ (99 : Int32).toInt ∨ q_4 = 0 ∧ (n.toInt < (1 : Int32).toInt ∨ (99 : Int32).toInt < n.toInt)) := hq5
    have hP : va_P g.1 vwCl (List.flatten [bMo g o a th hi ac tp ba en tA fl de iD iO tU fm fk fa fc ft ff fb fi]) H := hP
    have hD : va_D A (List.flatten [bMo g o a th hi ac tp ba en tA fl de iD iO tU fm fk fa fc ft ff fb fi]) := hD
    refine W.widen (k := 0) (n := 0) (Nat.le_of_ble_eq_true rfl) (Nat.le_of_ble_eq_true rfl) ?_
    refine W.eq (g2 := F0 m 20 ls [.int q_4, .ref o]) rfl ?_
    rcases hq5 with ⟨rfl, hq5_k⟩ | ⟨rfl, hq5_k⟩
    · skip
      refine lv_if_ne (tgt := 27) hx hb dX12_buy_20 (by decide) (fun _ => ?_) (fun c6 => absurd c6 (by decide))
      refine lv_aload_n hx hb dX12_buy_27 rfl (lv_at hl 0 rfl) ?_
      refine lv_iload_n hx hb dX12_buy_28 rfl (lv_at hl 1 rfl) ?_
      refine lv_iconst (v := 2) hx hb dX12_buy_29 (by decide) ?_
      have hL2 : (2 : Int32).toInt = 2 := by decide
      refine mcallV' (g := g) (q0 := 0) (ci := 10) (As := [.int x, .int 2]) (rest := [.ref o]) St hK hT hA hP hD hS hl.1 [0] [] rfl rfl rfl (m_of l g o a th hi ac tp ba en tA fl de iD iO tU fm fk fa fc ft ff fb fi x 2 (by first | assumption | omega | decide | exact Or.inl (by decide) | exact Or.inr (by decide)) (by decide)) (cwV 2 hts (zgL (zl4 k840 k841 k842 k837) k829) rfl rfl rfl (by decide +kernel) ⟨Nat.le_of_ble_eq_true rfl, Nat.le_of_ble_eq_true rfl⟩) rfl rfl rfl rfl (Nat.le_of_ble_eq_true rfl) dX12_buy_30 ⟨(Nat.le_of_ble_eq_true rfl), (Nat.le_of_ble_eq_true rfl)⟩ (fun q_7 H locs hq8 hP hD hS => ?_)
      have hP : va_P g.1 vwCl (List.flatten [bMo g o a th hi ac tp ba en tA fl de iD iO tU fm fk fa fc ft ff fb fi]) H := hP
      have hD : va_D A (List.flatten [bMo g o a th hi ac tp ba en tA fl de iD iO tU fm fk fa fc ft ff fb fi]) := hD
      refine W.widen (k := 0) (n := 0) (Nat.le_of_ble_eq_true rfl) (Nat.le_of_ble_eq_true rfl) ?_
      refine W.eq (g2 := F0 m 33 ls [.int q_7, .ref o]) rfl ?_
      refine lv_iload_n hx hb dX12_buy_33 rfl (lv_at hl 2 rfl) ?_
      refine lv_iadd hx hb dX12_buy_34 ?_
      refine zg (fun x_9 => ?_)
      refine lv_bipush (v := 99) hx hb dX12_buy_35 (by decide) ?_
      refine lv_icmp_gt (tgt := 55) hx hb dX12_buy_37 (by decide) (fun cb9 => ?_) (fun cb9 => ?_)
      · skip
        have c10 : 99 < x_9.toInt := zlti cb9 (by decide) rfl
        have n11 : 100 ≤ x_9.toInt := zL2 (a := 99) c10 (Int.le_refl _) (by decide)
        refine lv_iconst (v := 3) hx hb dX12_buy_55 (by decide) ?_
        refine lv_goto (tgt := 60) hx hb dX12_buy_56 (by decide) ?_
        refine va_put (D := g.1) (ci := 10) (v := .int 3) (ty := .int) (C := RX12) (T := TX12) (N := 20) hx hb hts izRX12 tyX12 tyX12_ok nmX12 hown hK hP hD hS 0 rfl rfl 0 (by decide) (hts _ k871) (fun _ h9 => h9) rfl (by decide +kernel) rfl rfl (Nat.le_of_ble_eq_true rfl) dX12_buy_60 (fun H locs hP hD hS => ?_)
        have hP : va_P g.1 vwCl (List.flatten [bMo g o a 3 hi ac tp ba en tA fl de iD iO tU fm fk fa fc ft ff fb fi]) H := hP
        have hD : va_D A (List.flatten [bMo g o a 3 hi ac tp ba en tA fl de iD iO tU fm fk fa fc ft ff fb fi]) := hD
        refine lv_aload_n hx hb dX12_buy_63 rfl (lv_at hl 0 rfl) ?_
        refine va_get (D := g.1) (ci := 10) (v := .int 3) (C := RX12) (T := TX12) (N := 20) hx hb hts izRX12 hown hK hP 0 rfl rfl 0 (by decide) (hts _ k871) (fun _ h9 => h9) rfl dX12_buy_64 ?_
        refine lv_if_le (tgt := 72) hx hb dX12_buy_67 (by decide) (fun c12 => absurd c12 (by decide)) (fun _ => ?_)
        refine lv_iconst (v := 0) hx hb dX12_buy_70 (by decide) ?_
        have hP : va_P g.1 vwCl (List.flatten [bMo g o a 3 hi ac tp ba en tA fl de iD iO tU fm fk fa fc ft ff fb fi]) H := hP
        have hD : va_D A (List.flatten [bMo g o a 3 hi ac tp ba en tA fl de iD iO tU fm fk fa fc ft ff fb fi]) := hD
        exact mret_i hx hb hr hlocks hS (Nat.le_of_ble_eq_true rfl) (Nat.le_of_ble_eq_true rfl) dX12_buy_71 ((3 : Int32), ac, fc, fm, (0 : Int32)) rfl (show (rM fm) ∧ (rC fc) ∧ (0 ≤ ac.toInt ∧ ac.toInt ≤ 12) from ⟨(by first | assumption | omega | decide | exact rfl | exact zb01 (by omega) | exact Or.inl (by decide) | exact Or.inr (by first | omega | decide)), (by first | assumption | omega | decide | exact rfl | exact zb01 (by omega) | exact Or.inl (by decide) | exact Or.inr (by first | omega | decide)), (by first | assumption | omega | decide | exact rfl | exact zb01 (by omega) | exact Or.inl (by decide) | exact Or.inr (by first | omega | decide))⟩) hP hD
      · skip
        have c13 : x_9.toInt ≤ 99 := zle (Int32.not_lt.mp cb9) rfl (by decide)
        have n14 : x_9.toInt ≤ 99 := Int.le_trans c13 (Int.le_refl _)
        refine lv_aload_n hx hb dX12_buy_40 rfl (lv_at hl 0 rfl) ?_
        refine lv_iload_n hx hb dX12_buy_41 rfl (lv_at hl 1 rfl) ?_
        refine lv_iconst (v := 1) hx hb dX12_buy_42 (by decide) ?_
        refine mcallV' (g := g) (q0 := 0) (ci := 10) (As := [.int x, .int 1]) (rest := [.ref o]) St hK hT hA hP hD hS hl.1 [0] [] rfl rfl rfl (m_of l g o a th hi ac tp ba en tA fl de iD iO tU fm fk fa fc ft ff fb fi x 1 (by first | assumption | omega | decide | exact Or.inl (by decide) | exact Or.inr (by decide)) (by decide)) (cwV 2 hts (zgL (zl4 k840 k841 k842 k837) k829) rfl rfl rfl (by decide +kernel) ⟨Nat.le_of_ble_eq_true rfl, Nat.le_of_ble_eq_true rfl⟩) rfl rfl rfl rfl (Nat.le_of_ble_eq_true rfl) dX12_buy_43 ⟨(Nat.le_of_ble_eq_true rfl), (Nat.le_of_ble_eq_true rfl)⟩ (fun q_15 H locs hq16 hP hD hS => ?_)
        have hP : va_P g.1 vwCl (List.flatten [bMo g o a th hi ac tp ba en tA fl de iD iO tU fm fk fa fc ft ff fb fi]) H := hP
        have hD : va_D A (List.flatten [bMo g o a th hi ac tp ba en tA fl de iD iO tU fm fk fa fc ft ff fb fi]) := hD
        refine W.widen (k := 0) (n := 0) (Nat.le_of_ble_eq_true rfl) (Nat.le_of_ble_eq_true rfl) ?_
        refine W.eq (g2 := F0 m 46 ls [.int q_15, .ref o]) rfl ?_
        refine lv_iload_n hx hb dX12_buy_46 rfl (lv_at hl 2 rfl) ?_
        refine lv_aload_n hx hb dX12_buy_47 rfl (lv_at hl 0 rfl) ?_
        refine mcallV' (g := g) (q0 := 0) (ci := 10) (As := []) (rest := [.int n, .int q_15, .ref o]) St hK hT hA hP hD hS hl.1 [0] [] rfl rfl rfl (m_priceNow l g o a th hi ac tp ba en tA fl de iD iO tU fm fk fa fc ft ff fb fi (by first | assumption | omega | decide | exact Or.inl (by decide) | exact Or.inr (by decide))) (cwV 0 hts (zgL (zl4 k1028 k1029 k1030 k837) k860) rfl rfl rfl (by decide +kernel) ⟨Nat.le_of_ble_eq_true rfl, Nat.le_of_ble_eq_true rfl⟩) rfl rfl rfl rfl (Nat.le_of_ble_eq_true rfl) dX12_buy_48 ⟨(Nat.le_of_ble_eq_true rfl), (Nat.le_of_ble_eq_true rfl)⟩ (fun q_17 H locs hq18 hP hD hS => ?_)
        have hP : va_P g.1 vwCl (List.flatten [bMo g o a th hi ac tp ba en tA fl de iD iO tU fm fk fa fc ft ff fb fi]) H := hP
        have hD : va_D A (List.flatten [bMo g o a th hi ac tp ba en tA fl de iD iO tU fm fk fa fc ft ff fb fi]) := hD
        refine W.widen (k := 0) (n := 0) (Nat.le_of_ble_eq_true rfl) (Nat.le_of_ble_eq_true rfl) ?_
        refine W.eq (g2 := F0 m 51 ls [.int q_17, .int n, .int q_15, .ref o]) rfl ?_
        refine lv_imul hx hb dX12_buy_51 ?_
        refine zg (fun x_19 => ?_)
        refine lv_icmp_ge (tgt := 59) hx hb dX12_buy_52 (by decide) (fun cb9 => ?_) (fun cb9 => ?_)
        · skip
          have c20 : x_19.toInt ≤ q_15.toInt := zle cb9 rfl rfl
          refine lv_iconst (v := 0) hx hb dX12_buy_59 (by decide) ?_
          refine va_put (D := g.1) (ci := 10) (v := .int 0) (ty := .int) (C := RX12) (T := TX12) (N := 20) hx hb hts izRX12 tyX12 tyX12_ok nmX12 hown hK hP hD hS 0 rfl rfl 0 (by decide) (hts _ k871) (fun _ h9 => h9) rfl (by decide +kernel) rfl rfl (Nat.le_of_ble_eq_true rfl) dX12_buy_60 (fun H locs hP hD hS => ?_)
          have hP : va_P g.1 vwCl (List.flatten [bMo g o a 0 hi ac tp ba en tA fl de iD iO tU fm fk fa fc ft ff fb fi]) H := hP
          have hD : va_D A (List.flatten [bMo g o a 0 hi ac tp ba en tA fl de iD iO tU fm fk fa fc ft ff fb fi]) := hD
          refine lv_aload_n hx hb dX12_buy_63 rfl (lv_at hl 0 rfl) ?_
          refine va_get (D := g.1) (ci := 10) (v := .int 0) (C := RX12) (T := TX12) (N := 20) hx hb hts izRX12 hown hK hP 0 rfl rfl 0 (by decide) (hts _ k871) (fun _ h9 => h9) rfl dX12_buy_64 ?_
          refine lv_if_le (tgt := 72) hx hb dX12_buy_67 (by decide) (fun _ => ?_) (fun c21 => absurd (by decide) c21)
          refine lv_aload_n hx hb dX12_buy_72 rfl (lv_at hl 0 rfl) ?_
          refine mcallV' (g := g) (q0 := 0) (ci := 10) (As := []) (rest := []) St hK hT hA hP hD hS hl.1 [0] [] rfl rfl rfl (m_remembers l g o a 0 hi ac tp ba en tA fl de iD iO tU fm fk fa fc ft ff fb fi (by first | assumption | omega | decide | exact Or.inl (by decide) | exact Or.inr (by decide)) (by first | assumption | omega | decide | exact Or.inl (by decide) | exact Or.inr (by decide)) (⟨hac.1, hac.2⟩)) (cwV 0 hts (zgL (zl4 k1046 k1047 k1048 k837) k1045) rfl rfl rfl (by decide +kernel) ⟨Nat.le_of_ble_eq_true rfl, Nat.le_of_ble_eq_true rfl⟩) rfl rfl rfl rfl (Nat.le_of_ble_eq_true rfl) dX12_buy_73 ⟨(Nat.le_of_ble_eq_true rfl), (Nat.le_of_ble_eq_true rfl)⟩ (fun u_ H locs hq24 hP hD hS => ?_)
          obtain ⟨ac2_22, fc2_23⟩ := u_
          replace hq24 : (rC fc2_23) ∧ (0 ≤ ac2_22.toInt ∧ ac2_22.toInt ≤ 12) := hq24
          have hP : va_P g.1 vwCl (List.flatten [bMo g o a 0 hi ac2_22 tp ba en tA fl de iD iO tU fm fk fa fc2_23 ft ff fb fi]) H := hP
          have hD : va_D A (List.flatten [bMo g o a 0 hi ac2_22 tp ba en tA fl de iD iO tU fm fk fa fc2_23 ft ff fb fi]) := hD
          refine W.widen (k := 0) (n := 0) (Nat.le_of_ble_eq_true rfl) (Nat.le_of_ble_eq_true rfl) ?_
          refine W.eq (g2 := F0 m 76 ls []) rfl ?_
          obtain ⟨rfc2_23, hq24_1⟩ := hq24
          refine lv_iload_n hx hb dX12_buy_76 rfl (lv_at hl 2 rfl) ?_
          refine lv_aload_n hx hb dX12_buy_77 rfl (lv_at hl 0 rfl) ?_
          refine mcallV' (g := g) (q0 := 0) (ci := 10) (As := []) (rest := [.int n]) St hK hT hA hP hD hS hl.1 [0] [] rfl rfl rfl (m_priceNow l g o a 0 hi ac2_22 tp ba en tA fl de iD iO tU fm fk fa fc2_23 ft ff fb fi (by first | assumption | omega | decide | exact Or.inl (by decide) | exact Or.inr (by decide))) (cwV 0 hts (zgL (zl4 k1028 k1029 k1030 k837) k860) rfl rfl rfl (by decide +kernel) ⟨Nat.le_of_ble_eq_true rfl, Nat.le_of_ble_eq_true rfl⟩) rfl rfl rfl rfl (Nat.le_of_ble_eq_true rfl) dX12_buy_78 ⟨(Nat.le_of_ble_eq_true rfl), (Nat.le_of_ble_eq_true rfl)⟩ (fun q_25 H locs hq26 hP hD hS => ?_)
          have hP : va_P g.1 vwCl (List.flatten [bMo g o a 0 hi ac2_22 tp ba en tA fl de iD iO tU fm fk fa fc2_23 ft ff fb fi]) H := hP
          have hD : va_D A (List.flatten [bMo g o a 0 hi ac2_22 tp ba en tA fl de iD iO tU fm fk fa fc2_23 ft ff fb fi]) := hD
          refine W.widen (k := 0) (n := 0) (Nat.le_of_ble_eq_true rfl) (Nat.le_of_ble_eq_true rfl) ?_
          refine W.eq (g2 := F0 m 81 ls [.int q_25, .int n]) rfl ?_
          refine lv_imul hx hb dX12_buy_81 ?_
          refine zg (fun x_27 => ?_)
          refine lv_istore_n (lv' := [(3, .int x_27), (0, .ref o), (1, .int x), (2, .int n)]) hx hb dX12_buy_82 rfl hl (by decide) rfl (fun ls hl => ?_)
          refine lv_aload_n hx hb dX12_buy_83 rfl (lv_at hl 1 rfl) ?_
          refine lv_iload_n hx hb dX12_buy_84 rfl (lv_at hl 2 rfl) ?_
          refine lv_iconst (v := 1) hx hb dX12_buy_85 (by decide) ?_
          refine lv_aload_n hx hb dX12_buy_86 rfl (lv_at hl 1 rfl) ?_
          refine lv_iload_n hx hb dX12_buy_87 rfl (lv_at hl 2 rfl) ?_
          refine lv_iconst (v := 1) hx hb dX12_buy_88 (by decide) ?_
          refine mcallV' (g := g) (q0 := 0) (ci := 10) (As := [.int x, .int 1]) (rest := [.int 1, .int x, .ref o]) St hK hT hA hP hD hS hl.1 [0] [] rfl rfl rfl (m_of l g o a 0 hi ac2_22 tp ba en tA fl de iD iO tU fm fk fa fc2_23 ft ff fb fi x 1 (by first | assumption | omega | decide | exact Or.inl (by decide) | exact Or.inr (by decide)) (by decide)) (cwV 2 hts (zgL (zl4 k840 k841 k842 k837) k829) rfl rfl rfl (by decide +kernel) ⟨Nat.le_of_ble_eq_true rfl, Nat.le_of_ble_eq_true rfl⟩) rfl rfl rfl rfl (Nat.le_of_ble_eq_true rfl) dX12_buy_89 ⟨(Nat.le_of_ble_eq_true rfl), (Nat.le_of_ble_eq_true rfl)⟩ (fun q_28 H locs hq29 hP hD hS => ?_)
          have hP : va_P g.1 vwCl (List.flatten [bMo g o a 0 hi ac2_22 tp ba en tA fl de iD iO tU fm fk fa fc2_23 ft ff fb fi]) H := hP
          have hD : va_D A (List.flatten [bMo g o a 0 hi ac2_22 tp ba en tA fl de iD iO tU fm fk fa fc2_23 ft ff fb fi]) := hD
          refine W.widen (k := 0) (n := 0) (Nat.le_of_ble_eq_true rfl) (Nat.le_of_ble_eq_true rfl) ?_
          refine W.eq (g2 := F0 m 92 ls [.int q_28, .int 1, .int x, .ref o]) rfl ?_
          refine lv_iload_n hx hb dX12_buy_92 rfl (lv_at hl 0 rfl) ?_
          refine lv_isub hx hb dX12_buy_93 ?_
          refine zg (fun x_30 => ?_)
          refine mcallV' (g := g) (q0 := 0) (ci := 10) (As := [.int x, .int 1, .int x_30]) (rest := []) St hK hT hA hP hD hS hl.1 [0] [] rfl rfl rfl (m_put l g o a 0 hi ac2_22 tp ba en tA fl de iD iO tU fm fk fa fc2_23 ft ff fb fi x 1 x_30 (by first | assumption | omega | decide | exact Or.inl (by decide) | exact Or.inr (by decide)) (by first | assumption | omega | decide | exact Or.inl (by decide) | exact Or.inr (by decide)) (by decide)) (cwV 3 hts (zgL (zl4 k908 k909 k910 k837) k830) rfl rfl rfl (by decide +kernel) ⟨Nat.le_of_ble_eq_true rfl, Nat.le_of_ble_eq_true rfl⟩) rfl rfl rfl rfl (Nat.le_of_ble_eq_true rfl) dX12_buy_94 ⟨(Nat.le_of_ble_eq_true rfl), (Nat.le_of_ble_eq_true rfl)⟩ (fun fm2_31 H locs hq32 hP hD hS => ?_)
          replace hq32 : (rM fm2_31) ∧ ((fm2_31 3).toInt = (fm 3).toInt ∧ (fm2_31 4).toInt = (fm 4).toInt) := hq32
          have hP : va_P g.1 vwCl (List.flatten [bMo g o a 0 hi ac2_22 tp ba en tA fl de iD iO tU fm2_31 fk fa fc2_23 ft ff fb fi]) H := hP
          have hD : va_D A (List.flatten [bMo g o a 0 hi ac2_22 tp ba en tA fl de iD iO tU fm2_31 fk fa fc2_23 ft ff fb fi]) := hD
          refine W.widen (k := 0) (n := 0) (Nat.le_of_ble_eq_true rfl) (Nat.le_of_ble_eq_true rfl) ?_
          refine W.eq (g2 := F0 m 97 ls []) rfl ?_
          obtain ⟨rfm2_31, hq32_1⟩ := hq32
          refine lv_aload_n hx hb dX12_buy_97 rfl (lv_at hl 1 rfl) ?_
          refine lv_iload_n hx hb dX12_buy_98 rfl (lv_at hl 2 rfl) ?_
          refine lv_iconst (v := 2) hx hb dX12_buy_99 (by decide) ?_
          refine lv_aload_n hx hb dX12_buy_100 rfl (lv_at hl 1 rfl) ?_
          refine lv_iload_n hx hb dX12_buy_101 rfl (lv_at hl 2 rfl) ?_
          refine lv_iconst (v := 2) hx hb dX12_buy_102 (by decide) ?_
          refine mcallV' (g := g) (q0 := 0) (ci := 10) (As := [.int x, .int 2]) (rest := [.int 2, .int x, .ref o]) St hK hT hA hP hD hS hl.1 [0] [] rfl rfl rfl (m_of l g o a 0 hi ac2_22 tp ba en tA fl de iD iO tU fm2_31 fk fa fc2_23 ft ff fb fi x 2 (by first | assumption | omega | decide | exact Or.inl (by decide) | exact Or.inr (by decide)) (by decide)) (cwV 2 hts (zgL (zl4 k840 k841 k842 k837) k829) rfl rfl rfl (by decide +kernel) ⟨Nat.le_of_ble_eq_true rfl, Nat.le_of_ble_eq_true rfl⟩) rfl rfl rfl rfl (Nat.le_of_ble_eq_true rfl) dX12_buy_103 ⟨(Nat.le_of_ble_eq_true rfl), (Nat.le_of_ble_eq_true rfl)⟩ (fun q_33 H locs hq34 hP hD hS => ?_)
          have hP : va_P g.1 vwCl (List.flatten [bMo g o a 0 hi ac2_22 tp ba en tA fl de iD iO tU fm2_31 fk fa fc2_23 ft ff fb fi]) H := hP
          have hD : va_D A (List.flatten [bMo g o a 0 hi ac2_22 tp ba en tA fl de iD iO tU fm2_31 fk fa fc2_23 ft ff fb fi]) := hD
          refine W.widen (k := 0) (n := 0) (Nat.le_of_ble_eq_true rfl) (Nat.le_of_ble_eq_true rfl) ?_
          refine W.eq (g2 := F0 m 106 ls [.int q_33, .int 2, .int x, .ref o]) rfl ?_
          refine lv_iload_n hx hb dX12_buy_106 rfl (lv_at hl 3 rfl) ?_
          refine lv_iadd hx hb dX12_buy_107 ?_
          refine zg (fun x_35 => ?_)
          refine mcallV' (g := g) (q0 := 0) (ci := 10) (As := [.int x, .int 2, .int x_35]) (rest := []) St hK hT hA hP hD hS hl.1 [0] [] rfl rfl rfl (m_put l g o a 0 hi ac2_22 tp ba en tA fl de iD iO tU fm2_31 fk fa fc2_23 ft ff fb fi x 2 x_35 (by first | assumption | omega | decide | exact Or.inl (by decide) | exact Or.inr (by decide)) (by first | assumption | omega | decide | exact Or.inl (by decide) | exact Or.inr (by decide)) (by decide)) (cwV 3 hts (zgL (zl4 k908 k909 k910 k837) k830) rfl rfl rfl (by decide +kernel) ⟨Nat.le_of_ble_eq_true rfl, Nat.le_of_ble_eq_true rfl⟩) rfl rfl rfl rfl (Nat.le_of_ble_eq_true rfl) dX12_buy_108 ⟨(Nat.le_of_ble_eq_true rfl), (Nat.le_of_ble_eq_true rfl)⟩ (fun fm2_36 H locs hq37 hP hD hS => ?_)
          replace hq37 : (rM fm2_36) ∧ ((fm2_36 3).toInt = (fm2_31 3).toInt ∧ (fm2_36 4).toInt = (fm2_31 4).toInt) := hq37
          have hP : va_P g.1 vwCl (List.flatten [bMo g o a 0 hi ac2_22 tp ba en tA fl de iD iO tU fm2_36 fk fa fc2_23 ft ff fb fi]) H := hP
          have hD : va_D A (List.flatten [bMo g o a 0 hi ac2_22 tp ba en tA fl de iD iO tU fm2_36 fk fa fc2_23 ft ff fb fi]) := hD
          refine W.widen (k := 0) (n := 0) (Nat.le_of_ble_eq_true rfl) (Nat.le_of_ble_eq_true rfl) ?_
          refine W.eq (g2 := F0 m 111 ls []) rfl ?_
          obtain ⟨rfm2_36, hq37_1⟩ := hq37
          refine lv_aload_n hx hb dX12_buy_111 rfl (lv_at hl 1 rfl) ?_
          refine va_get (D := g.1) (ci := 10) (v := .ref (a 0)) (C := RX12) (T := TX12) (N := 20) hx hb hts izRX12 hown hK hP 0 rfl rfl 1 (by decide) (hts _ k815) (fun _ h9 => h9) rfl dX12_buy_112 ?_
          refine lv_iconst (v := 5) hx hb dX12_buy_115 (by decide) ?_
          refine lv_sipush (v := 9999) hx hb dX12_buy_116 (by decide) ?_
          refine lv_aload_n hx hb dX12_buy_119 rfl (lv_at hl 1 rfl) ?_
          refine va_get (D := g.1) (ci := 10) (v := .ref (a 0)) (C := RX12) (T := TX12) (N := 20) hx hb hts izRX12 hown hK hP 0 rfl rfl 1 (by decide) (hts _ k815) (fun _ h9 => h9) rfl dX12_buy_120 ?_
          refine lv_iconst (v := 5) hx hb dX12_buy_123 (by decide) ?_
          refine va_iald hx hb hK hP 1 0 rfl rfl (zin rfl) dX12_buy_124 ?_
          refine zg (fun x_38 => ?_)
          refine lv_iload_n hx hb dX12_buy_125 rfl (lv_at hl 0 rfl) ?_
          refine lv_iadd hx hb dX12_buy_126 ?_
          refine zg (fun x_39 => ?_)
          have hL9999 : (9999 : Int32).toInt = 9999 := by decide
          refine mcallS' (g := g) (As := [.int 9999, .int x_39]) (rest := [.int 5, .ref (a 0)]) St hK hT hA hP hD hS hl.1 [] [0] rfl rfl rfl (m_lesser l g 9999 x_39 ) (va_cwS 2 hts (zgL (zl3 k999 k1000 k837) k825) rfl rfl rfl (by decide +kernel) ⟨Nat.le_of_ble_eq_true rfl, Nat.le_of_ble_eq_true rfl⟩) rfl rfl (Nat.le_of_ble_eq_true rfl) dX12_buy_127 ⟨(Nat.le_of_ble_eq_true rfl), (Nat.le_of_ble_eq_true rfl)⟩ (fun q_40 H locs hq41 hP hD hS => ?_)
          replace hq41 : (q_40.toInt ≤ (9999 : Int32).toInt ∧ q_40.toInt ≤ x_39.toInt ∧ (q_40.toInt = (9999 : Int32).toInt ∨ q_40.toInt = x_39.toInt)) := hq41
          have hP : va_P g.1 vwCl (List.flatten [bMo g o a 0 hi ac2_22 tp ba en tA fl de iD iO tU fm2_36 fk fa fc2_23 ft ff fb fi]) H := hP
          have hD : va_D A (List.flatten [bMo g o a 0 hi ac2_22 tp ba en tA fl de iD iO tU fm2_36 fk fa fc2_23 ft ff fb fi]) := hD
          refine W.widen (k := 0) (n := 0) (Nat.le_of_ble_eq_true rfl) (Nat.le_of_ble_eq_true rfl) ?_
          refine W.eq (g2 := F0 m 130 ls [.int q_40, .int 5, .ref (a 0)]) rfl ?_
          refine va_iast hx hb hK hP hD hS 1 0 rfl rfl (zin rfl) dX12_buy_130 (fun H locs hP hD hS => ?_)
          obtain ⟨fm_42, rfm_42, hP, hD⟩ : ∃ fm_42 : Nat → Int32, rM fm_42 ∧ va_P g.1 vwCl (List.flatten [bMo g o a 0 hi ac2_22 tp ba en tA fl de iD iO tU fm_42 fk fa fc2_23 ft ff fb fi]) H ∧ va_D A (List.flatten [bMo g o a 0 hi ac2_22 tp ba en tA fl de iD iO tU fm_42 fk fa fc2_23 ft ff fb fi]) := ⟨upd fm2_36 5 q_40, (rM_stL rfm2_36 (by decide)), hP, hD⟩
          refine lv_aload_n hx hb dX12_buy_131 rfl (lv_at hl 1 rfl) ?_
          refine lv_iload_n hx hb dX12_buy_132 rfl (lv_at hl 2 rfl) ?_
          refine lv_iconst (v := 1) hx hb dX12_buy_133 (by decide) ?_
          refine mcallV' (g := g) (q0 := 0) (ci := 10) (As := [.int x, .int 1]) (rest := []) St hK hT hA hP hD hS hl.1 [0] [] rfl rfl rfl (m_of l g o a 0 hi ac2_22 tp ba en tA fl de iD iO tU fm_42 fk fa fc2_23 ft ff fb fi x 1 (by first | assumption | omega | decide | exact Or.inl (by decide) | exact Or.inr (by decide)) (by decide)) (cwV 2 hts (zgL (zl4 k840 k841 k842 k837) k829) rfl rfl rfl (by decide +kernel) ⟨Nat.le_of_ble_eq_true rfl, Nat.le_of_ble_eq_true rfl⟩) rfl rfl rfl rfl (Nat.le_of_ble_eq_true rfl) dX12_buy_134 ⟨(Nat.le_of_ble_eq_true rfl), (Nat.le_of_ble_eq_true rfl)⟩ (fun q_43 H locs hq44 hP hD hS => ?_)
          have hP : va_P g.1 vwCl (List.flatten [bMo g o a 0 hi ac2_22 tp ba en tA fl de iD iO tU fm_42 fk fa fc2_23 ft ff fb fi]) H := hP
          have hD : va_D A (List.flatten [bMo g o a 0 hi ac2_22 tp ba en tA fl de iD iO tU fm_42 fk fa fc2_23 ft ff fb fi]) := hD
          refine W.widen (k := 0) (n := 0) (Nat.le_of_ble_eq_true rfl) (Nat.le_of_ble_eq_true rfl) ?_
          refine W.eq (g2 := F0 m 137 ls [.int q_43]) rfl ?_
          have hP : va_P g.1 vwCl (List.flatten [bMo g o a 0 hi ac2_22 tp ba en tA fl de iD iO tU fm_42 fk fa fc2_23 ft ff fb fi]) H := hP
          have hD : va_D A (List.flatten [bMo g o a 0 hi ac2_22 tp ba en tA fl de iD iO tU fm_42 fk fa fc2_23 ft ff fb fi]) := hD
          exact mret_i hx hb hr hlocks hS (Nat.le_of_ble_eq_true rfl) (Nat.le_of_ble_eq_true rfl) dX12_buy_137 ((0 : Int32), ac2_22, fc2_23, fm_42, q_43) rfl (show (rM fm_42) ∧ (rC fc2_23) ∧ (0 ≤ ac2_22.toInt ∧ ac2_22.toInt ≤ 12) from ⟨(by first | assumption | omega | decide | exact rfl | exact zb01 (by omega) | exact Or.inl (by decide) | exact Or.inr (by first | omega | decide)), (by first | assumption | omega | decide | exact rfl | exact zb01 (by omega) | exact Or.inl (by decide) | exact Or.inr (by first | omega | decide)), (by first | assumption | omega | decide | exact rfl | exact zb01 (by omega) | exact Or.inl (by decide) | exact Or.inr (by first | omega | decide))⟩) hP hD
        · skip
          have c45 : q_15.toInt < x_19.toInt := zlti (Int32.not_le.mp cb9) rfl rfl
          refine lv_iconst (v := 3) hx hb dX12_buy_55 (by decide) ?_
          refine lv_goto (tgt := 60) hx hb dX12_buy_56 (by decide) ?_
          refine va_put (D := g.1) (ci := 10) (v := .int 3) (ty := .int) (C := RX12) (T := TX12) (N := 20) hx hb hts izRX12 tyX12 tyX12_ok nmX12 hown hK hP hD hS 0 rfl rfl 0 (by decide) (hts _ k871) (fun _ h9 => h9) rfl (by decide +kernel) rfl rfl (Nat.le_of_ble_eq_true rfl) dX12_buy_60 (fun H locs hP hD hS => ?_)
          have hP : va_P g.1 vwCl (List.flatten [bMo g o a 3 hi ac tp ba en tA fl de iD iO tU fm fk fa fc ft ff fb fi]) H := hP
          have hD : va_D A (List.flatten [bMo g o a 3 hi ac tp ba en tA fl de iD iO tU fm fk fa fc ft ff fb fi]) := hD
          refine lv_aload_n hx hb dX12_buy_63 rfl (lv_at hl 0 rfl) ?_
          refine va_get (D := g.1) (ci := 10) (v := .int 3) (C := RX12) (T := TX12) (N := 20) hx hb hts izRX12 hown hK hP 0 rfl rfl 0 (by decide) (hts _ k871) (fun _ h9 => h9) rfl dX12_buy_64 ?_
          refine lv_if_le (tgt := 72) hx hb dX12_buy_67 (by decide) (fun c46 => absurd c46 (by decide)) (fun _ => ?_)
          refine lv_iconst (v := 0) hx hb dX12_buy_70 (by decide) ?_
          have hP : va_P g.1 vwCl (List.flatten [bMo g o a 3 hi ac tp ba en tA fl de iD iO tU fm fk fa fc ft ff fb fi]) H := hP
          have hD : va_D A (List.flatten [bMo g o a 3 hi ac tp ba en tA fl de iD iO tU fm fk fa fc ft ff fb fi]) := hD
          exact mret_i hx hb hr hlocks hS (Nat.le_of_ble_eq_true rfl) (Nat.le_of_ble_eq_true rfl) dX12_buy_71 ((3 : Int32), ac, fc, fm, (0 : Int32)) rfl (show (rM fm) ∧ (rC fc) ∧ (0 ≤ ac.toInt ∧ ac.toInt ≤ 12) from ⟨(by first | assumption | omega | decide | exact rfl | exact zb01 (by omega) | exact Or.inl (by decide) | exact Or.inr (by first | omega | decide)), (by first | assumption | omega | decide | exact rfl | exact zb01 (by omega) | exact Or.inl (by decide) | exact Or.inr (by first | omega | decide)), (by first | assumption | omega | decide | exact rfl | exact zb01 (by omega) | exact Or.inl (by decide) | exact Or.inr (by first | omega | decide))⟩) hP hD
    · skip
      refine lv_if_ne (tgt := 27) hx hb dX12_buy_20 (by decide) (fun c47 => absurd (by decide) c47) (fun _ => ?_)
      refine lv_iconst (v := 2) hx hb dX12_buy_23 (by decide) ?_
      refine lv_goto (tgt := 60) hx hb dX12_buy_24 (by decide) ?_
      refine va_put (D := g.1) (ci := 10) (v := .int 2) (ty := .int) (C := RX12) (T := TX12) (N := 20) hx hb hts izRX12 tyX12 tyX12_ok nmX12 hown hK hP hD hS 0 rfl rfl 0 (by decide) (hts _ k871) (fun _ h9 => h9) rfl (by decide +kernel) rfl rfl (Nat.le_of_ble_eq_true rfl) dX12_buy_60 (fun H locs hP hD hS => ?_)
      have hP : va_P g.1 vwCl (List.flatten [bMo g o a 2 hi ac tp ba en tA fl de iD iO tU fm fk fa fc ft ff fb fi]) H := hP
      have hD : va_D A (List.flatten [bMo g o a 2 hi ac tp ba en tA fl de iD iO tU fm fk fa fc ft ff fb fi]) := hD
      refine lv_aload_n hx hb dX12_buy_63 rfl (lv_at hl 0 rfl) ?_
      refine va_get (D := g.1) (ci := 10) (v := .int 2) (C := RX12) (T := TX12) (N := 20) hx hb hts izRX12 hown hK hP 0 rfl rfl 0 (by decide) (hts _ k871) (fun _ h9 => h9) rfl dX12_buy_64 ?_
      refine lv_if_le (tgt := 72) hx hb dX12_buy_67 (by decide) (fun c48 => absurd c48 (by decide)) (fun _ => ?_)
      refine lv_iconst (v := 0) hx hb dX12_buy_70 (by decide) ?_
      have hP : va_P g.1 vwCl (List.flatten [bMo g o a 2 hi ac tp ba en tA fl de iD iO tU fm fk fa fc ft ff fb fi]) H := hP
      have hD : va_D A (List.flatten [bMo g o a 2 hi ac tp ba en tA fl de iD iO tU fm fk fa fc ft ff fb fi]) := hD
      exact mret_i hx hb hr hlocks hS (Nat.le_of_ble_eq_true rfl) (Nat.le_of_ble_eq_true rfl) dX12_buy_71 ((2 : Int32), ac, fc, fm, (0 : Int32)) rfl (show (rM fm) ∧ (rC fc) ∧ (0 ≤ ac.toInt ∧ ac.toInt ≤ 12) from ⟨(by first | assumption | omega | decide | exact rfl | exact zb01 (by omega) | exact Or.inl (by decide) | exact Or.inr (by first | omega | decide)), (by first | assumption | omega | decide | exact rfl | exact zb01 (by omega) | exact Or.inl (by decide) | exact Or.inr (by first | omega | decide)), (by first | assumption | omega | decide | exact rfl | exact zb01 (by omega) | exact Or.inl (by decide) | exact Or.inr (by first | omega | decide))⟩) hP hD
  · skip
    refine lv_if_ne (tgt := 13) hx hb dX12_buy_6 (by decide) (fun c49 => absurd (by decide) c49) (fun _ => ?_)
    refine lv_iconst (v := 1) hx hb dX12_buy_9 (by decide) ?_
    refine lv_goto (tgt := 60) hx hb dX12_buy_10 (by decide) ?_
    refine va_put (D := g.1) (ci := 10) (v := .int 1) (ty := .int) (C := RX12) (T := TX12) (N := 20) hx hb hts izRX12 tyX12 tyX12_ok nmX12 hown hK hP hD hS 0 rfl rfl 0 (by decide) (hts _ k871) (fun _ h9 => h9) rfl (by decide +kernel) rfl rfl (Nat.le_of_ble_eq_true rfl) dX12_buy_60 (fun H locs hP hD hS => ?_)
    have hP : va_P g.1 vwCl (List.flatten [bMo g o a 1 hi ac tp ba en tA fl de iD iO tU fm fk fa fc ft ff fb fi]) H := hP
    have hD : va_D A (List.flatten [bMo g o a 1 hi ac tp ba en tA fl de iD iO tU fm fk fa fc ft ff fb fi]) := hD
    refine lv_aload_n hx hb dX12_buy_63 rfl (lv_at hl 0 rfl) ?_
    refine va_get (D := g.1) (ci := 10) (v := .int 1) (C := RX12) (T := TX12) (N := 20) hx hb hts izRX12 hown hK hP 0 rfl rfl 0 (by decide) (hts _ k871) (fun _ h9 => h9) rfl dX12_buy_64 ?_
    refine lv_if_le (tgt := 72) hx hb dX12_buy_67 (by decide) (fun c50 => absurd c50 (by decide)) (fun _ => ?_)
    refine lv_iconst (v := 0) hx hb dX12_buy_70 (by decide) ?_
    have hP : va_P g.1 vwCl (List.flatten [bMo g o a 1 hi ac tp ba en tA fl de iD iO tU fm fk fa fc ft ff fb fi]) H := hP
    have hD : va_D A (List.flatten [bMo g o a 1 hi ac tp ba en tA fl de iD iO tU fm fk fa fc ft ff fb fi]) := hD
    exact mret_i hx hb hr hlocks hS (Nat.le_of_ble_eq_true rfl) (Nat.le_of_ble_eq_true rfl) dX12_buy_71 ((1 : Int32), ac, fc, fm, (0 : Int32)) rfl (show (rM fm) ∧ (rC fc) ∧ (0 ≤ ac.toInt ∧ ac.toInt ≤ 12) from ⟨(by first | assumption | omega | decide | exact rfl | exact zb01 (by omega) | exact Or.inl (by decide) | exact Or.inr (by first | omega | decide)), (by first | assumption | omega | decide | exact rfl | exact zb01 (by omega) | exact Or.inl (by decide) | exact Or.inr (by first | omega | decide)), (by first | assumption | omega | decide | exact rfl | exact zb01 (by omega) | exact Or.inl (by decide) | exact Or.inr (by first | omega | decide))⟩) hP hD
set_option maxRecDepth 100000 in
set_option maxHeartbeats 4000000 in
theorem m_sell (l : Launch) (g : zG) (o : Nat) (a : Nat → Nat) (th : Int32) (hi : Int32) (ac : Int32) (tp : Int32) (ba : Int32) (en : Int32) (tA : Int32) (fl : Int32) (de : Int32) (iD : Int32) (iO : Int32) (tU : Int32) (fm : Nat → Int32) (fk : Nat → Int32) (fa : Nat → Int32) (fc : Nat → Int32) (ft : Nat → Int32) (ff : Nat → Int32) (fb : Nat → Int32) (fi : Nat → Int32) (x : Int32) (n : Int32) (rfm : rM fm) (rfc : rC fc) (hac : 0 ≤ ac.toInt ∧ ac.toInt ≤ 12) : zM' g l yX12_sell (Cond.code yX12_sell cX12_sell 4 (some .int) :: zB) ({ frames := 5, cells := 0, slots := 0, locals := 106 } : Room) [.ref o, .int x, .int n] [bMo g o a th hi ac tp ba en tA fl de iD iO tU fm fk fa fc ft ff fb fi] (fun u : Int32 × Int32 × (Nat → Int32) × (Nat → Int32) × Int32 => (fun (th2 : Int32) (ac2 : Int32) (fc2 : Nat → Int32) (fm2 : Nat → Int32) (q : Int32) => some (.int q)) (u.1) (u.2.1) (u.2.2.1) (u.2.2.2.1) (u.2.2.2.2)) (fun u : Int32 × Int32 × (Nat → Int32) × (Nat → Int32) × Int32 => (fun (th2 : Int32) (ac2 : Int32) (fc2 : Nat → Int32) (fm2 : Nat → Int32) (q : Int32) => (rM fm2) ∧ (rC fc2) ∧ (0 ≤ ac2.toInt ∧ ac2.toInt ≤ 12)) (u.1) (u.2.1) (u.2.2.1) (u.2.2.2.1) (u.2.2.2.2)) (fun u : Int32 × Int32 × (Nat → Int32) × (Nat → Int32) × Int32 => (fun (th2 : Int32) (ac2 : Int32) (fc2 : Nat → Int32) (fm2 : Nat → Int32) (q : Int32) => [bMo g o a th2 hi ac2 tp ba en tA fl de iD iO tU fm2 fk fa fc2 ft ff fb fi]) (u.1) (u.2.1) (u.2.2.1) (u.2.2.2.1) (u.2.2.2.2)) := by
  refine zM'.of (cc := cX12_sell) (maxL := 4) (rt := (some .int)) (by decide) rfl (Nat.le_of_ble_eq_true rfl) ?_
  intro p e s m args below meth c A ls St hr hlocks hin hK hT hA hP hD hS hl
  obtain ⟨hx, hb, hml, hown, hts⟩ := id St
  have hl : lv_has ls 4 [(0, .ref o), (1, .int x), (2, .int n)] := hl
  refine lv_aload_n hx hb dX12_sell_0 rfl (lv_at hl 0 rfl) ?_
  refine lv_aload_n hx hb dX12_sell_1 rfl (lv_at hl 0 rfl) ?_
  refine lv_iload_n hx hb dX12_sell_2 rfl (lv_at hl 1 rfl) ?_
  refine mcallV' (g := g) (q0 := 0) (ci := 10) (As := [.int x]) (rest := [.ref o]) St hK hT hA hP hD hS hl.1 [0] [] rfl rfl rfl (m_isPerson l g o a th hi ac tp ba en tA fl de iD iO tU fm fk fa fc ft ff fb fi x (by first | assumption | omega | decide | exact Or.inl (by decide) | exact Or.inr (by decide))) (cwV 1 hts (zgL (zl4 k1032 k1033 k1034 k837) k834) rfl rfl rfl (by decide +kernel) ⟨Nat.le_of_ble_eq_true rfl, Nat.le_of_ble_eq_true rfl⟩) rfl rfl rfl rfl (Nat.le_of_ble_eq_true rfl) dX12_sell_3 ⟨(Nat.le_of_ble_eq_true rfl), (Nat.le_of_ble_eq_true rfl)⟩ (fun q_1 H locs hq2 hP hD hS => ?_)
  replace hq2 : (q_1 = 1 ∧ 0 ≤ x.toInt ∧ x.toInt ≤ 7 ∧ x.toInt < (fm 3).toInt ∨ q_1 = 0) := hq2
  have hP : va_P g.1 vwCl (List.flatten [bMo g o a th hi ac tp ba en tA fl de iD iO tU fm fk fa fc ft ff fb fi]) H := hP
  have hD : va_D A (List.flatten [bMo g o a th hi ac tp ba en tA fl de iD iO tU fm fk fa fc ft ff fb fi]) := hD
  refine W.widen (k := 0) (n := 0) (Nat.le_of_ble_eq_true rfl) (Nat.le_of_ble_eq_true rfl) ?_
  refine W.eq (g2 := F0 m 6 ls [.int q_1, .ref o]) rfl ?_
  rcases hq2 with ⟨rfl, hq2_k⟩ | rfl
  · skip
    refine lv_if_ne (tgt := 13) hx hb dX12_sell_6 (by decide) (fun _ => ?_) (fun c3 => absurd c3 (by decide))
    refine lv_iload_n hx hb dX12_sell_13 rfl (lv_at hl 2 rfl) ?_
    refine lv_iconst (v := 1) hx hb dX12_sell_14 (by decide) ?_
    refine lv_bipush (v := 99) hx hb dX12_sell_15 (by decide) ?_
    have hL1 : (1 : Int32).toInt = 1 := by decide
    have hL99 : (99 : Int32).toInt = 99 := by decide
    refine mcallS' (g := g) (As := [.int n, .int 1, .int 99]) (rest := [.ref o]) St hK hT hA hP hD hS hl.1 [] [0] rfl rfl rfl (m_isIn l g n 1 99 ) (va_cwS 3 hts (zgL (zl3 k835 k836 k837) k824) rfl rfl rfl (by decide +kernel) ⟨Nat.le_of_ble_eq_true rfl, Nat.le_of_ble_eq_true rfl⟩) rfl rfl (Nat.le_of_ble_eq_true rfl) dX12_sell_17 ⟨(Nat.le_of_ble_eq_true rfl), (Nat.le_of_ble_eq_true rfl)⟩ (fun q_4 H locs hq5 hP hD hS => ?_)
    replace hq5 : (q_4 = 1 ∧ (1 : Int32).toInt ≤ n.toInt ∧ n.toInt ≤ (99 : Int32).toInt ∨ q_4 = 0 ∧ (n.toInt < (1 : Int32).toInt ∨ (99 : Int32).toInt < n.toInt)) := hq5
    have hP : va_P g.1 vwCl (List.flatten [bMo g o a th hi ac tp ba en tA fl de iD iO tU fm fk fa fc ft ff fb fi]) H := hP
    have hD : va_D A (List.flatten [bMo g o a th hi ac tp ba en tA fl de iD iO tU fm fk fa fc ft ff fb fi]) := hD
    refine W.widen (k := 0) (n := 0) (Nat.le_of_ble_eq_true rfl) (Nat.le_of_ble_eq_true rfl) ?_
    refine W.eq (g2 := F0 m 20 ls [.int q_4, .ref o]) rfl ?_
    rcases hq5 with ⟨rfl, hq5_k⟩ | ⟨rfl, hq5_k⟩
    · skip
      refine lv_if_ne (tgt := 27) hx hb dX12_sell_20 (by decide) (fun _ => ?_) (fun c6 => absurd c6 (by decide))
      refine lv_aload_n hx hb dX12_sell_27 rfl (lv_at hl 0 rfl) ?_
      refine lv_iload_n hx hb dX12_sell_28 rfl (lv_at hl 1 rfl) ?_
      refine lv_iconst (v := 2) hx hb dX12_sell_29 (by decide) ?_
      have hL2 : (2 : Int32).toInt = 2 := by decide
      refine mcallV' (g := g) (q0 := 0) (ci := 10) (As := [.int x, .int 2]) (rest := [.ref o]) St hK hT hA hP hD hS hl.1 [0] [] rfl rfl rfl (m_of l g o a th hi ac tp ba en tA fl de iD iO tU fm fk fa fc ft ff fb fi x 2 (by first | assumption | omega | decide | exact Or.inl (by decide) | exact Or.inr (by decide)) (by decide)) (cwV 2 hts (zgL (zl4 k840 k841 k842 k837) k829) rfl rfl rfl (by decide +kernel) ⟨Nat.le_of_ble_eq_true rfl, Nat.le_of_ble_eq_true rfl⟩) rfl rfl rfl rfl (Nat.le_of_ble_eq_true rfl) dX12_sell_30 ⟨(Nat.le_of_ble_eq_true rfl), (Nat.le_of_ble_eq_true rfl)⟩ (fun q_7 H locs hq8 hP hD hS => ?_)
      have hP : va_P g.1 vwCl (List.flatten [bMo g o a th hi ac tp ba en tA fl de iD iO tU fm fk fa fc ft ff fb fi]) H := hP
      have hD : va_D A (List.flatten [bMo g o a th hi ac tp ba en tA fl de iD iO tU fm fk fa fc ft ff fb fi]) := hD
      refine W.widen (k := 0) (n := 0) (Nat.le_of_ble_eq_true rfl) (Nat.le_of_ble_eq_true rfl) ?_
      refine W.eq (g2 := F0 m 33 ls [.int q_7, .ref o]) rfl ?_
      refine lv_iload_n hx hb dX12_sell_33 rfl (lv_at hl 2 rfl) ?_
      refine lv_icmp_lt (tgt := 52) hx hb dX12_sell_34 (by decide) (fun cb9 => ?_) (fun cb9 => ?_)
      · skip
        have c9 : q_7.toInt < n.toInt := zlti cb9 rfl rfl
        refine lv_iconst (v := 3) hx hb dX12_sell_52 (by decide) ?_
        refine lv_goto (tgt := 57) hx hb dX12_sell_53 (by decide) ?_
        refine va_put (D := g.1) (ci := 10) (v := .int 3) (ty := .int) (C := RX12) (T := TX12) (N := 20) hx hb hts izRX12 tyX12 tyX12_ok nmX12 hown hK hP hD hS 0 rfl rfl 0 (by decide) (hts _ k871) (fun _ h9 => h9) rfl (by decide +kernel) rfl rfl (Nat.le_of_ble_eq_true rfl) dX12_sell_57 (fun H locs hP hD hS => ?_)
        have hP : va_P g.1 vwCl (List.flatten [bMo g o a 3 hi ac tp ba en tA fl de iD iO tU fm fk fa fc ft ff fb fi]) H := hP
        have hD : va_D A (List.flatten [bMo g o a 3 hi ac tp ba en tA fl de iD iO tU fm fk fa fc ft ff fb fi]) := hD
        refine lv_aload_n hx hb dX12_sell_60 rfl (lv_at hl 0 rfl) ?_
        refine va_get (D := g.1) (ci := 10) (v := .int 3) (C := RX12) (T := TX12) (N := 20) hx hb hts izRX12 hown hK hP 0 rfl rfl 0 (by decide) (hts _ k871) (fun _ h9 => h9) rfl dX12_sell_61 ?_
        refine lv_if_le (tgt := 69) hx hb dX12_sell_64 (by decide) (fun c10 => absurd c10 (by decide)) (fun _ => ?_)
        refine lv_iconst (v := 0) hx hb dX12_sell_67 (by decide) ?_
        have hP : va_P g.1 vwCl (List.flatten [bMo g o a 3 hi ac tp ba en tA fl de iD iO tU fm fk fa fc ft ff fb fi]) H := hP
        have hD : va_D A (List.flatten [bMo g o a 3 hi ac tp ba en tA fl de iD iO tU fm fk fa fc ft ff fb fi]) := hD
        exact mret_i hx hb hr hlocks hS (Nat.le_of_ble_eq_true rfl) (Nat.le_of_ble_eq_true rfl) dX12_sell_68 ((3 : Int32), ac, fc, fm, (0 : Int32)) rfl (show (rM fm) ∧ (rC fc) ∧ (0 ≤ ac.toInt ∧ ac.toInt ≤ 12) from ⟨(by first | assumption | omega | decide | exact rfl | exact zb01 (by omega) | exact Or.inl (by decide) | exact Or.inr (by first | omega | decide)), (by first | assumption | omega | decide | exact rfl | exact zb01 (by omega) | exact Or.inl (by decide) | exact Or.inr (by first | omega | decide)), (by first | assumption | omega | decide | exact rfl | exact zb01 (by omega) | exact Or.inl (by decide) | exact Or.inr (by first | omega | decide))⟩) hP hD
      · skip
        have c11 : n.toInt ≤ q_7.toInt := zle (Int32.not_lt.mp cb9) rfl rfl
        refine lv_aload_n hx hb dX12_sell_37 rfl (lv_at hl 0 rfl) ?_
        refine va_get (D := g.1) (ci := 10) (v := .ref (a 0)) (C := RX12) (T := TX12) (N := 20) hx hb hts izRX12 hown hK hP 0 rfl rfl 1 (by decide) (hts _ k815) (fun _ h9 => h9) rfl dX12_sell_38 ?_
        refine lv_iconst (v := 5) hx hb dX12_sell_41 (by decide) ?_
        refine va_iald hx hb hK hP 1 0 rfl rfl (zin rfl) dX12_sell_42 ?_
        refine zg (fun x_12 => ?_)
        refine lv_iload_n hx hb dX12_sell_43 rfl (lv_at hl 2 rfl) ?_
        refine lv_aload_n hx hb dX12_sell_44 rfl (lv_at hl 0 rfl) ?_
        refine mcallV' (g := g) (q0 := 0) (ci := 10) (As := []) (rest := [.int n, .int x_12, .ref o]) St hK hT hA hP hD hS hl.1 [0] [] rfl rfl rfl (m_priceNow l g o a th hi ac tp ba en tA fl de iD iO tU fm fk fa fc ft ff fb fi (by first | assumption | omega | decide | exact Or.inl (by decide) | exact Or.inr (by decide))) (cwV 0 hts (zgL (zl4 k1028 k1029 k1030 k837) k860) rfl rfl rfl (by decide +kernel) ⟨Nat.le_of_ble_eq_true rfl, Nat.le_of_ble_eq_true rfl⟩) rfl rfl rfl rfl (Nat.le_of_ble_eq_true rfl) dX12_sell_45 ⟨(Nat.le_of_ble_eq_true rfl), (Nat.le_of_ble_eq_true rfl)⟩ (fun q_13 H locs hq14 hP hD hS => ?_)
        have hP : va_P g.1 vwCl (List.flatten [bMo g o a th hi ac tp ba en tA fl de iD iO tU fm fk fa fc ft ff fb fi]) H := hP
        have hD : va_D A (List.flatten [bMo g o a th hi ac tp ba en tA fl de iD iO tU fm fk fa fc ft ff fb fi]) := hD
        refine W.widen (k := 0) (n := 0) (Nat.le_of_ble_eq_true rfl) (Nat.le_of_ble_eq_true rfl) ?_
        refine W.eq (g2 := F0 m 48 ls [.int q_13, .int n, .int x_12, .ref o]) rfl ?_
        refine lv_imul hx hb dX12_sell_48 ?_
        refine zg (fun x_15 => ?_)
        refine lv_icmp_ge (tgt := 56) hx hb dX12_sell_49 (by decide) (fun cb9 => ?_) (fun cb9 => ?_)
        · skip
          have c16 : x_15.toInt ≤ x_12.toInt := zle cb9 rfl rfl
          refine lv_iconst (v := 0) hx hb dX12_sell_56 (by decide) ?_
          refine va_put (D := g.1) (ci := 10) (v := .int 0) (ty := .int) (C := RX12) (T := TX12) (N := 20) hx hb hts izRX12 tyX12 tyX12_ok nmX12 hown hK hP hD hS 0 rfl rfl 0 (by decide) (hts _ k871) (fun _ h9 => h9) rfl (by decide +kernel) rfl rfl (Nat.le_of_ble_eq_true rfl) dX12_sell_57 (fun H locs hP hD hS => ?_)
          have hP : va_P g.1 vwCl (List.flatten [bMo g o a 0 hi ac tp ba en tA fl de iD iO tU fm fk fa fc ft ff fb fi]) H := hP
          have hD : va_D A (List.flatten [bMo g o a 0 hi ac tp ba en tA fl de iD iO tU fm fk fa fc ft ff fb fi]) := hD
          refine lv_aload_n hx hb dX12_sell_60 rfl (lv_at hl 0 rfl) ?_
          refine va_get (D := g.1) (ci := 10) (v := .int 0) (C := RX12) (T := TX12) (N := 20) hx hb hts izRX12 hown hK hP 0 rfl rfl 0 (by decide) (hts _ k871) (fun _ h9 => h9) rfl dX12_sell_61 ?_
          refine lv_if_le (tgt := 69) hx hb dX12_sell_64 (by decide) (fun _ => ?_) (fun c17 => absurd (by decide) c17)
          refine lv_aload_n hx hb dX12_sell_69 rfl (lv_at hl 0 rfl) ?_
          refine mcallV' (g := g) (q0 := 0) (ci := 10) (As := []) (rest := []) St hK hT hA hP hD hS hl.1 [0] [] rfl rfl rfl (m_remembers l g o a 0 hi ac tp ba en tA fl de iD iO tU fm fk fa fc ft ff fb fi (by first | assumption | omega | decide | exact Or.inl (by decide) | exact Or.inr (by decide)) (by first | assumption | omega | decide | exact Or.inl (by decide) | exact Or.inr (by decide)) (⟨hac.1, hac.2⟩)) (cwV 0 hts (zgL (zl4 k1046 k1047 k1048 k837) k1045) rfl rfl rfl (by decide +kernel) ⟨Nat.le_of_ble_eq_true rfl, Nat.le_of_ble_eq_true rfl⟩) rfl rfl rfl rfl (Nat.le_of_ble_eq_true rfl) dX12_sell_70 ⟨(Nat.le_of_ble_eq_true rfl), (Nat.le_of_ble_eq_true rfl)⟩ (fun u_ H locs hq20 hP hD hS => ?_)
          obtain ⟨ac2_18, fc2_19⟩ := u_
          replace hq20 : (rC fc2_19) ∧ (0 ≤ ac2_18.toInt ∧ ac2_18.toInt ≤ 12) := hq20
          have hP : va_P g.1 vwCl (List.flatten [bMo g o a 0 hi ac2_18 tp ba en tA fl de iD iO tU fm fk fa fc2_19 ft ff fb fi]) H := hP
          have hD : va_D A (List.flatten [bMo g o a 0 hi ac2_18 tp ba en tA fl de iD iO tU fm fk fa fc2_19 ft ff fb fi]) := hD
          refine W.widen (k := 0) (n := 0) (Nat.le_of_ble_eq_true rfl) (Nat.le_of_ble_eq_true rfl) ?_
          refine W.eq (g2 := F0 m 73 ls []) rfl ?_
          obtain ⟨rfc2_19, hq20_1⟩ := hq20
          refine lv_iload_n hx hb dX12_sell_73 rfl (lv_at hl 2 rfl) ?_
          refine lv_aload_n hx hb dX12_sell_74 rfl (lv_at hl 0 rfl) ?_
          refine mcallV' (g := g) (q0 := 0) (ci := 10) (As := []) (rest := [.int n]) St hK hT hA hP hD hS hl.1 [0] [] rfl rfl rfl (m_priceNow l g o a 0 hi ac2_18 tp ba en tA fl de iD iO tU fm fk fa fc2_19 ft ff fb fi (by first | assumption | omega | decide | exact Or.inl (by decide) | exact Or.inr (by decide))) (cwV 0 hts (zgL (zl4 k1028 k1029 k1030 k837) k860) rfl rfl rfl (by decide +kernel) ⟨Nat.le_of_ble_eq_true rfl, Nat.le_of_ble_eq_true rfl⟩) rfl rfl rfl rfl (Nat.le_of_ble_eq_true rfl) dX12_sell_75 ⟨(Nat.le_of_ble_eq_true rfl), (Nat.le_of_ble_eq_true rfl)⟩ (fun q_21 H locs hq22 hP hD hS => ?_)
          have hP : va_P g.1 vwCl (List.flatten [bMo g o a 0 hi ac2_18 tp ba en tA fl de iD iO tU fm fk fa fc2_19 ft ff fb fi]) H := hP
          have hD : va_D A (List.flatten [bMo g o a 0 hi ac2_18 tp ba en tA fl de iD iO tU fm fk fa fc2_19 ft ff fb fi]) := hD
          refine W.widen (k := 0) (n := 0) (Nat.le_of_ble_eq_true rfl) (Nat.le_of_ble_eq_true rfl) ?_
          refine W.eq (g2 := F0 m 78 ls [.int q_21, .int n]) rfl ?_
          refine lv_imul hx hb dX12_sell_78 ?_
          refine zg (fun x_23 => ?_)
          refine lv_istore_n (lv' := [(3, .int x_23), (0, .ref o), (1, .int x), (2, .int n)]) hx hb dX12_sell_79 rfl hl (by decide) rfl (fun ls hl => ?_)
          refine lv_aload_n hx hb dX12_sell_80 rfl (lv_at hl 1 rfl) ?_
          refine lv_iload_n hx hb dX12_sell_81 rfl (lv_at hl 2 rfl) ?_
          refine lv_iconst (v := 1) hx hb dX12_sell_82 (by decide) ?_
          refine lv_sipush (v := 9999) hx hb dX12_sell_83 (by decide) ?_
          refine lv_aload_n hx hb dX12_sell_86 rfl (lv_at hl 1 rfl) ?_
          refine lv_iload_n hx hb dX12_sell_87 rfl (lv_at hl 2 rfl) ?_
          refine lv_iconst (v := 1) hx hb dX12_sell_88 (by decide) ?_
          refine mcallV' (g := g) (q0 := 0) (ci := 10) (As := [.int x, .int 1]) (rest := [.int 9999, .int 1, .int x, .ref o]) St hK hT hA hP hD hS hl.1 [0] [] rfl rfl rfl (m_of l g o a 0 hi ac2_18 tp ba en tA fl de iD iO tU fm fk fa fc2_19 ft ff fb fi x 1 (by first | assumption | omega | decide | exact Or.inl (by decide) | exact Or.inr (by decide)) (by decide)) (cwV 2 hts (zgL (zl4 k840 k841 k842 k837) k829) rfl rfl rfl (by decide +kernel) ⟨Nat.le_of_ble_eq_true rfl, Nat.le_of_ble_eq_true rfl⟩) rfl rfl rfl rfl (Nat.le_of_ble_eq_true rfl) dX12_sell_89 ⟨(Nat.le_of_ble_eq_true rfl), (Nat.le_of_ble_eq_true rfl)⟩ (fun q_24 H locs hq25 hP hD hS => ?_)
          have hP : va_P g.1 vwCl (List.flatten [bMo g o a 0 hi ac2_18 tp ba en tA fl de iD iO tU fm fk fa fc2_19 ft ff fb fi]) H := hP
          have hD : va_D A (List.flatten [bMo g o a 0 hi ac2_18 tp ba en tA fl de iD iO tU fm fk fa fc2_19 ft ff fb fi]) := hD
          refine W.widen (k := 0) (n := 0) (Nat.le_of_ble_eq_true rfl) (Nat.le_of_ble_eq_true rfl) ?_
          refine W.eq (g2 := F0 m 92 ls [.int q_24, .int 9999, .int 1, .int x, .ref o]) rfl ?_
          refine lv_iload_n hx hb dX12_sell_92 rfl (lv_at hl 0 rfl) ?_
          refine lv_iadd hx hb dX12_sell_93 ?_
          refine zg (fun x_26 => ?_)
          have hL9999 : (9999 : Int32).toInt = 9999 := by decide
          refine mcallS' (g := g) (As := [.int 9999, .int x_26]) (rest := [.int 1, .int x, .ref o]) St hK hT hA hP hD hS hl.1 [] [0] rfl rfl rfl (m_lesser l g 9999 x_26 ) (va_cwS 2 hts (zgL (zl3 k999 k1000 k837) k825) rfl rfl rfl (by decide +kernel) ⟨Nat.le_of_ble_eq_true rfl, Nat.le_of_ble_eq_true rfl⟩) rfl rfl (Nat.le_of_ble_eq_true rfl) dX12_sell_94 ⟨(Nat.le_of_ble_eq_true rfl), (Nat.le_of_ble_eq_true rfl)⟩ (fun q_27 H locs hq28 hP hD hS => ?_)
          replace hq28 : (q_27.toInt ≤ (9999 : Int32).toInt ∧ q_27.toInt ≤ x_26.toInt ∧ (q_27.toInt = (9999 : Int32).toInt ∨ q_27.toInt = x_26.toInt)) := hq28
          have hP : va_P g.1 vwCl (List.flatten [bMo g o a 0 hi ac2_18 tp ba en tA fl de iD iO tU fm fk fa fc2_19 ft ff fb fi]) H := hP
          have hD : va_D A (List.flatten [bMo g o a 0 hi ac2_18 tp ba en tA fl de iD iO tU fm fk fa fc2_19 ft ff fb fi]) := hD
          refine W.widen (k := 0) (n := 0) (Nat.le_of_ble_eq_true rfl) (Nat.le_of_ble_eq_true rfl) ?_
          refine W.eq (g2 := F0 m 97 ls [.int q_27, .int 1, .int x, .ref o]) rfl ?_
          refine mcallV' (g := g) (q0 := 0) (ci := 10) (As := [.int x, .int 1, .int q_27]) (rest := []) St hK hT hA hP hD hS hl.1 [0] [] rfl rfl rfl (m_put l g o a 0 hi ac2_18 tp ba en tA fl de iD iO tU fm fk fa fc2_19 ft ff fb fi x 1 q_27 (by first | assumption | omega | decide | exact Or.inl (by decide) | exact Or.inr (by decide)) (by first | assumption | omega | decide | exact Or.inl (by decide) | exact Or.inr (by decide)) (by decide)) (cwV 3 hts (zgL (zl4 k908 k909 k910 k837) k830) rfl rfl rfl (by decide +kernel) ⟨Nat.le_of_ble_eq_true rfl, Nat.le_of_ble_eq_true rfl⟩) rfl rfl rfl rfl (Nat.le_of_ble_eq_true rfl) dX12_sell_97 ⟨(Nat.le_of_ble_eq_true rfl), (Nat.le_of_ble_eq_true rfl)⟩ (fun fm2_29 H locs hq30 hP hD hS => ?_)
          replace hq30 : (rM fm2_29) ∧ ((fm2_29 3).toInt = (fm 3).toInt ∧ (fm2_29 4).toInt = (fm 4).toInt) := hq30
          have hP : va_P g.1 vwCl (List.flatten [bMo g o a 0 hi ac2_18 tp ba en tA fl de iD iO tU fm2_29 fk fa fc2_19 ft ff fb fi]) H := hP
          have hD : va_D A (List.flatten [bMo g o a 0 hi ac2_18 tp ba en tA fl de iD iO tU fm2_29 fk fa fc2_19 ft ff fb fi]) := hD
          refine W.widen (k := 0) (n := 0) (Nat.le_of_ble_eq_true rfl) (Nat.le_of_ble_eq_true rfl) ?_
          refine W.eq (g2 := F0 m 100 ls []) rfl ?_
          obtain ⟨rfm2_29, hq30_1⟩ := hq30
          refine lv_aload_n hx hb dX12_sell_100 rfl (lv_at hl 1 rfl) ?_
          refine lv_iload_n hx hb dX12_sell_101 rfl (lv_at hl 2 rfl) ?_
          refine lv_iconst (v := 2) hx hb dX12_sell_102 (by decide) ?_
          refine lv_aload_n hx hb dX12_sell_103 rfl (lv_at hl 1 rfl) ?_
          refine lv_iload_n hx hb dX12_sell_104 rfl (lv_at hl 2 rfl) ?_
          refine lv_iconst (v := 2) hx hb dX12_sell_105 (by decide) ?_
          refine mcallV' (g := g) (q0 := 0) (ci := 10) (As := [.int x, .int 2]) (rest := [.int 2, .int x, .ref o]) St hK hT hA hP hD hS hl.1 [0] [] rfl rfl rfl (m_of l g o a 0 hi ac2_18 tp ba en tA fl de iD iO tU fm2_29 fk fa fc2_19 ft ff fb fi x 2 (by first | assumption | omega | decide | exact Or.inl (by decide) | exact Or.inr (by decide)) (by decide)) (cwV 2 hts (zgL (zl4 k840 k841 k842 k837) k829) rfl rfl rfl (by decide +kernel) ⟨Nat.le_of_ble_eq_true rfl, Nat.le_of_ble_eq_true rfl⟩) rfl rfl rfl rfl (Nat.le_of_ble_eq_true rfl) dX12_sell_106 ⟨(Nat.le_of_ble_eq_true rfl), (Nat.le_of_ble_eq_true rfl)⟩ (fun q_31 H locs hq32 hP hD hS => ?_)
          have hP : va_P g.1 vwCl (List.flatten [bMo g o a 0 hi ac2_18 tp ba en tA fl de iD iO tU fm2_29 fk fa fc2_19 ft ff fb fi]) H := hP
          have hD : va_D A (List.flatten [bMo g o a 0 hi ac2_18 tp ba en tA fl de iD iO tU fm2_29 fk fa fc2_19 ft ff fb fi]) := hD
          refine W.widen (k := 0) (n := 0) (Nat.le_of_ble_eq_true rfl) (Nat.le_of_ble_eq_true rfl) ?_
          refine W.eq (g2 := F0 m 109 ls [.int q_31, .int 2, .int x, .ref o]) rfl ?_
          refine lv_iload_n hx hb dX12_sell_109 rfl (lv_at hl 3 rfl) ?_
          refine lv_isub hx hb dX12_sell_110 ?_
          refine zg (fun x_33 => ?_)
          refine mcallV' (g := g) (q0 := 0) (ci := 10) (As := [.int x, .int 2, .int x_33]) (rest := []) St hK hT hA hP hD hS hl.1 [0] [] rfl rfl rfl (m_put l g o a 0 hi ac2_18 tp ba en tA fl de iD iO tU fm2_29 fk fa fc2_19 ft ff fb fi x 2 x_33 (by first | assumption | omega | decide | exact Or.inl (by decide) | exact Or.inr (by decide)) (by first | assumption | omega | decide | exact Or.inl (by decide) | exact Or.inr (by decide)) (by decide)) (cwV 3 hts (zgL (zl4 k908 k909 k910 k837) k830) rfl rfl rfl (by decide +kernel) ⟨Nat.le_of_ble_eq_true rfl, Nat.le_of_ble_eq_true rfl⟩) rfl rfl rfl rfl (Nat.le_of_ble_eq_true rfl) dX12_sell_111 ⟨(Nat.le_of_ble_eq_true rfl), (Nat.le_of_ble_eq_true rfl)⟩ (fun fm2_34 H locs hq35 hP hD hS => ?_)
          replace hq35 : (rM fm2_34) ∧ ((fm2_34 3).toInt = (fm2_29 3).toInt ∧ (fm2_34 4).toInt = (fm2_29 4).toInt) := hq35
          have hP : va_P g.1 vwCl (List.flatten [bMo g o a 0 hi ac2_18 tp ba en tA fl de iD iO tU fm2_34 fk fa fc2_19 ft ff fb fi]) H := hP
          have hD : va_D A (List.flatten [bMo g o a 0 hi ac2_18 tp ba en tA fl de iD iO tU fm2_34 fk fa fc2_19 ft ff fb fi]) := hD
          refine W.widen (k := 0) (n := 0) (Nat.le_of_ble_eq_true rfl) (Nat.le_of_ble_eq_true rfl) ?_
          refine W.eq (g2 := F0 m 114 ls []) rfl ?_
          obtain ⟨rfm2_34, hq35_1⟩ := hq35
          refine lv_aload_n hx hb dX12_sell_114 rfl (lv_at hl 1 rfl) ?_
          refine va_get (D := g.1) (ci := 10) (v := .ref (a 0)) (C := RX12) (T := TX12) (N := 20) hx hb hts izRX12 hown hK hP 0 rfl rfl 1 (by decide) (hts _ k815) (fun _ h9 => h9) rfl dX12_sell_115 ?_
          refine lv_iconst (v := 5) hx hb dX12_sell_118 (by decide) ?_
          refine lv_dup2_11 hx hb dX12_sell_119 rfl rfl ?_
          refine va_iald hx hb hK hP 1 0 rfl rfl (zin rfl) dX12_sell_120 ?_
          refine zg (fun x_36 => ?_)
          refine lv_iload_n hx hb dX12_sell_121 rfl (lv_at hl 0 rfl) ?_
          refine lv_isub hx hb dX12_sell_122 ?_
          refine zg (fun x_37 => ?_)
          refine va_iast hx hb hK hP hD hS 1 0 rfl rfl (zin rfl) dX12_sell_123 (fun H locs hP hD hS => ?_)
          obtain ⟨fm_38, rfm_38, hP, hD⟩ : ∃ fm_38 : Nat → Int32, rM fm_38 ∧ va_P g.1 vwCl (List.flatten [bMo g o a 0 hi ac2_18 tp ba en tA fl de iD iO tU fm_38 fk fa fc2_19 ft ff fb fi]) H ∧ va_D A (List.flatten [bMo g o a 0 hi ac2_18 tp ba en tA fl de iD iO tU fm_38 fk fa fc2_19 ft ff fb fi]) := ⟨upd fm2_34 5 x_37, (rM_stL rfm2_34 (by decide)), hP, hD⟩
          refine lv_aload_n hx hb dX12_sell_124 rfl (lv_at hl 1 rfl) ?_
          refine lv_iload_n hx hb dX12_sell_125 rfl (lv_at hl 2 rfl) ?_
          refine lv_iconst (v := 1) hx hb dX12_sell_126 (by decide) ?_
          refine mcallV' (g := g) (q0 := 0) (ci := 10) (As := [.int x, .int 1]) (rest := []) St hK hT hA hP hD hS hl.1 [0] [] rfl rfl rfl (m_of l g o a 0 hi ac2_18 tp ba en tA fl de iD iO tU fm_38 fk fa fc2_19 ft ff fb fi x 1 (by first | assumption | omega | decide | exact Or.inl (by decide) | exact Or.inr (by decide)) (by decide)) (cwV 2 hts (zgL (zl4 k840 k841 k842 k837) k829) rfl rfl rfl (by decide +kernel) ⟨Nat.le_of_ble_eq_true rfl, Nat.le_of_ble_eq_true rfl⟩) rfl rfl rfl rfl (Nat.le_of_ble_eq_true rfl) dX12_sell_127 ⟨(Nat.le_of_ble_eq_true rfl), (Nat.le_of_ble_eq_true rfl)⟩ (fun q_39 H locs hq40 hP hD hS => ?_)
          have hP : va_P g.1 vwCl (List.flatten [bMo g o a 0 hi ac2_18 tp ba en tA fl de iD iO tU fm_38 fk fa fc2_19 ft ff fb fi]) H := hP
          have hD : va_D A (List.flatten [bMo g o a 0 hi ac2_18 tp ba en tA fl de iD iO tU fm_38 fk fa fc2_19 ft ff fb fi]) := hD
          refine W.widen (k := 0) (n := 0) (Nat.le_of_ble_eq_true rfl) (Nat.le_of_ble_eq_true rfl) ?_
          refine W.eq (g2 := F0 m 130 ls [.int q_39]) rfl ?_
          have hP : va_P g.1 vwCl (List.flatten [bMo g o a 0 hi ac2_18 tp ba en tA fl de iD iO tU fm_38 fk fa fc2_19 ft ff fb fi]) H := hP
          have hD : va_D A (List.flatten [bMo g o a 0 hi ac2_18 tp ba en tA fl de iD iO tU fm_38 fk fa fc2_19 ft ff fb fi]) := hD
          exact mret_i hx hb hr hlocks hS (Nat.le_of_ble_eq_true rfl) (Nat.le_of_ble_eq_true rfl) dX12_sell_130 ((0 : Int32), ac2_18, fc2_19, fm_38, q_39) rfl (show (rM fm_38) ∧ (rC fc2_19) ∧ (0 ≤ ac2_18.toInt ∧ ac2_18.toInt ≤ 12) from ⟨(by first | assumption | omega | decide | exact rfl | exact zb01 (by omega) | exact Or.inl (by decide) | exact Or.inr (by first | omega | decide)), (by first | assumption | omega | decide | exact rfl | exact zb01 (by omega) | exact Or.inl (by decide) | exact Or.inr (by first | omega | decide)), (by first | assumption | omega | decide | exact rfl | exact zb01 (by omega) | exact Or.inl (by decide) | exact Or.inr (by first | omega | decide))⟩) hP hD
        · skip
          have c41 : x_12.toInt < x_15.toInt := zlti (Int32.not_le.mp cb9) rfl rfl
          refine lv_iconst (v := 3) hx hb dX12_sell_52 (by decide) ?_
          refine lv_goto (tgt := 57) hx hb dX12_sell_53 (by decide) ?_
          refine va_put (D := g.1) (ci := 10) (v := .int 3) (ty := .int) (C := RX12) (T := TX12) (N := 20) hx hb hts izRX12 tyX12 tyX12_ok nmX12 hown hK hP hD hS 0 rfl rfl 0 (by decide) (hts _ k871) (fun _ h9 => h9) rfl (by decide +kernel) rfl rfl (Nat.le_of_ble_eq_true rfl) dX12_sell_57 (fun H locs hP hD hS => ?_)
          have hP : va_P g.1 vwCl (List.flatten [bMo g o a 3 hi ac tp ba en tA fl de iD iO tU fm fk fa fc ft ff fb fi]) H := hP
          have hD : va_D A (List.flatten [bMo g o a 3 hi ac tp ba en tA fl de iD iO tU fm fk fa fc ft ff fb fi]) := hD
          refine lv_aload_n hx hb dX12_sell_60 rfl (lv_at hl 0 rfl) ?_
          refine va_get (D := g.1) (ci := 10) (v := .int 3) (C := RX12) (T := TX12) (N := 20) hx hb hts izRX12 hown hK hP 0 rfl rfl 0 (by decide) (hts _ k871) (fun _ h9 => h9) rfl dX12_sell_61 ?_
          refine lv_if_le (tgt := 69) hx hb dX12_sell_64 (by decide) (fun c42 => absurd c42 (by decide)) (fun _ => ?_)
          refine lv_iconst (v := 0) hx hb dX12_sell_67 (by decide) ?_
          have hP : va_P g.1 vwCl (List.flatten [bMo g o a 3 hi ac tp ba en tA fl de iD iO tU fm fk fa fc ft ff fb fi]) H := hP
          have hD : va_D A (List.flatten [bMo g o a 3 hi ac tp ba en tA fl de iD iO tU fm fk fa fc ft ff fb fi]) := hD
          exact mret_i hx hb hr hlocks hS (Nat.le_of_ble_eq_true rfl) (Nat.le_of_ble_eq_true rfl) dX12_sell_68 ((3 : Int32), ac, fc, fm, (0 : Int32)) rfl (show (rM fm) ∧ (rC fc) ∧ (0 ≤ ac.toInt ∧ ac.toInt ≤ 12) from ⟨(by first | assumption | omega | decide | exact rfl | exact zb01 (by omega) | exact Or.inl (by decide) | exact Or.inr (by first | omega | decide)), (by first | assumption | omega | decide | exact rfl | exact zb01 (by omega) | exact Or.inl (by decide) | exact Or.inr (by first | omega | decide)), (by first | assumption | omega | decide | exact rfl | exact zb01 (by omega) | exact Or.inl (by decide) | exact Or.inr (by first | omega | decide))⟩) hP hD
    · skip
      refine lv_if_ne (tgt := 27) hx hb dX12_sell_20 (by decide) (fun c43 => absurd (by decide) c43) (fun _ => ?_)
      refine lv_iconst (v := 2) hx hb dX12_sell_23 (by decide) ?_
      refine lv_goto (tgt := 57) hx hb dX12_sell_24 (by decide) ?_
      refine va_put (D := g.1) (ci := 10) (v := .int 2) (ty := .int) (C := RX12) (T := TX12) (N := 20) hx hb hts izRX12 tyX12 tyX12_ok nmX12 hown hK hP hD hS 0 rfl rfl 0 (by decide) (hts _ k871) (fun _ h9 => h9) rfl (by decide +kernel) rfl rfl (Nat.le_of_ble_eq_true rfl) dX12_sell_57 (fun H locs hP hD hS => ?_)
      have hP : va_P g.1 vwCl (List.flatten [bMo g o a 2 hi ac tp ba en tA fl de iD iO tU fm fk fa fc ft ff fb fi]) H := hP
      have hD : va_D A (List.flatten [bMo g o a 2 hi ac tp ba en tA fl de iD iO tU fm fk fa fc ft ff fb fi]) := hD
      refine lv_aload_n hx hb dX12_sell_60 rfl (lv_at hl 0 rfl) ?_
      refine va_get (D := g.1) (ci := 10) (v := .int 2) (C := RX12) (T := TX12) (N := 20) hx hb hts izRX12 hown hK hP 0 rfl rfl 0 (by decide) (hts _ k871) (fun _ h9 => h9) rfl dX12_sell_61 ?_
      refine lv_if_le (tgt := 69) hx hb dX12_sell_64 (by decide) (fun c44 => absurd c44 (by decide)) (fun _ => ?_)
      refine lv_iconst (v := 0) hx hb dX12_sell_67 (by decide) ?_
      have hP : va_P g.1 vwCl (List.flatten [bMo g o a 2 hi ac tp ba en tA fl de iD iO tU fm fk fa fc ft ff fb fi]) H := hP
      have hD : va_D A (List.flatten [bMo g o a 2 hi ac tp ba en tA fl de iD iO tU fm fk fa fc ft ff fb fi]) := hD
      exact mret_i hx hb hr hlocks hS (Nat.le_of_ble_eq_true rfl) (Nat.le_of_ble_eq_true rfl) dX12_sell_68 ((2 : Int32), ac, fc, fm, (0 : Int32)) rfl (show (rM fm) ∧ (rC fc) ∧ (0 ≤ ac.toInt ∧ ac.toInt ≤ 12) from ⟨(by first | assumption | omega | decide | exact rfl | exact zb01 (by omega) | exact Or.inl (by decide) | exact Or.inr (by first | omega | decide)), (by first | assumption | omega | decide | exact rfl | exact zb01 (by omega) | exact Or.inl (by decide) | exact Or.inr (by first | omega | decide)), (by first | assumption | omega | decide | exact rfl | exact zb01 (by omega) | exact Or.inl (by decide) | exact Or.inr (by first | omega | decide))⟩) hP hD
  · skip
    refine lv_if_ne (tgt := 13) hx hb dX12_sell_6 (by decide) (fun c45 => absurd (by decide) c45) (fun _ => ?_)
    refine lv_iconst (v := 1) hx hb dX12_sell_9 (by decide) ?_
    refine lv_goto (tgt := 57) hx hb dX12_sell_10 (by decide) ?_
    refine va_put (D := g.1) (ci := 10) (v := .int 1) (ty := .int) (C := RX12) (T := TX12) (N := 20) hx hb hts izRX12 tyX12 tyX12_ok nmX12 hown hK hP hD hS 0 rfl rfl 0 (by decide) (hts _ k871) (fun _ h9 => h9) rfl (by decide +kernel) rfl rfl (Nat.le_of_ble_eq_true rfl) dX12_sell_57 (fun H locs hP hD hS => ?_)
    have hP : va_P g.1 vwCl (List.flatten [bMo g o a 1 hi ac tp ba en tA fl de iD iO tU fm fk fa fc ft ff fb fi]) H := hP
    have hD : va_D A (List.flatten [bMo g o a 1 hi ac tp ba en tA fl de iD iO tU fm fk fa fc ft ff fb fi]) := hD
    refine lv_aload_n hx hb dX12_sell_60 rfl (lv_at hl 0 rfl) ?_
    refine va_get (D := g.1) (ci := 10) (v := .int 1) (C := RX12) (T := TX12) (N := 20) hx hb hts izRX12 hown hK hP 0 rfl rfl 0 (by decide) (hts _ k871) (fun _ h9 => h9) rfl dX12_sell_61 ?_
    refine lv_if_le (tgt := 69) hx hb dX12_sell_64 (by decide) (fun c46 => absurd c46 (by decide)) (fun _ => ?_)
    refine lv_iconst (v := 0) hx hb dX12_sell_67 (by decide) ?_
    have hP : va_P g.1 vwCl (List.flatten [bMo g o a 1 hi ac tp ba en tA fl de iD iO tU fm fk fa fc ft ff fb fi]) H := hP
    have hD : va_D A (List.flatten [bMo g o a 1 hi ac tp ba en tA fl de iD iO tU fm fk fa fc ft ff fb fi]) := hD
    exact mret_i hx hb hr hlocks hS (Nat.le_of_ble_eq_true rfl) (Nat.le_of_ble_eq_true rfl) dX12_sell_68 ((1 : Int32), ac, fc, fm, (0 : Int32)) rfl (show (rM fm) ∧ (rC fc) ∧ (0 ≤ ac.toInt ∧ ac.toInt ≤ 12) from ⟨(by first | assumption | omega | decide | exact rfl | exact zb01 (by omega) | exact Or.inl (by decide) | exact Or.inr (by first | omega | decide)), (by first | assumption | omega | decide | exact rfl | exact zb01 (by omega) | exact Or.inl (by decide) | exact Or.inr (by first | omega | decide)), (by first | assumption | omega | decide | exact rfl | exact zb01 (by omega) | exact Or.inl (by decide) | exact Or.inr (by first | omega | decide))⟩) hP hD
set_option maxRecDepth 100000 in
set_option maxHeartbeats 4000000 in
theorem m_dry (l : Launch) (g : zG) (o : Nat) (a : Nat → Nat) (th : Int32) (hi : Int32) (ac : Int32) (tp : Int32) (ba : Int32) (en : Int32) (tA : Int32) (fl : Int32) (de : Int32) (iD : Int32) (iO : Int32) (tU : Int32) (fm : Nat → Int32) (fk : Nat → Int32) (fa : Nat → Int32) (fc : Nat → Int32) (ft : Nat → Int32) (ff : Nat → Int32) (fb : Nat → Int32) (fi : Nat → Int32) (x : Int32) (is : Int32) (rfm : rM fm) (rfc : rC fc) (hac : 0 ≤ ac.toInt ∧ ac.toInt ≤ 12) : zM' g l yX12_dry (Cond.code yX12_dry cX12_dry 4 (some .boolean) :: zB) ({ frames := 2, cells := 0, slots := 0, locals := 43 } : Room) [.ref o, .int x, .int is] [bMo g o a th hi ac tp ba en tA fl de iD iO tU fm fk fa fc ft ff fb fi] (fun u : Int32 × Int32 × (Nat → Int32) × (Nat → Int32) × Int32 => (fun (th2 : Int32) (ac2 : Int32) (fc2 : Nat → Int32) (fm2 : Nat → Int32) (q : Int32) => some (.int q)) (u.1) (u.2.1) (u.2.2.1) (u.2.2.2.1) (u.2.2.2.2)) (fun u : Int32 × Int32 × (Nat → Int32) × (Nat → Int32) × Int32 => (fun (th2 : Int32) (ac2 : Int32) (fc2 : Nat → Int32) (fm2 : Nat → Int32) (q : Int32) => (rM fm2) ∧ (rC fc2) ∧ (0 ≤ ac2.toInt ∧ ac2.toInt ≤ 12) ∧ (q = 0 ∨ q = 1)) (u.1) (u.2.1) (u.2.2.1) (u.2.2.2.1) (u.2.2.2.2)) (fun u : Int32 × Int32 × (Nat → Int32) × (Nat → Int32) × Int32 => (fun (th2 : Int32) (ac2 : Int32) (fc2 : Nat → Int32) (fm2 : Nat → Int32) (q : Int32) => [bMo g o a th2 hi ac2 tp ba en tA fl de iD iO tU fm2 fk fa fc2 ft ff fb fi]) (u.1) (u.2.1) (u.2.2.1) (u.2.2.2.1) (u.2.2.2.2)) := by
  refine zM'.of (cc := cX12_dry) (maxL := 4) (rt := (some .boolean)) (by decide) rfl (Nat.le_of_ble_eq_true rfl) ?_
  intro p e s m args below meth c A ls St hr hlocks hin hK hT hA hP hD hS hl
  obtain ⟨hx, hb, hml, hown, hts⟩ := id St
  have hl : lv_has ls 4 [(0, .ref o), (1, .int x), (2, .int is)] := hl
  refine lv_aload_n hx hb dX12_dry_0 rfl (lv_at hl 0 rfl) ?_
  refine lv_aload_n hx hb dX12_dry_1 rfl (lv_at hl 0 rfl) ?_
  refine lv_iload_n hx hb dX12_dry_2 rfl (lv_at hl 1 rfl) ?_
  refine mcallV' (g := g) (q0 := 0) (ci := 10) (As := [.int x]) (rest := [.ref o]) St hK hT hA hP hD hS hl.1 [0] [] rfl rfl rfl (m_isPerson l g o a th hi ac tp ba en tA fl de iD iO tU fm fk fa fc ft ff fb fi x (by first | assumption | omega | decide | exact Or.inl (by decide) | exact Or.inr (by decide))) (cwV 1 hts (zgL (zl4 k1032 k1033 k1034 k837) k834) rfl rfl rfl (by decide +kernel) ⟨Nat.le_of_ble_eq_true rfl, Nat.le_of_ble_eq_true rfl⟩) rfl rfl rfl rfl (Nat.le_of_ble_eq_true rfl) dX12_dry_3 ⟨(Nat.le_of_ble_eq_true rfl), (Nat.le_of_ble_eq_true rfl)⟩ (fun q_1 H locs hq2 hP hD hS => ?_)
  replace hq2 : (q_1 = 1 ∧ 0 ≤ x.toInt ∧ x.toInt ≤ 7 ∧ x.toInt < (fm 3).toInt ∨ q_1 = 0) := hq2
  have hP : va_P g.1 vwCl (List.flatten [bMo g o a th hi ac tp ba en tA fl de iD iO tU fm fk fa fc ft ff fb fi]) H := hP
  have hD : va_D A (List.flatten [bMo g o a th hi ac tp ba en tA fl de iD iO tU fm fk fa fc ft ff fb fi]) := hD
  refine W.widen (k := 0) (n := 0) (Nat.le_of_ble_eq_true rfl) (Nat.le_of_ble_eq_true rfl) ?_
  refine W.eq (g2 := F0 m 6 ls [.int q_1, .ref o]) rfl ?_
  rcases hq2 with ⟨rfl, hq2_k⟩ | rfl
  · skip
    refine lv_if_ne (tgt := 13) hx hb dX12_dry_6 (by decide) (fun _ => ?_) (fun c3 => absurd c3 (by decide))
    refine lv_iconst (v := 0) hx hb dX12_dry_13 (by decide) ?_
    refine va_put (D := g.1) (ci := 10) (v := .int 0) (ty := .int) (C := RX12) (T := TX12) (N := 20) hx hb hts izRX12 tyX12 tyX12_ok nmX12 hown hK hP hD hS 0 rfl rfl 0 (by decide) (hts _ k871) (fun _ h9 => h9) rfl (by decide +kernel) rfl rfl (Nat.le_of_ble_eq_true rfl) dX12_dry_14 (fun H locs hP hD hS => ?_)
    have hP : va_P g.1 vwCl (List.flatten [bMo g o a 0 hi ac tp ba en tA fl de iD iO tU fm fk fa fc ft ff fb fi]) H := hP
    have hD : va_D A (List.flatten [bMo g o a 0 hi ac tp ba en tA fl de iD iO tU fm fk fa fc ft ff fb fi]) := hD
    refine lv_aload_n hx hb dX12_dry_17 rfl (lv_at hl 0 rfl) ?_
    refine va_get (D := g.1) (ci := 10) (v := .int 0) (C := RX12) (T := TX12) (N := 20) hx hb hts izRX12 hown hK hP 0 rfl rfl 0 (by decide) (hts _ k871) (fun _ h9 => h9) rfl dX12_dry_18 ?_
    refine lv_if_le (tgt := 26) hx hb dX12_dry_21 (by decide) (fun _ => ?_) (fun c4 => absurd (by decide) c4)
    refine lv_aload_n hx hb dX12_dry_26 rfl (lv_at hl 0 rfl) ?_
    refine mcallV' (g := g) (q0 := 0) (ci := 10) (As := []) (rest := []) St hK hT hA hP hD hS hl.1 [0] [] rfl rfl rfl (m_remembers l g o a 0 hi ac tp ba en tA fl de iD iO tU fm fk fa fc ft ff fb fi (by first | assumption | omega | decide | exact Or.inl (by decide) | exact Or.inr (by decide)) (by first | assumption | omega | decide | exact Or.inl (by decide) | exact Or.inr (by decide)) (⟨hac.1, hac.2⟩)) (cwV 0 hts (zgL (zl4 k1046 k1047 k1048 k837) k1045) rfl rfl rfl (by decide +kernel) ⟨Nat.le_of_ble_eq_true rfl, Nat.le_of_ble_eq_true rfl⟩) rfl rfl rfl rfl (Nat.le_of_ble_eq_true rfl) dX12_dry_27 ⟨(Nat.le_of_ble_eq_true rfl), (Nat.le_of_ble_eq_true rfl)⟩ (fun u_ H locs hq7 hP hD hS => ?_)
    obtain ⟨ac2_5, fc2_6⟩ := u_
    replace hq7 : (rC fc2_6) ∧ (0 ≤ ac2_5.toInt ∧ ac2_5.toInt ≤ 12) := hq7
    have hP : va_P g.1 vwCl (List.flatten [bMo g o a 0 hi ac2_5 tp ba en tA fl de iD iO tU fm fk fa fc2_6 ft ff fb fi]) H := hP
    have hD : va_D A (List.flatten [bMo g o a 0 hi ac2_5 tp ba en tA fl de iD iO tU fm fk fa fc2_6 ft ff fb fi]) := hD
    refine W.widen (k := 0) (n := 0) (Nat.le_of_ble_eq_true rfl) (Nat.le_of_ble_eq_true rfl) ?_
    refine W.eq (g2 := F0 m 30 ls []) rfl ?_
    obtain ⟨rfc2_6, hq7_1⟩ := hq7
    refine lv_aload_n hx hb dX12_dry_30 rfl (lv_at hl 0 rfl) ?_
    refine lv_iload_n hx hb dX12_dry_31 rfl (lv_at hl 1 rfl) ?_
    refine lv_iconst (v := 3) hx hb dX12_dry_32 (by decide) ?_
    have hL3 : (3 : Int32).toInt = 3 := by decide
    refine mcallV' (g := g) (q0 := 0) (ci := 10) (As := [.int x, .int 3]) (rest := []) St hK hT hA hP hD hS hl.1 [0] [] rfl rfl rfl (m_of l g o a 0 hi ac2_5 tp ba en tA fl de iD iO tU fm fk fa fc2_6 ft ff fb fi x 3 (by first | assumption | omega | decide | exact Or.inl (by decide) | exact Or.inr (by decide)) (by decide)) (cwV 2 hts (zgL (zl4 k840 k841 k842 k837) k829) rfl rfl rfl (by decide +kernel) ⟨Nat.le_of_ble_eq_true rfl, Nat.le_of_ble_eq_true rfl⟩) rfl rfl rfl rfl (Nat.le_of_ble_eq_true rfl) dX12_dry_33 ⟨(Nat.le_of_ble_eq_true rfl), (Nat.le_of_ble_eq_true rfl)⟩ (fun q_8 H locs hq9 hP hD hS => ?_)
    have hP : va_P g.1 vwCl (List.flatten [bMo g o a 0 hi ac2_5 tp ba en tA fl de iD iO tU fm fk fa fc2_6 ft ff fb fi]) H := hP
    have hD : va_D A (List.flatten [bMo g o a 0 hi ac2_5 tp ba en tA fl de iD iO tU fm fk fa fc2_6 ft ff fb fi]) := hD
    refine W.widen (k := 0) (n := 0) (Nat.le_of_ble_eq_true rfl) (Nat.le_of_ble_eq_true rfl) ?_
    refine W.eq (g2 := F0 m 36 ls [.int q_8]) rfl ?_
    refine lv_iconst (v := 1) hx hb dX12_dry_36 (by decide) ?_
    refine lv_icmp_ne (tgt := 44) hx hb dX12_dry_37 (by decide) (fun cb9 => ?_) (fun cb9 => ?_)
    · skip
      have c10 : ¬ q_8.toInt = 1 := zne cb9 rfl (by decide)
      refine lv_iconst (v := 0) hx hb dX12_dry_44 (by decide) ?_
      refine lv_istore_n (lv' := [(3, .int 0), (0, .ref o), (1, .int x), (2, .int is)]) hx hb dX12_dry_45 rfl hl (by decide) rfl (fun ls hl => ?_)
      refine lv_aload_n hx hb dX12_dry_46 rfl (lv_at hl 1 rfl) ?_
      refine lv_iload_n hx hb dX12_dry_47 rfl (lv_at hl 2 rfl) ?_
      refine lv_iconst (v := 3) hx hb dX12_dry_48 (by decide) ?_
      refine lv_iload_n hx hb dX12_dry_49 rfl (lv_at hl 3 rfl) ?_
      refine lv_if_eq (tgt := 57) hx hb dX12_dry_50 (by decide) (fun cb9 => ?_) (fun cb9 => ?_)
      · skip
        have c11 : is.toInt = 0 := zeq cb9 rfl (by decide)
        have n12 : 0 ≤ is.toInt := Int.le_trans (Int.le_refl _) (Int.le_of_eq c11.symm)
        have n13 : is.toInt ≤ 0 := Int.le_trans (Int.le_of_eq c11) (Int.le_refl _)
        refine lv_iconst (v := 0) hx hb dX12_dry_57 (by decide) ?_
        refine mcallV' (g := g) (q0 := 0) (ci := 10) (As := [.int x, .int 3, .int 0]) (rest := []) St hK hT hA hP hD hS hl.1 [0] [] rfl rfl rfl (m_put l g o a 0 hi ac2_5 tp ba en tA fl de iD iO tU fm fk fa fc2_6 ft ff fb fi x 3 0 (by first | assumption | omega | decide | exact Or.inl (by decide) | exact Or.inr (by decide)) (by first | assumption | omega | decide | exact Or.inl (by decide) | exact Or.inr (by decide)) (by decide)) (cwV 3 hts (zgL (zl4 k908 k909 k910 k837) k830) rfl rfl rfl (by decide +kernel) ⟨Nat.le_of_ble_eq_true rfl, Nat.le_of_ble_eq_true rfl⟩) rfl rfl rfl rfl (Nat.le_of_ble_eq_true rfl) dX12_dry_58 ⟨(Nat.le_of_ble_eq_true rfl), (Nat.le_of_ble_eq_true rfl)⟩ (fun fm2_14 H locs hq15 hP hD hS => ?_)
        replace hq15 : (rM fm2_14) ∧ ((fm2_14 3).toInt = (fm 3).toInt ∧ (fm2_14 4).toInt = (fm 4).toInt) := hq15
        have hP : va_P g.1 vwCl (List.flatten [bMo g o a 0 hi ac2_5 tp ba en tA fl de iD iO tU fm2_14 fk fa fc2_6 ft ff fb fi]) H := hP
        have hD : va_D A (List.flatten [bMo g o a 0 hi ac2_5 tp ba en tA fl de iD iO tU fm2_14 fk fa fc2_6 ft ff fb fi]) := hD
        refine W.widen (k := 0) (n := 0) (Nat.le_of_ble_eq_true rfl) (Nat.le_of_ble_eq_true rfl) ?_
        refine W.eq (g2 := F0 m 61 ls []) rfl ?_
        obtain ⟨rfm2_14, hq15_1⟩ := hq15
        refine lv_iload_n hx hb dX12_dry_61 rfl (lv_at hl 0 rfl) ?_
        refine lv_iload_n hx hb dX12_dry_62 rfl (lv_at hl 3 rfl) ?_
        refine lv_icmp_eq (tgt := 70) hx hb dX12_dry_63 (by decide) (fun cb9 => ?_) (fun cb9 => ?_)
        · skip
          have c16 : 0 = is.toInt := zeq cb9 (by decide) rfl
          refine lv_iconst (v := 0) hx hb dX12_dry_70 (by decide) ?_
          have hP : va_P g.1 vwCl (List.flatten [bMo g o a 0 hi ac2_5 tp ba en tA fl de iD iO tU fm2_14 fk fa fc2_6 ft ff fb fi]) H := hP
          have hD : va_D A (List.flatten [bMo g o a 0 hi ac2_5 tp ba en tA fl de iD iO tU fm2_14 fk fa fc2_6 ft ff fb fi]) := hD
          exact mret_z hx hb hr hlocks hS (Nat.le_of_ble_eq_true rfl) (Nat.le_of_ble_eq_true rfl) dX12_dry_71 ((0 : Int32), ac2_5, fc2_6, fm2_14, (0 : Int32)) rfl (by decide) (show (rM fm2_14) ∧ (rC fc2_6) ∧ (0 ≤ ac2_5.toInt ∧ ac2_5.toInt ≤ 12) ∧ (0 = 0 ∨ 0 = 1) from ⟨(by first | assumption | omega | decide | exact rfl | exact zb01 (by omega) | exact Or.inl (by decide) | exact Or.inr (by first | omega | decide)), (by first | assumption | omega | decide | exact rfl | exact zb01 (by omega) | exact Or.inl (by decide) | exact Or.inr (by first | omega | decide)), (by first | assumption | omega | decide | exact rfl | exact zb01 (by omega) | exact Or.inl (by decide) | exact Or.inr (by first | omega | decide)), (by first | assumption | omega | decide | exact rfl | exact zb01 (by omega) | exact Or.inl (by decide) | exact Or.inr (by first | omega | decide))⟩) hP hD
        · skip
          exact absurd (show ¬ 0 = is.toInt from zne cb9 (by decide) rfl) (by omega)
      · skip
        have c18 : ¬ is.toInt = 0 := zne cb9 rfl (by decide)
        refine lv_iconst (v := 1) hx hb dX12_dry_53 (by decide) ?_
        refine lv_goto (tgt := 58) hx hb dX12_dry_54 (by decide) ?_
        refine mcallV' (g := g) (q0 := 0) (ci := 10) (As := [.int x, .int 3, .int 1]) (rest := []) St hK hT hA hP hD hS hl.1 [0] [] rfl rfl rfl (m_put l g o a 0 hi ac2_5 tp ba en tA fl de iD iO tU fm fk fa fc2_6 ft ff fb fi x 3 1 (by first | assumption | omega | decide | exact Or.inl (by decide) | exact Or.inr (by decide)) (by first | assumption | omega | decide | exact Or.inl (by decide) | exact Or.inr (by decide)) (by decide)) (cwV 3 hts (zgL (zl4 k908 k909 k910 k837) k830) rfl rfl rfl (by decide +kernel) ⟨Nat.le_of_ble_eq_true rfl, Nat.le_of_ble_eq_true rfl⟩) rfl rfl rfl rfl (Nat.le_of_ble_eq_true rfl) dX12_dry_58 ⟨(Nat.le_of_ble_eq_true rfl), (Nat.le_of_ble_eq_true rfl)⟩ (fun fm2_19 H locs hq20 hP hD hS => ?_)
        replace hq20 : (rM fm2_19) ∧ ((fm2_19 3).toInt = (fm 3).toInt ∧ (fm2_19 4).toInt = (fm 4).toInt) := hq20
        have hP : va_P g.1 vwCl (List.flatten [bMo g o a 0 hi ac2_5 tp ba en tA fl de iD iO tU fm2_19 fk fa fc2_6 ft ff fb fi]) H := hP
        have hD : va_D A (List.flatten [bMo g o a 0 hi ac2_5 tp ba en tA fl de iD iO tU fm2_19 fk fa fc2_6 ft ff fb fi]) := hD
        refine W.widen (k := 0) (n := 0) (Nat.le_of_ble_eq_true rfl) (Nat.le_of_ble_eq_true rfl) ?_
        refine W.eq (g2 := F0 m 61 ls []) rfl ?_
        obtain ⟨rfm2_19, hq20_1⟩ := hq20
        refine lv_iload_n hx hb dX12_dry_61 rfl (lv_at hl 0 rfl) ?_
        refine lv_iload_n hx hb dX12_dry_62 rfl (lv_at hl 3 rfl) ?_
        refine lv_icmp_eq (tgt := 70) hx hb dX12_dry_63 (by decide) (fun cb9 => ?_) (fun cb9 => ?_)
        · skip
          have c21 : 0 = is.toInt := zeq cb9 (by decide) rfl
          have n22 : 0 ≤ is.toInt := Int.le_trans (Int.le_refl _) (Int.le_of_eq c21)
          have n23 : is.toInt ≤ 0 := Int.le_trans (Int.le_of_eq c21.symm) (Int.le_refl _)
          refine lv_iconst (v := 0) hx hb dX12_dry_70 (by decide) ?_
          have hP : va_P g.1 vwCl (List.flatten [bMo g o a 0 hi ac2_5 tp ba en tA fl de iD iO tU fm2_19 fk fa fc2_6 ft ff fb fi]) H := hP
          have hD : va_D A (List.flatten [bMo g o a 0 hi ac2_5 tp ba en tA fl de iD iO tU fm2_19 fk fa fc2_6 ft ff fb fi]) := hD
          exact mret_z hx hb hr hlocks hS (Nat.le_of_ble_eq_true rfl) (Nat.le_of_ble_eq_true rfl) dX12_dry_71 ((0 : Int32), ac2_5, fc2_6, fm2_19, (0 : Int32)) rfl (by decide) (show (rM fm2_19) ∧ (rC fc2_6) ∧ (0 ≤ ac2_5.toInt ∧ ac2_5.toInt ≤ 12) ∧ (0 = 0 ∨ 0 = 1) from ⟨(by first | assumption | omega | decide | exact rfl | exact zb01 (by omega) | exact Or.inl (by decide) | exact Or.inr (by first | omega | decide)), (by first | assumption | omega | decide | exact rfl | exact zb01 (by omega) | exact Or.inl (by decide) | exact Or.inr (by first | omega | decide)), (by first | assumption | omega | decide | exact rfl | exact zb01 (by omega) | exact Or.inl (by decide) | exact Or.inr (by first | omega | decide)), (by first | assumption | omega | decide | exact rfl | exact zb01 (by omega) | exact Or.inl (by decide) | exact Or.inr (by first | omega | decide))⟩) hP hD
        · skip
          have c24 : ¬ 0 = is.toInt := zne cb9 (by decide) rfl
          refine lv_iconst (v := 1) hx hb dX12_dry_66 (by decide) ?_
          refine lv_goto (tgt := 71) hx hb dX12_dry_67 (by decide) ?_
          have hP : va_P g.1 vwCl (List.flatten [bMo g o a 0 hi ac2_5 tp ba en tA fl de iD iO tU fm2_19 fk fa fc2_6 ft ff fb fi]) H := hP
          have hD : va_D A (List.flatten [bMo g o a 0 hi ac2_5 tp ba en tA fl de iD iO tU fm2_19 fk fa fc2_6 ft ff fb fi]) := hD
          exact mret_z hx hb hr hlocks hS (Nat.le_of_ble_eq_true rfl) (Nat.le_of_ble_eq_true rfl) dX12_dry_71 ((0 : Int32), ac2_5, fc2_6, fm2_19, (1 : Int32)) rfl (by decide) (show (rM fm2_19) ∧ (rC fc2_6) ∧ (0 ≤ ac2_5.toInt ∧ ac2_5.toInt ≤ 12) ∧ (1 = 0 ∨ 1 = 1) from ⟨(by first | assumption | omega | decide | exact rfl | exact zb01 (by omega) | exact Or.inl (by decide) | exact Or.inr (by first | omega | decide)), (by first | assumption | omega | decide | exact rfl | exact zb01 (by omega) | exact Or.inl (by decide) | exact Or.inr (by first | omega | decide)), (by first | assumption | omega | decide | exact rfl | exact zb01 (by omega) | exact Or.inl (by decide) | exact Or.inr (by first | omega | decide)), (by first | assumption | omega | decide | exact rfl | exact zb01 (by omega) | exact Or.inl (by decide) | exact Or.inr (by first | omega | decide))⟩) hP hD
    · skip
      have c25 : q_8.toInt = 1 := zeq cb9 rfl (by decide)
      have n26 : 1 ≤ q_8.toInt := Int.le_trans (Int.le_refl _) (Int.le_of_eq c25.symm)
      have n27 : q_8.toInt ≤ 1 := Int.le_trans (Int.le_of_eq c25) (Int.le_refl _)
      refine lv_iconst (v := 1) hx hb dX12_dry_40 (by decide) ?_
      refine lv_goto (tgt := 45) hx hb dX12_dry_41 (by decide) ?_
      refine lv_istore_n (lv' := [(3, .int 1), (0, .ref o), (1, .int x), (2, .int is)]) hx hb dX12_dry_45 rfl hl (by decide) rfl (fun ls hl => ?_)
      refine lv_aload_n hx hb dX12_dry_46 rfl (lv_at hl 1 rfl) ?_
      refine lv_iload_n hx hb dX12_dry_47 rfl (lv_at hl 2 rfl) ?_
      refine lv_iconst (v := 3) hx hb dX12_dry_48 (by decide) ?_
      refine lv_iload_n hx hb dX12_dry_49 rfl (lv_at hl 3 rfl) ?_
      refine lv_if_eq (tgt := 57) hx hb dX12_dry_50 (by decide) (fun cb9 => ?_) (fun cb9 => ?_)
      · skip
        have c28 : is.toInt = 0 := zeq cb9 rfl (by decide)
        have n29 : 0 ≤ is.toInt := Int.le_trans (Int.le_refl _) (Int.le_of_eq c28.symm)
        have n30 : is.toInt ≤ 0 := Int.le_trans (Int.le_of_eq c28) (Int.le_refl _)
        refine lv_iconst (v := 0) hx hb dX12_dry_57 (by decide) ?_
        refine mcallV' (g := g) (q0 := 0) (ci := 10) (As := [.int x, .int 3, .int 0]) (rest := []) St hK hT hA hP hD hS hl.1 [0] [] rfl rfl rfl (m_put l g o a 0 hi ac2_5 tp ba en tA fl de iD iO tU fm fk fa fc2_6 ft ff fb fi x 3 0 (by first | assumption | omega | decide | exact Or.inl (by decide) | exact Or.inr (by decide)) (by first | assumption | omega | decide | exact Or.inl (by decide) | exact Or.inr (by decide)) (by decide)) (cwV 3 hts (zgL (zl4 k908 k909 k910 k837) k830) rfl rfl rfl (by decide +kernel) ⟨Nat.le_of_ble_eq_true rfl, Nat.le_of_ble_eq_true rfl⟩) rfl rfl rfl rfl (Nat.le_of_ble_eq_true rfl) dX12_dry_58 ⟨(Nat.le_of_ble_eq_true rfl), (Nat.le_of_ble_eq_true rfl)⟩ (fun fm2_31 H locs hq32 hP hD hS => ?_)
        replace hq32 : (rM fm2_31) ∧ ((fm2_31 3).toInt = (fm 3).toInt ∧ (fm2_31 4).toInt = (fm 4).toInt) := hq32
        have hP : va_P g.1 vwCl (List.flatten [bMo g o a 0 hi ac2_5 tp ba en tA fl de iD iO tU fm2_31 fk fa fc2_6 ft ff fb fi]) H := hP
        have hD : va_D A (List.flatten [bMo g o a 0 hi ac2_5 tp ba en tA fl de iD iO tU fm2_31 fk fa fc2_6 ft ff fb fi]) := hD
        refine W.widen (k := 0) (n := 0) (Nat.le_of_ble_eq_true rfl) (Nat.le_of_ble_eq_true rfl) ?_
        refine W.eq (g2 := F0 m 61 ls []) rfl ?_
        obtain ⟨rfm2_31, hq32_1⟩ := hq32
        refine lv_iload_n hx hb dX12_dry_61 rfl (lv_at hl 0 rfl) ?_
        refine lv_iload_n hx hb dX12_dry_62 rfl (lv_at hl 3 rfl) ?_
        refine lv_icmp_eq (tgt := 70) hx hb dX12_dry_63 (by decide) (fun cb9 => ?_) (fun cb9 => ?_)
        · skip
          exact absurd (show 1 = is.toInt from zeq cb9 (by decide) rfl) (zDeq2 (a := 1) (b := 0) (Int.le_refl _) n30 (by decide))
        · skip
          have c34 : ¬ 1 = is.toInt := zne cb9 (by decide) rfl
          refine lv_iconst (v := 1) hx hb dX12_dry_66 (by decide) ?_
          refine lv_goto (tgt := 71) hx hb dX12_dry_67 (by decide) ?_
          have hP : va_P g.1 vwCl (List.flatten [bMo g o a 0 hi ac2_5 tp ba en tA fl de iD iO tU fm2_31 fk fa fc2_6 ft ff fb fi]) H := hP
          have hD : va_D A (List.flatten [bMo g o a 0 hi ac2_5 tp ba en tA fl de iD iO tU fm2_31 fk fa fc2_6 ft ff fb fi]) := hD
          exact mret_z hx hb hr hlocks hS (Nat.le_of_ble_eq_true rfl) (Nat.le_of_ble_eq_true rfl) dX12_dry_71 ((0 : Int32), ac2_5, fc2_6, fm2_31, (1 : Int32)) rfl (by decide) (show (rM fm2_31) ∧ (rC fc2_6) ∧ (0 ≤ ac2_5.toInt ∧ ac2_5.toInt ≤ 12) ∧ (1 = 0 ∨ 1 = 1) from ⟨(by first | assumption | omega | decide | exact rfl | exact zb01 (by omega) | exact Or.inl (by decide) | exact Or.inr (by first | omega | decide)), (by first | assumption | omega | decide | exact rfl | exact zb01 (by omega) | exact Or.inl (by decide) | exact Or.inr (by first | omega | decide)), (by first | assumption | omega | decide | exact rfl | exact zb01 (by omega) | exact Or.inl (by decide) | exact Or.inr (by first | omega | decide)), (by first | assumption | omega | decide | exact rfl | exact zb01 (by omega) | exact Or.inl (by decide) | exact Or.inr (by first | omega | decide))⟩) hP hD
      · skip
        have c35 : ¬ is.toInt = 0 := zne cb9 rfl (by decide)
        refine lv_iconst (v := 1) hx hb dX12_dry_53 (by decide) ?_
        refine lv_goto (tgt := 58) hx hb dX12_dry_54 (by decide) ?_
        refine mcallV' (g := g) (q0 := 0) (ci := 10) (As := [.int x, .int 3, .int 1]) (rest := []) St hK hT hA hP hD hS hl.1 [0] [] rfl rfl rfl (m_put l g o a 0 hi ac2_5 tp ba en tA fl de iD iO tU fm fk fa fc2_6 ft ff fb fi x 3 1 (by first | assumption | omega | decide | exact Or.inl (by decide) | exact Or.inr (by decide)) (by first | assumption | omega | decide | exact Or.inl (by decide) | exact Or.inr (by decide)) (by decide)) (cwV 3 hts (zgL (zl4 k908 k909 k910 k837) k830) rfl rfl rfl (by decide +kernel) ⟨Nat.le_of_ble_eq_true rfl, Nat.le_of_ble_eq_true rfl⟩) rfl rfl rfl rfl (Nat.le_of_ble_eq_true rfl) dX12_dry_58 ⟨(Nat.le_of_ble_eq_true rfl), (Nat.le_of_ble_eq_true rfl)⟩ (fun fm2_36 H locs hq37 hP hD hS => ?_)
        replace hq37 : (rM fm2_36) ∧ ((fm2_36 3).toInt = (fm 3).toInt ∧ (fm2_36 4).toInt = (fm 4).toInt) := hq37
        have hP : va_P g.1 vwCl (List.flatten [bMo g o a 0 hi ac2_5 tp ba en tA fl de iD iO tU fm2_36 fk fa fc2_6 ft ff fb fi]) H := hP
        have hD : va_D A (List.flatten [bMo g o a 0 hi ac2_5 tp ba en tA fl de iD iO tU fm2_36 fk fa fc2_6 ft ff fb fi]) := hD
        refine W.widen (k := 0) (n := 0) (Nat.le_of_ble_eq_true rfl) (Nat.le_of_ble_eq_true rfl) ?_
        refine W.eq (g2 := F0 m 61 ls []) rfl ?_
        obtain ⟨rfm2_36, hq37_1⟩ := hq37
        refine lv_iload_n hx hb dX12_dry_61 rfl (lv_at hl 0 rfl) ?_
        refine lv_iload_n hx hb dX12_dry_62 rfl (lv_at hl 3 rfl) ?_
        refine lv_icmp_eq (tgt := 70) hx hb dX12_dry_63 (by decide) (fun cb9 => ?_) (fun cb9 => ?_)
        · skip
          have c38 : 1 = is.toInt := zeq cb9 (by decide) rfl
          have n39 : 1 ≤ is.toInt := Int.le_trans (Int.le_refl _) (Int.le_of_eq c38)
          have n40 : is.toInt ≤ 1 := Int.le_trans (Int.le_of_eq c38.symm) (Int.le_refl _)
          refine lv_iconst (v := 0) hx hb dX12_dry_70 (by decide) ?_
          have hP : va_P g.1 vwCl (List.flatten [bMo g o a 0 hi ac2_5 tp ba en tA fl de iD iO tU fm2_36 fk fa fc2_6 ft ff fb fi]) H := hP
          have hD : va_D A (List.flatten [bMo g o a 0 hi ac2_5 tp ba en tA fl de iD iO tU fm2_36 fk fa fc2_6 ft ff fb fi]) := hD
          exact mret_z hx hb hr hlocks hS (Nat.le_of_ble_eq_true rfl) (Nat.le_of_ble_eq_true rfl) dX12_dry_71 ((0 : Int32), ac2_5, fc2_6, fm2_36, (0 : Int32)) rfl (by decide) (show (rM fm2_36) ∧ (rC fc2_6) ∧ (0 ≤ ac2_5.toInt ∧ ac2_5.toInt ≤ 12) ∧ (0 = 0 ∨ 0 = 1) from ⟨(by first | assumption | omega | decide | exact rfl | exact zb01 (by omega) | exact Or.inl (by decide) | exact Or.inr (by first | omega | decide)), (by first | assumption | omega | decide | exact rfl | exact zb01 (by omega) | exact Or.inl (by decide) | exact Or.inr (by first | omega | decide)), (by first | assumption | omega | decide | exact rfl | exact zb01 (by omega) | exact Or.inl (by decide) | exact Or.inr (by first | omega | decide)), (by first | assumption | omega | decide | exact rfl | exact zb01 (by omega) | exact Or.inl (by decide) | exact Or.inr (by first | omega | decide))⟩) hP hD
        · skip
          have c41 : ¬ 1 = is.toInt := zne cb9 (by decide) rfl
          refine lv_iconst (v := 1) hx hb dX12_dry_66 (by decide) ?_
          refine lv_goto (tgt := 71) hx hb dX12_dry_67 (by decide) ?_
          have hP : va_P g.1 vwCl (List.flatten [bMo g o a 0 hi ac2_5 tp ba en tA fl de iD iO tU fm2_36 fk fa fc2_6 ft ff fb fi]) H := hP
          have hD : va_D A (List.flatten [bMo g o a 0 hi ac2_5 tp ba en tA fl de iD iO tU fm2_36 fk fa fc2_6 ft ff fb fi]) := hD
          exact mret_z hx hb hr hlocks hS (Nat.le_of_ble_eq_true rfl) (Nat.le_of_ble_eq_true rfl) dX12_dry_71 ((0 : Int32), ac2_5, fc2_6, fm2_36, (1 : Int32)) rfl (by decide) (show (rM fm2_36) ∧ (rC fc2_6) ∧ (0 ≤ ac2_5.toInt ∧ ac2_5.toInt ≤ 12) ∧ (1 = 0 ∨ 1 = 1) from ⟨(by first | assumption | omega | decide | exact rfl | exact zb01 (by omega) | exact Or.inl (by decide) | exact Or.inr (by first | omega | decide)), (by first | assumption | omega | decide | exact rfl | exact zb01 (by omega) | exact Or.inl (by decide) | exact Or.inr (by first | omega | decide)), (by first | assumption | omega | decide | exact rfl | exact zb01 (by omega) | exact Or.inl (by decide) | exact Or.inr (by first | omega | decide)), (by first | assumption | omega | decide | exact rfl | exact zb01 (by omega) | exact Or.inl (by decide) | exact Or.inr (by first | omega | decide))⟩) hP hD
  · skip
    refine lv_if_ne (tgt := 13) hx hb dX12_dry_6 (by decide) (fun c42 => absurd (by decide) c42) (fun _ => ?_)
    refine lv_iconst (v := 1) hx hb dX12_dry_9 (by decide) ?_
    refine lv_goto (tgt := 14) hx hb dX12_dry_10 (by decide) ?_
    refine va_put (D := g.1) (ci := 10) (v := .int 1) (ty := .int) (C := RX12) (T := TX12) (N := 20) hx hb hts izRX12 tyX12 tyX12_ok nmX12 hown hK hP hD hS 0 rfl rfl 0 (by decide) (hts _ k871) (fun _ h9 => h9) rfl (by decide +kernel) rfl rfl (Nat.le_of_ble_eq_true rfl) dX12_dry_14 (fun H locs hP hD hS => ?_)
    have hP : va_P g.1 vwCl (List.flatten [bMo g o a 1 hi ac tp ba en tA fl de iD iO tU fm fk fa fc ft ff fb fi]) H := hP
    have hD : va_D A (List.flatten [bMo g o a 1 hi ac tp ba en tA fl de iD iO tU fm fk fa fc ft ff fb fi]) := hD
    refine lv_aload_n hx hb dX12_dry_17 rfl (lv_at hl 0 rfl) ?_
    refine va_get (D := g.1) (ci := 10) (v := .int 1) (C := RX12) (T := TX12) (N := 20) hx hb hts izRX12 hown hK hP 0 rfl rfl 0 (by decide) (hts _ k871) (fun _ h9 => h9) rfl dX12_dry_18 ?_
    refine lv_if_le (tgt := 26) hx hb dX12_dry_21 (by decide) (fun c43 => absurd c43 (by decide)) (fun _ => ?_)
    refine lv_iconst (v := 0) hx hb dX12_dry_24 (by decide) ?_
    have hP : va_P g.1 vwCl (List.flatten [bMo g o a 1 hi ac tp ba en tA fl de iD iO tU fm fk fa fc ft ff fb fi]) H := hP
    have hD : va_D A (List.flatten [bMo g o a 1 hi ac tp ba en tA fl de iD iO tU fm fk fa fc ft ff fb fi]) := hD
    exact mret_z hx hb hr hlocks hS (Nat.le_of_ble_eq_true rfl) (Nat.le_of_ble_eq_true rfl) dX12_dry_25 ((1 : Int32), ac, fc, fm, (0 : Int32)) rfl (by decide) (show (rM fm) ∧ (rC fc) ∧ (0 ≤ ac.toInt ∧ ac.toInt ≤ 12) ∧ (0 = 0 ∨ 0 = 1) from ⟨(by first | assumption | omega | decide | exact rfl | exact zb01 (by omega) | exact Or.inl (by decide) | exact Or.inr (by first | omega | decide)), (by first | assumption | omega | decide | exact rfl | exact zb01 (by omega) | exact Or.inl (by decide) | exact Or.inr (by first | omega | decide)), (by first | assumption | omega | decide | exact rfl | exact zb01 (by omega) | exact Or.inl (by decide) | exact Or.inr (by first | omega | decide)), (by first | assumption | omega | decide | exact rfl | exact zb01 (by omega) | exact Or.inl (by decide) | exact Or.inr (by first | omega | decide))⟩) hP hD
set_option maxRecDepth 100000 in
set_option maxHeartbeats 4000000 in
theorem m_days (l : Launch) (g : zG) (o : Nat) (a : Nat → Nat) (th : Int32) (hi : Int32) (ac : Int32) (tp : Int32) (ba : Int32) (en : Int32) (tA : Int32) (fl : Int32) (de : Int32) (iD : Int32) (iO : Int32) (tU : Int32) (fm : Nat → Int32) (fk : Nat → Int32) (fa : Nat → Int32) (fc : Nat → Int32) (ft : Nat → Int32) (ff : Nat → Int32) (fb : Nat → Int32) (fi : Nat → Int32) (n : Int32) (rfm : rM fm) (rfc : rC fc) (hac : 0 ≤ ac.toInt ∧ ac.toInt ≤ 12) (hiD : 0 ≤ iD.toInt ∧ iD.toInt ≤ 1) (hiO : 0 ≤ iO.toInt ∧ iO.toInt ≤ 1) : zM' g l yX12_days (Cond.code yX12_days cX12_days 2 (some .int) :: zB) ({ frames := 33, cells := 0, slots := 0, locals := 736 } : Room) [.ref o, .int n] [bMo g o a th hi ac tp ba en tA fl de iD iO tU fm fk fa fc ft ff fb fi] (fun u : Int32 × Int32 × Int32 × Int32 × Int32 × Int32 × Int32 × Int32 × (Nat → Int32) × (Nat → Int32) × (Nat → Int32) × Int32 × (Nat → Int32) × Int32 => (fun (th2 : Int32) (ba2 : Int32) (en2 : Int32) (at2 : Int32) (de2 : Int32) (iD2 : Int32) (iO2 : Int32) (tU2 : Int32) (ff2 : Nat → Int32) (fm2 : Nat → Int32) (fb2 : Nat → Int32) (ac2 : Int32) (fc2 : Nat → Int32) (q : Int32) => some (.int q)) (u.1) (u.2.1) (u.2.2.1) (u.2.2.2.1) (u.2.2.2.2.1) (u.2.2.2.2.2.1) (u.2.2.2.2.2.2.1) (u.2.2.2.2.2.2.2.1) (u.2.2.2.2.2.2.2.2.1) (u.2.2.2.2.2.2.2.2.2.1) (u.2.2.2.2.2.2.2.2.2.2.1) (u.2.2.2.2.2.2.2.2.2.2.2.1) (u.2.2.2.2.2.2.2.2.2.2.2.2.1) (u.2.2.2.2.2.2.2.2.2.2.2.2.2)) (fun u : Int32 × Int32 × Int32 × Int32 × Int32 × Int32 × Int32 × Int32 × (Nat → Int32) × (Nat → Int32) × (Nat → Int32) × Int32 × (Nat → Int32) × Int32 => (fun (th2 : Int32) (ba2 : Int32) (en2 : Int32) (at2 : Int32) (de2 : Int32) (iD2 : Int32) (iO2 : Int32) (tU2 : Int32) (ff2 : Nat → Int32) (fm2 : Nat → Int32) (fb2 : Nat → Int32) (ac2 : Int32) (fc2 : Nat → Int32) (q : Int32) => (rC fc2) ∧ (0 ≤ ac2.toInt ∧ ac2.toInt ≤ 12) ∧ (rM fm2) ∧ (0 ≤ iO2.toInt ∧ iO2.toInt ≤ 1) ∧ (0 ≤ iD2.toInt ∧ iD2.toInt ≤ 1)) (u.1) (u.2.1) (u.2.2.1) (u.2.2.2.1) (u.2.2.2.2.1) (u.2.2.2.2.2.1) (u.2.2.2.2.2.2.1) (u.2.2.2.2.2.2.2.1) (u.2.2.2.2.2.2.2.2.1) (u.2.2.2.2.2.2.2.2.2.1) (u.2.2.2.2.2.2.2.2.2.2.1) (u.2.2.2.2.2.2.2.2.2.2.2.1) (u.2.2.2.2.2.2.2.2.2.2.2.2.1) (u.2.2.2.2.2.2.2.2.2.2.2.2.2)) (fun u : Int32 × Int32 × Int32 × Int32 × Int32 × Int32 × Int32 × Int32 × (Nat → Int32) × (Nat → Int32) × (Nat → Int32) × Int32 × (Nat → Int32) × Int32 => (fun (th2 : Int32) (ba2 : Int32) (en2 : Int32) (at2 : Int32) (de2 : Int32) (iD2 : Int32) (iO2 : Int32) (tU2 : Int32) (ff2 : Nat → Int32) (fm2 : Nat → Int32) (fb2 : Nat → Int32) (ac2 : Int32) (fc2 : Nat → Int32) (q : Int32) => [bMo g o a th2 hi ac2 tp ba2 en2 at2 fl de2 iD2 iO2 tU2 fm2 fk fa fc2 ft ff2 fb2 fi]) (u.1) (u.2.1) (u.2.2.1) (u.2.2.2.1) (u.2.2.2.2.1) (u.2.2.2.2.2.1) (u.2.2.2.2.2.2.1) (u.2.2.2.2.2.2.2.1) (u.2.2.2.2.2.2.2.2.1) (u.2.2.2.2.2.2.2.2.2.1) (u.2.2.2.2.2.2.2.2.2.2.1) (u.2.2.2.2.2.2.2.2.2.2.2.1) (u.2.2.2.2.2.2.2.2.2.2.2.2.1) (u.2.2.2.2.2.2.2.2.2.2.2.2.2)) := by
  refine zM'.of (cc := cX12_days) (maxL := 2) (rt := (some .int)) (by decide) rfl (Nat.le_of_ble_eq_true rfl) ?_
  intro p e s m args below meth c A ls St hr hlocks hin hK hT hA hP hD hS hl
  obtain ⟨hx, hb, hml, hown, hts⟩ := id St
  have hl : lv_has ls 2 [(0, .ref o), (1, .int n)] := hl
  refine lv_aload_n hx hb dX12_days_0 rfl (lv_at hl 0 rfl) ?_
  refine lv_iload_n hx hb dX12_days_1 rfl (lv_at hl 1 rfl) ?_
  refine lv_iconst (v := 1) hx hb dX12_days_2 (by decide) ?_
  refine lv_bipush (v := 60) hx hb dX12_days_3 (by decide) ?_
  have hL1 : (1 : Int32).toInt = 1 := by decide
  have hL60 : (60 : Int32).toInt = 60 := by decide
  refine mcallS' (g := g) (As := [.int n, .int 1, .int 60]) (rest := [.ref o]) St hK hT hA hP hD hS hl.1 [] [0] rfl rfl rfl (m_isIn l g n 1 60 ) (va_cwS 3 hts (zgL (zl3 k835 k836 k837) k824) rfl rfl rfl (by decide +kernel) ⟨Nat.le_of_ble_eq_true rfl, Nat.le_of_ble_eq_true rfl⟩) rfl rfl (Nat.le_of_ble_eq_true rfl) dX12_days_5 ⟨(Nat.le_of_ble_eq_true rfl), (Nat.le_of_ble_eq_true rfl)⟩ (fun q_1 H locs hq2 hP hD hS => ?_)
  replace hq2 : (q_1 = 1 ∧ (1 : Int32).toInt ≤ n.toInt ∧ n.toInt ≤ (60 : Int32).toInt ∨ q_1 = 0 ∧ (n.toInt < (1 : Int32).toInt ∨ (60 : Int32).toInt < n.toInt)) := hq2
  have hP : va_P g.1 vwCl (List.flatten [bMo g o a th hi ac tp ba en tA fl de iD iO tU fm fk fa fc ft ff fb fi]) H := hP
  have hD : va_D A (List.flatten [bMo g o a th hi ac tp ba en tA fl de iD iO tU fm fk fa fc ft ff fb fi]) := hD
  refine W.widen (k := 0) (n := 0) (Nat.le_of_ble_eq_true rfl) (Nat.le_of_ble_eq_true rfl) ?_
  refine W.eq (g2 := F0 m 8 ls [.int q_1, .ref o]) rfl ?_
  rcases hq2 with ⟨rfl, hq2_k⟩ | ⟨rfl, hq2_k⟩
  · skip
    refine lv_if_ne (tgt := 15) hx hb dX12_days_8 (by decide) (fun _ => ?_) (fun c3 => absurd c3 (by decide))
    refine lv_iconst (v := 0) hx hb dX12_days_15 (by decide) ?_
    refine va_put (D := g.1) (ci := 10) (v := .int 0) (ty := .int) (C := RX12) (T := TX12) (N := 20) hx hb hts izRX12 tyX12 tyX12_ok nmX12 hown hK hP hD hS 0 rfl rfl 0 (by decide) (hts _ k871) (fun _ h9 => h9) rfl (by decide +kernel) rfl rfl (Nat.le_of_ble_eq_true rfl) dX12_days_16 (fun H locs hP hD hS => ?_)
    have hP : va_P g.1 vwCl (List.flatten [bMo g o a 0 hi ac tp ba en tA fl de iD iO tU fm fk fa fc ft ff fb fi]) H := hP
    have hD : va_D A (List.flatten [bMo g o a 0 hi ac tp ba en tA fl de iD iO tU fm fk fa fc ft ff fb fi]) := hD
    refine lv_aload_n hx hb dX12_days_19 rfl (lv_at hl 0 rfl) ?_
    refine va_get (D := g.1) (ci := 10) (v := .int 0) (C := RX12) (T := TX12) (N := 20) hx hb hts izRX12 hown hK hP 0 rfl rfl 0 (by decide) (hts _ k871) (fun _ h9 => h9) rfl dX12_days_20 ?_
    refine lv_if_le (tgt := 28) hx hb dX12_days_23 (by decide) (fun _ => ?_) (fun c4 => absurd (by decide) c4)
    refine lv_aload_n hx hb dX12_days_28 rfl (lv_at hl 0 rfl) ?_
    refine mcallV' (g := g) (q0 := 0) (ci := 10) (As := []) (rest := []) St hK hT hA hP hD hS hl.1 [0] [] rfl rfl rfl (m_remembers l g o a 0 hi ac tp ba en tA fl de iD iO tU fm fk fa fc ft ff fb fi (by first | assumption | omega | decide | exact Or.inl (by decide) | exact Or.inr (by decide)) (by first | assumption | omega | decide | exact Or.inl (by decide) | exact Or.inr (by decide)) (⟨hac.1, hac.2⟩)) (cwV 0 hts (zgL (zl4 k1046 k1047 k1048 k837) k1045) rfl rfl rfl (by decide +kernel) ⟨Nat.le_of_ble_eq_true rfl, Nat.le_of_ble_eq_true rfl⟩) rfl rfl rfl rfl (Nat.le_of_ble_eq_true rfl) dX12_days_29 ⟨(Nat.le_of_ble_eq_true rfl), (Nat.le_of_ble_eq_true rfl)⟩ (fun u_ H locs hq7 hP hD hS => ?_)
    obtain ⟨ac2_5, fc2_6⟩ := u_
    replace hq7 : (rC fc2_6) ∧ (0 ≤ ac2_5.toInt ∧ ac2_5.toInt ≤ 12) := hq7
    have hP : va_P g.1 vwCl (List.flatten [bMo g o a 0 hi ac2_5 tp ba en tA fl de iD iO tU fm fk fa fc2_6 ft ff fb fi]) H := hP
    have hD : va_D A (List.flatten [bMo g o a 0 hi ac2_5 tp ba en tA fl de iD iO tU fm fk fa fc2_6 ft ff fb fi]) := hD
    refine W.widen (k := 0) (n := 0) (Nat.le_of_ble_eq_true rfl) (Nat.le_of_ble_eq_true rfl) ?_
    refine W.eq (g2 := F0 m 32 ls []) rfl ?_
    obtain ⟨rfc2_6, hq7_1⟩ := hq7
    refine lv_aload_n hx hb dX12_days_32 rfl (lv_at hl 0 rfl) ?_
    refine lv_iload_n hx hb dX12_days_33 rfl (lv_at hl 1 rfl) ?_
    refine lv_iconst (v := 1) hx hb dX12_days_34 (by decide) ?_
    refine mcallV' (g := g) (q0 := 0) (ci := 10) (As := [.int n, .int 1]) (rest := []) St hK hT hA hP hD hS hl.1 [0] [] rfl rfl rfl (m_goes l g o a 0 hi ac2_5 tp ba en tA fl de iD iO tU fm fk fa fc2_6 ft ff fb fi n 1 (by first | assumption | omega | decide | exact Or.inl (by decide) | exact Or.inr (by decide)) (⟨hiD.1, hiD.2⟩) (⟨hiO.1, hiO.2⟩) (by first | assumption | omega | decide | exact Or.inl (by decide) | exact Or.inr (by decide))) (cwV 2 hts (zgL (zl4 k1056 k1057 k1058 k837) k1027) rfl rfl rfl (by decide +kernel) ⟨Nat.le_of_ble_eq_true rfl, Nat.le_of_ble_eq_true rfl⟩) rfl rfl rfl rfl (Nat.le_of_ble_eq_true rfl) dX12_days_35 ⟨(Nat.le_of_ble_eq_true rfl), (Nat.le_of_ble_eq_true rfl)⟩ (fun u_ H locs hq19 hP hD hS => ?_)
    obtain ⟨ba2_8, en2_9, at2_10, de2_11, iD2_12, iO2_13, tU2_14, ff2_15, fm2_16, fb2_17, q_18⟩ := u_
    replace hq19 : (rM fm2_16) ∧ (0 ≤ iO2_13.toInt ∧ iO2_13.toInt ≤ 1) ∧ (0 ≤ iD2_12.toInt ∧ iD2_12.toInt ≤ 1) := hq19
    have hP : va_P g.1 vwCl (List.flatten [bMo g o a 0 hi ac2_5 tp ba2_8 en2_9 at2_10 fl de2_11 iD2_12 iO2_13 tU2_14 fm2_16 fk fa fc2_6 ft ff2_15 fb2_17 fi]) H := hP
    have hD : va_D A (List.flatten [bMo g o a 0 hi ac2_5 tp ba2_8 en2_9 at2_10 fl de2_11 iD2_12 iO2_13 tU2_14 fm2_16 fk fa fc2_6 ft ff2_15 fb2_17 fi]) := hD
    refine W.widen (k := 0) (n := 0) (Nat.le_of_ble_eq_true rfl) (Nat.le_of_ble_eq_true rfl) ?_
    refine W.eq (g2 := F0 m 38 ls [.int q_18]) rfl ?_
    obtain ⟨rfm2_16, hq19_1, hq19_2⟩ := hq19
    have hP : va_P g.1 vwCl (List.flatten [bMo g o a 0 hi ac2_5 tp ba2_8 en2_9 at2_10 fl de2_11 iD2_12 iO2_13 tU2_14 fm2_16 fk fa fc2_6 ft ff2_15 fb2_17 fi]) H := hP
    have hD : va_D A (List.flatten [bMo g o a 0 hi ac2_5 tp ba2_8 en2_9 at2_10 fl de2_11 iD2_12 iO2_13 tU2_14 fm2_16 fk fa fc2_6 ft ff2_15 fb2_17 fi]) := hD
    exact mret_i hx hb hr hlocks hS (Nat.le_of_ble_eq_true rfl) (Nat.le_of_ble_eq_true rfl) dX12_days_38 ((0 : Int32), ba2_8, en2_9, at2_10, de2_11, iD2_12, iO2_13, tU2_14, ff2_15, fm2_16, fb2_17, ac2_5, fc2_6, q_18) rfl (show (rC fc2_6) ∧ (0 ≤ ac2_5.toInt ∧ ac2_5.toInt ≤ 12) ∧ (rM fm2_16) ∧ (0 ≤ iO2_13.toInt ∧ iO2_13.toInt ≤ 1) ∧ (0 ≤ iD2_12.toInt ∧ iD2_12.toInt ≤ 1) from ⟨(by first | assumption | omega | decide | exact rfl | exact zb01 (by omega) | exact Or.inl (by decide) | exact Or.inr (by first | omega | decide)), (by first | assumption | omega | decide | exact rfl | exact zb01 (by omega) | exact Or.inl (by decide) | exact Or.inr (by first | omega | decide)), (by first | assumption | omega | decide | exact rfl | exact zb01 (by omega) | exact Or.inl (by decide) | exact Or.inr (by first | omega | decide)), (by first | assumption | omega | decide | exact rfl | exact zb01 (by omega) | exact Or.inl (by decide) | exact Or.inr (by first | omega | decide)), (by first | assumption | omega | decide | exact rfl | exact zb01 (by omega) | exact Or.inl (by decide) | exact Or.inr (by first | omega | decide))⟩) hP hD
  · skip
    refine lv_if_ne (tgt := 15) hx hb dX12_days_8 (by decide) (fun c20 => absurd (by decide) c20) (fun _ => ?_)
    refine lv_iconst (v := 1) hx hb dX12_days_11 (by decide) ?_
    refine lv_goto (tgt := 16) hx hb dX12_days_12 (by decide) ?_
    refine va_put (D := g.1) (ci := 10) (v := .int 1) (ty := .int) (C := RX12) (T := TX12) (N := 20) hx hb hts izRX12 tyX12 tyX12_ok nmX12 hown hK hP hD hS 0 rfl rfl 0 (by decide) (hts _ k871) (fun _ h9 => h9) rfl (by decide +kernel) rfl rfl (Nat.le_of_ble_eq_true rfl) dX12_days_16 (fun H locs hP hD hS => ?_)
    have hP : va_P g.1 vwCl (List.flatten [bMo g o a 1 hi ac tp ba en tA fl de iD iO tU fm fk fa fc ft ff fb fi]) H := hP
    have hD : va_D A (List.flatten [bMo g o a 1 hi ac tp ba en tA fl de iD iO tU fm fk fa fc ft ff fb fi]) := hD
    refine lv_aload_n hx hb dX12_days_19 rfl (lv_at hl 0 rfl) ?_
    refine va_get (D := g.1) (ci := 10) (v := .int 1) (C := RX12) (T := TX12) (N := 20) hx hb hts izRX12 hown hK hP 0 rfl rfl 0 (by decide) (hts _ k871) (fun _ h9 => h9) rfl dX12_days_20 ?_
    refine lv_if_le (tgt := 28) hx hb dX12_days_23 (by decide) (fun c21 => absurd c21 (by decide)) (fun _ => ?_)
    refine lv_iconst (v := 0) hx hb dX12_days_26 (by decide) ?_
    have hP : va_P g.1 vwCl (List.flatten [bMo g o a 1 hi ac tp ba en tA fl de iD iO tU fm fk fa fc ft ff fb fi]) H := hP
    have hD : va_D A (List.flatten [bMo g o a 1 hi ac tp ba en tA fl de iD iO tU fm fk fa fc ft ff fb fi]) := hD
    exact mret_i hx hb hr hlocks hS (Nat.le_of_ble_eq_true rfl) (Nat.le_of_ble_eq_true rfl) dX12_days_27 ((1 : Int32), ba, en, tA, de, iD, iO, tU, ff, fm, fb, ac, fc, (0 : Int32)) rfl (show (rC fc) ∧ (0 ≤ ac.toInt ∧ ac.toInt ≤ 12) ∧ (rM fm) ∧ (0 ≤ iO.toInt ∧ iO.toInt ≤ 1) ∧ (0 ≤ iD.toInt ∧ iD.toInt ≤ 1) from ⟨(by first | assumption | omega | decide | exact rfl | exact zb01 (by omega) | exact Or.inl (by decide) | exact Or.inr (by first | omega | decide)), (by first | assumption | omega | decide | exact rfl | exact zb01 (by omega) | exact Or.inl (by decide) | exact Or.inr (by first | omega | decide)), (by first | assumption | omega | decide | exact rfl | exact zb01 (by omega) | exact Or.inl (by decide) | exact Or.inr (by first | omega | decide)), (by first | assumption | omega | decide | exact rfl | exact zb01 (by omega) | exact Or.inl (by decide) | exact Or.inr (by first | omega | decide)), (by first | assumption | omega | decide | exact rfl | exact zb01 (by omega) | exact Or.inl (by decide) | exact Or.inr (by first | omega | decide))⟩) hP hD
set_option maxRecDepth 100000 in
set_option maxHeartbeats 4000000 in
theorem m_ahead (l : Launch) (g : zG) (o : Nat) (a : Nat → Nat) (th : Int32) (hi : Int32) (ac : Int32) (tp : Int32) (ba : Int32) (en : Int32) (tA : Int32) (fl : Int32) (de : Int32) (iD : Int32) (iO : Int32) (tU : Int32) (fm : Nat → Int32) (fk : Nat → Int32) (fa : Nat → Int32) (fc : Nat → Int32) (ft : Nat → Int32) (ff : Nat → Int32) (fb : Nat → Int32) (fi : Nat → Int32) (x : Int32) (n : Int32) (rfm : rM fm) (rfa : rM fa) (hiD : 0 ≤ iD.toInt ∧ iD.toInt ≤ 1) (hiO : 0 ≤ iO.toInt ∧ iO.toInt ≤ 1) : zM' g l yX12_ahead (Cond.code yX12_ahead cX12_ahead 5 (some .int) :: zB) ({ frames := 33, cells := 0, slots := 0, locals := 736 } : Room) [.ref o, .int x, .int n] [bMo g o a th hi ac tp ba en tA fl de iD iO tU fm fk fa fc ft ff fb fi] (fun u : Int32 × Int32 × Int32 × Int32 × Int32 × Int32 × Int32 × Int32 × (Nat → Int32) × (Nat → Int32) × (Nat → Int32) × (Nat → Int32) × Int32 => (fun (th2 : Int32) (ba2 : Int32) (en2 : Int32) (at2 : Int32) (de2 : Int32) (iD2 : Int32) (iO2 : Int32) (tU2 : Int32) (ff2 : Nat → Int32) (fm2 : Nat → Int32) (fb2 : Nat → Int32) (fa2 : Nat → Int32) (q : Int32) => some (.int q)) (u.1) (u.2.1) (u.2.2.1) (u.2.2.2.1) (u.2.2.2.2.1) (u.2.2.2.2.2.1) (u.2.2.2.2.2.2.1) (u.2.2.2.2.2.2.2.1) (u.2.2.2.2.2.2.2.2.1) (u.2.2.2.2.2.2.2.2.2.1) (u.2.2.2.2.2.2.2.2.2.2.1) (u.2.2.2.2.2.2.2.2.2.2.2.1) (u.2.2.2.2.2.2.2.2.2.2.2.2)) (fun u : Int32 × Int32 × Int32 × Int32 × Int32 × Int32 × Int32 × Int32 × (Nat → Int32) × (Nat → Int32) × (Nat → Int32) × (Nat → Int32) × Int32 => (fun (th2 : Int32) (ba2 : Int32) (en2 : Int32) (at2 : Int32) (de2 : Int32) (iD2 : Int32) (iO2 : Int32) (tU2 : Int32) (ff2 : Nat → Int32) (fm2 : Nat → Int32) (fb2 : Nat → Int32) (fa2 : Nat → Int32) (q : Int32) => (rM fa2) ∧ (rM fm2) ∧ (0 ≤ iO2.toInt ∧ iO2.toInt ≤ 1) ∧ (0 ≤ iD2.toInt ∧ iD2.toInt ≤ 1)) (u.1) (u.2.1) (u.2.2.1) (u.2.2.2.1) (u.2.2.2.2.1) (u.2.2.2.2.2.1) (u.2.2.2.2.2.2.1) (u.2.2.2.2.2.2.2.1) (u.2.2.2.2.2.2.2.2.1) (u.2.2.2.2.2.2.2.2.2.1) (u.2.2.2.2.2.2.2.2.2.2.1) (u.2.2.2.2.2.2.2.2.2.2.2.1) (u.2.2.2.2.2.2.2.2.2.2.2.2)) (fun u : Int32 × Int32 × Int32 × Int32 × Int32 × Int32 × Int32 × Int32 × (Nat → Int32) × (Nat → Int32) × (Nat → Int32) × (Nat → Int32) × Int32 => (fun (th2 : Int32) (ba2 : Int32) (en2 : Int32) (at2 : Int32) (de2 : Int32) (iD2 : Int32) (iO2 : Int32) (tU2 : Int32) (ff2 : Nat → Int32) (fm2 : Nat → Int32) (fb2 : Nat → Int32) (fa2 : Nat → Int32) (q : Int32) => [bMo g o a th2 hi ac tp ba2 en2 at2 fl de2 iD2 iO2 tU2 fm2 fk fa2 fc ft ff2 fb2 fi]) (u.1) (u.2.1) (u.2.2.1) (u.2.2.2.1) (u.2.2.2.2.1) (u.2.2.2.2.2.1) (u.2.2.2.2.2.2.1) (u.2.2.2.2.2.2.2.1) (u.2.2.2.2.2.2.2.2.1) (u.2.2.2.2.2.2.2.2.2.1) (u.2.2.2.2.2.2.2.2.2.2.1) (u.2.2.2.2.2.2.2.2.2.2.2.1) (u.2.2.2.2.2.2.2.2.2.2.2.2)) := by
  refine zM'.of (cc := cX12_ahead) (maxL := 5) (rt := (some .int)) (by decide) rfl (Nat.le_of_ble_eq_true rfl) ?_
  intro p e s m args below meth c A ls St hr hlocks hin hK hT hA hP hD hS hl
  obtain ⟨hx, hb, hml, hown, hts⟩ := id St
  have hl : lv_has ls 5 [(0, .ref o), (1, .int x), (2, .int n)] := hl
  refine lv_aload_n hx hb dX12_ahead_0 rfl (lv_at hl 0 rfl) ?_
  refine lv_aload_n hx hb dX12_ahead_1 rfl (lv_at hl 0 rfl) ?_
  refine lv_iload_n hx hb dX12_ahead_2 rfl (lv_at hl 1 rfl) ?_
  refine mcallV' (g := g) (q0 := 0) (ci := 10) (As := [.int x]) (rest := [.ref o]) St hK hT hA hP hD hS hl.1 [0] [] rfl rfl rfl (m_isPerson l g o a th hi ac tp ba en tA fl de iD iO tU fm fk fa fc ft ff fb fi x (by first | assumption | omega | decide | exact Or.inl (by decide) | exact Or.inr (by decide))) (cwV 1 hts (zgL (zl4 k1032 k1033 k1034 k837) k834) rfl rfl rfl (by decide +kernel) ⟨Nat.le_of_ble_eq_true rfl, Nat.le_of_ble_eq_true rfl⟩) rfl rfl rfl rfl (Nat.le_of_ble_eq_true rfl) dX12_ahead_3 ⟨(Nat.le_of_ble_eq_true rfl), (Nat.le_of_ble_eq_true rfl)⟩ (fun q_1 H locs hq2 hP hD hS => ?_)
  replace hq2 : (q_1 = 1 ∧ 0 ≤ x.toInt ∧ x.toInt ≤ 7 ∧ x.toInt < (fm 3).toInt ∨ q_1 = 0) := hq2
  have hP : va_P g.1 vwCl (List.flatten [bMo g o a th hi ac tp ba en tA fl de iD iO tU fm fk fa fc ft ff fb fi]) H := hP
  have hD : va_D A (List.flatten [bMo g o a th hi ac tp ba en tA fl de iD iO tU fm fk fa fc ft ff fb fi]) := hD
  refine W.widen (k := 0) (n := 0) (Nat.le_of_ble_eq_true rfl) (Nat.le_of_ble_eq_true rfl) ?_
  refine W.eq (g2 := F0 m 6 ls [.int q_1, .ref o]) rfl ?_
  rcases hq2 with ⟨rfl, hq2_k⟩ | rfl
  · skip
    refine lv_if_ne (tgt := 13) hx hb dX12_ahead_6 (by decide) (fun _ => ?_) (fun c3 => absurd c3 (by decide))
    refine lv_iload_n hx hb dX12_ahead_13 rfl (lv_at hl 2 rfl) ?_
    refine lv_iconst (v := 0) hx hb dX12_ahead_14 (by decide) ?_
    refine lv_bipush (v := 100) hx hb dX12_ahead_15 (by decide) ?_
    have hL0 : (0 : Int32).toInt = 0 := by decide
    have hL100 : (100 : Int32).toInt = 100 := by decide
    refine mcallS' (g := g) (As := [.int n, .int 0, .int 100]) (rest := [.ref o]) St hK hT hA hP hD hS hl.1 [] [0] rfl rfl rfl (m_isIn l g n 0 100 ) (va_cwS 3 hts (zgL (zl3 k835 k836 k837) k824) rfl rfl rfl (by decide +kernel) ⟨Nat.le_of_ble_eq_true rfl, Nat.le_of_ble_eq_true rfl⟩) rfl rfl (Nat.le_of_ble_eq_true rfl) dX12_ahead_17 ⟨(Nat.le_of_ble_eq_true rfl), (Nat.le_of_ble_eq_true rfl)⟩ (fun q_4 H locs hq5 hP hD hS => ?_)
    replace hq5 : (q_4 = 1 ∧ (0 : Int32).toInt ≤ n.toInt ∧ n.toInt ≤ (100 : Int32).toInt ∨ q_4 = 0 ∧ (n.toInt < (0 : Int32).toInt ∨ (100 : Int32).toInt < n.toInt)) := hq5
    have hP : va_P g.1 vwCl (List.flatten [bMo g o a th hi ac tp ba en tA fl de iD iO tU fm fk fa fc ft ff fb fi]) H := hP
    have hD : va_D A (List.flatten [bMo g o a th hi ac tp ba en tA fl de iD iO tU fm fk fa fc ft ff fb fi]) := hD
    refine W.widen (k := 0) (n := 0) (Nat.le_of_ble_eq_true rfl) (Nat.le_of_ble_eq_true rfl) ?_
    refine W.eq (g2 := F0 m 20 ls [.int q_4, .ref o]) rfl ?_
    rcases hq5 with ⟨rfl, hq5_k⟩ | ⟨rfl, hq5_k⟩
    · skip
      refine lv_if_ne (tgt := 27) hx hb dX12_ahead_20 (by decide) (fun _ => ?_) (fun c6 => absurd c6 (by decide))
      refine lv_iconst (v := 0) hx hb dX12_ahead_27 (by decide) ?_
      refine va_put (D := g.1) (ci := 10) (v := .int 0) (ty := .int) (C := RX12) (T := TX12) (N := 20) hx hb hts izRX12 tyX12 tyX12_ok nmX12 hown hK hP hD hS 0 rfl rfl 0 (by decide) (hts _ k871) (fun _ h9 => h9) rfl (by decide +kernel) rfl rfl (Nat.le_of_ble_eq_true rfl) dX12_ahead_28 (fun H locs hP hD hS => ?_)
      have hP : va_P g.1 vwCl (List.flatten [bMo g o a 0 hi ac tp ba en tA fl de iD iO tU fm fk fa fc ft ff fb fi]) H := hP
      have hD : va_D A (List.flatten [bMo g o a 0 hi ac tp ba en tA fl de iD iO tU fm fk fa fc ft ff fb fi]) := hD
      refine lv_aload_n hx hb dX12_ahead_31 rfl (lv_at hl 0 rfl) ?_
      refine va_get (D := g.1) (ci := 10) (v := .int 0) (C := RX12) (T := TX12) (N := 20) hx hb hts izRX12 hown hK hP 0 rfl rfl 0 (by decide) (hts _ k871) (fun _ h9 => h9) rfl dX12_ahead_32 ?_
      refine lv_if_le (tgt := 40) hx hb dX12_ahead_35 (by decide) (fun _ => ?_) (fun c7 => absurd (by decide) c7)
      refine lv_aload_n hx hb dX12_ahead_40 rfl (lv_at hl 0 rfl) ?_
      refine mcallV' (g := g) (q0 := 0) (ci := 10) (As := []) (rest := []) St hK hT hA hP hD hS hl.1 [0] [] rfl rfl rfl (m_putsAside l g o a 0 hi ac tp ba en tA fl de iD iO tU fm fk fa fc ft ff fb fi (by first | assumption | omega | decide | exact Or.inl (by decide) | exact Or.inr (by decide)) (by first | assumption | omega | decide | exact Or.inl (by decide) | exact Or.inr (by decide))) (cwV 0 hts (zgL (zl4 k974 k975 k976 k837) k971) rfl rfl rfl (by decide +kernel) ⟨Nat.le_of_ble_eq_true rfl, Nat.le_of_ble_eq_true rfl⟩) rfl rfl rfl rfl (Nat.le_of_ble_eq_true rfl) dX12_ahead_41 ⟨(Nat.le_of_ble_eq_true rfl), (Nat.le_of_ble_eq_true rfl)⟩ (fun fa2_8 H locs hq9 hP hD hS => ?_)
      replace hq9 : (rM fa2_8) := hq9
      have hP : va_P g.1 vwCl (List.flatten [bMo g o a 0 hi ac tp ba en tA fl de iD iO tU fm fk fa2_8 fc ft ff fb fi]) H := hP
      have hD : va_D A (List.flatten [bMo g o a 0 hi ac tp ba en tA fl de iD iO tU fm fk fa2_8 fc ft ff fb fi]) := hD
      refine W.widen (k := 0) (n := 0) (Nat.le_of_ble_eq_true rfl) (Nat.le_of_ble_eq_true rfl) ?_
      refine W.eq (g2 := F0 m 44 ls []) rfl ?_
      have rfa2_8 := hq9; clear hq9
      refine lv_aload_n hx hb dX12_ahead_44 rfl (lv_at hl 0 rfl) ?_
      refine lv_iload_n hx hb dX12_ahead_45 rfl (lv_at hl 2 rfl) ?_
      refine lv_iconst (v := 0) hx hb dX12_ahead_46 (by decide) ?_
      refine mcallV' (g := g) (q0 := 0) (ci := 10) (As := [.int n, .int 0]) (rest := []) St hK hT hA hP hD hS hl.1 [0] [] rfl rfl rfl (m_goes l g o a 0 hi ac tp ba en tA fl de iD iO tU fm fk fa2_8 fc ft ff fb fi n 0 (by first | assumption | omega | decide | exact Or.inl (by decide) | exact Or.inr (by decide)) (⟨hiD.1, hiD.2⟩) (⟨hiO.1, hiO.2⟩) (by first | assumption | omega | decide | exact Or.inl (by decide) | exact Or.inr (by decide))) (cwV 2 hts (zgL (zl4 k1056 k1057 k1058 k837) k1027) rfl rfl rfl (by decide +kernel) ⟨Nat.le_of_ble_eq_true rfl, Nat.le_of_ble_eq_true rfl⟩) rfl rfl rfl rfl (Nat.le_of_ble_eq_true rfl) dX12_ahead_47 ⟨(Nat.le_of_ble_eq_true rfl), (Nat.le_of_ble_eq_true rfl)⟩ (fun u_ H locs hq21 hP hD hS => ?_)
      obtain ⟨ba2_10, en2_11, at2_12, de2_13, iD2_14, iO2_15, tU2_16, ff2_17, fm2_18, fb2_19, q_20⟩ := u_
      replace hq21 : (rM fm2_18) ∧ (0 ≤ iO2_15.toInt ∧ iO2_15.toInt ≤ 1) ∧ (0 ≤ iD2_14.toInt ∧ iD2_14.toInt ≤ 1) := hq21
      have hP : va_P g.1 vwCl (List.flatten [bMo g o a 0 hi ac tp ba2_10 en2_11 at2_12 fl de2_13 iD2_14 iO2_15 tU2_16 fm2_18 fk fa2_8 fc ft ff2_17 fb2_19 fi]) H := hP
      have hD : va_D A (List.flatten [bMo g o a 0 hi ac tp ba2_10 en2_11 at2_12 fl de2_13 iD2_14 iO2_15 tU2_16 fm2_18 fk fa2_8 fc ft ff2_17 fb2_19 fi]) := hD
      refine W.widen (k := 0) (n := 0) (Nat.le_of_ble_eq_true rfl) (Nat.le_of_ble_eq_true rfl) ?_
      refine W.eq (g2 := F0 m 50 ls [.int q_20]) rfl ?_
      obtain ⟨rfm2_18, hq21_1, hq21_2⟩ := hq21
      refine lv_istore_n (lv' := [(3, .int q_20), (0, .ref o), (1, .int x), (2, .int n)]) hx hb dX12_ahead_50 rfl hl (by decide) rfl (fun ls hl => ?_)
      refine lv_aload_n hx hb dX12_ahead_51 rfl (lv_at hl 1 rfl) ?_
      refine lv_iload_n hx hb dX12_ahead_52 rfl (lv_at hl 2 rfl) ?_
      refine lv_iconst (v := 0) hx hb dX12_ahead_53 (by decide) ?_
      refine mcallV' (g := g) (q0 := 0) (ci := 10) (As := [.int x, .int 0]) (rest := []) St hK hT hA hP hD hS hl.1 [0] [] rfl rfl rfl (m_of l g o a 0 hi ac tp ba2_10 en2_11 at2_12 fl de2_13 iD2_14 iO2_15 tU2_16 fm2_18 fk fa2_8 fc ft ff2_17 fb2_19 fi x 0 (by first | assumption | omega | decide | exact Or.inl (by decide) | exact Or.inr (by decide)) (by decide)) (cwV 2 hts (zgL (zl4 k840 k841 k842 k837) k829) rfl rfl rfl (by decide +kernel) ⟨Nat.le_of_ble_eq_true rfl, Nat.le_of_ble_eq_true rfl⟩) rfl rfl rfl rfl (Nat.le_of_ble_eq_true rfl) dX12_ahead_54 ⟨(Nat.le_of_ble_eq_true rfl), (Nat.le_of_ble_eq_true rfl)⟩ (fun q_22 H locs hq23 hP hD hS => ?_)
      have hP : va_P g.1 vwCl (List.flatten [bMo g o a 0 hi ac tp ba2_10 en2_11 at2_12 fl de2_13 iD2_14 iO2_15 tU2_16 fm2_18 fk fa2_8 fc ft ff2_17 fb2_19 fi]) H := hP
      have hD : va_D A (List.flatten [bMo g o a 0 hi ac tp ba2_10 en2_11 at2_12 fl de2_13 iD2_14 iO2_15 tU2_16 fm2_18 fk fa2_8 fc ft ff2_17 fb2_19 fi]) := hD
      refine W.widen (k := 0) (n := 0) (Nat.le_of_ble_eq_true rfl) (Nat.le_of_ble_eq_true rfl) ?_
      refine W.eq (g2 := F0 m 57 ls [.int q_22]) rfl ?_
      refine lv_istore (lv' := [(4, .int q_22), (3, .int q_20), (0, .ref o), (1, .int x), (2, .int n)]) hx hb dX12_ahead_57 hl (by decide) rfl (fun ls hl => ?_)
      refine lv_aload_n hx hb dX12_ahead_59 rfl (lv_at hl 2 rfl) ?_
      refine mcallV' (g := g) (q0 := 0) (ci := 10) (As := []) (rest := []) St hK hT hA hP hD hS hl.1 [0] [] rfl rfl rfl (m_comesBack l g o a 0 hi ac tp ba2_10 en2_11 at2_12 fl de2_13 iD2_14 iO2_15 tU2_16 fm2_18 fk fa2_8 fc ft ff2_17 fb2_19 fi (by first | assumption | omega | decide | exact Or.inl (by decide) | exact Or.inr (by decide)) (by first | assumption | omega | decide | exact Or.inl (by decide) | exact Or.inr (by decide))) (cwV 0 hts (zgL (zl4 k983 k984 k985 k837) k972) rfl rfl rfl (by decide +kernel) ⟨Nat.le_of_ble_eq_true rfl, Nat.le_of_ble_eq_true rfl⟩) rfl rfl rfl rfl (Nat.le_of_ble_eq_true rfl) dX12_ahead_60 ⟨(Nat.le_of_ble_eq_true rfl), (Nat.le_of_ble_eq_true rfl)⟩ (fun fm2_24 H locs hq25 hP hD hS => ?_)
      replace hq25 : (rM fm2_24) := hq25
      have hP : va_P g.1 vwCl (List.flatten [bMo g o a 0 hi ac tp ba2_10 en2_11 at2_12 fl de2_13 iD2_14 iO2_15 tU2_16 fm2_24 fk fa2_8 fc ft ff2_17 fb2_19 fi]) H := hP
      have hD : va_D A (List.flatten [bMo g o a 0 hi ac tp ba2_10 en2_11 at2_12 fl de2_13 iD2_14 iO2_15 tU2_16 fm2_24 fk fa2_8 fc ft ff2_17 fb2_19 fi]) := hD
      refine W.widen (k := 0) (n := 0) (Nat.le_of_ble_eq_true rfl) (Nat.le_of_ble_eq_true rfl) ?_
      refine W.eq (g2 := F0 m 63 ls []) rfl ?_
      have rfm2_24 := hq25; clear hq25
      refine lv_iload hx hb dX12_ahead_63 (lv_at hl 0 rfl) ?_
      have hP : va_P g.1 vwCl (List.flatten [bMo g o a 0 hi ac tp ba2_10 en2_11 at2_12 fl de2_13 iD2_14 iO2_15 tU2_16 fm2_24 fk fa2_8 fc ft ff2_17 fb2_19 fi]) H := hP
      have hD : va_D A (List.flatten [bMo g o a 0 hi ac tp ba2_10 en2_11 at2_12 fl de2_13 iD2_14 iO2_15 tU2_16 fm2_24 fk fa2_8 fc ft ff2_17 fb2_19 fi]) := hD
      exact mret_i hx hb hr hlocks hS (Nat.le_of_ble_eq_true rfl) (Nat.le_of_ble_eq_true rfl) dX12_ahead_65 ((0 : Int32), ba2_10, en2_11, at2_12, de2_13, iD2_14, iO2_15, tU2_16, ff2_17, fm2_24, fb2_19, fa2_8, q_22) rfl (show (rM fa2_8) ∧ (rM fm2_24) ∧ (0 ≤ iO2_15.toInt ∧ iO2_15.toInt ≤ 1) ∧ (0 ≤ iD2_14.toInt ∧ iD2_14.toInt ≤ 1) from ⟨(by first | assumption | omega | decide | exact rfl | exact zb01 (by omega) | exact Or.inl (by decide) | exact Or.inr (by first | omega | decide)), (by first | assumption | omega | decide | exact rfl | exact zb01 (by omega) | exact Or.inl (by decide) | exact Or.inr (by first | omega | decide)), (by first | assumption | omega | decide | exact rfl | exact zb01 (by omega) | exact Or.inl (by decide) | exact Or.inr (by first | omega | decide)), (by first | assumption | omega | decide | exact rfl | exact zb01 (by omega) | exact Or.inl (by decide) | exact Or.inr (by first | omega | decide))⟩) hP hD
    · skip
      refine lv_if_ne (tgt := 27) hx hb dX12_ahead_20 (by decide) (fun c26 => absurd (by decide) c26) (fun _ => ?_)
      refine lv_iconst (v := 2) hx hb dX12_ahead_23 (by decide) ?_
      refine lv_goto (tgt := 28) hx hb dX12_ahead_24 (by decide) ?_
      refine va_put (D := g.1) (ci := 10) (v := .int 2) (ty := .int) (C := RX12) (T := TX12) (N := 20) hx hb hts izRX12 tyX12 tyX12_ok nmX12 hown hK hP hD hS 0 rfl rfl 0 (by decide) (hts _ k871) (fun _ h9 => h9) rfl (by decide +kernel) rfl rfl (Nat.le_of_ble_eq_true rfl) dX12_ahead_28 (fun H locs hP hD hS => ?_)
      have hP : va_P g.1 vwCl (List.flatten [bMo g o a 2 hi ac tp ba en tA fl de iD iO tU fm fk fa fc ft ff fb fi]) H := hP
      have hD : va_D A (List.flatten [bMo g o a 2 hi ac tp ba en tA fl de iD iO tU fm fk fa fc ft ff fb fi]) := hD
      refine lv_aload_n hx hb dX12_ahead_31 rfl (lv_at hl 0 rfl) ?_
      refine va_get (D := g.1) (ci := 10) (v := .int 2) (C := RX12) (T := TX12) (N := 20) hx hb hts izRX12 hown hK hP 0 rfl rfl 0 (by decide) (hts _ k871) (fun _ h9 => h9) rfl dX12_ahead_32 ?_
      refine lv_if_le (tgt := 40) hx hb dX12_ahead_35 (by decide) (fun c27 => absurd c27 (by decide)) (fun _ => ?_)
      refine lv_iconst (v := 0) hx hb dX12_ahead_38 (by decide) ?_
      have hP : va_P g.1 vwCl (List.flatten [bMo g o a 2 hi ac tp ba en tA fl de iD iO tU fm fk fa fc ft ff fb fi]) H := hP
      have hD : va_D A (List.flatten [bMo g o a 2 hi ac tp ba en tA fl de iD iO tU fm fk fa fc ft ff fb fi]) := hD
      exact mret_i hx hb hr hlocks hS (Nat.le_of_ble_eq_true rfl) (Nat.le_of_ble_eq_true rfl) dX12_ahead_39 ((2 : Int32), ba, en, tA, de, iD, iO, tU, ff, fm, fb, fa, (0 : Int32)) rfl (show (rM fa) ∧ (rM fm) ∧ (0 ≤ iO.toInt ∧ iO.toInt ≤ 1) ∧ (0 ≤ iD.toInt ∧ iD.toInt ≤ 1) from ⟨(by first | assumption | omega | decide | exact rfl | exact zb01 (by omega) | exact Or.inl (by decide) | exact Or.inr (by first | omega | decide)), (by first | assumption | omega | decide | exact rfl | exact zb01 (by omega) | exact Or.inl (by decide) | exact Or.inr (by first | omega | decide)), (by first | assumption | omega | decide | exact rfl | exact zb01 (by omega) | exact Or.inl (by decide) | exact Or.inr (by first | omega | decide)), (by first | assumption | omega | decide | exact rfl | exact zb01 (by omega) | exact Or.inl (by decide) | exact Or.inr (by first | omega | decide))⟩) hP hD
  · skip
    refine lv_if_ne (tgt := 13) hx hb dX12_ahead_6 (by decide) (fun c28 => absurd (by decide) c28) (fun _ => ?_)
    refine lv_iconst (v := 1) hx hb dX12_ahead_9 (by decide) ?_
    refine lv_goto (tgt := 28) hx hb dX12_ahead_10 (by decide) ?_
    refine va_put (D := g.1) (ci := 10) (v := .int 1) (ty := .int) (C := RX12) (T := TX12) (N := 20) hx hb hts izRX12 tyX12 tyX12_ok nmX12 hown hK hP hD hS 0 rfl rfl 0 (by decide) (hts _ k871) (fun _ h9 => h9) rfl (by decide +kernel) rfl rfl (Nat.le_of_ble_eq_true rfl) dX12_ahead_28 (fun H locs hP hD hS => ?_)
    have hP : va_P g.1 vwCl (List.flatten [bMo g o a 1 hi ac tp ba en tA fl de iD iO tU fm fk fa fc ft ff fb fi]) H := hP
    have hD : va_D A (List.flatten [bMo g o a 1 hi ac tp ba en tA fl de iD iO tU fm fk fa fc ft ff fb fi]) := hD
    refine lv_aload_n hx hb dX12_ahead_31 rfl (lv_at hl 0 rfl) ?_
    refine va_get (D := g.1) (ci := 10) (v := .int 1) (C := RX12) (T := TX12) (N := 20) hx hb hts izRX12 hown hK hP 0 rfl rfl 0 (by decide) (hts _ k871) (fun _ h9 => h9) rfl dX12_ahead_32 ?_
    refine lv_if_le (tgt := 40) hx hb dX12_ahead_35 (by decide) (fun c29 => absurd c29 (by decide)) (fun _ => ?_)
    refine lv_iconst (v := 0) hx hb dX12_ahead_38 (by decide) ?_
    have hP : va_P g.1 vwCl (List.flatten [bMo g o a 1 hi ac tp ba en tA fl de iD iO tU fm fk fa fc ft ff fb fi]) H := hP
    have hD : va_D A (List.flatten [bMo g o a 1 hi ac tp ba en tA fl de iD iO tU fm fk fa fc ft ff fb fi]) := hD
    exact mret_i hx hb hr hlocks hS (Nat.le_of_ble_eq_true rfl) (Nat.le_of_ble_eq_true rfl) dX12_ahead_39 ((1 : Int32), ba, en, tA, de, iD, iO, tU, ff, fm, fb, fa, (0 : Int32)) rfl (show (rM fa) ∧ (rM fm) ∧ (0 ≤ iO.toInt ∧ iO.toInt ≤ 1) ∧ (0 ≤ iD.toInt ∧ iD.toInt ≤ 1) from ⟨(by first | assumption | omega | decide | exact rfl | exact zb01 (by omega) | exact Or.inl (by decide) | exact Or.inr (by first | omega | decide)), (by first | assumption | omega | decide | exact rfl | exact zb01 (by omega) | exact Or.inl (by decide) | exact Or.inr (by first | omega | decide)), (by first | assumption | omega | decide | exact rfl | exact zb01 (by omega) | exact Or.inl (by decide) | exact Or.inr (by first | omega | decide)), (by first | assumption | omega | decide | exact rfl | exact zb01 (by omega) | exact Or.inl (by decide) | exact Or.inr (by first | omega | decide))⟩) hP hD
set_option maxRecDepth 100000 in
set_option maxHeartbeats 4000000 in
theorem m_then (l : Launch) (g : zG) (o : Nat) (a : Nat → Nat) (th : Int32) (hi : Int32) (ac : Int32) (tp : Int32) (ba : Int32) (en : Int32) (tA : Int32) (fl : Int32) (de : Int32) (iD : Int32) (iO : Int32) (tU : Int32) (fm : Nat → Int32) (fk : Nat → Int32) (fa : Nat → Int32) (fc : Nat → Int32) (ft : Nat → Int32) (ff : Nat → Int32) (fb : Nat → Int32) (fi : Nat → Int32) (n : Int32) (ch : Int32) (rfm : rM fm) (rfa : rM fa) (hiD : 0 ≤ iD.toInt ∧ iD.toInt ≤ 1) (hiO : 0 ≤ iO.toInt ∧ iO.toInt ≤ 1) : zM' g l yX12_then (Cond.code yX12_then cX12_then 5 (some .int) :: zB) ({ frames := 33, cells := 0, slots := 0, locals := 736 } : Room) [.ref o, .int n, .int ch] [bMo g o a th hi ac tp ba en tA fl de iD iO tU fm fk fa fc ft ff fb fi] (fun u : Int32 × Int32 × Int32 × Int32 × Int32 × Int32 × Int32 × Int32 × (Nat → Int32) × (Nat → Int32) × (Nat → Int32) × (Nat → Int32) × Int32 => (fun (th2 : Int32) (ba2 : Int32) (en2 : Int32) (at2 : Int32) (de2 : Int32) (iD2 : Int32) (iO2 : Int32) (tU2 : Int32) (ff2 : Nat → Int32) (fm2 : Nat → Int32) (fb2 : Nat → Int32) (fa2 : Nat → Int32) (q : Int32) => some (.int q)) (u.1) (u.2.1) (u.2.2.1) (u.2.2.2.1) (u.2.2.2.2.1) (u.2.2.2.2.2.1) (u.2.2.2.2.2.2.1) (u.2.2.2.2.2.2.2.1) (u.2.2.2.2.2.2.2.2.1) (u.2.2.2.2.2.2.2.2.2.1) (u.2.2.2.2.2.2.2.2.2.2.1) (u.2.2.2.2.2.2.2.2.2.2.2.1) (u.2.2.2.2.2.2.2.2.2.2.2.2)) (fun u : Int32 × Int32 × Int32 × Int32 × Int32 × Int32 × Int32 × Int32 × (Nat → Int32) × (Nat → Int32) × (Nat → Int32) × (Nat → Int32) × Int32 => (fun (th2 : Int32) (ba2 : Int32) (en2 : Int32) (at2 : Int32) (de2 : Int32) (iD2 : Int32) (iO2 : Int32) (tU2 : Int32) (ff2 : Nat → Int32) (fm2 : Nat → Int32) (fb2 : Nat → Int32) (fa2 : Nat → Int32) (q : Int32) => (rM fa2) ∧ (rM fm2) ∧ (0 ≤ iO2.toInt ∧ iO2.toInt ≤ 1) ∧ (0 ≤ iD2.toInt ∧ iD2.toInt ≤ 1)) (u.1) (u.2.1) (u.2.2.1) (u.2.2.2.1) (u.2.2.2.2.1) (u.2.2.2.2.2.1) (u.2.2.2.2.2.2.1) (u.2.2.2.2.2.2.2.1) (u.2.2.2.2.2.2.2.2.1) (u.2.2.2.2.2.2.2.2.2.1) (u.2.2.2.2.2.2.2.2.2.2.1) (u.2.2.2.2.2.2.2.2.2.2.2.1) (u.2.2.2.2.2.2.2.2.2.2.2.2)) (fun u : Int32 × Int32 × Int32 × Int32 × Int32 × Int32 × Int32 × Int32 × (Nat → Int32) × (Nat → Int32) × (Nat → Int32) × (Nat → Int32) × Int32 => (fun (th2 : Int32) (ba2 : Int32) (en2 : Int32) (at2 : Int32) (de2 : Int32) (iD2 : Int32) (iO2 : Int32) (tU2 : Int32) (ff2 : Nat → Int32) (fm2 : Nat → Int32) (fb2 : Nat → Int32) (fa2 : Nat → Int32) (q : Int32) => [bMo g o a th2 hi ac tp ba2 en2 at2 fl de2 iD2 iO2 tU2 fm2 fk fa2 fc ft ff2 fb2 fi]) (u.1) (u.2.1) (u.2.2.1) (u.2.2.2.1) (u.2.2.2.2.1) (u.2.2.2.2.2.1) (u.2.2.2.2.2.2.1) (u.2.2.2.2.2.2.2.1) (u.2.2.2.2.2.2.2.2.1) (u.2.2.2.2.2.2.2.2.2.1) (u.2.2.2.2.2.2.2.2.2.2.1) (u.2.2.2.2.2.2.2.2.2.2.2.1) (u.2.2.2.2.2.2.2.2.2.2.2.2)) := by
  refine zM'.of (cc := cX12_then) (maxL := 5) (rt := (some .int)) (by decide) rfl (Nat.le_of_ble_eq_true rfl) ?_
  intro p e s m args below meth c A ls St hr hlocks hin hK hT hA hP hD hS hl
  obtain ⟨hx, hb, hml, hown, hts⟩ := id St
  have hl : lv_has ls 5 [(0, .ref o), (1, .int n), (2, .int ch)] := hl
  refine lv_aload_n hx hb dX12_then_0 rfl (lv_at hl 0 rfl) ?_
  refine lv_iload_n hx hb dX12_then_1 rfl (lv_at hl 1 rfl) ?_
  refine lv_iconst (v := 0) hx hb dX12_then_2 (by decide) ?_
  refine lv_bipush (v := 100) hx hb dX12_then_3 (by decide) ?_
  have hL0 : (0 : Int32).toInt = 0 := by decide
  have hL100 : (100 : Int32).toInt = 100 := by decide
  refine mcallS' (g := g) (As := [.int n, .int 0, .int 100]) (rest := [.ref o]) St hK hT hA hP hD hS hl.1 [] [0] rfl rfl rfl (m_isIn l g n 0 100 ) (va_cwS 3 hts (zgL (zl3 k835 k836 k837) k824) rfl rfl rfl (by decide +kernel) ⟨Nat.le_of_ble_eq_true rfl, Nat.le_of_ble_eq_true rfl⟩) rfl rfl (Nat.le_of_ble_eq_true rfl) dX12_then_5 ⟨(Nat.le_of_ble_eq_true rfl), (Nat.le_of_ble_eq_true rfl)⟩ (fun q_1 H locs hq2 hP hD hS => ?_)
  replace hq2 : (q_1 = 1 ∧ (0 : Int32).toInt ≤ n.toInt ∧ n.toInt ≤ (100 : Int32).toInt ∨ q_1 = 0 ∧ (n.toInt < (0 : Int32).toInt ∨ (100 : Int32).toInt < n.toInt)) := hq2
  have hP : va_P g.1 vwCl (List.flatten [bMo g o a th hi ac tp ba en tA fl de iD iO tU fm fk fa fc ft ff fb fi]) H := hP
  have hD : va_D A (List.flatten [bMo g o a th hi ac tp ba en tA fl de iD iO tU fm fk fa fc ft ff fb fi]) := hD
  refine W.widen (k := 0) (n := 0) (Nat.le_of_ble_eq_true rfl) (Nat.le_of_ble_eq_true rfl) ?_
  refine W.eq (g2 := F0 m 8 ls [.int q_1, .ref o]) rfl ?_
  rcases hq2 with ⟨rfl, hq2_k⟩ | ⟨rfl, hq2_k⟩
  · skip
    refine lv_if_ne (tgt := 15) hx hb dX12_then_8 (by decide) (fun _ => ?_) (fun c3 => absurd c3 (by decide))
    refine lv_iconst (v := 0) hx hb dX12_then_15 (by decide) ?_
    refine va_put (D := g.1) (ci := 10) (v := .int 0) (ty := .int) (C := RX12) (T := TX12) (N := 20) hx hb hts izRX12 tyX12 tyX12_ok nmX12 hown hK hP hD hS 0 rfl rfl 0 (by decide) (hts _ k871) (fun _ h9 => h9) rfl (by decide +kernel) rfl rfl (Nat.le_of_ble_eq_true rfl) dX12_then_16 (fun H locs hP hD hS => ?_)
    have hP : va_P g.1 vwCl (List.flatten [bMo g o a 0 hi ac tp ba en tA fl de iD iO tU fm fk fa fc ft ff fb fi]) H := hP
    have hD : va_D A (List.flatten [bMo g o a 0 hi ac tp ba en tA fl de iD iO tU fm fk fa fc ft ff fb fi]) := hD
    refine lv_aload_n hx hb dX12_then_19 rfl (lv_at hl 0 rfl) ?_
    refine va_get (D := g.1) (ci := 10) (v := .int 0) (C := RX12) (T := TX12) (N := 20) hx hb hts izRX12 hown hK hP 0 rfl rfl 0 (by decide) (hts _ k871) (fun _ h9 => h9) rfl dX12_then_20 ?_
    refine lv_if_le (tgt := 28) hx hb dX12_then_23 (by decide) (fun _ => ?_) (fun c4 => absurd (by decide) c4)
    refine lv_aload_n hx hb dX12_then_28 rfl (lv_at hl 0 rfl) ?_
    refine mcallV' (g := g) (q0 := 0) (ci := 10) (As := []) (rest := []) St hK hT hA hP hD hS hl.1 [0] [] rfl rfl rfl (m_putsAside l g o a 0 hi ac tp ba en tA fl de iD iO tU fm fk fa fc ft ff fb fi (by first | assumption | omega | decide | exact Or.inl (by decide) | exact Or.inr (by decide)) (by first | assumption | omega | decide | exact Or.inl (by decide) | exact Or.inr (by decide))) (cwV 0 hts (zgL (zl4 k974 k975 k976 k837) k971) rfl rfl rfl (by decide +kernel) ⟨Nat.le_of_ble_eq_true rfl, Nat.le_of_ble_eq_true rfl⟩) rfl rfl rfl rfl (Nat.le_of_ble_eq_true rfl) dX12_then_29 ⟨(Nat.le_of_ble_eq_true rfl), (Nat.le_of_ble_eq_true rfl)⟩ (fun fa2_5 H locs hq6 hP hD hS => ?_)
    replace hq6 : (rM fa2_5) := hq6
    have hP : va_P g.1 vwCl (List.flatten [bMo g o a 0 hi ac tp ba en tA fl de iD iO tU fm fk fa2_5 fc ft ff fb fi]) H := hP
    have hD : va_D A (List.flatten [bMo g o a 0 hi ac tp ba en tA fl de iD iO tU fm fk fa2_5 fc ft ff fb fi]) := hD
    refine W.widen (k := 0) (n := 0) (Nat.le_of_ble_eq_true rfl) (Nat.le_of_ble_eq_true rfl) ?_
    refine W.eq (g2 := F0 m 32 ls []) rfl ?_
    have rfa2_5 := hq6; clear hq6
    refine lv_aload_n hx hb dX12_then_32 rfl (lv_at hl 0 rfl) ?_
    refine lv_iload_n hx hb dX12_then_33 rfl (lv_at hl 1 rfl) ?_
    refine lv_iconst (v := 0) hx hb dX12_then_34 (by decide) ?_
    refine mcallV' (g := g) (q0 := 0) (ci := 10) (As := [.int n, .int 0]) (rest := []) St hK hT hA hP hD hS hl.1 [0] [] rfl rfl rfl (m_goes l g o a 0 hi ac tp ba en tA fl de iD iO tU fm fk fa2_5 fc ft ff fb fi n 0 (by first | assumption | omega | decide | exact Or.inl (by decide) | exact Or.inr (by decide)) (⟨hiD.1, hiD.2⟩) (⟨hiO.1, hiO.2⟩) (by first | assumption | omega | decide | exact Or.inl (by decide) | exact Or.inr (by decide))) (cwV 2 hts (zgL (zl4 k1056 k1057 k1058 k837) k1027) rfl rfl rfl (by decide +kernel) ⟨Nat.le_of_ble_eq_true rfl, Nat.le_of_ble_eq_true rfl⟩) rfl rfl rfl rfl (Nat.le_of_ble_eq_true rfl) dX12_then_35 ⟨(Nat.le_of_ble_eq_true rfl), (Nat.le_of_ble_eq_true rfl)⟩ (fun u_ H locs hq18 hP hD hS => ?_)
    obtain ⟨ba2_7, en2_8, at2_9, de2_10, iD2_11, iO2_12, tU2_13, ff2_14, fm2_15, fb2_16, q_17⟩ := u_
    replace hq18 : (rM fm2_15) ∧ (0 ≤ iO2_12.toInt ∧ iO2_12.toInt ≤ 1) ∧ (0 ≤ iD2_11.toInt ∧ iD2_11.toInt ≤ 1) := hq18
    have hP : va_P g.1 vwCl (List.flatten [bMo g o a 0 hi ac tp ba2_7 en2_8 at2_9 fl de2_10 iD2_11 iO2_12 tU2_13 fm2_15 fk fa2_5 fc ft ff2_14 fb2_16 fi]) H := hP
    have hD : va_D A (List.flatten [bMo g o a 0 hi ac tp ba2_7 en2_8 at2_9 fl de2_10 iD2_11 iO2_12 tU2_13 fm2_15 fk fa2_5 fc ft ff2_14 fb2_16 fi]) := hD
    refine W.widen (k := 0) (n := 0) (Nat.le_of_ble_eq_true rfl) (Nat.le_of_ble_eq_true rfl) ?_
    refine W.eq (g2 := F0 m 38 ls [.int q_17]) rfl ?_
    obtain ⟨rfm2_15, hq18_1, hq18_2⟩ := hq18
    refine lv_istore_n (lv' := [(3, .int q_17), (0, .ref o), (1, .int n), (2, .int ch)]) hx hb dX12_then_38 rfl hl (by decide) rfl (fun ls hl => ?_)
    refine lv_iload_n hx hb dX12_then_39 rfl (lv_at hl 3 rfl) ?_
    refine lv_if_eq (tgt := 52) hx hb dX12_then_40 (by decide) (fun cb9 => ?_) (fun cb9 => ?_)
    · skip
      have c19 : ch.toInt = 0 := zeq cb9 rfl (by decide)
      have n20 : 0 ≤ ch.toInt := Int.le_trans (Int.le_refl _) (Int.le_of_eq c19.symm)
      have n21 : ch.toInt ≤ 0 := Int.le_trans (Int.le_of_eq c19) (Int.le_refl _)
      refine lv_aload_n hx hb dX12_then_52 rfl (lv_at hl 1 rfl) ?_
      refine mcallV' (g := g) (q0 := 0) (ci := 10) (As := []) (rest := []) St hK hT hA hP hD hS hl.1 [0] [] rfl rfl rfl (m_believed l g o a 0 hi ac tp ba2_7 en2_8 at2_9 fl de2_10 iD2_11 iO2_12 tU2_13 fm2_15 fk fa2_5 fc ft ff2_14 fb2_16 fi (by first | assumption | omega | decide | exact Or.inl (by decide) | exact Or.inr (by decide))) (cwV 0 hts (zgL (zl4 k854 k855 k856 k837) k847) rfl rfl rfl (by decide +kernel) ⟨Nat.le_of_ble_eq_true rfl, Nat.le_of_ble_eq_true rfl⟩) rfl rfl rfl rfl (Nat.le_of_ble_eq_true rfl) dX12_then_53 ⟨(Nat.le_of_ble_eq_true rfl), (Nat.le_of_ble_eq_true rfl)⟩ (fun q_22 H locs hq23 hP hD hS => ?_)
      have hP : va_P g.1 vwCl (List.flatten [bMo g o a 0 hi ac tp ba2_7 en2_8 at2_9 fl de2_10 iD2_11 iO2_12 tU2_13 fm2_15 fk fa2_5 fc ft ff2_14 fb2_16 fi]) H := hP
      have hD : va_D A (List.flatten [bMo g o a 0 hi ac tp ba2_7 en2_8 at2_9 fl de2_10 iD2_11 iO2_12 tU2_13 fm2_15 fk fa2_5 fc ft ff2_14 fb2_16 fi]) := hD
      refine W.widen (k := 0) (n := 0) (Nat.le_of_ble_eq_true rfl) (Nat.le_of_ble_eq_true rfl) ?_
      refine W.eq (g2 := F0 m 56 ls [.int q_22]) rfl ?_
      refine lv_istore (lv' := [(4, .int q_22), (3, .int q_17), (0, .ref o), (1, .int n), (2, .int ch)]) hx hb dX12_then_56 hl (by decide) rfl (fun ls hl => ?_)
      refine lv_aload_n hx hb dX12_then_58 rfl (lv_at hl 2 rfl) ?_
      refine mcallV' (g := g) (q0 := 0) (ci := 10) (As := []) (rest := []) St hK hT hA hP hD hS hl.1 [0] [] rfl rfl rfl (m_comesBack l g o a 0 hi ac tp ba2_7 en2_8 at2_9 fl de2_10 iD2_11 iO2_12 tU2_13 fm2_15 fk fa2_5 fc ft ff2_14 fb2_16 fi (by first | assumption | omega | decide | exact Or.inl (by decide) | exact Or.inr (by decide)) (by first | assumption | omega | decide | exact Or.inl (by decide) | exact Or.inr (by decide))) (cwV 0 hts (zgL (zl4 k983 k984 k985 k837) k972) rfl rfl rfl (by decide +kernel) ⟨Nat.le_of_ble_eq_true rfl, Nat.le_of_ble_eq_true rfl⟩) rfl rfl rfl rfl (Nat.le_of_ble_eq_true rfl) dX12_then_59 ⟨(Nat.le_of_ble_eq_true rfl), (Nat.le_of_ble_eq_true rfl)⟩ (fun fm2_24 H locs hq25 hP hD hS => ?_)
      replace hq25 : (rM fm2_24) := hq25
      have hP : va_P g.1 vwCl (List.flatten [bMo g o a 0 hi ac tp ba2_7 en2_8 at2_9 fl de2_10 iD2_11 iO2_12 tU2_13 fm2_24 fk fa2_5 fc ft ff2_14 fb2_16 fi]) H := hP
      have hD : va_D A (List.flatten [bMo g o a 0 hi ac tp ba2_7 en2_8 at2_9 fl de2_10 iD2_11 iO2_12 tU2_13 fm2_24 fk fa2_5 fc ft ff2_14 fb2_16 fi]) := hD
      refine W.widen (k := 0) (n := 0) (Nat.le_of_ble_eq_true rfl) (Nat.le_of_ble_eq_true rfl) ?_
      refine W.eq (g2 := F0 m 62 ls []) rfl ?_
      have rfm2_24 := hq25; clear hq25
      refine lv_iload hx hb dX12_then_62 (lv_at hl 0 rfl) ?_
      have hP : va_P g.1 vwCl (List.flatten [bMo g o a 0 hi ac tp ba2_7 en2_8 at2_9 fl de2_10 iD2_11 iO2_12 tU2_13 fm2_24 fk fa2_5 fc ft ff2_14 fb2_16 fi]) H := hP
      have hD : va_D A (List.flatten [bMo g o a 0 hi ac tp ba2_7 en2_8 at2_9 fl de2_10 iD2_11 iO2_12 tU2_13 fm2_24 fk fa2_5 fc ft ff2_14 fb2_16 fi]) := hD
      exact mret_i hx hb hr hlocks hS (Nat.le_of_ble_eq_true rfl) (Nat.le_of_ble_eq_true rfl) dX12_then_64 ((0 : Int32), ba2_7, en2_8, at2_9, de2_10, iD2_11, iO2_12, tU2_13, ff2_14, fm2_24, fb2_16, fa2_5, q_22) rfl (show (rM fa2_5) ∧ (rM fm2_24) ∧ (0 ≤ iO2_12.toInt ∧ iO2_12.toInt ≤ 1) ∧ (0 ≤ iD2_11.toInt ∧ iD2_11.toInt ≤ 1) from ⟨(by first | assumption | omega | decide | exact rfl | exact zb01 (by omega) | exact Or.inl (by decide) | exact Or.inr (by first | omega | decide)), (by first | assumption | omega | decide | exact rfl | exact zb01 (by omega) | exact Or.inl (by decide) | exact Or.inr (by first | omega | decide)), (by first | assumption | omega | decide | exact rfl | exact zb01 (by omega) | exact Or.inl (by decide) | exact Or.inr (by first | omega | decide)), (by first | assumption | omega | decide | exact rfl | exact zb01 (by omega) | exact Or.inl (by decide) | exact Or.inr (by first | omega | decide))⟩) hP hD
    · skip
      have c26 : ¬ ch.toInt = 0 := zne cb9 rfl (by decide)
      refine lv_aload_n hx hb dX12_then_43 rfl (lv_at hl 1 rfl) ?_
      refine va_get (D := g.1) (ci := 10) (v := .ref (a 0)) (C := RX12) (T := TX12) (N := 20) hx hb hts izRX12 hown hK hP 0 rfl rfl 1 (by decide) (hts _ k815) (fun _ h9 => h9) rfl dX12_then_44 ?_
      refine lv_iconst (v := 5) hx hb dX12_then_47 (by decide) ?_
      refine va_iald hx hb hK hP 1 0 rfl rfl (zin rfl) dX12_then_48 ?_
      refine zg (fun x_27 => ?_)
      refine lv_goto (tgt := 56) hx hb dX12_then_49 (by decide) ?_
      refine lv_istore (lv' := [(4, .int x_27), (3, .int q_17), (0, .ref o), (1, .int n), (2, .int ch)]) hx hb dX12_then_56 hl (by decide) rfl (fun ls hl => ?_)
      refine lv_aload_n hx hb dX12_then_58 rfl (lv_at hl 2 rfl) ?_
      refine mcallV' (g := g) (q0 := 0) (ci := 10) (As := []) (rest := []) St hK hT hA hP hD hS hl.1 [0] [] rfl rfl rfl (m_comesBack l g o a 0 hi ac tp ba2_7 en2_8 at2_9 fl de2_10 iD2_11 iO2_12 tU2_13 fm2_15 fk fa2_5 fc ft ff2_14 fb2_16 fi (by first | assumption | omega | decide | exact Or.inl (by decide) | exact Or.inr (by decide)) (by first | assumption | omega | decide | exact Or.inl (by decide) | exact Or.inr (by decide))) (cwV 0 hts (zgL (zl4 k983 k984 k985 k837) k972) rfl rfl rfl (by decide +kernel) ⟨Nat.le_of_ble_eq_true rfl, Nat.le_of_ble_eq_true rfl⟩) rfl rfl rfl rfl (Nat.le_of_ble_eq_true rfl) dX12_then_59 ⟨(Nat.le_of_ble_eq_true rfl), (Nat.le_of_ble_eq_true rfl)⟩ (fun fm2_28 H locs hq29 hP hD hS => ?_)
      replace hq29 : (rM fm2_28) := hq29
      have hP : va_P g.1 vwCl (List.flatten [bMo g o a 0 hi ac tp ba2_7 en2_8 at2_9 fl de2_10 iD2_11 iO2_12 tU2_13 fm2_28 fk fa2_5 fc ft ff2_14 fb2_16 fi]) H := hP
      have hD : va_D A (List.flatten [bMo g o a 0 hi ac tp ba2_7 en2_8 at2_9 fl de2_10 iD2_11 iO2_12 tU2_13 fm2_28 fk fa2_5 fc ft ff2_14 fb2_16 fi]) := hD
      refine W.widen (k := 0) (n := 0) (Nat.le_of_ble_eq_true rfl) (Nat.le_of_ble_eq_true rfl) ?_
      refine W.eq (g2 := F0 m 62 ls []) rfl ?_
      have rfm2_28 := hq29; clear hq29
      refine lv_iload hx hb dX12_then_62 (lv_at hl 0 rfl) ?_
      have hP : va_P g.1 vwCl (List.flatten [bMo g o a 0 hi ac tp ba2_7 en2_8 at2_9 fl de2_10 iD2_11 iO2_12 tU2_13 fm2_28 fk fa2_5 fc ft ff2_14 fb2_16 fi]) H := hP
      have hD : va_D A (List.flatten [bMo g o a 0 hi ac tp ba2_7 en2_8 at2_9 fl de2_10 iD2_11 iO2_12 tU2_13 fm2_28 fk fa2_5 fc ft ff2_14 fb2_16 fi]) := hD
      exact mret_i hx hb hr hlocks hS (Nat.le_of_ble_eq_true rfl) (Nat.le_of_ble_eq_true rfl) dX12_then_64 ((0 : Int32), ba2_7, en2_8, at2_9, de2_10, iD2_11, iO2_12, tU2_13, ff2_14, fm2_28, fb2_16, fa2_5, x_27) rfl (show (rM fa2_5) ∧ (rM fm2_28) ∧ (0 ≤ iO2_12.toInt ∧ iO2_12.toInt ≤ 1) ∧ (0 ≤ iD2_11.toInt ∧ iD2_11.toInt ≤ 1) from ⟨(by first | assumption | omega | decide | exact rfl | exact zb01 (by omega) | exact Or.inl (by decide) | exact Or.inr (by first | omega | decide)), (by first | assumption | omega | decide | exact rfl | exact zb01 (by omega) | exact Or.inl (by decide) | exact Or.inr (by first | omega | decide)), (by first | assumption | omega | decide | exact rfl | exact zb01 (by omega) | exact Or.inl (by decide) | exact Or.inr (by first | omega | decide)), (by first | assumption | omega | decide | exact rfl | exact zb01 (by omega) | exact Or.inl (by decide) | exact Or.inr (by first | omega | decide))⟩) hP hD
  · skip
    refine lv_if_ne (tgt := 15) hx hb dX12_then_8 (by decide) (fun c30 => absurd (by decide) c30) (fun _ => ?_)
    refine lv_iconst (v := 1) hx hb dX12_then_11 (by decide) ?_
    refine lv_goto (tgt := 16) hx hb dX12_then_12 (by decide) ?_
    refine va_put (D := g.1) (ci := 10) (v := .int 1) (ty := .int) (C := RX12) (T := TX12) (N := 20) hx hb hts izRX12 tyX12 tyX12_ok nmX12 hown hK hP hD hS 0 rfl rfl 0 (by decide) (hts _ k871) (fun _ h9 => h9) rfl (by decide +kernel) rfl rfl (Nat.le_of_ble_eq_true rfl) dX12_then_16 (fun H locs hP hD hS => ?_)
    have hP : va_P g.1 vwCl (List.flatten [bMo g o a 1 hi ac tp ba en tA fl de iD iO tU fm fk fa fc ft ff fb fi]) H := hP
    have hD : va_D A (List.flatten [bMo g o a 1 hi ac tp ba en tA fl de iD iO tU fm fk fa fc ft ff fb fi]) := hD
    refine lv_aload_n hx hb dX12_then_19 rfl (lv_at hl 0 rfl) ?_
    refine va_get (D := g.1) (ci := 10) (v := .int 1) (C := RX12) (T := TX12) (N := 20) hx hb hts izRX12 hown hK hP 0 rfl rfl 0 (by decide) (hts _ k871) (fun _ h9 => h9) rfl dX12_then_20 ?_
    refine lv_if_le (tgt := 28) hx hb dX12_then_23 (by decide) (fun c31 => absurd c31 (by decide)) (fun _ => ?_)
    refine lv_iconst (v := 0) hx hb dX12_then_26 (by decide) ?_
    have hP : va_P g.1 vwCl (List.flatten [bMo g o a 1 hi ac tp ba en tA fl de iD iO tU fm fk fa fc ft ff fb fi]) H := hP
    have hD : va_D A (List.flatten [bMo g o a 1 hi ac tp ba en tA fl de iD iO tU fm fk fa fc ft ff fb fi]) := hD
    exact mret_i hx hb hr hlocks hS (Nat.le_of_ble_eq_true rfl) (Nat.le_of_ble_eq_true rfl) dX12_then_27 ((1 : Int32), ba, en, tA, de, iD, iO, tU, ff, fm, fb, fa, (0 : Int32)) rfl (show (rM fa) ∧ (rM fm) ∧ (0 ≤ iO.toInt ∧ iO.toInt ≤ 1) ∧ (0 ≤ iD.toInt ∧ iD.toInt ≤ 1) from ⟨(by first | assumption | omega | decide | exact rfl | exact zb01 (by omega) | exact Or.inl (by decide) | exact Or.inr (by first | omega | decide)), (by first | assumption | omega | decide | exact rfl | exact zb01 (by omega) | exact Or.inl (by decide) | exact Or.inr (by first | omega | decide)), (by first | assumption | omega | decide | exact rfl | exact zb01 (by omega) | exact Or.inl (by decide) | exact Or.inr (by first | omega | decide)), (by first | assumption | omega | decide | exact rfl | exact zb01 (by omega) | exact Or.inl (by decide) | exact Or.inr (by first | omega | decide))⟩) hP hD
set_option maxRecDepth 100000 in
set_option maxHeartbeats 4000000 in
theorem m_sways (l : Launch) (g : zG) (o : Nat) (a : Nat → Nat) (th : Int32) (hi : Int32) (ac : Int32) (tp : Int32) (ba : Int32) (en : Int32) (tA : Int32) (fl : Int32) (de : Int32) (iD : Int32) (iO : Int32) (tU : Int32) (fm : Nat → Int32) (fk : Nat → Int32) (fa : Nat → Int32) (fc : Nat → Int32) (ft : Nat → Int32) (ff : Nat → Int32) (fb : Nat → Int32) (fi : Nat → Int32) (x : Int32) (n : Int32) (rfm : rM fm) (rfa : rM fa) (hiD : 0 ≤ iD.toInt ∧ iD.toInt ≤ 1) (hiO : 0 ≤ iO.toInt ∧ iO.toInt ≤ 1) : zM' g l yX12_sways (Cond.code yX12_sways cX12_sways 3 (some .int) :: zB) ({ frames := 34, cells := 0, slots := 0, locals := 761 } : Room) [.ref o, .int x, .int n] [bMo g o a th hi ac tp ba en tA fl de iD iO tU fm fk fa fc ft ff fb fi] (fun u : Int32 × Int32 × Int32 × Int32 × Int32 × Int32 × Int32 × Int32 × (Nat → Int32) × (Nat → Int32) × (Nat → Int32) × (Nat → Int32) × Int32 => (fun (th2 : Int32) (ba2 : Int32) (en2 : Int32) (at2 : Int32) (de2 : Int32) (iD2 : Int32) (iO2 : Int32) (tU2 : Int32) (ff2 : Nat → Int32) (fm2 : Nat → Int32) (fb2 : Nat → Int32) (fa2 : Nat → Int32) (q : Int32) => some (.int q)) (u.1) (u.2.1) (u.2.2.1) (u.2.2.2.1) (u.2.2.2.2.1) (u.2.2.2.2.2.1) (u.2.2.2.2.2.2.1) (u.2.2.2.2.2.2.2.1) (u.2.2.2.2.2.2.2.2.1) (u.2.2.2.2.2.2.2.2.2.1) (u.2.2.2.2.2.2.2.2.2.2.1) (u.2.2.2.2.2.2.2.2.2.2.2.1) (u.2.2.2.2.2.2.2.2.2.2.2.2)) (fun u : Int32 × Int32 × Int32 × Int32 × Int32 × Int32 × Int32 × Int32 × (Nat → Int32) × (Nat → Int32) × (Nat → Int32) × (Nat → Int32) × Int32 => (fun (th2 : Int32) (ba2 : Int32) (en2 : Int32) (at2 : Int32) (de2 : Int32) (iD2 : Int32) (iO2 : Int32) (tU2 : Int32) (ff2 : Nat → Int32) (fm2 : Nat → Int32) (fb2 : Nat → Int32) (fa2 : Nat → Int32) (q : Int32) => (rM fa2) ∧ (rM fm2) ∧ (0 ≤ iO2.toInt ∧ iO2.toInt ≤ 1) ∧ (0 ≤ iD2.toInt ∧ iD2.toInt ≤ 1)) (u.1) (u.2.1) (u.2.2.1) (u.2.2.2.1) (u.2.2.2.2.1) (u.2.2.2.2.2.1) (u.2.2.2.2.2.2.1) (u.2.2.2.2.2.2.2.1) (u.2.2.2.2.2.2.2.2.1) (u.2.2.2.2.2.2.2.2.2.1) (u.2.2.2.2.2.2.2.2.2.2.1) (u.2.2.2.2.2.2.2.2.2.2.2.1) (u.2.2.2.2.2.2.2.2.2.2.2.2)) (fun u : Int32 × Int32 × Int32 × Int32 × Int32 × Int32 × Int32 × Int32 × (Nat → Int32) × (Nat → Int32) × (Nat → Int32) × (Nat → Int32) × Int32 => (fun (th2 : Int32) (ba2 : Int32) (en2 : Int32) (at2 : Int32) (de2 : Int32) (iD2 : Int32) (iO2 : Int32) (tU2 : Int32) (ff2 : Nat → Int32) (fm2 : Nat → Int32) (fb2 : Nat → Int32) (fa2 : Nat → Int32) (q : Int32) => [bMo g o a th2 hi ac tp ba2 en2 at2 fl de2 iD2 iO2 tU2 fm2 fk fa2 fc ft ff2 fb2 fi]) (u.1) (u.2.1) (u.2.2.1) (u.2.2.2.1) (u.2.2.2.2.1) (u.2.2.2.2.2.1) (u.2.2.2.2.2.2.1) (u.2.2.2.2.2.2.2.1) (u.2.2.2.2.2.2.2.2.1) (u.2.2.2.2.2.2.2.2.2.1) (u.2.2.2.2.2.2.2.2.2.2.1) (u.2.2.2.2.2.2.2.2.2.2.2.1) (u.2.2.2.2.2.2.2.2.2.2.2.2)) := by
  refine zM'.of (cc := cX12_sways) (maxL := 3) (rt := (some .int)) (by decide) rfl (Nat.le_of_ble_eq_true rfl) ?_
  intro p e s m args below meth c A ls St hr hlocks hin hK hT hA hP hD hS hl
  obtain ⟨hx, hb, hml, hown, hts⟩ := id St
  have hl : lv_has ls 3 [(0, .ref o), (1, .int x), (2, .int n)] := hl
  refine lv_aload_n hx hb dX12_sways_0 rfl (lv_at hl 0 rfl) ?_
  refine lv_aload_n hx hb dX12_sways_1 rfl (lv_at hl 0 rfl) ?_
  refine lv_iload_n hx hb dX12_sways_2 rfl (lv_at hl 1 rfl) ?_
  refine mcallV' (g := g) (q0 := 0) (ci := 10) (As := [.int x]) (rest := [.ref o]) St hK hT hA hP hD hS hl.1 [0] [] rfl rfl rfl (m_isPerson l g o a th hi ac tp ba en tA fl de iD iO tU fm fk fa fc ft ff fb fi x (by first | assumption | omega | decide | exact Or.inl (by decide) | exact Or.inr (by decide))) (cwV 1 hts (zgL (zl4 k1032 k1033 k1034 k837) k834) rfl rfl rfl (by decide +kernel) ⟨Nat.le_of_ble_eq_true rfl, Nat.le_of_ble_eq_true rfl⟩) rfl rfl rfl rfl (Nat.le_of_ble_eq_true rfl) dX12_sways_3 ⟨(Nat.le_of_ble_eq_true rfl), (Nat.le_of_ble_eq_true rfl)⟩ (fun q_1 H locs hq2 hP hD hS => ?_)
  replace hq2 : (q_1 = 1 ∧ 0 ≤ x.toInt ∧ x.toInt ≤ 7 ∧ x.toInt < (fm 3).toInt ∨ q_1 = 0) := hq2
  have hP : va_P g.1 vwCl (List.flatten [bMo g o a th hi ac tp ba en tA fl de iD iO tU fm fk fa fc ft ff fb fi]) H := hP
  have hD : va_D A (List.flatten [bMo g o a th hi ac tp ba en tA fl de iD iO tU fm fk fa fc ft ff fb fi]) := hD
  refine W.widen (k := 0) (n := 0) (Nat.le_of_ble_eq_true rfl) (Nat.le_of_ble_eq_true rfl) ?_
  refine W.eq (g2 := F0 m 6 ls [.int q_1, .ref o]) rfl ?_
  rcases hq2 with ⟨rfl, hq2_k⟩ | rfl
  · skip
    refine lv_if_ne (tgt := 13) hx hb dX12_sways_6 (by decide) (fun _ => ?_) (fun c3 => absurd c3 (by decide))
    refine lv_iload_n hx hb dX12_sways_13 rfl (lv_at hl 2 rfl) ?_
    refine lv_iconst (v := 0) hx hb dX12_sways_14 (by decide) ?_
    refine lv_bipush (v := 30) hx hb dX12_sways_15 (by decide) ?_
    have hL0 : (0 : Int32).toInt = 0 := by decide
    have hL30 : (30 : Int32).toInt = 30 := by decide
    refine mcallS' (g := g) (As := [.int n, .int 0, .int 30]) (rest := [.ref o]) St hK hT hA hP hD hS hl.1 [] [0] rfl rfl rfl (m_isIn l g n 0 30 ) (va_cwS 3 hts (zgL (zl3 k835 k836 k837) k824) rfl rfl rfl (by decide +kernel) ⟨Nat.le_of_ble_eq_true rfl, Nat.le_of_ble_eq_true rfl⟩) rfl rfl (Nat.le_of_ble_eq_true rfl) dX12_sways_17 ⟨(Nat.le_of_ble_eq_true rfl), (Nat.le_of_ble_eq_true rfl)⟩ (fun q_4 H locs hq5 hP hD hS => ?_)
    replace hq5 : (q_4 = 1 ∧ (0 : Int32).toInt ≤ n.toInt ∧ n.toInt ≤ (30 : Int32).toInt ∨ q_4 = 0 ∧ (n.toInt < (0 : Int32).toInt ∨ (30 : Int32).toInt < n.toInt)) := hq5
    have hP : va_P g.1 vwCl (List.flatten [bMo g o a th hi ac tp ba en tA fl de iD iO tU fm fk fa fc ft ff fb fi]) H := hP
    have hD : va_D A (List.flatten [bMo g o a th hi ac tp ba en tA fl de iD iO tU fm fk fa fc ft ff fb fi]) := hD
    refine W.widen (k := 0) (n := 0) (Nat.le_of_ble_eq_true rfl) (Nat.le_of_ble_eq_true rfl) ?_
    refine W.eq (g2 := F0 m 20 ls [.int q_4, .ref o]) rfl ?_
    rcases hq5 with ⟨rfl, hq5_k⟩ | ⟨rfl, hq5_k⟩
    · skip
      refine lv_if_ne (tgt := 27) hx hb dX12_sways_20 (by decide) (fun _ => ?_) (fun c6 => absurd c6 (by decide))
      refine lv_iconst (v := 0) hx hb dX12_sways_27 (by decide) ?_
      refine va_put (D := g.1) (ci := 10) (v := .int 0) (ty := .int) (C := RX12) (T := TX12) (N := 20) hx hb hts izRX12 tyX12 tyX12_ok nmX12 hown hK hP hD hS 0 rfl rfl 0 (by decide) (hts _ k871) (fun _ h9 => h9) rfl (by decide +kernel) rfl rfl (Nat.le_of_ble_eq_true rfl) dX12_sways_28 (fun H locs hP hD hS => ?_)
      have hP : va_P g.1 vwCl (List.flatten [bMo g o a 0 hi ac tp ba en tA fl de iD iO tU fm fk fa fc ft ff fb fi]) H := hP
      have hD : va_D A (List.flatten [bMo g o a 0 hi ac tp ba en tA fl de iD iO tU fm fk fa fc ft ff fb fi]) := hD
      refine lv_aload_n hx hb dX12_sways_31 rfl (lv_at hl 0 rfl) ?_
      refine va_get (D := g.1) (ci := 10) (v := .int 0) (C := RX12) (T := TX12) (N := 20) hx hb hts izRX12 hown hK hP 0 rfl rfl 0 (by decide) (hts _ k871) (fun _ h9 => h9) rfl dX12_sways_32 ?_
      refine lv_if_le (tgt := 42) hx hb dX12_sways_35 (by decide) (fun _ => ?_) (fun c7 => absurd (by decide) c7)
      refine lv_aload_n hx hb dX12_sways_42 rfl (lv_at hl 0 rfl) ?_
      refine lv_iload_n hx hb dX12_sways_43 rfl (lv_at hl 2 rfl) ?_
      refine lv_iconst (v := 1) hx hb dX12_sways_44 (by decide) ?_
      refine lv_iload_n hx hb dX12_sways_45 rfl (lv_at hl 1 rfl) ?_
      refine lv_ishl hx hb dX12_sways_46 ?_
      refine zgb (zshl1 (j := x.toInt) rfl 7 128 (by decide) (by decide) (by omega)) (fun x_8 hx_8 => ?_)
      refine lv_bipush (v := 10) hx hb dX12_sways_47 (by decide) ?_
      refine mcallV' (g := g) (q0 := 0) (ci := 10) (As := [.int n, .int x_8, .int 10]) (rest := []) St hK hT hA hP hD hS hl.1 [0] [] rfl rfl rfl (m_believedBy l g o a 0 hi ac tp ba en tA fl de iD iO tU fm fk fa fc ft ff fb fi n x_8 10 (by first | assumption | omega | decide | exact Or.inl (by decide) | exact Or.inr (by decide)) (by first | assumption | omega | decide | exact Or.inl (by decide) | exact Or.inr (by decide)) (⟨hiD.1, hiD.2⟩) (⟨hiO.1, hiO.2⟩) (by first | assumption | omega | decide | exact Or.inl (by decide) | exact Or.inr (by decide))) (cwV 3 hts (zgL (zl4 k1065 k1066 k1067 k837) k1063) rfl rfl rfl (by decide +kernel) ⟨Nat.le_of_ble_eq_true rfl, Nat.le_of_ble_eq_true rfl⟩) rfl rfl rfl rfl (Nat.le_of_ble_eq_true rfl) dX12_sways_49 ⟨(Nat.le_of_ble_eq_true rfl), (Nat.le_of_ble_eq_true rfl)⟩ (fun u_ H locs hq21 hP hD hS => ?_)
      obtain ⟨ba2_9, en2_10, at2_11, de2_12, iD2_13, iO2_14, tU2_15, ff2_16, fm2_17, fb2_18, fa2_19, q_20⟩ := u_
      replace hq21 : (rM fa2_19) ∧ (rM fm2_17) ∧ (0 ≤ iO2_14.toInt ∧ iO2_14.toInt ≤ 1) ∧ (0 ≤ iD2_13.toInt ∧ iD2_13.toInt ≤ 1) := hq21
      have hP : va_P g.1 vwCl (List.flatten [bMo g o a 0 hi ac tp ba2_9 en2_10 at2_11 fl de2_12 iD2_13 iO2_14 tU2_15 fm2_17 fk fa2_19 fc ft ff2_16 fb2_18 fi]) H := hP
      have hD : va_D A (List.flatten [bMo g o a 0 hi ac tp ba2_9 en2_10 at2_11 fl de2_12 iD2_13 iO2_14 tU2_15 fm2_17 fk fa2_19 fc ft ff2_16 fb2_18 fi]) := hD
      refine W.widen (k := 0) (n := 0) (Nat.le_of_ble_eq_true rfl) (Nat.le_of_ble_eq_true rfl) ?_
      refine W.eq (g2 := F0 m 52 ls [.int q_20]) rfl ?_
      obtain ⟨rfa2_19, rfm2_17, hq21_2, hq21_3⟩ := hq21
      refine lv_aload_n hx hb dX12_sways_52 rfl (lv_at hl 0 rfl) ?_
      refine lv_iload_n hx hb dX12_sways_53 rfl (lv_at hl 2 rfl) ?_
      refine lv_iconst (v := 0) hx hb dX12_sways_54 (by decide) ?_
      refine lv_iconst (v := 0) hx hb dX12_sways_55 (by decide) ?_
      refine mcallV' (g := g) (q0 := 0) (ci := 10) (As := [.int n, .int 0, .int 0]) (rest := [.int q_20]) St hK hT hA hP hD hS hl.1 [0] [] rfl rfl rfl (m_believedBy l g o a 0 hi ac tp ba2_9 en2_10 at2_11 fl de2_12 iD2_13 iO2_14 tU2_15 fm2_17 fk fa2_19 fc ft ff2_16 fb2_18 fi n 0 0 (by first | assumption | omega | decide | exact Or.inl (by decide) | exact Or.inr (by decide)) (by first | assumption | omega | decide | exact Or.inl (by decide) | exact Or.inr (by decide)) (⟨hq21_3.1, hq21_3.2⟩) (⟨hq21_2.1, hq21_2.2⟩) (by first | assumption | omega | decide | exact Or.inl (by decide) | exact Or.inr (by decide))) (cwV 3 hts (zgL (zl4 k1065 k1066 k1067 k837) k1063) rfl rfl rfl (by decide +kernel) ⟨Nat.le_of_ble_eq_true rfl, Nat.le_of_ble_eq_true rfl⟩) rfl rfl rfl rfl (Nat.le_of_ble_eq_true rfl) dX12_sways_56 ⟨(Nat.le_of_ble_eq_true rfl), (Nat.le_of_ble_eq_true rfl)⟩ (fun u_ H locs hq34 hP hD hS => ?_)
      obtain ⟨ba2_22, en2_23, at2_24, de2_25, iD2_26, iO2_27, tU2_28, ff2_29, fm2_30, fb2_31, fa2_32, q_33⟩ := u_
      replace hq34 : (rM fa2_32) ∧ (rM fm2_30) ∧ (0 ≤ iO2_27.toInt ∧ iO2_27.toInt ≤ 1) ∧ (0 ≤ iD2_26.toInt ∧ iD2_26.toInt ≤ 1) := hq34
      have hP : va_P g.1 vwCl (List.flatten [bMo g o a 0 hi ac tp ba2_22 en2_23 at2_24 fl de2_25 iD2_26 iO2_27 tU2_28 fm2_30 fk fa2_32 fc ft ff2_29 fb2_31 fi]) H := hP
      have hD : va_D A (List.flatten [bMo g o a 0 hi ac tp ba2_22 en2_23 at2_24 fl de2_25 iD2_26 iO2_27 tU2_28 fm2_30 fk fa2_32 fc ft ff2_29 fb2_31 fi]) := hD
      refine W.widen (k := 0) (n := 0) (Nat.le_of_ble_eq_true rfl) (Nat.le_of_ble_eq_true rfl) ?_
      refine W.eq (g2 := F0 m 59 ls [.int q_33, .int q_20]) rfl ?_
      obtain ⟨rfa2_32, rfm2_30, hq34_2, hq34_3⟩ := hq34
      refine lv_isub hx hb dX12_sways_59 ?_
      refine zg (fun x_35 => ?_)
      have hP : va_P g.1 vwCl (List.flatten [bMo g o a 0 hi ac tp ba2_22 en2_23 at2_24 fl de2_25 iD2_26 iO2_27 tU2_28 fm2_30 fk fa2_32 fc ft ff2_29 fb2_31 fi]) H := hP
      have hD : va_D A (List.flatten [bMo g o a 0 hi ac tp ba2_22 en2_23 at2_24 fl de2_25 iD2_26 iO2_27 tU2_28 fm2_30 fk fa2_32 fc ft ff2_29 fb2_31 fi]) := hD
      exact mret_i hx hb hr hlocks hS (Nat.le_of_ble_eq_true rfl) (Nat.le_of_ble_eq_true rfl) dX12_sways_60 ((0 : Int32), ba2_22, en2_23, at2_24, de2_25, iD2_26, iO2_27, tU2_28, ff2_29, fm2_30, fb2_31, fa2_32, x_35) rfl (show (rM fa2_32) ∧ (rM fm2_30) ∧ (0 ≤ iO2_27.toInt ∧ iO2_27.toInt ≤ 1) ∧ (0 ≤ iD2_26.toInt ∧ iD2_26.toInt ≤ 1) from ⟨(by first | assumption | omega | decide | exact rfl | exact zb01 (by omega) | exact Or.inl (by decide) | exact Or.inr (by first | omega | decide)), (by first | assumption | omega | decide | exact rfl | exact zb01 (by omega) | exact Or.inl (by decide) | exact Or.inr (by first | omega | decide)), (by first | assumption | omega | decide | exact rfl | exact zb01 (by omega) | exact Or.inl (by decide) | exact Or.inr (by first | omega | decide)), (by first | assumption | omega | decide | exact rfl | exact zb01 (by omega) | exact Or.inl (by decide) | exact Or.inr (by first | omega | decide))⟩) hP hD
    · skip
      refine lv_if_ne (tgt := 27) hx hb dX12_sways_20 (by decide) (fun c36 => absurd (by decide) c36) (fun _ => ?_)
      refine lv_iconst (v := 2) hx hb dX12_sways_23 (by decide) ?_
      refine lv_goto (tgt := 28) hx hb dX12_sways_24 (by decide) ?_
      refine va_put (D := g.1) (ci := 10) (v := .int 2) (ty := .int) (C := RX12) (T := TX12) (N := 20) hx hb hts izRX12 tyX12 tyX12_ok nmX12 hown hK hP hD hS 0 rfl rfl 0 (by decide) (hts _ k871) (fun _ h9 => h9) rfl (by decide +kernel) rfl rfl (Nat.le_of_ble_eq_true rfl) dX12_sways_28 (fun H locs hP hD hS => ?_)
      have hP : va_P g.1 vwCl (List.flatten [bMo g o a 2 hi ac tp ba en tA fl de iD iO tU fm fk fa fc ft ff fb fi]) H := hP
      have hD : va_D A (List.flatten [bMo g o a 2 hi ac tp ba en tA fl de iD iO tU fm fk fa fc ft ff fb fi]) := hD
      refine lv_aload_n hx hb dX12_sways_31 rfl (lv_at hl 0 rfl) ?_
      refine va_get (D := g.1) (ci := 10) (v := .int 2) (C := RX12) (T := TX12) (N := 20) hx hb hts izRX12 hown hK hP 0 rfl rfl 0 (by decide) (hts _ k871) (fun _ h9 => h9) rfl dX12_sways_32 ?_
      refine lv_if_le (tgt := 42) hx hb dX12_sways_35 (by decide) (fun c37 => absurd c37 (by decide)) (fun _ => ?_)
      refine lv_iconst (v := 0) hx hb dX12_sways_38 (by decide) ?_
      refine lv_goto (tgt := 60) hx hb dX12_sways_39 (by decide) ?_
      have hP : va_P g.1 vwCl (List.flatten [bMo g o a 2 hi ac tp ba en tA fl de iD iO tU fm fk fa fc ft ff fb fi]) H := hP
      have hD : va_D A (List.flatten [bMo g o a 2 hi ac tp ba en tA fl de iD iO tU fm fk fa fc ft ff fb fi]) := hD
      exact mret_i hx hb hr hlocks hS (Nat.le_of_ble_eq_true rfl) (Nat.le_of_ble_eq_true rfl) dX12_sways_60 ((2 : Int32), ba, en, tA, de, iD, iO, tU, ff, fm, fb, fa, (0 : Int32)) rfl (show (rM fa) ∧ (rM fm) ∧ (0 ≤ iO.toInt ∧ iO.toInt ≤ 1) ∧ (0 ≤ iD.toInt ∧ iD.toInt ≤ 1) from ⟨(by first | assumption | omega | decide | exact rfl | exact zb01 (by omega) | exact Or.inl (by decide) | exact Or.inr (by first | omega | decide)), (by first | assumption | omega | decide | exact rfl | exact zb01 (by omega) | exact Or.inl (by decide) | exact Or.inr (by first | omega | decide)), (by first | assumption | omega | decide | exact rfl | exact zb01 (by omega) | exact Or.inl (by decide) | exact Or.inr (by first | omega | decide)), (by first | assumption | omega | decide | exact rfl | exact zb01 (by omega) | exact Or.inl (by decide) | exact Or.inr (by first | omega | decide))⟩) hP hD
  · skip
    refine lv_if_ne (tgt := 13) hx hb dX12_sways_6 (by decide) (fun c38 => absurd (by decide) c38) (fun _ => ?_)
    refine lv_iconst (v := 1) hx hb dX12_sways_9 (by decide) ?_
    refine lv_goto (tgt := 28) hx hb dX12_sways_10 (by decide) ?_
    refine va_put (D := g.1) (ci := 10) (v := .int 1) (ty := .int) (C := RX12) (T := TX12) (N := 20) hx hb hts izRX12 tyX12 tyX12_ok nmX12 hown hK hP hD hS 0 rfl rfl 0 (by decide) (hts _ k871) (fun _ h9 => h9) rfl (by decide +kernel) rfl rfl (Nat.le_of_ble_eq_true rfl) dX12_sways_28 (fun H locs hP hD hS => ?_)
    have hP : va_P g.1 vwCl (List.flatten [bMo g o a 1 hi ac tp ba en tA fl de iD iO tU fm fk fa fc ft ff fb fi]) H := hP
    have hD : va_D A (List.flatten [bMo g o a 1 hi ac tp ba en tA fl de iD iO tU fm fk fa fc ft ff fb fi]) := hD
    refine lv_aload_n hx hb dX12_sways_31 rfl (lv_at hl 0 rfl) ?_
    refine va_get (D := g.1) (ci := 10) (v := .int 1) (C := RX12) (T := TX12) (N := 20) hx hb hts izRX12 hown hK hP 0 rfl rfl 0 (by decide) (hts _ k871) (fun _ h9 => h9) rfl dX12_sways_32 ?_
    refine lv_if_le (tgt := 42) hx hb dX12_sways_35 (by decide) (fun c39 => absurd c39 (by decide)) (fun _ => ?_)
    refine lv_iconst (v := 0) hx hb dX12_sways_38 (by decide) ?_
    refine lv_goto (tgt := 60) hx hb dX12_sways_39 (by decide) ?_
    have hP : va_P g.1 vwCl (List.flatten [bMo g o a 1 hi ac tp ba en tA fl de iD iO tU fm fk fa fc ft ff fb fi]) H := hP
    have hD : va_D A (List.flatten [bMo g o a 1 hi ac tp ba en tA fl de iD iO tU fm fk fa fc ft ff fb fi]) := hD
    exact mret_i hx hb hr hlocks hS (Nat.le_of_ble_eq_true rfl) (Nat.le_of_ble_eq_true rfl) dX12_sways_60 ((1 : Int32), ba, en, tA, de, iD, iO, tU, ff, fm, fb, fa, (0 : Int32)) rfl (show (rM fa) ∧ (rM fm) ∧ (0 ≤ iO.toInt ∧ iO.toInt ≤ 1) ∧ (0 ≤ iD.toInt ∧ iD.toInt ≤ 1) from ⟨(by first | assumption | omega | decide | exact rfl | exact zb01 (by omega) | exact Or.inl (by decide) | exact Or.inr (by first | omega | decide)), (by first | assumption | omega | decide | exact rfl | exact zb01 (by omega) | exact Or.inl (by decide) | exact Or.inr (by first | omega | decide)), (by first | assumption | omega | decide | exact rfl | exact zb01 (by omega) | exact Or.inl (by decide) | exact Or.inr (by first | omega | decide)), (by first | assumption | omega | decide | exact rfl | exact zb01 (by omega) | exact Or.inl (by decide) | exact Or.inr (by first | omega | decide))⟩) hP hD
