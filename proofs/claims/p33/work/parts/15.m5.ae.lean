set_option maxRecDepth 100000 in
set_option maxHeartbeats 4000000 in
theorem m_end (l : Launch) (g : zG) (o : Nat) (a : Nat → Nat) (th : Int32) (hi : Int32) (ac : Int32) (tp : Int32) (ba : Int32) (en : Int32) (tA : Int32) (fl : Int32) (de : Int32) (iD : Int32) (iO : Int32) (tU : Int32) (fm : Nat → Int32) (fk : Nat → Int32) (fa : Nat → Int32) (fc : Nat → Int32) (ft : Nat → Int32) (ff : Nat → Int32) (fb : Nat → Int32) (fi : Nat → Int32) (n : Int32) (htp : 0 ≤ tp.toInt ∧ tp.toInt ≤ 400) : zM' g l yX12_end (Cond.code yX12_end cX12_end 2 (some .boolean) :: zB) ({ frames := 1, cells := 0, slots := 0, locals := 22 } : Room) [.ref o, .int n] [bMo g o a th hi ac tp ba en tA fl de iD iO tU fm fk fa fc ft ff fb fi] (fun u : Int32 × Int32 × Int32 => (fun (th2 : Int32) (tp2 : Int32) (q : Int32) => some (.int q)) (u.1) (u.2.1) (u.2.2)) (fun u : Int32 × Int32 × Int32 => (fun (th2 : Int32) (tp2 : Int32) (q : Int32) => (0 ≤ tp2.toInt ∧ tp2.toInt ≤ 400) ∧ (q = 1 ∧ (0 ≤ n.toInt ∧ n.toInt ≤ tp.toInt ∧ tp2.toInt = n.toInt) ∨ q = 0 ∧ ((n.toInt < 0 ∨ tp.toInt < n.toInt) ∧ tp2.toInt = tp.toInt))) (u.1) (u.2.1) (u.2.2)) (fun u : Int32 × Int32 × Int32 => (fun (th2 : Int32) (tp2 : Int32) (q : Int32) => [bMo g o a th2 hi ac tp2 ba en tA fl de iD iO tU fm fk fa fc ft ff fb fi]) (u.1) (u.2.1) (u.2.2)) := by
  refine zM'.of (cc := cX12_end) (maxL := 2) (rt := (some .boolean)) (by decide) rfl (Nat.le_of_ble_eq_true rfl) ?_
  intro p e s m args below meth c A ls St hr hlocks hin hK hT hA hP hD hS hl
  obtain ⟨hx, hb, hml, hown, hts⟩ := id St
  have hl : lv_has ls 2 [(0, .ref o), (1, .int n)] := hl
  refine lv_aload_n hx hb dX12_end_0 rfl (lv_at hl 0 rfl) ?_
  refine lv_iconst (v := 0) hx hb dX12_end_1 (by decide) ?_
  refine va_put (D := g.1) (ci := 10) (v := .int 0) (ty := .int) (C := RX12) (T := TX12) (N := 20) hx hb hts izRX12 tyX12 tyX12_ok nmX12 hown hK hP hD hS 0 rfl rfl 0 (by decide) (hts _ k825) (fun _ h9 => h9) rfl (by decide +kernel) rfl rfl (Nat.le_of_ble_eq_true rfl) dX12_end_2 (fun H locs hP hD hS => ?_)
  have hP : va_P g.1 vwCl (List.flatten [bMo g o a 0 hi ac tp ba en tA fl de iD iO tU fm fk fa fc ft ff fb fi]) H := hP
  have hD : va_D A (List.flatten [bMo g o a 0 hi ac tp ba en tA fl de iD iO tU fm fk fa fc ft ff fb fi]) := hD
  refine lv_iload_n hx hb dX12_end_5 rfl (lv_at hl 1 rfl) ?_
  refine lv_iconst (v := 0) hx hb dX12_end_6 (by decide) ?_
  refine lv_aload_n hx hb dX12_end_7 rfl (lv_at hl 0 rfl) ?_
  refine va_get (D := g.1) (ci := 10) (v := .int tp) (C := RX12) (T := TX12) (N := 20) hx hb hts izRX12 hown hK hP 0 rfl rfl 8 (by decide) (hts _ k873) (fun _ h9 => h9) rfl dX12_end_8 ?_
  have hL0 : (0 : Int32).toInt = 0 := by decide
  refine mcallS' (g := g) (As := [.int n, .int 0, .int tp]) (rest := []) St hK hT hA hP hD hS hl.1 [] [0] rfl rfl rfl (m_isIn l g n 0 tp ) (va_cwS 3 hts (zgL (zl3 k837 k838 k839) k826) rfl rfl rfl (by decide +kernel) ⟨Nat.le_of_ble_eq_true rfl, Nat.le_of_ble_eq_true rfl⟩) rfl rfl (Nat.le_of_ble_eq_true rfl) dX12_end_11 ⟨(Nat.le_of_ble_eq_true rfl), (Nat.le_of_ble_eq_true rfl)⟩ (fun q_1 H locs hq2 hP hD hS => ?_)
  replace hq2 : (q_1 = 1 ∧ (0 : Int32).toInt ≤ n.toInt ∧ n.toInt ≤ tp.toInt ∨ q_1 = 0 ∧ (n.toInt < (0 : Int32).toInt ∨ tp.toInt < n.toInt)) := hq2
  have hP : va_P g.1 vwCl (List.flatten [bMo g o a 0 hi ac tp ba en tA fl de iD iO tU fm fk fa fc ft ff fb fi]) H := hP
  have hD : va_D A (List.flatten [bMo g o a 0 hi ac tp ba en tA fl de iD iO tU fm fk fa fc ft ff fb fi]) := hD
  refine W.widen (k := 0) (n := 0) (Nat.le_of_ble_eq_true rfl) (Nat.le_of_ble_eq_true rfl) ?_
  refine W.eq (g2 := F0 m 14 ls [.int q_1]) rfl ?_
  rcases hq2 with ⟨rfl, hq2_k⟩ | ⟨rfl, hq2_k⟩
  · skip
    refine lv_if_ne (tgt := 19) hx hb dX12_end_14 (by decide) (fun _ => ?_) (fun c3 => absurd c3 (by decide))
    refine lv_aload_n hx hb dX12_end_19 rfl (lv_at hl 0 rfl) ?_
    refine lv_iload_n hx hb dX12_end_20 rfl (lv_at hl 1 rfl) ?_
    refine va_put (D := g.1) (ci := 10) (v := .int n) (ty := .int) (C := RX12) (T := TX12) (N := 20) hx hb hts izRX12 tyX12 tyX12_ok nmX12 hown hK hP hD hS 0 rfl rfl 8 (by decide) (hts _ k873) (fun _ h9 => h9) rfl (by decide +kernel) rfl rfl (Nat.le_of_ble_eq_true rfl) dX12_end_21 (fun H locs hP hD hS => ?_)
    have hP : va_P g.1 vwCl (List.flatten [bMo g o a 0 hi ac n ba en tA fl de iD iO tU fm fk fa fc ft ff fb fi]) H := hP
    have hD : va_D A (List.flatten [bMo g o a 0 hi ac n ba en tA fl de iD iO tU fm fk fa fc ft ff fb fi]) := hD
    refine lv_iconst (v := 1) hx hb dX12_end_24 (by decide) ?_
    have hP : va_P g.1 vwCl (List.flatten [bMo g o a 0 hi ac n ba en tA fl de iD iO tU fm fk fa fc ft ff fb fi]) H := hP
    have hD : va_D A (List.flatten [bMo g o a 0 hi ac n ba en tA fl de iD iO tU fm fk fa fc ft ff fb fi]) := hD
    exact mret_z hx hb hr hlocks hS (Nat.le_of_ble_eq_true rfl) (Nat.le_of_ble_eq_true rfl) dX12_end_25 ((0 : Int32), n, (1 : Int32)) rfl (by decide) (show (0 ≤ n.toInt ∧ n.toInt ≤ 400) ∧ (1 = 1 ∧ (0 ≤ n.toInt ∧ n.toInt ≤ tp.toInt ∧ n.toInt = n.toInt) ∨ 1 = 0 ∧ ((n.toInt < 0 ∨ tp.toInt < n.toInt) ∧ n.toInt = tp.toInt)) from ⟨(by omega), (by first | exact Or.inl ⟨rfl, by omega⟩ | exact Or.inr ⟨rfl, by omega⟩)⟩) hP hD
  · skip
    refine lv_if_ne (tgt := 19) hx hb dX12_end_14 (by decide) (fun c4 => absurd (by decide) c4) (fun _ => ?_)
    refine lv_iconst (v := 0) hx hb dX12_end_17 (by decide) ?_
    have hP : va_P g.1 vwCl (List.flatten [bMo g o a 0 hi ac tp ba en tA fl de iD iO tU fm fk fa fc ft ff fb fi]) H := hP
    have hD : va_D A (List.flatten [bMo g o a 0 hi ac tp ba en tA fl de iD iO tU fm fk fa fc ft ff fb fi]) := hD
    exact mret_z hx hb hr hlocks hS (Nat.le_of_ble_eq_true rfl) (Nat.le_of_ble_eq_true rfl) dX12_end_18 ((0 : Int32), tp, (0 : Int32)) rfl (by decide) (show (0 ≤ tp.toInt ∧ tp.toInt ≤ 400) ∧ (0 = 1 ∧ (0 ≤ n.toInt ∧ n.toInt ≤ tp.toInt ∧ tp.toInt = n.toInt) ∨ 0 = 0 ∧ ((n.toInt < 0 ∨ tp.toInt < n.toInt) ∧ tp.toInt = tp.toInt)) from ⟨(by omega), (by first | exact Or.inl ⟨rfl, by omega⟩ | exact Or.inr ⟨rfl, by omega⟩)⟩) hP hD
set_option maxRecDepth 100000 in
set_option maxHeartbeats 4000000 in
theorem m_town (l : Launch) (g : zG) (o : Nat) (a : Nat → Nat) (th : Int32) (hi : Int32) (ac : Int32) (tp : Int32) (ba : Int32) (en : Int32) (tA : Int32) (fl : Int32) (de : Int32) (iD : Int32) (iO : Int32) (tU : Int32) (fm : Nat → Int32) (fk : Nat → Int32) (fa : Nat → Int32) (fc : Nat → Int32) (ft : Nat → Int32) (ff : Nat → Int32) (fb : Nat → Int32) (fi : Nat → Int32) (rfm : rM fm) (rfa : rM fa) (hac : 0 ≤ ac.toInt ∧ ac.toInt ≤ 12) (htp : 0 ≤ tp.toInt ∧ tp.toInt ≤ 400) (hiD : 0 ≤ iD.toInt ∧ iD.toInt ≤ 1) (hiO : 0 ≤ iO.toInt ∧ iO.toInt ≤ 1) : zM' g l yX12_town (Cond.code yX12_town cX12_town 2 (some .int) :: zB) ({ frames := 9, cells := 0, slots := 0, locals := 201 } : Room) [.ref o] [bMo g o a th hi ac tp ba en tA fl de iD iO tU fm fk fa fc ft ff fb fi] (fun u : Int32 × Int32 × Int32 × (Nat → Int32) × (Nat → Int32) × Int32 × Int32 => (fun (th2 : Int32) (at2 : Int32) (fl2 : Int32) (fm2 : Nat → Int32) (fa2 : Nat → Int32) (ac2 : Int32) (q : Int32) => some (.int q)) (u.1) (u.2.1) (u.2.2.1) (u.2.2.2.1) (u.2.2.2.2.1) (u.2.2.2.2.2.1) (u.2.2.2.2.2.2)) (fun u : Int32 × Int32 × Int32 × (Nat → Int32) × (Nat → Int32) × Int32 × Int32 => (fun (th2 : Int32) (at2 : Int32) (fl2 : Int32) (fm2 : Nat → Int32) (fa2 : Nat → Int32) (ac2 : Int32) (q : Int32) => (0 ≤ ac2.toInt ∧ ac2.toInt ≤ 12) ∧ (rM fa2) ∧ (rM fm2)) (u.1) (u.2.1) (u.2.2.1) (u.2.2.2.1) (u.2.2.2.2.1) (u.2.2.2.2.2.1) (u.2.2.2.2.2.2)) (fun u : Int32 × Int32 × Int32 × (Nat → Int32) × (Nat → Int32) × Int32 × Int32 => (fun (th2 : Int32) (at2 : Int32) (fl2 : Int32) (fm2 : Nat → Int32) (fa2 : Nat → Int32) (ac2 : Int32) (q : Int32) => [bMo g o a th2 hi ac2 0 (-1) tp at2 fl2 0 iD iO tU fm2 fk fa2 fc ft ff fb fi]) (u.1) (u.2.1) (u.2.2.1) (u.2.2.2.1) (u.2.2.2.2.1) (u.2.2.2.2.2.1) (u.2.2.2.2.2.2)) := by
  refine zM'.of (cc := cX12_town) (maxL := 2) (rt := (some .int)) (by decide) rfl (Nat.le_of_ble_eq_true rfl) ?_
  intro p e s m args below meth c A ls St hr hlocks hin hK hT hA hP hD hS hl
  obtain ⟨hx, hb, hml, hown, hts⟩ := id St
  have hl : lv_has ls 2 [(0, .ref o)] := hl
  refine lv_aload_n hx hb dX12_town_0 rfl (lv_at hl 0 rfl) ?_
  refine mcallV' (g := g) (q0 := 0) (ci := 10) (As := []) (rest := []) St hK hT hA hP hD hS hl.1 [0] [] rfl rfl rfl (m_putsAside l g o a th hi ac tp ba en tA fl de iD iO tU fm fk fa fc ft ff fb fi rfm rfa) (cwV 0 hts (zgL (zl4 k975 k976 k977 k839) k972) rfl rfl rfl (by decide +kernel) ⟨Nat.le_of_ble_eq_true rfl, Nat.le_of_ble_eq_true rfl⟩) rfl rfl rfl rfl (Nat.le_of_ble_eq_true rfl) dX12_town_1 ⟨(Nat.le_of_ble_eq_true rfl), (Nat.le_of_ble_eq_true rfl)⟩ (fun fa2_1 H locs hq2 hP hD hS => ?_)
  replace hq2 : (rM fa2_1) ∧ (zCy fa fa2_1 0 fm 0 379) ∧ ((fa2_1 0).toInt = (fm 0).toInt ∧ (fa2_1 3).toInt = (fm 3).toInt ∧ (fa2_1 4).toInt = (fm 4).toInt) := hq2
  have hP : va_P g.1 vwCl (List.flatten [bMo g o a th hi ac tp ba en tA fl de iD iO tU fm fk fa2_1 fc ft ff fb fi]) H := hP
  have hD : va_D A (List.flatten [bMo g o a th hi ac tp ba en tA fl de iD iO tU fm fk fa2_1 fc ft ff fb fi]) := hD
  refine W.widen (k := 0) (n := 0) (Nat.le_of_ble_eq_true rfl) (Nat.le_of_ble_eq_true rfl) ?_
  refine W.eq (g2 := F0 m 4 ls []) rfl ?_
  obtain ⟨rfa2_1, hq2_1, hq2_2⟩ := hq2
  refine lv_aload_n hx hb dX12_town_4 rfl (lv_at hl 0 rfl) ?_
  refine mcallV' (g := g) (q0 := 0) (ci := 10) (As := []) (rest := []) St hK hT hA hP hD hS hl.1 [0] [] rfl rfl rfl (m_begins l g o a th hi ac tp ba en tA fl de iD iO tU fm fk fa2_1 fc ft ff fb fi ) (cwV 0 hts (zgL (zl4 k978 k979 k980 k839) k932) rfl rfl rfl (by decide +kernel) ⟨Nat.le_of_ble_eq_true rfl, Nat.le_of_ble_eq_true rfl⟩) rfl rfl rfl rfl (Nat.le_of_ble_eq_true rfl) dX12_town_5 ⟨(Nat.le_of_ble_eq_true rfl), (Nat.le_of_ble_eq_true rfl)⟩ (fun _u H locs hq3 hP hD hS => ?_)
  have hP : va_P g.1 vwCl (List.flatten [bMo g o a th hi ac 0 (-1) tp 0 (-1) 0 iD iO tU fm fk fa2_1 fc ft ff fb fi]) H := hP
  have hD : va_D A (List.flatten [bMo g o a th hi ac 0 (-1) tp 0 (-1) 0 iD iO tU fm fk fa2_1 fc ft ff fb fi]) := hD
  refine W.widen (k := 0) (n := 0) (Nat.le_of_ble_eq_true rfl) (Nat.le_of_ble_eq_true rfl) ?_
  refine W.eq (g2 := F0 m 8 ls []) rfl ?_
  refine lv_aload_n hx hb dX12_town_8 rfl (lv_at hl 0 rfl) ?_
  refine lv_iconst (v := 0) hx hb dX12_town_9 (by decide) ?_
  have hLn1 : ((-1) : Int32).toInt = (-1) := by decide
  have hL0 : (0 : Int32).toInt = 0 := by decide
  refine mcallV' (g := g) (q0 := 0) (ci := 10) (As := [.int 0]) (rest := []) St hK hT hA hP hD hS hl.1 [0] [] rfl rfl rfl (m_readF l g o a th hi ac 0 (-1) tp 0 (-1) iD iO tU fm fk fa2_1 fc ft ff fb fi rfm (by first | assumption | omega | decide | exact Or.inl (by decide) | exact Or.inr (by decide)) htp (by first | assumption | omega | decide | exact Or.inl (by decide) | exact Or.inr (by decide)) (by first | assumption | omega | decide | exact Or.inl (by decide) | exact Or.inr (by decide)) (by first | assumption | omega | decide | exact Or.inl (by decide) | exact Or.inr (by decide))) (cwV 1 hts (zgL (zl4 k981 k982 k983 k839) k971) rfl rfl rfl (by decide +kernel) ⟨Nat.le_of_ble_eq_true rfl, Nat.le_of_ble_eq_true rfl⟩) rfl rfl rfl rfl (Nat.le_of_ble_eq_true rfl) dX12_town_10 ⟨(Nat.le_of_ble_eq_true rfl), (Nat.le_of_ble_eq_true rfl)⟩ (fun u_ H locs hq8 hP hD hS => ?_)
  obtain ⟨at2_4, fl2_5, fm2_6, q_7⟩ := u_
  replace hq8 : (rM fm2_6) ∧ (0 ≤ at2_4.toInt ∧ at2_4.toInt ≤ tp.toInt + 7 - 0) ∧ ((0 : Int32).toInt ≤ at2_4.toInt) ∧ (-1 ≤ fl2_5.toInt) := hq8
  have hP : va_P g.1 vwCl (List.flatten [bMo g o a th hi ac 0 (-1) tp at2_4 fl2_5 0 iD iO tU fm2_6 fk fa2_1 fc ft ff fb fi]) H := hP
  have hD : va_D A (List.flatten [bMo g o a th hi ac 0 (-1) tp at2_4 fl2_5 0 iD iO tU fm2_6 fk fa2_1 fc ft ff fb fi]) := hD
  refine W.widen (k := 0) (n := 0) (Nat.le_of_ble_eq_true rfl) (Nat.le_of_ble_eq_true rfl) ?_
  refine W.eq (g2 := F0 m 13 ls [.int q_7]) rfl ?_
  obtain ⟨rfm2_6, hq8_1, hq8_2, hq8_3⟩ := hq8
  refine lv_istore_n (lv' := [(1, .int q_7), (0, .ref o)]) hx hb dX12_town_13 rfl hl (by decide) rfl (fun ls hl => ?_)
  refine lv_aload_n hx hb dX12_town_14 rfl (lv_at hl 1 rfl) ?_
  refine lv_aload_n hx hb dX12_town_15 rfl (lv_at hl 1 rfl) ?_
  refine va_get (D := g.1) (ci := 10) (v := .int fl2_5) (C := RX12) (T := TX12) (N := 20) hx hb hts izRX12 hown hK hP 0 rfl rfl 12 (by decide) (hts _ k820) (fun _ h9 => h9) rfl dX12_town_16 ?_
  refine lv_iconst (v := (-1)) hx hb dX12_town_19 (by decide) ?_
  refine lv_icmp_eq (tgt := 27) hx hb dX12_town_20 (by decide) (fun cb9 => ?_) (fun cb9 => ?_)
  · skip
    have c9 : fl2_5.toInt = (-1) := zeq cb9 rfl (by decide)
    have n10 : fl2_5.toInt ≤ (-1) := Int.le_trans (Int.le_of_eq c9) (Int.le_refl _)
    refine lv_aload_n hx hb dX12_town_27 rfl (lv_at hl 1 rfl) ?_
    refine va_get (D := g.1) (ci := 10) (v := .ref (a 0)) (C := RX12) (T := TX12) (N := 20) hx hb hts izRX12 hown hK hP 0 rfl rfl 1 (by decide) (hts _ k815) (fun _ h9 => h9) rfl dX12_town_28 ?_
    refine lv_iconst (v := 0) hx hb dX12_town_31 (by decide) ?_
    refine va_iald hx hb hK hP 1 0 rfl rfl (zin rfl) dX12_town_32 ?_
    refine zg (fun x_11 => ?_)
    refine lv_bipush (v := 12) hx hb dX12_town_33 (by decide) ?_
    refine lv_icmp_ne (tgt := 42) hx hb dX12_town_35 (by decide) (fun cb9 => ?_) (fun cb9 => ?_)
    · skip
      have c12 : ¬ x_11.toInt = 12 := zne cb9 rfl (by decide)
      refine lv_iconst (v := 0) hx hb dX12_town_42 (by decide) ?_
      refine va_put (D := g.1) (ci := 10) (v := .int 0) (ty := .int) (C := RX12) (T := TX12) (N := 20) hx hb hts izRX12 tyX12 tyX12_ok nmX12 hown hK hP hD hS 0 rfl rfl 0 (by decide) (hts _ k825) (fun _ h9 => h9) rfl (by decide +kernel) rfl rfl (Nat.le_of_ble_eq_true rfl) dX12_town_43 (fun H locs hP hD hS => ?_)
      have hP : va_P g.1 vwCl (List.flatten [bMo g o a 0 hi ac 0 (-1) tp at2_4 fl2_5 0 iD iO tU fm2_6 fk fa2_1 fc ft ff fb fi]) H := hP
      have hD : va_D A (List.flatten [bMo g o a 0 hi ac 0 (-1) tp at2_4 fl2_5 0 iD iO tU fm2_6 fk fa2_1 fc ft ff fb fi]) := hD
      refine lv_aload_n hx hb dX12_town_46 rfl (lv_at hl 1 rfl) ?_
      refine va_get (D := g.1) (ci := 10) (v := .int 0) (C := RX12) (T := TX12) (N := 20) hx hb hts izRX12 hown hK hP 0 rfl rfl 0 (by decide) (hts _ k825) (fun _ h9 => h9) rfl dX12_town_47 ?_
      refine lv_if_le (tgt := 59) hx hb dX12_town_50 (by decide) (fun _ => ?_) (fun c13 => absurd (by decide) c13)
      refine lv_aload_n hx hb dX12_town_59 rfl (lv_at hl 1 rfl) ?_
      refine va_get (D := g.1) (ci := 10) (v := .ref (a 0)) (C := RX12) (T := TX12) (N := 20) hx hb hts izRX12 hown hK hP 0 rfl rfl 1 (by decide) (hts _ k815) (fun _ h9 => h9) rfl dX12_town_60 ?_
      refine lv_iconst (v := 0) hx hb dX12_town_63 (by decide) ?_
      refine lv_dup2_11 hx hb dX12_town_64 rfl rfl ?_
      refine va_iald hx hb hK hP 1 0 rfl rfl (zin rfl) dX12_town_65 ?_
      refine zg (fun x_14 => ?_)
      refine lv_iconst (v := 1) hx hb dX12_town_66 (by decide) ?_
      refine lv_iadd hx hb dX12_town_67 ?_
      refine zg (fun x_15 => ?_)
      refine va_iast hx hb hK hP hD hS 1 0 rfl rfl (zin rfl) dX12_town_68 (fun H locs hP hD hS => ?_)
      obtain ⟨fm_16, rfm_16, hP, hD⟩ : ∃ fm_16 : Nat → Int32, rM fm_16 ∧ va_P g.1 vwCl (List.flatten [bMo g o a 0 hi ac 0 (-1) tp at2_4 fl2_5 0 iD iO tU fm_16 fk fa2_1 fc ft ff fb fi]) H ∧ va_D A (List.flatten [bMo g o a 0 hi ac 0 (-1) tp at2_4 fl2_5 0 iD iO tU fm_16 fk fa2_1 fc ft ff fb fi]) := ⟨upd fm2_6 0 x_15, (rM_stL rfm2_6 (by decide)), hP, hD⟩
      refine lv_aload_n hx hb dX12_town_69 rfl (lv_at hl 1 rfl) ?_
      refine lv_iconst (v := 0) hx hb dX12_town_70 (by decide) ?_
      refine va_put (D := g.1) (ci := 10) (v := .int 0) (ty := .int) (C := RX12) (T := TX12) (N := 20) hx hb hts izRX12 tyX12 tyX12_ok nmX12 hown hK hP hD hS 0 rfl rfl 6 (by decide) (hts _ k974) (fun _ h9 => h9) rfl (by decide +kernel) rfl rfl (Nat.le_of_ble_eq_true rfl) dX12_town_71 (fun H locs hP hD hS => ?_)
      have hP : va_P g.1 vwCl (List.flatten [bMo g o a 0 hi 0 0 (-1) tp at2_4 fl2_5 0 iD iO tU fm_16 fk fa2_1 fc ft ff fb fi]) H := hP
      have hD : va_D A (List.flatten [bMo g o a 0 hi 0 0 (-1) tp at2_4 fl2_5 0 iD iO tU fm_16 fk fa2_1 fc ft ff fb fi]) := hD
      refine lv_aload_n hx hb dX12_town_74 rfl (lv_at hl 1 rfl) ?_
      refine va_get (D := g.1) (ci := 10) (v := .ref (a 0)) (C := RX12) (T := TX12) (N := 20) hx hb hts izRX12 hown hK hP 0 rfl rfl 1 (by decide) (hts _ k815) (fun _ h9 => h9) rfl dX12_town_75 ?_
      refine lv_iconst (v := 0) hx hb dX12_town_78 (by decide) ?_
      refine va_iald hx hb hK hP 1 0 rfl rfl (zin rfl) dX12_town_79 ?_
      refine zg (fun x_17 => ?_)
      have hP : va_P g.1 vwCl (List.flatten [bMo g o a 0 hi 0 0 (-1) tp at2_4 fl2_5 0 iD iO tU fm_16 fk fa2_1 fc ft ff fb fi]) H := hP
      have hD : va_D A (List.flatten [bMo g o a 0 hi 0 0 (-1) tp at2_4 fl2_5 0 iD iO tU fm_16 fk fa2_1 fc ft ff fb fi]) := hD
      exact mret_i hx hb hr hlocks hS (Nat.le_of_ble_eq_true rfl) (Nat.le_of_ble_eq_true rfl) dX12_town_80 ((0 : Int32), at2_4, fl2_5, fm_16, fa2_1, (0 : Int32), x_17) rfl (show (0 ≤ (0 : Int32).toInt ∧ (0 : Int32).toInt ≤ 12) ∧ (rM fa2_1) ∧ (rM fm_16) from ⟨(by first | assumption | omega | decide | exact rfl | exact zb01 (by omega) | exact Or.inl (by decide) | exact Or.inr (by first | omega | decide)), rfa2_1, rfm_16⟩) hP hD
    · skip
      have c18 : x_11.toInt = 12 := zeq cb9 rfl (by decide)
      have n19 : 12 ≤ x_11.toInt := Int.le_trans (Int.le_refl _) (Int.le_of_eq c18.symm)
      have n20 : x_11.toInt ≤ 12 := Int.le_trans (Int.le_of_eq c18) (Int.le_refl _)
      refine lv_iconst (v := 2) hx hb dX12_town_38 (by decide) ?_
      refine lv_goto (tgt := 43) hx hb dX12_town_39 (by decide) ?_
      refine va_put (D := g.1) (ci := 10) (v := .int 2) (ty := .int) (C := RX12) (T := TX12) (N := 20) hx hb hts izRX12 tyX12 tyX12_ok nmX12 hown hK hP hD hS 0 rfl rfl 0 (by decide) (hts _ k825) (fun _ h9 => h9) rfl (by decide +kernel) rfl rfl (Nat.le_of_ble_eq_true rfl) dX12_town_43 (fun H locs hP hD hS => ?_)
      have hP : va_P g.1 vwCl (List.flatten [bMo g o a 2 hi ac 0 (-1) tp at2_4 fl2_5 0 iD iO tU fm2_6 fk fa2_1 fc ft ff fb fi]) H := hP
      have hD : va_D A (List.flatten [bMo g o a 2 hi ac 0 (-1) tp at2_4 fl2_5 0 iD iO tU fm2_6 fk fa2_1 fc ft ff fb fi]) := hD
      refine lv_aload_n hx hb dX12_town_46 rfl (lv_at hl 1 rfl) ?_
      refine va_get (D := g.1) (ci := 10) (v := .int 2) (C := RX12) (T := TX12) (N := 20) hx hb hts izRX12 hown hK hP 0 rfl rfl 0 (by decide) (hts _ k825) (fun _ h9 => h9) rfl dX12_town_47 ?_
      refine lv_if_le (tgt := 59) hx hb dX12_town_50 (by decide) (fun c21 => absurd c21 (by decide)) (fun _ => ?_)
      refine lv_aload_n hx hb dX12_town_53 rfl (lv_at hl 1 rfl) ?_
      refine mcallV' (g := g) (q0 := 0) (ci := 10) (As := []) (rest := []) St hK hT hA hP hD hS hl.1 [0] [] rfl rfl rfl (m_comesBack l g o a 2 hi ac 0 (-1) tp at2_4 fl2_5 0 iD iO tU fm2_6 fk fa2_1 fc ft ff fb fi rfm2_6 rfa2_1) (cwV 0 hts (zgL (zl4 k984 k985 k986 k839) k973) rfl rfl rfl (by decide +kernel) ⟨Nat.le_of_ble_eq_true rfl, Nat.le_of_ble_eq_true rfl⟩) rfl rfl rfl rfl (Nat.le_of_ble_eq_true rfl) dX12_town_54 ⟨(Nat.le_of_ble_eq_true rfl), (Nat.le_of_ble_eq_true rfl)⟩ (fun fm2_22 H locs hq23 hP hD hS => ?_)
      replace hq23 : (rM fm2_22) ∧ (zCy fm2_6 fm2_22 0 fa2_1 0 379) ∧ ((fm2_22 0).toInt = (fa2_1 0).toInt ∧ (fm2_22 3).toInt = (fa2_1 3).toInt ∧ (fm2_22 4).toInt = (fa2_1 4).toInt) := hq23
      have hP : va_P g.1 vwCl (List.flatten [bMo g o a 2 hi ac 0 (-1) tp at2_4 fl2_5 0 iD iO tU fm2_22 fk fa2_1 fc ft ff fb fi]) H := hP
      have hD : va_D A (List.flatten [bMo g o a 2 hi ac 0 (-1) tp at2_4 fl2_5 0 iD iO tU fm2_22 fk fa2_1 fc ft ff fb fi]) := hD
      refine W.widen (k := 0) (n := 0) (Nat.le_of_ble_eq_true rfl) (Nat.le_of_ble_eq_true rfl) ?_
      refine W.eq (g2 := F0 m 57 ls []) rfl ?_
      obtain ⟨rfm2_22, hq23_1, hq23_2⟩ := hq23
      refine lv_iconst (v := 0) hx hb dX12_town_57 (by decide) ?_
      have hP : va_P g.1 vwCl (List.flatten [bMo g o a 2 hi ac 0 (-1) tp at2_4 fl2_5 0 iD iO tU fm2_22 fk fa2_1 fc ft ff fb fi]) H := hP
      have hD : va_D A (List.flatten [bMo g o a 2 hi ac 0 (-1) tp at2_4 fl2_5 0 iD iO tU fm2_22 fk fa2_1 fc ft ff fb fi]) := hD
      exact mret_i hx hb hr hlocks hS (Nat.le_of_ble_eq_true rfl) (Nat.le_of_ble_eq_true rfl) dX12_town_58 ((2 : Int32), at2_4, fl2_5, fm2_22, fa2_1, ac, (0 : Int32)) rfl (show (0 ≤ ac.toInt ∧ ac.toInt ≤ 12) ∧ (rM fa2_1) ∧ (rM fm2_22) from ⟨hac, rfa2_1, rfm2_22⟩) hP hD
  · skip
    have c24 : ¬ fl2_5.toInt = (-1) := zne cb9 rfl (by decide)
    refine lv_iconst (v := 1) hx hb dX12_town_23 (by decide) ?_
    refine lv_goto (tgt := 43) hx hb dX12_town_24 (by decide) ?_
    refine va_put (D := g.1) (ci := 10) (v := .int 1) (ty := .int) (C := RX12) (T := TX12) (N := 20) hx hb hts izRX12 tyX12 tyX12_ok nmX12 hown hK hP hD hS 0 rfl rfl 0 (by decide) (hts _ k825) (fun _ h9 => h9) rfl (by decide +kernel) rfl rfl (Nat.le_of_ble_eq_true rfl) dX12_town_43 (fun H locs hP hD hS => ?_)
    have hP : va_P g.1 vwCl (List.flatten [bMo g o a 1 hi ac 0 (-1) tp at2_4 fl2_5 0 iD iO tU fm2_6 fk fa2_1 fc ft ff fb fi]) H := hP
    have hD : va_D A (List.flatten [bMo g o a 1 hi ac 0 (-1) tp at2_4 fl2_5 0 iD iO tU fm2_6 fk fa2_1 fc ft ff fb fi]) := hD
    refine lv_aload_n hx hb dX12_town_46 rfl (lv_at hl 1 rfl) ?_
    refine va_get (D := g.1) (ci := 10) (v := .int 1) (C := RX12) (T := TX12) (N := 20) hx hb hts izRX12 hown hK hP 0 rfl rfl 0 (by decide) (hts _ k825) (fun _ h9 => h9) rfl dX12_town_47 ?_
    refine lv_if_le (tgt := 59) hx hb dX12_town_50 (by decide) (fun c25 => absurd c25 (by decide)) (fun _ => ?_)
    refine lv_aload_n hx hb dX12_town_53 rfl (lv_at hl 1 rfl) ?_
    refine mcallV' (g := g) (q0 := 0) (ci := 10) (As := []) (rest := []) St hK hT hA hP hD hS hl.1 [0] [] rfl rfl rfl (m_comesBack l g o a 1 hi ac 0 (-1) tp at2_4 fl2_5 0 iD iO tU fm2_6 fk fa2_1 fc ft ff fb fi rfm2_6 rfa2_1) (cwV 0 hts (zgL (zl4 k984 k985 k986 k839) k973) rfl rfl rfl (by decide +kernel) ⟨Nat.le_of_ble_eq_true rfl, Nat.le_of_ble_eq_true rfl⟩) rfl rfl rfl rfl (Nat.le_of_ble_eq_true rfl) dX12_town_54 ⟨(Nat.le_of_ble_eq_true rfl), (Nat.le_of_ble_eq_true rfl)⟩ (fun fm2_26 H locs hq27 hP hD hS => ?_)
    replace hq27 : (rM fm2_26) ∧ (zCy fm2_6 fm2_26 0 fa2_1 0 379) ∧ ((fm2_26 0).toInt = (fa2_1 0).toInt ∧ (fm2_26 3).toInt = (fa2_1 3).toInt ∧ (fm2_26 4).toInt = (fa2_1 4).toInt) := hq27
    have hP : va_P g.1 vwCl (List.flatten [bMo g o a 1 hi ac 0 (-1) tp at2_4 fl2_5 0 iD iO tU fm2_26 fk fa2_1 fc ft ff fb fi]) H := hP
    have hD : va_D A (List.flatten [bMo g o a 1 hi ac 0 (-1) tp at2_4 fl2_5 0 iD iO tU fm2_26 fk fa2_1 fc ft ff fb fi]) := hD
    refine W.widen (k := 0) (n := 0) (Nat.le_of_ble_eq_true rfl) (Nat.le_of_ble_eq_true rfl) ?_
    refine W.eq (g2 := F0 m 57 ls []) rfl ?_
    obtain ⟨rfm2_26, hq27_1, hq27_2⟩ := hq27
    refine lv_iconst (v := 0) hx hb dX12_town_57 (by decide) ?_
    have hP : va_P g.1 vwCl (List.flatten [bMo g o a 1 hi ac 0 (-1) tp at2_4 fl2_5 0 iD iO tU fm2_26 fk fa2_1 fc ft ff fb fi]) H := hP
    have hD : va_D A (List.flatten [bMo g o a 1 hi ac 0 (-1) tp at2_4 fl2_5 0 iD iO tU fm2_26 fk fa2_1 fc ft ff fb fi]) := hD
    exact mret_i hx hb hr hlocks hS (Nat.le_of_ble_eq_true rfl) (Nat.le_of_ble_eq_true rfl) dX12_town_58 ((1 : Int32), at2_4, fl2_5, fm2_26, fa2_1, ac, (0 : Int32)) rfl (show (0 ≤ ac.toInt ∧ ac.toInt ≤ 12) ∧ (rM fa2_1) ∧ (rM fm2_26) from ⟨hac, rfa2_1, rfm2_26⟩) hP hD
set_option maxRecDepth 100000 in
set_option maxHeartbeats 4000000 in
theorem m_law (l : Launch) (g : zG) (o : Nat) (a : Nat → Nat) (th : Int32) (hi : Int32) (ac : Int32) (tp : Int32) (ba : Int32) (en : Int32) (tA : Int32) (fl : Int32) (de : Int32) (iD : Int32) (iO : Int32) (tU : Int32) (fm : Nat → Int32) (fk : Nat → Int32) (fa : Nat → Int32) (fc : Nat → Int32) (ft : Nat → Int32) (ff : Nat → Int32) (fb : Nat → Int32) (fi : Nat → Int32) (rfm : rM fm) (hac : 0 ≤ ac.toInt ∧ ac.toInt ≤ 12) (htp : 0 ≤ tp.toInt ∧ tp.toInt ≤ 400) (hiD : 0 ≤ iD.toInt ∧ iD.toInt ≤ 1) (hiO : 0 ≤ iO.toInt ∧ iO.toInt ≤ 1) : zM' g l yX12_law (Cond.code yX12_law cX12_law 3 (some .int) :: zB) ({ frames := 31, cells := 0, slots := 0, locals := 688 } : Room) [.ref o] [bMo g o a th hi ac tp ba en tA fl de iD iO tU fm fk fa fc ft ff fb fi] (fun u : Int32 × Int32 × Int32 × Int32 × (Nat → Int32) × Int32 × Int32 => (fun (th2 : Int32) (at2 : Int32) (fl2 : Int32) (tU2 : Int32) (fm2 : Nat → Int32) (ac2 : Int32) (q : Int32) => some (.int q)) (u.1) (u.2.1) (u.2.2.1) (u.2.2.2.1) (u.2.2.2.2.1) (u.2.2.2.2.2.1) (u.2.2.2.2.2.2)) (fun u : Int32 × Int32 × Int32 × Int32 × (Nat → Int32) × Int32 × Int32 => (fun (th2 : Int32) (at2 : Int32) (fl2 : Int32) (tU2 : Int32) (fm2 : Nat → Int32) (ac2 : Int32) (q : Int32) => ((fm2 0).toInt = (fm 0).toInt ∧ (fm2 3).toInt = (fm 3).toInt ∧ (fm2 4).toInt = (fm 4).toInt) ∧ (0 ≤ ac2.toInt ∧ ac2.toInt ≤ 12) ∧ (rM fm2)) (u.1) (u.2.1) (u.2.2.1) (u.2.2.2.1) (u.2.2.2.2.1) (u.2.2.2.2.2.1) (u.2.2.2.2.2.2)) (fun u : Int32 × Int32 × Int32 × Int32 × (Nat → Int32) × Int32 × Int32 => (fun (th2 : Int32) (at2 : Int32) (fl2 : Int32) (tU2 : Int32) (fm2 : Nat → Int32) (ac2 : Int32) (q : Int32) => [bMo g o a th2 hi ac2 0 (-1) tp at2 fl2 0 iD iO tU2 fm2 fk fa fc ft ff fb fi]) (u.1) (u.2.1) (u.2.2.1) (u.2.2.2.1) (u.2.2.2.2.1) (u.2.2.2.2.2.1) (u.2.2.2.2.2.2)) := by
  refine zM'.of (cc := cX12_law) (maxL := 3) (rt := (some .int)) (by decide) rfl (Nat.le_of_ble_eq_true rfl) ?_
  intro p e s m args below meth c A ls St hr hlocks hin hK hT hA hP hD hS hl
  obtain ⟨hx, hb, hml, hown, hts⟩ := id St
  have hl : lv_has ls 3 [(0, .ref o)] := hl
  refine lv_aload_n hx hb dX12_law_0 rfl (lv_at hl 0 rfl) ?_
  refine mcallV' (g := g) (q0 := 0) (ci := 10) (As := []) (rest := []) St hK hT hA hP hD hS hl.1 [0] [] rfl rfl rfl (m_begins l g o a th hi ac tp ba en tA fl de iD iO tU fm fk fa fc ft ff fb fi ) (cwV 0 hts (zgL (zl4 k978 k979 k980 k839) k932) rfl rfl rfl (by decide +kernel) ⟨Nat.le_of_ble_eq_true rfl, Nat.le_of_ble_eq_true rfl⟩) rfl rfl rfl rfl (Nat.le_of_ble_eq_true rfl) dX12_law_1 ⟨(Nat.le_of_ble_eq_true rfl), (Nat.le_of_ble_eq_true rfl)⟩ (fun _u H locs hq1 hP hD hS => ?_)
  have hP : va_P g.1 vwCl (List.flatten [bMo g o a th hi ac 0 (-1) tp 0 (-1) 0 iD iO tU fm fk fa fc ft ff fb fi]) H := hP
  have hD : va_D A (List.flatten [bMo g o a th hi ac 0 (-1) tp 0 (-1) 0 iD iO tU fm fk fa fc ft ff fb fi]) := hD
  refine W.widen (k := 0) (n := 0) (Nat.le_of_ble_eq_true rfl) (Nat.le_of_ble_eq_true rfl) ?_
  refine W.eq (g2 := F0 m 4 ls []) rfl ?_
  refine lv_aload_n hx hb dX12_law_4 rfl (lv_at hl 0 rfl) ?_
  refine lv_iconst (v := 1) hx hb dX12_law_5 (by decide) ?_
  have hLn1 : ((-1) : Int32).toInt = (-1) := by decide
  have hL0 : (0 : Int32).toInt = 0 := by decide
  refine mcallV' (g := g) (q0 := 0) (ci := 10) (As := [.int 1]) (rest := []) St hK hT hA hP hD hS hl.1 [0] [] rfl rfl rfl (m_readT l g o a th hi ac 0 (-1) tp 0 (-1) iD iO tU fm fk fa fc ft ff fb fi hiD hiO (by first | assumption | omega | decide | exact Or.inl (by decide) | exact Or.inr (by decide)) htp (by first | assumption | omega | decide | exact Or.inl (by decide) | exact Or.inr (by decide)) (by first | assumption | omega | decide | exact Or.inl (by decide) | exact Or.inr (by decide)) (by first | assumption | omega | decide | exact Or.inl (by decide) | exact Or.inr (by decide))) (cwV 1 hts (zgL (zl4 k981 k982 k983 k839) k971) rfl rfl rfl (by decide +kernel) ⟨Nat.le_of_ble_eq_true rfl, Nat.le_of_ble_eq_true rfl⟩) rfl rfl rfl rfl (Nat.le_of_ble_eq_true rfl) dX12_law_6 ⟨(Nat.le_of_ble_eq_true rfl), (Nat.le_of_ble_eq_true rfl)⟩ (fun u_ H locs hq6 hP hD hS => ?_)
  obtain ⟨at2_2, fl2_3, tU2_4, q_5⟩ := u_
  replace hq6 : (0 ≤ at2_2.toInt ∧ at2_2.toInt ≤ tp.toInt + 7 - 0) ∧ ((0 : Int32).toInt ≤ at2_2.toInt) ∧ (-1 ≤ fl2_3.toInt) := hq6
  have hP : va_P g.1 vwCl (List.flatten [bMo g o a th hi ac 0 (-1) tp at2_2 fl2_3 0 iD iO tU2_4 fm fk fa fc ft ff fb fi]) H := hP
  have hD : va_D A (List.flatten [bMo g o a th hi ac 0 (-1) tp at2_2 fl2_3 0 iD iO tU2_4 fm fk fa fc ft ff fb fi]) := hD
  refine W.widen (k := 0) (n := 0) (Nat.le_of_ble_eq_true rfl) (Nat.le_of_ble_eq_true rfl) ?_
  refine W.eq (g2 := F0 m 9 ls [.int q_5]) rfl ?_
  obtain ⟨hq6_0, hq6_1, hq6_2⟩ := hq6
  refine lv_istore_n (lv' := [(1, .int q_5), (0, .ref o)]) hx hb dX12_law_9 rfl hl (by decide) rfl (fun ls hl => ?_)
  refine lv_aload_n hx hb dX12_law_10 rfl (lv_at hl 1 rfl) ?_
  refine lv_aload_n hx hb dX12_law_11 rfl (lv_at hl 1 rfl) ?_
  refine va_get (D := g.1) (ci := 10) (v := .int fl2_3) (C := RX12) (T := TX12) (N := 20) hx hb hts izRX12 hown hK hP 0 rfl rfl 12 (by decide) (hts _ k820) (fun _ h9 => h9) rfl dX12_law_12 ?_
  refine lv_iconst (v := (-1)) hx hb dX12_law_15 (by decide) ?_
  refine lv_icmp_eq (tgt := 23) hx hb dX12_law_16 (by decide) (fun cb9 => ?_) (fun cb9 => ?_)
  · skip
    have c7 : fl2_3.toInt = (-1) := zeq cb9 rfl (by decide)
    have n8 : fl2_3.toInt ≤ (-1) := Int.le_trans (Int.le_of_eq c7) (Int.le_refl _)
    refine lv_iconst (v := 0) hx hb dX12_law_23 (by decide) ?_
    refine va_put (D := g.1) (ci := 10) (v := .int 0) (ty := .int) (C := RX12) (T := TX12) (N := 20) hx hb hts izRX12 tyX12 tyX12_ok nmX12 hown hK hP hD hS 0 rfl rfl 0 (by decide) (hts _ k825) (fun _ h9 => h9) rfl (by decide +kernel) rfl rfl (Nat.le_of_ble_eq_true rfl) dX12_law_24 (fun H locs hP hD hS => ?_)
    have hP : va_P g.1 vwCl (List.flatten [bMo g o a 0 hi ac 0 (-1) tp at2_2 fl2_3 0 iD iO tU2_4 fm fk fa fc ft ff fb fi]) H := hP
    have hD : va_D A (List.flatten [bMo g o a 0 hi ac 0 (-1) tp at2_2 fl2_3 0 iD iO tU2_4 fm fk fa fc ft ff fb fi]) := hD
    refine lv_aload_n hx hb dX12_law_27 rfl (lv_at hl 1 rfl) ?_
    refine va_get (D := g.1) (ci := 10) (v := .int 0) (C := RX12) (T := TX12) (N := 20) hx hb hts izRX12 hown hK hP 0 rfl rfl 0 (by decide) (hts _ k825) (fun _ h9 => h9) rfl dX12_law_28 ?_
    refine lv_if_le (tgt := 36) hx hb dX12_law_31 (by decide) (fun _ => ?_) (fun c9 => absurd (by decide) c9)
    refine lv_aload_n hx hb dX12_law_36 rfl (lv_at hl 1 rfl) ?_
    refine va_get (D := g.1) (ci := 10) (v := .ref (a 0)) (C := RX12) (T := TX12) (N := 20) hx hb hts izRX12 hown hK hP 0 rfl rfl 1 (by decide) (hts _ k815) (fun _ h9 => h9) rfl dX12_law_37 ?_
    refine lv_iconst (v := 1) hx hb dX12_law_40 (by decide) ?_
    refine lv_iload_n hx hb dX12_law_41 rfl (lv_at hl 0 rfl) ?_
    refine va_iast hx hb hK hP hD hS 1 0 rfl rfl (zin rfl) dX12_law_42 (fun H locs hP hD hS => ?_)
    obtain ⟨fm_10, rfm_10, hkfm_10, hP, hD⟩ : ∃ fm_10 : Nat → Int32, rM fm_10 ∧ ((fm_10 0).toInt = (fm 0).toInt ∧ (fm_10 3).toInt = (fm 3).toInt ∧ (fm_10 4).toInt = (fm 4).toInt) ∧ va_P g.1 vwCl (List.flatten [bMo g o a 0 hi ac 0 (-1) tp at2_2 fl2_3 0 iD iO tU2_4 fm_10 fk fa fc ft ff fb fi]) H ∧ va_D A (List.flatten [bMo g o a 0 hi ac 0 (-1) tp at2_2 fl2_3 0 iD iO tU2_4 fm_10 fk fa fc ft ff fb fi]) := ⟨upd fm 1 q_5, (rM_stL rfm (by decide)), ⟨rfl, rfl, rfl⟩, hP, hD⟩
    refine lv_aload_n hx hb dX12_law_43 rfl (lv_at hl 1 rfl) ?_
    refine va_get (D := g.1) (ci := 10) (v := .ref (a 0)) (C := RX12) (T := TX12) (N := 20) hx hb hts izRX12 hown hK hP 0 rfl rfl 1 (by decide) (hts _ k815) (fun _ h9 => h9) rfl dX12_law_44 ?_
    refine lv_iconst (v := 2) hx hb dX12_law_47 (by decide) ?_
    refine lv_aload_n hx hb dX12_law_48 rfl (lv_at hl 1 rfl) ?_
    refine va_get (D := g.1) (ci := 10) (v := .int tp) (C := RX12) (T := TX12) (N := 20) hx hb hts izRX12 hown hK hP 0 rfl rfl 10 (by decide) (hts _ k879) (fun _ h9 => h9) rfl dX12_law_49 ?_
    refine va_iast hx hb hK hP hD hS 1 0 rfl rfl (zin rfl) dX12_law_52 (fun H locs hP hD hS => ?_)
    obtain ⟨fm_11, rfm_11, hkfm_11, hP, hD⟩ : ∃ fm_11 : Nat → Int32, rM fm_11 ∧ ((fm_11 0).toInt = (fm_10 0).toInt ∧ (fm_11 3).toInt = (fm_10 3).toInt ∧ (fm_11 4).toInt = (fm_10 4).toInt) ∧ va_P g.1 vwCl (List.flatten [bMo g o a 0 hi ac 0 (-1) tp at2_2 fl2_3 0 iD iO tU2_4 fm_11 fk fa fc ft ff fb fi]) H ∧ va_D A (List.flatten [bMo g o a 0 hi ac 0 (-1) tp at2_2 fl2_3 0 iD iO tU2_4 fm_11 fk fa fc ft ff fb fi]) := ⟨upd fm_10 2 tp, (rM_s2 rfm_10 (show 0 ≤ tp.toInt ∧ tp.toInt ≤ 400 from ⟨htp.1, htp.2⟩)), ⟨rfl, rfl, rfl⟩, hP, hD⟩
    refine lv_iconst (v := 0) hx hb dX12_law_53 (by decide) ?_
    refine lv_istore_n (lv' := [(2, .int 0), (1, .int q_5), (0, .ref o)]) hx hb dX12_law_54 rfl hl (by decide) rfl (fun ls hl => ?_)
    have hl := lv_sub (l' := [(0, .ref o), (1, .int q_5), (2, .int 0)]) hl [2, 1, 0] rfl
    have LP55_16 : ∀ (kf : Nat) (x_12 : Int32) (fm_13 : Nat → Int32), (0 ≤ x_12.toInt ∧ x_12.toInt ≤ 400) → (rM fm_13) → ((fm_13 0).toInt = (fm 0).toInt ∧ (fm_13 3).toInt = (fm 3).toInt ∧ (fm_13 4).toInt = (fm 4).toInt) → ∀ (H : Heap) (locs : List Loc) (ls : Array Slot), ((401 - x_12.toInt).toNat) < kf → va_P g.1 vwCl (List.flatten [bMo g o a 0 hi ac 0 (-1) tp at2_2 fl2_3 0 iD iO tU2_4 fm_13 fk fa fc ft ff fb fi]) H → va_D A (List.flatten [bMo g o a 0 hi ac 0 (-1) tp at2_2 fl2_3 0 iD iO tU2_4 fm_13 fk fa fc ft ff fb fi]) → va_S A s.heap H locs → lv_has ls 3 [(0, .ref o), (1, .int q_5), (2, .int x_12)] → W p l e ({ frames := 31, cells := 0, slots := 0, locals := 688 } : Room) s m args below meth c H locs (0) (0) (zF g (fun u : Int32 × Int32 × Int32 × Int32 × (Nat → Int32) × Int32 × Int32 => (fun (th2 : Int32) (at2 : Int32) (fl2 : Int32) (tU2 : Int32) (fm2 : Nat → Int32) (ac2 : Int32) (q : Int32) => some (.int q)) (u.1) (u.2.1) (u.2.2.1) (u.2.2.2.1) (u.2.2.2.2.1) (u.2.2.2.2.2.1) (u.2.2.2.2.2.2)) (fun u : Int32 × Int32 × Int32 × Int32 × (Nat → Int32) × Int32 × Int32 => (fun (th2 : Int32) (at2 : Int32) (fl2 : Int32) (tU2 : Int32) (fm2 : Nat → Int32) (ac2 : Int32) (q : Int32) => ((fm2 0).toInt = (fm 0).toInt ∧ (fm2 3).toInt = (fm 3).toInt ∧ (fm2 4).toInt = (fm 4).toInt) ∧ (0 ≤ ac2.toInt ∧ ac2.toInt ≤ 12) ∧ (rM fm2)) (u.1) (u.2.1) (u.2.2.1) (u.2.2.2.1) (u.2.2.2.2.1) (u.2.2.2.2.2.1) (u.2.2.2.2.2.2)) (fun u : Int32 × Int32 × Int32 × Int32 × (Nat → Int32) × Int32 × Int32 => (fun (th2 : Int32) (at2 : Int32) (fl2 : Int32) (tU2 : Int32) (fm2 : Nat → Int32) (ac2 : Int32) (q : Int32) => [bMo g o a th2 hi ac2 0 (-1) tp at2 fl2 0 iD iO tU2 fm2 fk fa fc ft ff fb fi]) (u.1) (u.2.1) (u.2.2.1) (u.2.2.2.1) (u.2.2.2.2.1) (u.2.2.2.2.2.1) (u.2.2.2.2.2.2)) ({ frames := 31, cells := 0, slots := 0, locals := 688 } : Room) below args s A) (F0 m 55 ls []) := by
      intro kf
      induction kf with
      | zero => intro x_12 fm_13 i14 rfm_13 i15 H locs ls hk; exact absurd hk (Nat.not_lt_zero _)
      | succ kf ih55_17 =>
        intro x_12 fm_13 i14 rfm_13 i15 H locs ls hk55_17 hP hD hS hl
        refine lv_iload_n hx hb dX12_law_55 rfl (lv_at hl 2 rfl) ?_
        refine lv_aload_n hx hb dX12_law_56 rfl (lv_at hl 0 rfl) ?_
        refine va_get (D := g.1) (ci := 10) (v := .int tp) (C := RX12) (T := TX12) (N := 20) hx hb hts izRX12 hown hK hP 0 rfl rfl 10 (by decide) (hts _ k879) (fun _ h9 => h9) rfl dX12_law_57 ?_
        refine lv_icmp_ge (tgt := 85) hx hb dX12_law_60 (by decide) (fun cb9 => ?_) (fun cb9 => ?_)
        · skip
          have c18 : tp.toInt ≤ x_12.toInt := zle cb9 rfl rfl
          refine lv_aload_n hx hb dX12_law_85 rfl (lv_at hl 0 rfl) ?_
          refine lv_iconst (v := 0) hx hb dX12_law_86 (by decide) ?_
          refine va_put (D := g.1) (ci := 10) (v := .int 0) (ty := .int) (C := RX12) (T := TX12) (N := 20) hx hb hts izRX12 tyX12 tyX12_ok nmX12 hown hK hP hD hS 0 rfl rfl 6 (by decide) (hts _ k974) (fun _ h9 => h9) rfl (by decide +kernel) rfl rfl (Nat.le_of_ble_eq_true rfl) dX12_law_87 (fun H locs hP hD hS => ?_)
          have hP : va_P g.1 vwCl (List.flatten [bMo g o a 0 hi 0 0 (-1) tp at2_2 fl2_3 0 iD iO tU2_4 fm_13 fk fa fc ft ff fb fi]) H := hP
          have hD : va_D A (List.flatten [bMo g o a 0 hi 0 0 (-1) tp at2_2 fl2_3 0 iD iO tU2_4 fm_13 fk fa fc ft ff fb fi]) := hD
          refine lv_iload_n hx hb dX12_law_90 rfl (lv_at hl 1 rfl) ?_
          have hP : va_P g.1 vwCl (List.flatten [bMo g o a 0 hi 0 0 (-1) tp at2_2 fl2_3 0 iD iO tU2_4 fm_13 fk fa fc ft ff fb fi]) H := hP
          have hD : va_D A (List.flatten [bMo g o a 0 hi 0 0 (-1) tp at2_2 fl2_3 0 iD iO tU2_4 fm_13 fk fa fc ft ff fb fi]) := hD
          exact mret_i hx hb hr hlocks hS (Nat.le_of_ble_eq_true rfl) (Nat.le_of_ble_eq_true rfl) dX12_law_91 ((0 : Int32), at2_2, fl2_3, tU2_4, fm_13, (0 : Int32), q_5) rfl (show ((fm_13 0).toInt = (fm 0).toInt ∧ (fm_13 3).toInt = (fm 3).toInt ∧ (fm_13 4).toInt = (fm 4).toInt) ∧ (0 ≤ (0 : Int32).toInt ∧ (0 : Int32).toInt ≤ 12) ∧ (rM fm_13) from ⟨i15, (by first | assumption | omega | decide | exact rfl | exact zb01 (by omega) | exact Or.inl (by decide) | exact Or.inr (by first | omega | decide)), rfm_13⟩) hP hD
        · skip
          have c19 : x_12.toInt < tp.toInt := zlti (Int32.not_le.mp cb9) rfl rfl
          have n20 : x_12.toInt ≤ 399 := zL1 (b := 400) c19 htp.2 (by decide)
          have n21 : 1 ≤ tp.toInt := zL2 (a := 0) c19 i14.1 (by decide)
          refine lv_aload_n hx hb dX12_law_63 rfl (lv_at hl 0 rfl) ?_
          refine va_get (D := g.1) (ci := 10) (v := .ref (a 0)) (C := RX12) (T := TX12) (N := 20) hx hb hts izRX12 hown hK hP 0 rfl rfl 1 (by decide) (hts _ k815) (fun _ h9 => h9) rfl dX12_law_64 ?_
          refine lv_sipush (v := 379) hx hb dX12_law_67 (by decide) ?_
          refine lv_iload_n hx hb dX12_law_70 rfl (lv_at hl 2 rfl) ?_
          refine lv_iadd hx hb dX12_law_71 ?_
          refine zg3 (zaddK (i := 379) (j := x_12.toInt) (a' := 379) (b' := 778) (by decide) rfl (Int.le_refl _) (Int.le_refl _) i14.1 n20 (by decide)) (fun x_22 hx_22 => ?_)
          refine lv_aload_n hx hb dX12_law_72 rfl (lv_at hl 0 rfl) ?_
          refine va_get (D := g.1) (ci := 10) (v := .ref (a 4)) (C := RX12) (T := TX12) (N := 20) hx hb hts izRX12 hown hK hP 0 rfl rfl 7 (by decide) (hts _ k819) (fun _ h9 => h9) rfl dX12_law_73 ?_
          refine lv_iload_n hx hb dX12_law_76 rfl (lv_at hl 2 rfl) ?_
          refine va_iald hx hb hK hP 5 0 rfl rfl (zinK (a := 0) (b := 399) i14.1 n20 (by decide)) dX12_law_77 ?_
          refine zg (fun x_23 => ?_)
          refine va_iast hx hb hK hP hD hS 1 0 rfl rfl (zinK (a := 379) (b := 778) hx_22.2.1 hx_22.2.2 (by decide)) dX12_law_78 (fun H locs hP hD hS => ?_)
          obtain ⟨fm_24, rfm_24, hkfm_24, hP, hD⟩ : ∃ fm_24 : Nat → Int32, rM fm_24 ∧ ((fm_24 0).toInt = (fm_13 0).toInt ∧ (fm_24 3).toInt = (fm_13 3).toInt ∧ (fm_24 4).toInt = (fm_13 4).toInt) ∧ va_P g.1 vwCl (List.flatten [bMo g o a 0 hi ac 0 (-1) tp at2_2 fl2_3 0 iD iO tU2_4 fm_24 fk fa fc ft ff fb fi]) H ∧ va_D A (List.flatten [bMo g o a 0 hi ac 0 (-1) tp at2_2 fl2_3 0 iD iO tU2_4 fm_24 fk fa fc ft ff fb fi]) := ⟨upd fm_13 x_22.toNatClampNeg x_23, (rM_stB rfm_13 (Int.le_trans (by decide) hx_22.2.1)), (zkpG (by omega)), hP, hD⟩
          refine ziinc3 (n' := 1) (a' := 1) (b' := 400) (lv' := fun v9 => [(2, .int v9), (0, .ref o), (1, .int q_5)]) hx hb dX12_law_79 hl (k := 2) rfl (by decide) (fun _ => rfl) (zaddK (i := x_12.toInt) (j := 1) rfl (by decide) i14.1 n20 (Int.le_refl _) (Int.le_refl _) (by decide)) (fun x_25 ls hx_25 hl => ?_)
          refine lv_goto (tgt := 55) hx hb dX12_law_82 (by decide) ?_
          have hl := lv_sub (l' := [(0, .ref o), (1, .int q_5), (2, .int x_25)]) hl [1, 2, 0] rfl
          have hP : va_P g.1 vwCl (List.flatten [bMo g o a 0 hi ac 0 (-1) tp at2_2 fl2_3 0 iD iO tU2_4 fm_24 fk fa fc ft ff fb fi]) H := hP
          have hD : va_D A (List.flatten [bMo g o a 0 hi ac 0 (-1) tp at2_2 fl2_3 0 iD iO tU2_4 fm_24 fk fa fc ft ff fb fi]) := hD
          exact ih55_17 x_25 fm_24 ⟨(Int.le_trans (by decide) hx_25.2.1), hx_25.2.2⟩ rfm_24 (by first | omega | assumption | decide) H _ ls (zmK hx_25.1 (by decide) n20 (by decide) hk55_17)  hP hD hS (lv_sub hl [0, 1, 2] rfl)
    have hP : va_P g.1 vwCl (List.flatten [bMo g o a 0 hi ac 0 (-1) tp at2_2 fl2_3 0 iD iO tU2_4 fm_11 fk fa fc ft ff fb fi]) H := hP
    have hD : va_D A (List.flatten [bMo g o a 0 hi ac 0 (-1) tp at2_2 fl2_3 0 iD iO tU2_4 fm_11 fk fa fc ft ff fb fi]) := hD
    exact LP55_16 _ 0 fm_11 (by decide) rfm_11 (by first | omega | assumption | decide) H _ ls (Nat.lt_succ_self _)  hP hD hS (lv_sub hl [0, 1, 2] rfl)
  · skip
    have c26 : ¬ fl2_3.toInt = (-1) := zne cb9 rfl (by decide)
    refine lv_iconst (v := 1) hx hb dX12_law_19 (by decide) ?_
    refine lv_goto (tgt := 24) hx hb dX12_law_20 (by decide) ?_
    refine va_put (D := g.1) (ci := 10) (v := .int 1) (ty := .int) (C := RX12) (T := TX12) (N := 20) hx hb hts izRX12 tyX12 tyX12_ok nmX12 hown hK hP hD hS 0 rfl rfl 0 (by decide) (hts _ k825) (fun _ h9 => h9) rfl (by decide +kernel) rfl rfl (Nat.le_of_ble_eq_true rfl) dX12_law_24 (fun H locs hP hD hS => ?_)
    have hP : va_P g.1 vwCl (List.flatten [bMo g o a 1 hi ac 0 (-1) tp at2_2 fl2_3 0 iD iO tU2_4 fm fk fa fc ft ff fb fi]) H := hP
    have hD : va_D A (List.flatten [bMo g o a 1 hi ac 0 (-1) tp at2_2 fl2_3 0 iD iO tU2_4 fm fk fa fc ft ff fb fi]) := hD
    refine lv_aload_n hx hb dX12_law_27 rfl (lv_at hl 1 rfl) ?_
    refine va_get (D := g.1) (ci := 10) (v := .int 1) (C := RX12) (T := TX12) (N := 20) hx hb hts izRX12 hown hK hP 0 rfl rfl 0 (by decide) (hts _ k825) (fun _ h9 => h9) rfl dX12_law_28 ?_
    refine lv_if_le (tgt := 36) hx hb dX12_law_31 (by decide) (fun c27 => absurd c27 (by decide)) (fun _ => ?_)
    refine lv_iconst (v := 0) hx hb dX12_law_34 (by decide) ?_
    have hP : va_P g.1 vwCl (List.flatten [bMo g o a 1 hi ac 0 (-1) tp at2_2 fl2_3 0 iD iO tU2_4 fm fk fa fc ft ff fb fi]) H := hP
    have hD : va_D A (List.flatten [bMo g o a 1 hi ac 0 (-1) tp at2_2 fl2_3 0 iD iO tU2_4 fm fk fa fc ft ff fb fi]) := hD
    exact mret_i hx hb hr hlocks hS (Nat.le_of_ble_eq_true rfl) (Nat.le_of_ble_eq_true rfl) dX12_law_35 ((1 : Int32), at2_2, fl2_3, tU2_4, fm, ac, (0 : Int32)) rfl (show ((fm 0).toInt = (fm 0).toInt ∧ (fm 3).toInt = (fm 3).toInt ∧ (fm 4).toInt = (fm 4).toInt) ∧ (0 ≤ ac.toInt ∧ ac.toInt ≤ 12) ∧ (rM fm) from ⟨(by first | assumption | omega | decide | exact rfl | exact zb01 (by omega) | exact Or.inl (by decide) | exact Or.inr (by first | omega | decide)), hac, rfm⟩) hP hD
set_option maxRecDepth 100000 in
set_option maxHeartbeats 4000000 in
theorem m_heard (l : Launch) (g : zG) (o : Nat) (a : Nat → Nat) (th : Int32) (hi : Int32) (ac : Int32) (tp : Int32) (ba : Int32) (en : Int32) (tA : Int32) (fl : Int32) (de : Int32) (iD : Int32) (iO : Int32) (tU : Int32) (fm : Nat → Int32) (fk : Nat → Int32) (fa : Nat → Int32) (fc : Nat → Int32) (ft : Nat → Int32) (ff : Nat → Int32) (fb : Nat → Int32) (fi : Nat → Int32) (htp : 0 ≤ tp.toInt ∧ tp.toInt ≤ 400) : zM' g l yX12_heard (Cond.code yX12_heard cX12_heard 5 (some .int) :: zB) ({ frames := 0, cells := 0, slots := 0, locals := 0 } : Room) [.ref o] [bMo g o a th hi ac tp ba en tA fl de iD iO tU fm fk fa fc ft ff fb fi] (fun (q : Int32) => some (.int q)) (fun (q : Int32) => ((-12 ≤ q.toInt ∧ q.toInt ≤ 12) ∨ q.toInt = 100)) (fun (q : Int32) => [bMo g o a th hi ac 0 ba en tA fl de iD iO tU fm fk fa fc ft ff fb fi]) := by
  refine zM'.of (cc := cX12_heard) (maxL := 5) (rt := (some .int)) (by decide) rfl (Nat.le_of_ble_eq_true rfl) ?_
  intro p e s m args below meth c A ls St hr hlocks hin hK hT hA hP hD hS hl
  obtain ⟨hx, hb, hml, hown, hts⟩ := id St
  have hl : lv_has ls 5 [(0, .ref o)] := hl
  refine lv_aload_n hx hb dX12_heard_0 rfl (lv_at hl 0 rfl) ?_
  refine va_get (D := g.1) (ci := 10) (v := .int tp) (C := RX12) (T := TX12) (N := 20) hx hb hts izRX12 hown hK hP 0 rfl rfl 8 (by decide) (hts _ k873) (fun _ h9 => h9) rfl dX12_heard_1 ?_
  refine lv_istore_n (lv' := [(1, .int tp), (0, .ref o)]) hx hb dX12_heard_4 rfl hl (by decide) rfl (fun ls hl => ?_)
  refine lv_aload_n hx hb dX12_heard_5 rfl (lv_at hl 1 rfl) ?_
  refine lv_iconst (v := 0) hx hb dX12_heard_6 (by decide) ?_
  refine va_put (D := g.1) (ci := 10) (v := .int 0) (ty := .int) (C := RX12) (T := TX12) (N := 20) hx hb hts izRX12 tyX12 tyX12_ok nmX12 hown hK hP hD hS 0 rfl rfl 8 (by decide) (hts _ k873) (fun _ h9 => h9) rfl (by decide +kernel) rfl rfl (Nat.le_of_ble_eq_true rfl) dX12_heard_7 (fun H locs hP hD hS => ?_)
  have hP : va_P g.1 vwCl (List.flatten [bMo g o a th hi ac 0 ba en tA fl de iD iO tU fm fk fa fc ft ff fb fi]) H := hP
  have hD : va_D A (List.flatten [bMo g o a th hi ac 0 ba en tA fl de iD iO tU fm fk fa fc ft ff fb fi]) := hD
  refine lv_iconst (v := 0) hx hb dX12_heard_10 (by decide) ?_
  refine lv_istore_n (lv' := [(2, .int 0), (1, .int tp), (0, .ref o)]) hx hb dX12_heard_11 rfl hl (by decide) rfl (fun ls hl => ?_)
  refine lv_iload_n hx hb dX12_heard_12 rfl (lv_at hl 1 rfl) ?_
  refine lv_bipush (v := 12) hx hb dX12_heard_13 (by decide) ?_
  refine lv_icmp_gt (tgt := 22) hx hb dX12_heard_15 (by decide) (fun cb9 => ?_) (fun cb9 => ?_)
  · skip
    have c1 : 12 < tp.toInt := zlti cb9 (by decide) rfl
    have n2 : 13 ≤ tp.toInt := zL2 (a := 12) c1 (Int.le_refl _) (by decide)
    refine lv_iconst (v := 0) hx hb dX12_heard_22 (by decide) ?_
    refine lv_istore_n (lv' := [(3, .int 0), (2, .int 0), (1, .int tp), (0, .ref o)]) hx hb dX12_heard_23 rfl hl (by decide) rfl (fun ls hl => ?_)
    refine lv_iconst (v := 0) hx hb dX12_heard_24 (by decide) ?_
    refine lv_istore (lv' := [(4, .int 0), (3, .int 0), (2, .int 0), (1, .int tp), (0, .ref o)]) hx hb dX12_heard_25 hl (by decide) rfl (fun ls hl => ?_)
    have hl := lv_sub (l' := [(0, .ref o), (1, .int tp), (2, .int 0), (3, .int 0), (4, .int 0)]) hl [4, 3, 2, 1, 0] rfl
    have LP27_12 : ∀ (kf : Nat) (x_3 : Int32) (x_4 : Int32) (x_5 : Int32), ((-400) ≤ x_3.toInt ∧ x_3.toInt ≤ 400) → (0 ≤ x_4.toInt ∧ x_4.toInt ≤ 1) → (0 ≤ x_5.toInt ∧ x_5.toInt ≤ 400) → ((-(x_5.toInt) ≤ x_3.toInt ∧ x_3.toInt ≤ x_5.toInt)) → (x_4.toInt = 0 ∨ tp.toInt ≤ 12) → (x_5.toInt ≤ tp.toInt) → ∀ (H : Heap) (locs : List Loc) (ls : Array Slot), ((401 - x_5.toInt).toNat) < kf → va_P g.1 vwCl (List.flatten [bMo g o a th hi ac 0 ba en tA fl de iD iO tU fm fk fa fc ft ff fb fi]) H → va_D A (List.flatten [bMo g o a th hi ac 0 ba en tA fl de iD iO tU fm fk fa fc ft ff fb fi]) → va_S A s.heap H locs → lv_has ls 5 [(0, .ref o), (1, .int tp), (2, .int x_3), (3, .int x_4), (4, .int x_5)] → W p l e ({ frames := 0, cells := 0, slots := 0, locals := 0 } : Room) s m args below meth c H locs (0) (0) (zF g (fun (q : Int32) => some (.int q)) (fun (q : Int32) => ((-12 ≤ q.toInt ∧ q.toInt ≤ 12) ∨ q.toInt = 100)) (fun (q : Int32) => [bMo g o a th hi ac 0 ba en tA fl de iD iO tU fm fk fa fc ft ff fb fi]) ({ frames := 0, cells := 0, slots := 0, locals := 0 } : Room) below args s A) (F0 m 27 ls []) := by
      intro kf
      induction kf with
      | zero => intro x_3 x_4 x_5 i6 i7 i8 i9 i10 i11 H locs ls hk; exact absurd hk (Nat.not_lt_zero _)
      | succ kf ih27_13 =>
        intro x_3 x_4 x_5 i6 i7 i8 i9 i10 i11 H locs ls hk27_13 hP hD hS hl
        refine lv_iload hx hb dX12_heard_27 (lv_at hl 4 rfl) ?_
        refine lv_iload_n hx hb dX12_heard_29 rfl (lv_at hl 1 rfl) ?_
        refine lv_icmp_ge (tgt := 79) hx hb dX12_heard_30 (by decide) (fun cb9 => ?_) (fun cb9 => ?_)
        · skip
          have c14 : tp.toInt ≤ x_5.toInt := zle cb9 rfl rfl
          have n15 : 13 ≤ x_5.toInt := Int.le_trans n2 c14
          refine lv_iload_n hx hb dX12_heard_79 rfl (lv_at hl 3 rfl) ?_
          refine lv_if_eq (tgt := 87) hx hb dX12_heard_80 (by decide) (fun cb9 => ?_) (fun cb9 => ?_)
          · skip
            have c16 : x_4.toInt = 0 := zeq cb9 rfl (by decide)
            have n17 : x_4.toInt ≤ 0 := Int.le_trans (Int.le_of_eq c16) (Int.le_refl _)
            refine lv_bipush (v := 100) hx hb dX12_heard_87 (by decide) ?_
            have hL100 : (100 : Int32).toInt = 100 := by decide
            have hP : va_P g.1 vwCl (List.flatten [bMo g o a th hi ac 0 ba en tA fl de iD iO tU fm fk fa fc ft ff fb fi]) H := hP
            have hD : va_D A (List.flatten [bMo g o a th hi ac 0 ba en tA fl de iD iO tU fm fk fa fc ft ff fb fi]) := hD
            exact mret_i hx hb hr hlocks hS (Nat.le_of_ble_eq_true rfl) (Nat.le_of_ble_eq_true rfl) dX12_heard_89 ((100 : Int32)) rfl (show ((-12 ≤ (100 : Int32).toInt ∧ (100 : Int32).toInt ≤ 12) ∨ (100 : Int32).toInt = 100) from (by first | assumption | omega | decide | exact rfl | exact zb01 (by omega) | exact Or.inl (by decide) | exact Or.inr (by first | omega | decide))) hP hD
          · skip
            have c18 : ¬ x_4.toInt = 0 := zne cb9 rfl (by decide)
            have n19 : 1 ≤ x_4.toInt := zN1 c18 i7.1 (by decide)
            refine lv_iload_n hx hb dX12_heard_83 rfl (lv_at hl 2 rfl) ?_
            refine lv_goto (tgt := 89) hx hb dX12_heard_84 (by decide) ?_
            have hP : va_P g.1 vwCl (List.flatten [bMo g o a th hi ac 0 ba en tA fl de iD iO tU fm fk fa fc ft ff fb fi]) H := hP
            have hD : va_D A (List.flatten [bMo g o a th hi ac 0 ba en tA fl de iD iO tU fm fk fa fc ft ff fb fi]) := hD
            exact mret_i hx hb hr hlocks hS (Nat.le_of_ble_eq_true rfl) (Nat.le_of_ble_eq_true rfl) dX12_heard_89 (x_3) rfl (show ((-12 ≤ x_3.toInt ∧ x_3.toInt ≤ 12) ∨ x_3.toInt = 100) from (by first | assumption | omega | decide | exact rfl | exact zb01 (by omega) | exact Or.inl (by decide) | exact Or.inr (by first | omega | decide))) hP hD
        · skip
          have c20 : x_5.toInt < tp.toInt := zlti (Int32.not_le.mp cb9) rfl rfl
          have n21 : x_5.toInt ≤ 399 := zL1 (b := 400) c20 htp.2 (by decide)
          refine lv_iload_n hx hb dX12_heard_33 rfl (lv_at hl 3 rfl) ?_
          refine lv_if_eq (tgt := 79) hx hb dX12_heard_34 (by decide) (fun cb9 => ?_) (fun cb9 => ?_)
          · skip
            have c22 : x_4.toInt = 0 := zeq cb9 rfl (by decide)
            have n23 : x_4.toInt ≤ 0 := Int.le_trans (Int.le_of_eq c22) (Int.le_refl _)
            refine lv_iload_n hx hb dX12_heard_79 rfl (lv_at hl 3 rfl) ?_
            refine lv_if_eq (tgt := 87) hx hb dX12_heard_80 (by decide) (fun cb9 => ?_) (fun cb9 => ?_)
            · skip
              have c24 : x_4.toInt = 0 := zeq cb9 rfl (by decide)
              refine lv_bipush (v := 100) hx hb dX12_heard_87 (by decide) ?_
              have hL100 : (100 : Int32).toInt = 100 := by decide
              have hP : va_P g.1 vwCl (List.flatten [bMo g o a th hi ac 0 ba en tA fl de iD iO tU fm fk fa fc ft ff fb fi]) H := hP
              have hD : va_D A (List.flatten [bMo g o a th hi ac 0 ba en tA fl de iD iO tU fm fk fa fc ft ff fb fi]) := hD
              exact mret_i hx hb hr hlocks hS (Nat.le_of_ble_eq_true rfl) (Nat.le_of_ble_eq_true rfl) dX12_heard_89 ((100 : Int32)) rfl (show ((-12 ≤ (100 : Int32).toInt ∧ (100 : Int32).toInt ≤ 12) ∨ (100 : Int32).toInt = 100) from (by first | assumption | omega | decide | exact rfl | exact zb01 (by omega) | exact Or.inl (by decide) | exact Or.inr (by first | omega | decide))) hP hD
            · skip
              exact absurd (show ¬ x_4.toInt = 0 from zne cb9 rfl (by decide)) (by omega)
          · skip
            have c26 : ¬ x_4.toInt = 0 := zne cb9 rfl (by decide)
            have n27 : 1 ≤ x_4.toInt := zN1 c26 i7.1 (by decide)
            refine lv_aload_n hx hb dX12_heard_37 rfl (lv_at hl 0 rfl) ?_
            refine va_get (D := g.1) (ci := 10) (v := .ref (a 4)) (C := RX12) (T := TX12) (N := 20) hx hb hts izRX12 hown hK hP 0 rfl rfl 7 (by decide) (hts _ k819) (fun _ h9 => h9) rfl dX12_heard_38 ?_
            refine lv_iload hx hb dX12_heard_41 (lv_at hl 4 rfl) ?_
            refine va_iald hx hb hK hP 5 0 rfl rfl (zinK (a := 0) (b := 399) i8.1 n21 (by decide)) dX12_heard_43 ?_
            refine zg (fun x_28 => ?_)
            refine lv_iconst (v := 2) hx hb dX12_heard_44 (by decide) ?_
            refine lv_icmp_ge (tgt := 52) hx hb dX12_heard_45 (by decide) (fun cb9 => ?_) (fun cb9 => ?_)
            · skip
              have c29 : 2 ≤ x_28.toInt := zle cb9 (by decide) rfl
              have n30 : 2 ≤ x_28.toInt := Int.le_trans (Int.le_refl _) c29
              refine lv_iconst (v := 0) hx hb dX12_heard_52 (by decide) ?_
              refine lv_istore_n (lv' := [(3, .int 0), (0, .ref o), (1, .int tp), (2, .int x_3), (4, .int x_5)]) hx hb dX12_heard_53 rfl hl (by decide) rfl (fun ls hl => ?_)
              refine lv_iload_n hx hb dX12_heard_54 rfl (lv_at hl 3 rfl) ?_
              refine lv_aload_n hx hb dX12_heard_55 rfl (lv_at hl 1 rfl) ?_
              refine va_get (D := g.1) (ci := 10) (v := .ref (a 4)) (C := RX12) (T := TX12) (N := 20) hx hb hts izRX12 hown hK hP 0 rfl rfl 7 (by decide) (hts _ k819) (fun _ h9 => h9) rfl dX12_heard_56 ?_
              refine lv_iload hx hb dX12_heard_59 (lv_at hl 4 rfl) ?_
              refine va_iald hx hb hK hP 5 0 rfl rfl (zinK (a := 0) (b := 399) i8.1 n21 (by decide)) dX12_heard_61 ?_
              refine zg (fun x_31 => ?_)
              refine lv_iconst (v := 1) hx hb dX12_heard_62 (by decide) ?_
              refine lv_icmp_ne (tgt := 70) hx hb dX12_heard_63 (by decide) (fun cb9 => ?_) (fun cb9 => ?_)
              · skip
                have c32 : ¬ x_31.toInt = 1 := zne cb9 rfl (by decide)
                refine lv_iconst (v := (-1)) hx hb dX12_heard_70 (by decide) ?_
                refine lv_iadd hx hb dX12_heard_71 ?_
                refine zg3 (zaddK (i := x_3.toInt) (j := (-1)) (a' := (-401)) (b' := 399) rfl (by decide) i6.1 i6.2 (Int.le_refl _) (Int.le_refl _) (by decide)) (fun x_33 hx_33 => ?_)
                refine lv_istore_n (lv' := [(2, .int x_33), (3, .int 0), (0, .ref o), (1, .int tp), (4, .int x_5)]) hx hb dX12_heard_72 rfl hl (by decide) rfl (fun ls hl => ?_)
                refine ziinc3 (n' := 1) (a' := 1) (b' := 400) (lv' := fun v9 => [(4, .int v9), (2, .int x_33), (3, .int 0), (0, .ref o), (1, .int tp)]) hx hb dX12_heard_73 hl (k := 4) rfl (by decide) (fun _ => rfl) (zaddK (i := x_5.toInt) (j := 1) rfl (by decide) i8.1 n21 (Int.le_refl _) (Int.le_refl _) (by decide)) (fun x_34 ls hx_34 hl => ?_)
                refine lv_goto (tgt := 27) hx hb dX12_heard_76 (by decide) ?_
                have hl := lv_sub (l' := [(0, .ref o), (1, .int tp), (2, .int x_33), (3, .int 0), (4, .int x_34)]) hl [3, 4, 1, 2, 0] rfl
                have hL0 : (0 : Int32).toInt = 0 := by decide
                have hP : va_P g.1 vwCl (List.flatten [bMo g o a th hi ac 0 ba en tA fl de iD iO tU fm fk fa fc ft ff fb fi]) H := hP
                have hD : va_D A (List.flatten [bMo g o a th hi ac 0 ba en tA fl de iD iO tU fm fk fa fc ft ff fb fi]) := hD
                exact ih27_13 x_33 0 x_34 (by first | omega | assumption | decide) (by decide) ⟨(Int.le_trans (by decide) hx_34.2.1), hx_34.2.2⟩ (by first | omega | assumption | decide) (by first | omega | assumption | decide) (by first | omega | assumption | decide) H _ ls (zmK hx_34.1 (by decide) n21 (by decide) hk27_13)  hP hD hS (lv_sub hl [0, 1, 2, 3, 4] rfl)
              · skip
                have c35 : x_31.toInt = 1 := zeq cb9 rfl (by decide)
                have n36 : 1 ≤ x_31.toInt := Int.le_trans (Int.le_refl _) (Int.le_of_eq c35.symm)
                have n37 : x_31.toInt ≤ 1 := Int.le_trans (Int.le_of_eq c35) (Int.le_refl _)
                refine lv_iconst (v := 1) hx hb dX12_heard_66 (by decide) ?_
                refine lv_goto (tgt := 71) hx hb dX12_heard_67 (by decide) ?_
                refine lv_iadd hx hb dX12_heard_71 ?_
                refine zg3 (zaddK (i := x_3.toInt) (j := 1) (a' := (-399)) (b' := 401) rfl (by decide) i6.1 i6.2 (Int.le_refl _) (Int.le_refl _) (by decide)) (fun x_38 hx_38 => ?_)
                refine lv_istore_n (lv' := [(2, .int x_38), (3, .int 0), (0, .ref o), (1, .int tp), (4, .int x_5)]) hx hb dX12_heard_72 rfl hl (by decide) rfl (fun ls hl => ?_)
                refine ziinc3 (n' := 1) (a' := 1) (b' := 400) (lv' := fun v9 => [(4, .int v9), (2, .int x_38), (3, .int 0), (0, .ref o), (1, .int tp)]) hx hb dX12_heard_73 hl (k := 4) rfl (by decide) (fun _ => rfl) (zaddK (i := x_5.toInt) (j := 1) rfl (by decide) i8.1 n21 (Int.le_refl _) (Int.le_refl _) (by decide)) (fun x_39 ls hx_39 hl => ?_)
                refine lv_goto (tgt := 27) hx hb dX12_heard_76 (by decide) ?_
                have hl := lv_sub (l' := [(0, .ref o), (1, .int tp), (2, .int x_38), (3, .int 0), (4, .int x_39)]) hl [3, 4, 1, 2, 0] rfl
                have hL0 : (0 : Int32).toInt = 0 := by decide
                have hP : va_P g.1 vwCl (List.flatten [bMo g o a th hi ac 0 ba en tA fl de iD iO tU fm fk fa fc ft ff fb fi]) H := hP
                have hD : va_D A (List.flatten [bMo g o a th hi ac 0 ba en tA fl de iD iO tU fm fk fa fc ft ff fb fi]) := hD
                exact ih27_13 x_38 0 x_39 (by first | omega | assumption | decide) (by decide) ⟨(Int.le_trans (by decide) hx_39.2.1), hx_39.2.2⟩ (by first | omega | assumption | decide) (by first | omega | assumption | decide) (by first | omega | assumption | decide) H _ ls (zmK hx_39.1 (by decide) n21 (by decide) hk27_13)  hP hD hS (lv_sub hl [0, 1, 2, 3, 4] rfl)
            · skip
              have c40 : x_28.toInt < 2 := zlti (Int32.not_le.mp cb9) rfl (by decide)
              have n41 : x_28.toInt ≤ 1 := zL1 (b := 2) c40 (Int.le_refl _) (by decide)
              refine lv_iconst (v := 1) hx hb dX12_heard_48 (by decide) ?_
              refine lv_goto (tgt := 53) hx hb dX12_heard_49 (by decide) ?_
              refine lv_istore_n (lv' := [(3, .int 1), (0, .ref o), (1, .int tp), (2, .int x_3), (4, .int x_5)]) hx hb dX12_heard_53 rfl hl (by decide) rfl (fun ls hl => ?_)
              refine lv_iload_n hx hb dX12_heard_54 rfl (lv_at hl 3 rfl) ?_
              refine lv_aload_n hx hb dX12_heard_55 rfl (lv_at hl 1 rfl) ?_
              refine va_get (D := g.1) (ci := 10) (v := .ref (a 4)) (C := RX12) (T := TX12) (N := 20) hx hb hts izRX12 hown hK hP 0 rfl rfl 7 (by decide) (hts _ k819) (fun _ h9 => h9) rfl dX12_heard_56 ?_
              refine lv_iload hx hb dX12_heard_59 (lv_at hl 4 rfl) ?_
              refine va_iald hx hb hK hP 5 0 rfl rfl (zinK (a := 0) (b := 399) i8.1 n21 (by decide)) dX12_heard_61 ?_
              refine zg (fun x_42 => ?_)
              refine lv_iconst (v := 1) hx hb dX12_heard_62 (by decide) ?_
              refine lv_icmp_ne (tgt := 70) hx hb dX12_heard_63 (by decide) (fun cb9 => ?_) (fun cb9 => ?_)
              · skip
                have c43 : ¬ x_42.toInt = 1 := zne cb9 rfl (by decide)
                refine lv_iconst (v := (-1)) hx hb dX12_heard_70 (by decide) ?_
                refine lv_iadd hx hb dX12_heard_71 ?_
                refine zg3 (zaddK (i := x_3.toInt) (j := (-1)) (a' := (-401)) (b' := 399) rfl (by decide) i6.1 i6.2 (Int.le_refl _) (Int.le_refl _) (by decide)) (fun x_44 hx_44 => ?_)
                refine lv_istore_n (lv' := [(2, .int x_44), (3, .int 1), (0, .ref o), (1, .int tp), (4, .int x_5)]) hx hb dX12_heard_72 rfl hl (by decide) rfl (fun ls hl => ?_)
                refine ziinc3 (n' := 1) (a' := 1) (b' := 400) (lv' := fun v9 => [(4, .int v9), (2, .int x_44), (3, .int 1), (0, .ref o), (1, .int tp)]) hx hb dX12_heard_73 hl (k := 4) rfl (by decide) (fun _ => rfl) (zaddK (i := x_5.toInt) (j := 1) rfl (by decide) i8.1 n21 (Int.le_refl _) (Int.le_refl _) (by decide)) (fun x_45 ls hx_45 hl => ?_)
                refine lv_goto (tgt := 27) hx hb dX12_heard_76 (by decide) ?_
                have hl := lv_sub (l' := [(0, .ref o), (1, .int tp), (2, .int x_44), (3, .int 1), (4, .int x_45)]) hl [3, 4, 1, 2, 0] rfl
                have hL1 : (1 : Int32).toInt = 1 := by decide
                have hP : va_P g.1 vwCl (List.flatten [bMo g o a th hi ac 0 ba en tA fl de iD iO tU fm fk fa fc ft ff fb fi]) H := hP
                have hD : va_D A (List.flatten [bMo g o a th hi ac 0 ba en tA fl de iD iO tU fm fk fa fc ft ff fb fi]) := hD
                exact ih27_13 x_44 1 x_45 (by first | omega | assumption | decide) (by decide) ⟨(Int.le_trans (by decide) hx_45.2.1), hx_45.2.2⟩ (by first | omega | assumption | decide) (by first | omega | assumption | decide) (by first | omega | assumption | decide) H _ ls (zmK hx_45.1 (by decide) n21 (by decide) hk27_13)  hP hD hS (lv_sub hl [0, 1, 2, 3, 4] rfl)
              · skip
                have c46 : x_42.toInt = 1 := zeq cb9 rfl (by decide)
                have n47 : 1 ≤ x_42.toInt := Int.le_trans (Int.le_refl _) (Int.le_of_eq c46.symm)
                have n48 : x_42.toInt ≤ 1 := Int.le_trans (Int.le_of_eq c46) (Int.le_refl _)
                refine lv_iconst (v := 1) hx hb dX12_heard_66 (by decide) ?_
                refine lv_goto (tgt := 71) hx hb dX12_heard_67 (by decide) ?_
                refine lv_iadd hx hb dX12_heard_71 ?_
                refine zg3 (zaddK (i := x_3.toInt) (j := 1) (a' := (-399)) (b' := 401) rfl (by decide) i6.1 i6.2 (Int.le_refl _) (Int.le_refl _) (by decide)) (fun x_49 hx_49 => ?_)
                refine lv_istore_n (lv' := [(2, .int x_49), (3, .int 1), (0, .ref o), (1, .int tp), (4, .int x_5)]) hx hb dX12_heard_72 rfl hl (by decide) rfl (fun ls hl => ?_)
                refine ziinc3 (n' := 1) (a' := 1) (b' := 400) (lv' := fun v9 => [(4, .int v9), (2, .int x_49), (3, .int 1), (0, .ref o), (1, .int tp)]) hx hb dX12_heard_73 hl (k := 4) rfl (by decide) (fun _ => rfl) (zaddK (i := x_5.toInt) (j := 1) rfl (by decide) i8.1 n21 (Int.le_refl _) (Int.le_refl _) (by decide)) (fun x_50 ls hx_50 hl => ?_)
                refine lv_goto (tgt := 27) hx hb dX12_heard_76 (by decide) ?_
                have hl := lv_sub (l' := [(0, .ref o), (1, .int tp), (2, .int x_49), (3, .int 1), (4, .int x_50)]) hl [3, 4, 1, 2, 0] rfl
                have hL1 : (1 : Int32).toInt = 1 := by decide
                have hP : va_P g.1 vwCl (List.flatten [bMo g o a th hi ac 0 ba en tA fl de iD iO tU fm fk fa fc ft ff fb fi]) H := hP
                have hD : va_D A (List.flatten [bMo g o a th hi ac 0 ba en tA fl de iD iO tU fm fk fa fc ft ff fb fi]) := hD
                exact ih27_13 x_49 1 x_50 (by first | omega | assumption | decide) (by decide) ⟨(Int.le_trans (by decide) hx_50.2.1), hx_50.2.2⟩ (by first | omega | assumption | decide) (by first | omega | assumption | decide) (by first | omega | assumption | decide) H _ ls (zmK hx_50.1 (by decide) n21 (by decide) hk27_13)  hP hD hS (lv_sub hl [0, 1, 2, 3, 4] rfl)
    have hL0 : (0 : Int32).toInt = 0 := by decide
    have hP : va_P g.1 vwCl (List.flatten [bMo g o a th hi ac 0 ba en tA fl de iD iO tU fm fk fa fc ft ff fb fi]) H := hP
    have hD : va_D A (List.flatten [bMo g o a th hi ac 0 ba en tA fl de iD iO tU fm fk fa fc ft ff fb fi]) := hD
    exact LP27_12 _ 0 0 0 (by decide) (by decide) (by decide) (by first | omega | assumption | decide) (by first | omega | assumption | decide) (by first | omega | assumption | decide) H _ ls (Nat.lt_succ_self _)  hP hD hS (lv_sub hl [0, 1, 2, 3, 4] rfl)
  · skip
    have c51 : tp.toInt ≤ 12 := zle (Int32.not_lt.mp cb9) rfl (by decide)
    have n52 : tp.toInt ≤ 12 := Int.le_trans c51 (Int.le_refl _)
    refine lv_iconst (v := 1) hx hb dX12_heard_18 (by decide) ?_
    refine lv_goto (tgt := 23) hx hb dX12_heard_19 (by decide) ?_
    refine lv_istore_n (lv' := [(3, .int 1), (2, .int 0), (1, .int tp), (0, .ref o)]) hx hb dX12_heard_23 rfl hl (by decide) rfl (fun ls hl => ?_)
    refine lv_iconst (v := 0) hx hb dX12_heard_24 (by decide) ?_
    refine lv_istore (lv' := [(4, .int 0), (3, .int 1), (2, .int 0), (1, .int tp), (0, .ref o)]) hx hb dX12_heard_25 hl (by decide) rfl (fun ls hl => ?_)
    have hl := lv_sub (l' := [(0, .ref o), (1, .int tp), (2, .int 0), (3, .int 1), (4, .int 0)]) hl [4, 3, 2, 1, 0] rfl
    have LP27_62 : ∀ (kf : Nat) (x_53 : Int32) (x_54 : Int32) (x_55 : Int32), ((-400) ≤ x_53.toInt ∧ x_53.toInt ≤ 400) → (0 ≤ x_54.toInt ∧ x_54.toInt ≤ 1) → (0 ≤ x_55.toInt ∧ x_55.toInt ≤ 400) → ((-(x_55.toInt) ≤ x_53.toInt ∧ x_53.toInt ≤ x_55.toInt)) → (x_54.toInt = 0 ∨ tp.toInt ≤ 12) → (x_55.toInt ≤ tp.toInt) → ∀ (H : Heap) (locs : List Loc) (ls : Array Slot), ((401 - x_55.toInt).toNat) < kf → va_P g.1 vwCl (List.flatten [bMo g o a th hi ac 0 ba en tA fl de iD iO tU fm fk fa fc ft ff fb fi]) H → va_D A (List.flatten [bMo g o a th hi ac 0 ba en tA fl de iD iO tU fm fk fa fc ft ff fb fi]) → va_S A s.heap H locs → lv_has ls 5 [(0, .ref o), (1, .int tp), (2, .int x_53), (3, .int x_54), (4, .int x_55)] → W p l e ({ frames := 0, cells := 0, slots := 0, locals := 0 } : Room) s m args below meth c H locs (0) (0) (zF g (fun (q : Int32) => some (.int q)) (fun (q : Int32) => ((-12 ≤ q.toInt ∧ q.toInt ≤ 12) ∨ q.toInt = 100)) (fun (q : Int32) => [bMo g o a th hi ac 0 ba en tA fl de iD iO tU fm fk fa fc ft ff fb fi]) ({ frames := 0, cells := 0, slots := 0, locals := 0 } : Room) below args s A) (F0 m 27 ls []) := by
      intro kf
      induction kf with
      | zero => intro x_53 x_54 x_55 i56 i57 i58 i59 i60 i61 H locs ls hk; exact absurd hk (Nat.not_lt_zero _)
      | succ kf ih27_63 =>
        intro x_53 x_54 x_55 i56 i57 i58 i59 i60 i61 H locs ls hk27_63 hP hD hS hl
        refine lv_iload hx hb dX12_heard_27 (lv_at hl 4 rfl) ?_
        refine lv_iload_n hx hb dX12_heard_29 rfl (lv_at hl 1 rfl) ?_
        refine lv_icmp_ge (tgt := 79) hx hb dX12_heard_30 (by decide) (fun cb9 => ?_) (fun cb9 => ?_)
        · skip
          have c64 : tp.toInt ≤ x_55.toInt := zle cb9 rfl rfl
          refine lv_iload_n hx hb dX12_heard_79 rfl (lv_at hl 3 rfl) ?_
          refine lv_if_eq (tgt := 87) hx hb dX12_heard_80 (by decide) (fun cb9 => ?_) (fun cb9 => ?_)
          · skip
            have c65 : x_54.toInt = 0 := zeq cb9 rfl (by decide)
            have n66 : x_54.toInt ≤ 0 := Int.le_trans (Int.le_of_eq c65) (Int.le_refl _)
            refine lv_bipush (v := 100) hx hb dX12_heard_87 (by decide) ?_
            have hL100 : (100 : Int32).toInt = 100 := by decide
            have hP : va_P g.1 vwCl (List.flatten [bMo g o a th hi ac 0 ba en tA fl de iD iO tU fm fk fa fc ft ff fb fi]) H := hP
            have hD : va_D A (List.flatten [bMo g o a th hi ac 0 ba en tA fl de iD iO tU fm fk fa fc ft ff fb fi]) := hD
            exact mret_i hx hb hr hlocks hS (Nat.le_of_ble_eq_true rfl) (Nat.le_of_ble_eq_true rfl) dX12_heard_89 ((100 : Int32)) rfl (show ((-12 ≤ (100 : Int32).toInt ∧ (100 : Int32).toInt ≤ 12) ∨ (100 : Int32).toInt = 100) from (by first | assumption | omega | decide | exact rfl | exact zb01 (by omega) | exact Or.inl (by decide) | exact Or.inr (by first | omega | decide))) hP hD
          · skip
            have c67 : ¬ x_54.toInt = 0 := zne cb9 rfl (by decide)
            have n68 : 1 ≤ x_54.toInt := zN1 c67 i57.1 (by decide)
            refine lv_iload_n hx hb dX12_heard_83 rfl (lv_at hl 2 rfl) ?_
            refine lv_goto (tgt := 89) hx hb dX12_heard_84 (by decide) ?_
            have hP : va_P g.1 vwCl (List.flatten [bMo g o a th hi ac 0 ba en tA fl de iD iO tU fm fk fa fc ft ff fb fi]) H := hP
            have hD : va_D A (List.flatten [bMo g o a th hi ac 0 ba en tA fl de iD iO tU fm fk fa fc ft ff fb fi]) := hD
            exact mret_i hx hb hr hlocks hS (Nat.le_of_ble_eq_true rfl) (Nat.le_of_ble_eq_true rfl) dX12_heard_89 (x_53) rfl (show ((-12 ≤ x_53.toInt ∧ x_53.toInt ≤ 12) ∨ x_53.toInt = 100) from (by first | assumption | omega | decide | exact rfl | exact zb01 (by omega) | exact Or.inl (by decide) | exact Or.inr (by first | omega | decide))) hP hD
        · skip
          have c69 : x_55.toInt < tp.toInt := zlti (Int32.not_le.mp cb9) rfl rfl
          have n70 : x_55.toInt ≤ 11 := zL1 (b := 12) c69 n52 (by decide)
          have n71 : 1 ≤ tp.toInt := zL2 (a := 0) c69 i58.1 (by decide)
          refine lv_iload_n hx hb dX12_heard_33 rfl (lv_at hl 3 rfl) ?_
          refine lv_if_eq (tgt := 79) hx hb dX12_heard_34 (by decide) (fun cb9 => ?_) (fun cb9 => ?_)
          · skip
            have c72 : x_54.toInt = 0 := zeq cb9 rfl (by decide)
            have n73 : x_54.toInt ≤ 0 := Int.le_trans (Int.le_of_eq c72) (Int.le_refl _)
            refine lv_iload_n hx hb dX12_heard_79 rfl (lv_at hl 3 rfl) ?_
            refine lv_if_eq (tgt := 87) hx hb dX12_heard_80 (by decide) (fun cb9 => ?_) (fun cb9 => ?_)
            · skip
              have c74 : x_54.toInt = 0 := zeq cb9 rfl (by decide)
              refine lv_bipush (v := 100) hx hb dX12_heard_87 (by decide) ?_
              have hL100 : (100 : Int32).toInt = 100 := by decide
              have hP : va_P g.1 vwCl (List.flatten [bMo g o a th hi ac 0 ba en tA fl de iD iO tU fm fk fa fc ft ff fb fi]) H := hP
              have hD : va_D A (List.flatten [bMo g o a th hi ac 0 ba en tA fl de iD iO tU fm fk fa fc ft ff fb fi]) := hD
              exact mret_i hx hb hr hlocks hS (Nat.le_of_ble_eq_true rfl) (Nat.le_of_ble_eq_true rfl) dX12_heard_89 ((100 : Int32)) rfl (show ((-12 ≤ (100 : Int32).toInt ∧ (100 : Int32).toInt ≤ 12) ∨ (100 : Int32).toInt = 100) from (by first | assumption | omega | decide | exact rfl | exact zb01 (by omega) | exact Or.inl (by decide) | exact Or.inr (by first | omega | decide))) hP hD
            · skip
              exact absurd (show ¬ x_54.toInt = 0 from zne cb9 rfl (by decide)) (by omega)
          · skip
            have c76 : ¬ x_54.toInt = 0 := zne cb9 rfl (by decide)
            have n77 : 1 ≤ x_54.toInt := zN1 c76 i57.1 (by decide)
            refine lv_aload_n hx hb dX12_heard_37 rfl (lv_at hl 0 rfl) ?_
            refine va_get (D := g.1) (ci := 10) (v := .ref (a 4)) (C := RX12) (T := TX12) (N := 20) hx hb hts izRX12 hown hK hP 0 rfl rfl 7 (by decide) (hts _ k819) (fun _ h9 => h9) rfl dX12_heard_38 ?_
            refine lv_iload hx hb dX12_heard_41 (lv_at hl 4 rfl) ?_
            refine va_iald hx hb hK hP 5 0 rfl rfl (zinK (a := 0) (b := 11) i58.1 n70 (by decide)) dX12_heard_43 ?_
            refine zg (fun x_78 => ?_)
            refine lv_iconst (v := 2) hx hb dX12_heard_44 (by decide) ?_
            refine lv_icmp_ge (tgt := 52) hx hb dX12_heard_45 (by decide) (fun cb9 => ?_) (fun cb9 => ?_)
            · skip
              have c79 : 2 ≤ x_78.toInt := zle cb9 (by decide) rfl
              have n80 : 2 ≤ x_78.toInt := Int.le_trans (Int.le_refl _) c79
              refine lv_iconst (v := 0) hx hb dX12_heard_52 (by decide) ?_
              refine lv_istore_n (lv' := [(3, .int 0), (0, .ref o), (1, .int tp), (2, .int x_53), (4, .int x_55)]) hx hb dX12_heard_53 rfl hl (by decide) rfl (fun ls hl => ?_)
              refine lv_iload_n hx hb dX12_heard_54 rfl (lv_at hl 3 rfl) ?_
              refine lv_aload_n hx hb dX12_heard_55 rfl (lv_at hl 1 rfl) ?_
              refine va_get (D := g.1) (ci := 10) (v := .ref (a 4)) (C := RX12) (T := TX12) (N := 20) hx hb hts izRX12 hown hK hP 0 rfl rfl 7 (by decide) (hts _ k819) (fun _ h9 => h9) rfl dX12_heard_56 ?_
              refine lv_iload hx hb dX12_heard_59 (lv_at hl 4 rfl) ?_
              refine va_iald hx hb hK hP 5 0 rfl rfl (zinK (a := 0) (b := 11) i58.1 n70 (by decide)) dX12_heard_61 ?_
              refine zg (fun x_81 => ?_)
              refine lv_iconst (v := 1) hx hb dX12_heard_62 (by decide) ?_
              refine lv_icmp_ne (tgt := 70) hx hb dX12_heard_63 (by decide) (fun cb9 => ?_) (fun cb9 => ?_)
              · skip
                have c82 : ¬ x_81.toInt = 1 := zne cb9 rfl (by decide)
                refine lv_iconst (v := (-1)) hx hb dX12_heard_70 (by decide) ?_
                refine lv_iadd hx hb dX12_heard_71 ?_
                refine zg3 (zaddK (i := x_53.toInt) (j := (-1)) (a' := (-401)) (b' := 399) rfl (by decide) i56.1 i56.2 (Int.le_refl _) (Int.le_refl _) (by decide)) (fun x_83 hx_83 => ?_)
                refine lv_istore_n (lv' := [(2, .int x_83), (3, .int 0), (0, .ref o), (1, .int tp), (4, .int x_55)]) hx hb dX12_heard_72 rfl hl (by decide) rfl (fun ls hl => ?_)
                refine ziinc3 (n' := 1) (a' := 1) (b' := 12) (lv' := fun v9 => [(4, .int v9), (2, .int x_83), (3, .int 0), (0, .ref o), (1, .int tp)]) hx hb dX12_heard_73 hl (k := 4) rfl (by decide) (fun _ => rfl) (zaddK (i := x_55.toInt) (j := 1) rfl (by decide) i58.1 n70 (Int.le_refl _) (Int.le_refl _) (by decide)) (fun x_84 ls hx_84 hl => ?_)
                refine lv_goto (tgt := 27) hx hb dX12_heard_76 (by decide) ?_
                have hl := lv_sub (l' := [(0, .ref o), (1, .int tp), (2, .int x_83), (3, .int 0), (4, .int x_84)]) hl [3, 4, 1, 2, 0] rfl
                have hL0 : (0 : Int32).toInt = 0 := by decide
                have hP : va_P g.1 vwCl (List.flatten [bMo g o a th hi ac 0 ba en tA fl de iD iO tU fm fk fa fc ft ff fb fi]) H := hP
                have hD : va_D A (List.flatten [bMo g o a th hi ac 0 ba en tA fl de iD iO tU fm fk fa fc ft ff fb fi]) := hD
                exact ih27_63 x_83 0 x_84 (by first | omega | assumption | decide) (by decide) ⟨(Int.le_trans (by decide) hx_84.2.1), (Int.le_trans hx_84.2.2 (by decide))⟩ (by first | omega | assumption | decide) (by first | omega | assumption | decide) (by first | omega | assumption | decide) H _ ls (zmK hx_84.1 (by decide) n70 (by decide) hk27_63)  hP hD hS (lv_sub hl [0, 1, 2, 3, 4] rfl)
              · skip
                have c85 : x_81.toInt = 1 := zeq cb9 rfl (by decide)
                have n86 : 1 ≤ x_81.toInt := Int.le_trans (Int.le_refl _) (Int.le_of_eq c85.symm)
                have n87 : x_81.toInt ≤ 1 := Int.le_trans (Int.le_of_eq c85) (Int.le_refl _)
                refine lv_iconst (v := 1) hx hb dX12_heard_66 (by decide) ?_
                refine lv_goto (tgt := 71) hx hb dX12_heard_67 (by decide) ?_
                refine lv_iadd hx hb dX12_heard_71 ?_
                refine zg3 (zaddK (i := x_53.toInt) (j := 1) (a' := (-399)) (b' := 401) rfl (by decide) i56.1 i56.2 (Int.le_refl _) (Int.le_refl _) (by decide)) (fun x_88 hx_88 => ?_)
                refine lv_istore_n (lv' := [(2, .int x_88), (3, .int 0), (0, .ref o), (1, .int tp), (4, .int x_55)]) hx hb dX12_heard_72 rfl hl (by decide) rfl (fun ls hl => ?_)
                refine ziinc3 (n' := 1) (a' := 1) (b' := 12) (lv' := fun v9 => [(4, .int v9), (2, .int x_88), (3, .int 0), (0, .ref o), (1, .int tp)]) hx hb dX12_heard_73 hl (k := 4) rfl (by decide) (fun _ => rfl) (zaddK (i := x_55.toInt) (j := 1) rfl (by decide) i58.1 n70 (Int.le_refl _) (Int.le_refl _) (by decide)) (fun x_89 ls hx_89 hl => ?_)
                refine lv_goto (tgt := 27) hx hb dX12_heard_76 (by decide) ?_
                have hl := lv_sub (l' := [(0, .ref o), (1, .int tp), (2, .int x_88), (3, .int 0), (4, .int x_89)]) hl [3, 4, 1, 2, 0] rfl
                have hL0 : (0 : Int32).toInt = 0 := by decide
                have hP : va_P g.1 vwCl (List.flatten [bMo g o a th hi ac 0 ba en tA fl de iD iO tU fm fk fa fc ft ff fb fi]) H := hP
                have hD : va_D A (List.flatten [bMo g o a th hi ac 0 ba en tA fl de iD iO tU fm fk fa fc ft ff fb fi]) := hD
                exact ih27_63 x_88 0 x_89 (by first | omega | assumption | decide) (by decide) ⟨(Int.le_trans (by decide) hx_89.2.1), (Int.le_trans hx_89.2.2 (by decide))⟩ (by first | omega | assumption | decide) (by first | omega | assumption | decide) (by first | omega | assumption | decide) H _ ls (zmK hx_89.1 (by decide) n70 (by decide) hk27_63)  hP hD hS (lv_sub hl [0, 1, 2, 3, 4] rfl)
            · skip
              have c90 : x_78.toInt < 2 := zlti (Int32.not_le.mp cb9) rfl (by decide)
              have n91 : x_78.toInt ≤ 1 := zL1 (b := 2) c90 (Int.le_refl _) (by decide)
              refine lv_iconst (v := 1) hx hb dX12_heard_48 (by decide) ?_
              refine lv_goto (tgt := 53) hx hb dX12_heard_49 (by decide) ?_
              refine lv_istore_n (lv' := [(3, .int 1), (0, .ref o), (1, .int tp), (2, .int x_53), (4, .int x_55)]) hx hb dX12_heard_53 rfl hl (by decide) rfl (fun ls hl => ?_)
              refine lv_iload_n hx hb dX12_heard_54 rfl (lv_at hl 3 rfl) ?_
              refine lv_aload_n hx hb dX12_heard_55 rfl (lv_at hl 1 rfl) ?_
              refine va_get (D := g.1) (ci := 10) (v := .ref (a 4)) (C := RX12) (T := TX12) (N := 20) hx hb hts izRX12 hown hK hP 0 rfl rfl 7 (by decide) (hts _ k819) (fun _ h9 => h9) rfl dX12_heard_56 ?_
              refine lv_iload hx hb dX12_heard_59 (lv_at hl 4 rfl) ?_
              refine va_iald hx hb hK hP 5 0 rfl rfl (zinK (a := 0) (b := 11) i58.1 n70 (by decide)) dX12_heard_61 ?_
              refine zg (fun x_92 => ?_)
              refine lv_iconst (v := 1) hx hb dX12_heard_62 (by decide) ?_
              refine lv_icmp_ne (tgt := 70) hx hb dX12_heard_63 (by decide) (fun cb9 => ?_) (fun cb9 => ?_)
              · skip
                have c93 : ¬ x_92.toInt = 1 := zne cb9 rfl (by decide)
                refine lv_iconst (v := (-1)) hx hb dX12_heard_70 (by decide) ?_
                refine lv_iadd hx hb dX12_heard_71 ?_
                refine zg3 (zaddK (i := x_53.toInt) (j := (-1)) (a' := (-401)) (b' := 399) rfl (by decide) i56.1 i56.2 (Int.le_refl _) (Int.le_refl _) (by decide)) (fun x_94 hx_94 => ?_)
                refine lv_istore_n (lv' := [(2, .int x_94), (3, .int 1), (0, .ref o), (1, .int tp), (4, .int x_55)]) hx hb dX12_heard_72 rfl hl (by decide) rfl (fun ls hl => ?_)
                refine ziinc3 (n' := 1) (a' := 1) (b' := 12) (lv' := fun v9 => [(4, .int v9), (2, .int x_94), (3, .int 1), (0, .ref o), (1, .int tp)]) hx hb dX12_heard_73 hl (k := 4) rfl (by decide) (fun _ => rfl) (zaddK (i := x_55.toInt) (j := 1) rfl (by decide) i58.1 n70 (Int.le_refl _) (Int.le_refl _) (by decide)) (fun x_95 ls hx_95 hl => ?_)
                refine lv_goto (tgt := 27) hx hb dX12_heard_76 (by decide) ?_
                have hl := lv_sub (l' := [(0, .ref o), (1, .int tp), (2, .int x_94), (3, .int 1), (4, .int x_95)]) hl [3, 4, 1, 2, 0] rfl
                have hL1 : (1 : Int32).toInt = 1 := by decide
                have hP : va_P g.1 vwCl (List.flatten [bMo g o a th hi ac 0 ba en tA fl de iD iO tU fm fk fa fc ft ff fb fi]) H := hP
                have hD : va_D A (List.flatten [bMo g o a th hi ac 0 ba en tA fl de iD iO tU fm fk fa fc ft ff fb fi]) := hD
                exact ih27_63 x_94 1 x_95 (by first | omega | assumption | decide) (by decide) ⟨(Int.le_trans (by decide) hx_95.2.1), (Int.le_trans hx_95.2.2 (by decide))⟩ (by first | omega | assumption | decide) (by first | omega | assumption | decide) (by first | omega | assumption | decide) H _ ls (zmK hx_95.1 (by decide) n70 (by decide) hk27_63)  hP hD hS (lv_sub hl [0, 1, 2, 3, 4] rfl)
              · skip
                have c96 : x_92.toInt = 1 := zeq cb9 rfl (by decide)
                have n97 : 1 ≤ x_92.toInt := Int.le_trans (Int.le_refl _) (Int.le_of_eq c96.symm)
                have n98 : x_92.toInt ≤ 1 := Int.le_trans (Int.le_of_eq c96) (Int.le_refl _)
                refine lv_iconst (v := 1) hx hb dX12_heard_66 (by decide) ?_
                refine lv_goto (tgt := 71) hx hb dX12_heard_67 (by decide) ?_
                refine lv_iadd hx hb dX12_heard_71 ?_
                refine zg3 (zaddK (i := x_53.toInt) (j := 1) (a' := (-399)) (b' := 401) rfl (by decide) i56.1 i56.2 (Int.le_refl _) (Int.le_refl _) (by decide)) (fun x_99 hx_99 => ?_)
                refine lv_istore_n (lv' := [(2, .int x_99), (3, .int 1), (0, .ref o), (1, .int tp), (4, .int x_55)]) hx hb dX12_heard_72 rfl hl (by decide) rfl (fun ls hl => ?_)
                refine ziinc3 (n' := 1) (a' := 1) (b' := 12) (lv' := fun v9 => [(4, .int v9), (2, .int x_99), (3, .int 1), (0, .ref o), (1, .int tp)]) hx hb dX12_heard_73 hl (k := 4) rfl (by decide) (fun _ => rfl) (zaddK (i := x_55.toInt) (j := 1) rfl (by decide) i58.1 n70 (Int.le_refl _) (Int.le_refl _) (by decide)) (fun x_100 ls hx_100 hl => ?_)
                refine lv_goto (tgt := 27) hx hb dX12_heard_76 (by decide) ?_
                have hl := lv_sub (l' := [(0, .ref o), (1, .int tp), (2, .int x_99), (3, .int 1), (4, .int x_100)]) hl [3, 4, 1, 2, 0] rfl
                have hL1 : (1 : Int32).toInt = 1 := by decide
                have hP : va_P g.1 vwCl (List.flatten [bMo g o a th hi ac 0 ba en tA fl de iD iO tU fm fk fa fc ft ff fb fi]) H := hP
                have hD : va_D A (List.flatten [bMo g o a th hi ac 0 ba en tA fl de iD iO tU fm fk fa fc ft ff fb fi]) := hD
                exact ih27_63 x_99 1 x_100 (by first | omega | assumption | decide) (by decide) ⟨(Int.le_trans (by decide) hx_100.2.1), (Int.le_trans hx_100.2.2 (by decide))⟩ (by first | omega | assumption | decide) (by first | omega | assumption | decide) (by first | omega | assumption | decide) H _ ls (zmK hx_100.1 (by decide) n70 (by decide) hk27_63)  hP hD hS (lv_sub hl [0, 1, 2, 3, 4] rfl)
    have hL0 : (0 : Int32).toInt = 0 := by decide
    have hL1 : (1 : Int32).toInt = 1 := by decide
    have hP : va_P g.1 vwCl (List.flatten [bMo g o a th hi ac 0 ba en tA fl de iD iO tU fm fk fa fc ft ff fb fi]) H := hP
    have hD : va_D A (List.flatten [bMo g o a th hi ac 0 ba en tA fl de iD iO tU fm fk fa fc ft ff fb fi]) := hD
    exact LP27_62 _ 0 1 0 (by decide) (by decide) (by decide) (by first | omega | assumption | decide) (by first | omega | assumption | decide) (by first | omega | assumption | decide) H _ ls (Nat.lt_succ_self _)  hP hD hS (lv_sub hl [0, 1, 2, 3, 4] rfl)
set_option maxRecDepth 100000 in
set_option maxHeartbeats 4000000 in
theorem m_told (l : Launch) (g : zG) (o : Nat) (a : Nat → Nat) (th : Int32) (hi : Int32) (ac : Int32) (tp : Int32) (ba : Int32) (en : Int32) (tA : Int32) (fl : Int32) (de : Int32) (iD : Int32) (iO : Int32) (tU : Int32) (fm : Nat → Int32) (fk : Nat → Int32) (fa : Nat → Int32) (fc : Nat → Int32) (ft : Nat → Int32) (ff : Nat → Int32) (fb : Nat → Int32) (fi : Nat → Int32) (rfm : rM fm) (htp : 0 ≤ tp.toInt ∧ tp.toInt ≤ 400) : zM' g l yX12_told (Cond.code yX12_told cX12_told 6 (some .int) :: zB) ({ frames := 2, cells := 0, slots := 0, locals := 43 } : Room) [.ref o] [bMo g o a th hi ac tp ba en tA fl de iD iO tU fm fk fa fc ft ff fb fi] (fun u : (Nat → Int32) × Int32 => (fun (fi2 : Nat → Int32) (q : Int32) => some (.int q)) (u.1) (u.2)) (fun u : (Nat → Int32) × Int32 => (fun (fi2 : Nat → Int32) (q : Int32) => True) (u.1) (u.2)) (fun u : (Nat → Int32) × Int32 => (fun (fi2 : Nat → Int32) (q : Int32) => [bMo g o a th hi ac 0 ba en tA fl de iD iO tU fm fk fa fc ft ff fb fi2]) (u.1) (u.2)) := by
  refine zM'.of (cc := cX12_told) (maxL := 6) (rt := (some .int)) (by decide) rfl (Nat.le_of_ble_eq_true rfl) ?_
  intro p e s m args below meth c A ls St hr hlocks hin hK hT hA hP hD hS hl
  obtain ⟨hx, hb, hml, hown, hts⟩ := id St
  have hl : lv_has ls 6 [(0, .ref o)] := hl
  refine lv_aload_n hx hb dX12_told_0 rfl (lv_at hl 0 rfl) ?_
  refine va_get (D := g.1) (ci := 10) (v := .int tp) (C := RX12) (T := TX12) (N := 20) hx hb hts izRX12 hown hK hP 0 rfl rfl 8 (by decide) (hts _ k873) (fun _ h9 => h9) rfl dX12_told_1 ?_
  refine lv_istore_n (lv' := [(1, .int tp), (0, .ref o)]) hx hb dX12_told_4 rfl hl (by decide) rfl (fun ls hl => ?_)
  refine lv_aload_n hx hb dX12_told_5 rfl (lv_at hl 1 rfl) ?_
  refine lv_iconst (v := 0) hx hb dX12_told_6 (by decide) ?_
  refine va_put (D := g.1) (ci := 10) (v := .int 0) (ty := .int) (C := RX12) (T := TX12) (N := 20) hx hb hts izRX12 tyX12 tyX12_ok nmX12 hown hK hP hD hS 0 rfl rfl 8 (by decide) (hts _ k873) (fun _ h9 => h9) rfl (by decide +kernel) rfl rfl (Nat.le_of_ble_eq_true rfl) dX12_told_7 (fun H locs hP hD hS => ?_)
  have hP : va_P g.1 vwCl (List.flatten [bMo g o a th hi ac 0 ba en tA fl de iD iO tU fm fk fa fc ft ff fb fi]) H := hP
  have hD : va_D A (List.flatten [bMo g o a th hi ac 0 ba en tA fl de iD iO tU fm fk fa fc ft ff fb fi]) := hD
  refine lv_iload_n hx hb dX12_told_10 rfl (lv_at hl 0 rfl) ?_
  refine lv_iconst (v := 3) hx hb dX12_told_11 (by decide) ?_
  refine lv_irem hx hb dX12_told_12 (by decide) ?_
  refine zgb (zrem (j := tp.toInt) (d := 3) rfl (by decide) htp.1 (by decide)) (fun x_1 hx_1 => ?_)
  refine lv_if_ne (tgt := 26) hx hb dX12_told_13 (by decide) (fun cb9 => ?_) (fun cb9 => ?_)
  · skip
    have c2 : ¬ x_1.toInt = 0 := zne cb9 rfl (by decide)
    have n3 : 1 ≤ x_1.toInt := zN1 c2 hx_1.1 (by decide)
    refine lv_iconst (v := 0) hx hb dX12_told_26 (by decide) ?_
    refine lv_istore_n (lv' := [(2, .int 0), (1, .int tp), (0, .ref o)]) hx hb dX12_told_27 rfl hl (by decide) rfl (fun ls hl => ?_)
    refine lv_iconst (v := 0) hx hb dX12_told_28 (by decide) ?_
    refine lv_istore_n (lv' := [(3, .int 0), (2, .int 0), (1, .int tp), (0, .ref o)]) hx hb dX12_told_29 rfl hl (by decide) rfl (fun ls hl => ?_)
    have hl := lv_sub (l' := [(0, .ref o), (1, .int tp), (2, .int 0), (3, .int 0)]) hl [3, 2, 1, 0] rfl
    have LP30_9 : ∀ (kf : Nat) (x_4 : Int32) (x_5 : Int32), (0 ≤ x_4.toInt ∧ x_4.toInt ≤ 1) → (0 ≤ x_5.toInt ∧ x_5.toInt ≤ 402) → (x_4.toInt = 0 ∨ tp.toInt ≤ 36) → ∀ (H : Heap) (locs : List Loc) (ls : Array Slot), ((403 - x_5.toInt).toNat) < kf → va_P g.1 vwCl (List.flatten [bMo g o a th hi ac 0 ba en tA fl de iD iO tU fm fk fa fc ft ff fb fi]) H → va_D A (List.flatten [bMo g o a th hi ac 0 ba en tA fl de iD iO tU fm fk fa fc ft ff fb fi]) → va_S A s.heap H locs → lv_has ls 6 [(0, .ref o), (1, .int tp), (2, .int x_4), (3, .int x_5)] → W p l e ({ frames := 2, cells := 0, slots := 0, locals := 43 } : Room) s m args below meth c H locs (0) (0) (zF g (fun u : (Nat → Int32) × Int32 => (fun (fi2 : Nat → Int32) (q : Int32) => some (.int q)) (u.1) (u.2)) (fun u : (Nat → Int32) × Int32 => (fun (fi2 : Nat → Int32) (q : Int32) => True) (u.1) (u.2)) (fun u : (Nat → Int32) × Int32 => (fun (fi2 : Nat → Int32) (q : Int32) => [bMo g o a th hi ac 0 ba en tA fl de iD iO tU fm fk fa fc ft ff fb fi2]) (u.1) (u.2)) ({ frames := 2, cells := 0, slots := 0, locals := 43 } : Room) below args s A) (F0 m 30 ls []) := by
      intro kf
      induction kf with
      | zero => intro x_4 x_5 i6 i7 i8 H locs ls hk; exact absurd hk (Nat.not_lt_zero _)
      | succ kf ih30_10 =>
        intro x_4 x_5 i6 i7 i8 H locs ls hk30_10 hP hD hS hl
        refine lv_iload_n hx hb dX12_told_30 rfl (lv_at hl 3 rfl) ?_
        refine lv_iload_n hx hb dX12_told_31 rfl (lv_at hl 1 rfl) ?_
        refine lv_icmp_ge (tgt := 112) hx hb dX12_told_32 (by decide) (fun cb9 => ?_) (fun cb9 => ?_)
        · skip
          have c11 : tp.toInt ≤ x_5.toInt := zle cb9 rfl rfl
          refine lv_iload_n hx hb dX12_told_112 rfl (lv_at hl 2 rfl) ?_
          refine lv_if_ne (tgt := 118) hx hb dX12_told_113 (by decide) (fun cb9 => ?_) (fun cb9 => ?_)
          · skip
            have c12 : ¬ x_4.toInt = 0 := zne cb9 rfl (by decide)
            have n13 : 1 ≤ x_4.toInt := zN1 c12 i6.1 (by decide)
            refine lv_iconst (v := 0) hx hb dX12_told_118 (by decide) ?_
            refine lv_istore_n (lv' := [(3, .int 0), (0, .ref o), (1, .int tp), (2, .int x_4)]) hx hb dX12_told_119 rfl hl (by decide) rfl (fun ls hl => ?_)
            refine lv_iconst (v := 0) hx hb dX12_told_120 (by decide) ?_
            refine lv_istore (lv' := [(4, .int 0), (3, .int 0), (0, .ref o), (1, .int tp), (2, .int x_4)]) hx hb dX12_told_121 hl (by decide) rfl (fun ls hl => ?_)
            have hl := lv_sub (l' := [(0, .ref o), (1, .int tp), (2, .int x_4), (3, .int 0), (4, .int 0)]) hl [2, 3, 4, 1, 0] rfl
            have LP123_18 : ∀ (kf : Nat) (x_14 : Int32) (x_15 : Int32) (fi_16 : Nat → Int32), (0 ≤ x_15.toInt ∧ x_15.toInt ≤ 256) → ∀ (H : Heap) (locs : List Loc) (ls : Array Slot), ((257 - x_15.toInt).toNat) < kf → va_P g.1 vwCl (List.flatten [bMo g o a th hi ac 0 ba en tA fl de iD iO tU fm fk fa fc ft ff fb fi_16]) H → va_D A (List.flatten [bMo g o a th hi ac 0 ba en tA fl de iD iO tU fm fk fa fc ft ff fb fi_16]) → va_S A s.heap H locs → lv_has ls 6 [(0, .ref o), (1, .int tp), (2, .int x_4), (3, .int x_14), (4, .int x_15)] → W p l e ({ frames := 2, cells := 0, slots := 0, locals := 43 } : Room) s m args below meth c H locs (0) (0) (zF g (fun u : (Nat → Int32) × Int32 => (fun (fi2 : Nat → Int32) (q : Int32) => some (.int q)) (u.1) (u.2)) (fun u : (Nat → Int32) × Int32 => (fun (fi2 : Nat → Int32) (q : Int32) => True) (u.1) (u.2)) (fun u : (Nat → Int32) × Int32 => (fun (fi2 : Nat → Int32) (q : Int32) => [bMo g o a th hi ac 0 ba en tA fl de iD iO tU fm fk fa fc ft ff fb fi2]) (u.1) (u.2)) ({ frames := 2, cells := 0, slots := 0, locals := 43 } : Room) below args s A) (F0 m 123 ls []) := by
              intro kf
              induction kf with
              | zero => intro x_14 x_15 fi_16 i17 H locs ls hk; exact absurd hk (Nat.not_lt_zero _)
              | succ kf ih123_19 =>
                intro x_14 x_15 fi_16 i17 H locs ls hk123_19 hP hD hS hl
                refine lv_iload hx hb dX12_told_123 (lv_at hl 4 rfl) ?_
                refine lv_iconst (v := 1) hx hb dX12_told_125 (by decide) ?_
                refine lv_aload_n hx hb dX12_told_126 rfl (lv_at hl 0 rfl) ?_
                refine va_get (D := g.1) (ci := 10) (v := .ref (a 0)) (C := RX12) (T := TX12) (N := 20) hx hb hts izRX12 hown hK hP 0 rfl rfl 1 (by decide) (hts _ k815) (fun _ h9 => h9) rfl dX12_told_127 ?_
                refine lv_iconst (v := 3) hx hb dX12_told_130 (by decide) ?_
                refine va_iald hx hb hK hP 1 0 rfl rfl (zin rfl) dX12_told_131 ?_
                refine zgq (r := fm 3) rfl (rM3 rfm) (fun x_20 hx_20 => ?_)
                refine lv_ishl hx hb dX12_told_132 ?_
                refine zgb (zshl1 (j := x_20.toInt) rfl 8 256 (by decide) (by decide) ⟨hx_20.1, hx_20.2.1⟩) (fun x_21 hx_21 => ?_)
                refine lv_icmp_ge (tgt := 247) hx hb dX12_told_133 (by decide) (fun cb9 => ?_) (fun cb9 => ?_)
                · skip
                  have c22 : x_21.toInt ≤ x_15.toInt := zle cb9 rfl rfl
                  have n23 : 1 ≤ x_15.toInt := Int.le_trans hx_21.1 c22
                  refine lv_iload_n hx hb dX12_told_247 rfl (lv_at hl 3 rfl) ?_
                  have hP : va_P g.1 vwCl (List.flatten [bMo g o a th hi ac 0 ba en tA fl de iD iO tU fm fk fa fc ft ff fb fi_16]) H := hP
                  have hD : va_D A (List.flatten [bMo g o a th hi ac 0 ba en tA fl de iD iO tU fm fk fa fc ft ff fb fi_16]) := hD
                  exact mret_i hx hb hr hlocks hS (Nat.le_of_ble_eq_true rfl) (Nat.le_of_ble_eq_true rfl) dX12_told_248 (fi_16, x_14) rfl trivial hP hD
                · skip
                  have c24 : x_15.toInt < x_21.toInt := zlti (Int32.not_le.mp cb9) rfl rfl
                  have n25 : x_15.toInt ≤ 255 := zL1 (b := 256) c24 hx_21.2 (by decide)
                  refine lv_aload_n hx hb dX12_told_136 rfl (lv_at hl 0 rfl) ?_
                  refine va_get (D := g.1) (ci := 10) (v := .ref (a 7)) (C := RX12) (T := TX12) (N := 20) hx hb hts izRX12 hown hK hP 0 rfl rfl 19 (by decide) (hts _ k823) (fun _ h9 => h9) rfl dX12_told_137 ?_
                  refine lv_iload hx hb dX12_told_140 (lv_at hl 4 rfl) ?_
                  refine lv_iconst (v := 1) hx hb dX12_told_142 (by decide) ?_
                  refine va_zast hx hb hK hP hD hS 8 1 rfl rfl (zinK (a := 0) (b := 255) i17.1 n25 (by decide)) dX12_told_143 (fun H locs hP hD hS => ?_)
                  obtain ⟨fi_26, hP, hD⟩ : ∃ fi_26 : Nat → Int32, va_P g.1 vwCl (List.flatten [bMo g o a th hi ac 0 ba en tA fl de iD iO tU fm fk fa fc ft ff fb fi_26]) H ∧ va_D A (List.flatten [bMo g o a th hi ac 0 ba en tA fl de iD iO tU fm fk fa fc ft ff fb fi_26]) := ⟨upd fi_16 x_15.toNatClampNeg (vp_nar .boolean 1), hP, hD⟩
                  refine lv_iconst (v := 0) hx hb dX12_told_144 (by decide) ?_
                  refine lv_istore (lv' := [(5, .int 0), (0, .ref o), (1, .int tp), (2, .int x_4), (3, .int x_14), (4, .int x_15)]) hx hb dX12_told_145 hl (by decide) rfl (fun ls hl => ?_)
                  have hl := lv_sub (l' := [(0, .ref o), (1, .int tp), (2, .int x_4), (3, .int x_14), (4, .int x_15), (5, .int 0)]) hl [1, 2, 3, 4, 5, 0] rfl
                  have LP147_30 : ∀ (kf : Nat) (x_27 : Int32) (fi_28 : Nat → Int32), (0 ≤ x_27.toInt ∧ x_27.toInt ≤ 402) → ∀ (H : Heap) (locs : List Loc) (ls : Array Slot), ((403 - x_27.toInt).toNat) < kf → va_P g.1 vwCl (List.flatten [bMo g o a th hi ac 0 ba en tA fl de iD iO tU fm fk fa fc ft ff fb fi_28]) H → va_D A (List.flatten [bMo g o a th hi ac 0 ba en tA fl de iD iO tU fm fk fa fc ft ff fb fi_28]) → va_S A s.heap H locs → lv_has ls 6 [(0, .ref o), (1, .int tp), (2, .int x_4), (3, .int x_14), (4, .int x_15), (5, .int x_27)] → W p l e ({ frames := 2, cells := 0, slots := 0, locals := 43 } : Room) s m args below meth c H locs (0) (0) (zF g (fun u : (Nat → Int32) × Int32 => (fun (fi2 : Nat → Int32) (q : Int32) => some (.int q)) (u.1) (u.2)) (fun u : (Nat → Int32) × Int32 => (fun (fi2 : Nat → Int32) (q : Int32) => True) (u.1) (u.2)) (fun u : (Nat → Int32) × Int32 => (fun (fi2 : Nat → Int32) (q : Int32) => [bMo g o a th hi ac 0 ba en tA fl de iD iO tU fm fk fa fc ft ff fb fi2]) (u.1) (u.2)) ({ frames := 2, cells := 0, slots := 0, locals := 43 } : Room) below args s A) (F0 m 147 ls []) := by
                    intro kf
                    induction kf with
                    | zero => intro x_27 fi_28 i29 H locs ls hk; exact absurd hk (Nat.not_lt_zero _)
                    | succ kf ih147_31 =>
                      intro x_27 fi_28 i29 H locs ls hk147_31 hP hD hS hl
                      refine lv_iload hx hb dX12_told_147 (lv_at hl 5 rfl) ?_
                      refine lv_iload_n hx hb dX12_told_149 rfl (lv_at hl 1 rfl) ?_
                      refine lv_icmp_ge (tgt := 223) hx hb dX12_told_150 (by decide) (fun cb9 => ?_) (fun cb9 => ?_)
                      · skip
                        have c32 : tp.toInt ≤ x_27.toInt := zle cb9 rfl rfl
                        refine lv_iload_n hx hb dX12_told_223 rfl (lv_at hl 3 rfl) ?_
                        refine lv_aload_n hx hb dX12_told_224 rfl (lv_at hl 0 rfl) ?_
                        refine va_get (D := g.1) (ci := 10) (v := .ref (a 7)) (C := RX12) (T := TX12) (N := 20) hx hb hts izRX12 hown hK hP 0 rfl rfl 19 (by decide) (hts _ k823) (fun _ h9 => h9) rfl dX12_told_225 ?_
                        refine lv_iload hx hb dX12_told_228 (lv_at hl 4 rfl) ?_
                        refine va_zald hx hb hK hP 8 1 rfl rfl (zinK (a := 0) (b := 255) i17.1 n25 (by decide)) dX12_told_230 ?_
                        refine zg (fun x_33 => ?_)
                        refine lv_if_eq (tgt := 238) hx hb dX12_told_231 (by decide) (fun cb9 => ?_) (fun cb9 => ?_)
                        · skip
                          have c34 : x_33.toInt = 0 := zeq cb9 rfl (by decide)
                          have n35 : 0 ≤ x_33.toInt := Int.le_trans (Int.le_refl _) (Int.le_of_eq c34.symm)
                          have n36 : x_33.toInt ≤ 0 := Int.le_trans (Int.le_of_eq c34) (Int.le_refl _)
                          refine lv_iconst (v := 0) hx hb dX12_told_238 (by decide) ?_
                          refine lv_iadd hx hb dX12_told_239 ?_
                          refine zg (fun x_37 => ?_)
                          refine lv_istore_n (lv' := [(3, .int x_37), (0, .ref o), (1, .int tp), (2, .int x_4), (4, .int x_15), (5, .int x_27)]) hx hb dX12_told_240 rfl hl (by decide) rfl (fun ls hl => ?_)
                          refine ziinc3 (n' := 1) (a' := 1) (b' := 256) (lv' := fun v9 => [(4, .int v9), (3, .int x_37), (0, .ref o), (1, .int tp), (2, .int x_4), (5, .int x_27)]) hx hb dX12_told_241 hl (k := 4) rfl (by decide) (fun _ => rfl) (zaddK (i := x_15.toInt) (j := 1) rfl (by decide) i17.1 n25 (Int.le_refl _) (Int.le_refl _) (by decide)) (fun x_38 ls hx_38 hl => ?_)
                          refine lv_goto (tgt := 123) hx hb dX12_told_244 (by decide) ?_
                          have hl := lv_sub (l' := [(0, .ref o), (1, .int tp), (2, .int x_4), (3, .int x_37), (4, .int x_38), (5, .int x_27)]) hl [2, 3, 4, 1, 0, 5] rfl
                          have hP : va_P g.1 vwCl (List.flatten [bMo g o a th hi ac 0 ba en tA fl de iD iO tU fm fk fa fc ft ff fb fi_28]) H := hP
                          have hD : va_D A (List.flatten [bMo g o a th hi ac 0 ba en tA fl de iD iO tU fm fk fa fc ft ff fb fi_28]) := hD
                          exact ih123_19 x_37 x_38 fi_28 ⟨(Int.le_trans (by decide) hx_38.2.1), hx_38.2.2⟩ H _ ls (zmK hx_38.1 (by decide) n25 (by decide) hk123_19)  hP hD hS (lv_sub hl [0, 1, 2, 3, 4] rfl)
                        · skip
                          have c39 : ¬ x_33.toInt = 0 := zne cb9 rfl (by decide)
                          refine lv_iconst (v := 1) hx hb dX12_told_234 (by decide) ?_
                          refine lv_goto (tgt := 239) hx hb dX12_told_235 (by decide) ?_
                          refine lv_iadd hx hb dX12_told_239 ?_
                          refine zg (fun x_40 => ?_)
                          refine lv_istore_n (lv' := [(3, .int x_40), (0, .ref o), (1, .int tp), (2, .int x_4), (4, .int x_15), (5, .int x_27)]) hx hb dX12_told_240 rfl hl (by decide) rfl (fun ls hl => ?_)
                          refine ziinc3 (n' := 1) (a' := 1) (b' := 256) (lv' := fun v9 => [(4, .int v9), (3, .int x_40), (0, .ref o), (1, .int tp), (2, .int x_4), (5, .int x_27)]) hx hb dX12_told_241 hl (k := 4) rfl (by decide) (fun _ => rfl) (zaddK (i := x_15.toInt) (j := 1) rfl (by decide) i17.1 n25 (Int.le_refl _) (Int.le_refl _) (by decide)) (fun x_41 ls hx_41 hl => ?_)
                          refine lv_goto (tgt := 123) hx hb dX12_told_244 (by decide) ?_
                          have hl := lv_sub (l' := [(0, .ref o), (1, .int tp), (2, .int x_4), (3, .int x_40), (4, .int x_41), (5, .int x_27)]) hl [2, 3, 4, 1, 0, 5] rfl
                          have hP : va_P g.1 vwCl (List.flatten [bMo g o a th hi ac 0 ba en tA fl de iD iO tU fm fk fa fc ft ff fb fi_28]) H := hP
                          have hD : va_D A (List.flatten [bMo g o a th hi ac 0 ba en tA fl de iD iO tU fm fk fa fc ft ff fb fi_28]) := hD
                          exact ih123_19 x_40 x_41 fi_28 ⟨(Int.le_trans (by decide) hx_41.2.1), hx_41.2.2⟩ H _ ls (zmK hx_41.1 (by decide) n25 (by decide) hk123_19)  hP hD hS (lv_sub hl [0, 1, 2, 3, 4] rfl)
                      · skip
                        have c42 : x_27.toInt < tp.toInt := zlti (Int32.not_le.mp cb9) rfl rfl
                        have n43 : x_27.toInt ≤ 399 := zL1 (b := 400) c42 htp.2 (by decide)
                        have n44 : 1 ≤ tp.toInt := zL2 (a := 0) c42 i29.1 (by decide)
                        refine lv_aload_n hx hb dX12_told_153 rfl (lv_at hl 0 rfl) ?_
                        refine va_get (D := g.1) (ci := 10) (v := .ref (a 7)) (C := RX12) (T := TX12) (N := 20) hx hb hts izRX12 hown hK hP 0 rfl rfl 19 (by decide) (hts _ k823) (fun _ h9 => h9) rfl dX12_told_154 ?_
                        refine lv_iload hx hb dX12_told_157 (lv_at hl 4 rfl) ?_
                        refine va_zald hx hb hK hP 8 1 rfl rfl (zinK (a := 0) (b := 255) i17.1 n25 (by decide)) dX12_told_159 ?_
                        refine zg (fun x_45 => ?_)
                        refine lv_if_eq (tgt := 223) hx hb dX12_told_160 (by decide) (fun cb9 => ?_) (fun cb9 => ?_)
                        · skip
                          have c46 : x_45.toInt = 0 := zeq cb9 rfl (by decide)
                          have n47 : 0 ≤ x_45.toInt := Int.le_trans (Int.le_refl _) (Int.le_of_eq c46.symm)
                          have n48 : x_45.toInt ≤ 0 := Int.le_trans (Int.le_of_eq c46) (Int.le_refl _)
                          refine lv_iload_n hx hb dX12_told_223 rfl (lv_at hl 3 rfl) ?_
                          refine lv_aload_n hx hb dX12_told_224 rfl (lv_at hl 0 rfl) ?_
                          refine va_get (D := g.1) (ci := 10) (v := .ref (a 7)) (C := RX12) (T := TX12) (N := 20) hx hb hts izRX12 hown hK hP 0 rfl rfl 19 (by decide) (hts _ k823) (fun _ h9 => h9) rfl dX12_told_225 ?_
                          refine lv_iload hx hb dX12_told_228 (lv_at hl 4 rfl) ?_
                          refine va_zald hx hb hK hP 8 1 rfl rfl (zinK (a := 0) (b := 255) i17.1 n25 (by decide)) dX12_told_230 ?_
                          refine zg (fun x_49 => ?_)
                          refine lv_if_eq (tgt := 238) hx hb dX12_told_231 (by decide) (fun cb9 => ?_) (fun cb9 => ?_)
                          · skip
                            have c50 : x_49.toInt = 0 := zeq cb9 rfl (by decide)
                            have n51 : 0 ≤ x_49.toInt := Int.le_trans (Int.le_refl _) (Int.le_of_eq c50.symm)
                            have n52 : x_49.toInt ≤ 0 := Int.le_trans (Int.le_of_eq c50) (Int.le_refl _)
                            refine lv_iconst (v := 0) hx hb dX12_told_238 (by decide) ?_
                            refine lv_iadd hx hb dX12_told_239 ?_
                            refine zg (fun x_53 => ?_)
                            refine lv_istore_n (lv' := [(3, .int x_53), (0, .ref o), (1, .int tp), (2, .int x_4), (4, .int x_15), (5, .int x_27)]) hx hb dX12_told_240 rfl hl (by decide) rfl (fun ls hl => ?_)
                            refine ziinc3 (n' := 1) (a' := 1) (b' := 256) (lv' := fun v9 => [(4, .int v9), (3, .int x_53), (0, .ref o), (1, .int tp), (2, .int x_4), (5, .int x_27)]) hx hb dX12_told_241 hl (k := 4) rfl (by decide) (fun _ => rfl) (zaddK (i := x_15.toInt) (j := 1) rfl (by decide) i17.1 n25 (Int.le_refl _) (Int.le_refl _) (by decide)) (fun x_54 ls hx_54 hl => ?_)
                            refine lv_goto (tgt := 123) hx hb dX12_told_244 (by decide) ?_
                            have hl := lv_sub (l' := [(0, .ref o), (1, .int tp), (2, .int x_4), (3, .int x_53), (4, .int x_54), (5, .int x_27)]) hl [2, 3, 4, 1, 0, 5] rfl
                            have hP : va_P g.1 vwCl (List.flatten [bMo g o a th hi ac 0 ba en tA fl de iD iO tU fm fk fa fc ft ff fb fi_28]) H := hP
                            have hD : va_D A (List.flatten [bMo g o a th hi ac 0 ba en tA fl de iD iO tU fm fk fa fc ft ff fb fi_28]) := hD
                            exact ih123_19 x_53 x_54 fi_28 ⟨(Int.le_trans (by decide) hx_54.2.1), hx_54.2.2⟩ H _ ls (zmK hx_54.1 (by decide) n25 (by decide) hk123_19)  hP hD hS (lv_sub hl [0, 1, 2, 3, 4] rfl)
                          · skip
                            have c55 : ¬ x_49.toInt = 0 := zne cb9 rfl (by decide)
                            refine lv_iconst (v := 1) hx hb dX12_told_234 (by decide) ?_
                            refine lv_goto (tgt := 239) hx hb dX12_told_235 (by decide) ?_
                            refine lv_iadd hx hb dX12_told_239 ?_
                            refine zg (fun x_56 => ?_)
                            refine lv_istore_n (lv' := [(3, .int x_56), (0, .ref o), (1, .int tp), (2, .int x_4), (4, .int x_15), (5, .int x_27)]) hx hb dX12_told_240 rfl hl (by decide) rfl (fun ls hl => ?_)
                            refine ziinc3 (n' := 1) (a' := 1) (b' := 256) (lv' := fun v9 => [(4, .int v9), (3, .int x_56), (0, .ref o), (1, .int tp), (2, .int x_4), (5, .int x_27)]) hx hb dX12_told_241 hl (k := 4) rfl (by decide) (fun _ => rfl) (zaddK (i := x_15.toInt) (j := 1) rfl (by decide) i17.1 n25 (Int.le_refl _) (Int.le_refl _) (by decide)) (fun x_57 ls hx_57 hl => ?_)
                            refine lv_goto (tgt := 123) hx hb dX12_told_244 (by decide) ?_
                            have hl := lv_sub (l' := [(0, .ref o), (1, .int tp), (2, .int x_4), (3, .int x_56), (4, .int x_57), (5, .int x_27)]) hl [2, 3, 4, 1, 0, 5] rfl
                            have hP : va_P g.1 vwCl (List.flatten [bMo g o a th hi ac 0 ba en tA fl de iD iO tU fm fk fa fc ft ff fb fi_28]) H := hP
                            have hD : va_D A (List.flatten [bMo g o a th hi ac 0 ba en tA fl de iD iO tU fm fk fa fc ft ff fb fi_28]) := hD
                            exact ih123_19 x_56 x_57 fi_28 ⟨(Int.le_trans (by decide) hx_57.2.1), hx_57.2.2⟩ H _ ls (zmK hx_57.1 (by decide) n25 (by decide) hk123_19)  hP hD hS (lv_sub hl [0, 1, 2, 3, 4] rfl)
                        · skip
                          have c58 : ¬ x_45.toInt = 0 := zne cb9 rfl (by decide)
                          refine lv_aload_n hx hb dX12_told_163 rfl (lv_at hl 0 rfl) ?_
                          refine va_get (D := g.1) (ci := 10) (v := .ref (a 7)) (C := RX12) (T := TX12) (N := 20) hx hb hts izRX12 hown hK hP 0 rfl rfl 19 (by decide) (hts _ k823) (fun _ h9 => h9) rfl dX12_told_164 ?_
                          refine lv_iload hx hb dX12_told_167 (lv_at hl 4 rfl) ?_
                          refine lv_iload hx hb dX12_told_169 (lv_at hl 4 rfl) ?_
                          refine lv_aload_n hx hb dX12_told_171 rfl (lv_at hl 0 rfl) ?_
                          refine va_get (D := g.1) (ci := 10) (v := .ref (a 4)) (C := RX12) (T := TX12) (N := 20) hx hb hts izRX12 hown hK hP 0 rfl rfl 7 (by decide) (hts _ k819) (fun _ h9 => h9) rfl dX12_told_172 ?_
                          refine lv_iload hx hb dX12_told_175 (lv_at hl 5 rfl) ?_
                          refine va_iald hx hb hK hP 5 0 rfl rfl (zinK (a := 0) (b := 399) i29.1 n43 (by decide)) dX12_told_177 ?_
                          refine zg (fun x_59 => ?_)
                          refine lv_aload_n hx hb dX12_told_178 rfl (lv_at hl 0 rfl) ?_
                          refine va_get (D := g.1) (ci := 10) (v := .ref (a 4)) (C := RX12) (T := TX12) (N := 20) hx hb hts izRX12 hown hK hP 0 rfl rfl 7 (by decide) (hts _ k819) (fun _ h9 => h9) rfl dX12_told_179 ?_
                          refine lv_iload hx hb dX12_told_182 (lv_at hl 5 rfl) ?_
                          refine lv_iconst (v := 1) hx hb dX12_told_184 (by decide) ?_
                          refine lv_iadd hx hb dX12_told_185 ?_
                          refine zg3 (zaddK (i := x_27.toInt) (j := 1) (a' := 1) (b' := 400) rfl (by decide) i29.1 n43 (Int.le_refl _) (Int.le_refl _) (by decide)) (fun x_60 hx_60 => ?_)
                          refine va_iald hx hb hK hP 5 0 rfl rfl (zinI (by omega) (by omega)) dX12_told_186 ?_
                          refine zg (fun x_61 => ?_)
                          refine mcallS' (g := g) (As := [.int x_15, .int x_59, .int x_61]) (rest := [.int x_15, .ref (a 7)]) St hK hT hA hP hD hS hl.1 [] [0] rfl rfl rfl (m_says l g x_15 x_59 x_61 ) (va_cwS 3 hts (zgL (zl3 k1101 k1102 k839) k1099) rfl rfl rfl (by decide +kernel) ⟨Nat.le_of_ble_eq_true rfl, Nat.le_of_ble_eq_true rfl⟩) rfl rfl (Nat.le_of_ble_eq_true rfl) dX12_told_187 ⟨(Nat.le_of_ble_eq_true rfl), (Nat.le_of_ble_eq_true rfl)⟩ (fun q_62 H locs hq63 hP hD hS => ?_)
                          replace hq63 : (q_62 = 0 ∨ q_62 = 1) := hq63
                          have hP : va_P g.1 vwCl (List.flatten [bMo g o a th hi ac 0 ba en tA fl de iD iO tU fm fk fa fc ft ff fb fi_28]) H := hP
                          have hD : va_D A (List.flatten [bMo g o a th hi ac 0 ba en tA fl de iD iO tU fm fk fa fc ft ff fb fi_28]) := hD
                          refine W.widen (k := 0) (n := 0) (Nat.le_of_ble_eq_true rfl) (Nat.le_of_ble_eq_true rfl) ?_
                          refine W.eq (g2 := F0 m 190 ls [.int q_62, .int x_15, .ref (a 7)]) rfl ?_
                          rcases hq63 with rfl | rfl
                          · skip
                            refine lv_aload_n hx hb dX12_told_190 rfl (lv_at hl 0 rfl) ?_
                            refine va_get (D := g.1) (ci := 10) (v := .ref (a 4)) (C := RX12) (T := TX12) (N := 20) hx hb hts izRX12 hown hK hP 0 rfl rfl 7 (by decide) (hts _ k819) (fun _ h9 => h9) rfl dX12_told_191 ?_
                            refine lv_iload hx hb dX12_told_194 (lv_at hl 5 rfl) ?_
                            refine lv_iconst (v := 2) hx hb dX12_told_196 (by decide) ?_
                            refine lv_iadd hx hb dX12_told_197 ?_
                            refine zg3 (zaddK (i := x_27.toInt) (j := 2) (a' := 2) (b' := 401) rfl (by decide) i29.1 n43 (Int.le_refl _) (Int.le_refl _) (by decide)) (fun x_64 hx_64 => ?_)
                            refine va_iald hx hb hK hP 5 0 rfl rfl (zinI (by omega) (by omega)) dX12_told_198 ?_
                            refine zg (fun x_65 => ?_)
                            refine lv_iconst (v := 1) hx hb dX12_told_199 (by decide) ?_
                            refine lv_icmp_ne (tgt := 207) hx hb dX12_told_200 (by decide) (fun cb9 => ?_) (fun cb9 => ?_)
                            · skip
                              have c66 : ¬ x_65.toInt = 1 := zne cb9 rfl (by decide)
                              refine lv_iconst (v := 0) hx hb dX12_told_207 (by decide) ?_
                              refine lv_icmp_ne (tgt := 215) hx hb dX12_told_208 (by decide) (fun c67 => absurd (by decide) c67) (fun _ => ?_)
                              refine lv_iconst (v := 1) hx hb dX12_told_211 (by decide) ?_
                              refine lv_goto (tgt := 216) hx hb dX12_told_212 (by decide) ?_
                              refine va_zast hx hb hK hP hD hS 8 1 rfl rfl (zinK (a := 0) (b := 255) i17.1 n25 (by decide)) dX12_told_216 (fun H locs hP hD hS => ?_)
                              obtain ⟨fi_68, hP, hD⟩ : ∃ fi_68 : Nat → Int32, va_P g.1 vwCl (List.flatten [bMo g o a th hi ac 0 ba en tA fl de iD iO tU fm fk fa fc ft ff fb fi_68]) H ∧ va_D A (List.flatten [bMo g o a th hi ac 0 ba en tA fl de iD iO tU fm fk fa fc ft ff fb fi_68]) := ⟨upd fi_28 x_15.toNatClampNeg (vp_nar .boolean 1), hP, hD⟩
                              refine ziinc3 (n' := 3) (a' := 3) (b' := 402) (lv' := fun v9 => [(5, .int v9), (0, .ref o), (1, .int tp), (2, .int x_4), (3, .int x_14), (4, .int x_15)]) hx hb dX12_told_217 hl (k := 5) rfl (by decide) (fun _ => rfl) (zaddK (i := x_27.toInt) (j := 3) rfl (by decide) i29.1 n43 (Int.le_refl _) (Int.le_refl _) (by decide)) (fun x_69 ls hx_69 hl => ?_)
                              refine lv_goto (tgt := 147) hx hb dX12_told_220 (by decide) ?_
                              have hl := lv_sub (l' := [(0, .ref o), (1, .int tp), (2, .int x_4), (3, .int x_14), (4, .int x_15), (5, .int x_69)]) hl [1, 2, 3, 4, 5, 0] rfl
                              have hP : va_P g.1 vwCl (List.flatten [bMo g o a th hi ac 0 ba en tA fl de iD iO tU fm fk fa fc ft ff fb fi_68]) H := hP
                              have hD : va_D A (List.flatten [bMo g o a th hi ac 0 ba en tA fl de iD iO tU fm fk fa fc ft ff fb fi_68]) := hD
                              exact ih147_31 x_69 fi_68 ⟨(Int.le_trans (by decide) hx_69.2.1), hx_69.2.2⟩ H _ ls (zmK hx_69.1 (by decide) n43 (by decide) hk147_31)  hP hD hS (lv_sub hl [0, 1, 2, 3, 4, 5] rfl)
                            · skip
                              have c70 : x_65.toInt = 1 := zeq cb9 rfl (by decide)
                              have n71 : 1 ≤ x_65.toInt := Int.le_trans (Int.le_refl _) (Int.le_of_eq c70.symm)
                              have n72 : x_65.toInt ≤ 1 := Int.le_trans (Int.le_of_eq c70) (Int.le_refl _)
                              refine lv_iconst (v := 1) hx hb dX12_told_203 (by decide) ?_
                              refine lv_goto (tgt := 208) hx hb dX12_told_204 (by decide) ?_
                              refine lv_icmp_ne (tgt := 215) hx hb dX12_told_208 (by decide) (fun _ => ?_) (fun c73 => absurd c73 (by decide))
                              refine lv_iconst (v := 0) hx hb dX12_told_215 (by decide) ?_
                              refine va_zast hx hb hK hP hD hS 8 1 rfl rfl (zinK (a := 0) (b := 255) i17.1 n25 (by decide)) dX12_told_216 (fun H locs hP hD hS => ?_)
                              obtain ⟨fi_74, hP, hD⟩ : ∃ fi_74 : Nat → Int32, va_P g.1 vwCl (List.flatten [bMo g o a th hi ac 0 ba en tA fl de iD iO tU fm fk fa fc ft ff fb fi_74]) H ∧ va_D A (List.flatten [bMo g o a th hi ac 0 ba en tA fl de iD iO tU fm fk fa fc ft ff fb fi_74]) := ⟨upd fi_28 x_15.toNatClampNeg (vp_nar .boolean 0), hP, hD⟩
                              refine ziinc3 (n' := 3) (a' := 3) (b' := 402) (lv' := fun v9 => [(5, .int v9), (0, .ref o), (1, .int tp), (2, .int x_4), (3, .int x_14), (4, .int x_15)]) hx hb dX12_told_217 hl (k := 5) rfl (by decide) (fun _ => rfl) (zaddK (i := x_27.toInt) (j := 3) rfl (by decide) i29.1 n43 (Int.le_refl _) (Int.le_refl _) (by decide)) (fun x_75 ls hx_75 hl => ?_)
                              refine lv_goto (tgt := 147) hx hb dX12_told_220 (by decide) ?_
                              have hl := lv_sub (l' := [(0, .ref o), (1, .int tp), (2, .int x_4), (3, .int x_14), (4, .int x_15), (5, .int x_75)]) hl [1, 2, 3, 4, 5, 0] rfl
                              have hP : va_P g.1 vwCl (List.flatten [bMo g o a th hi ac 0 ba en tA fl de iD iO tU fm fk fa fc ft ff fb fi_74]) H := hP
                              have hD : va_D A (List.flatten [bMo g o a th hi ac 0 ba en tA fl de iD iO tU fm fk fa fc ft ff fb fi_74]) := hD
                              exact ih147_31 x_75 fi_74 ⟨(Int.le_trans (by decide) hx_75.2.1), hx_75.2.2⟩ H _ ls (zmK hx_75.1 (by decide) n43 (by decide) hk147_31)  hP hD hS (lv_sub hl [0, 1, 2, 3, 4, 5] rfl)
                          · skip
                            refine lv_aload_n hx hb dX12_told_190 rfl (lv_at hl 0 rfl) ?_
                            refine va_get (D := g.1) (ci := 10) (v := .ref (a 4)) (C := RX12) (T := TX12) (N := 20) hx hb hts izRX12 hown hK hP 0 rfl rfl 7 (by decide) (hts _ k819) (fun _ h9 => h9) rfl dX12_told_191 ?_
                            refine lv_iload hx hb dX12_told_194 (lv_at hl 5 rfl) ?_
                            refine lv_iconst (v := 2) hx hb dX12_told_196 (by decide) ?_
                            refine lv_iadd hx hb dX12_told_197 ?_
                            refine zg3 (zaddK (i := x_27.toInt) (j := 2) (a' := 2) (b' := 401) rfl (by decide) i29.1 n43 (Int.le_refl _) (Int.le_refl _) (by decide)) (fun x_76 hx_76 => ?_)
                            refine va_iald hx hb hK hP 5 0 rfl rfl (zinI (by omega) (by omega)) dX12_told_198 ?_
                            refine zg (fun x_77 => ?_)
                            refine lv_iconst (v := 1) hx hb dX12_told_199 (by decide) ?_
                            refine lv_icmp_ne (tgt := 207) hx hb dX12_told_200 (by decide) (fun cb9 => ?_) (fun cb9 => ?_)
                            · skip
                              have c78 : ¬ x_77.toInt = 1 := zne cb9 rfl (by decide)
                              refine lv_iconst (v := 0) hx hb dX12_told_207 (by decide) ?_
                              refine lv_icmp_ne (tgt := 215) hx hb dX12_told_208 (by decide) (fun _ => ?_) (fun c79 => absurd c79 (by decide))
                              refine lv_iconst (v := 0) hx hb dX12_told_215 (by decide) ?_
                              refine va_zast hx hb hK hP hD hS 8 1 rfl rfl (zinK (a := 0) (b := 255) i17.1 n25 (by decide)) dX12_told_216 (fun H locs hP hD hS => ?_)
                              obtain ⟨fi_80, hP, hD⟩ : ∃ fi_80 : Nat → Int32, va_P g.1 vwCl (List.flatten [bMo g o a th hi ac 0 ba en tA fl de iD iO tU fm fk fa fc ft ff fb fi_80]) H ∧ va_D A (List.flatten [bMo g o a th hi ac 0 ba en tA fl de iD iO tU fm fk fa fc ft ff fb fi_80]) := ⟨upd fi_28 x_15.toNatClampNeg (vp_nar .boolean 0), hP, hD⟩
                              refine ziinc3 (n' := 3) (a' := 3) (b' := 402) (lv' := fun v9 => [(5, .int v9), (0, .ref o), (1, .int tp), (2, .int x_4), (3, .int x_14), (4, .int x_15)]) hx hb dX12_told_217 hl (k := 5) rfl (by decide) (fun _ => rfl) (zaddK (i := x_27.toInt) (j := 3) rfl (by decide) i29.1 n43 (Int.le_refl _) (Int.le_refl _) (by decide)) (fun x_81 ls hx_81 hl => ?_)
                              refine lv_goto (tgt := 147) hx hb dX12_told_220 (by decide) ?_
                              have hl := lv_sub (l' := [(0, .ref o), (1, .int tp), (2, .int x_4), (3, .int x_14), (4, .int x_15), (5, .int x_81)]) hl [1, 2, 3, 4, 5, 0] rfl
                              have hP : va_P g.1 vwCl (List.flatten [bMo g o a th hi ac 0 ba en tA fl de iD iO tU fm fk fa fc ft ff fb fi_80]) H := hP
                              have hD : va_D A (List.flatten [bMo g o a th hi ac 0 ba en tA fl de iD iO tU fm fk fa fc ft ff fb fi_80]) := hD
                              exact ih147_31 x_81 fi_80 ⟨(Int.le_trans (by decide) hx_81.2.1), hx_81.2.2⟩ H _ ls (zmK hx_81.1 (by decide) n43 (by decide) hk147_31)  hP hD hS (lv_sub hl [0, 1, 2, 3, 4, 5] rfl)
                            · skip
                              have c82 : x_77.toInt = 1 := zeq cb9 rfl (by decide)
                              have n83 : 1 ≤ x_77.toInt := Int.le_trans (Int.le_refl _) (Int.le_of_eq c82.symm)
                              have n84 : x_77.toInt ≤ 1 := Int.le_trans (Int.le_of_eq c82) (Int.le_refl _)
                              refine lv_iconst (v := 1) hx hb dX12_told_203 (by decide) ?_
                              refine lv_goto (tgt := 208) hx hb dX12_told_204 (by decide) ?_
                              refine lv_icmp_ne (tgt := 215) hx hb dX12_told_208 (by decide) (fun c85 => absurd (by decide) c85) (fun _ => ?_)
                              refine lv_iconst (v := 1) hx hb dX12_told_211 (by decide) ?_
                              refine lv_goto (tgt := 216) hx hb dX12_told_212 (by decide) ?_
                              refine va_zast hx hb hK hP hD hS 8 1 rfl rfl (zinK (a := 0) (b := 255) i17.1 n25 (by decide)) dX12_told_216 (fun H locs hP hD hS => ?_)
                              obtain ⟨fi_86, hP, hD⟩ : ∃ fi_86 : Nat → Int32, va_P g.1 vwCl (List.flatten [bMo g o a th hi ac 0 ba en tA fl de iD iO tU fm fk fa fc ft ff fb fi_86]) H ∧ va_D A (List.flatten [bMo g o a th hi ac 0 ba en tA fl de iD iO tU fm fk fa fc ft ff fb fi_86]) := ⟨upd fi_28 x_15.toNatClampNeg (vp_nar .boolean 1), hP, hD⟩
                              refine ziinc3 (n' := 3) (a' := 3) (b' := 402) (lv' := fun v9 => [(5, .int v9), (0, .ref o), (1, .int tp), (2, .int x_4), (3, .int x_14), (4, .int x_15)]) hx hb dX12_told_217 hl (k := 5) rfl (by decide) (fun _ => rfl) (zaddK (i := x_27.toInt) (j := 3) rfl (by decide) i29.1 n43 (Int.le_refl _) (Int.le_refl _) (by decide)) (fun x_87 ls hx_87 hl => ?_)
                              refine lv_goto (tgt := 147) hx hb dX12_told_220 (by decide) ?_
                              have hl := lv_sub (l' := [(0, .ref o), (1, .int tp), (2, .int x_4), (3, .int x_14), (4, .int x_15), (5, .int x_87)]) hl [1, 2, 3, 4, 5, 0] rfl
                              have hP : va_P g.1 vwCl (List.flatten [bMo g o a th hi ac 0 ba en tA fl de iD iO tU fm fk fa fc ft ff fb fi_86]) H := hP
                              have hD : va_D A (List.flatten [bMo g o a th hi ac 0 ba en tA fl de iD iO tU fm fk fa fc ft ff fb fi_86]) := hD
                              exact ih147_31 x_87 fi_86 ⟨(Int.le_trans (by decide) hx_87.2.1), hx_87.2.2⟩ H _ ls (zmK hx_87.1 (by decide) n43 (by decide) hk147_31)  hP hD hS (lv_sub hl [0, 1, 2, 3, 4, 5] rfl)
                  have hP : va_P g.1 vwCl (List.flatten [bMo g o a th hi ac 0 ba en tA fl de iD iO tU fm fk fa fc ft ff fb fi_26]) H := hP
                  have hD : va_D A (List.flatten [bMo g o a th hi ac 0 ba en tA fl de iD iO tU fm fk fa fc ft ff fb fi_26]) := hD
                  exact LP147_30 _ 0 fi_26 (by decide) H _ ls (Nat.lt_succ_self _)  hP hD hS (lv_sub hl [0, 1, 2, 3, 4, 5] rfl)
            have hP : va_P g.1 vwCl (List.flatten [bMo g o a th hi ac 0 ba en tA fl de iD iO tU fm fk fa fc ft ff fb fi]) H := hP
            have hD : va_D A (List.flatten [bMo g o a th hi ac 0 ba en tA fl de iD iO tU fm fk fa fc ft ff fb fi]) := hD
            exact LP123_18 _ 0 0 fi (by decide) H _ ls (Nat.lt_succ_self _)  hP hD hS (lv_sub hl [0, 1, 2, 3, 4] rfl)
          · skip
            have c88 : x_4.toInt = 0 := zeq cb9 rfl (by decide)
            have n89 : x_4.toInt ≤ 0 := Int.le_trans (Int.le_of_eq c88) (Int.le_refl _)
            refine lv_iconst (v := (-1)) hx hb dX12_told_116 (by decide) ?_
            have hP : va_P g.1 vwCl (List.flatten [bMo g o a th hi ac 0 ba en tA fl de iD iO tU fm fk fa fc ft ff fb fi]) H := hP
            have hD : va_D A (List.flatten [bMo g o a th hi ac 0 ba en tA fl de iD iO tU fm fk fa fc ft ff fb fi]) := hD
            exact mret_i hx hb hr hlocks hS (Nat.le_of_ble_eq_true rfl) (Nat.le_of_ble_eq_true rfl) dX12_told_117 (fi, -1) rfl trivial hP hD
        · skip
          have c90 : x_5.toInt < tp.toInt := zlti (Int32.not_le.mp cb9) rfl rfl
          have n91 : x_5.toInt ≤ 399 := zL1 (b := 400) c90 htp.2 (by decide)
          have n92 : 1 ≤ tp.toInt := zL2 (a := 0) c90 i7.1 (by decide)
          refine lv_iload_n hx hb dX12_told_35 rfl (lv_at hl 2 rfl) ?_
          refine lv_if_eq (tgt := 112) hx hb dX12_told_36 (by decide) (fun cb9 => ?_) (fun cb9 => ?_)
          · skip
            have c93 : x_4.toInt = 0 := zeq cb9 rfl (by decide)
            have n94 : x_4.toInt ≤ 0 := Int.le_trans (Int.le_of_eq c93) (Int.le_refl _)
            refine lv_iload_n hx hb dX12_told_112 rfl (lv_at hl 2 rfl) ?_
            refine lv_if_ne (tgt := 118) hx hb dX12_told_113 (by decide) (fun cb9 => ?_) (fun cb9 => ?_)
            · skip
              exact absurd (show ¬ x_4.toInt = 0 from zne cb9 rfl (by decide)) (by omega)
            · skip
              have c96 : x_4.toInt = 0 := zeq cb9 rfl (by decide)
              refine lv_iconst (v := (-1)) hx hb dX12_told_116 (by decide) ?_
              have hP : va_P g.1 vwCl (List.flatten [bMo g o a th hi ac 0 ba en tA fl de iD iO tU fm fk fa fc ft ff fb fi]) H := hP
              have hD : va_D A (List.flatten [bMo g o a th hi ac 0 ba en tA fl de iD iO tU fm fk fa fc ft ff fb fi]) := hD
              exact mret_i hx hb hr hlocks hS (Nat.le_of_ble_eq_true rfl) (Nat.le_of_ble_eq_true rfl) dX12_told_117 (fi, -1) rfl trivial hP hD
          · skip
            have c97 : ¬ x_4.toInt = 0 := zne cb9 rfl (by decide)
            have n98 : 1 ≤ x_4.toInt := zN1 c97 i6.1 (by decide)
            refine lv_aload_n hx hb dX12_told_39 rfl (lv_at hl 0 rfl) ?_
            refine va_get (D := g.1) (ci := 10) (v := .ref (a 4)) (C := RX12) (T := TX12) (N := 20) hx hb hts izRX12 hown hK hP 0 rfl rfl 7 (by decide) (hts _ k819) (fun _ h9 => h9) rfl dX12_told_40 ?_
            refine lv_iload_n hx hb dX12_told_43 rfl (lv_at hl 3 rfl) ?_
            refine va_iald hx hb hK hP 5 0 rfl rfl (zinK (a := 0) (b := 399) i7.1 n91 (by decide)) dX12_told_44 ?_
            refine zg (fun x_99 => ?_)
            refine lv_aload_n hx hb dX12_told_45 rfl (lv_at hl 0 rfl) ?_
            refine va_get (D := g.1) (ci := 10) (v := .ref (a 0)) (C := RX12) (T := TX12) (N := 20) hx hb hts izRX12 hown hK hP 0 rfl rfl 1 (by decide) (hts _ k815) (fun _ h9 => h9) rfl dX12_told_46 ?_
            refine lv_iconst (v := 3) hx hb dX12_told_49 (by decide) ?_
            refine va_iald hx hb hK hP 1 0 rfl rfl (zin rfl) dX12_told_50 ?_
            refine zgq (r := fm 3) rfl (rM3 rfm) (fun x_100 hx_100 => ?_)
            refine lv_icmp_ge (tgt := 104) hx hb dX12_told_51 (by decide) (fun cb9 => ?_) (fun cb9 => ?_)
            · skip
              have c101 : x_100.toInt ≤ x_99.toInt := zle cb9 rfl rfl
              have n102 : 0 ≤ x_99.toInt := Int.le_trans hx_100.1 c101
              refine lv_iconst (v := 0) hx hb dX12_told_104 (by decide) ?_
              refine lv_istore_n (lv' := [(2, .int 0), (0, .ref o), (1, .int tp), (3, .int x_5)]) hx hb dX12_told_105 rfl hl (by decide) rfl (fun ls hl => ?_)
              refine ziinc3 (n' := 3) (a' := 3) (b' := 402) (lv' := fun v9 => [(3, .int v9), (2, .int 0), (0, .ref o), (1, .int tp)]) hx hb dX12_told_106 hl (k := 3) rfl (by decide) (fun _ => rfl) (zaddK (i := x_5.toInt) (j := 3) rfl (by decide) i7.1 n91 (Int.le_refl _) (Int.le_refl _) (by decide)) (fun x_103 ls hx_103 hl => ?_)
              refine lv_goto (tgt := 30) hx hb dX12_told_109 (by decide) ?_
              have hl := lv_sub (l' := [(0, .ref o), (1, .int tp), (2, .int 0), (3, .int x_103)]) hl [2, 3, 1, 0] rfl
              have hL0 : (0 : Int32).toInt = 0 := by decide
              have hP : va_P g.1 vwCl (List.flatten [bMo g o a th hi ac 0 ba en tA fl de iD iO tU fm fk fa fc ft ff fb fi]) H := hP
              have hD : va_D A (List.flatten [bMo g o a th hi ac 0 ba en tA fl de iD iO tU fm fk fa fc ft ff fb fi]) := hD
              exact ih30_10 0 x_103 (by decide) ⟨(Int.le_trans (by decide) hx_103.2.1), hx_103.2.2⟩ (by first | omega | assumption | decide) H _ ls (zmK hx_103.1 (by decide) n91 (by decide) hk30_10)  hP hD hS (lv_sub hl [0, 1, 2, 3] rfl)
            · skip
              have c104 : x_99.toInt < x_100.toInt := zlti (Int32.not_le.mp cb9) rfl rfl
              have n105 : x_99.toInt ≤ 7 := zL1 (b := 8) c104 hx_100.2.1 (by decide)
              refine lv_aload_n hx hb dX12_told_54 rfl (lv_at hl 0 rfl) ?_
              refine va_get (D := g.1) (ci := 10) (v := .ref (a 4)) (C := RX12) (T := TX12) (N := 20) hx hb hts izRX12 hown hK hP 0 rfl rfl 7 (by decide) (hts _ k819) (fun _ h9 => h9) rfl dX12_told_55 ?_
              refine lv_iload_n hx hb dX12_told_58 rfl (lv_at hl 3 rfl) ?_
              refine lv_iconst (v := 1) hx hb dX12_told_59 (by decide) ?_
              refine lv_iadd hx hb dX12_told_60 ?_
              refine zg3 (zaddK (i := x_5.toInt) (j := 1) (a' := 1) (b' := 400) rfl (by decide) i7.1 n91 (Int.le_refl _) (Int.le_refl _) (by decide)) (fun x_106 hx_106 => ?_)
              refine va_iald hx hb hK hP 5 0 rfl rfl (zinI (by omega) (by omega)) dX12_told_61 ?_
              refine zg (fun x_107 => ?_)
              refine lv_aload_n hx hb dX12_told_62 rfl (lv_at hl 0 rfl) ?_
              refine va_get (D := g.1) (ci := 10) (v := .ref (a 0)) (C := RX12) (T := TX12) (N := 20) hx hb hts izRX12 hown hK hP 0 rfl rfl 1 (by decide) (hts _ k815) (fun _ h9 => h9) rfl dX12_told_63 ?_
              refine lv_iconst (v := 3) hx hb dX12_told_66 (by decide) ?_
              refine va_iald hx hb hK hP 1 0 rfl rfl (zin rfl) dX12_told_67 ?_
              refine zgq (r := fm 3) rfl (rM3 rfm) (fun x_108 hx_108 => ?_)
              refine lv_icmp_ge (tgt := 104) hx hb dX12_told_68 (by decide) (fun cb9 => ?_) (fun cb9 => ?_)
              · skip
                have c109 : x_108.toInt ≤ x_107.toInt := zle cb9 rfl rfl
                have n110 : 0 ≤ x_107.toInt := Int.le_trans hx_108.1 c109
                refine lv_iconst (v := 0) hx hb dX12_told_104 (by decide) ?_
                refine lv_istore_n (lv' := [(2, .int 0), (0, .ref o), (1, .int tp), (3, .int x_5)]) hx hb dX12_told_105 rfl hl (by decide) rfl (fun ls hl => ?_)
                refine ziinc3 (n' := 3) (a' := 3) (b' := 402) (lv' := fun v9 => [(3, .int v9), (2, .int 0), (0, .ref o), (1, .int tp)]) hx hb dX12_told_106 hl (k := 3) rfl (by decide) (fun _ => rfl) (zaddK (i := x_5.toInt) (j := 3) rfl (by decide) i7.1 n91 (Int.le_refl _) (Int.le_refl _) (by decide)) (fun x_111 ls hx_111 hl => ?_)
                refine lv_goto (tgt := 30) hx hb dX12_told_109 (by decide) ?_
                have hl := lv_sub (l' := [(0, .ref o), (1, .int tp), (2, .int 0), (3, .int x_111)]) hl [2, 3, 1, 0] rfl
                have hL0 : (0 : Int32).toInt = 0 := by decide
                have hP : va_P g.1 vwCl (List.flatten [bMo g o a th hi ac 0 ba en tA fl de iD iO tU fm fk fa fc ft ff fb fi]) H := hP
                have hD : va_D A (List.flatten [bMo g o a th hi ac 0 ba en tA fl de iD iO tU fm fk fa fc ft ff fb fi]) := hD
                exact ih30_10 0 x_111 (by decide) ⟨(Int.le_trans (by decide) hx_111.2.1), hx_111.2.2⟩ (by first | omega | assumption | decide) H _ ls (zmK hx_111.1 (by decide) n91 (by decide) hk30_10)  hP hD hS (lv_sub hl [0, 1, 2, 3] rfl)
              · skip
                have c112 : x_107.toInt < x_108.toInt := zlti (Int32.not_le.mp cb9) rfl rfl
                have n113 : x_107.toInt ≤ 7 := zL1 (b := 8) c112 hx_108.2.1 (by decide)
                refine lv_aload_n hx hb dX12_told_71 rfl (lv_at hl 0 rfl) ?_
                refine va_get (D := g.1) (ci := 10) (v := .ref (a 4)) (C := RX12) (T := TX12) (N := 20) hx hb hts izRX12 hown hK hP 0 rfl rfl 7 (by decide) (hts _ k819) (fun _ h9 => h9) rfl dX12_told_72 ?_
                refine lv_iload_n hx hb dX12_told_75 rfl (lv_at hl 3 rfl) ?_
                refine va_iald hx hb hK hP 5 0 rfl rfl (zinK (a := 0) (b := 399) i7.1 n91 (by decide)) dX12_told_76 ?_
                refine zg (fun x_114 => ?_)
                refine lv_aload_n hx hb dX12_told_77 rfl (lv_at hl 0 rfl) ?_
                refine va_get (D := g.1) (ci := 10) (v := .ref (a 4)) (C := RX12) (T := TX12) (N := 20) hx hb hts izRX12 hown hK hP 0 rfl rfl 7 (by decide) (hts _ k819) (fun _ h9 => h9) rfl dX12_told_78 ?_
                refine lv_iload_n hx hb dX12_told_81 rfl (lv_at hl 3 rfl) ?_
                refine lv_iconst (v := 1) hx hb dX12_told_82 (by decide) ?_
                refine lv_iadd hx hb dX12_told_83 ?_
                refine zg3 (zaddK (i := x_5.toInt) (j := 1) (a' := 1) (b' := 400) rfl (by decide) i7.1 n91 (Int.le_refl _) (Int.le_refl _) (by decide)) (fun x_115 hx_115 => ?_)
                refine va_iald hx hb hK hP 5 0 rfl rfl (zinI (by omega) (by omega)) dX12_told_84 ?_
                refine zg (fun x_116 => ?_)
                refine lv_icmp_eq (tgt := 104) hx hb dX12_told_85 (by decide) (fun cb9 => ?_) (fun cb9 => ?_)
                · skip
                  have c117 : x_114.toInt = x_116.toInt := zeq cb9 rfl rfl
                  refine lv_iconst (v := 0) hx hb dX12_told_104 (by decide) ?_
                  refine lv_istore_n (lv' := [(2, .int 0), (0, .ref o), (1, .int tp), (3, .int x_5)]) hx hb dX12_told_105 rfl hl (by decide) rfl (fun ls hl => ?_)
                  refine ziinc3 (n' := 3) (a' := 3) (b' := 402) (lv' := fun v9 => [(3, .int v9), (2, .int 0), (0, .ref o), (1, .int tp)]) hx hb dX12_told_106 hl (k := 3) rfl (by decide) (fun _ => rfl) (zaddK (i := x_5.toInt) (j := 3) rfl (by decide) i7.1 n91 (Int.le_refl _) (Int.le_refl _) (by decide)) (fun x_118 ls hx_118 hl => ?_)
                  refine lv_goto (tgt := 30) hx hb dX12_told_109 (by decide) ?_
                  have hl := lv_sub (l' := [(0, .ref o), (1, .int tp), (2, .int 0), (3, .int x_118)]) hl [2, 3, 1, 0] rfl
                  have hL0 : (0 : Int32).toInt = 0 := by decide
                  have hP : va_P g.1 vwCl (List.flatten [bMo g o a th hi ac 0 ba en tA fl de iD iO tU fm fk fa fc ft ff fb fi]) H := hP
                  have hD : va_D A (List.flatten [bMo g o a th hi ac 0 ba en tA fl de iD iO tU fm fk fa fc ft ff fb fi]) := hD
                  exact ih30_10 0 x_118 (by decide) ⟨(Int.le_trans (by decide) hx_118.2.1), hx_118.2.2⟩ (by first | omega | assumption | decide) H _ ls (zmK hx_118.1 (by decide) n91 (by decide) hk30_10)  hP hD hS (lv_sub hl [0, 1, 2, 3] rfl)
                · skip
                  have c119 : ¬ x_114.toInt = x_116.toInt := zne cb9 rfl rfl
                  refine lv_aload_n hx hb dX12_told_88 rfl (lv_at hl 0 rfl) ?_
                  refine va_get (D := g.1) (ci := 10) (v := .ref (a 4)) (C := RX12) (T := TX12) (N := 20) hx hb hts izRX12 hown hK hP 0 rfl rfl 7 (by decide) (hts _ k819) (fun _ h9 => h9) rfl dX12_told_89 ?_
                  refine lv_iload_n hx hb dX12_told_92 rfl (lv_at hl 3 rfl) ?_
                  refine lv_iconst (v := 2) hx hb dX12_told_93 (by decide) ?_
                  refine lv_iadd hx hb dX12_told_94 ?_
                  refine zg3 (zaddK (i := x_5.toInt) (j := 2) (a' := 2) (b' := 401) rfl (by decide) i7.1 n91 (Int.le_refl _) (Int.le_refl _) (by decide)) (fun x_120 hx_120 => ?_)
                  refine va_iald hx hb hK hP 5 0 rfl rfl (zinI (by omega) (by omega)) dX12_told_95 ?_
                  refine zg (fun x_121 => ?_)
                  refine lv_iconst (v := 2) hx hb dX12_told_96 (by decide) ?_
                  refine lv_icmp_ge (tgt := 104) hx hb dX12_told_97 (by decide) (fun cb9 => ?_) (fun cb9 => ?_)
                  · skip
                    have c122 : 2 ≤ x_121.toInt := zle cb9 (by decide) rfl
                    have n123 : 2 ≤ x_121.toInt := Int.le_trans (Int.le_refl _) c122
                    refine lv_iconst (v := 0) hx hb dX12_told_104 (by decide) ?_
                    refine lv_istore_n (lv' := [(2, .int 0), (0, .ref o), (1, .int tp), (3, .int x_5)]) hx hb dX12_told_105 rfl hl (by decide) rfl (fun ls hl => ?_)
                    refine ziinc3 (n' := 3) (a' := 3) (b' := 402) (lv' := fun v9 => [(3, .int v9), (2, .int 0), (0, .ref o), (1, .int tp)]) hx hb dX12_told_106 hl (k := 3) rfl (by decide) (fun _ => rfl) (zaddK (i := x_5.toInt) (j := 3) rfl (by decide) i7.1 n91 (Int.le_refl _) (Int.le_refl _) (by decide)) (fun x_124 ls hx_124 hl => ?_)
                    refine lv_goto (tgt := 30) hx hb dX12_told_109 (by decide) ?_
                    have hl := lv_sub (l' := [(0, .ref o), (1, .int tp), (2, .int 0), (3, .int x_124)]) hl [2, 3, 1, 0] rfl
                    have hL0 : (0 : Int32).toInt = 0 := by decide
                    have hP : va_P g.1 vwCl (List.flatten [bMo g o a th hi ac 0 ba en tA fl de iD iO tU fm fk fa fc ft ff fb fi]) H := hP
                    have hD : va_D A (List.flatten [bMo g o a th hi ac 0 ba en tA fl de iD iO tU fm fk fa fc ft ff fb fi]) := hD
                    exact ih30_10 0 x_124 (by decide) ⟨(Int.le_trans (by decide) hx_124.2.1), hx_124.2.2⟩ (by first | omega | assumption | decide) H _ ls (zmK hx_124.1 (by decide) n91 (by decide) hk30_10)  hP hD hS (lv_sub hl [0, 1, 2, 3] rfl)
                  · skip
                    have c125 : x_121.toInt < 2 := zlti (Int32.not_le.mp cb9) rfl (by decide)
                    have n126 : x_121.toInt ≤ 1 := zL1 (b := 2) c125 (Int.le_refl _) (by decide)
                    refine lv_iconst (v := 1) hx hb dX12_told_100 (by decide) ?_
                    refine lv_goto (tgt := 105) hx hb dX12_told_101 (by decide) ?_
                    refine lv_istore_n (lv' := [(2, .int 1), (0, .ref o), (1, .int tp), (3, .int x_5)]) hx hb dX12_told_105 rfl hl (by decide) rfl (fun ls hl => ?_)
                    refine ziinc3 (n' := 3) (a' := 3) (b' := 402) (lv' := fun v9 => [(3, .int v9), (2, .int 1), (0, .ref o), (1, .int tp)]) hx hb dX12_told_106 hl (k := 3) rfl (by decide) (fun _ => rfl) (zaddK (i := x_5.toInt) (j := 3) rfl (by decide) i7.1 n91 (Int.le_refl _) (Int.le_refl _) (by decide)) (fun x_127 ls hx_127 hl => ?_)
                    refine lv_goto (tgt := 30) hx hb dX12_told_109 (by decide) ?_
                    have hl := lv_sub (l' := [(0, .ref o), (1, .int tp), (2, .int 1), (3, .int x_127)]) hl [2, 3, 1, 0] rfl
                    have hL1 : (1 : Int32).toInt = 1 := by decide
                    have hP : va_P g.1 vwCl (List.flatten [bMo g o a th hi ac 0 ba en tA fl de iD iO tU fm fk fa fc ft ff fb fi]) H := hP
                    have hD : va_D A (List.flatten [bMo g o a th hi ac 0 ba en tA fl de iD iO tU fm fk fa fc ft ff fb fi]) := hD
                    exact ih30_10 1 x_127 (by decide) ⟨(Int.le_trans (by decide) hx_127.2.1), hx_127.2.2⟩ (by first | omega | assumption | decide) H _ ls (zmK hx_127.1 (by decide) n91 (by decide) hk30_10)  hP hD hS (lv_sub hl [0, 1, 2, 3] rfl)
    have hL0 : (0 : Int32).toInt = 0 := by decide
    have hP : va_P g.1 vwCl (List.flatten [bMo g o a th hi ac 0 ba en tA fl de iD iO tU fm fk fa fc ft ff fb fi]) H := hP
    have hD : va_D A (List.flatten [bMo g o a th hi ac 0 ba en tA fl de iD iO tU fm fk fa fc ft ff fb fi]) := hD
    exact LP30_9 _ 0 0 (by decide) (by decide) (by first | omega | assumption | decide) H _ ls (Nat.lt_succ_self _)  hP hD hS (lv_sub hl [0, 1, 2, 3] rfl)
  · skip
    have c128 : x_1.toInt = 0 := zeq cb9 rfl (by decide)
    have n129 : x_1.toInt ≤ 0 := Int.le_trans (Int.le_of_eq c128) (Int.le_refl _)
    refine lv_iload_n hx hb dX12_told_16 rfl (lv_at hl 0 rfl) ?_
    refine lv_bipush (v := 36) hx hb dX12_told_17 (by decide) ?_
    refine lv_icmp_gt (tgt := 26) hx hb dX12_told_19 (by decide) (fun cb9 => ?_) (fun cb9 => ?_)
    · skip
      have c130 : 36 < tp.toInt := zlti cb9 (by decide) rfl
      have n131 : 37 ≤ tp.toInt := zL2 (a := 36) c130 (Int.le_refl _) (by decide)
      refine lv_iconst (v := 0) hx hb dX12_told_26 (by decide) ?_
      refine lv_istore_n (lv' := [(2, .int 0), (1, .int tp), (0, .ref o)]) hx hb dX12_told_27 rfl hl (by decide) rfl (fun ls hl => ?_)
      refine lv_iconst (v := 0) hx hb dX12_told_28 (by decide) ?_
      refine lv_istore_n (lv' := [(3, .int 0), (2, .int 0), (1, .int tp), (0, .ref o)]) hx hb dX12_told_29 rfl hl (by decide) rfl (fun ls hl => ?_)
      have hl := lv_sub (l' := [(0, .ref o), (1, .int tp), (2, .int 0), (3, .int 0)]) hl [3, 2, 1, 0] rfl
      have LP30_137 : ∀ (kf : Nat) (x_132 : Int32) (x_133 : Int32), (0 ≤ x_132.toInt ∧ x_132.toInt ≤ 1) → (0 ≤ x_133.toInt ∧ x_133.toInt ≤ 402) → (x_132.toInt = 0 ∨ tp.toInt ≤ 36) → ∀ (H : Heap) (locs : List Loc) (ls : Array Slot), ((403 - x_133.toInt).toNat) < kf → va_P g.1 vwCl (List.flatten [bMo g o a th hi ac 0 ba en tA fl de iD iO tU fm fk fa fc ft ff fb fi]) H → va_D A (List.flatten [bMo g o a th hi ac 0 ba en tA fl de iD iO tU fm fk fa fc ft ff fb fi]) → va_S A s.heap H locs → lv_has ls 6 [(0, .ref o), (1, .int tp), (2, .int x_132), (3, .int x_133)] → W p l e ({ frames := 2, cells := 0, slots := 0, locals := 43 } : Room) s m args below meth c H locs (0) (0) (zF g (fun u : (Nat → Int32) × Int32 => (fun (fi2 : Nat → Int32) (q : Int32) => some (.int q)) (u.1) (u.2)) (fun u : (Nat → Int32) × Int32 => (fun (fi2 : Nat → Int32) (q : Int32) => True) (u.1) (u.2)) (fun u : (Nat → Int32) × Int32 => (fun (fi2 : Nat → Int32) (q : Int32) => [bMo g o a th hi ac 0 ba en tA fl de iD iO tU fm fk fa fc ft ff fb fi2]) (u.1) (u.2)) ({ frames := 2, cells := 0, slots := 0, locals := 43 } : Room) below args s A) (F0 m 30 ls []) := by
        intro kf
        induction kf with
        | zero => intro x_132 x_133 i134 i135 i136 H locs ls hk; exact absurd hk (Nat.not_lt_zero _)
        | succ kf ih30_138 =>
          intro x_132 x_133 i134 i135 i136 H locs ls hk30_138 hP hD hS hl
          refine lv_iload_n hx hb dX12_told_30 rfl (lv_at hl 3 rfl) ?_
          refine lv_iload_n hx hb dX12_told_31 rfl (lv_at hl 1 rfl) ?_
          refine lv_icmp_ge (tgt := 112) hx hb dX12_told_32 (by decide) (fun cb9 => ?_) (fun cb9 => ?_)
          · skip
            have c139 : tp.toInt ≤ x_133.toInt := zle cb9 rfl rfl
            have n140 : 37 ≤ x_133.toInt := Int.le_trans n131 c139
            refine lv_iload_n hx hb dX12_told_112 rfl (lv_at hl 2 rfl) ?_
            refine lv_if_ne (tgt := 118) hx hb dX12_told_113 (by decide) (fun cb9 => ?_) (fun cb9 => ?_)
            · skip
              have c141 : ¬ x_132.toInt = 0 := zne cb9 rfl (by decide)
              have n142 : 1 ≤ x_132.toInt := zN1 c141 i134.1 (by decide)
              refine lv_iconst (v := 0) hx hb dX12_told_118 (by decide) ?_
              refine lv_istore_n (lv' := [(3, .int 0), (0, .ref o), (1, .int tp), (2, .int x_132)]) hx hb dX12_told_119 rfl hl (by decide) rfl (fun ls hl => ?_)
              refine lv_iconst (v := 0) hx hb dX12_told_120 (by decide) ?_
              refine lv_istore (lv' := [(4, .int 0), (3, .int 0), (0, .ref o), (1, .int tp), (2, .int x_132)]) hx hb dX12_told_121 hl (by decide) rfl (fun ls hl => ?_)
              have hl := lv_sub (l' := [(0, .ref o), (1, .int tp), (2, .int x_132), (3, .int 0), (4, .int 0)]) hl [2, 3, 4, 1, 0] rfl
              have LP123_147 : ∀ (kf : Nat) (x_143 : Int32) (x_144 : Int32) (fi_145 : Nat → Int32), (0 ≤ x_144.toInt ∧ x_144.toInt ≤ 256) → ∀ (H : Heap) (locs : List Loc) (ls : Array Slot), ((257 - x_144.toInt).toNat) < kf → va_P g.1 vwCl (List.flatten [bMo g o a th hi ac 0 ba en tA fl de iD iO tU fm fk fa fc ft ff fb fi_145]) H → va_D A (List.flatten [bMo g o a th hi ac 0 ba en tA fl de iD iO tU fm fk fa fc ft ff fb fi_145]) → va_S A s.heap H locs → lv_has ls 6 [(0, .ref o), (1, .int tp), (2, .int x_132), (3, .int x_143), (4, .int x_144)] → W p l e ({ frames := 2, cells := 0, slots := 0, locals := 43 } : Room) s m args below meth c H locs (0) (0) (zF g (fun u : (Nat → Int32) × Int32 => (fun (fi2 : Nat → Int32) (q : Int32) => some (.int q)) (u.1) (u.2)) (fun u : (Nat → Int32) × Int32 => (fun (fi2 : Nat → Int32) (q : Int32) => True) (u.1) (u.2)) (fun u : (Nat → Int32) × Int32 => (fun (fi2 : Nat → Int32) (q : Int32) => [bMo g o a th hi ac 0 ba en tA fl de iD iO tU fm fk fa fc ft ff fb fi2]) (u.1) (u.2)) ({ frames := 2, cells := 0, slots := 0, locals := 43 } : Room) below args s A) (F0 m 123 ls []) := by
                intro kf
                induction kf with
                | zero => intro x_143 x_144 fi_145 i146 H locs ls hk; exact absurd hk (Nat.not_lt_zero _)
                | succ kf ih123_148 =>
                  intro x_143 x_144 fi_145 i146 H locs ls hk123_148 hP hD hS hl
                  refine lv_iload hx hb dX12_told_123 (lv_at hl 4 rfl) ?_
                  refine lv_iconst (v := 1) hx hb dX12_told_125 (by decide) ?_
                  refine lv_aload_n hx hb dX12_told_126 rfl (lv_at hl 0 rfl) ?_
                  refine va_get (D := g.1) (ci := 10) (v := .ref (a 0)) (C := RX12) (T := TX12) (N := 20) hx hb hts izRX12 hown hK hP 0 rfl rfl 1 (by decide) (hts _ k815) (fun _ h9 => h9) rfl dX12_told_127 ?_
                  refine lv_iconst (v := 3) hx hb dX12_told_130 (by decide) ?_
                  refine va_iald hx hb hK hP 1 0 rfl rfl (zin rfl) dX12_told_131 ?_
                  refine zgq (r := fm 3) rfl (rM3 rfm) (fun x_149 hx_149 => ?_)
                  refine lv_ishl hx hb dX12_told_132 ?_
                  refine zgb (zshl1 (j := x_149.toInt) rfl 8 256 (by decide) (by decide) ⟨hx_149.1, hx_149.2.1⟩) (fun x_150 hx_150 => ?_)
                  refine lv_icmp_ge (tgt := 247) hx hb dX12_told_133 (by decide) (fun cb9 => ?_) (fun cb9 => ?_)
                  · skip
                    have c151 : x_150.toInt ≤ x_144.toInt := zle cb9 rfl rfl
                    have n152 : 1 ≤ x_144.toInt := Int.le_trans hx_150.1 c151
                    refine lv_iload_n hx hb dX12_told_247 rfl (lv_at hl 3 rfl) ?_
                    have hP : va_P g.1 vwCl (List.flatten [bMo g o a th hi ac 0 ba en tA fl de iD iO tU fm fk fa fc ft ff fb fi_145]) H := hP
                    have hD : va_D A (List.flatten [bMo g o a th hi ac 0 ba en tA fl de iD iO tU fm fk fa fc ft ff fb fi_145]) := hD
                    exact mret_i hx hb hr hlocks hS (Nat.le_of_ble_eq_true rfl) (Nat.le_of_ble_eq_true rfl) dX12_told_248 (fi_145, x_143) rfl trivial hP hD
                  · skip
                    have c153 : x_144.toInt < x_150.toInt := zlti (Int32.not_le.mp cb9) rfl rfl
                    have n154 : x_144.toInt ≤ 255 := zL1 (b := 256) c153 hx_150.2 (by decide)
                    refine lv_aload_n hx hb dX12_told_136 rfl (lv_at hl 0 rfl) ?_
                    refine va_get (D := g.1) (ci := 10) (v := .ref (a 7)) (C := RX12) (T := TX12) (N := 20) hx hb hts izRX12 hown hK hP 0 rfl rfl 19 (by decide) (hts _ k823) (fun _ h9 => h9) rfl dX12_told_137 ?_
                    refine lv_iload hx hb dX12_told_140 (lv_at hl 4 rfl) ?_
                    refine lv_iconst (v := 1) hx hb dX12_told_142 (by decide) ?_
                    refine va_zast hx hb hK hP hD hS 8 1 rfl rfl (zinK (a := 0) (b := 255) i146.1 n154 (by decide)) dX12_told_143 (fun H locs hP hD hS => ?_)
                    obtain ⟨fi_155, hP, hD⟩ : ∃ fi_155 : Nat → Int32, va_P g.1 vwCl (List.flatten [bMo g o a th hi ac 0 ba en tA fl de iD iO tU fm fk fa fc ft ff fb fi_155]) H ∧ va_D A (List.flatten [bMo g o a th hi ac 0 ba en tA fl de iD iO tU fm fk fa fc ft ff fb fi_155]) := ⟨upd fi_145 x_144.toNatClampNeg (vp_nar .boolean 1), hP, hD⟩
                    refine lv_iconst (v := 0) hx hb dX12_told_144 (by decide) ?_
                    refine lv_istore (lv' := [(5, .int 0), (0, .ref o), (1, .int tp), (2, .int x_132), (3, .int x_143), (4, .int x_144)]) hx hb dX12_told_145 hl (by decide) rfl (fun ls hl => ?_)
                    have hl := lv_sub (l' := [(0, .ref o), (1, .int tp), (2, .int x_132), (3, .int x_143), (4, .int x_144), (5, .int 0)]) hl [1, 2, 3, 4, 5, 0] rfl
                    have LP147_159 : ∀ (kf : Nat) (x_156 : Int32) (fi_157 : Nat → Int32), (0 ≤ x_156.toInt ∧ x_156.toInt ≤ 402) → ∀ (H : Heap) (locs : List Loc) (ls : Array Slot), ((403 - x_156.toInt).toNat) < kf → va_P g.1 vwCl (List.flatten [bMo g o a th hi ac 0 ba en tA fl de iD iO tU fm fk fa fc ft ff fb fi_157]) H → va_D A (List.flatten [bMo g o a th hi ac 0 ba en tA fl de iD iO tU fm fk fa fc ft ff fb fi_157]) → va_S A s.heap H locs → lv_has ls 6 [(0, .ref o), (1, .int tp), (2, .int x_132), (3, .int x_143), (4, .int x_144), (5, .int x_156)] → W p l e ({ frames := 2, cells := 0, slots := 0, locals := 43 } : Room) s m args below meth c H locs (0) (0) (zF g (fun u : (Nat → Int32) × Int32 => (fun (fi2 : Nat → Int32) (q : Int32) => some (.int q)) (u.1) (u.2)) (fun u : (Nat → Int32) × Int32 => (fun (fi2 : Nat → Int32) (q : Int32) => True) (u.1) (u.2)) (fun u : (Nat → Int32) × Int32 => (fun (fi2 : Nat → Int32) (q : Int32) => [bMo g o a th hi ac 0 ba en tA fl de iD iO tU fm fk fa fc ft ff fb fi2]) (u.1) (u.2)) ({ frames := 2, cells := 0, slots := 0, locals := 43 } : Room) below args s A) (F0 m 147 ls []) := by
                      intro kf
                      induction kf with
                      | zero => intro x_156 fi_157 i158 H locs ls hk; exact absurd hk (Nat.not_lt_zero _)
                      | succ kf ih147_160 =>
                        intro x_156 fi_157 i158 H locs ls hk147_160 hP hD hS hl
                        refine lv_iload hx hb dX12_told_147 (lv_at hl 5 rfl) ?_
                        refine lv_iload_n hx hb dX12_told_149 rfl (lv_at hl 1 rfl) ?_
                        refine lv_icmp_ge (tgt := 223) hx hb dX12_told_150 (by decide) (fun cb9 => ?_) (fun cb9 => ?_)
                        · skip
                          have c161 : tp.toInt ≤ x_156.toInt := zle cb9 rfl rfl
                          have n162 : 37 ≤ x_156.toInt := Int.le_trans n131 c161
                          refine lv_iload_n hx hb dX12_told_223 rfl (lv_at hl 3 rfl) ?_
                          refine lv_aload_n hx hb dX12_told_224 rfl (lv_at hl 0 rfl) ?_
                          refine va_get (D := g.1) (ci := 10) (v := .ref (a 7)) (C := RX12) (T := TX12) (N := 20) hx hb hts izRX12 hown hK hP 0 rfl rfl 19 (by decide) (hts _ k823) (fun _ h9 => h9) rfl dX12_told_225 ?_
                          refine lv_iload hx hb dX12_told_228 (lv_at hl 4 rfl) ?_
                          refine va_zald hx hb hK hP 8 1 rfl rfl (zinK (a := 0) (b := 255) i146.1 n154 (by decide)) dX12_told_230 ?_
                          refine zg (fun x_163 => ?_)
                          refine lv_if_eq (tgt := 238) hx hb dX12_told_231 (by decide) (fun cb9 => ?_) (fun cb9 => ?_)
                          · skip
                            have c164 : x_163.toInt = 0 := zeq cb9 rfl (by decide)
                            have n165 : 0 ≤ x_163.toInt := Int.le_trans (Int.le_refl _) (Int.le_of_eq c164.symm)
                            have n166 : x_163.toInt ≤ 0 := Int.le_trans (Int.le_of_eq c164) (Int.le_refl _)
                            refine lv_iconst (v := 0) hx hb dX12_told_238 (by decide) ?_
                            refine lv_iadd hx hb dX12_told_239 ?_
                            refine zg (fun x_167 => ?_)
                            refine lv_istore_n (lv' := [(3, .int x_167), (0, .ref o), (1, .int tp), (2, .int x_132), (4, .int x_144), (5, .int x_156)]) hx hb dX12_told_240 rfl hl (by decide) rfl (fun ls hl => ?_)
                            refine ziinc3 (n' := 1) (a' := 1) (b' := 256) (lv' := fun v9 => [(4, .int v9), (3, .int x_167), (0, .ref o), (1, .int tp), (2, .int x_132), (5, .int x_156)]) hx hb dX12_told_241 hl (k := 4) rfl (by decide) (fun _ => rfl) (zaddK (i := x_144.toInt) (j := 1) rfl (by decide) i146.1 n154 (Int.le_refl _) (Int.le_refl _) (by decide)) (fun x_168 ls hx_168 hl => ?_)
                            refine lv_goto (tgt := 123) hx hb dX12_told_244 (by decide) ?_
                            have hl := lv_sub (l' := [(0, .ref o), (1, .int tp), (2, .int x_132), (3, .int x_167), (4, .int x_168), (5, .int x_156)]) hl [2, 3, 4, 1, 0, 5] rfl
                            have hP : va_P g.1 vwCl (List.flatten [bMo g o a th hi ac 0 ba en tA fl de iD iO tU fm fk fa fc ft ff fb fi_157]) H := hP
                            have hD : va_D A (List.flatten [bMo g o a th hi ac 0 ba en tA fl de iD iO tU fm fk fa fc ft ff fb fi_157]) := hD
                            exact ih123_148 x_167 x_168 fi_157 ⟨(Int.le_trans (by decide) hx_168.2.1), hx_168.2.2⟩ H _ ls (zmK hx_168.1 (by decide) n154 (by decide) hk123_148)  hP hD hS (lv_sub hl [0, 1, 2, 3, 4] rfl)
                          · skip
                            have c169 : ¬ x_163.toInt = 0 := zne cb9 rfl (by decide)
                            refine lv_iconst (v := 1) hx hb dX12_told_234 (by decide) ?_
                            refine lv_goto (tgt := 239) hx hb dX12_told_235 (by decide) ?_
                            refine lv_iadd hx hb dX12_told_239 ?_
                            refine zg (fun x_170 => ?_)
                            refine lv_istore_n (lv' := [(3, .int x_170), (0, .ref o), (1, .int tp), (2, .int x_132), (4, .int x_144), (5, .int x_156)]) hx hb dX12_told_240 rfl hl (by decide) rfl (fun ls hl => ?_)
                            refine ziinc3 (n' := 1) (a' := 1) (b' := 256) (lv' := fun v9 => [(4, .int v9), (3, .int x_170), (0, .ref o), (1, .int tp), (2, .int x_132), (5, .int x_156)]) hx hb dX12_told_241 hl (k := 4) rfl (by decide) (fun _ => rfl) (zaddK (i := x_144.toInt) (j := 1) rfl (by decide) i146.1 n154 (Int.le_refl _) (Int.le_refl _) (by decide)) (fun x_171 ls hx_171 hl => ?_)
                            refine lv_goto (tgt := 123) hx hb dX12_told_244 (by decide) ?_
                            have hl := lv_sub (l' := [(0, .ref o), (1, .int tp), (2, .int x_132), (3, .int x_170), (4, .int x_171), (5, .int x_156)]) hl [2, 3, 4, 1, 0, 5] rfl
                            have hP : va_P g.1 vwCl (List.flatten [bMo g o a th hi ac 0 ba en tA fl de iD iO tU fm fk fa fc ft ff fb fi_157]) H := hP
                            have hD : va_D A (List.flatten [bMo g o a th hi ac 0 ba en tA fl de iD iO tU fm fk fa fc ft ff fb fi_157]) := hD
                            exact ih123_148 x_170 x_171 fi_157 ⟨(Int.le_trans (by decide) hx_171.2.1), hx_171.2.2⟩ H _ ls (zmK hx_171.1 (by decide) n154 (by decide) hk123_148)  hP hD hS (lv_sub hl [0, 1, 2, 3, 4] rfl)
                        · skip
                          have c172 : x_156.toInt < tp.toInt := zlti (Int32.not_le.mp cb9) rfl rfl
                          have n173 : x_156.toInt ≤ 399 := zL1 (b := 400) c172 htp.2 (by decide)
                          refine lv_aload_n hx hb dX12_told_153 rfl (lv_at hl 0 rfl) ?_
                          refine va_get (D := g.1) (ci := 10) (v := .ref (a 7)) (C := RX12) (T := TX12) (N := 20) hx hb hts izRX12 hown hK hP 0 rfl rfl 19 (by decide) (hts _ k823) (fun _ h9 => h9) rfl dX12_told_154 ?_
                          refine lv_iload hx hb dX12_told_157 (lv_at hl 4 rfl) ?_
                          refine va_zald hx hb hK hP 8 1 rfl rfl (zinK (a := 0) (b := 255) i146.1 n154 (by decide)) dX12_told_159 ?_
                          refine zg (fun x_174 => ?_)
                          refine lv_if_eq (tgt := 223) hx hb dX12_told_160 (by decide) (fun cb9 => ?_) (fun cb9 => ?_)
                          · skip
                            have c175 : x_174.toInt = 0 := zeq cb9 rfl (by decide)
                            have n176 : 0 ≤ x_174.toInt := Int.le_trans (Int.le_refl _) (Int.le_of_eq c175.symm)
                            have n177 : x_174.toInt ≤ 0 := Int.le_trans (Int.le_of_eq c175) (Int.le_refl _)
                            refine lv_iload_n hx hb dX12_told_223 rfl (lv_at hl 3 rfl) ?_
                            refine lv_aload_n hx hb dX12_told_224 rfl (lv_at hl 0 rfl) ?_
                            refine va_get (D := g.1) (ci := 10) (v := .ref (a 7)) (C := RX12) (T := TX12) (N := 20) hx hb hts izRX12 hown hK hP 0 rfl rfl 19 (by decide) (hts _ k823) (fun _ h9 => h9) rfl dX12_told_225 ?_
                            refine lv_iload hx hb dX12_told_228 (lv_at hl 4 rfl) ?_
                            refine va_zald hx hb hK hP 8 1 rfl rfl (zinK (a := 0) (b := 255) i146.1 n154 (by decide)) dX12_told_230 ?_
                            refine zg (fun x_178 => ?_)
                            refine lv_if_eq (tgt := 238) hx hb dX12_told_231 (by decide) (fun cb9 => ?_) (fun cb9 => ?_)
                            · skip
                              have c179 : x_178.toInt = 0 := zeq cb9 rfl (by decide)
                              have n180 : 0 ≤ x_178.toInt := Int.le_trans (Int.le_refl _) (Int.le_of_eq c179.symm)
                              have n181 : x_178.toInt ≤ 0 := Int.le_trans (Int.le_of_eq c179) (Int.le_refl _)
                              refine lv_iconst (v := 0) hx hb dX12_told_238 (by decide) ?_
                              refine lv_iadd hx hb dX12_told_239 ?_
                              refine zg (fun x_182 => ?_)
                              refine lv_istore_n (lv' := [(3, .int x_182), (0, .ref o), (1, .int tp), (2, .int x_132), (4, .int x_144), (5, .int x_156)]) hx hb dX12_told_240 rfl hl (by decide) rfl (fun ls hl => ?_)
                              refine ziinc3 (n' := 1) (a' := 1) (b' := 256) (lv' := fun v9 => [(4, .int v9), (3, .int x_182), (0, .ref o), (1, .int tp), (2, .int x_132), (5, .int x_156)]) hx hb dX12_told_241 hl (k := 4) rfl (by decide) (fun _ => rfl) (zaddK (i := x_144.toInt) (j := 1) rfl (by decide) i146.1 n154 (Int.le_refl _) (Int.le_refl _) (by decide)) (fun x_183 ls hx_183 hl => ?_)
                              refine lv_goto (tgt := 123) hx hb dX12_told_244 (by decide) ?_
                              have hl := lv_sub (l' := [(0, .ref o), (1, .int tp), (2, .int x_132), (3, .int x_182), (4, .int x_183), (5, .int x_156)]) hl [2, 3, 4, 1, 0, 5] rfl
                              have hP : va_P g.1 vwCl (List.flatten [bMo g o a th hi ac 0 ba en tA fl de iD iO tU fm fk fa fc ft ff fb fi_157]) H := hP
                              have hD : va_D A (List.flatten [bMo g o a th hi ac 0 ba en tA fl de iD iO tU fm fk fa fc ft ff fb fi_157]) := hD
                              exact ih123_148 x_182 x_183 fi_157 ⟨(Int.le_trans (by decide) hx_183.2.1), hx_183.2.2⟩ H _ ls (zmK hx_183.1 (by decide) n154 (by decide) hk123_148)  hP hD hS (lv_sub hl [0, 1, 2, 3, 4] rfl)
                            · skip
                              have c184 : ¬ x_178.toInt = 0 := zne cb9 rfl (by decide)
                              refine lv_iconst (v := 1) hx hb dX12_told_234 (by decide) ?_
                              refine lv_goto (tgt := 239) hx hb dX12_told_235 (by decide) ?_
                              refine lv_iadd hx hb dX12_told_239 ?_
                              refine zg (fun x_185 => ?_)
                              refine lv_istore_n (lv' := [(3, .int x_185), (0, .ref o), (1, .int tp), (2, .int x_132), (4, .int x_144), (5, .int x_156)]) hx hb dX12_told_240 rfl hl (by decide) rfl (fun ls hl => ?_)
                              refine ziinc3 (n' := 1) (a' := 1) (b' := 256) (lv' := fun v9 => [(4, .int v9), (3, .int x_185), (0, .ref o), (1, .int tp), (2, .int x_132), (5, .int x_156)]) hx hb dX12_told_241 hl (k := 4) rfl (by decide) (fun _ => rfl) (zaddK (i := x_144.toInt) (j := 1) rfl (by decide) i146.1 n154 (Int.le_refl _) (Int.le_refl _) (by decide)) (fun x_186 ls hx_186 hl => ?_)
                              refine lv_goto (tgt := 123) hx hb dX12_told_244 (by decide) ?_
                              have hl := lv_sub (l' := [(0, .ref o), (1, .int tp), (2, .int x_132), (3, .int x_185), (4, .int x_186), (5, .int x_156)]) hl [2, 3, 4, 1, 0, 5] rfl
                              have hP : va_P g.1 vwCl (List.flatten [bMo g o a th hi ac 0 ba en tA fl de iD iO tU fm fk fa fc ft ff fb fi_157]) H := hP
                              have hD : va_D A (List.flatten [bMo g o a th hi ac 0 ba en tA fl de iD iO tU fm fk fa fc ft ff fb fi_157]) := hD
                              exact ih123_148 x_185 x_186 fi_157 ⟨(Int.le_trans (by decide) hx_186.2.1), hx_186.2.2⟩ H _ ls (zmK hx_186.1 (by decide) n154 (by decide) hk123_148)  hP hD hS (lv_sub hl [0, 1, 2, 3, 4] rfl)
                          · skip
                            have c187 : ¬ x_174.toInt = 0 := zne cb9 rfl (by decide)
                            refine lv_aload_n hx hb dX12_told_163 rfl (lv_at hl 0 rfl) ?_
                            refine va_get (D := g.1) (ci := 10) (v := .ref (a 7)) (C := RX12) (T := TX12) (N := 20) hx hb hts izRX12 hown hK hP 0 rfl rfl 19 (by decide) (hts _ k823) (fun _ h9 => h9) rfl dX12_told_164 ?_
                            refine lv_iload hx hb dX12_told_167 (lv_at hl 4 rfl) ?_
                            refine lv_iload hx hb dX12_told_169 (lv_at hl 4 rfl) ?_
                            refine lv_aload_n hx hb dX12_told_171 rfl (lv_at hl 0 rfl) ?_
                            refine va_get (D := g.1) (ci := 10) (v := .ref (a 4)) (C := RX12) (T := TX12) (N := 20) hx hb hts izRX12 hown hK hP 0 rfl rfl 7 (by decide) (hts _ k819) (fun _ h9 => h9) rfl dX12_told_172 ?_
                            refine lv_iload hx hb dX12_told_175 (lv_at hl 5 rfl) ?_
                            refine va_iald hx hb hK hP 5 0 rfl rfl (zinK (a := 0) (b := 399) i158.1 n173 (by decide)) dX12_told_177 ?_
                            refine zg (fun x_188 => ?_)
                            refine lv_aload_n hx hb dX12_told_178 rfl (lv_at hl 0 rfl) ?_
                            refine va_get (D := g.1) (ci := 10) (v := .ref (a 4)) (C := RX12) (T := TX12) (N := 20) hx hb hts izRX12 hown hK hP 0 rfl rfl 7 (by decide) (hts _ k819) (fun _ h9 => h9) rfl dX12_told_179 ?_
                            refine lv_iload hx hb dX12_told_182 (lv_at hl 5 rfl) ?_
                            refine lv_iconst (v := 1) hx hb dX12_told_184 (by decide) ?_
                            refine lv_iadd hx hb dX12_told_185 ?_
                            refine zg3 (zaddK (i := x_156.toInt) (j := 1) (a' := 1) (b' := 400) rfl (by decide) i158.1 n173 (Int.le_refl _) (Int.le_refl _) (by decide)) (fun x_189 hx_189 => ?_)
                            refine va_iald hx hb hK hP 5 0 rfl rfl (zinI (by omega) (by omega)) dX12_told_186 ?_
                            refine zg (fun x_190 => ?_)
                            refine mcallS' (g := g) (As := [.int x_144, .int x_188, .int x_190]) (rest := [.int x_144, .ref (a 7)]) St hK hT hA hP hD hS hl.1 [] [0] rfl rfl rfl (m_says l g x_144 x_188 x_190 ) (va_cwS 3 hts (zgL (zl3 k1101 k1102 k839) k1099) rfl rfl rfl (by decide +kernel) ⟨Nat.le_of_ble_eq_true rfl, Nat.le_of_ble_eq_true rfl⟩) rfl rfl (Nat.le_of_ble_eq_true rfl) dX12_told_187 ⟨(Nat.le_of_ble_eq_true rfl), (Nat.le_of_ble_eq_true rfl)⟩ (fun q_191 H locs hq192 hP hD hS => ?_)
                            replace hq192 : (q_191 = 0 ∨ q_191 = 1) := hq192
                            have hP : va_P g.1 vwCl (List.flatten [bMo g o a th hi ac 0 ba en tA fl de iD iO tU fm fk fa fc ft ff fb fi_157]) H := hP
                            have hD : va_D A (List.flatten [bMo g o a th hi ac 0 ba en tA fl de iD iO tU fm fk fa fc ft ff fb fi_157]) := hD
                            refine W.widen (k := 0) (n := 0) (Nat.le_of_ble_eq_true rfl) (Nat.le_of_ble_eq_true rfl) ?_
                            refine W.eq (g2 := F0 m 190 ls [.int q_191, .int x_144, .ref (a 7)]) rfl ?_
                            rcases hq192 with rfl | rfl
                            · skip
                              refine lv_aload_n hx hb dX12_told_190 rfl (lv_at hl 0 rfl) ?_
                              refine va_get (D := g.1) (ci := 10) (v := .ref (a 4)) (C := RX12) (T := TX12) (N := 20) hx hb hts izRX12 hown hK hP 0 rfl rfl 7 (by decide) (hts _ k819) (fun _ h9 => h9) rfl dX12_told_191 ?_
                              refine lv_iload hx hb dX12_told_194 (lv_at hl 5 rfl) ?_
                              refine lv_iconst (v := 2) hx hb dX12_told_196 (by decide) ?_
                              refine lv_iadd hx hb dX12_told_197 ?_
                              refine zg3 (zaddK (i := x_156.toInt) (j := 2) (a' := 2) (b' := 401) rfl (by decide) i158.1 n173 (Int.le_refl _) (Int.le_refl _) (by decide)) (fun x_193 hx_193 => ?_)
                              refine va_iald hx hb hK hP 5 0 rfl rfl (zinI (by omega) (by omega)) dX12_told_198 ?_
                              refine zg (fun x_194 => ?_)
                              refine lv_iconst (v := 1) hx hb dX12_told_199 (by decide) ?_
                              refine lv_icmp_ne (tgt := 207) hx hb dX12_told_200 (by decide) (fun cb9 => ?_) (fun cb9 => ?_)
                              · skip
                                have c195 : ¬ x_194.toInt = 1 := zne cb9 rfl (by decide)
                                refine lv_iconst (v := 0) hx hb dX12_told_207 (by decide) ?_
                                refine lv_icmp_ne (tgt := 215) hx hb dX12_told_208 (by decide) (fun c196 => absurd (by decide) c196) (fun _ => ?_)
                                refine lv_iconst (v := 1) hx hb dX12_told_211 (by decide) ?_
                                refine lv_goto (tgt := 216) hx hb dX12_told_212 (by decide) ?_
                                refine va_zast hx hb hK hP hD hS 8 1 rfl rfl (zinK (a := 0) (b := 255) i146.1 n154 (by decide)) dX12_told_216 (fun H locs hP hD hS => ?_)
                                obtain ⟨fi_197, hP, hD⟩ : ∃ fi_197 : Nat → Int32, va_P g.1 vwCl (List.flatten [bMo g o a th hi ac 0 ba en tA fl de iD iO tU fm fk fa fc ft ff fb fi_197]) H ∧ va_D A (List.flatten [bMo g o a th hi ac 0 ba en tA fl de iD iO tU fm fk fa fc ft ff fb fi_197]) := ⟨upd fi_157 x_144.toNatClampNeg (vp_nar .boolean 1), hP, hD⟩
                                refine ziinc3 (n' := 3) (a' := 3) (b' := 402) (lv' := fun v9 => [(5, .int v9), (0, .ref o), (1, .int tp), (2, .int x_132), (3, .int x_143), (4, .int x_144)]) hx hb dX12_told_217 hl (k := 5) rfl (by decide) (fun _ => rfl) (zaddK (i := x_156.toInt) (j := 3) rfl (by decide) i158.1 n173 (Int.le_refl _) (Int.le_refl _) (by decide)) (fun x_198 ls hx_198 hl => ?_)
                                refine lv_goto (tgt := 147) hx hb dX12_told_220 (by decide) ?_
                                have hl := lv_sub (l' := [(0, .ref o), (1, .int tp), (2, .int x_132), (3, .int x_143), (4, .int x_144), (5, .int x_198)]) hl [1, 2, 3, 4, 5, 0] rfl
                                have hP : va_P g.1 vwCl (List.flatten [bMo g o a th hi ac 0 ba en tA fl de iD iO tU fm fk fa fc ft ff fb fi_197]) H := hP
                                have hD : va_D A (List.flatten [bMo g o a th hi ac 0 ba en tA fl de iD iO tU fm fk fa fc ft ff fb fi_197]) := hD
                                exact ih147_160 x_198 fi_197 ⟨(Int.le_trans (by decide) hx_198.2.1), hx_198.2.2⟩ H _ ls (zmK hx_198.1 (by decide) n173 (by decide) hk147_160)  hP hD hS (lv_sub hl [0, 1, 2, 3, 4, 5] rfl)
                              · skip
                                have c199 : x_194.toInt = 1 := zeq cb9 rfl (by decide)
                                have n200 : 1 ≤ x_194.toInt := Int.le_trans (Int.le_refl _) (Int.le_of_eq c199.symm)
                                have n201 : x_194.toInt ≤ 1 := Int.le_trans (Int.le_of_eq c199) (Int.le_refl _)
                                refine lv_iconst (v := 1) hx hb dX12_told_203 (by decide) ?_
                                refine lv_goto (tgt := 208) hx hb dX12_told_204 (by decide) ?_
                                refine lv_icmp_ne (tgt := 215) hx hb dX12_told_208 (by decide) (fun _ => ?_) (fun c202 => absurd c202 (by decide))
                                refine lv_iconst (v := 0) hx hb dX12_told_215 (by decide) ?_
                                refine va_zast hx hb hK hP hD hS 8 1 rfl rfl (zinK (a := 0) (b := 255) i146.1 n154 (by decide)) dX12_told_216 (fun H locs hP hD hS => ?_)
                                obtain ⟨fi_203, hP, hD⟩ : ∃ fi_203 : Nat → Int32, va_P g.1 vwCl (List.flatten [bMo g o a th hi ac 0 ba en tA fl de iD iO tU fm fk fa fc ft ff fb fi_203]) H ∧ va_D A (List.flatten [bMo g o a th hi ac 0 ba en tA fl de iD iO tU fm fk fa fc ft ff fb fi_203]) := ⟨upd fi_157 x_144.toNatClampNeg (vp_nar .boolean 0), hP, hD⟩
                                refine ziinc3 (n' := 3) (a' := 3) (b' := 402) (lv' := fun v9 => [(5, .int v9), (0, .ref o), (1, .int tp), (2, .int x_132), (3, .int x_143), (4, .int x_144)]) hx hb dX12_told_217 hl (k := 5) rfl (by decide) (fun _ => rfl) (zaddK (i := x_156.toInt) (j := 3) rfl (by decide) i158.1 n173 (Int.le_refl _) (Int.le_refl _) (by decide)) (fun x_204 ls hx_204 hl => ?_)
                                refine lv_goto (tgt := 147) hx hb dX12_told_220 (by decide) ?_
                                have hl := lv_sub (l' := [(0, .ref o), (1, .int tp), (2, .int x_132), (3, .int x_143), (4, .int x_144), (5, .int x_204)]) hl [1, 2, 3, 4, 5, 0] rfl
                                have hP : va_P g.1 vwCl (List.flatten [bMo g o a th hi ac 0 ba en tA fl de iD iO tU fm fk fa fc ft ff fb fi_203]) H := hP
                                have hD : va_D A (List.flatten [bMo g o a th hi ac 0 ba en tA fl de iD iO tU fm fk fa fc ft ff fb fi_203]) := hD
                                exact ih147_160 x_204 fi_203 ⟨(Int.le_trans (by decide) hx_204.2.1), hx_204.2.2⟩ H _ ls (zmK hx_204.1 (by decide) n173 (by decide) hk147_160)  hP hD hS (lv_sub hl [0, 1, 2, 3, 4, 5] rfl)
                            · skip
                              refine lv_aload_n hx hb dX12_told_190 rfl (lv_at hl 0 rfl) ?_
                              refine va_get (D := g.1) (ci := 10) (v := .ref (a 4)) (C := RX12) (T := TX12) (N := 20) hx hb hts izRX12 hown hK hP 0 rfl rfl 7 (by decide) (hts _ k819) (fun _ h9 => h9) rfl dX12_told_191 ?_
                              refine lv_iload hx hb dX12_told_194 (lv_at hl 5 rfl) ?_
                              refine lv_iconst (v := 2) hx hb dX12_told_196 (by decide) ?_
                              refine lv_iadd hx hb dX12_told_197 ?_
                              refine zg3 (zaddK (i := x_156.toInt) (j := 2) (a' := 2) (b' := 401) rfl (by decide) i158.1 n173 (Int.le_refl _) (Int.le_refl _) (by decide)) (fun x_205 hx_205 => ?_)
                              refine va_iald hx hb hK hP 5 0 rfl rfl (zinI (by omega) (by omega)) dX12_told_198 ?_
                              refine zg (fun x_206 => ?_)
                              refine lv_iconst (v := 1) hx hb dX12_told_199 (by decide) ?_
                              refine lv_icmp_ne (tgt := 207) hx hb dX12_told_200 (by decide) (fun cb9 => ?_) (fun cb9 => ?_)
                              · skip
                                have c207 : ¬ x_206.toInt = 1 := zne cb9 rfl (by decide)
                                refine lv_iconst (v := 0) hx hb dX12_told_207 (by decide) ?_
                                refine lv_icmp_ne (tgt := 215) hx hb dX12_told_208 (by decide) (fun _ => ?_) (fun c208 => absurd c208 (by decide))
                                refine lv_iconst (v := 0) hx hb dX12_told_215 (by decide) ?_
                                refine va_zast hx hb hK hP hD hS 8 1 rfl rfl (zinK (a := 0) (b := 255) i146.1 n154 (by decide)) dX12_told_216 (fun H locs hP hD hS => ?_)
                                obtain ⟨fi_209, hP, hD⟩ : ∃ fi_209 : Nat → Int32, va_P g.1 vwCl (List.flatten [bMo g o a th hi ac 0 ba en tA fl de iD iO tU fm fk fa fc ft ff fb fi_209]) H ∧ va_D A (List.flatten [bMo g o a th hi ac 0 ba en tA fl de iD iO tU fm fk fa fc ft ff fb fi_209]) := ⟨upd fi_157 x_144.toNatClampNeg (vp_nar .boolean 0), hP, hD⟩
                                refine ziinc3 (n' := 3) (a' := 3) (b' := 402) (lv' := fun v9 => [(5, .int v9), (0, .ref o), (1, .int tp), (2, .int x_132), (3, .int x_143), (4, .int x_144)]) hx hb dX12_told_217 hl (k := 5) rfl (by decide) (fun _ => rfl) (zaddK (i := x_156.toInt) (j := 3) rfl (by decide) i158.1 n173 (Int.le_refl _) (Int.le_refl _) (by decide)) (fun x_210 ls hx_210 hl => ?_)
                                refine lv_goto (tgt := 147) hx hb dX12_told_220 (by decide) ?_
                                have hl := lv_sub (l' := [(0, .ref o), (1, .int tp), (2, .int x_132), (3, .int x_143), (4, .int x_144), (5, .int x_210)]) hl [1, 2, 3, 4, 5, 0] rfl
                                have hP : va_P g.1 vwCl (List.flatten [bMo g o a th hi ac 0 ba en tA fl de iD iO tU fm fk fa fc ft ff fb fi_209]) H := hP
                                have hD : va_D A (List.flatten [bMo g o a th hi ac 0 ba en tA fl de iD iO tU fm fk fa fc ft ff fb fi_209]) := hD
                                exact ih147_160 x_210 fi_209 ⟨(Int.le_trans (by decide) hx_210.2.1), hx_210.2.2⟩ H _ ls (zmK hx_210.1 (by decide) n173 (by decide) hk147_160)  hP hD hS (lv_sub hl [0, 1, 2, 3, 4, 5] rfl)
                              · skip
                                have c211 : x_206.toInt = 1 := zeq cb9 rfl (by decide)
                                have n212 : 1 ≤ x_206.toInt := Int.le_trans (Int.le_refl _) (Int.le_of_eq c211.symm)
                                have n213 : x_206.toInt ≤ 1 := Int.le_trans (Int.le_of_eq c211) (Int.le_refl _)
                                refine lv_iconst (v := 1) hx hb dX12_told_203 (by decide) ?_
                                refine lv_goto (tgt := 208) hx hb dX12_told_204 (by decide) ?_
                                refine lv_icmp_ne (tgt := 215) hx hb dX12_told_208 (by decide) (fun c214 => absurd (by decide) c214) (fun _ => ?_)
                                refine lv_iconst (v := 1) hx hb dX12_told_211 (by decide) ?_
                                refine lv_goto (tgt := 216) hx hb dX12_told_212 (by decide) ?_
                                refine va_zast hx hb hK hP hD hS 8 1 rfl rfl (zinK (a := 0) (b := 255) i146.1 n154 (by decide)) dX12_told_216 (fun H locs hP hD hS => ?_)
                                obtain ⟨fi_215, hP, hD⟩ : ∃ fi_215 : Nat → Int32, va_P g.1 vwCl (List.flatten [bMo g o a th hi ac 0 ba en tA fl de iD iO tU fm fk fa fc ft ff fb fi_215]) H ∧ va_D A (List.flatten [bMo g o a th hi ac 0 ba en tA fl de iD iO tU fm fk fa fc ft ff fb fi_215]) := ⟨upd fi_157 x_144.toNatClampNeg (vp_nar .boolean 1), hP, hD⟩
                                refine ziinc3 (n' := 3) (a' := 3) (b' := 402) (lv' := fun v9 => [(5, .int v9), (0, .ref o), (1, .int tp), (2, .int x_132), (3, .int x_143), (4, .int x_144)]) hx hb dX12_told_217 hl (k := 5) rfl (by decide) (fun _ => rfl) (zaddK (i := x_156.toInt) (j := 3) rfl (by decide) i158.1 n173 (Int.le_refl _) (Int.le_refl _) (by decide)) (fun x_216 ls hx_216 hl => ?_)
                                refine lv_goto (tgt := 147) hx hb dX12_told_220 (by decide) ?_
                                have hl := lv_sub (l' := [(0, .ref o), (1, .int tp), (2, .int x_132), (3, .int x_143), (4, .int x_144), (5, .int x_216)]) hl [1, 2, 3, 4, 5, 0] rfl
                                have hP : va_P g.1 vwCl (List.flatten [bMo g o a th hi ac 0 ba en tA fl de iD iO tU fm fk fa fc ft ff fb fi_215]) H := hP
                                have hD : va_D A (List.flatten [bMo g o a th hi ac 0 ba en tA fl de iD iO tU fm fk fa fc ft ff fb fi_215]) := hD
                                exact ih147_160 x_216 fi_215 ⟨(Int.le_trans (by decide) hx_216.2.1), hx_216.2.2⟩ H _ ls (zmK hx_216.1 (by decide) n173 (by decide) hk147_160)  hP hD hS (lv_sub hl [0, 1, 2, 3, 4, 5] rfl)
                    have hP : va_P g.1 vwCl (List.flatten [bMo g o a th hi ac 0 ba en tA fl de iD iO tU fm fk fa fc ft ff fb fi_155]) H := hP
                    have hD : va_D A (List.flatten [bMo g o a th hi ac 0 ba en tA fl de iD iO tU fm fk fa fc ft ff fb fi_155]) := hD
                    exact LP147_159 _ 0 fi_155 (by decide) H _ ls (Nat.lt_succ_self _)  hP hD hS (lv_sub hl [0, 1, 2, 3, 4, 5] rfl)
              have hP : va_P g.1 vwCl (List.flatten [bMo g o a th hi ac 0 ba en tA fl de iD iO tU fm fk fa fc ft ff fb fi]) H := hP
              have hD : va_D A (List.flatten [bMo g o a th hi ac 0 ba en tA fl de iD iO tU fm fk fa fc ft ff fb fi]) := hD
              exact LP123_147 _ 0 0 fi (by decide) H _ ls (Nat.lt_succ_self _)  hP hD hS (lv_sub hl [0, 1, 2, 3, 4] rfl)
            · skip
              have c217 : x_132.toInt = 0 := zeq cb9 rfl (by decide)
              have n218 : x_132.toInt ≤ 0 := Int.le_trans (Int.le_of_eq c217) (Int.le_refl _)
              refine lv_iconst (v := (-1)) hx hb dX12_told_116 (by decide) ?_
              have hP : va_P g.1 vwCl (List.flatten [bMo g o a th hi ac 0 ba en tA fl de iD iO tU fm fk fa fc ft ff fb fi]) H := hP
              have hD : va_D A (List.flatten [bMo g o a th hi ac 0 ba en tA fl de iD iO tU fm fk fa fc ft ff fb fi]) := hD
              exact mret_i hx hb hr hlocks hS (Nat.le_of_ble_eq_true rfl) (Nat.le_of_ble_eq_true rfl) dX12_told_117 (fi, -1) rfl trivial hP hD
          · skip
            have c219 : x_133.toInt < tp.toInt := zlti (Int32.not_le.mp cb9) rfl rfl
            have n220 : x_133.toInt ≤ 399 := zL1 (b := 400) c219 htp.2 (by decide)
            refine lv_iload_n hx hb dX12_told_35 rfl (lv_at hl 2 rfl) ?_
            refine lv_if_eq (tgt := 112) hx hb dX12_told_36 (by decide) (fun cb9 => ?_) (fun cb9 => ?_)
            · skip
              have c221 : x_132.toInt = 0 := zeq cb9 rfl (by decide)
              have n222 : x_132.toInt ≤ 0 := Int.le_trans (Int.le_of_eq c221) (Int.le_refl _)
              refine lv_iload_n hx hb dX12_told_112 rfl (lv_at hl 2 rfl) ?_
              refine lv_if_ne (tgt := 118) hx hb dX12_told_113 (by decide) (fun cb9 => ?_) (fun cb9 => ?_)
              · skip
                exact absurd (show ¬ x_132.toInt = 0 from zne cb9 rfl (by decide)) (by omega)
              · skip
                have c224 : x_132.toInt = 0 := zeq cb9 rfl (by decide)
                refine lv_iconst (v := (-1)) hx hb dX12_told_116 (by decide) ?_
                have hP : va_P g.1 vwCl (List.flatten [bMo g o a th hi ac 0 ba en tA fl de iD iO tU fm fk fa fc ft ff fb fi]) H := hP
                have hD : va_D A (List.flatten [bMo g o a th hi ac 0 ba en tA fl de iD iO tU fm fk fa fc ft ff fb fi]) := hD
                exact mret_i hx hb hr hlocks hS (Nat.le_of_ble_eq_true rfl) (Nat.le_of_ble_eq_true rfl) dX12_told_117 (fi, -1) rfl trivial hP hD
            · skip
              have c225 : ¬ x_132.toInt = 0 := zne cb9 rfl (by decide)
              have n226 : 1 ≤ x_132.toInt := zN1 c225 i134.1 (by decide)
              refine lv_aload_n hx hb dX12_told_39 rfl (lv_at hl 0 rfl) ?_
              refine va_get (D := g.1) (ci := 10) (v := .ref (a 4)) (C := RX12) (T := TX12) (N := 20) hx hb hts izRX12 hown hK hP 0 rfl rfl 7 (by decide) (hts _ k819) (fun _ h9 => h9) rfl dX12_told_40 ?_
              refine lv_iload_n hx hb dX12_told_43 rfl (lv_at hl 3 rfl) ?_
              refine va_iald hx hb hK hP 5 0 rfl rfl (zinK (a := 0) (b := 399) i135.1 n220 (by decide)) dX12_told_44 ?_
              refine zg (fun x_227 => ?_)
              refine lv_aload_n hx hb dX12_told_45 rfl (lv_at hl 0 rfl) ?_
              refine va_get (D := g.1) (ci := 10) (v := .ref (a 0)) (C := RX12) (T := TX12) (N := 20) hx hb hts izRX12 hown hK hP 0 rfl rfl 1 (by decide) (hts _ k815) (fun _ h9 => h9) rfl dX12_told_46 ?_
              refine lv_iconst (v := 3) hx hb dX12_told_49 (by decide) ?_
              refine va_iald hx hb hK hP 1 0 rfl rfl (zin rfl) dX12_told_50 ?_
              refine zgq (r := fm 3) rfl (rM3 rfm) (fun x_228 hx_228 => ?_)
              refine lv_icmp_ge (tgt := 104) hx hb dX12_told_51 (by decide) (fun cb9 => ?_) (fun cb9 => ?_)
              · skip
                have c229 : x_228.toInt ≤ x_227.toInt := zle cb9 rfl rfl
                have n230 : 0 ≤ x_227.toInt := Int.le_trans hx_228.1 c229
                refine lv_iconst (v := 0) hx hb dX12_told_104 (by decide) ?_
                refine lv_istore_n (lv' := [(2, .int 0), (0, .ref o), (1, .int tp), (3, .int x_133)]) hx hb dX12_told_105 rfl hl (by decide) rfl (fun ls hl => ?_)
                refine ziinc3 (n' := 3) (a' := 3) (b' := 402) (lv' := fun v9 => [(3, .int v9), (2, .int 0), (0, .ref o), (1, .int tp)]) hx hb dX12_told_106 hl (k := 3) rfl (by decide) (fun _ => rfl) (zaddK (i := x_133.toInt) (j := 3) rfl (by decide) i135.1 n220 (Int.le_refl _) (Int.le_refl _) (by decide)) (fun x_231 ls hx_231 hl => ?_)
                refine lv_goto (tgt := 30) hx hb dX12_told_109 (by decide) ?_
                have hl := lv_sub (l' := [(0, .ref o), (1, .int tp), (2, .int 0), (3, .int x_231)]) hl [2, 3, 1, 0] rfl
                have hL0 : (0 : Int32).toInt = 0 := by decide
                have hP : va_P g.1 vwCl (List.flatten [bMo g o a th hi ac 0 ba en tA fl de iD iO tU fm fk fa fc ft ff fb fi]) H := hP
                have hD : va_D A (List.flatten [bMo g o a th hi ac 0 ba en tA fl de iD iO tU fm fk fa fc ft ff fb fi]) := hD
                exact ih30_138 0 x_231 (by decide) ⟨(Int.le_trans (by decide) hx_231.2.1), hx_231.2.2⟩ (by first | omega | assumption | decide) H _ ls (zmK hx_231.1 (by decide) n220 (by decide) hk30_138)  hP hD hS (lv_sub hl [0, 1, 2, 3] rfl)
              · skip
                have c232 : x_227.toInt < x_228.toInt := zlti (Int32.not_le.mp cb9) rfl rfl
                have n233 : x_227.toInt ≤ 7 := zL1 (b := 8) c232 hx_228.2.1 (by decide)
                refine lv_aload_n hx hb dX12_told_54 rfl (lv_at hl 0 rfl) ?_
                refine va_get (D := g.1) (ci := 10) (v := .ref (a 4)) (C := RX12) (T := TX12) (N := 20) hx hb hts izRX12 hown hK hP 0 rfl rfl 7 (by decide) (hts _ k819) (fun _ h9 => h9) rfl dX12_told_55 ?_
                refine lv_iload_n hx hb dX12_told_58 rfl (lv_at hl 3 rfl) ?_
                refine lv_iconst (v := 1) hx hb dX12_told_59 (by decide) ?_
                refine lv_iadd hx hb dX12_told_60 ?_
                refine zg3 (zaddK (i := x_133.toInt) (j := 1) (a' := 1) (b' := 400) rfl (by decide) i135.1 n220 (Int.le_refl _) (Int.le_refl _) (by decide)) (fun x_234 hx_234 => ?_)
                refine va_iald hx hb hK hP 5 0 rfl rfl (zinI (by omega) (by omega)) dX12_told_61 ?_
                refine zg (fun x_235 => ?_)
                refine lv_aload_n hx hb dX12_told_62 rfl (lv_at hl 0 rfl) ?_
                refine va_get (D := g.1) (ci := 10) (v := .ref (a 0)) (C := RX12) (T := TX12) (N := 20) hx hb hts izRX12 hown hK hP 0 rfl rfl 1 (by decide) (hts _ k815) (fun _ h9 => h9) rfl dX12_told_63 ?_
                refine lv_iconst (v := 3) hx hb dX12_told_66 (by decide) ?_
                refine va_iald hx hb hK hP 1 0 rfl rfl (zin rfl) dX12_told_67 ?_
                refine zgq (r := fm 3) rfl (rM3 rfm) (fun x_236 hx_236 => ?_)
                refine lv_icmp_ge (tgt := 104) hx hb dX12_told_68 (by decide) (fun cb9 => ?_) (fun cb9 => ?_)
                · skip
                  have c237 : x_236.toInt ≤ x_235.toInt := zle cb9 rfl rfl
                  have n238 : 0 ≤ x_235.toInt := Int.le_trans hx_236.1 c237
                  refine lv_iconst (v := 0) hx hb dX12_told_104 (by decide) ?_
                  refine lv_istore_n (lv' := [(2, .int 0), (0, .ref o), (1, .int tp), (3, .int x_133)]) hx hb dX12_told_105 rfl hl (by decide) rfl (fun ls hl => ?_)
                  refine ziinc3 (n' := 3) (a' := 3) (b' := 402) (lv' := fun v9 => [(3, .int v9), (2, .int 0), (0, .ref o), (1, .int tp)]) hx hb dX12_told_106 hl (k := 3) rfl (by decide) (fun _ => rfl) (zaddK (i := x_133.toInt) (j := 3) rfl (by decide) i135.1 n220 (Int.le_refl _) (Int.le_refl _) (by decide)) (fun x_239 ls hx_239 hl => ?_)
                  refine lv_goto (tgt := 30) hx hb dX12_told_109 (by decide) ?_
                  have hl := lv_sub (l' := [(0, .ref o), (1, .int tp), (2, .int 0), (3, .int x_239)]) hl [2, 3, 1, 0] rfl
                  have hL0 : (0 : Int32).toInt = 0 := by decide
                  have hP : va_P g.1 vwCl (List.flatten [bMo g o a th hi ac 0 ba en tA fl de iD iO tU fm fk fa fc ft ff fb fi]) H := hP
                  have hD : va_D A (List.flatten [bMo g o a th hi ac 0 ba en tA fl de iD iO tU fm fk fa fc ft ff fb fi]) := hD
                  exact ih30_138 0 x_239 (by decide) ⟨(Int.le_trans (by decide) hx_239.2.1), hx_239.2.2⟩ (by first | omega | assumption | decide) H _ ls (zmK hx_239.1 (by decide) n220 (by decide) hk30_138)  hP hD hS (lv_sub hl [0, 1, 2, 3] rfl)
                · skip
                  have c240 : x_235.toInt < x_236.toInt := zlti (Int32.not_le.mp cb9) rfl rfl
                  have n241 : x_235.toInt ≤ 7 := zL1 (b := 8) c240 hx_236.2.1 (by decide)
                  refine lv_aload_n hx hb dX12_told_71 rfl (lv_at hl 0 rfl) ?_
                  refine va_get (D := g.1) (ci := 10) (v := .ref (a 4)) (C := RX12) (T := TX12) (N := 20) hx hb hts izRX12 hown hK hP 0 rfl rfl 7 (by decide) (hts _ k819) (fun _ h9 => h9) rfl dX12_told_72 ?_
                  refine lv_iload_n hx hb dX12_told_75 rfl (lv_at hl 3 rfl) ?_
                  refine va_iald hx hb hK hP 5 0 rfl rfl (zinK (a := 0) (b := 399) i135.1 n220 (by decide)) dX12_told_76 ?_
                  refine zg (fun x_242 => ?_)
                  refine lv_aload_n hx hb dX12_told_77 rfl (lv_at hl 0 rfl) ?_
                  refine va_get (D := g.1) (ci := 10) (v := .ref (a 4)) (C := RX12) (T := TX12) (N := 20) hx hb hts izRX12 hown hK hP 0 rfl rfl 7 (by decide) (hts _ k819) (fun _ h9 => h9) rfl dX12_told_78 ?_
                  refine lv_iload_n hx hb dX12_told_81 rfl (lv_at hl 3 rfl) ?_
                  refine lv_iconst (v := 1) hx hb dX12_told_82 (by decide) ?_
                  refine lv_iadd hx hb dX12_told_83 ?_
                  refine zg3 (zaddK (i := x_133.toInt) (j := 1) (a' := 1) (b' := 400) rfl (by decide) i135.1 n220 (Int.le_refl _) (Int.le_refl _) (by decide)) (fun x_243 hx_243 => ?_)
                  refine va_iald hx hb hK hP 5 0 rfl rfl (zinI (by omega) (by omega)) dX12_told_84 ?_
                  refine zg (fun x_244 => ?_)
                  refine lv_icmp_eq (tgt := 104) hx hb dX12_told_85 (by decide) (fun cb9 => ?_) (fun cb9 => ?_)
                  · skip
                    have c245 : x_242.toInt = x_244.toInt := zeq cb9 rfl rfl
                    refine lv_iconst (v := 0) hx hb dX12_told_104 (by decide) ?_
                    refine lv_istore_n (lv' := [(2, .int 0), (0, .ref o), (1, .int tp), (3, .int x_133)]) hx hb dX12_told_105 rfl hl (by decide) rfl (fun ls hl => ?_)
                    refine ziinc3 (n' := 3) (a' := 3) (b' := 402) (lv' := fun v9 => [(3, .int v9), (2, .int 0), (0, .ref o), (1, .int tp)]) hx hb dX12_told_106 hl (k := 3) rfl (by decide) (fun _ => rfl) (zaddK (i := x_133.toInt) (j := 3) rfl (by decide) i135.1 n220 (Int.le_refl _) (Int.le_refl _) (by decide)) (fun x_246 ls hx_246 hl => ?_)
                    refine lv_goto (tgt := 30) hx hb dX12_told_109 (by decide) ?_
                    have hl := lv_sub (l' := [(0, .ref o), (1, .int tp), (2, .int 0), (3, .int x_246)]) hl [2, 3, 1, 0] rfl
                    have hL0 : (0 : Int32).toInt = 0 := by decide
                    have hP : va_P g.1 vwCl (List.flatten [bMo g o a th hi ac 0 ba en tA fl de iD iO tU fm fk fa fc ft ff fb fi]) H := hP
                    have hD : va_D A (List.flatten [bMo g o a th hi ac 0 ba en tA fl de iD iO tU fm fk fa fc ft ff fb fi]) := hD
                    exact ih30_138 0 x_246 (by decide) ⟨(Int.le_trans (by decide) hx_246.2.1), hx_246.2.2⟩ (by first | omega | assumption | decide) H _ ls (zmK hx_246.1 (by decide) n220 (by decide) hk30_138)  hP hD hS (lv_sub hl [0, 1, 2, 3] rfl)
                  · skip
                    have c247 : ¬ x_242.toInt = x_244.toInt := zne cb9 rfl rfl
                    refine lv_aload_n hx hb dX12_told_88 rfl (lv_at hl 0 rfl) ?_
                    refine va_get (D := g.1) (ci := 10) (v := .ref (a 4)) (C := RX12) (T := TX12) (N := 20) hx hb hts izRX12 hown hK hP 0 rfl rfl 7 (by decide) (hts _ k819) (fun _ h9 => h9) rfl dX12_told_89 ?_
                    refine lv_iload_n hx hb dX12_told_92 rfl (lv_at hl 3 rfl) ?_
                    refine lv_iconst (v := 2) hx hb dX12_told_93 (by decide) ?_
                    refine lv_iadd hx hb dX12_told_94 ?_
                    refine zg3 (zaddK (i := x_133.toInt) (j := 2) (a' := 2) (b' := 401) rfl (by decide) i135.1 n220 (Int.le_refl _) (Int.le_refl _) (by decide)) (fun x_248 hx_248 => ?_)
                    refine va_iald hx hb hK hP 5 0 rfl rfl (zinI (by omega) (by omega)) dX12_told_95 ?_
                    refine zg (fun x_249 => ?_)
                    refine lv_iconst (v := 2) hx hb dX12_told_96 (by decide) ?_
                    refine lv_icmp_ge (tgt := 104) hx hb dX12_told_97 (by decide) (fun cb9 => ?_) (fun cb9 => ?_)
                    · skip
                      have c250 : 2 ≤ x_249.toInt := zle cb9 (by decide) rfl
                      have n251 : 2 ≤ x_249.toInt := Int.le_trans (Int.le_refl _) c250
                      refine lv_iconst (v := 0) hx hb dX12_told_104 (by decide) ?_
                      refine lv_istore_n (lv' := [(2, .int 0), (0, .ref o), (1, .int tp), (3, .int x_133)]) hx hb dX12_told_105 rfl hl (by decide) rfl (fun ls hl => ?_)
                      refine ziinc3 (n' := 3) (a' := 3) (b' := 402) (lv' := fun v9 => [(3, .int v9), (2, .int 0), (0, .ref o), (1, .int tp)]) hx hb dX12_told_106 hl (k := 3) rfl (by decide) (fun _ => rfl) (zaddK (i := x_133.toInt) (j := 3) rfl (by decide) i135.1 n220 (Int.le_refl _) (Int.le_refl _) (by decide)) (fun x_252 ls hx_252 hl => ?_)
                      refine lv_goto (tgt := 30) hx hb dX12_told_109 (by decide) ?_
                      have hl := lv_sub (l' := [(0, .ref o), (1, .int tp), (2, .int 0), (3, .int x_252)]) hl [2, 3, 1, 0] rfl
                      have hL0 : (0 : Int32).toInt = 0 := by decide
                      have hP : va_P g.1 vwCl (List.flatten [bMo g o a th hi ac 0 ba en tA fl de iD iO tU fm fk fa fc ft ff fb fi]) H := hP
                      have hD : va_D A (List.flatten [bMo g o a th hi ac 0 ba en tA fl de iD iO tU fm fk fa fc ft ff fb fi]) := hD
                      exact ih30_138 0 x_252 (by decide) ⟨(Int.le_trans (by decide) hx_252.2.1), hx_252.2.2⟩ (by first | omega | assumption | decide) H _ ls (zmK hx_252.1 (by decide) n220 (by decide) hk30_138)  hP hD hS (lv_sub hl [0, 1, 2, 3] rfl)
                    · skip
                      have c253 : x_249.toInt < 2 := zlti (Int32.not_le.mp cb9) rfl (by decide)
                      have n254 : x_249.toInt ≤ 1 := zL1 (b := 2) c253 (Int.le_refl _) (by decide)
                      refine lv_iconst (v := 1) hx hb dX12_told_100 (by decide) ?_
                      refine lv_goto (tgt := 105) hx hb dX12_told_101 (by decide) ?_
                      refine lv_istore_n (lv' := [(2, .int 1), (0, .ref o), (1, .int tp), (3, .int x_133)]) hx hb dX12_told_105 rfl hl (by decide) rfl (fun ls hl => ?_)
                      refine ziinc3 (n' := 3) (a' := 3) (b' := 402) (lv' := fun v9 => [(3, .int v9), (2, .int 1), (0, .ref o), (1, .int tp)]) hx hb dX12_told_106 hl (k := 3) rfl (by decide) (fun _ => rfl) (zaddK (i := x_133.toInt) (j := 3) rfl (by decide) i135.1 n220 (Int.le_refl _) (Int.le_refl _) (by decide)) (fun x_255 ls hx_255 hl => ?_)
                      refine lv_goto (tgt := 30) hx hb dX12_told_109 (by decide) ?_
                      have hl := lv_sub (l' := [(0, .ref o), (1, .int tp), (2, .int 1), (3, .int x_255)]) hl [2, 3, 1, 0] rfl
                      have hL1 : (1 : Int32).toInt = 1 := by decide
                      have hP : va_P g.1 vwCl (List.flatten [bMo g o a th hi ac 0 ba en tA fl de iD iO tU fm fk fa fc ft ff fb fi]) H := hP
                      have hD : va_D A (List.flatten [bMo g o a th hi ac 0 ba en tA fl de iD iO tU fm fk fa fc ft ff fb fi]) := hD
                      exact ih30_138 1 x_255 (by decide) ⟨(Int.le_trans (by decide) hx_255.2.1), hx_255.2.2⟩ (by first | omega | assumption | decide) H _ ls (zmK hx_255.1 (by decide) n220 (by decide) hk30_138)  hP hD hS (lv_sub hl [0, 1, 2, 3] rfl)
      have hL0 : (0 : Int32).toInt = 0 := by decide
      have hP : va_P g.1 vwCl (List.flatten [bMo g o a th hi ac 0 ba en tA fl de iD iO tU fm fk fa fc ft ff fb fi]) H := hP
      have hD : va_D A (List.flatten [bMo g o a th hi ac 0 ba en tA fl de iD iO tU fm fk fa fc ft ff fb fi]) := hD
      exact LP30_137 _ 0 0 (by decide) (by decide) (by first | omega | assumption | decide) H _ ls (Nat.lt_succ_self _)  hP hD hS (lv_sub hl [0, 1, 2, 3] rfl)
    · skip
      have c256 : tp.toInt ≤ 36 := zle (Int32.not_lt.mp cb9) rfl (by decide)
      have n257 : tp.toInt ≤ 36 := Int.le_trans c256 (Int.le_refl _)
      refine lv_iconst (v := 1) hx hb dX12_told_22 (by decide) ?_
      refine lv_goto (tgt := 27) hx hb dX12_told_23 (by decide) ?_
      refine lv_istore_n (lv' := [(2, .int 1), (1, .int tp), (0, .ref o)]) hx hb dX12_told_27 rfl hl (by decide) rfl (fun ls hl => ?_)
      refine lv_iconst (v := 0) hx hb dX12_told_28 (by decide) ?_
      refine lv_istore_n (lv' := [(3, .int 0), (2, .int 1), (1, .int tp), (0, .ref o)]) hx hb dX12_told_29 rfl hl (by decide) rfl (fun ls hl => ?_)
      have hl := lv_sub (l' := [(0, .ref o), (1, .int tp), (2, .int 1), (3, .int 0)]) hl [3, 2, 1, 0] rfl
      have LP30_263 : ∀ (kf : Nat) (x_258 : Int32) (x_259 : Int32), (0 ≤ x_258.toInt ∧ x_258.toInt ≤ 1) → (0 ≤ x_259.toInt ∧ x_259.toInt ≤ 402) → (x_258.toInt = 0 ∨ tp.toInt ≤ 36) → ∀ (H : Heap) (locs : List Loc) (ls : Array Slot), ((403 - x_259.toInt).toNat) < kf → va_P g.1 vwCl (List.flatten [bMo g o a th hi ac 0 ba en tA fl de iD iO tU fm fk fa fc ft ff fb fi]) H → va_D A (List.flatten [bMo g o a th hi ac 0 ba en tA fl de iD iO tU fm fk fa fc ft ff fb fi]) → va_S A s.heap H locs → lv_has ls 6 [(0, .ref o), (1, .int tp), (2, .int x_258), (3, .int x_259)] → W p l e ({ frames := 2, cells := 0, slots := 0, locals := 43 } : Room) s m args below meth c H locs (0) (0) (zF g (fun u : (Nat → Int32) × Int32 => (fun (fi2 : Nat → Int32) (q : Int32) => some (.int q)) (u.1) (u.2)) (fun u : (Nat → Int32) × Int32 => (fun (fi2 : Nat → Int32) (q : Int32) => True) (u.1) (u.2)) (fun u : (Nat → Int32) × Int32 => (fun (fi2 : Nat → Int32) (q : Int32) => [bMo g o a th hi ac 0 ba en tA fl de iD iO tU fm fk fa fc ft ff fb fi2]) (u.1) (u.2)) ({ frames := 2, cells := 0, slots := 0, locals := 43 } : Room) below args s A) (F0 m 30 ls []) := by
        intro kf
        induction kf with
        | zero => intro x_258 x_259 i260 i261 i262 H locs ls hk; exact absurd hk (Nat.not_lt_zero _)
        | succ kf ih30_264 =>
          intro x_258 x_259 i260 i261 i262 H locs ls hk30_264 hP hD hS hl
          refine lv_iload_n hx hb dX12_told_30 rfl (lv_at hl 3 rfl) ?_
          refine lv_iload_n hx hb dX12_told_31 rfl (lv_at hl 1 rfl) ?_
          refine lv_icmp_ge (tgt := 112) hx hb dX12_told_32 (by decide) (fun cb9 => ?_) (fun cb9 => ?_)
          · skip
            have c265 : tp.toInt ≤ x_259.toInt := zle cb9 rfl rfl
            refine lv_iload_n hx hb dX12_told_112 rfl (lv_at hl 2 rfl) ?_
            refine lv_if_ne (tgt := 118) hx hb dX12_told_113 (by decide) (fun cb9 => ?_) (fun cb9 => ?_)
            · skip
              have c266 : ¬ x_258.toInt = 0 := zne cb9 rfl (by decide)
              have n267 : 1 ≤ x_258.toInt := zN1 c266 i260.1 (by decide)
              refine lv_iconst (v := 0) hx hb dX12_told_118 (by decide) ?_
              refine lv_istore_n (lv' := [(3, .int 0), (0, .ref o), (1, .int tp), (2, .int x_258)]) hx hb dX12_told_119 rfl hl (by decide) rfl (fun ls hl => ?_)
              refine lv_iconst (v := 0) hx hb dX12_told_120 (by decide) ?_
              refine lv_istore (lv' := [(4, .int 0), (3, .int 0), (0, .ref o), (1, .int tp), (2, .int x_258)]) hx hb dX12_told_121 hl (by decide) rfl (fun ls hl => ?_)
              have hl := lv_sub (l' := [(0, .ref o), (1, .int tp), (2, .int x_258), (3, .int 0), (4, .int 0)]) hl [2, 3, 4, 1, 0] rfl
              have LP123_272 : ∀ (kf : Nat) (x_268 : Int32) (x_269 : Int32) (fi_270 : Nat → Int32), (0 ≤ x_269.toInt ∧ x_269.toInt ≤ 256) → ∀ (H : Heap) (locs : List Loc) (ls : Array Slot), ((257 - x_269.toInt).toNat) < kf → va_P g.1 vwCl (List.flatten [bMo g o a th hi ac 0 ba en tA fl de iD iO tU fm fk fa fc ft ff fb fi_270]) H → va_D A (List.flatten [bMo g o a th hi ac 0 ba en tA fl de iD iO tU fm fk fa fc ft ff fb fi_270]) → va_S A s.heap H locs → lv_has ls 6 [(0, .ref o), (1, .int tp), (2, .int x_258), (3, .int x_268), (4, .int x_269)] → W p l e ({ frames := 2, cells := 0, slots := 0, locals := 43 } : Room) s m args below meth c H locs (0) (0) (zF g (fun u : (Nat → Int32) × Int32 => (fun (fi2 : Nat → Int32) (q : Int32) => some (.int q)) (u.1) (u.2)) (fun u : (Nat → Int32) × Int32 => (fun (fi2 : Nat → Int32) (q : Int32) => True) (u.1) (u.2)) (fun u : (Nat → Int32) × Int32 => (fun (fi2 : Nat → Int32) (q : Int32) => [bMo g o a th hi ac 0 ba en tA fl de iD iO tU fm fk fa fc ft ff fb fi2]) (u.1) (u.2)) ({ frames := 2, cells := 0, slots := 0, locals := 43 } : Room) below args s A) (F0 m 123 ls []) := by
                intro kf
                induction kf with
                | zero => intro x_268 x_269 fi_270 i271 H locs ls hk; exact absurd hk (Nat.not_lt_zero _)
                | succ kf ih123_273 =>
                  intro x_268 x_269 fi_270 i271 H locs ls hk123_273 hP hD hS hl
                  refine lv_iload hx hb dX12_told_123 (lv_at hl 4 rfl) ?_
                  refine lv_iconst (v := 1) hx hb dX12_told_125 (by decide) ?_
                  refine lv_aload_n hx hb dX12_told_126 rfl (lv_at hl 0 rfl) ?_
                  refine va_get (D := g.1) (ci := 10) (v := .ref (a 0)) (C := RX12) (T := TX12) (N := 20) hx hb hts izRX12 hown hK hP 0 rfl rfl 1 (by decide) (hts _ k815) (fun _ h9 => h9) rfl dX12_told_127 ?_
                  refine lv_iconst (v := 3) hx hb dX12_told_130 (by decide) ?_
                  refine va_iald hx hb hK hP 1 0 rfl rfl (zin rfl) dX12_told_131 ?_
                  refine zgq (r := fm 3) rfl (rM3 rfm) (fun x_274 hx_274 => ?_)
                  refine lv_ishl hx hb dX12_told_132 ?_
                  refine zgb (zshl1 (j := x_274.toInt) rfl 8 256 (by decide) (by decide) ⟨hx_274.1, hx_274.2.1⟩) (fun x_275 hx_275 => ?_)
                  refine lv_icmp_ge (tgt := 247) hx hb dX12_told_133 (by decide) (fun cb9 => ?_) (fun cb9 => ?_)
                  · skip
                    have c276 : x_275.toInt ≤ x_269.toInt := zle cb9 rfl rfl
                    have n277 : 1 ≤ x_269.toInt := Int.le_trans hx_275.1 c276
                    refine lv_iload_n hx hb dX12_told_247 rfl (lv_at hl 3 rfl) ?_
                    have hP : va_P g.1 vwCl (List.flatten [bMo g o a th hi ac 0 ba en tA fl de iD iO tU fm fk fa fc ft ff fb fi_270]) H := hP
                    have hD : va_D A (List.flatten [bMo g o a th hi ac 0 ba en tA fl de iD iO tU fm fk fa fc ft ff fb fi_270]) := hD
                    exact mret_i hx hb hr hlocks hS (Nat.le_of_ble_eq_true rfl) (Nat.le_of_ble_eq_true rfl) dX12_told_248 (fi_270, x_268) rfl trivial hP hD
                  · skip
                    have c278 : x_269.toInt < x_275.toInt := zlti (Int32.not_le.mp cb9) rfl rfl
                    have n279 : x_269.toInt ≤ 255 := zL1 (b := 256) c278 hx_275.2 (by decide)
                    refine lv_aload_n hx hb dX12_told_136 rfl (lv_at hl 0 rfl) ?_
                    refine va_get (D := g.1) (ci := 10) (v := .ref (a 7)) (C := RX12) (T := TX12) (N := 20) hx hb hts izRX12 hown hK hP 0 rfl rfl 19 (by decide) (hts _ k823) (fun _ h9 => h9) rfl dX12_told_137 ?_
                    refine lv_iload hx hb dX12_told_140 (lv_at hl 4 rfl) ?_
                    refine lv_iconst (v := 1) hx hb dX12_told_142 (by decide) ?_
                    refine va_zast hx hb hK hP hD hS 8 1 rfl rfl (zinK (a := 0) (b := 255) i271.1 n279 (by decide)) dX12_told_143 (fun H locs hP hD hS => ?_)
                    obtain ⟨fi_280, hP, hD⟩ : ∃ fi_280 : Nat → Int32, va_P g.1 vwCl (List.flatten [bMo g o a th hi ac 0 ba en tA fl de iD iO tU fm fk fa fc ft ff fb fi_280]) H ∧ va_D A (List.flatten [bMo g o a th hi ac 0 ba en tA fl de iD iO tU fm fk fa fc ft ff fb fi_280]) := ⟨upd fi_270 x_269.toNatClampNeg (vp_nar .boolean 1), hP, hD⟩
                    refine lv_iconst (v := 0) hx hb dX12_told_144 (by decide) ?_
                    refine lv_istore (lv' := [(5, .int 0), (0, .ref o), (1, .int tp), (2, .int x_258), (3, .int x_268), (4, .int x_269)]) hx hb dX12_told_145 hl (by decide) rfl (fun ls hl => ?_)
                    have hl := lv_sub (l' := [(0, .ref o), (1, .int tp), (2, .int x_258), (3, .int x_268), (4, .int x_269), (5, .int 0)]) hl [1, 2, 3, 4, 5, 0] rfl
                    have LP147_284 : ∀ (kf : Nat) (x_281 : Int32) (fi_282 : Nat → Int32), (0 ≤ x_281.toInt ∧ x_281.toInt ≤ 402) → ∀ (H : Heap) (locs : List Loc) (ls : Array Slot), ((403 - x_281.toInt).toNat) < kf → va_P g.1 vwCl (List.flatten [bMo g o a th hi ac 0 ba en tA fl de iD iO tU fm fk fa fc ft ff fb fi_282]) H → va_D A (List.flatten [bMo g o a th hi ac 0 ba en tA fl de iD iO tU fm fk fa fc ft ff fb fi_282]) → va_S A s.heap H locs → lv_has ls 6 [(0, .ref o), (1, .int tp), (2, .int x_258), (3, .int x_268), (4, .int x_269), (5, .int x_281)] → W p l e ({ frames := 2, cells := 0, slots := 0, locals := 43 } : Room) s m args below meth c H locs (0) (0) (zF g (fun u : (Nat → Int32) × Int32 => (fun (fi2 : Nat → Int32) (q : Int32) => some (.int q)) (u.1) (u.2)) (fun u : (Nat → Int32) × Int32 => (fun (fi2 : Nat → Int32) (q : Int32) => True) (u.1) (u.2)) (fun u : (Nat → Int32) × Int32 => (fun (fi2 : Nat → Int32) (q : Int32) => [bMo g o a th hi ac 0 ba en tA fl de iD iO tU fm fk fa fc ft ff fb fi2]) (u.1) (u.2)) ({ frames := 2, cells := 0, slots := 0, locals := 43 } : Room) below args s A) (F0 m 147 ls []) := by
                      intro kf
                      induction kf with
                      | zero => intro x_281 fi_282 i283 H locs ls hk; exact absurd hk (Nat.not_lt_zero _)
                      | succ kf ih147_285 =>
                        intro x_281 fi_282 i283 H locs ls hk147_285 hP hD hS hl
                        refine lv_iload hx hb dX12_told_147 (lv_at hl 5 rfl) ?_
                        refine lv_iload_n hx hb dX12_told_149 rfl (lv_at hl 1 rfl) ?_
                        refine lv_icmp_ge (tgt := 223) hx hb dX12_told_150 (by decide) (fun cb9 => ?_) (fun cb9 => ?_)
                        · skip
                          have c286 : tp.toInt ≤ x_281.toInt := zle cb9 rfl rfl
                          refine lv_iload_n hx hb dX12_told_223 rfl (lv_at hl 3 rfl) ?_
                          refine lv_aload_n hx hb dX12_told_224 rfl (lv_at hl 0 rfl) ?_
                          refine va_get (D := g.1) (ci := 10) (v := .ref (a 7)) (C := RX12) (T := TX12) (N := 20) hx hb hts izRX12 hown hK hP 0 rfl rfl 19 (by decide) (hts _ k823) (fun _ h9 => h9) rfl dX12_told_225 ?_
                          refine lv_iload hx hb dX12_told_228 (lv_at hl 4 rfl) ?_
                          refine va_zald hx hb hK hP 8 1 rfl rfl (zinK (a := 0) (b := 255) i271.1 n279 (by decide)) dX12_told_230 ?_
                          refine zg (fun x_287 => ?_)
                          refine lv_if_eq (tgt := 238) hx hb dX12_told_231 (by decide) (fun cb9 => ?_) (fun cb9 => ?_)
                          · skip
                            have c288 : x_287.toInt = 0 := zeq cb9 rfl (by decide)
                            have n289 : 0 ≤ x_287.toInt := Int.le_trans (Int.le_refl _) (Int.le_of_eq c288.symm)
                            have n290 : x_287.toInt ≤ 0 := Int.le_trans (Int.le_of_eq c288) (Int.le_refl _)
                            refine lv_iconst (v := 0) hx hb dX12_told_238 (by decide) ?_
                            refine lv_iadd hx hb dX12_told_239 ?_
                            refine zg (fun x_291 => ?_)
                            refine lv_istore_n (lv' := [(3, .int x_291), (0, .ref o), (1, .int tp), (2, .int x_258), (4, .int x_269), (5, .int x_281)]) hx hb dX12_told_240 rfl hl (by decide) rfl (fun ls hl => ?_)
                            refine ziinc3 (n' := 1) (a' := 1) (b' := 256) (lv' := fun v9 => [(4, .int v9), (3, .int x_291), (0, .ref o), (1, .int tp), (2, .int x_258), (5, .int x_281)]) hx hb dX12_told_241 hl (k := 4) rfl (by decide) (fun _ => rfl) (zaddK (i := x_269.toInt) (j := 1) rfl (by decide) i271.1 n279 (Int.le_refl _) (Int.le_refl _) (by decide)) (fun x_292 ls hx_292 hl => ?_)
                            refine lv_goto (tgt := 123) hx hb dX12_told_244 (by decide) ?_
                            have hl := lv_sub (l' := [(0, .ref o), (1, .int tp), (2, .int x_258), (3, .int x_291), (4, .int x_292), (5, .int x_281)]) hl [2, 3, 4, 1, 0, 5] rfl
                            have hP : va_P g.1 vwCl (List.flatten [bMo g o a th hi ac 0 ba en tA fl de iD iO tU fm fk fa fc ft ff fb fi_282]) H := hP
                            have hD : va_D A (List.flatten [bMo g o a th hi ac 0 ba en tA fl de iD iO tU fm fk fa fc ft ff fb fi_282]) := hD
                            exact ih123_273 x_291 x_292 fi_282 ⟨(Int.le_trans (by decide) hx_292.2.1), hx_292.2.2⟩ H _ ls (zmK hx_292.1 (by decide) n279 (by decide) hk123_273)  hP hD hS (lv_sub hl [0, 1, 2, 3, 4] rfl)
                          · skip
                            have c293 : ¬ x_287.toInt = 0 := zne cb9 rfl (by decide)
                            refine lv_iconst (v := 1) hx hb dX12_told_234 (by decide) ?_
                            refine lv_goto (tgt := 239) hx hb dX12_told_235 (by decide) ?_
                            refine lv_iadd hx hb dX12_told_239 ?_
                            refine zg (fun x_294 => ?_)
                            refine lv_istore_n (lv' := [(3, .int x_294), (0, .ref o), (1, .int tp), (2, .int x_258), (4, .int x_269), (5, .int x_281)]) hx hb dX12_told_240 rfl hl (by decide) rfl (fun ls hl => ?_)
                            refine ziinc3 (n' := 1) (a' := 1) (b' := 256) (lv' := fun v9 => [(4, .int v9), (3, .int x_294), (0, .ref o), (1, .int tp), (2, .int x_258), (5, .int x_281)]) hx hb dX12_told_241 hl (k := 4) rfl (by decide) (fun _ => rfl) (zaddK (i := x_269.toInt) (j := 1) rfl (by decide) i271.1 n279 (Int.le_refl _) (Int.le_refl _) (by decide)) (fun x_295 ls hx_295 hl => ?_)
                            refine lv_goto (tgt := 123) hx hb dX12_told_244 (by decide) ?_
                            have hl := lv_sub (l' := [(0, .ref o), (1, .int tp), (2, .int x_258), (3, .int x_294), (4, .int x_295), (5, .int x_281)]) hl [2, 3, 4, 1, 0, 5] rfl
                            have hP : va_P g.1 vwCl (List.flatten [bMo g o a th hi ac 0 ba en tA fl de iD iO tU fm fk fa fc ft ff fb fi_282]) H := hP
                            have hD : va_D A (List.flatten [bMo g o a th hi ac 0 ba en tA fl de iD iO tU fm fk fa fc ft ff fb fi_282]) := hD
                            exact ih123_273 x_294 x_295 fi_282 ⟨(Int.le_trans (by decide) hx_295.2.1), hx_295.2.2⟩ H _ ls (zmK hx_295.1 (by decide) n279 (by decide) hk123_273)  hP hD hS (lv_sub hl [0, 1, 2, 3, 4] rfl)
                        · skip
                          have c296 : x_281.toInt < tp.toInt := zlti (Int32.not_le.mp cb9) rfl rfl
                          have n297 : x_281.toInt ≤ 35 := zL1 (b := 36) c296 n257 (by decide)
                          have n298 : 1 ≤ tp.toInt := zL2 (a := 0) c296 i283.1 (by decide)
                          refine lv_aload_n hx hb dX12_told_153 rfl (lv_at hl 0 rfl) ?_
                          refine va_get (D := g.1) (ci := 10) (v := .ref (a 7)) (C := RX12) (T := TX12) (N := 20) hx hb hts izRX12 hown hK hP 0 rfl rfl 19 (by decide) (hts _ k823) (fun _ h9 => h9) rfl dX12_told_154 ?_
                          refine lv_iload hx hb dX12_told_157 (lv_at hl 4 rfl) ?_
                          refine va_zald hx hb hK hP 8 1 rfl rfl (zinK (a := 0) (b := 255) i271.1 n279 (by decide)) dX12_told_159 ?_
                          refine zg (fun x_299 => ?_)
                          refine lv_if_eq (tgt := 223) hx hb dX12_told_160 (by decide) (fun cb9 => ?_) (fun cb9 => ?_)
                          · skip
                            have c300 : x_299.toInt = 0 := zeq cb9 rfl (by decide)
                            have n301 : 0 ≤ x_299.toInt := Int.le_trans (Int.le_refl _) (Int.le_of_eq c300.symm)
                            have n302 : x_299.toInt ≤ 0 := Int.le_trans (Int.le_of_eq c300) (Int.le_refl _)
                            refine lv_iload_n hx hb dX12_told_223 rfl (lv_at hl 3 rfl) ?_
                            refine lv_aload_n hx hb dX12_told_224 rfl (lv_at hl 0 rfl) ?_
                            refine va_get (D := g.1) (ci := 10) (v := .ref (a 7)) (C := RX12) (T := TX12) (N := 20) hx hb hts izRX12 hown hK hP 0 rfl rfl 19 (by decide) (hts _ k823) (fun _ h9 => h9) rfl dX12_told_225 ?_
                            refine lv_iload hx hb dX12_told_228 (lv_at hl 4 rfl) ?_
                            refine va_zald hx hb hK hP 8 1 rfl rfl (zinK (a := 0) (b := 255) i271.1 n279 (by decide)) dX12_told_230 ?_
                            refine zg (fun x_303 => ?_)
                            refine lv_if_eq (tgt := 238) hx hb dX12_told_231 (by decide) (fun cb9 => ?_) (fun cb9 => ?_)
                            · skip
                              have c304 : x_303.toInt = 0 := zeq cb9 rfl (by decide)
                              have n305 : 0 ≤ x_303.toInt := Int.le_trans (Int.le_refl _) (Int.le_of_eq c304.symm)
                              have n306 : x_303.toInt ≤ 0 := Int.le_trans (Int.le_of_eq c304) (Int.le_refl _)
                              refine lv_iconst (v := 0) hx hb dX12_told_238 (by decide) ?_
                              refine lv_iadd hx hb dX12_told_239 ?_
                              refine zg (fun x_307 => ?_)
                              refine lv_istore_n (lv' := [(3, .int x_307), (0, .ref o), (1, .int tp), (2, .int x_258), (4, .int x_269), (5, .int x_281)]) hx hb dX12_told_240 rfl hl (by decide) rfl (fun ls hl => ?_)
                              refine ziinc3 (n' := 1) (a' := 1) (b' := 256) (lv' := fun v9 => [(4, .int v9), (3, .int x_307), (0, .ref o), (1, .int tp), (2, .int x_258), (5, .int x_281)]) hx hb dX12_told_241 hl (k := 4) rfl (by decide) (fun _ => rfl) (zaddK (i := x_269.toInt) (j := 1) rfl (by decide) i271.1 n279 (Int.le_refl _) (Int.le_refl _) (by decide)) (fun x_308 ls hx_308 hl => ?_)
                              refine lv_goto (tgt := 123) hx hb dX12_told_244 (by decide) ?_
                              have hl := lv_sub (l' := [(0, .ref o), (1, .int tp), (2, .int x_258), (3, .int x_307), (4, .int x_308), (5, .int x_281)]) hl [2, 3, 4, 1, 0, 5] rfl
                              have hP : va_P g.1 vwCl (List.flatten [bMo g o a th hi ac 0 ba en tA fl de iD iO tU fm fk fa fc ft ff fb fi_282]) H := hP
                              have hD : va_D A (List.flatten [bMo g o a th hi ac 0 ba en tA fl de iD iO tU fm fk fa fc ft ff fb fi_282]) := hD
                              exact ih123_273 x_307 x_308 fi_282 ⟨(Int.le_trans (by decide) hx_308.2.1), hx_308.2.2⟩ H _ ls (zmK hx_308.1 (by decide) n279 (by decide) hk123_273)  hP hD hS (lv_sub hl [0, 1, 2, 3, 4] rfl)
                            · skip
                              have c309 : ¬ x_303.toInt = 0 := zne cb9 rfl (by decide)
                              refine lv_iconst (v := 1) hx hb dX12_told_234 (by decide) ?_
                              refine lv_goto (tgt := 239) hx hb dX12_told_235 (by decide) ?_
                              refine lv_iadd hx hb dX12_told_239 ?_
                              refine zg (fun x_310 => ?_)
                              refine lv_istore_n (lv' := [(3, .int x_310), (0, .ref o), (1, .int tp), (2, .int x_258), (4, .int x_269), (5, .int x_281)]) hx hb dX12_told_240 rfl hl (by decide) rfl (fun ls hl => ?_)
                              refine ziinc3 (n' := 1) (a' := 1) (b' := 256) (lv' := fun v9 => [(4, .int v9), (3, .int x_310), (0, .ref o), (1, .int tp), (2, .int x_258), (5, .int x_281)]) hx hb dX12_told_241 hl (k := 4) rfl (by decide) (fun _ => rfl) (zaddK (i := x_269.toInt) (j := 1) rfl (by decide) i271.1 n279 (Int.le_refl _) (Int.le_refl _) (by decide)) (fun x_311 ls hx_311 hl => ?_)
                              refine lv_goto (tgt := 123) hx hb dX12_told_244 (by decide) ?_
                              have hl := lv_sub (l' := [(0, .ref o), (1, .int tp), (2, .int x_258), (3, .int x_310), (4, .int x_311), (5, .int x_281)]) hl [2, 3, 4, 1, 0, 5] rfl
                              have hP : va_P g.1 vwCl (List.flatten [bMo g o a th hi ac 0 ba en tA fl de iD iO tU fm fk fa fc ft ff fb fi_282]) H := hP
                              have hD : va_D A (List.flatten [bMo g o a th hi ac 0 ba en tA fl de iD iO tU fm fk fa fc ft ff fb fi_282]) := hD
                              exact ih123_273 x_310 x_311 fi_282 ⟨(Int.le_trans (by decide) hx_311.2.1), hx_311.2.2⟩ H _ ls (zmK hx_311.1 (by decide) n279 (by decide) hk123_273)  hP hD hS (lv_sub hl [0, 1, 2, 3, 4] rfl)
                          · skip
                            have c312 : ¬ x_299.toInt = 0 := zne cb9 rfl (by decide)
                            refine lv_aload_n hx hb dX12_told_163 rfl (lv_at hl 0 rfl) ?_
                            refine va_get (D := g.1) (ci := 10) (v := .ref (a 7)) (C := RX12) (T := TX12) (N := 20) hx hb hts izRX12 hown hK hP 0 rfl rfl 19 (by decide) (hts _ k823) (fun _ h9 => h9) rfl dX12_told_164 ?_
                            refine lv_iload hx hb dX12_told_167 (lv_at hl 4 rfl) ?_
                            refine lv_iload hx hb dX12_told_169 (lv_at hl 4 rfl) ?_
                            refine lv_aload_n hx hb dX12_told_171 rfl (lv_at hl 0 rfl) ?_
                            refine va_get (D := g.1) (ci := 10) (v := .ref (a 4)) (C := RX12) (T := TX12) (N := 20) hx hb hts izRX12 hown hK hP 0 rfl rfl 7 (by decide) (hts _ k819) (fun _ h9 => h9) rfl dX12_told_172 ?_
                            refine lv_iload hx hb dX12_told_175 (lv_at hl 5 rfl) ?_
                            refine va_iald hx hb hK hP 5 0 rfl rfl (zinK (a := 0) (b := 35) i283.1 n297 (by decide)) dX12_told_177 ?_
                            refine zg (fun x_313 => ?_)
                            refine lv_aload_n hx hb dX12_told_178 rfl (lv_at hl 0 rfl) ?_
                            refine va_get (D := g.1) (ci := 10) (v := .ref (a 4)) (C := RX12) (T := TX12) (N := 20) hx hb hts izRX12 hown hK hP 0 rfl rfl 7 (by decide) (hts _ k819) (fun _ h9 => h9) rfl dX12_told_179 ?_
                            refine lv_iload hx hb dX12_told_182 (lv_at hl 5 rfl) ?_
                            refine lv_iconst (v := 1) hx hb dX12_told_184 (by decide) ?_
                            refine lv_iadd hx hb dX12_told_185 ?_
                            refine zg3 (zaddK (i := x_281.toInt) (j := 1) (a' := 1) (b' := 36) rfl (by decide) i283.1 n297 (Int.le_refl _) (Int.le_refl _) (by decide)) (fun x_314 hx_314 => ?_)
                            refine va_iald hx hb hK hP 5 0 rfl rfl (zinK (a := 1) (b := 36) hx_314.2.1 hx_314.2.2 (by decide)) dX12_told_186 ?_
                            refine zg (fun x_315 => ?_)
                            refine mcallS' (g := g) (As := [.int x_269, .int x_313, .int x_315]) (rest := [.int x_269, .ref (a 7)]) St hK hT hA hP hD hS hl.1 [] [0] rfl rfl rfl (m_says l g x_269 x_313 x_315 ) (va_cwS 3 hts (zgL (zl3 k1101 k1102 k839) k1099) rfl rfl rfl (by decide +kernel) ⟨Nat.le_of_ble_eq_true rfl, Nat.le_of_ble_eq_true rfl⟩) rfl rfl (Nat.le_of_ble_eq_true rfl) dX12_told_187 ⟨(Nat.le_of_ble_eq_true rfl), (Nat.le_of_ble_eq_true rfl)⟩ (fun q_316 H locs hq317 hP hD hS => ?_)
                            replace hq317 : (q_316 = 0 ∨ q_316 = 1) := hq317
                            have hP : va_P g.1 vwCl (List.flatten [bMo g o a th hi ac 0 ba en tA fl de iD iO tU fm fk fa fc ft ff fb fi_282]) H := hP
                            have hD : va_D A (List.flatten [bMo g o a th hi ac 0 ba en tA fl de iD iO tU fm fk fa fc ft ff fb fi_282]) := hD
                            refine W.widen (k := 0) (n := 0) (Nat.le_of_ble_eq_true rfl) (Nat.le_of_ble_eq_true rfl) ?_
                            refine W.eq (g2 := F0 m 190 ls [.int q_316, .int x_269, .ref (a 7)]) rfl ?_
                            rcases hq317 with rfl | rfl
                            · skip
                              refine lv_aload_n hx hb dX12_told_190 rfl (lv_at hl 0 rfl) ?_
                              refine va_get (D := g.1) (ci := 10) (v := .ref (a 4)) (C := RX12) (T := TX12) (N := 20) hx hb hts izRX12 hown hK hP 0 rfl rfl 7 (by decide) (hts _ k819) (fun _ h9 => h9) rfl dX12_told_191 ?_
                              refine lv_iload hx hb dX12_told_194 (lv_at hl 5 rfl) ?_
                              refine lv_iconst (v := 2) hx hb dX12_told_196 (by decide) ?_
                              refine lv_iadd hx hb dX12_told_197 ?_
                              refine zg3 (zaddK (i := x_281.toInt) (j := 2) (a' := 2) (b' := 37) rfl (by decide) i283.1 n297 (Int.le_refl _) (Int.le_refl _) (by decide)) (fun x_318 hx_318 => ?_)
                              refine va_iald hx hb hK hP 5 0 rfl rfl (zinK (a := 2) (b := 37) hx_318.2.1 hx_318.2.2 (by decide)) dX12_told_198 ?_
                              refine zg (fun x_319 => ?_)
                              refine lv_iconst (v := 1) hx hb dX12_told_199 (by decide) ?_
                              refine lv_icmp_ne (tgt := 207) hx hb dX12_told_200 (by decide) (fun cb9 => ?_) (fun cb9 => ?_)
                              · skip
                                have c320 : ¬ x_319.toInt = 1 := zne cb9 rfl (by decide)
                                refine lv_iconst (v := 0) hx hb dX12_told_207 (by decide) ?_
                                refine lv_icmp_ne (tgt := 215) hx hb dX12_told_208 (by decide) (fun c321 => absurd (by decide) c321) (fun _ => ?_)
                                refine lv_iconst (v := 1) hx hb dX12_told_211 (by decide) ?_
                                refine lv_goto (tgt := 216) hx hb dX12_told_212 (by decide) ?_
                                refine va_zast hx hb hK hP hD hS 8 1 rfl rfl (zinK (a := 0) (b := 255) i271.1 n279 (by decide)) dX12_told_216 (fun H locs hP hD hS => ?_)
                                obtain ⟨fi_322, hP, hD⟩ : ∃ fi_322 : Nat → Int32, va_P g.1 vwCl (List.flatten [bMo g o a th hi ac 0 ba en tA fl de iD iO tU fm fk fa fc ft ff fb fi_322]) H ∧ va_D A (List.flatten [bMo g o a th hi ac 0 ba en tA fl de iD iO tU fm fk fa fc ft ff fb fi_322]) := ⟨upd fi_282 x_269.toNatClampNeg (vp_nar .boolean 1), hP, hD⟩
                                refine ziinc3 (n' := 3) (a' := 3) (b' := 38) (lv' := fun v9 => [(5, .int v9), (0, .ref o), (1, .int tp), (2, .int x_258), (3, .int x_268), (4, .int x_269)]) hx hb dX12_told_217 hl (k := 5) rfl (by decide) (fun _ => rfl) (zaddK (i := x_281.toInt) (j := 3) rfl (by decide) i283.1 n297 (Int.le_refl _) (Int.le_refl _) (by decide)) (fun x_323 ls hx_323 hl => ?_)
                                refine lv_goto (tgt := 147) hx hb dX12_told_220 (by decide) ?_
                                have hl := lv_sub (l' := [(0, .ref o), (1, .int tp), (2, .int x_258), (3, .int x_268), (4, .int x_269), (5, .int x_323)]) hl [1, 2, 3, 4, 5, 0] rfl
                                have hP : va_P g.1 vwCl (List.flatten [bMo g o a th hi ac 0 ba en tA fl de iD iO tU fm fk fa fc ft ff fb fi_322]) H := hP
                                have hD : va_D A (List.flatten [bMo g o a th hi ac 0 ba en tA fl de iD iO tU fm fk fa fc ft ff fb fi_322]) := hD
                                exact ih147_285 x_323 fi_322 ⟨(Int.le_trans (by decide) hx_323.2.1), (Int.le_trans hx_323.2.2 (by decide))⟩ H _ ls (zmK hx_323.1 (by decide) n297 (by decide) hk147_285)  hP hD hS (lv_sub hl [0, 1, 2, 3, 4, 5] rfl)
                              · skip
                                have c324 : x_319.toInt = 1 := zeq cb9 rfl (by decide)
                                have n325 : 1 ≤ x_319.toInt := Int.le_trans (Int.le_refl _) (Int.le_of_eq c324.symm)
                                have n326 : x_319.toInt ≤ 1 := Int.le_trans (Int.le_of_eq c324) (Int.le_refl _)
                                refine lv_iconst (v := 1) hx hb dX12_told_203 (by decide) ?_
                                refine lv_goto (tgt := 208) hx hb dX12_told_204 (by decide) ?_
                                refine lv_icmp_ne (tgt := 215) hx hb dX12_told_208 (by decide) (fun _ => ?_) (fun c327 => absurd c327 (by decide))
                                refine lv_iconst (v := 0) hx hb dX12_told_215 (by decide) ?_
                                refine va_zast hx hb hK hP hD hS 8 1 rfl rfl (zinK (a := 0) (b := 255) i271.1 n279 (by decide)) dX12_told_216 (fun H locs hP hD hS => ?_)
                                obtain ⟨fi_328, hP, hD⟩ : ∃ fi_328 : Nat → Int32, va_P g.1 vwCl (List.flatten [bMo g o a th hi ac 0 ba en tA fl de iD iO tU fm fk fa fc ft ff fb fi_328]) H ∧ va_D A (List.flatten [bMo g o a th hi ac 0 ba en tA fl de iD iO tU fm fk fa fc ft ff fb fi_328]) := ⟨upd fi_282 x_269.toNatClampNeg (vp_nar .boolean 0), hP, hD⟩
                                refine ziinc3 (n' := 3) (a' := 3) (b' := 38) (lv' := fun v9 => [(5, .int v9), (0, .ref o), (1, .int tp), (2, .int x_258), (3, .int x_268), (4, .int x_269)]) hx hb dX12_told_217 hl (k := 5) rfl (by decide) (fun _ => rfl) (zaddK (i := x_281.toInt) (j := 3) rfl (by decide) i283.1 n297 (Int.le_refl _) (Int.le_refl _) (by decide)) (fun x_329 ls hx_329 hl => ?_)
                                refine lv_goto (tgt := 147) hx hb dX12_told_220 (by decide) ?_
                                have hl := lv_sub (l' := [(0, .ref o), (1, .int tp), (2, .int x_258), (3, .int x_268), (4, .int x_269), (5, .int x_329)]) hl [1, 2, 3, 4, 5, 0] rfl
                                have hP : va_P g.1 vwCl (List.flatten [bMo g o a th hi ac 0 ba en tA fl de iD iO tU fm fk fa fc ft ff fb fi_328]) H := hP
                                have hD : va_D A (List.flatten [bMo g o a th hi ac 0 ba en tA fl de iD iO tU fm fk fa fc ft ff fb fi_328]) := hD
                                exact ih147_285 x_329 fi_328 ⟨(Int.le_trans (by decide) hx_329.2.1), (Int.le_trans hx_329.2.2 (by decide))⟩ H _ ls (zmK hx_329.1 (by decide) n297 (by decide) hk147_285)  hP hD hS (lv_sub hl [0, 1, 2, 3, 4, 5] rfl)
                            · skip
                              refine lv_aload_n hx hb dX12_told_190 rfl (lv_at hl 0 rfl) ?_
                              refine va_get (D := g.1) (ci := 10) (v := .ref (a 4)) (C := RX12) (T := TX12) (N := 20) hx hb hts izRX12 hown hK hP 0 rfl rfl 7 (by decide) (hts _ k819) (fun _ h9 => h9) rfl dX12_told_191 ?_
                              refine lv_iload hx hb dX12_told_194 (lv_at hl 5 rfl) ?_
                              refine lv_iconst (v := 2) hx hb dX12_told_196 (by decide) ?_
                              refine lv_iadd hx hb dX12_told_197 ?_
                              refine zg3 (zaddK (i := x_281.toInt) (j := 2) (a' := 2) (b' := 37) rfl (by decide) i283.1 n297 (Int.le_refl _) (Int.le_refl _) (by decide)) (fun x_330 hx_330 => ?_)
                              refine va_iald hx hb hK hP 5 0 rfl rfl (zinK (a := 2) (b := 37) hx_330.2.1 hx_330.2.2 (by decide)) dX12_told_198 ?_
                              refine zg (fun x_331 => ?_)
                              refine lv_iconst (v := 1) hx hb dX12_told_199 (by decide) ?_
                              refine lv_icmp_ne (tgt := 207) hx hb dX12_told_200 (by decide) (fun cb9 => ?_) (fun cb9 => ?_)
                              · skip
                                have c332 : ¬ x_331.toInt = 1 := zne cb9 rfl (by decide)
                                refine lv_iconst (v := 0) hx hb dX12_told_207 (by decide) ?_
                                refine lv_icmp_ne (tgt := 215) hx hb dX12_told_208 (by decide) (fun _ => ?_) (fun c333 => absurd c333 (by decide))
                                refine lv_iconst (v := 0) hx hb dX12_told_215 (by decide) ?_
                                refine va_zast hx hb hK hP hD hS 8 1 rfl rfl (zinK (a := 0) (b := 255) i271.1 n279 (by decide)) dX12_told_216 (fun H locs hP hD hS => ?_)
                                obtain ⟨fi_334, hP, hD⟩ : ∃ fi_334 : Nat → Int32, va_P g.1 vwCl (List.flatten [bMo g o a th hi ac 0 ba en tA fl de iD iO tU fm fk fa fc ft ff fb fi_334]) H ∧ va_D A (List.flatten [bMo g o a th hi ac 0 ba en tA fl de iD iO tU fm fk fa fc ft ff fb fi_334]) := ⟨upd fi_282 x_269.toNatClampNeg (vp_nar .boolean 0), hP, hD⟩
                                refine ziinc3 (n' := 3) (a' := 3) (b' := 38) (lv' := fun v9 => [(5, .int v9), (0, .ref o), (1, .int tp), (2, .int x_258), (3, .int x_268), (4, .int x_269)]) hx hb dX12_told_217 hl (k := 5) rfl (by decide) (fun _ => rfl) (zaddK (i := x_281.toInt) (j := 3) rfl (by decide) i283.1 n297 (Int.le_refl _) (Int.le_refl _) (by decide)) (fun x_335 ls hx_335 hl => ?_)
                                refine lv_goto (tgt := 147) hx hb dX12_told_220 (by decide) ?_
                                have hl := lv_sub (l' := [(0, .ref o), (1, .int tp), (2, .int x_258), (3, .int x_268), (4, .int x_269), (5, .int x_335)]) hl [1, 2, 3, 4, 5, 0] rfl
                                have hP : va_P g.1 vwCl (List.flatten [bMo g o a th hi ac 0 ba en tA fl de iD iO tU fm fk fa fc ft ff fb fi_334]) H := hP
                                have hD : va_D A (List.flatten [bMo g o a th hi ac 0 ba en tA fl de iD iO tU fm fk fa fc ft ff fb fi_334]) := hD
                                exact ih147_285 x_335 fi_334 ⟨(Int.le_trans (by decide) hx_335.2.1), (Int.le_trans hx_335.2.2 (by decide))⟩ H _ ls (zmK hx_335.1 (by decide) n297 (by decide) hk147_285)  hP hD hS (lv_sub hl [0, 1, 2, 3, 4, 5] rfl)
                              · skip
                                have c336 : x_331.toInt = 1 := zeq cb9 rfl (by decide)
                                have n337 : 1 ≤ x_331.toInt := Int.le_trans (Int.le_refl _) (Int.le_of_eq c336.symm)
                                have n338 : x_331.toInt ≤ 1 := Int.le_trans (Int.le_of_eq c336) (Int.le_refl _)
                                refine lv_iconst (v := 1) hx hb dX12_told_203 (by decide) ?_
                                refine lv_goto (tgt := 208) hx hb dX12_told_204 (by decide) ?_
                                refine lv_icmp_ne (tgt := 215) hx hb dX12_told_208 (by decide) (fun c339 => absurd (by decide) c339) (fun _ => ?_)
                                refine lv_iconst (v := 1) hx hb dX12_told_211 (by decide) ?_
                                refine lv_goto (tgt := 216) hx hb dX12_told_212 (by decide) ?_
                                refine va_zast hx hb hK hP hD hS 8 1 rfl rfl (zinK (a := 0) (b := 255) i271.1 n279 (by decide)) dX12_told_216 (fun H locs hP hD hS => ?_)
                                obtain ⟨fi_340, hP, hD⟩ : ∃ fi_340 : Nat → Int32, va_P g.1 vwCl (List.flatten [bMo g o a th hi ac 0 ba en tA fl de iD iO tU fm fk fa fc ft ff fb fi_340]) H ∧ va_D A (List.flatten [bMo g o a th hi ac 0 ba en tA fl de iD iO tU fm fk fa fc ft ff fb fi_340]) := ⟨upd fi_282 x_269.toNatClampNeg (vp_nar .boolean 1), hP, hD⟩
                                refine ziinc3 (n' := 3) (a' := 3) (b' := 38) (lv' := fun v9 => [(5, .int v9), (0, .ref o), (1, .int tp), (2, .int x_258), (3, .int x_268), (4, .int x_269)]) hx hb dX12_told_217 hl (k := 5) rfl (by decide) (fun _ => rfl) (zaddK (i := x_281.toInt) (j := 3) rfl (by decide) i283.1 n297 (Int.le_refl _) (Int.le_refl _) (by decide)) (fun x_341 ls hx_341 hl => ?_)
                                refine lv_goto (tgt := 147) hx hb dX12_told_220 (by decide) ?_
                                have hl := lv_sub (l' := [(0, .ref o), (1, .int tp), (2, .int x_258), (3, .int x_268), (4, .int x_269), (5, .int x_341)]) hl [1, 2, 3, 4, 5, 0] rfl
                                have hP : va_P g.1 vwCl (List.flatten [bMo g o a th hi ac 0 ba en tA fl de iD iO tU fm fk fa fc ft ff fb fi_340]) H := hP
                                have hD : va_D A (List.flatten [bMo g o a th hi ac 0 ba en tA fl de iD iO tU fm fk fa fc ft ff fb fi_340]) := hD
                                exact ih147_285 x_341 fi_340 ⟨(Int.le_trans (by decide) hx_341.2.1), (Int.le_trans hx_341.2.2 (by decide))⟩ H _ ls (zmK hx_341.1 (by decide) n297 (by decide) hk147_285)  hP hD hS (lv_sub hl [0, 1, 2, 3, 4, 5] rfl)
                    have hP : va_P g.1 vwCl (List.flatten [bMo g o a th hi ac 0 ba en tA fl de iD iO tU fm fk fa fc ft ff fb fi_280]) H := hP
                    have hD : va_D A (List.flatten [bMo g o a th hi ac 0 ba en tA fl de iD iO tU fm fk fa fc ft ff fb fi_280]) := hD
                    exact LP147_284 _ 0 fi_280 (by decide) H _ ls (Nat.lt_succ_self _)  hP hD hS (lv_sub hl [0, 1, 2, 3, 4, 5] rfl)
              have hP : va_P g.1 vwCl (List.flatten [bMo g o a th hi ac 0 ba en tA fl de iD iO tU fm fk fa fc ft ff fb fi]) H := hP
              have hD : va_D A (List.flatten [bMo g o a th hi ac 0 ba en tA fl de iD iO tU fm fk fa fc ft ff fb fi]) := hD
              exact LP123_272 _ 0 0 fi (by decide) H _ ls (Nat.lt_succ_self _)  hP hD hS (lv_sub hl [0, 1, 2, 3, 4] rfl)
            · skip
              have c342 : x_258.toInt = 0 := zeq cb9 rfl (by decide)
              have n343 : x_258.toInt ≤ 0 := Int.le_trans (Int.le_of_eq c342) (Int.le_refl _)
              refine lv_iconst (v := (-1)) hx hb dX12_told_116 (by decide) ?_
              have hP : va_P g.1 vwCl (List.flatten [bMo g o a th hi ac 0 ba en tA fl de iD iO tU fm fk fa fc ft ff fb fi]) H := hP
              have hD : va_D A (List.flatten [bMo g o a th hi ac 0 ba en tA fl de iD iO tU fm fk fa fc ft ff fb fi]) := hD
              exact mret_i hx hb hr hlocks hS (Nat.le_of_ble_eq_true rfl) (Nat.le_of_ble_eq_true rfl) dX12_told_117 (fi, -1) rfl trivial hP hD
          · skip
            have c344 : x_259.toInt < tp.toInt := zlti (Int32.not_le.mp cb9) rfl rfl
            have n345 : x_259.toInt ≤ 35 := zL1 (b := 36) c344 n257 (by decide)
            have n346 : 1 ≤ tp.toInt := zL2 (a := 0) c344 i261.1 (by decide)
            refine lv_iload_n hx hb dX12_told_35 rfl (lv_at hl 2 rfl) ?_
            refine lv_if_eq (tgt := 112) hx hb dX12_told_36 (by decide) (fun cb9 => ?_) (fun cb9 => ?_)
            · skip
              have c347 : x_258.toInt = 0 := zeq cb9 rfl (by decide)
              have n348 : x_258.toInt ≤ 0 := Int.le_trans (Int.le_of_eq c347) (Int.le_refl _)
              refine lv_iload_n hx hb dX12_told_112 rfl (lv_at hl 2 rfl) ?_
              refine lv_if_ne (tgt := 118) hx hb dX12_told_113 (by decide) (fun cb9 => ?_) (fun cb9 => ?_)
              · skip
                exact absurd (show ¬ x_258.toInt = 0 from zne cb9 rfl (by decide)) (by omega)
              · skip
                have c350 : x_258.toInt = 0 := zeq cb9 rfl (by decide)
                refine lv_iconst (v := (-1)) hx hb dX12_told_116 (by decide) ?_
                have hP : va_P g.1 vwCl (List.flatten [bMo g o a th hi ac 0 ba en tA fl de iD iO tU fm fk fa fc ft ff fb fi]) H := hP
                have hD : va_D A (List.flatten [bMo g o a th hi ac 0 ba en tA fl de iD iO tU fm fk fa fc ft ff fb fi]) := hD
                exact mret_i hx hb hr hlocks hS (Nat.le_of_ble_eq_true rfl) (Nat.le_of_ble_eq_true rfl) dX12_told_117 (fi, -1) rfl trivial hP hD
            · skip
              have c351 : ¬ x_258.toInt = 0 := zne cb9 rfl (by decide)
              have n352 : 1 ≤ x_258.toInt := zN1 c351 i260.1 (by decide)
              refine lv_aload_n hx hb dX12_told_39 rfl (lv_at hl 0 rfl) ?_
              refine va_get (D := g.1) (ci := 10) (v := .ref (a 4)) (C := RX12) (T := TX12) (N := 20) hx hb hts izRX12 hown hK hP 0 rfl rfl 7 (by decide) (hts _ k819) (fun _ h9 => h9) rfl dX12_told_40 ?_
              refine lv_iload_n hx hb dX12_told_43 rfl (lv_at hl 3 rfl) ?_
              refine va_iald hx hb hK hP 5 0 rfl rfl (zinK (a := 0) (b := 35) i261.1 n345 (by decide)) dX12_told_44 ?_
              refine zg (fun x_353 => ?_)
              refine lv_aload_n hx hb dX12_told_45 rfl (lv_at hl 0 rfl) ?_
              refine va_get (D := g.1) (ci := 10) (v := .ref (a 0)) (C := RX12) (T := TX12) (N := 20) hx hb hts izRX12 hown hK hP 0 rfl rfl 1 (by decide) (hts _ k815) (fun _ h9 => h9) rfl dX12_told_46 ?_
              refine lv_iconst (v := 3) hx hb dX12_told_49 (by decide) ?_
              refine va_iald hx hb hK hP 1 0 rfl rfl (zin rfl) dX12_told_50 ?_
              refine zgq (r := fm 3) rfl (rM3 rfm) (fun x_354 hx_354 => ?_)
              refine lv_icmp_ge (tgt := 104) hx hb dX12_told_51 (by decide) (fun cb9 => ?_) (fun cb9 => ?_)
              · skip
                have c355 : x_354.toInt ≤ x_353.toInt := zle cb9 rfl rfl
                have n356 : 0 ≤ x_353.toInt := Int.le_trans hx_354.1 c355
                refine lv_iconst (v := 0) hx hb dX12_told_104 (by decide) ?_
                refine lv_istore_n (lv' := [(2, .int 0), (0, .ref o), (1, .int tp), (3, .int x_259)]) hx hb dX12_told_105 rfl hl (by decide) rfl (fun ls hl => ?_)
                refine ziinc3 (n' := 3) (a' := 3) (b' := 38) (lv' := fun v9 => [(3, .int v9), (2, .int 0), (0, .ref o), (1, .int tp)]) hx hb dX12_told_106 hl (k := 3) rfl (by decide) (fun _ => rfl) (zaddK (i := x_259.toInt) (j := 3) rfl (by decide) i261.1 n345 (Int.le_refl _) (Int.le_refl _) (by decide)) (fun x_357 ls hx_357 hl => ?_)
                refine lv_goto (tgt := 30) hx hb dX12_told_109 (by decide) ?_
                have hl := lv_sub (l' := [(0, .ref o), (1, .int tp), (2, .int 0), (3, .int x_357)]) hl [2, 3, 1, 0] rfl
                have hL0 : (0 : Int32).toInt = 0 := by decide
                have hP : va_P g.1 vwCl (List.flatten [bMo g o a th hi ac 0 ba en tA fl de iD iO tU fm fk fa fc ft ff fb fi]) H := hP
                have hD : va_D A (List.flatten [bMo g o a th hi ac 0 ba en tA fl de iD iO tU fm fk fa fc ft ff fb fi]) := hD
                exact ih30_264 0 x_357 (by decide) ⟨(Int.le_trans (by decide) hx_357.2.1), (Int.le_trans hx_357.2.2 (by decide))⟩ (by first | omega | assumption | decide) H _ ls (zmK hx_357.1 (by decide) n345 (by decide) hk30_264)  hP hD hS (lv_sub hl [0, 1, 2, 3] rfl)
              · skip
                have c358 : x_353.toInt < x_354.toInt := zlti (Int32.not_le.mp cb9) rfl rfl
                have n359 : x_353.toInt ≤ 7 := zL1 (b := 8) c358 hx_354.2.1 (by decide)
                refine lv_aload_n hx hb dX12_told_54 rfl (lv_at hl 0 rfl) ?_
                refine va_get (D := g.1) (ci := 10) (v := .ref (a 4)) (C := RX12) (T := TX12) (N := 20) hx hb hts izRX12 hown hK hP 0 rfl rfl 7 (by decide) (hts _ k819) (fun _ h9 => h9) rfl dX12_told_55 ?_
                refine lv_iload_n hx hb dX12_told_58 rfl (lv_at hl 3 rfl) ?_
                refine lv_iconst (v := 1) hx hb dX12_told_59 (by decide) ?_
                refine lv_iadd hx hb dX12_told_60 ?_
                refine zg3 (zaddK (i := x_259.toInt) (j := 1) (a' := 1) (b' := 36) rfl (by decide) i261.1 n345 (Int.le_refl _) (Int.le_refl _) (by decide)) (fun x_360 hx_360 => ?_)
                refine va_iald hx hb hK hP 5 0 rfl rfl (zinK (a := 1) (b := 36) hx_360.2.1 hx_360.2.2 (by decide)) dX12_told_61 ?_
                refine zg (fun x_361 => ?_)
                refine lv_aload_n hx hb dX12_told_62 rfl (lv_at hl 0 rfl) ?_
                refine va_get (D := g.1) (ci := 10) (v := .ref (a 0)) (C := RX12) (T := TX12) (N := 20) hx hb hts izRX12 hown hK hP 0 rfl rfl 1 (by decide) (hts _ k815) (fun _ h9 => h9) rfl dX12_told_63 ?_
                refine lv_iconst (v := 3) hx hb dX12_told_66 (by decide) ?_
                refine va_iald hx hb hK hP 1 0 rfl rfl (zin rfl) dX12_told_67 ?_
                refine zgq (r := fm 3) rfl (rM3 rfm) (fun x_362 hx_362 => ?_)
                refine lv_icmp_ge (tgt := 104) hx hb dX12_told_68 (by decide) (fun cb9 => ?_) (fun cb9 => ?_)
                · skip
                  have c363 : x_362.toInt ≤ x_361.toInt := zle cb9 rfl rfl
                  have n364 : 0 ≤ x_361.toInt := Int.le_trans hx_362.1 c363
                  refine lv_iconst (v := 0) hx hb dX12_told_104 (by decide) ?_
                  refine lv_istore_n (lv' := [(2, .int 0), (0, .ref o), (1, .int tp), (3, .int x_259)]) hx hb dX12_told_105 rfl hl (by decide) rfl (fun ls hl => ?_)
                  refine ziinc3 (n' := 3) (a' := 3) (b' := 38) (lv' := fun v9 => [(3, .int v9), (2, .int 0), (0, .ref o), (1, .int tp)]) hx hb dX12_told_106 hl (k := 3) rfl (by decide) (fun _ => rfl) (zaddK (i := x_259.toInt) (j := 3) rfl (by decide) i261.1 n345 (Int.le_refl _) (Int.le_refl _) (by decide)) (fun x_365 ls hx_365 hl => ?_)
                  refine lv_goto (tgt := 30) hx hb dX12_told_109 (by decide) ?_
                  have hl := lv_sub (l' := [(0, .ref o), (1, .int tp), (2, .int 0), (3, .int x_365)]) hl [2, 3, 1, 0] rfl
                  have hL0 : (0 : Int32).toInt = 0 := by decide
                  have hP : va_P g.1 vwCl (List.flatten [bMo g o a th hi ac 0 ba en tA fl de iD iO tU fm fk fa fc ft ff fb fi]) H := hP
                  have hD : va_D A (List.flatten [bMo g o a th hi ac 0 ba en tA fl de iD iO tU fm fk fa fc ft ff fb fi]) := hD
                  exact ih30_264 0 x_365 (by decide) ⟨(Int.le_trans (by decide) hx_365.2.1), (Int.le_trans hx_365.2.2 (by decide))⟩ (by first | omega | assumption | decide) H _ ls (zmK hx_365.1 (by decide) n345 (by decide) hk30_264)  hP hD hS (lv_sub hl [0, 1, 2, 3] rfl)
                · skip
                  have c366 : x_361.toInt < x_362.toInt := zlti (Int32.not_le.mp cb9) rfl rfl
                  have n367 : x_361.toInt ≤ 7 := zL1 (b := 8) c366 hx_362.2.1 (by decide)
                  refine lv_aload_n hx hb dX12_told_71 rfl (lv_at hl 0 rfl) ?_
                  refine va_get (D := g.1) (ci := 10) (v := .ref (a 4)) (C := RX12) (T := TX12) (N := 20) hx hb hts izRX12 hown hK hP 0 rfl rfl 7 (by decide) (hts _ k819) (fun _ h9 => h9) rfl dX12_told_72 ?_
                  refine lv_iload_n hx hb dX12_told_75 rfl (lv_at hl 3 rfl) ?_
                  refine va_iald hx hb hK hP 5 0 rfl rfl (zinK (a := 0) (b := 35) i261.1 n345 (by decide)) dX12_told_76 ?_
                  refine zg (fun x_368 => ?_)
                  refine lv_aload_n hx hb dX12_told_77 rfl (lv_at hl 0 rfl) ?_
                  refine va_get (D := g.1) (ci := 10) (v := .ref (a 4)) (C := RX12) (T := TX12) (N := 20) hx hb hts izRX12 hown hK hP 0 rfl rfl 7 (by decide) (hts _ k819) (fun _ h9 => h9) rfl dX12_told_78 ?_
                  refine lv_iload_n hx hb dX12_told_81 rfl (lv_at hl 3 rfl) ?_
                  refine lv_iconst (v := 1) hx hb dX12_told_82 (by decide) ?_
                  refine lv_iadd hx hb dX12_told_83 ?_
                  refine zg3 (zaddK (i := x_259.toInt) (j := 1) (a' := 1) (b' := 36) rfl (by decide) i261.1 n345 (Int.le_refl _) (Int.le_refl _) (by decide)) (fun x_369 hx_369 => ?_)
                  refine va_iald hx hb hK hP 5 0 rfl rfl (zinK (a := 1) (b := 36) hx_369.2.1 hx_369.2.2 (by decide)) dX12_told_84 ?_
                  refine zg (fun x_370 => ?_)
                  refine lv_icmp_eq (tgt := 104) hx hb dX12_told_85 (by decide) (fun cb9 => ?_) (fun cb9 => ?_)
                  · skip
                    have c371 : x_368.toInt = x_370.toInt := zeq cb9 rfl rfl
                    refine lv_iconst (v := 0) hx hb dX12_told_104 (by decide) ?_
                    refine lv_istore_n (lv' := [(2, .int 0), (0, .ref o), (1, .int tp), (3, .int x_259)]) hx hb dX12_told_105 rfl hl (by decide) rfl (fun ls hl => ?_)
                    refine ziinc3 (n' := 3) (a' := 3) (b' := 38) (lv' := fun v9 => [(3, .int v9), (2, .int 0), (0, .ref o), (1, .int tp)]) hx hb dX12_told_106 hl (k := 3) rfl (by decide) (fun _ => rfl) (zaddK (i := x_259.toInt) (j := 3) rfl (by decide) i261.1 n345 (Int.le_refl _) (Int.le_refl _) (by decide)) (fun x_372 ls hx_372 hl => ?_)
                    refine lv_goto (tgt := 30) hx hb dX12_told_109 (by decide) ?_
                    have hl := lv_sub (l' := [(0, .ref o), (1, .int tp), (2, .int 0), (3, .int x_372)]) hl [2, 3, 1, 0] rfl
                    have hL0 : (0 : Int32).toInt = 0 := by decide
                    have hP : va_P g.1 vwCl (List.flatten [bMo g o a th hi ac 0 ba en tA fl de iD iO tU fm fk fa fc ft ff fb fi]) H := hP
                    have hD : va_D A (List.flatten [bMo g o a th hi ac 0 ba en tA fl de iD iO tU fm fk fa fc ft ff fb fi]) := hD
                    exact ih30_264 0 x_372 (by decide) ⟨(Int.le_trans (by decide) hx_372.2.1), (Int.le_trans hx_372.2.2 (by decide))⟩ (by first | omega | assumption | decide) H _ ls (zmK hx_372.1 (by decide) n345 (by decide) hk30_264)  hP hD hS (lv_sub hl [0, 1, 2, 3] rfl)
                  · skip
                    have c373 : ¬ x_368.toInt = x_370.toInt := zne cb9 rfl rfl
                    refine lv_aload_n hx hb dX12_told_88 rfl (lv_at hl 0 rfl) ?_
                    refine va_get (D := g.1) (ci := 10) (v := .ref (a 4)) (C := RX12) (T := TX12) (N := 20) hx hb hts izRX12 hown hK hP 0 rfl rfl 7 (by decide) (hts _ k819) (fun _ h9 => h9) rfl dX12_told_89 ?_
                    refine lv_iload_n hx hb dX12_told_92 rfl (lv_at hl 3 rfl) ?_
                    refine lv_iconst (v := 2) hx hb dX12_told_93 (by decide) ?_
                    refine lv_iadd hx hb dX12_told_94 ?_
                    refine zg3 (zaddK (i := x_259.toInt) (j := 2) (a' := 2) (b' := 37) rfl (by decide) i261.1 n345 (Int.le_refl _) (Int.le_refl _) (by decide)) (fun x_374 hx_374 => ?_)
                    refine va_iald hx hb hK hP 5 0 rfl rfl (zinK (a := 2) (b := 37) hx_374.2.1 hx_374.2.2 (by decide)) dX12_told_95 ?_
                    refine zg (fun x_375 => ?_)
                    refine lv_iconst (v := 2) hx hb dX12_told_96 (by decide) ?_
                    refine lv_icmp_ge (tgt := 104) hx hb dX12_told_97 (by decide) (fun cb9 => ?_) (fun cb9 => ?_)
                    · skip
                      have c376 : 2 ≤ x_375.toInt := zle cb9 (by decide) rfl
                      have n377 : 2 ≤ x_375.toInt := Int.le_trans (Int.le_refl _) c376
                      refine lv_iconst (v := 0) hx hb dX12_told_104 (by decide) ?_
                      refine lv_istore_n (lv' := [(2, .int 0), (0, .ref o), (1, .int tp), (3, .int x_259)]) hx hb dX12_told_105 rfl hl (by decide) rfl (fun ls hl => ?_)
                      refine ziinc3 (n' := 3) (a' := 3) (b' := 38) (lv' := fun v9 => [(3, .int v9), (2, .int 0), (0, .ref o), (1, .int tp)]) hx hb dX12_told_106 hl (k := 3) rfl (by decide) (fun _ => rfl) (zaddK (i := x_259.toInt) (j := 3) rfl (by decide) i261.1 n345 (Int.le_refl _) (Int.le_refl _) (by decide)) (fun x_378 ls hx_378 hl => ?_)
                      refine lv_goto (tgt := 30) hx hb dX12_told_109 (by decide) ?_
                      have hl := lv_sub (l' := [(0, .ref o), (1, .int tp), (2, .int 0), (3, .int x_378)]) hl [2, 3, 1, 0] rfl
                      have hL0 : (0 : Int32).toInt = 0 := by decide
                      have hP : va_P g.1 vwCl (List.flatten [bMo g o a th hi ac 0 ba en tA fl de iD iO tU fm fk fa fc ft ff fb fi]) H := hP
                      have hD : va_D A (List.flatten [bMo g o a th hi ac 0 ba en tA fl de iD iO tU fm fk fa fc ft ff fb fi]) := hD
                      exact ih30_264 0 x_378 (by decide) ⟨(Int.le_trans (by decide) hx_378.2.1), (Int.le_trans hx_378.2.2 (by decide))⟩ (by first | omega | assumption | decide) H _ ls (zmK hx_378.1 (by decide) n345 (by decide) hk30_264)  hP hD hS (lv_sub hl [0, 1, 2, 3] rfl)
                    · skip
                      have c379 : x_375.toInt < 2 := zlti (Int32.not_le.mp cb9) rfl (by decide)
                      have n380 : x_375.toInt ≤ 1 := zL1 (b := 2) c379 (Int.le_refl _) (by decide)
                      refine lv_iconst (v := 1) hx hb dX12_told_100 (by decide) ?_
                      refine lv_goto (tgt := 105) hx hb dX12_told_101 (by decide) ?_
                      refine lv_istore_n (lv' := [(2, .int 1), (0, .ref o), (1, .int tp), (3, .int x_259)]) hx hb dX12_told_105 rfl hl (by decide) rfl (fun ls hl => ?_)
                      refine ziinc3 (n' := 3) (a' := 3) (b' := 38) (lv' := fun v9 => [(3, .int v9), (2, .int 1), (0, .ref o), (1, .int tp)]) hx hb dX12_told_106 hl (k := 3) rfl (by decide) (fun _ => rfl) (zaddK (i := x_259.toInt) (j := 3) rfl (by decide) i261.1 n345 (Int.le_refl _) (Int.le_refl _) (by decide)) (fun x_381 ls hx_381 hl => ?_)
                      refine lv_goto (tgt := 30) hx hb dX12_told_109 (by decide) ?_
                      have hl := lv_sub (l' := [(0, .ref o), (1, .int tp), (2, .int 1), (3, .int x_381)]) hl [2, 3, 1, 0] rfl
                      have hL1 : (1 : Int32).toInt = 1 := by decide
                      have hP : va_P g.1 vwCl (List.flatten [bMo g o a th hi ac 0 ba en tA fl de iD iO tU fm fk fa fc ft ff fb fi]) H := hP
                      have hD : va_D A (List.flatten [bMo g o a th hi ac 0 ba en tA fl de iD iO tU fm fk fa fc ft ff fb fi]) := hD
                      exact ih30_264 1 x_381 (by decide) ⟨(Int.le_trans (by decide) hx_381.2.1), (Int.le_trans hx_381.2.2 (by decide))⟩ (by first | omega | assumption | decide) H _ ls (zmK hx_381.1 (by decide) n345 (by decide) hk30_264)  hP hD hS (lv_sub hl [0, 1, 2, 3] rfl)
      have hL1 : (1 : Int32).toInt = 1 := by decide
      have hL0 : (0 : Int32).toInt = 0 := by decide
      have hP : va_P g.1 vwCl (List.flatten [bMo g o a th hi ac 0 ba en tA fl de iD iO tU fm fk fa fc ft ff fb fi]) H := hP
      have hD : va_D A (List.flatten [bMo g o a th hi ac 0 ba en tA fl de iD iO tU fm fk fa fc ft ff fb fi]) := hD
      exact LP30_263 _ 1 0 (by decide) (by decide) (by first | omega | assumption | decide) H _ ls (Nat.lt_succ_self _)  hP hD hS (lv_sub hl [0, 1, 2, 3] rfl)
