set_option maxRecDepth 100000 in
set_option maxHeartbeats 4000000 in
theorem m_log (l : Launch) (g : zG) (o : Nat) (a : Nat → Nat) (th : Int32) (hi : Int32) (ac : Int32) (tp : Int32) (ba : Int32) (en : Int32) (tA : Int32) (fl : Int32) (de : Int32) (iD : Int32) (iO : Int32) (tU : Int32) (fm : Nat → Int32) (fk : Nat → Int32) (fa : Nat → Int32) (fc : Nat → Int32) (ft : Nat → Int32) (ff : Nat → Int32) (fb : Nat → Int32) (fi : Nat → Int32) (ago : Int32) (what : Int32) (rfm : rM fm) : zM' g l yX12_log (Cond.code yX12_log cX12_log 3 (some .int) :: zB) ({ frames := 1, cells := 0, slots := 0, locals := 22 } : Room) [.ref o, .int ago, .int what] [bMo g o a th hi ac tp ba en tA fl de iD iO tU fm fk fa fc ft ff fb fi] (fun u : Int32 × Int32 => (fun (th2 : Int32) (q : Int32) => some (.int q)) (u.1) (u.2)) (fun u : Int32 × Int32 => (fun (th2 : Int32) (q : Int32) => True) (u.1) (u.2)) (fun u : Int32 × Int32 => (fun (th2 : Int32) (q : Int32) => [bMo g o a th2 hi ac tp ba en tA fl de iD iO tU fm fk fa fc ft ff fb fi]) (u.1) (u.2)) := by
  refine zM'.of (cc := cX12_log) (maxL := 3) (rt := (some .int)) (by decide) rfl (Nat.le_of_ble_eq_true rfl) ?_
  intro p e s m args below meth c A ls St hr hlocks hin hK hT hA hP hD hS hl
  obtain ⟨hx, hb, hml, hown, hts⟩ := id St
  have hl : lv_has ls 3 [(0, .ref o), (1, .int ago), (2, .int what)] := hl
  refine lv_aload_n hx hb dX12_log_0 rfl (lv_at hl 0 rfl) ?_
  refine lv_iload_n hx hb dX12_log_1 rfl (lv_at hl 2 rfl) ?_
  refine lv_iconst (v := 0) hx hb dX12_log_2 (by decide) ?_
  refine lv_iconst (v := 3) hx hb dX12_log_3 (by decide) ?_
  have hL0 : (0 : Int32).toInt = 0 := by decide
  have hL3 : (3 : Int32).toInt = 3 := by decide
  refine mcallS' (g := g) (As := [.int what, .int 0, .int 3]) (rest := [.ref o]) St hK hT hA hP hD hS hl.1 [] [0] rfl rfl rfl (m_isIn l g what 0 3 ) (va_cwS 3 hts (zgL (zl3 k835 k836 k837) k824) rfl rfl rfl (by decide +kernel) ⟨Nat.le_of_ble_eq_true rfl, Nat.le_of_ble_eq_true rfl⟩) rfl rfl (Nat.le_of_ble_eq_true rfl) dX12_log_4 ⟨(Nat.le_of_ble_eq_true rfl), (Nat.le_of_ble_eq_true rfl)⟩ (fun q_1 H locs hq2 hP hD hS => ?_)
  replace hq2 : (q_1 = 1 ∧ (0 : Int32).toInt ≤ what.toInt ∧ what.toInt ≤ (3 : Int32).toInt ∨ q_1 = 0 ∧ (what.toInt < (0 : Int32).toInt ∨ (3 : Int32).toInt < what.toInt)) := hq2
  have hP : va_P g.1 vwCl (List.flatten [bMo g o a th hi ac tp ba en tA fl de iD iO tU fm fk fa fc ft ff fb fi]) H := hP
  have hD : va_D A (List.flatten [bMo g o a th hi ac tp ba en tA fl de iD iO tU fm fk fa fc ft ff fb fi]) := hD
  refine W.widen (k := 0) (n := 0) (Nat.le_of_ble_eq_true rfl) (Nat.le_of_ble_eq_true rfl) ?_
  refine W.eq (g2 := F0 m 7 ls [.int q_1, .ref o]) rfl ?_
  rcases hq2 with ⟨rfl, hq2_k⟩ | ⟨rfl, hq2_k⟩
  · skip
    refine lv_if_ne (tgt := 14) hx hb dX12_log_7 (by decide) (fun _ => ?_) (fun c3 => absurd c3 (by decide))
    refine lv_iconst (v := 0) hx hb dX12_log_14 (by decide) ?_
    refine va_put (D := g.1) (ci := 10) (v := .int 0) (ty := .int) (C := RX12) (T := TX12) (N := 20) hx hb hts izRX12 tyX12 tyX12_ok nmX12 hown hK hP hD hS 0 rfl rfl 0 (by decide) (hts _ k871) (fun _ h9 => h9) rfl (by decide +kernel) rfl rfl (Nat.le_of_ble_eq_true rfl) dX12_log_15 (fun H locs hP hD hS => ?_)
    have hP : va_P g.1 vwCl (List.flatten [bMo g o a 0 hi ac tp ba en tA fl de iD iO tU fm fk fa fc ft ff fb fi]) H := hP
    have hD : va_D A (List.flatten [bMo g o a 0 hi ac tp ba en tA fl de iD iO tU fm fk fa fc ft ff fb fi]) := hD
    refine lv_aload_n hx hb dX12_log_18 rfl (lv_at hl 0 rfl) ?_
    refine va_get (D := g.1) (ci := 10) (v := .int 0) (C := RX12) (T := TX12) (N := 20) hx hb hts izRX12 hown hK hP 0 rfl rfl 0 (by decide) (hts _ k871) (fun _ h9 => h9) rfl dX12_log_19 ?_
    refine lv_if_le (tgt := 27) hx hb dX12_log_22 (by decide) (fun _ => ?_) (fun c4 => absurd (by decide) c4)
    refine lv_iload_n hx hb dX12_log_27 rfl (lv_at hl 1 rfl) ?_
    refine lv_iconst (v := 0) hx hb dX12_log_28 (by decide) ?_
    refine lv_aload_n hx hb dX12_log_29 rfl (lv_at hl 0 rfl) ?_
    refine va_get (D := g.1) (ci := 10) (v := .ref (a 0)) (C := RX12) (T := TX12) (N := 20) hx hb hts izRX12 hown hK hP 0 rfl rfl 1 (by decide) (hts _ k815) (fun _ h9 => h9) rfl dX12_log_30 ?_
    refine lv_bipush (v := 9) hx hb dX12_log_33 (by decide) ?_
    refine va_iald hx hb hK hP 1 0 rfl rfl (zin rfl) dX12_log_35 ?_
    refine zgq (r := fm 9) rfl (rM9 rfm) (fun x_5 hx_5 => ?_)
    refine lv_iconst (v := 1) hx hb dX12_log_36 (by decide) ?_
    refine lv_isub hx hb dX12_log_37 ?_
    refine zg3 (zsubK (i := x_5.toInt) (j := 1) (a' := (-1)) (b' := 59) rfl (by decide) hx_5.1 hx_5.2.1 (Int.le_refl _) (Int.le_refl _) (by decide)) (fun x_6 hx_6 => ?_)
    refine mcallS' (g := g) (As := [.int ago, .int 0, .int x_6]) (rest := []) St hK hT hA hP hD hS hl.1 [] [0] rfl rfl rfl (m_isIn l g ago 0 x_6 ) (va_cwS 3 hts (zgL (zl3 k835 k836 k837) k824) rfl rfl rfl (by decide +kernel) ⟨Nat.le_of_ble_eq_true rfl, Nat.le_of_ble_eq_true rfl⟩) rfl rfl (Nat.le_of_ble_eq_true rfl) dX12_log_38 ⟨(Nat.le_of_ble_eq_true rfl), (Nat.le_of_ble_eq_true rfl)⟩ (fun q_7 H locs hq8 hP hD hS => ?_)
    replace hq8 : (q_7 = 1 ∧ (0 : Int32).toInt ≤ ago.toInt ∧ ago.toInt ≤ x_6.toInt ∨ q_7 = 0 ∧ (ago.toInt < (0 : Int32).toInt ∨ x_6.toInt < ago.toInt)) := hq8
    have hP : va_P g.1 vwCl (List.flatten [bMo g o a 0 hi ac tp ba en tA fl de iD iO tU fm fk fa fc ft ff fb fi]) H := hP
    have hD : va_D A (List.flatten [bMo g o a 0 hi ac tp ba en tA fl de iD iO tU fm fk fa fc ft ff fb fi]) := hD
    refine W.widen (k := 0) (n := 0) (Nat.le_of_ble_eq_true rfl) (Nat.le_of_ble_eq_true rfl) ?_
    refine W.eq (g2 := F0 m 41 ls [.int q_7]) rfl ?_
    rcases hq8 with ⟨rfl, hq8_k⟩ | ⟨rfl, hq8_k⟩
    · skip
      refine lv_if_eq (tgt := 53) hx hb dX12_log_41 (by decide) (fun c9 => absurd c9 (by decide)) (fun _ => ?_)
      refine lv_aload_n hx hb dX12_log_44 rfl (lv_at hl 0 rfl) ?_
      refine lv_iload_n hx hb dX12_log_45 rfl (lv_at hl 1 rfl) ?_
      refine lv_iload_n hx hb dX12_log_46 rfl (lv_at hl 2 rfl) ?_
      refine mcallV' (g := g) (q0 := 0) (ci := 10) (As := [.int ago, .int what]) (rest := []) St hK hT hA hP hD hS hl.1 [0] [] rfl rfl rfl (m_logged l g o a 0 hi ac tp ba en tA fl de iD iO tU fm fk fa fc ft ff fb fi ago what (by first | assumption | omega | decide | exact Or.inl (by decide) | exact Or.inr (by decide)) (by first | assumption | omega | decide | exact Or.inl (by decide) | exact Or.inr (by decide))) (cwV 2 hts (zgL (zl4 k1138 k1139 k1140 k837) k1136) rfl rfl rfl (by decide +kernel) ⟨Nat.le_of_ble_eq_true rfl, Nat.le_of_ble_eq_true rfl⟩) rfl rfl rfl rfl (Nat.le_of_ble_eq_true rfl) dX12_log_47 ⟨(Nat.le_of_ble_eq_true rfl), (Nat.le_of_ble_eq_true rfl)⟩ (fun q_10 H locs hq11 hP hD hS => ?_)
      have hP : va_P g.1 vwCl (List.flatten [bMo g o a 0 hi ac tp ba en tA fl de iD iO tU fm fk fa fc ft ff fb fi]) H := hP
      have hD : va_D A (List.flatten [bMo g o a 0 hi ac tp ba en tA fl de iD iO tU fm fk fa fc ft ff fb fi]) := hD
      refine W.widen (k := 0) (n := 0) (Nat.le_of_ble_eq_true rfl) (Nat.le_of_ble_eq_true rfl) ?_
      refine W.eq (g2 := F0 m 50 ls [.int q_10]) rfl ?_
      refine lv_goto (tgt := 54) hx hb dX12_log_50 (by decide) ?_
      have hP : va_P g.1 vwCl (List.flatten [bMo g o a 0 hi ac tp ba en tA fl de iD iO tU fm fk fa fc ft ff fb fi]) H := hP
      have hD : va_D A (List.flatten [bMo g o a 0 hi ac tp ba en tA fl de iD iO tU fm fk fa fc ft ff fb fi]) := hD
      exact mret_i hx hb hr hlocks hS (Nat.le_of_ble_eq_true rfl) (Nat.le_of_ble_eq_true rfl) dX12_log_54 ((0 : Int32), q_10) rfl trivial hP hD
    · skip
      refine lv_if_eq (tgt := 53) hx hb dX12_log_41 (by decide) (fun _ => ?_) (fun c12 => absurd (by decide) c12)
      refine lv_iconst (v := (-1)) hx hb dX12_log_53 (by decide) ?_
      have hP : va_P g.1 vwCl (List.flatten [bMo g o a 0 hi ac tp ba en tA fl de iD iO tU fm fk fa fc ft ff fb fi]) H := hP
      have hD : va_D A (List.flatten [bMo g o a 0 hi ac tp ba en tA fl de iD iO tU fm fk fa fc ft ff fb fi]) := hD
      exact mret_i hx hb hr hlocks hS (Nat.le_of_ble_eq_true rfl) (Nat.le_of_ble_eq_true rfl) dX12_log_54 ((0 : Int32), -1) rfl trivial hP hD
  · skip
    refine lv_if_ne (tgt := 14) hx hb dX12_log_7 (by decide) (fun c13 => absurd (by decide) c13) (fun _ => ?_)
    refine lv_iconst (v := 1) hx hb dX12_log_10 (by decide) ?_
    refine lv_goto (tgt := 15) hx hb dX12_log_11 (by decide) ?_
    refine va_put (D := g.1) (ci := 10) (v := .int 1) (ty := .int) (C := RX12) (T := TX12) (N := 20) hx hb hts izRX12 tyX12 tyX12_ok nmX12 hown hK hP hD hS 0 rfl rfl 0 (by decide) (hts _ k871) (fun _ h9 => h9) rfl (by decide +kernel) rfl rfl (Nat.le_of_ble_eq_true rfl) dX12_log_15 (fun H locs hP hD hS => ?_)
    have hP : va_P g.1 vwCl (List.flatten [bMo g o a 1 hi ac tp ba en tA fl de iD iO tU fm fk fa fc ft ff fb fi]) H := hP
    have hD : va_D A (List.flatten [bMo g o a 1 hi ac tp ba en tA fl de iD iO tU fm fk fa fc ft ff fb fi]) := hD
    refine lv_aload_n hx hb dX12_log_18 rfl (lv_at hl 0 rfl) ?_
    refine va_get (D := g.1) (ci := 10) (v := .int 1) (C := RX12) (T := TX12) (N := 20) hx hb hts izRX12 hown hK hP 0 rfl rfl 0 (by decide) (hts _ k871) (fun _ h9 => h9) rfl dX12_log_19 ?_
    refine lv_if_le (tgt := 27) hx hb dX12_log_22 (by decide) (fun c14 => absurd c14 (by decide)) (fun _ => ?_)
    refine lv_iconst (v := 0) hx hb dX12_log_25 (by decide) ?_
    have hP : va_P g.1 vwCl (List.flatten [bMo g o a 1 hi ac tp ba en tA fl de iD iO tU fm fk fa fc ft ff fb fi]) H := hP
    have hD : va_D A (List.flatten [bMo g o a 1 hi ac tp ba en tA fl de iD iO tU fm fk fa fc ft ff fb fi]) := hD
    exact mret_i hx hb hr hlocks hS (Nat.le_of_ble_eq_true rfl) (Nat.le_of_ble_eq_true rfl) dX12_log_26 ((1 : Int32), (0 : Int32)) rfl trivial hP hD
