set_option maxRecDepth 100000 in
set_option maxHeartbeats 4000000 in
theorem m_end (l : Launch) (g : zG) (o : Nat) (a : Nat → Nat) (th : Int32) (hi : Int32) (ac : Int32) (tp : Int32) (ba : Int32) (en : Int32) (tA : Int32) (fl : Int32) (de : Int32) (iD : Int32) (iO : Int32) (tU : Int32) (fm : Nat → Int32) (fk : Nat → Int32) (fa : Nat → Int32) (fc : Nat → Int32) (ft : Nat → Int32) (ff : Nat → Int32) (fb : Nat → Int32) (fi : Nat → Int32) (n : Int32) (htp : 0 ≤ tp.toInt ∧ tp.toInt ≤ 400) : zM' g l yX12_end (Cond.code yX12_end cX12_end 2 (some .boolean) :: zB) ({ frames := 1, cells := 0, slots := 0, locals := 22 } : Room) [.ref o, .int n] [bMo g o a th hi ac tp ba en tA fl de iD iO tU fm fk fa fc ft ff fb fi] (fun u : Int32 × Int32 × Int32 => (fun (th2 : Int32) (tp2 : Int32) (q : Int32) => some (.int q)) (u.1) (u.2.1) (u.2.2)) (fun u : Int32 × Int32 × Int32 => (fun (th2 : Int32) (tp2 : Int32) (q : Int32) => (0 ≤ tp2.toInt ∧ tp2.toInt ≤ 400) ∧ (q = 1 ∧ (0 ≤ n.toInt ∧ n.toInt ≤ tp.toInt ∧ tp2.toInt = n.toInt) ∨ q = 0 ∧ ((n.toInt < 0 ∨ tp.toInt < n.toInt) ∧ tp2.toInt = tp.toInt))) (u.1) (u.2.1) (u.2.2)) (fun u : Int32 × Int32 × Int32 => (fun (th2 : Int32) (tp2 : Int32) (q : Int32) => [bMo g o a th2 hi ac tp2 ba en tA fl de iD iO tU fm fk fa fc ft ff fb fi]) (u.1) (u.2.1) (u.2.2)) := by
  refine zM'.of (cc := cX12_end) (maxL := 2) (rt := (some .boolean)) (by decide) rfl (Nat.le_of_ble_eq_true rfl) ?_
  intro p e s m args below meth c A ls St hr hlocks hin hK hT hA hP hD hS hl
  obtain ⟨hx, hb, hml, hown, hts⟩ := id St
  have hl : lv_has ls 2 [(0, .ref o), (1, .int n)] := hl
  refine lv_aload_n hx hb dX12_end_0 rfl (lv_at hl 0 rfl) ?_
  refine lv_iconst (v := 0) hx hb dX12_end_1 (by decide) ?_
  refine va_put (D := g.1) (ci := 10) (v := .int 0) (ty := .int) (C := RX12) (T := TX12) (N := 20) hx hb hts izRX12 tyX12 tyX12_ok nmX12 hown hK hP hD hS 0 rfl rfl 0 (by decide) (hts _ k871) (fun _ h9 => h9) rfl (by decide +kernel) rfl rfl (Nat.le_of_ble_eq_true rfl) dX12_end_2 (fun H locs hP hD hS => ?_)
  have hP : va_P g.1 vwCl (List.flatten [bMo g o a 0 hi ac tp ba en tA fl de iD iO tU fm fk fa fc ft ff fb fi]) H := hP
  have hD : va_D A (List.flatten [bMo g o a 0 hi ac tp ba en tA fl de iD iO tU fm fk fa fc ft ff fb fi]) := hD
  refine lv_iload_n hx hb dX12_end_5 rfl (lv_at hl 1 rfl) ?_
  refine lv_iconst (v := 0) hx hb dX12_end_6 (by decide) ?_
  refine lv_aload_n hx hb dX12_end_7 rfl (lv_at hl 0 rfl) ?_
  refine va_get (D := g.1) (ci := 10) (v := .int tp) (C := RX12) (T := TX12) (N := 20) hx hb hts izRX12 hown hK hP 0 rfl rfl 8 (by decide) (hts _ k872) (fun _ h9 => h9) rfl dX12_end_8 ?_
  have hL0 : (0 : Int32).toInt = 0 := by decide
  refine mcallS' (g := g) (As := [.int n, .int 0, .int tp]) (rest := []) St hK hT hA hP hD hS hl.1 [] [0] rfl rfl rfl (m_isIn l g n 0 tp ) (va_cwS 3 hts (zgL (zl3 k835 k836 k837) k824) rfl rfl rfl (by decide +kernel) ⟨Nat.le_of_ble_eq_true rfl, Nat.le_of_ble_eq_true rfl⟩) rfl rfl (Nat.le_of_ble_eq_true rfl) dX12_end_11 ⟨(Nat.le_of_ble_eq_true rfl), (Nat.le_of_ble_eq_true rfl)⟩ (fun q_1 H locs hq2 hP hD hS => ?_)
  replace hq2 : (q_1 = 1 ∧ (0 : Int32).toInt ≤ n.toInt ∧ n.toInt ≤ tp.toInt ∨ q_1 = 0 ∧ (n.toInt < (0 : Int32).toInt ∨ tp.toInt < n.toInt)) := hq2
  have hP : va_P g.1 vwCl (List.flatten [bMo g o a 0 hi ac tp ba en tA fl de iD iO tU fm fk fa fc ft ff fb fi]) H := hP
  have hD : va_D A (List.flatten [bMo g o a 0 hi ac tp ba en tA fl de iD iO tU fm fk fa fc ft ff fb fi]) := hD
  refine W.widen (k := 0) (n := 0) (Nat.le_of_ble_eq_true rfl) (Nat.le_of_ble_eq_true rfl) ?_
  refine W.eq (g2 := F0 m 14 ls [.int q_1]) rfl ?_
  rcases hq2 with ⟨rfl, hq2_k⟩ | ⟨rfl, hq2_k⟩
  · skip
    refine lv_if_ne (tgt := 19) hx hb dX12_end_14 (by decide) (fun _ => ?_) (fun c3 => absurd c3 (by decide))
    refine lv_aload_n hx hb dX12_end_19 rfl (lv_at hl 0 rfl) ?_
    refine lv_iload_n hx hb dX12_end_20 rfl (lv_at hl 1 rfl) ?_
    refine va_put (D := g.1) (ci := 10) (v := .int n) (ty := .int) (C := RX12) (T := TX12) (N := 20) hx hb hts izRX12 tyX12 tyX12_ok nmX12 hown hK hP hD hS 0 rfl rfl 8 (by decide) (hts _ k872) (fun _ h9 => h9) rfl (by decide +kernel) rfl rfl (Nat.le_of_ble_eq_true rfl) dX12_end_21 (fun H locs hP hD hS => ?_)
    have hP : va_P g.1 vwCl (List.flatten [bMo g o a 0 hi ac n ba en tA fl de iD iO tU fm fk fa fc ft ff fb fi]) H := hP
    have hD : va_D A (List.flatten [bMo g o a 0 hi ac n ba en tA fl de iD iO tU fm fk fa fc ft ff fb fi]) := hD
    refine lv_iconst (v := 1) hx hb dX12_end_24 (by decide) ?_
    have hP : va_P g.1 vwCl (List.flatten [bMo g o a 0 hi ac n ba en tA fl de iD iO tU fm fk fa fc ft ff fb fi]) H := hP
    have hD : va_D A (List.flatten [bMo g o a 0 hi ac n ba en tA fl de iD iO tU fm fk fa fc ft ff fb fi]) := hD
    exact mret_z hx hb hr hlocks hS (Nat.le_of_ble_eq_true rfl) (Nat.le_of_ble_eq_true rfl) dX12_end_25 ((0 : Int32), n, (1 : Int32)) rfl (by decide) (show (0 ≤ n.toInt ∧ n.toInt ≤ 400) ∧ (1 = 1 ∧ (0 ≤ n.toInt ∧ n.toInt ≤ tp.toInt ∧ n.toInt = n.toInt) ∨ 1 = 0 ∧ ((n.toInt < 0 ∨ tp.toInt < n.toInt) ∧ n.toInt = tp.toInt)) from ⟨(by omega), (by first | exact Or.inl ⟨rfl, by omega⟩ | exact Or.inr ⟨rfl, by omega⟩)⟩) hP hD
  · skip
    refine lv_if_ne (tgt := 19) hx hb dX12_end_14 (by decide) (fun c4 => absurd (by decide) c4) (fun _ => ?_)
    refine lv_iconst (v := 0) hx hb dX12_end_17 (by decide) ?_
    have hP : va_P g.1 vwCl (List.flatten [bMo g o a 0 hi ac tp ba en tA fl de iD iO tU fm fk fa fc ft ff fb fi]) H := hP
    have hD : va_D A (List.flatten [bMo g o a 0 hi ac tp ba en tA fl de iD iO tU fm fk fa fc ft ff fb fi]) := hD
    exact mret_z hx hb hr hlocks hS (Nat.le_of_ble_eq_true rfl) (Nat.le_of_ble_eq_true rfl) dX12_end_18 ((0 : Int32), tp, (0 : Int32)) rfl (by decide) (show (0 ≤ tp.toInt ∧ tp.toInt ≤ 400) ∧ (0 = 1 ∧ (0 ≤ n.toInt ∧ n.toInt ≤ tp.toInt ∧ tp.toInt = n.toInt) ∨ 0 = 0 ∧ ((n.toInt < 0 ∨ tp.toInt < n.toInt) ∧ tp.toInt = tp.toInt)) from ⟨(by omega), (by first | exact Or.inl ⟨rfl, by omega⟩ | exact Or.inr ⟨rfl, by omega⟩)⟩) hP hD
