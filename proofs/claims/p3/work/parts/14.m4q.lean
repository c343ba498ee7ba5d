set_option maxRecDepth 100000 in
set_option maxHeartbeats 4000000 in
theorem m_dryHas (l : Launch) (g : zG) (o : Nat) (a : Nat → Nat) (th : Int32) (hi : Int32) (ac : Int32) (tp : Int32) (ba : Int32) (en : Int32) (tA : Int32) (fl : Int32) (de : Int32) (iD : Int32) (iO : Int32) (tU : Int32) (fm : Nat → Int32) (fk : Nat → Int32) (fa : Nat → Int32) (fc : Nat → Int32) (ft : Nat → Int32) (ff : Nat → Int32) (fb : Nat → Int32) (fi : Nat → Int32) (x : Int32) (x2 : Int32) (x3 : Int32) (x4 : Int32) (b_x : 0 ≤ x.toInt ∧ x.toInt ≤ 7) (b_x2 : 0 ≤ x2.toInt ∧ x2.toInt ≤ 7) : zM' g l yX12_dryHas (Cond.code yX12_dryHas cX12_dryHas 5 (some .int) :: zB) ({ frames := 1, cells := 0, slots := 0, locals := 22 } : Room) [.ref o, .int x, .int x2, .int x3, .int x4] [bMo g o a th hi ac tp ba en tA fl de iD iO tU fm fk fa fc ft ff fb fi] (fun (q : Int32) => some (.int q)) (fun (q : Int32) => True) (fun (q : Int32) => [bMo g o a th hi ac tp ba en tA fl de iD iO tU fm fk fa fc ft ff fb fi]) := by
  refine zM'.of (cc := cX12_dryHas) (maxL := 5) (rt := (some .int)) (by decide) rfl (Nat.le_of_ble_eq_true rfl) ?_
  intro p e s m args below meth c A ls St hr hlocks hin hK hT hA hP hD hS hl
  obtain ⟨hx, hb, hml, hown, hts⟩ := id St
  have hl : lv_has ls 5 [(0, .ref o), (1, .int x), (2, .int x2), (3, .int x3), (4, .int x4)] := hl
  refine lv_iload_n hx hb dX12_dryHas_0 rfl (lv_at hl 3 rfl) ?_
  refine lv_iload hx hb dX12_dryHas_1 (lv_at hl 4 rfl) ?_
  refine mcallS' (g := g) (As := [.int x3, .int x4]) (rest := []) St hK hT hA hP hD hS hl.1 [] [0] rfl rfl rfl (m_moreBy l g x3 x4 ) (va_cwS 2 hts (zgL (zl3 k1122 k1123 k837) k1120) rfl rfl rfl (by decide +kernel) ⟨Nat.le_of_ble_eq_true rfl, Nat.le_of_ble_eq_true rfl⟩) rfl rfl (Nat.le_of_ble_eq_true rfl) dX12_dryHas_3 ⟨(Nat.le_of_ble_eq_true rfl), (Nat.le_of_ble_eq_true rfl)⟩ (fun q_1 H locs hq2 hP hD hS => ?_)
  have hP : va_P g.1 vwCl (List.flatten [bMo g o a th hi ac tp ba en tA fl de iD iO tU fm fk fa fc ft ff fb fi]) H := hP
  have hD : va_D A (List.flatten [bMo g o a th hi ac tp ba en tA fl de iD iO tU fm fk fa fc ft ff fb fi]) := hD
  refine W.widen (k := 0) (n := 0) (Nat.le_of_ble_eq_true rfl) (Nat.le_of_ble_eq_true rfl) ?_
  refine W.eq (g2 := F0 m 6 ls [.int q_1]) rfl ?_
  refine lv_ineg hx hb dX12_dryHas_6 ?_
  refine zg (fun x_3 => ?_)
  refine lv_iload hx hb dX12_dryHas_7 (lv_at hl 4 rfl) ?_
  refine lv_if_ne (tgt := 21) hx hb dX12_dryHas_9 (by decide) (fun cb9 => ?_) (fun cb9 => ?_)
  · skip
    have c4 : ¬ x4.toInt = 0 := zne cb9 rfl (by decide)
    refine lv_iconst (v := 0) hx hb dX12_dryHas_21 (by decide) ?_
    refine lv_isub hx hb dX12_dryHas_22 ?_
    refine zg (fun x_5 => ?_)
    have hP : va_P g.1 vwCl (List.flatten [bMo g o a th hi ac tp ba en tA fl de iD iO tU fm fk fa fc ft ff fb fi]) H := hP
    have hD : va_D A (List.flatten [bMo g o a th hi ac tp ba en tA fl de iD iO tU fm fk fa fc ft ff fb fi]) := hD
    exact mret_i hx hb hr hlocks hS (Nat.le_of_ble_eq_true rfl) (Nat.le_of_ble_eq_true rfl) dX12_dryHas_23 (x_5) rfl trivial hP hD
  · skip
    have c6 : x4.toInt = 0 := zeq cb9 rfl (by decide)
    have n7 : 0 ≤ x4.toInt := Int.le_trans (Int.le_refl _) (Int.le_of_eq c6.symm)
    have n8 : x4.toInt ≤ 0 := Int.le_trans (Int.le_of_eq c6) (Int.le_refl _)
    refine lv_aload_n hx hb dX12_dryHas_12 rfl (lv_at hl 0 rfl) ?_
    refine lv_iload_n hx hb dX12_dryHas_13 rfl (lv_at hl 1 rfl) ?_
    refine lv_iload_n hx hb dX12_dryHas_14 rfl (lv_at hl 2 rfl) ?_
    refine mcallV' (g := g) (q0 := 0) (ci := 10) (As := [.int x, .int x2]) (rest := [.int x_3]) St hK hT hA hP hD hS hl.1 [0] [] rfl rfl rfl (m_trustOf l g o a th hi ac tp ba en tA fl de iD iO tU fm fk fa fc ft ff fb fi x x2 (⟨b_x.1, b_x.2⟩) (⟨b_x2.1, b_x2.2⟩)) (cwV 2 hts (zgL (zl4 k866 k867 k868 k837) k833) rfl rfl rfl (by decide +kernel) ⟨Nat.le_of_ble_eq_true rfl, Nat.le_of_ble_eq_true rfl⟩) rfl rfl rfl rfl (Nat.le_of_ble_eq_true rfl) dX12_dryHas_15 ⟨(Nat.le_of_ble_eq_true rfl), (Nat.le_of_ble_eq_true rfl)⟩ (fun q_9 H locs hq10 hP hD hS => ?_)
    have hP : va_P g.1 vwCl (List.flatten [bMo g o a th hi ac tp ba en tA fl de iD iO tU fm fk fa fc ft ff fb fi]) H := hP
    have hD : va_D A (List.flatten [bMo g o a th hi ac tp ba en tA fl de iD iO tU fm fk fa fc ft ff fb fi]) := hD
    refine W.widen (k := 0) (n := 0) (Nat.le_of_ble_eq_true rfl) (Nat.le_of_ble_eq_true rfl) ?_
    refine W.eq (g2 := F0 m 18 ls [.int q_9, .int x_3]) rfl ?_
    refine lv_goto (tgt := 22) hx hb dX12_dryHas_18 (by decide) ?_
    refine lv_isub hx hb dX12_dryHas_22 ?_
    refine zg (fun x_11 => ?_)
    have hP : va_P g.1 vwCl (List.flatten [bMo g o a th hi ac tp ba en tA fl de iD iO tU fm fk fa fc ft ff fb fi]) H := hP
    have hD : va_D A (List.flatten [bMo g o a th hi ac tp ba en tA fl de iD iO tU fm fk fa fc ft ff fb fi]) := hD
    exact mret_i hx hb hr hlocks hS (Nat.le_of_ble_eq_true rfl) (Nat.le_of_ble_eq_true rfl) dX12_dryHas_23 (x_11) rfl trivial hP hD
