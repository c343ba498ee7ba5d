set_option maxRecDepth 100000 in
set_option maxHeartbeats 4000000 in
theorem m_isHereF (l : Launch) (g : zG) (o : Nat) (a : Nat → Nat) (th : Int32) (hi : Int32) (ac : Int32) (tp : Int32) (ba : Int32) (en : Int32) (tA : Int32) (fl : Int32) (de : Int32) (iD : Int32) (iO : Int32) (tU : Int32) (fm : Nat → Int32) (fk : Nat → Int32) (fa : Nat → Int32) (fc : Nat → Int32) (ft : Nat → Int32) (ff : Nat → Int32) (fb : Nat → Int32) (fi : Nat → Int32) (x : Int32) (b_x : 0 ≤ x.toInt ∧ x.toInt ≤ 7) : zM' g l yX12_isHere (Cond.code yX12_isHere cX12_isHere 2 (some .boolean) :: zB) ({ frames := 1, cells := 0, slots := 0, locals := 22 } : Room) [.ref o, .int x] [bMo g o a th hi ac tp ba en tA fl de iD iO tU fm fk fa fc ft ff fb fi] (fun (q : Int32) => some (.int q)) (fun (q : Int32) => (q = 1 ∧ fm (15 + 5 * x.toInt.toNat) = -1 ∨ q = 0 ∧ ¬ fm (15 + 5 * x.toInt.toNat) = -1)) (fun (q : Int32) => [bMo g o a th hi ac tp ba en tA fl de iD iO tU fm fk fa fc ft ff fb fi]) := by
  refine zM'.of (cc := cX12_isHere) (maxL := 2) (rt := (some .boolean)) (by decide) rfl (Nat.le_of_ble_eq_true rfl) ?_
  intro p e s m args below meth c A ls St hr hlocks hin hK hT hA hP hD hS hl
  obtain ⟨hx, hb, hml, hown, hts⟩ := id St
  have hl : lv_has ls 2 [(0, .ref o), (1, .int x)] := hl
  refine lv_aload_n hx hb dX12_isHere_0 rfl (lv_at hl 0 rfl) ?_
  refine lv_iload_n hx hb dX12_isHere_1 rfl (lv_at hl 1 rfl) ?_
  refine lv_iconst (v := 4) hx hb dX12_isHere_2 (by decide) ?_
  refine mcallV' (g := g) (q0 := 0) (ci := 10) (As := [.int x, .int 4]) (rest := []) St hK hT hA hP hD hS hl.1 [0] [] rfl rfl rfl (m_ofT l g o a th hi ac tp ba en tA fl de iD iO tU fm fk fa fc ft ff fb fi x b_x) (cwV 2 hts (zgL (zl4 k840 k841 k842 k837) k829) rfl rfl rfl (by decide +kernel) ⟨Nat.le_of_ble_eq_true rfl, Nat.le_of_ble_eq_true rfl⟩) rfl rfl rfl rfl (Nat.le_of_ble_eq_true rfl) dX12_isHere_3 ⟨(Nat.le_of_ble_eq_true rfl), (Nat.le_of_ble_eq_true rfl)⟩ (fun q_1 H locs hq2 hP hD hS => ?_)
  replace hq2 : (q_1 = fm (15 + 5 * x.toInt.toNat)) := hq2
  have hP : va_P g.1 vwCl (List.flatten [bMo g o a th hi ac tp ba en tA fl de iD iO tU fm fk fa fc ft ff fb fi]) H := hP
  have hD : va_D A (List.flatten [bMo g o a th hi ac tp ba en tA fl de iD iO tU fm fk fa fc ft ff fb fi]) := hD
  refine W.widen (k := 0) (n := 0) (Nat.le_of_ble_eq_true rfl) (Nat.le_of_ble_eq_true rfl) ?_
  refine W.eq (g2 := F0 m 6 ls [.int q_1]) rfl ?_
  refine lv_iconst (v := (-1)) hx hb dX12_isHere_6 (by decide) ?_
  refine lv_icmp_ne (tgt := 14) hx hb dX12_isHere_7 (by decide) (fun cb9 => ?_) (fun cb9 => ?_)
  · skip
    have c3 : ¬ q_1.toInt = (-1) := zne cb9 rfl (by decide)
    have cH := c3
    refine lv_iconst (v := 0) hx hb dX12_isHere_14 (by decide) ?_
    have hP : va_P g.1 vwCl (List.flatten [bMo g o a th hi ac tp ba en tA fl de iD iO tU fm fk fa fc ft ff fb fi]) H := hP
    have hD : va_D A (List.flatten [bMo g o a th hi ac tp ba en tA fl de iD iO tU fm fk fa fc ft ff fb fi]) := hD
    exact mret_z hx hb hr hlocks hS (Nat.le_of_ble_eq_true rfl) (Nat.le_of_ble_eq_true rfl) dX12_isHere_15 ((0 : Int32)) rfl (by decide) (show (0 = 1 ∧ fm (15 + 5 * x.toInt.toNat) = -1 ∨ 0 = 0 ∧ ¬ fm (15 + 5 * x.toInt.toNat) = -1) from Or.inr ⟨rfl, fun h9 => cH (congrArg Int32.toInt (hq2.trans h9))⟩) hP hD
  · skip
    have c4 : q_1.toInt = (-1) := zeq cb9 rfl (by decide)
    have n5 : (-1) ≤ q_1.toInt := Int.le_trans (Int.le_refl _) (Int.le_of_eq c4.symm)
    have n6 : q_1.toInt ≤ (-1) := Int.le_trans (Int.le_of_eq c4) (Int.le_refl _)
    have cH := c4
    refine lv_iconst (v := 1) hx hb dX12_isHere_10 (by decide) ?_
    refine lv_goto (tgt := 15) hx hb dX12_isHere_11 (by decide) ?_
    have hP : va_P g.1 vwCl (List.flatten [bMo g o a th hi ac tp ba en tA fl de iD iO tU fm fk fa fc ft ff fb fi]) H := hP
    have hD : va_D A (List.flatten [bMo g o a th hi ac tp ba en tA fl de iD iO tU fm fk fa fc ft ff fb fi]) := hD
    exact mret_z hx hb hr hlocks hS (Nat.le_of_ble_eq_true rfl) (Nat.le_of_ble_eq_true rfl) dX12_isHere_15 ((1 : Int32)) rfl (by decide) (show (1 = 1 ∧ fm (15 + 5 * x.toInt.toNat) = -1 ∨ 1 = 0 ∧ ¬ fm (15 + 5 * x.toInt.toNat) = -1) from Or.inl ⟨rfl, hq2 ▸ Int32.toInt_inj.mp cH⟩) hP hD
