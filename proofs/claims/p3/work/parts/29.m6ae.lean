set_option maxRecDepth 100000 in
set_option maxHeartbeats 4000000 in
theorem m_ofB (l : Launch) (g : zG) (o : Nat) (a : Nat → Nat) (th : Int32) (hi : Int32) (ac : Int32) (tp : Int32) (ba : Int32) (en : Int32) (tA : Int32) (fl : Int32) (de : Int32) (iD : Int32) (iO : Int32) (tU : Int32) (fm : Nat → Int32) (fk : Nat → Int32) (fa : Nat → Int32) (fc : Nat → Int32) (ft : Nat → Int32) (ff : Nat → Int32) (fb : Nat → Int32) (fi : Nat → Int32) (x : Int32) (b_x : 0 ≤ x.toInt ∧ x.toInt ≤ 7) : zM' g l yX12_of (Cond.code yX12_of cX12_of 3 (some .int) :: zB) ({ frames := 0, cells := 0, slots := 0, locals := 0 } : Room) [.ref o, .int x, .int 0] [bMo g o a th hi ac tp ba en tA fl de iD iO tU fm fk fa fc ft ff fb fi] (fun (q : Int32) => some (.int q)) (fun (q : Int32) => (q = fm (11 + 5 * x.toInt.toNat))) (fun (q : Int32) => [bMo g o a th hi ac tp ba en tA fl de iD iO tU fm fk fa fc ft ff fb fi]) := by
  refine zM'.of (cc := cX12_of) (maxL := 3) (rt := (some .int)) (by decide) rfl (Nat.le_of_ble_eq_true rfl) ?_
  intro p e s m args below meth c A ls St hr hlocks hin hK hT hA hP hD hS hl
  obtain ⟨hx, hb, hml, hown, hts⟩ := id St
  have hl : lv_has ls 3 [(0, .ref o), (1, .int x), (2, .int 0)] := hl
  refine lv_aload_n hx hb dX12_of_0 rfl (lv_at hl 0 rfl) ?_
  refine va_get (D := g.1) (ci := 10) (v := .ref (a 0)) (C := RX12) (T := TX12) (N := 20) hx hb hts izRX12 hown hK hP 0 rfl rfl 1 (by decide) (hts _ k815) (fun _ h9 => h9) rfl dX12_of_1 ?_
  refine lv_bipush (v := 11) hx hb dX12_of_4 (by decide) ?_
  refine lv_iconst (v := 5) hx hb dX12_of_6 (by decide) ?_
  refine lv_iload_n hx hb dX12_of_7 rfl (lv_at hl 1 rfl) ?_
  refine lv_imul hx hb dX12_of_8 ?_
  refine zg3 (zmulKL (i := x.toInt) (n := 5) (a' := 0) (b' := 35) rfl (by decide) b_x.1 b_x.2 (by decide) (by decide)) (fun x_1 hx_1 => ?_)
  refine lv_iadd hx hb dX12_of_9 ?_
  refine zg3 (zaddK (i := 11) (j := x_1.toInt) (a' := 11) (b' := 46) (by decide) rfl (Int.le_refl _) (Int.le_refl _) hx_1.2.1 hx_1.2.2 (by decide)) (fun x_2 hx_2 => ?_)
  refine lv_iload_n hx hb dX12_of_10 rfl (lv_at hl 2 rfl) ?_
  refine lv_iadd hx hb dX12_of_11 ?_
  refine zg3 (zaddK (i := x_2.toInt) (j := 0) (a' := 11) (b' := 46) rfl (by decide) hx_2.2.1 hx_2.2.2 (Int.le_refl _) (Int.le_refl _) (by decide)) (fun x_3 hx_3 => ?_)
  refine va_iald hx hb hK hP 1 0 rfl rfl (zinK (a := 11) (b := 46) hx_3.2.1 hx_3.2.2 (by decide)) dX12_of_12 ?_
  have hP : va_P g.1 vwCl (List.flatten [bMo g o a th hi ac tp ba en tA fl de iD iO tU fm fk fa fc ft ff fb fi]) s.heap := hP
  have hD : va_D A (List.flatten [bMo g o a th hi ac tp ba en tA fl de iD iO tU fm fk fa fc ft ff fb fi]) := hD
  exact mret_i hx hb hr hlocks hS (Nat.le_of_ble_eq_true rfl) (Nat.le_of_ble_eq_true rfl) dX12_of_13 (fm x_3.toNatClampNeg) rfl (show ((fm x_3.toNatClampNeg) = fm (11 + 5 * x.toInt.toNat)) from (zixF (by omega))) hP hD
set_option maxRecDepth 100000 in
set_option maxHeartbeats 4000000 in
theorem m_ofT (l : Launch) (g : zG) (o : Nat) (a : Nat → Nat) (th : Int32) (hi : Int32) (ac : Int32) (tp : Int32) (ba : Int32) (en : Int32) (tA : Int32) (fl : Int32) (de : Int32) (iD : Int32) (iO : Int32) (tU : Int32) (fm : Nat → Int32) (fk : Nat → Int32) (fa : Nat → Int32) (fc : Nat → Int32) (ft : Nat → Int32) (ff : Nat → Int32) (fb : Nat → Int32) (fi : Nat → Int32) (x : Int32) (b_x : 0 ≤ x.toInt ∧ x.toInt ≤ 7) : zM' g l yX12_of (Cond.code yX12_of cX12_of 3 (some .int) :: zB) ({ frames := 0, cells := 0, slots := 0, locals := 0 } : Room) [.ref o, .int x, .int 4] [bMo g o a th hi ac tp ba en tA fl de iD iO tU fm fk fa fc ft ff fb fi] (fun (q : Int32) => some (.int q)) (fun (q : Int32) => (q = fm (15 + 5 * x.toInt.toNat))) (fun (q : Int32) => [bMo g o a th hi ac tp ba en tA fl de iD iO tU fm fk fa fc ft ff fb fi]) := by
  refine zM'.of (cc := cX12_of) (maxL := 3) (rt := (some .int)) (by decide) rfl (Nat.le_of_ble_eq_true rfl) ?_
  intro p e s m args below meth c A ls St hr hlocks hin hK hT hA hP hD hS hl
  obtain ⟨hx, hb, hml, hown, hts⟩ := id St
  have hl : lv_has ls 3 [(0, .ref o), (1, .int x), (2, .int 4)] := hl
  refine lv_aload_n hx hb dX12_of_0 rfl (lv_at hl 0 rfl) ?_
  refine va_get (D := g.1) (ci := 10) (v := .ref (a 0)) (C := RX12) (T := TX12) (N := 20) hx hb hts izRX12 hown hK hP 0 rfl rfl 1 (by decide) (hts _ k815) (fun _ h9 => h9) rfl dX12_of_1 ?_
  refine lv_bipush (v := 11) hx hb dX12_of_4 (by decide) ?_
  refine lv_iconst (v := 5) hx hb dX12_of_6 (by decide) ?_
  refine lv_iload_n hx hb dX12_of_7 rfl (lv_at hl 1 rfl) ?_
  refine lv_imul hx hb dX12_of_8 ?_
  refine zg3 (zmulKL (i := x.toInt) (n := 5) (a' := 0) (b' := 35) rfl (by decide) b_x.1 b_x.2 (by decide) (by decide)) (fun x_1 hx_1 => ?_)
  refine lv_iadd hx hb dX12_of_9 ?_
  refine zg3 (zaddK (i := 11) (j := x_1.toInt) (a' := 11) (b' := 46) (by decide) rfl (Int.le_refl _) (Int.le_refl _) hx_1.2.1 hx_1.2.2 (by decide)) (fun x_2 hx_2 => ?_)
  refine lv_iload_n hx hb dX12_of_10 rfl (lv_at hl 2 rfl) ?_
  refine lv_iadd hx hb dX12_of_11 ?_
  refine zg3 (zaddK (i := x_2.toInt) (j := 4) (a' := 15) (b' := 50) rfl (by decide) hx_2.2.1 hx_2.2.2 (Int.le_refl _) (Int.le_refl _) (by decide)) (fun x_3 hx_3 => ?_)
  refine va_iald hx hb hK hP 1 0 rfl rfl (zinK (a := 15) (b := 50) hx_3.2.1 hx_3.2.2 (by decide)) dX12_of_12 ?_
  have hP : va_P g.1 vwCl (List.flatten [bMo g o a th hi ac tp ba en tA fl de iD iO tU fm fk fa fc ft ff fb fi]) s.heap := hP
  have hD : va_D A (List.flatten [bMo g o a th hi ac tp ba en tA fl de iD iO tU fm fk fa fc ft ff fb fi]) := hD
  exact mret_i hx hb hr hlocks hS (Nat.le_of_ble_eq_true rfl) (Nat.le_of_ble_eq_true rfl) dX12_of_13 (fm x_3.toNatClampNeg) rfl (show ((fm x_3.toNatClampNeg) = fm (15 + 5 * x.toInt.toNat)) from (zixF (by omega))) hP hD
