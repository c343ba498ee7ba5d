set_option maxRecDepth 100000 in
set_option maxHeartbeats 4000000 in
theorem m_letter (l : Launch) (g : zG) (o : Nat) (a : Nat → Nat) (th : Int32) (hi : Int32) (ac : Int32) (tp : Int32) (ba : Int32) (en : Int32) (tA : Int32) (fl : Int32) (de : Int32) (iD : Int32) (iO : Int32) (tU : Int32) (fm : Nat → Int32) (fk : Nat → Int32) (fa : Nat → Int32) (fc : Nat → Int32) (ft : Nat → Int32) (ff : Nat → Int32) (fb : Nat → Int32) (fi : Nat → Int32) (k : Int32) (b_k : 0 ≤ k.toInt ∧ k.toInt ≤ 399) (hba : zBa ba.toInt) : zM' g l yX12_letter (Cond.code yX12_letter cX12_letter 2 (some .int) :: zB) ({ frames := 0, cells := 0, slots := 0, locals := 0 } : Room) [.ref o, .int k] [bMo g o a th hi ac tp ba en tA fl de iD iO tU fm fk fa fc ft ff fb fi] (fun (q : Int32) => some (.int q)) (fun (q : Int32) => True) (fun (q : Int32) => [bMo g o a th hi ac tp ba en tA fl de iD iO tU fm fk fa fc ft ff fb fi]) := by
  refine zM'.of (cc := cX12_letter) (maxL := 2) (rt := (some .int)) (by decide) rfl (Nat.le_of_ble_eq_true rfl) ?_
  intro p e s m args below meth c A ls St hr hlocks hin hK hT hA hP hD hS hl
  obtain ⟨hx, hb, hml, hown, hts⟩ := id St
  have hl : lv_has ls 2 [(0, .ref o), (1, .int k)] := hl
  have hba9 : ba.toInt = -1 ∨ ba.toInt = 379 := hba
  refine lv_aload_n hx hb dX12_letter_0 rfl (lv_at hl 0 rfl) ?_
  refine va_get (D := g.1) (ci := 10) (v := .int ba) (C := RX12) (T := TX12) (N := 20) hx hb hts izRX12 hown hK hP 0 rfl rfl 9 (by decide) (hts _ k875) (fun _ h9 => h9) rfl dX12_letter_1 ?_
  refine lv_iconst (v := (-1)) hx hb dX12_letter_4 (by decide) ?_
  refine lv_icmp_ne (tgt := 17) hx hb dX12_letter_5 (by decide) (fun cb9 => ?_) (fun cb9 => ?_)
  · skip
    have c1 : ¬ ba.toInt = (-1) := zne cb9 rfl (by decide)
    refine lv_aload_n hx hb dX12_letter_17 rfl (lv_at hl 0 rfl) ?_
    refine va_get (D := g.1) (ci := 10) (v := .ref (a 0)) (C := RX12) (T := TX12) (N := 20) hx hb hts izRX12 hown hK hP 0 rfl rfl 1 (by decide) (hts _ k815) (fun _ h9 => h9) rfl dX12_letter_18 ?_
    refine lv_aload_n hx hb dX12_letter_21 rfl (lv_at hl 0 rfl) ?_
    refine va_get (D := g.1) (ci := 10) (v := .int ba) (C := RX12) (T := TX12) (N := 20) hx hb hts izRX12 hown hK hP 0 rfl rfl 9 (by decide) (hts _ k875) (fun _ h9 => h9) rfl dX12_letter_22 ?_
    refine lv_iload_n hx hb dX12_letter_25 rfl (lv_at hl 1 rfl) ?_
    refine lv_iadd hx hb dX12_letter_26 ?_
    refine zgv (zadd (i := ba.toInt) (j := k.toInt) rfl rfl (by omega)) (fun x_2 hx_2 => ?_)
    refine va_iald hx hb hK hP 1 0 rfl rfl (zinI (by omega) (by omega)) dX12_letter_27 ?_
    refine zg (fun x_3 => ?_)
    have hP : va_P g.1 vwCl (List.flatten [bMo g o a th hi ac tp ba en tA fl de iD iO tU fm fk fa fc ft ff fb fi]) s.heap := hP
    have hD : va_D A (List.flatten [bMo g o a th hi ac tp ba en tA fl de iD iO tU fm fk fa fc ft ff fb fi]) := hD
    exact mret_i hx hb hr hlocks hS (Nat.le_of_ble_eq_true rfl) (Nat.le_of_ble_eq_true rfl) dX12_letter_28 (x_3) rfl trivial hP hD
  · skip
    have c4 : ba.toInt = (-1) := zeq cb9 rfl (by decide)
    have n5 : ba.toInt ≤ (-1) := Int.le_trans (Int.le_of_eq c4) (Int.le_refl _)
    refine lv_aload_n hx hb dX12_letter_8 rfl (lv_at hl 0 rfl) ?_
    refine va_get (D := g.1) (ci := 10) (v := .ref (a 4)) (C := RX12) (T := TX12) (N := 20) hx hb hts izRX12 hown hK hP 0 rfl rfl 7 (by decide) (hts _ k819) (fun _ h9 => h9) rfl dX12_letter_9 ?_
    refine lv_iload_n hx hb dX12_letter_12 rfl (lv_at hl 1 rfl) ?_
    refine va_iald hx hb hK hP 5 0 rfl rfl (zinK (a := 0) (b := 399) b_k.1 b_k.2 (by decide)) dX12_letter_13 ?_
    refine zg (fun x_6 => ?_)
    refine lv_goto (tgt := 28) hx hb dX12_letter_14 (by decide) ?_
    have hP : va_P g.1 vwCl (List.flatten [bMo g o a th hi ac tp ba en tA fl de iD iO tU fm fk fa fc ft ff fb fi]) s.heap := hP
    have hD : va_D A (List.flatten [bMo g o a th hi ac tp ba en tA fl de iD iO tU fm fk fa fc ft ff fb fi]) := hD
    exact mret_i hx hb hr hlocks hS (Nat.le_of_ble_eq_true rfl) (Nat.le_of_ble_eq_true rfl) dX12_letter_28 (x_6) rfl trivial hP hD
