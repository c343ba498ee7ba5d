set_option maxRecDepth 100000 in
set_option maxHeartbeats 4000000 in
theorem m_begins (l : Launch) (g : zG) (o : Nat) (a : Nat → Nat) (th : Int32) (hi : Int32) (ac : Int32) (tp : Int32) (ba : Int32) (en : Int32) (tA : Int32) (fl : Int32) (de : Int32) (iD : Int32) (iO : Int32) (tU : Int32) (fm : Nat → Int32) (fk : Nat → Int32) (fa : Nat → Int32) (fc : Nat → Int32) (ft : Nat → Int32) (ff : Nat → Int32) (fb : Nat → Int32) (fi : Nat → Int32)  : zM' g l yX12_begins (Cond.code yX12_begins cX12_begins 1 none :: zB) ({ frames := 0, cells := 0, slots := 0, locals := 0 } : Room) [.ref o] [bMo g o a th hi ac tp ba en tA fl de iD iO tU fm fk fa fc ft ff fb fi] (fun _ : Unit => none) (fun _ : Unit => True) (fun _ : Unit => [bMo g o a th hi ac 0 (-1) tp 0 (-1) 0 iD iO tU fm fk fa fc ft ff fb fi]) := by
  refine zM'.of (cc := cX12_begins) (maxL := 1) (rt := none) (by decide) rfl (Nat.le_of_ble_eq_true rfl) ?_
  intro p e s m args below meth c A ls St hr hlocks hin hK hT hA hP hD hS hl
  obtain ⟨hx, hb, hml, hown, hts⟩ := id St
  have hl : lv_has ls 1 [(0, .ref o)] := hl
  refine lv_aload_n hx hb dX12_begins_0 rfl (lv_at hl 0 rfl) ?_
  refine lv_iconst (v := (-1)) hx hb dX12_begins_1 (by decide) ?_
  refine va_put (D := g.1) (ci := 10) (v := .int (-1)) (ty := .int) (C := RX12) (T := TX12) (N := 20) hx hb hts izRX12 tyX12 tyX12_ok nmX12 hown hK hP hD hS 0 rfl rfl 12 (by decide) (hts _ k820) (fun _ h9 => h9) rfl (by decide +kernel) rfl rfl (Nat.le_of_ble_eq_true rfl) dX12_begins_2 (fun H locs hP hD hS => ?_)
  have hP : va_P g.1 vwCl (List.flatten [bMo g o a th hi ac tp ba en tA (-1) de iD iO tU fm fk fa fc ft ff fb fi]) H := hP
  have hD : va_D A (List.flatten [bMo g o a th hi ac tp ba en tA (-1) de iD iO tU fm fk fa fc ft ff fb fi]) := hD
  refine lv_aload_n hx hb dX12_begins_5 rfl (lv_at hl 0 rfl) ?_
  refine lv_iconst (v := (-1)) hx hb dX12_begins_6 (by decide) ?_
  refine va_put (D := g.1) (ci := 10) (v := .int (-1)) (ty := .int) (C := RX12) (T := TX12) (N := 20) hx hb hts izRX12 tyX12 tyX12_ok nmX12 hown hK hP hD hS 0 rfl rfl 9 (by decide) (hts _ k875) (fun _ h9 => h9) rfl (by decide +kernel) rfl rfl (Nat.le_of_ble_eq_true rfl) dX12_begins_7 (fun H locs hP hD hS => ?_)
  have hP : va_P g.1 vwCl (List.flatten [bMo g o a th hi ac tp (-1) en tA (-1) de iD iO tU fm fk fa fc ft ff fb fi]) H := hP
  have hD : va_D A (List.flatten [bMo g o a th hi ac tp (-1) en tA (-1) de iD iO tU fm fk fa fc ft ff fb fi]) := hD
  refine lv_aload_n hx hb dX12_begins_10 rfl (lv_at hl 0 rfl) ?_
  refine lv_aload_n hx hb dX12_begins_11 rfl (lv_at hl 0 rfl) ?_
  refine va_get (D := g.1) (ci := 10) (v := .int tp) (C := RX12) (T := TX12) (N := 20) hx hb hts izRX12 hown hK hP 0 rfl rfl 8 (by decide) (hts _ k872) (fun _ h9 => h9) rfl dX12_begins_12 ?_
  refine va_put (D := g.1) (ci := 10) (v := .int tp) (ty := .int) (C := RX12) (T := TX12) (N := 20) hx hb hts izRX12 tyX12 tyX12_ok nmX12 hown hK hP hD hS 0 rfl rfl 10 (by decide) (hts _ k878) (fun _ h9 => h9) rfl (by decide +kernel) rfl rfl (Nat.le_of_ble_eq_true rfl) dX12_begins_15 (fun H locs hP hD hS => ?_)
  have hP : va_P g.1 vwCl (List.flatten [bMo g o a th hi ac tp (-1) tp tA (-1) de iD iO tU fm fk fa fc ft ff fb fi]) H := hP
  have hD : va_D A (List.flatten [bMo g o a th hi ac tp (-1) tp tA (-1) de iD iO tU fm fk fa fc ft ff fb fi]) := hD
  refine lv_aload_n hx hb dX12_begins_18 rfl (lv_at hl 0 rfl) ?_
  refine lv_iconst (v := 0) hx hb dX12_begins_19 (by decide) ?_
  refine va_put (D := g.1) (ci := 10) (v := .int 0) (ty := .int) (C := RX12) (T := TX12) (N := 20) hx hb hts izRX12 tyX12 tyX12_ok nmX12 hown hK hP hD hS 0 rfl rfl 8 (by decide) (hts _ k872) (fun _ h9 => h9) rfl (by decide +kernel) rfl rfl (Nat.le_of_ble_eq_true rfl) dX12_begins_20 (fun H locs hP hD hS => ?_)
  have hP : va_P g.1 vwCl (List.flatten [bMo g o a th hi ac 0 (-1) tp tA (-1) de iD iO tU fm fk fa fc ft ff fb fi]) H := hP
  have hD : va_D A (List.flatten [bMo g o a th hi ac 0 (-1) tp tA (-1) de iD iO tU fm fk fa fc ft ff fb fi]) := hD
  refine lv_aload_n hx hb dX12_begins_23 rfl (lv_at hl 0 rfl) ?_
  refine lv_iconst (v := 0) hx hb dX12_begins_24 (by decide) ?_
  refine va_put (D := g.1) (ci := 10) (v := .int 0) (ty := .int) (C := RX12) (T := TX12) (N := 20) hx hb hts izRX12 tyX12 tyX12_ok nmX12 hown hK hP hD hS 0 rfl rfl 11 (by decide) (hts _ k877) (fun _ h9 => h9) rfl (by decide +kernel) rfl rfl (Nat.le_of_ble_eq_true rfl) dX12_begins_25 (fun H locs hP hD hS => ?_)
  have hP : va_P g.1 vwCl (List.flatten [bMo g o a th hi ac 0 (-1) tp 0 (-1) de iD iO tU fm fk fa fc ft ff fb fi]) H := hP
  have hD : va_D A (List.flatten [bMo g o a th hi ac 0 (-1) tp 0 (-1) de iD iO tU fm fk fa fc ft ff fb fi]) := hD
  refine lv_aload_n hx hb dX12_begins_28 rfl (lv_at hl 0 rfl) ?_
  refine lv_iconst (v := 0) hx hb dX12_begins_29 (by decide) ?_
  refine va_put (D := g.1) (ci := 10) (v := .int 0) (ty := .int) (C := RX12) (T := TX12) (N := 20) hx hb hts izRX12 tyX12 tyX12_ok nmX12 hown hK hP hD hS 0 rfl rfl 13 (by decide) (hts _ k932) (fun _ h9 => h9) rfl (by decide +kernel) rfl rfl (Nat.le_of_ble_eq_true rfl) dX12_begins_30 (fun H locs hP hD hS => ?_)
  have hP : va_P g.1 vwCl (List.flatten [bMo g o a th hi ac 0 (-1) tp 0 (-1) 0 iD iO tU fm fk fa fc ft ff fb fi]) H := hP
  have hD : va_D A (List.flatten [bMo g o a th hi ac 0 (-1) tp 0 (-1) 0 iD iO tU fm fk fa fc ft ff fb fi]) := hD
  have hP : va_P g.1 vwCl (List.flatten [bMo g o a th hi ac 0 (-1) tp 0 (-1) 0 iD iO tU fm fk fa fc ft ff fb fi]) H := hP
  have hD : va_D A (List.flatten [bMo g o a th hi ac 0 (-1) tp 0 (-1) 0 iD iO tU fm fk fa fc ft ff fb fi]) := hD
  exact mret_v hx hb hr hlocks hS (Nat.le_of_ble_eq_true rfl) (Nat.le_of_ble_eq_true rfl) dX12_begins_33 () rfl trivial hP hD
