set_option maxRecDepth 100000 in
set_option maxHeartbeats 4000000 in
theorem m_draw (l : Launch) (g : zG) (o : Nat) (a : Nat → Nat) (th : Int32) (hi : Int32) (ac : Int32) (tp : Int32) (ba : Int32) (en : Int32) (tA : Int32) (fl : Int32) (de : Int32) (iD : Int32) (iO : Int32) (tU : Int32) (fm : Nat → Int32) (fk : Nat → Int32) (fa : Nat → Int32) (fc : Nat → Int32) (ft : Nat → Int32) (ff : Nat → Int32) (fb : Nat → Int32) (fi : Nat → Int32) (n : Int32) (rfm : rM fm) (b_n : 1 ≤ n.toInt ∧ n.toInt ≤ 1000) : zM' g l yX12_draw (Cond.code yX12_draw cX12_draw 2 (some .int) :: zB) ({ frames := 0, cells := 0, slots := 0, locals := 0 } : Room) [.ref o, .int n] [bMo g o a th hi ac tp ba en tA fl de iD iO tU fm fk fa fc ft ff fb fi] (fun u : (Nat → Int32) × Int32 => (fun (fm2 : Nat → Int32) (q : Int32) => some (.int q)) (u.1) (u.2)) (fun u : (Nat → Int32) × Int32 => (fun (fm2 : Nat → Int32) (q : Int32) => (rM fm2)) (u.1) (u.2)) (fun u : (Nat → Int32) × Int32 => (fun (fm2 : Nat → Int32) (q : Int32) => [bMo g o a th hi ac tp ba en tA fl de iD iO tU fm2 fk fa fc ft ff fb fi]) (u.1) (u.2)) := by
  refine zM'.of (cc := cX12_draw) (maxL := 2) (rt := (some .int)) (by decide) rfl (Nat.le_of_ble_eq_true rfl) ?_
  intro p e s m args below meth c A ls St hr hlocks hin hK hT hA hP hD hS hl
  obtain ⟨hx, hb, hml, hown, hts⟩ := id St
  have hl : lv_has ls 2 [(0, .ref o), (1, .int n)] := hl
  refine lv_aload_n hx hb dX12_draw_0 rfl (lv_at hl 0 rfl) ?_
  refine va_get (D := g.1) (ci := 10) (v := .ref (a 0)) (C := RX12) (T := TX12) (N := 20) hx hb hts izRX12 hown hK hP 0 rfl rfl 1 (by decide) (hts _ k815) (fun _ h9 => h9) rfl dX12_draw_1 ?_
  refine lv_bipush (v := 10) hx hb dX12_draw_4 (by decide) ?_
  refine lv_ldc (v := 1103515245) hx hb hown (hts _ k997) dX12_draw_6 ?_
  refine lv_aload_n hx hb dX12_draw_8 rfl (lv_at hl 0 rfl) ?_
  refine va_get (D := g.1) (ci := 10) (v := .ref (a 0)) (C := RX12) (T := TX12) (N := 20) hx hb hts izRX12 hown hK hP 0 rfl rfl 1 (by decide) (hts _ k815) (fun _ h9 => h9) rfl dX12_draw_9 ?_
  refine lv_bipush (v := 10) hx hb dX12_draw_12 (by decide) ?_
  refine va_iald hx hb hK hP 1 0 rfl rfl (zin rfl) dX12_draw_14 ?_
  refine zg (fun x_1 => ?_)
  refine lv_imul hx hb dX12_draw_15 ?_
  refine zg (fun x_2 => ?_)
  refine lv_sipush (v := 12345) hx hb dX12_draw_16 (by decide) ?_
  refine lv_iadd hx hb dX12_draw_19 ?_
  refine zg (fun x_3 => ?_)
  refine va_iast hx hb hK hP hD hS 1 0 rfl rfl (zin rfl) dX12_draw_20 (fun H locs hP hD hS => ?_)
  obtain ⟨fm_4, rfm_4, hP, hD⟩ : ∃ fm_4 : Nat → Int32, rM fm_4 ∧ va_P g.1 vwCl (List.flatten [bMo g o a th hi ac tp ba en tA fl de iD iO tU fm_4 fk fa fc ft ff fb fi]) H ∧ va_D A (List.flatten [bMo g o a th hi ac tp ba en tA fl de iD iO tU fm_4 fk fa fc ft ff fb fi]) := ⟨upd fm 10 x_3, (rM_stL rfm (by decide)), hP, hD⟩
  refine lv_aload_n hx hb dX12_draw_21 rfl (lv_at hl 0 rfl) ?_
  refine va_get (D := g.1) (ci := 10) (v := .ref (a 0)) (C := RX12) (T := TX12) (N := 20) hx hb hts izRX12 hown hK hP 0 rfl rfl 1 (by decide) (hts _ k815) (fun _ h9 => h9) rfl dX12_draw_22 ?_
  refine lv_bipush (v := 10) hx hb dX12_draw_25 (by decide) ?_
  refine va_iald hx hb hK hP 1 0 rfl rfl (zin rfl) dX12_draw_27 ?_
  refine zg (fun x_5 => ?_)
  refine lv_bipush (v := 16) hx hb dX12_draw_28 (by decide) ?_
  refine lv_iushr hx hb dX12_draw_30 rfl ?_
  refine zg (fun x_6 => ?_)
  refine lv_sipush (v := 32767) hx hb dX12_draw_31 (by decide) ?_
  refine lv_iand hx hb dX12_draw_34 ?_
  refine zgb (zand32767 _) (fun x_7 hx_7 => ?_)
  refine lv_iload_n hx hb dX12_draw_35 rfl (lv_at hl 1 rfl) ?_
  refine lv_irem hx hb dX12_draw_36 (zne0 (by omega)) ?_
  refine zg (fun x_8 => ?_)
  have hP : va_P g.1 vwCl (List.flatten [bMo g o a th hi ac tp ba en tA fl de iD iO tU fm_4 fk fa fc ft ff fb fi]) H := hP
  have hD : va_D A (List.flatten [bMo g o a th hi ac tp ba en tA fl de iD iO tU fm_4 fk fa fc ft ff fb fi]) := hD
  exact mret_i hx hb hr hlocks hS (Nat.le_of_ble_eq_true rfl) (Nat.le_of_ble_eq_true rfl) dX12_draw_37 (fm_4, x_8) rfl (show (rM fm_4) from (by first | assumption | omega | decide | exact rfl | exact zb01 (by omega) | exact Or.inl (by decide) | exact Or.inr (by first | omega | decide))) hP hD
