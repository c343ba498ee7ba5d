set_option maxRecDepth 100000 in
set_option maxHeartbeats 4000000 in
theorem c_Text_initT (l : Launch) (g : zG) (o : Nat) (ta : Nat)  : zM' g l yX7_init (Cond.code yX7_init cX7_init 2 none :: zB) ({ frames := 1, cells := 0, slots := 0, locals := 13 } : Room) [.ref o, .ref ta] [[(o, .inr (8, [.null, .null]))]] (fun _ : Unit => none) (fun _ : Unit => True) (fun _ : Unit => [[(o, .inr (8, [.ref ta, .null]))]]) := by
  refine zM'.of (cc := cX7_init) (maxL := 2) (rt := none) (by decide) rfl (Nat.le_of_ble_eq_true rfl) ?_
  intro p e s m args below meth c A ls St hr hlocks hin hK hT hA hP hD hS hl
  obtain ⟨hx, hb, hml, hown, hts⟩ := id St
  have hl : lv_has ls 2 [(0, .ref o), (1, .ref ta)] := hl
  refine lv_aload_n hx hb dX7_init_0 rfl (lv_at hl 0 rfl) ?_
  refine W.objInit hx hb hown (hts (.methodLink RX7 3 objectInit) k205) (hts (.instanceMethod objectInit) k2) (hts (.code objectInit ⟨#[0xb1]⟩ 1 none) k3) rfl (by rw [hml]; exact hl.1) rfl dX7_init_1 (Nat.le_of_ble_eq_true rfl) (Nat.le_of_ble_eq_true rfl) ?_
  refine W.eq (g2 := F0 m 4 ls []) rfl ?_
  refine lv_aload_n hx hb dX7_init_4 rfl (lv_at hl 0 rfl) ?_
  refine lv_aload_n hx hb dX7_init_5 rfl (lv_at hl 1 rfl) ?_
  refine va_putF (D := g.1) (ci := 8) (v := .ref ta) (ty := tyX10 0) (C := RX10) (T := TX10) (N := 2) hx hb hts izRX10 tyX10 tyX10_ok nmX10 hown hK hP hD hS 0 rfl rfl 0 (by decide) (hts _ k206) (fun _ h9 => h9) rfl hin rfl (by decide +kernel) rfl rfl (Nat.le_of_ble_eq_true rfl) dX7_init_6 (fun H locs hP hD hS => ?_)
  have hP : va_P g.1 vwCl (List.flatten [[(o, .inr (8, [.ref ta, .null]))]]) H := hP
  have hD : va_D A (List.flatten [[(o, .inr (8, [.ref ta, .null]))]]) := hD
  have hP : va_P g.1 vwCl (List.flatten [[(o, .inr (8, [.ref ta, .null]))]]) H := hP
  have hD : va_D A (List.flatten [[(o, .inr (8, [.ref ta, .null]))]]) := hD
  exact mret_v hx hb hr hlocks hS (Nat.le_of_ble_eq_true rfl) (Nat.le_of_ble_eq_true rfl) dX7_init_9 () rfl trivial hP hD
set_option maxRecDepth 100000 in
set_option maxHeartbeats 4000000 in
theorem c_Text_initL (l : Launch) (g : zG) (o : Nat) (ta : Nat)  : zM' g l yX7_init (Cond.code yX7_init cX7_init 2 none :: zB) ({ frames := 1, cells := 0, slots := 0, locals := 13 } : Room) [.ref o, .ref ta] [[(o, .inr (2, [.null, .null]))]] (fun _ : Unit => none) (fun _ : Unit => True) (fun _ : Unit => [[(o, .inr (2, [.ref ta, .null]))]]) := by
  refine zM'.of (cc := cX7_init) (maxL := 2) (rt := none) (by decide) rfl (Nat.le_of_ble_eq_true rfl) ?_
  intro p e s m args below meth c A ls St hr hlocks hin hK hT hA hP hD hS hl
  obtain ⟨hx, hb, hml, hown, hts⟩ := id St
  have hl : lv_has ls 2 [(0, .ref o), (1, .ref ta)] := hl
  refine lv_aload_n hx hb dX7_init_0 rfl (lv_at hl 0 rfl) ?_
  refine W.objInit hx hb hown (hts (.methodLink RX7 3 objectInit) k205) (hts (.instanceMethod objectInit) k2) (hts (.code objectInit ⟨#[0xb1]⟩ 1 none) k3) rfl (by rw [hml]; exact hl.1) rfl dX7_init_1 (Nat.le_of_ble_eq_true rfl) (Nat.le_of_ble_eq_true rfl) ?_
  refine W.eq (g2 := F0 m 4 ls []) rfl ?_
  refine lv_aload_n hx hb dX7_init_4 rfl (lv_at hl 0 rfl) ?_
  refine lv_aload_n hx hb dX7_init_5 rfl (lv_at hl 1 rfl) ?_
  refine va_putF (D := g.1) (ci := 2) (v := .ref ta) (ty := tyX2 0) (C := RX2) (T := TX2) (N := 2) hx hb hts izRX2 tyX2 tyX2_ok nmX2 hown hK hP hD hS 0 rfl rfl 0 (by decide) (hts _ k206) (fun _ h9 => h9) rfl hin rfl (by decide +kernel) rfl rfl (Nat.le_of_ble_eq_true rfl) dX7_init_6 (fun H locs hP hD hS => ?_)
  have hP : va_P g.1 vwCl (List.flatten [[(o, .inr (2, [.ref ta, .null]))]]) H := hP
  have hD : va_D A (List.flatten [[(o, .inr (2, [.ref ta, .null]))]]) := hD
  have hP : va_P g.1 vwCl (List.flatten [[(o, .inr (2, [.ref ta, .null]))]]) H := hP
  have hD : va_D A (List.flatten [[(o, .inr (2, [.ref ta, .null]))]]) := hD
  exact mret_v hx hb hr hlocks hS (Nat.le_of_ble_eq_true rfl) (Nat.le_of_ble_eq_true rfl) dX7_init_9 () rfl trivial hP hD
