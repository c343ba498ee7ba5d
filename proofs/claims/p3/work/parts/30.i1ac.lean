set_option maxRecDepth 100000 in
set_option maxHeartbeats 4000000 in
/-- new Law() -/
theorem c_Law_init (l : Launch) (g : zG) (o : Nat)  : zM' g l yX1_init (Cond.code yX1_init cX1_init 1 none :: zB) ({ frames := 1, cells := 1, slots := 400, locals := 13 } : Room) [.ref o] [[(o, .inr (1, [.null, .int 0, .int 0, .int 0, .int 0, .int 0]))]] (fun (ac : Nat) => none) (fun (ac : Nat) => True) (fun (ac : Nat) => [bLaw g o ac 0 (-1) 0 0 0 (fun _ => 0)]) := by
  refine zM'.of (cc := cX1_init) (maxL := 1) (rt := none) (by decide) rfl (Nat.le_of_ble_eq_true rfl) ?_
  intro p e s m args below meth c A ls St hr hlocks hin hK hT hA hP hD hS hl
  obtain ⟨hx, hb, hml, hown, hts⟩ := id St
  have hl : lv_has ls 1 [(0, .ref o)] := hl
  refine lv_aload_n hx hb dX1_init_0 rfl (lv_at hl 0 rfl) ?_
  refine W.objInit hx hb hown (hts (.methodLink RX1 3 objectInit) k198) (hts (.instanceMethod objectInit) k2) (hts (.code objectInit ⟨#[0xb1]⟩ 1 none) k3) rfl (by rw [hml]; exact hl.1) rfl dX1_init_1 (Nat.le_of_ble_eq_true rfl) (Nat.le_of_ble_eq_true rfl) ?_
  refine W.eq (g2 := F0 m 4 ls []) rfl ?_
  refine lv_aload_n hx hb dX1_init_4 rfl (lv_at hl 0 rfl) ?_
  refine lv_sipush (v := 400) hx hb dX1_init_5 (by decide) ?_
  refine znewa (g := g) (atype := .int) (a0 := (400, .inl (fun _ => 0))) (N' := 400) hx hb (hts _ k8) rfl 0 _ rfl (fun _ _ h => h) hK hP hD hS hA (fun _ => rfl) (by decide) (by decide) (Nat.le_of_ble_eq_true rfl) (Nat.le_of_ble_eq_true rfl) (Nat.le_of_ble_eq_true rfl) dX1_init_8 (fun q1 H hP hD hS => ?_)
  have hP : va_P g.1 vwCl (List.flatten [[(o, .inr (1, [.null, .int 0, .int 0, .int 0, .int 0, .int 0]))], [(q1, .inl (g.2 0, 400, .inl (fun _ => 0)))]]) H := hP
  have hD : va_D A (List.flatten [[(o, .inr (1, [.null, .int 0, .int 0, .int 0, .int 0, .int 0]))], [(q1, .inl (g.2 0, 400, .inl (fun _ => 0)))]]) := hD
  refine W.widen (k := 1) (n := 400) (Nat.le_of_ble_eq_true rfl) (Nat.le_of_ble_eq_true rfl) ?_
  refine va_putF (D := g.1) (ci := 1) (v := .ref q1) (ty := tyX1 0) (C := RX1) (T := TX1) (N := 6) hx hb hts izRX1 tyX1 tyX1_ok nmX1 hown hK hP hD hS 0 rfl rfl 0 (by decide) (hts _ k101) (fun _ h9 => h9) rfl hin rfl (by decide +kernel) rfl rfl (Nat.le_of_ble_eq_true rfl) dX1_init_10 (fun H locs hP hD hS => ?_)
  have hP : va_P g.1 vwCl (List.flatten [[(o, .inr (1, [.ref q1, .int 0, .int 0, .int 0, .int 0, .int 0]))], [(q1, .inl (g.2 0, 400, .inl (fun _ => 0)))]]) H := hP
  have hD : va_D A (List.flatten [[(o, .inr (1, [.ref q1, .int 0, .int 0, .int 0, .int 0, .int 0]))], [(q1, .inl (g.2 0, 400, .inl (fun _ => 0)))]]) := hD
  refine lv_aload_n hx hb dX1_init_13 rfl (lv_at hl 0 rfl) ?_
  refine lv_iconst (v := (-1)) hx hb dX1_init_14 (by decide) ?_
  refine va_put (D := g.1) (ci := 1) (v := .int (-1)) (ty := .int) (C := RX1) (T := TX1) (N := 6) hx hb hts izRX1 tyX1 tyX1_ok nmX1 hown hK hP hD hS 0 rfl rfl 2 (by decide) (hts _ k98) (fun _ h9 => h9) rfl (by decide +kernel) rfl rfl (Nat.le_of_ble_eq_true rfl) dX1_init_15 (fun H locs hP hD hS => ?_)
  have hP : va_P g.1 vwCl (List.flatten [[(o, .inr (1, [.ref q1, .int 0, .int (-1), .int 0, .int 0, .int 0]))], [(q1, .inl (g.2 0, 400, .inl (fun _ => 0)))]]) H := hP
  have hD : va_D A (List.flatten [[(o, .inr (1, [.ref q1, .int 0, .int (-1), .int 0, .int 0, .int 0]))], [(q1, .inl (g.2 0, 400, .inl (fun _ => 0)))]]) := hD
  have hP : va_P g.1 vwCl (List.flatten [[(o, .inr (1, [.ref q1, .int 0, .int (-1), .int 0, .int 0, .int 0]))], [(q1, .inl (g.2 0, 400, .inl (fun _ => 0)))]]) H := hP
  have hD : va_D A (List.flatten [[(o, .inr (1, [.ref q1, .int 0, .int (-1), .int 0, .int 0, .int 0]))], [(q1, .inl (g.2 0, 400, .inl (fun _ => 0)))]]) := hD
  have hP : va_P g.1 vwCl (List.flatten [bLaw g o q1 0 (-1) 0 0 0 (fun _ => 0)]) H := hP
  have hD : va_D A (List.flatten [bLaw g o q1 0 (-1) 0 0 0 (fun _ => 0)]) := hD
  exact mret_v hx hb hr hlocks hS (Nat.le_of_ble_eq_true rfl) (Nat.le_of_ble_eq_true rfl) dX1_init_18 (q1) rfl trivial hP hD
set_option maxRecDepth 100000 in
set_option maxHeartbeats 4000000 in
/-- new Log() -/
theorem c_Log_init (l : Launch) (g : zG) (o : Nat)  : zM' g l yX3_init (Cond.code yX3_init cX3_init 1 none :: zB) ({ frames := 1, cells := 1, slots := 240, locals := 13 } : Room) [.ref o] [[(o, .inr (3, [.null, .int 0, .int 0]))]] (fun (ar : Nat) => none) (fun (ar : Nat) => True) (fun (ar : Nat) => [bLog g o ar 0 0 (fun _ => 0)]) := by
  refine zM'.of (cc := cX3_init) (maxL := 1) (rt := none) (by decide) rfl (Nat.le_of_ble_eq_true rfl) ?_
  intro p e s m args below meth c A ls St hr hlocks hin hK hT hA hP hD hS hl
  obtain ⟨hx, hb, hml, hown, hts⟩ := id St
  have hl : lv_has ls 1 [(0, .ref o)] := hl
  refine lv_aload_n hx hb dX3_init_0 rfl (lv_at hl 0 rfl) ?_
  refine W.objInit hx hb hown (hts (.methodLink RX3 3 objectInit) k330) (hts (.instanceMethod objectInit) k2) (hts (.code objectInit ⟨#[0xb1]⟩ 1 none) k3) rfl (by rw [hml]; exact hl.1) rfl dX3_init_1 (Nat.le_of_ble_eq_true rfl) (Nat.le_of_ble_eq_true rfl) ?_
  refine W.eq (g2 := F0 m 4 ls []) rfl ?_
  refine lv_aload_n hx hb dX3_init_4 rfl (lv_at hl 0 rfl) ?_
  refine lv_sipush (v := 240) hx hb dX3_init_5 (by decide) ?_
  refine znewa (g := g) (atype := .int) (a0 := (240, .inl (fun _ => 0))) (N' := 240) hx hb (hts _ k8) rfl 0 _ rfl (fun _ _ h => h) hK hP hD hS hA (fun _ => rfl) (by decide) (by decide) (Nat.le_of_ble_eq_true rfl) (Nat.le_of_ble_eq_true rfl) (Nat.le_of_ble_eq_true rfl) dX3_init_8 (fun q1 H hP hD hS => ?_)
  have hP : va_P g.1 vwCl (List.flatten [[(o, .inr (3, [.null, .int 0, .int 0]))], [(q1, .inl (g.2 0, 240, .inl (fun _ => 0)))]]) H := hP
  have hD : va_D A (List.flatten [[(o, .inr (3, [.null, .int 0, .int 0]))], [(q1, .inl (g.2 0, 240, .inl (fun _ => 0)))]]) := hD
  refine W.widen (k := 1) (n := 240) (Nat.le_of_ble_eq_true rfl) (Nat.le_of_ble_eq_true rfl) ?_
  refine va_putF (D := g.1) (ci := 3) (v := .ref q1) (ty := tyX3 0) (C := RX3) (T := TX3) (N := 3) hx hb hts izRX3 tyX3 tyX3_ok nmX3 hown hK hP hD hS 0 rfl rfl 0 (by decide) (hts _ k117) (fun _ h9 => h9) rfl hin rfl (by decide +kernel) rfl rfl (Nat.le_of_ble_eq_true rfl) dX3_init_10 (fun H locs hP hD hS => ?_)
  have hP : va_P g.1 vwCl (List.flatten [[(o, .inr (3, [.ref q1, .int 0, .int 0]))], [(q1, .inl (g.2 0, 240, .inl (fun _ => 0)))]]) H := hP
  have hD : va_D A (List.flatten [[(o, .inr (3, [.ref q1, .int 0, .int 0]))], [(q1, .inl (g.2 0, 240, .inl (fun _ => 0)))]]) := hD
  have hP : va_P g.1 vwCl (List.flatten [[(o, .inr (3, [.ref q1, .int 0, .int 0]))], [(q1, .inl (g.2 0, 240, .inl (fun _ => 0)))]]) H := hP
  have hD : va_D A (List.flatten [[(o, .inr (3, [.ref q1, .int 0, .int 0]))], [(q1, .inl (g.2 0, 240, .inl (fun _ => 0)))]]) := hD
  have hP : va_P g.1 vwCl (List.flatten [bLog g o q1 0 0 (fun _ => 0)]) H := hP
  have hD : va_D A (List.flatten [bLog g o q1 0 0 (fun _ => 0)]) := hD
  exact mret_v hx hb hr hlocks hS (Nat.le_of_ble_eq_true rfl) (Nat.le_of_ble_eq_true rfl) dX3_init_13 (q1) rfl trivial hP hD
