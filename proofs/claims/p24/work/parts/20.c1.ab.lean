set_option maxRecDepth 100000 in
set_option maxHeartbeats 4000000 in
theorem c_raise (l : Launch) (g : zG) (o : Nat) (a : Nat → Nat) (pe : Int32) (wo : Int32) (tx : Int32) (ch : Int32) (jo : Int32) (tr : Int32) (dy : Int32) (sd : Int32) (f : Nat → Nat → Int32) (x1 : Int32) (by9 : Int32) (rf : zZ4 f) (b_x1 : 0 ≤ x1.toInt ∧ x1.toInt ≤ 7) : zM' g l yX9_raise (Cond.code yX9_raise cX9_raise 3 none :: zB) ({ frames := 2, cells := 0, slots := 0, locals := 35 } : Room) [.ref o, .int x1, .int by9] [bTown g o a pe wo tx ch jo tr dy sd f] (fun (f2 : Nat → Nat → Int32) => none) (fun (f2 : Nat → Nat → Int32) => (zZ4 f2)) (fun (f2 : Nat → Nat → Int32) => [bTown g o a pe wo tx ch jo tr dy sd f2]) := by
  refine zM'.of (cc := cX9_raise) (maxL := 3) (rt := none) (by decide) rfl (Nat.le_of_ble_eq_true rfl) ?_
  intro p e s m args below meth c A ls St hr hlocks hin hK hT hA hP hD hS hl
  obtain ⟨hx, hb, hml, hown, hts⟩ := id St
  have hl : lv_has ls 3 [(0, .ref o), (1, .int x1), (2, .int by9)] := hl
  refine lv_aload_n hx hb dX9_raise_0 rfl (lv_at hl 0 rfl) ?_
  refine va_get (D := g.1) (ci := 7) (v := .ref (a 0)) (C := RX9) (T := TX9) (N := 19) hx hb hts izRX9 hown hK hP 0 rfl rfl 8 (by decide) (hts _ k9) (fun _ h9 => h9) rfl dX9_raise_1 ?_
  refine lv_iload_n hx hb dX9_raise_4 rfl (lv_at hl 1 rfl) ?_
  refine lv_aload_n hx hb dX9_raise_5 rfl (lv_at hl 0 rfl) ?_
  refine lv_aload_n hx hb dX9_raise_6 rfl (lv_at hl 0 rfl) ?_
  refine va_get (D := g.1) (ci := 7) (v := .ref (a 0)) (C := RX9) (T := TX9) (N := 19) hx hb hts izRX9 hown hK hP 0 rfl rfl 8 (by decide) (hts _ k9) (fun _ h9 => h9) rfl dX9_raise_7 ?_
  refine lv_iload_n hx hb dX9_raise_10 rfl (lv_at hl 1 rfl) ?_
  refine va_iald hx hb hK hP 1 0 rfl rfl (zinK (a := 0) (b := 7) b_x1.1 b_x1.2 (by decide)) dX9_raise_11 ?_
  refine zg (fun x_1 => ?_)
  refine lv_iload_n hx hb dX9_raise_12 rfl (lv_at hl 2 rfl) ?_
  refine lv_iadd hx hb dX9_raise_13 ?_
  refine zg (fun x_2 => ?_)
  refine mcallV' (g := g) (q0 := 0) (ci := 7) (As := [.int x_2]) (rest := [.int x1, .ref (a 0)]) St hK hT hA hP hD hS hl.1 [0] [] rfl rfl rfl (c_within l g o a pe wo tx ch jo tr dy sd f x_2 ) (cwV 1 hts (zgL (zl4 k48 k49 k50 k24) k39) rfl rfl rfl (by decide +kernel) ⟨Nat.le_of_ble_eq_true rfl, Nat.le_of_ble_eq_true rfl⟩) rfl rfl rfl rfl (Nat.le_of_ble_eq_true rfl) dX9_raise_14 ⟨(Nat.le_of_ble_eq_true rfl), (Nat.le_of_ble_eq_true rfl)⟩ (fun q_3 H locs hq4 hP hD hS => ?_)
  have hP : va_P g.1 vwCl (List.flatten [bTown g o a pe wo tx ch jo tr dy sd f]) H := hP
  have hD : va_D A (List.flatten [bTown g o a pe wo tx ch jo tr dy sd f]) := hD
  refine W.widen (k := 0) (n := 0) (Nat.le_of_ble_eq_true rfl) (Nat.le_of_ble_eq_true rfl) ?_
  refine W.eq (g2 := F0 m 17 ls [.int q_3, .int x1, .ref (a 0)]) rfl ?_
  refine va_iast hx hb hK hP hD hS 1 0 rfl rfl (zinK (a := 0) (b := 7) b_x1.1 b_x1.2 (by decide)) dX9_raise_17 (fun H locs hP hD hS => ?_)
  obtain ⟨f5, rf5, hP, hD⟩ : ∃ f5 : Nat → Nat → Int32, zZ4 f5 ∧ va_P g.1 vwCl (List.flatten [bTown g o a pe wo tx ch jo tr dy sd f5]) H ∧ va_D A (List.flatten [bTown g o a pe wo tx ch jo tr dy sd f5]) := ⟨zu f 0 (upd (f 0) x1.toNatClampNeg q_3), (zZ4_u rf (by decide)), hP, hD⟩
  have hP : va_P g.1 vwCl (List.flatten [bTown g o a pe wo tx ch jo tr dy sd f5]) H := hP
  have hD : va_D A (List.flatten [bTown g o a pe wo tx ch jo tr dy sd f5]) := hD
  exact mret_v hx hb hr hlocks hS (Nat.le_of_ble_eq_true rfl) (Nat.le_of_ble_eq_true rfl) dX9_raise_18 (f5) rfl (show (zZ4 f5) from rf5) hP hD
