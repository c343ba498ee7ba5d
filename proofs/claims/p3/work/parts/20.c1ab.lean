set_option maxRecDepth 100000 in
set_option maxHeartbeats 4000000 in
theorem c_trustOf (l : Launch) (g : zG) (o : Nat) (a : Nat → Nat) (pe : Int32) (wo : Int32) (tx : Int32) (ch : Int32) (jo : Int32) (tr : Int32) (dy : Int32) (sd : Int32) (f : Nat → Nat → Int32) (x1 : Int32) (x2 : Int32) (b_x1 : 0 ≤ x1.toInt ∧ x1.toInt ≤ 7) (b_x2 : 0 ≤ x2.toInt ∧ x2.toInt ≤ 7) : zM' g l yX9_trustOf (Cond.code yX9_trustOf cX9_trustOf 3 (some .int) :: zB) ({ frames := 0, cells := 0, slots := 0, locals := 0 } : Room) [.ref o, .int x1, .int x2] [bTown g o a pe wo tx ch jo tr dy sd f] (fun (q : Int32) => some (.int q)) (fun (q : Int32) => True) (fun (q : Int32) => [bTown g o a pe wo tx ch jo tr dy sd f]) := by
  refine zM'.of (cc := cX9_trustOf) (maxL := 3) (rt := (some .int)) (by decide) rfl (Nat.le_of_ble_eq_true rfl) ?_
  intro p e s m args below meth c A ls St hr hlocks hin hK hT hA hP hD hS hl
  obtain ⟨hx, hb, hml, hown, hts⟩ := id St
  have hl : lv_has ls 3 [(0, .ref o), (1, .int x1), (2, .int x2)] := hl
  refine lv_aload_n hx hb dX9_trustOf_0 rfl (lv_at hl 0 rfl) ?_
  refine va_get (D := g.1) (ci := 7) (v := .ref (a 5)) (C := RX9) (T := TX9) (N := 19) hx hb hts izRX9 hown hK hP 0 rfl rfl 13 (by decide) (hts _ k15) (fun _ h9 => h9) rfl dX9_trustOf_1 ?_
  refine lv_iload_n hx hb dX9_trustOf_4 rfl (lv_at hl 1 rfl) ?_
  refine lv_bipush (v := 8) hx hb dX9_trustOf_5 (by decide) ?_
  refine lv_imul hx hb dX9_trustOf_7 ?_
  refine zg3 (zmulKR (i := x1.toInt) (n := 8) (a' := 0) (b' := 56) rfl (by decide) b_x1.1 b_x1.2 (by decide) (by decide)) (fun x_1 hx_1 => ?_)
  refine lv_iload_n hx hb dX9_trustOf_8 rfl (lv_at hl 2 rfl) ?_
  refine lv_iadd hx hb dX9_trustOf_9 ?_
  refine zg3 (zaddK (i := x_1.toInt) (j := x2.toInt) (a' := 0) (b' := 63) rfl rfl hx_1.2.1 hx_1.2.2 b_x2.1 b_x2.2 (by decide)) (fun x_2 hx_2 => ?_)
  refine va_iald hx hb hK hP 6 0 rfl rfl (zinK (a := 0) (b := 63) hx_2.2.1 hx_2.2.2 (by decide)) dX9_trustOf_10 ?_
  refine zg (fun x_3 => ?_)
  have hP : va_P g.1 vwCl (List.flatten [bTown g o a pe wo tx ch jo tr dy sd f]) s.heap := hP
  have hD : va_D A (List.flatten [bTown g o a pe wo tx ch jo tr dy sd f]) := hD
  exact mret_i hx hb hr hlocks hS (Nat.le_of_ble_eq_true rfl) (Nat.le_of_ble_eq_true rfl) dX9_trustOf_11 (x_3) rfl trivial hP hD
set_option maxRecDepth 100000 in
set_option maxHeartbeats 4000000 in
theorem c_setTrust (l : Launch) (g : zG) (o : Nat) (a : Nat → Nat) (pe : Int32) (wo : Int32) (tx : Int32) (ch : Int32) (jo : Int32) (tr : Int32) (dy : Int32) (sd : Int32) (f : Nat → Nat → Int32) (x1 : Int32) (x2 : Int32) (v : Int32) (rf : zZ4 f) (b_x1 : 0 ≤ x1.toInt ∧ x1.toInt ≤ 7) (b_x2 : 0 ≤ x2.toInt ∧ x2.toInt ≤ 7) : zM' g l yX9_setTrust (Cond.code yX9_setTrust cX9_setTrust 4 none :: zB) ({ frames := 0, cells := 0, slots := 0, locals := 0 } : Room) [.ref o, .int x1, .int x2, .int v] [bTown g o a pe wo tx ch jo tr dy sd f] (fun (f2 : Nat → Nat → Int32) => none) (fun (f2 : Nat → Nat → Int32) => (zZ4 f2)) (fun (f2 : Nat → Nat → Int32) => [bTown g o a pe wo tx ch jo tr dy sd f2]) := by
  refine zM'.of (cc := cX9_setTrust) (maxL := 4) (rt := none) (by decide) rfl (Nat.le_of_ble_eq_true rfl) ?_
  intro p e s m args below meth c A ls St hr hlocks hin hK hT hA hP hD hS hl
  obtain ⟨hx, hb, hml, hown, hts⟩ := id St
  have hl : lv_has ls 4 [(0, .ref o), (1, .int x1), (2, .int x2), (3, .int v)] := hl
  refine lv_aload_n hx hb dX9_setTrust_0 rfl (lv_at hl 0 rfl) ?_
  refine va_get (D := g.1) (ci := 7) (v := .ref (a 5)) (C := RX9) (T := TX9) (N := 19) hx hb hts izRX9 hown hK hP 0 rfl rfl 13 (by decide) (hts _ k15) (fun _ h9 => h9) rfl dX9_setTrust_1 ?_
  refine lv_iload_n hx hb dX9_setTrust_4 rfl (lv_at hl 1 rfl) ?_
  refine lv_bipush (v := 8) hx hb dX9_setTrust_5 (by decide) ?_
  refine lv_imul hx hb dX9_setTrust_7 ?_
  refine zg3 (zmulKR (i := x1.toInt) (n := 8) (a' := 0) (b' := 56) rfl (by decide) b_x1.1 b_x1.2 (by decide) (by decide)) (fun x_1 hx_1 => ?_)
  refine lv_iload_n hx hb dX9_setTrust_8 rfl (lv_at hl 2 rfl) ?_
  refine lv_iadd hx hb dX9_setTrust_9 ?_
  refine zg3 (zaddK (i := x_1.toInt) (j := x2.toInt) (a' := 0) (b' := 63) rfl rfl hx_1.2.1 hx_1.2.2 b_x2.1 b_x2.2 (by decide)) (fun x_2 hx_2 => ?_)
  refine lv_iload_n hx hb dX9_setTrust_10 rfl (lv_at hl 3 rfl) ?_
  refine va_iast hx hb hK hP hD hS 6 0 rfl rfl (zinK (a := 0) (b := 63) hx_2.2.1 hx_2.2.2 (by decide)) dX9_setTrust_11 (fun H locs hP hD hS => ?_)
  obtain ⟨f3, rf3, hP, hD⟩ : ∃ f3 : Nat → Nat → Int32, zZ4 f3 ∧ va_P g.1 vwCl (List.flatten [bTown g o a pe wo tx ch jo tr dy sd f3]) H ∧ va_D A (List.flatten [bTown g o a pe wo tx ch jo tr dy sd f3]) := ⟨zu f 5 (upd (f 5) x_2.toNatClampNeg v), (zZ4_u rf (by decide)), hP, hD⟩
  have hP : va_P g.1 vwCl (List.flatten [bTown g o a pe wo tx ch jo tr dy sd f3]) H := hP
  have hD : va_D A (List.flatten [bTown g o a pe wo tx ch jo tr dy sd f3]) := hD
  exact mret_v hx hb hr hlocks hS (Nat.le_of_ble_eq_true rfl) (Nat.le_of_ble_eq_true rfl) dX9_setTrust_12 (f3) rfl (show (zZ4 f3) from rf3) hP hD
