set_option maxRecDepth 100000 in
set_option maxHeartbeats 4000000 in
theorem c_g_copyFrom (l : Launch) (g : zG) (go : Nat) (gr : Nat) (gz : Int32) (gn : Int32) (fr : Nat → Int32) (go2 : Nat) (gr2 : Nat) (gz2 : Int32) (gn2 : Int32) (fr2 : Nat → Int32) (b_gz2 : 0 ≤ gz2.toInt ∧ gz2.toInt ≤ 60) (b_gn2 : 0 ≤ gn2.toInt ∧ gn2.toInt ≤ 59) : zM' g l yX3_copyFrom (Cond.code yX3_copyFrom cX3_copyFrom 2 none :: zB) ({ frames := 1, cells := 0, slots := 0, locals := 40 } : Room) [.ref go, .ref go2] [bLog g go gr gz gn fr, bLog g go2 gr2 gz2 gn2 fr2] (fun (h : Nat → Int32) => none) (fun (h : Nat → Int32) => True) (fun (h : Nat → Int32) => [bLog g go gr gz2 gn2 h, bLog g go2 gr2 gz2 gn2 fr2]) := by
  refine zM'.of (cc := cX3_copyFrom) (maxL := 2) (rt := none) (by decide) rfl (Nat.le_of_ble_eq_true rfl) ?_
  intro p e s m args below meth c A ls St hr hlocks hin hK hT hA hP hD hS hl
  obtain ⟨hx, hb, hml, hown, hts⟩ := id St
  have hl : lv_has ls 2 [(0, .ref go), (1, .ref go2)] := hl
  refine lv_aload_n hx hb dX3_copyFrom_0 rfl (lv_at hl 1 rfl) ?_
  refine va_get (D := g.1) (ci := 3) (v := .ref gr2) (C := RX3) (T := TX3) (N := 3) hx hb hts izRX3 hown hK hP 2 rfl rfl 0 (by decide) (hts _ k117) (fun _ h9 => h9) rfl dX3_copyFrom_1 ?_
  refine lv_iconst (v := 0) hx hb dX3_copyFrom_4 (by decide) ?_
  refine lv_aload_n hx hb dX3_copyFrom_5 rfl (lv_at hl 0 rfl) ?_
  refine va_get (D := g.1) (ci := 3) (v := .ref gr) (C := RX3) (T := TX3) (N := 3) hx hb hts izRX3 hown hK hP 0 rfl rfl 0 (by decide) (hts _ k117) (fun _ h9 => h9) rfl dX3_copyFrom_6 ?_
  refine lv_iconst (v := 0) hx hb dX3_copyFrom_9 (by decide) ?_
  refine lv_sipush (v := 240) hx hb dX3_copyFrom_10 (by decide) ?_
  refine va_copyi (D := g.1) (ty := .int) hx hb (by rw [hml]; exact hl.1.symm) hown (hts _ k332) (hts _ k36) (hts _ k37) (hts _ k38) hK hP hD hS 3 1 0 0 rfl rfl rfl rfl rfl (by decide) (by decide) (by decide) (by decide) (by decide) (fun _ _ => rfl) (Nat.le_of_ble_eq_true rfl) (by decide) dX3_copyFrom_13 (fun H locs hP hD hS => ?_)
  have hP : va_P g.1 vwCl (List.flatten [[(go, .inr (3, [.ref gr, .int gz, .int gn])), (gr, .inl (g.2 0, 240, .inl (va_cpy fr2 fr 0 0 240)))], bLog g go2 gr2 gz2 gn2 fr2]) H := hP
  have hD : va_D A (List.flatten [[(go, .inr (3, [.ref gr, .int gz, .int gn])), (gr, .inl (g.2 0, 240, .inl (va_cpy fr2 fr 0 0 240)))], bLog g go2 gr2 gz2 gn2 fr2]) := hD
  refine lv_aload_n hx hb dX3_copyFrom_16 rfl (lv_at hl 0 rfl) ?_
  refine lv_aload_n hx hb dX3_copyFrom_17 rfl (lv_at hl 1 rfl) ?_
  refine va_get (D := g.1) (ci := 3) (v := .int gz2) (C := RX3) (T := TX3) (N := 3) hx hb hts izRX3 hown hK hP 2 rfl rfl 1 (by decide) (hts _ k118) (fun _ h9 => h9) rfl dX3_copyFrom_18 ?_
  refine va_put (D := g.1) (ci := 3) (v := .int gz2) (ty := .int) (C := RX3) (T := TX3) (N := 3) hx hb hts izRX3 tyX3 tyX3_ok nmX3 hown hK hP hD hS 0 rfl rfl 1 (by decide) (hts _ k118) (fun _ h9 => h9) rfl (by decide +kernel) rfl rfl (Nat.le_of_ble_eq_true rfl) dX3_copyFrom_21 (fun H locs hP hD hS => ?_)
  have hP : va_P g.1 vwCl (List.flatten [[(go, .inr (3, [.ref gr, .int gz2, .int gn])), (gr, .inl (g.2 0, 240, .inl (va_cpy fr2 fr 0 0 240)))], bLog g go2 gr2 gz2 gn2 fr2]) H := hP
  have hD : va_D A (List.flatten [[(go, .inr (3, [.ref gr, .int gz2, .int gn])), (gr, .inl (g.2 0, 240, .inl (va_cpy fr2 fr 0 0 240)))], bLog g go2 gr2 gz2 gn2 fr2]) := hD
  refine lv_aload_n hx hb dX3_copyFrom_24 rfl (lv_at hl 0 rfl) ?_
  refine lv_aload_n hx hb dX3_copyFrom_25 rfl (lv_at hl 1 rfl) ?_
  refine va_get (D := g.1) (ci := 3) (v := .int gn2) (C := RX3) (T := TX3) (N := 3) hx hb hts izRX3 hown hK hP 2 rfl rfl 2 (by decide) (hts _ k116) (fun _ h9 => h9) rfl dX3_copyFrom_26 ?_
  refine va_put (D := g.1) (ci := 3) (v := .int gn2) (ty := .int) (C := RX3) (T := TX3) (N := 3) hx hb hts izRX3 tyX3 tyX3_ok nmX3 hown hK hP hD hS 0 rfl rfl 2 (by decide) (hts _ k116) (fun _ h9 => h9) rfl (by decide +kernel) rfl rfl (Nat.le_of_ble_eq_true rfl) dX3_copyFrom_29 (fun H locs hP hD hS => ?_)
  have hP : va_P g.1 vwCl (List.flatten [[(go, .inr (3, [.ref gr, .int gz2, .int gn2])), (gr, .inl (g.2 0, 240, .inl (va_cpy fr2 fr 0 0 240)))], bLog g go2 gr2 gz2 gn2 fr2]) H := hP
  have hD : va_D A (List.flatten [[(go, .inr (3, [.ref gr, .int gz2, .int gn2])), (gr, .inl (g.2 0, 240, .inl (va_cpy fr2 fr 0 0 240)))], bLog g go2 gr2 gz2 gn2 fr2]) := hD
  have hP : va_P g.1 vwCl (List.flatten [bLog g go gr gz2 gn2 (va_cpy fr2 fr 0 0 240), bLog g go2 gr2 gz2 gn2 fr2]) H := hP
  have hD : va_D A (List.flatten [bLog g go gr gz2 gn2 (va_cpy fr2 fr 0 0 240), bLog g go2 gr2 gz2 gn2 fr2]) := hD
  exact mret_v hx hb hr hlocks hS (Nat.le_of_ble_eq_true rfl) (Nat.le_of_ble_eq_true rfl) dX3_copyFrom_32 (va_cpy fr2 fr 0 0 240) rfl trivial hP hD
