def bTown (g : zG) (o : Nat) (a : Nat → Nat) (pe : Int32) (wo : Int32) (tx : Int32) (ch : Int32) (jo : Int32) (tr : Int32) (dy : Int32) (sd : Int32) (f : Nat → Nat → Int32) : va_W := [(o, .inr (7, [.int pe, .int wo, .int tx, .int ch, .int jo, .int tr, .int dy, .int sd, .ref (a 0), .ref (a 1), .ref (a 2), .ref (a 3), .ref (a 4), .ref (a 5), .ref (a 6), .ref (a 7), .ref (a 8), .ref (a 9), .ref (a 10)])), (a 0, .inl (g.2 0, 8, .inl (f 0))), (a 1, .inl (g.2 0, 8, .inl (f 1))), (a 2, .inl (g.2 0, 8, .inl (f 2))), (a 3, .inl (g.2 0, 8, .inl (f 3))), (a 4, .inl (g.2 1, 8, .inl (f 4))), (a 5, .inl (g.2 0, 64, .inl (f 5))), (a 6, .inl (g.2 0, 6, .inl (f 6))), (a 7, .inl (g.2 0, 6, .inl (f 7))), (a 8, .inl (g.2 0, 6, .inl (f 8))), (a 9, .inl (g.2 0, 6, .inl (f 9))), (a 10, .inl (g.2 0, 8, .inl (f 10)))]
def bTape (g : zG) (o : Nat) (ab : Nat) (size : Int32) (len : Int32) (knd : Int32) (beg : Int32) (nxt : Int32) (flt : Int32) (fb : Nat → Int32) : va_W := [(o, .inr (6, [.ref ab, .int size, .int len, .int knd, .int beg, .int nxt, .int flt])), (ab, .inl (g.2 0, 400, .inl fb))]
def bLaw (g : zG) (o : Nat) (ac : Nat) (size : Int32) (lines : Int32) (mn : Int32) (stg : Int32) (day : Int32) (fc : Nat → Int32) : va_W := [(o, .inr (1, [.ref ac, .int size, .int lines, .int mn, .int stg, .int day])), (ac, .inl (g.2 0, 400, .inl fc))]
def bLog (g : zG) (o : Nat) (ar : Nat) (size : Int32) (nxt : Int32) (fr : Nat → Int32) : va_W := [(o, .inr (3, [.ref ar, .int size, .int nxt])), (ar, .inl (g.2 0, 240, .inl fr))]
set_option maxRecDepth 100000 in
set_option maxHeartbeats 4000000 in
/-- new Tape() -/
theorem c_Tape_init (l : Launch) (g : zG) (o : Nat)  : zM g l yX6_init (Cond.code yX6_init cX6_init 1 none :: zB) ({ frames := 1, cells := 1, slots := 400, locals := 13 } : Room) [.ref o] [[(o, .inr (6, [.null, .int 0, .int 0, .int 0, .int 0, .int 0, .int 0]))]] (fun (ab : Nat) => none) (fun (ab : Nat) => True) (fun (ab : Nat) => [bTape g o ab 0 0 0 0 0 (-1) (fun _ => 0)]) := by
  refine zM.of (cc := cX6_init) (maxL := 1) (rt := none) (by decide) rfl (Nat.le_of_ble_eq_true rfl) ?_
  intro p e s m args below meth c A ls St hr hlocks hin hK hT hA hP hD hS hl
  obtain ⟨hx, hb, hml, hown, hts⟩ := id St
  have hl : lv_has ls 1 [(0, .ref o)] := hl
  refine lv_aload_n hx hb dX6_init_0 rfl (lv_at hl 0 rfl) ?_
  refine W.objInit hx hb hown (hts (.methodLink RX6 3 objectInit) k290) (hts (.instanceMethod objectInit) k2) (hts (.code objectInit ⟨#[0xb1]⟩ 1 none) k3) rfl (by rw [hml]; exact hl.1) rfl dX6_init_1 (Nat.le_of_ble_eq_true rfl) (Nat.le_of_ble_eq_true rfl) ?_
  refine W.eq (g2 := F0 m 4 ls []) rfl ?_
  refine lv_aload_n hx hb dX6_init_4 rfl (lv_at hl 0 rfl) ?_
  refine lv_sipush (v := 400) hx hb dX6_init_5 (by decide) ?_
  refine znewa (g := g) (atype := .int) (a0 := (400, .inl (fun _ => 0))) (N' := 400) hx hb (hts _ k8) rfl 0 _ rfl (fun _ _ h => h) hK hP hD hS hA (fun _ => rfl) (by decide) (by decide) (Nat.le_of_ble_eq_true rfl) (Nat.le_of_ble_eq_true rfl) (Nat.le_of_ble_eq_true rfl) dX6_init_8 (fun q1 H hP hD hS => ?_)
  have hP : va_P g.1 vwCl (List.flatten [[(o, .inr (6, [.null, .int 0, .int 0, .int 0, .int 0, .int 0, .int 0]))], [(q1, .inl (g.2 0, 400, .inl (fun _ => 0)))]]) H := hP
  have hD : va_D A (List.flatten [[(o, .inr (6, [.null, .int 0, .int 0, .int 0, .int 0, .int 0, .int 0]))], [(q1, .inl (g.2 0, 400, .inl (fun _ => 0)))]]) := hD
  refine W.widen (k := 1) (n := 400) (Nat.le_of_ble_eq_true rfl) (Nat.le_of_ble_eq_true rfl) ?_
  refine va_putF (D := g.1) (ci := 6) (v := .ref q1) (ty := tyX6 0) (C := RX6) (T := TX6) (N := 7) hx hb hts izRX6 tyX6 tyX6_ok nmX6 hown hK hP hD hS 0 rfl rfl 0 (by decide) (hts _ k214) (fun _ h9 => h9) rfl hin rfl (by decide +kernel) rfl rfl (Nat.le_of_ble_eq_true rfl) dX6_init_10 (fun H locs hP hD hS => ?_)
  have hP : va_P g.1 vwCl (List.flatten [[(o, .inr (6, [.ref q1, .int 0, .int 0, .int 0, .int 0, .int 0, .int 0]))], [(q1, .inl (g.2 0, 400, .inl (fun _ => 0)))]]) H := hP
  have hD : va_D A (List.flatten [[(o, .inr (6, [.ref q1, .int 0, .int 0, .int 0, .int 0, .int 0, .int 0]))], [(q1, .inl (g.2 0, 400, .inl (fun _ => 0)))]]) := hD
  refine lv_aload_n hx hb dX6_init_13 rfl (lv_at hl 0 rfl) ?_
  refine lv_iconst (v := (-1)) hx hb dX6_init_14 (by decide) ?_
  refine va_put (D := g.1) (ci := 6) (v := .int (-1)) (ty := .int) (C := RX6) (T := TX6) (N := 7) hx hb hts izRX6 tyX6 tyX6_ok nmX6 hown hK hP hD hS 0 rfl rfl 6 (by decide) (hts _ k291) (fun _ h9 => h9) rfl (by decide +kernel) rfl rfl (Nat.le_of_ble_eq_true rfl) dX6_init_15 (fun H locs hP hD hS => ?_)
  have hP : va_P g.1 vwCl (List.flatten [[(o, .inr (6, [.ref q1, .int 0, .int 0, .int 0, .int 0, .int 0, .int (-1)]))], [(q1, .inl (g.2 0, 400, .inl (fun _ => 0)))]]) H := hP
  have hD : va_D A (List.flatten [[(o, .inr (6, [.ref q1, .int 0, .int 0, .int 0, .int 0, .int 0, .int (-1)]))], [(q1, .inl (g.2 0, 400, .inl (fun _ => 0)))]]) := hD
  have hP : va_P g.1 vwCl (List.flatten [[(o, .inr (6, [.ref q1, .int 0, .int 0, .int 0, .int 0, .int 0, .int (-1)]))], [(q1, .inl (g.2 0, 400, .inl (fun _ => 0)))]]) H := hP
  have hD : va_D A (List.flatten [[(o, .inr (6, [.ref q1, .int 0, .int 0, .int 0, .int 0, .int 0, .int (-1)]))], [(q1, .inl (g.2 0, 400, .inl (fun _ => 0)))]]) := hD
  have hP : va_P g.1 vwCl (List.flatten [bTape g o q1 0 0 0 0 0 (-1) (fun _ => 0)]) H := hP
  have hD : va_D A (List.flatten [bTape g o q1 0 0 0 0 0 (-1) (fun _ => 0)]) := hD
  exact mret_v hx hb hr hlocks hS (Nat.le_of_ble_eq_true rfl) (Nat.le_of_ble_eq_true rfl) dX6_init_18 (q1) rfl trivial hP hD
set_option maxRecDepth 100000 in
set_option maxHeartbeats 4000000 in
/-- new Town() -/
theorem c_Town_init (l : Launch) (g : zG) (o : Nat)  : zM g l yX9_init (Cond.code yX9_init cX9_init 1 none :: zB) ({ frames := 1, cells := 11, slots := 136, locals := 13 } : Room) [.ref o] [[(o, .inr (7, [.int 0, .int 0, .int 0, .int 0, .int 0, .int 0, .int 0, .int 0, .null, .null, .null, .null, .null, .null, .null, .null, .null, .null, .null]))]] (fun (a : Nat → Nat) => none) (fun (a : Nat → Nat) => True) (fun (a : Nat → Nat) => [bTown g o a 0 0 0 20 6 50 0 1 (fun _ _ => 0)]) := by
  refine zM.of (cc := cX9_init) (maxL := 1) (rt := none) (by decide) rfl (Nat.le_of_ble_eq_true rfl) ?_
  intro p e s m args below meth c A ls St hr hlocks hin hK hT hA hP hD hS hl
  obtain ⟨hx, hb, hml, hown, hts⟩ := id St
  have hl : lv_has ls 1 [(0, .ref o)] := hl
  refine lv_aload_n hx hb dX9_init_0 rfl (lv_at hl 0 rfl) ?_
  refine W.objInit hx hb hown (hts (.methodLink RX9 3 objectInit) k1) (hts (.instanceMethod objectInit) k2) (hts (.code objectInit ⟨#[0xb1]⟩ 1 none) k3) rfl (by rw [hml]; exact hl.1) rfl dX9_init_1 (Nat.le_of_ble_eq_true rfl) (Nat.le_of_ble_eq_true rfl) ?_
  refine W.eq (g2 := F0 m 4 ls []) rfl ?_
  refine lv_aload_n hx hb dX9_init_4 rfl (lv_at hl 0 rfl) ?_
  refine lv_bipush (v := 20) hx hb dX9_init_5 (by decide) ?_
  refine va_put (D := g.1) (ci := 7) (v := .int 20) (ty := .int) (C := RX9) (T := TX9) (N := 19) hx hb hts izRX9 tyX9 tyX9_ok nmX9 hown hK hP hD hS 0 rfl rfl 3 (by decide) (hts _ k4) (fun _ h9 => h9) rfl (by decide +kernel) rfl rfl (Nat.le_of_ble_eq_true rfl) dX9_init_7 (fun H locs hP hD hS => ?_)
  have hP : va_P g.1 vwCl (List.flatten [[(o, .inr (7, [.int 0, .int 0, .int 0, .int 20, .int 0, .int 0, .int 0, .int 0, .null, .null, .null, .null, .null, .null, .null, .null, .null, .null, .null]))]]) H := hP
  have hD : va_D A (List.flatten [[(o, .inr (7, [.int 0, .int 0, .int 0, .int 20, .int 0, .int 0, .int 0, .int 0, .null, .null, .null, .null, .null, .null, .null, .null, .null, .null, .null]))]]) := hD
  refine lv_aload_n hx hb dX9_init_10 rfl (lv_at hl 0 rfl) ?_
  refine lv_bipush (v := 6) hx hb dX9_init_11 (by decide) ?_
  refine va_put (D := g.1) (ci := 7) (v := .int 6) (ty := .int) (C := RX9) (T := TX9) (N := 19) hx hb hts izRX9 tyX9 tyX9_ok nmX9 hown hK hP hD hS 0 rfl rfl 4 (by decide) (hts _ k5) (fun _ h9 => h9) rfl (by decide +kernel) rfl rfl (Nat.le_of_ble_eq_true rfl) dX9_init_13 (fun H locs hP hD hS => ?_)
  have hP : va_P g.1 vwCl (List.flatten [[(o, .inr (7, [.int 0, .int 0, .int 0, .int 20, .int 6, .int 0, .int 0, .int 0, .null, .null, .null, .null, .null, .null, .null, .null, .null, .null, .null]))]]) H := hP
  have hD : va_D A (List.flatten [[(o, .inr (7, [.int 0, .int 0, .int 0, .int 20, .int 6, .int 0, .int 0, .int 0, .null, .null, .null, .null, .null, .null, .null, .null, .null, .null, .null]))]]) := hD
  refine lv_aload_n hx hb dX9_init_16 rfl (lv_at hl 0 rfl) ?_
  refine lv_bipush (v := 50) hx hb dX9_init_17 (by decide) ?_
  refine va_put (D := g.1) (ci := 7) (v := .int 50) (ty := .int) (C := RX9) (T := TX9) (N := 19) hx hb hts izRX9 tyX9 tyX9_ok nmX9 hown hK hP hD hS 0 rfl rfl 5 (by decide) (hts _ k6) (fun _ h9 => h9) rfl (by decide +kernel) rfl rfl (Nat.le_of_ble_eq_true rfl) dX9_init_19 (fun H locs hP hD hS => ?_)
  have hP : va_P g.1 vwCl (List.flatten [[(o, .inr (7, [.int 0, .int 0, .int 0, .int 20, .int 6, .int 50, .int 0, .int 0, .null, .null, .null, .null, .null, .null, .null, .null, .null, .null, .null]))]]) H := hP
  have hD : va_D A (List.flatten [[(o, .inr (7, [.int 0, .int 0, .int 0, .int 20, .int 6, .int 50, .int 0, .int 0, .null, .null, .null, .null, .null, .null, .null, .null, .null, .null, .null]))]]) := hD
  refine lv_aload_n hx hb dX9_init_22 rfl (lv_at hl 0 rfl) ?_
  refine lv_iconst (v := 1) hx hb dX9_init_23 (by decide) ?_
  refine va_put (D := g.1) (ci := 7) (v := .int 1) (ty := .int) (C := RX9) (T := TX9) (N := 19) hx hb hts izRX9 tyX9 tyX9_ok nmX9 hown hK hP hD hS 0 rfl rfl 7 (by decide) (hts _ k7) (fun _ h9 => h9) rfl (by decide +kernel) rfl rfl (Nat.le_of_ble_eq_true rfl) dX9_init_24 (fun H locs hP hD hS => ?_)
  have hP : va_P g.1 vwCl (List.flatten [[(o, .inr (7, [.int 0, .int 0, .int 0, .int 20, .int 6, .int 50, .int 0, .int 1, .null, .null, .null, .null, .null, .null, .null, .null, .null, .null, .null]))]]) H := hP
  have hD : va_D A (List.flatten [[(o, .inr (7, [.int 0, .int 0, .int 0, .int 20, .int 6, .int 50, .int 0, .int 1, .null, .null, .null, .null, .null, .null, .null, .null, .null, .null, .null]))]]) := hD
  refine lv_aload_n hx hb dX9_init_27 rfl (lv_at hl 0 rfl) ?_
  refine lv_bipush (v := 8) hx hb dX9_init_28 (by decide) ?_
  refine znewa (g := g) (atype := .int) (a0 := (8, .inl (fun _ => 0))) (N' := 8) hx hb (hts _ k8) rfl 0 _ rfl (fun _ _ h => h) hK hP hD hS hA (fun _ => rfl) (by decide) (by decide) (Nat.le_of_ble_eq_true rfl) (Nat.le_of_ble_eq_true rfl) (Nat.le_of_ble_eq_true rfl) dX9_init_30 (fun q1 H hP hD hS => ?_)
  have hP : va_P g.1 vwCl (List.flatten [[(o, .inr (7, [.int 0, .int 0, .int 0, .int 20, .int 6, .int 50, .int 0, .int 1, .null, .null, .null, .null, .null, .null, .null, .null, .null, .null, .null]))], [(q1, .inl (g.2 0, 8, .inl (fun _ => 0)))]]) H := hP
  have hD : va_D A (List.flatten [[(o, .inr (7, [.int 0, .int 0, .int 0, .int 20, .int 6, .int 50, .int 0, .int 1, .null, .null, .null, .null, .null, .null, .null, .null, .null, .null, .null]))], [(q1, .inl (g.2 0, 8, .inl (fun _ => 0)))]]) := hD
  refine W.widen (k := 1) (n := 8) (Nat.le_of_ble_eq_true rfl) (Nat.le_of_ble_eq_true rfl) ?_
  refine va_putF (D := g.1) (ci := 7) (v := .ref q1) (ty := tyX9 8) (C := RX9) (T := TX9) (N := 19) hx hb hts izRX9 tyX9 tyX9_ok nmX9 hown hK hP hD hS 0 rfl rfl 8 (by decide) (hts _ k9) (fun _ h9 => h9) rfl hin rfl (by decide +kernel) rfl rfl (Nat.le_of_ble_eq_true rfl) dX9_init_32 (fun H locs hP hD hS => ?_)
  have hP : va_P g.1 vwCl (List.flatten [[(o, .inr (7, [.int 0, .int 0, .int 0, .int 20, .int 6, .int 50, .int 0, .int 1, .ref q1, .null, .null, .null, .null, .null, .null, .null, .null, .null, .null]))], [(q1, .inl (g.2 0, 8, .inl (fun _ => 0)))]]) H := hP
  have hD : va_D A (List.flatten [[(o, .inr (7, [.int 0, .int 0, .int 0, .int 20, .int 6, .int 50, .int 0, .int 1, .ref q1, .null, .null, .null, .null, .null, .null, .null, .null, .null, .null]))], [(q1, .inl (g.2 0, 8, .inl (fun _ => 0)))]]) := hD
  refine lv_aload_n hx hb dX9_init_35 rfl (lv_at hl 0 rfl) ?_
  refine lv_bipush (v := 8) hx hb dX9_init_36 (by decide) ?_
  refine znewa (g := g) (atype := .int) (a0 := (8, .inl (fun _ => 0))) (N' := 8) hx hb (hts _ k8) rfl 0 _ rfl (fun _ _ h => h) hK hP hD hS hA (fun _ => rfl) (by decide) (by decide) (Nat.le_of_ble_eq_true rfl) (Nat.le_of_ble_eq_true rfl) (Nat.le_of_ble_eq_true rfl) dX9_init_38 (fun q2 H hP hD hS => ?_)
  have hP : va_P g.1 vwCl (List.flatten [[(o, .inr (7, [.int 0, .int 0, .int 0, .int 20, .int 6, .int 50, .int 0, .int 1, .ref q1, .null, .null, .null, .null, .null, .null, .null, .null, .null, .null]))], [(q1, .inl (g.2 0, 8, .inl (fun _ => 0)))], [(q2, .inl (g.2 0, 8, .inl (fun _ => 0)))]]) H := hP
  have hD : va_D A (List.flatten [[(o, .inr (7, [.int 0, .int 0, .int 0, .int 20, .int 6, .int 50, .int 0, .int 1, .ref q1, .null, .null, .null, .null, .null, .null, .null, .null, .null, .null]))], [(q1, .inl (g.2 0, 8, .inl (fun _ => 0)))], [(q2, .inl (g.2 0, 8, .inl (fun _ => 0)))]]) := hD
  refine W.widen (k := 2) (n := 16) (Nat.le_of_ble_eq_true rfl) (Nat.le_of_ble_eq_true rfl) ?_
  refine va_putF (D := g.1) (ci := 7) (v := .ref q2) (ty := tyX9 9) (C := RX9) (T := TX9) (N := 19) hx hb hts izRX9 tyX9 tyX9_ok nmX9 hown hK hP hD hS 0 rfl rfl 9 (by decide) (hts _ k10) (fun _ h9 => h9) rfl hin rfl (by decide +kernel) rfl rfl (Nat.le_of_ble_eq_true rfl) dX9_init_40 (fun H locs hP hD hS => ?_)
  have hP : va_P g.1 vwCl (List.flatten [[(o, .inr (7, [.int 0, .int 0, .int 0, .int 20, .int 6, .int 50, .int 0, .int 1, .ref q1, .ref q2, .null, .null, .null, .null, .null, .null, .null, .null, .null]))], [(q1, .inl (g.2 0, 8, .inl (fun _ => 0)))], [(q2, .inl (g.2 0, 8, .inl (fun _ => 0)))]]) H := hP
  have hD : va_D A (List.flatten [[(o, .inr (7, [.int 0, .int 0, .int 0, .int 20, .int 6, .int 50, .int 0, .int 1, .ref q1, .ref q2, .null, .null, .null, .null, .null, .null, .null, .null, .null]))], [(q1, .inl (g.2 0, 8, .inl (fun _ => 0)))], [(q2, .inl (g.2 0, 8, .inl (fun _ => 0)))]]) := hD
  refine lv_aload_n hx hb dX9_init_43 rfl (lv_at hl 0 rfl) ?_
  refine lv_bipush (v := 8) hx hb dX9_init_44 (by decide) ?_
  refine znewa (g := g) (atype := .int) (a0 := (8, .inl (fun _ => 0))) (N' := 8) hx hb (hts _ k8) rfl 0 _ rfl (fun _ _ h => h) hK hP hD hS hA (fun _ => rfl) (by decide) (by decide) (Nat.le_of_ble_eq_true rfl) (Nat.le_of_ble_eq_true rfl) (Nat.le_of_ble_eq_true rfl) dX9_init_46 (fun q3 H hP hD hS => ?_)
  have hP : va_P g.1 vwCl (List.flatten [[(o, .inr (7, [.int 0, .int 0, .int 0, .int 20, .int 6, .int 50, .int 0, .int 1, .ref q1, .ref q2, .null, .null, .null, .null, .null, .null, .null, .null, .null]))], [(q1, .inl (g.2 0, 8, .inl (fun _ => 0)))], [(q2, .inl (g.2 0, 8, .inl (fun _ => 0)))], [(q3, .inl (g.2 0, 8, .inl (fun _ => 0)))]]) H := hP
  have hD : va_D A (List.flatten [[(o, .inr (7, [.int 0, .int 0, .int 0, .int 20, .int 6, .int 50, .int 0, .int 1, .ref q1, .ref q2, .null, .null, .null, .null, .null, .null, .null, .null, .null]))], [(q1, .inl (g.2 0, 8, .inl (fun _ => 0)))], [(q2, .inl (g.2 0, 8, .inl (fun _ => 0)))], [(q3, .inl (g.2 0, 8, .inl (fun _ => 0)))]]) := hD
  refine W.widen (k := 3) (n := 24) (Nat.le_of_ble_eq_true rfl) (Nat.le_of_ble_eq_true rfl) ?_
  refine va_putF (D := g.1) (ci := 7) (v := .ref q3) (ty := tyX9 10) (C := RX9) (T := TX9) (N := 19) hx hb hts izRX9 tyX9 tyX9_ok nmX9 hown hK hP hD hS 0 rfl rfl 10 (by decide) (hts _ k11) (fun _ h9 => h9) rfl hin rfl (by decide +kernel) rfl rfl (Nat.le_of_ble_eq_true rfl) dX9_init_48 (fun H locs hP hD hS => ?_)
  have hP : va_P g.1 vwCl (List.flatten [[(o, .inr (7, [.int 0, .int 0, .int 0, .int 20, .int 6, .int 50, .int 0, .int 1, .ref q1, .ref q2, .ref q3, .null, .null, .null, .null, .null, .null, .null, .null]))], [(q1, .inl (g.2 0, 8, .inl (fun _ => 0)))], [(q2, .inl (g.2 0, 8, .inl (fun _ => 0)))], [(q3, .inl (g.2 0, 8, .inl (fun _ => 0)))]]) H := hP
  have hD : va_D A (List.flatten [[(o, .inr (7, [.int 0, .int 0, .int 0, .int 20, .int 6, .int 50, .int 0, .int 1, .ref q1, .ref q2, .ref q3, .null, .null, .null, .null, .null, .null, .null, .null]))], [(q1, .inl (g.2 0, 8, .inl (fun _ => 0)))], [(q2, .inl (g.2 0, 8, .inl (fun _ => 0)))], [(q3, .inl (g.2 0, 8, .inl (fun _ => 0)))]]) := hD
  refine lv_aload_n hx hb dX9_init_51 rfl (lv_at hl 0 rfl) ?_
  refine lv_bipush (v := 8) hx hb dX9_init_52 (by decide) ?_
  refine znewa (g := g) (atype := .int) (a0 := (8, .inl (fun _ => 0))) (N' := 8) hx hb (hts _ k8) rfl 0 _ rfl (fun _ _ h => h) hK hP hD hS hA (fun _ => rfl) (by decide) (by decide) (Nat.le_of_ble_eq_true rfl) (Nat.le_of_ble_eq_true rfl) (Nat.le_of_ble_eq_true rfl) dX9_init_54 (fun q4 H hP hD hS => ?_)
  have hP : va_P g.1 vwCl (List.flatten [[(o, .inr (7, [.int 0, .int 0, .int 0, .int 20, .int 6, .int 50, .int 0, .int 1, .ref q1, .ref q2, .ref q3, .null, .null, .null, .null, .null, .null, .null, .null]))], [(q1, .inl (g.2 0, 8, .inl (fun _ => 0)))], [(q2, .inl (g.2 0, 8, .inl (fun _ => 0)))], [(q3, .inl (g.2 0, 8, .inl (fun _ => 0)))], [(q4, .inl (g.2 0, 8, .inl (fun _ => 0)))]]) H := hP
  have hD : va_D A (List.flatten [[(o, .inr (7, [.int 0, .int 0, .int 0, .int 20, .int 6, .int 50, .int 0, .int 1, .ref q1, .ref q2, .ref q3, .null, .null, .null, .null, .null, .null, .null, .null]))], [(q1, .inl (g.2 0, 8, .inl (fun _ => 0)))], [(q2, .inl (g.2 0, 8, .inl (fun _ => 0)))], [(q3, .inl (g.2 0, 8, .inl (fun _ => 0)))], [(q4, .inl (g.2 0, 8, .inl (fun _ => 0)))]]) := hD
  refine W.widen (k := 4) (n := 32) (Nat.le_of_ble_eq_true rfl) (Nat.le_of_ble_eq_true rfl) ?_
  refine va_putF (D := g.1) (ci := 7) (v := .ref q4) (ty := tyX9 11) (C := RX9) (T := TX9) (N := 19) hx hb hts izRX9 tyX9 tyX9_ok nmX9 hown hK hP hD hS 0 rfl rfl 11 (by decide) (hts _ k12) (fun _ h9 => h9) rfl hin rfl (by decide +kernel) rfl rfl (Nat.le_of_ble_eq_true rfl) dX9_init_56 (fun H locs hP hD hS => ?_)
  have hP : va_P g.1 vwCl (List.flatten [[(o, .inr (7, [.int 0, .int 0, .int 0, .int 20, .int 6, .int 50, .int 0, .int 1, .ref q1, .ref q2, .ref q3, .ref q4, .null, .null, .null, .null, .null, .null, .null]))], [(q1, .inl (g.2 0, 8, .inl (fun _ => 0)))], [(q2, .inl (g.2 0, 8, .inl (fun _ => 0)))], [(q3, .inl (g.2 0, 8, .inl (fun _ => 0)))], [(q4, .inl (g.2 0, 8, .inl (fun _ => 0)))]]) H := hP
  have hD : va_D A (List.flatten [[(o, .inr (7, [.int 0, .int 0, .int 0, .int 20, .int 6, .int 50, .int 0, .int 1, .ref q1, .ref q2, .ref q3, .ref q4, .null, .null, .null, .null, .null, .null, .null]))], [(q1, .inl (g.2 0, 8, .inl (fun _ => 0)))], [(q2, .inl (g.2 0, 8, .inl (fun _ => 0)))], [(q3, .inl (g.2 0, 8, .inl (fun _ => 0)))], [(q4, .inl (g.2 0, 8, .inl (fun _ => 0)))]]) := hD
  refine lv_aload_n hx hb dX9_init_59 rfl (lv_at hl 0 rfl) ?_
  refine lv_bipush (v := 8) hx hb dX9_init_60 (by decide) ?_
  refine znewa (g := g) (atype := .boolean) (a0 := (8, .inl (fun _ => 0))) (N' := 8) hx hb (hts _ k13) rfl 1 _ rfl (fun _ _ h => h) hK hP hD hS hA (fun _ => rfl) (by decide) (by decide) (Nat.le_of_ble_eq_true rfl) (Nat.le_of_ble_eq_true rfl) (Nat.le_of_ble_eq_true rfl) dX9_init_62 (fun q5 H hP hD hS => ?_)
  have hP : va_P g.1 vwCl (List.flatten [[(o, .inr (7, [.int 0, .int 0, .int 0, .int 20, .int 6, .int 50, .int 0, .int 1, .ref q1, .ref q2, .ref q3, .ref q4, .null, .null, .null, .null, .null, .null, .null]))], [(q1, .inl (g.2 0, 8, .inl (fun _ => 0)))], [(q2, .inl (g.2 0, 8, .inl (fun _ => 0)))], [(q3, .inl (g.2 0, 8, .inl (fun _ => 0)))], [(q4, .inl (g.2 0, 8, .inl (fun _ => 0)))], [(q5, .inl (g.2 1, 8, .inl (fun _ => 0)))]]) H := hP
  have hD : va_D A (List.flatten [[(o, .inr (7, [.int 0, .int 0, .int 0, .int 20, .int 6, .int 50, .int 0, .int 1, .ref q1, .ref q2, .ref q3, .ref q4, .null, .null, .null, .null, .null, .null, .null]))], [(q1, .inl (g.2 0, 8, .inl (fun _ => 0)))], [(q2, .inl (g.2 0, 8, .inl (fun _ => 0)))], [(q3, .inl (g.2 0, 8, .inl (fun _ => 0)))], [(q4, .inl (g.2 0, 8, .inl (fun _ => 0)))], [(q5, .inl (g.2 1, 8, .inl (fun _ => 0)))]]) := hD
  refine W.widen (k := 5) (n := 40) (Nat.le_of_ble_eq_true rfl) (Nat.le_of_ble_eq_true rfl) ?_
  refine va_putF (D := g.1) (ci := 7) (v := .ref q5) (ty := tyX9 12) (C := RX9) (T := TX9) (N := 19) hx hb hts izRX9 tyX9 tyX9_ok nmX9 hown hK hP hD hS 0 rfl rfl 12 (by decide) (hts _ k14) (fun _ h9 => h9) rfl hin rfl (by decide +kernel) rfl rfl (Nat.le_of_ble_eq_true rfl) dX9_init_64 (fun H locs hP hD hS => ?_)
  have hP : va_P g.1 vwCl (List.flatten [[(o, .inr (7, [.int 0, .int 0, .int 0, .int 20, .int 6, .int 50, .int 0, .int 1, .ref q1, .ref q2, .ref q3, .ref q4, .ref q5, .null, .null, .null, .null, .null, .null]))], [(q1, .inl (g.2 0, 8, .inl (fun _ => 0)))], [(q2, .inl (g.2 0, 8, .inl (fun _ => 0)))], [(q3, .inl (g.2 0, 8, .inl (fun _ => 0)))], [(q4, .inl (g.2 0, 8, .inl (fun _ => 0)))], [(q5, .inl (g.2 1, 8, .inl (fun _ => 0)))]]) H := hP
  have hD : va_D A (List.flatten [[(o, .inr (7, [.int 0, .int 0, .int 0, .int 20, .int 6, .int 50, .int 0, .int 1, .ref q1, .ref q2, .ref q3, .ref q4, .ref q5, .null, .null, .null, .null, .null, .null]))], [(q1, .inl (g.2 0, 8, .inl (fun _ => 0)))], [(q2, .inl (g.2 0, 8, .inl (fun _ => 0)))], [(q3, .inl (g.2 0, 8, .inl (fun _ => 0)))], [(q4, .inl (g.2 0, 8, .inl (fun _ => 0)))], [(q5, .inl (g.2 1, 8, .inl (fun _ => 0)))]]) := hD
  refine lv_aload_n hx hb dX9_init_67 rfl (lv_at hl 0 rfl) ?_
  refine lv_bipush (v := 64) hx hb dX9_init_68 (by decide) ?_
  refine znewa (g := g) (atype := .int) (a0 := (64, .inl (fun _ => 0))) (N' := 64) hx hb (hts _ k8) rfl 0 _ rfl (fun _ _ h => h) hK hP hD hS hA (fun _ => rfl) (by decide) (by decide) (Nat.le_of_ble_eq_true rfl) (Nat.le_of_ble_eq_true rfl) (Nat.le_of_ble_eq_true rfl) dX9_init_70 (fun q6 H hP hD hS => ?_)
  have hP : va_P g.1 vwCl (List.flatten [[(o, .inr (7, [.int 0, .int 0, .int 0, .int 20, .int 6, .int 50, .int 0, .int 1, .ref q1, .ref q2, .ref q3, .ref q4, .ref q5, .null, .null, .null, .null, .null, .null]))], [(q1, .inl (g.2 0, 8, .inl (fun _ => 0)))], [(q2, .inl (g.2 0, 8, .inl (fun _ => 0)))], [(q3, .inl (g.2 0, 8, .inl (fun _ => 0)))], [(q4, .inl (g.2 0, 8, .inl (fun _ => 0)))], [(q5, .inl (g.2 1, 8, .inl (fun _ => 0)))], [(q6, .inl (g.2 0, 64, .inl (fun _ => 0)))]]) H := hP
  have hD : va_D A (List.flatten [[(o, .inr (7, [.int 0, .int 0, .int 0, .int 20, .int 6, .int 50, .int 0, .int 1, .ref q1, .ref q2, .ref q3, .ref q4, .ref q5, .null, .null, .null, .null, .null, .null]))], [(q1, .inl (g.2 0, 8, .inl (fun _ => 0)))], [(q2, .inl (g.2 0, 8, .inl (fun _ => 0)))], [(q3, .inl (g.2 0, 8, .inl (fun _ => 0)))], [(q4, .inl (g.2 0, 8, .inl (fun _ => 0)))], [(q5, .inl (g.2 1, 8, .inl (fun _ => 0)))], [(q6, .inl (g.2 0, 64, .inl (fun _ => 0)))]]) := hD
  refine W.widen (k := 6) (n := 104) (Nat.le_of_ble_eq_true rfl) (Nat.le_of_ble_eq_true rfl) ?_
  refine va_putF (D := g.1) (ci := 7) (v := .ref q6) (ty := tyX9 13) (C := RX9) (T := TX9) (N := 19) hx hb hts izRX9 tyX9 tyX9_ok nmX9 hown hK hP hD hS 0 rfl rfl 13 (by decide) (hts _ k15) (fun _ h9 => h9) rfl hin rfl (by decide +kernel) rfl rfl (Nat.le_of_ble_eq_true rfl) dX9_init_72 (fun H locs hP hD hS => ?_)
  have hP : va_P g.1 vwCl (List.flatten [[(o, .inr (7, [.int 0, .int 0, .int 0, .int 20, .int 6, .int 50, .int 0, .int 1, .ref q1, .ref q2, .ref q3, .ref q4, .ref q5, .ref q6, .null, .null, .null, .null, .null]))], [(q1, .inl (g.2 0, 8, .inl (fun _ => 0)))], [(q2, .inl (g.2 0, 8, .inl (fun _ => 0)))], [(q3, .inl (g.2 0, 8, .inl (fun _ => 0)))], [(q4, .inl (g.2 0, 8, .inl (fun _ => 0)))], [(q5, .inl (g.2 1, 8, .inl (fun _ => 0)))], [(q6, .inl (g.2 0, 64, .inl (fun _ => 0)))]]) H := hP
  have hD : va_D A (List.flatten [[(o, .inr (7, [.int 0, .int 0, .int 0, .int 20, .int 6, .int 50, .int 0, .int 1, .ref q1, .ref q2, .ref q3, .ref q4, .ref q5, .ref q6, .null, .null, .null, .null, .null]))], [(q1, .inl (g.2 0, 8, .inl (fun _ => 0)))], [(q2, .inl (g.2 0, 8, .inl (fun _ => 0)))], [(q3, .inl (g.2 0, 8, .inl (fun _ => 0)))], [(q4, .inl (g.2 0, 8, .inl (fun _ => 0)))], [(q5, .inl (g.2 1, 8, .inl (fun _ => 0)))], [(q6, .inl (g.2 0, 64, .inl (fun _ => 0)))]]) := hD
  refine lv_aload_n hx hb dX9_init_75 rfl (lv_at hl 0 rfl) ?_
  refine lv_bipush (v := 6) hx hb dX9_init_76 (by decide) ?_
  refine znewa (g := g) (atype := .int) (a0 := (6, .inl (fun _ => 0))) (N' := 6) hx hb (hts _ k8) rfl 0 _ rfl (fun _ _ h => h) hK hP hD hS hA (fun _ => rfl) (by decide) (by decide) (Nat.le_of_ble_eq_true rfl) (Nat.le_of_ble_eq_true rfl) (Nat.le_of_ble_eq_true rfl) dX9_init_78 (fun q7 H hP hD hS => ?_)
  have hP : va_P g.1 vwCl (List.flatten [[(o, .inr (7, [.int 0, .int 0, .int 0, .int 20, .int 6, .int 50, .int 0, .int 1, .ref q1, .ref q2, .ref q3, .ref q4, .ref q5, .ref q6, .null, .null, .null, .null, .null]))], [(q1, .inl (g.2 0, 8, .inl (fun _ => 0)))], [(q2, .inl (g.2 0, 8, .inl (fun _ => 0)))], [(q3, .inl (g.2 0, 8, .inl (fun _ => 0)))], [(q4, .inl (g.2 0, 8, .inl (fun _ => 0)))], [(q5, .inl (g.2 1, 8, .inl (fun _ => 0)))], [(q6, .inl (g.2 0, 64, .inl (fun _ => 0)))], [(q7, .inl (g.2 0, 6, .inl (fun _ => 0)))]]) H := hP
  have hD : va_D A (List.flatten [[(o, .inr (7, [.int 0, .int 0, .int 0, .int 20, .int 6, .int 50, .int 0, .int 1, .ref q1, .ref q2, .ref q3, .ref q4, .ref q5, .ref q6, .null, .null, .null, .null, .null]))], [(q1, .inl (g.2 0, 8, .inl (fun _ => 0)))], [(q2, .inl (g.2 0, 8, .inl (fun _ => 0)))], [(q3, .inl (g.2 0, 8, .inl (fun _ => 0)))], [(q4, .inl (g.2 0, 8, .inl (fun _ => 0)))], [(q5, .inl (g.2 1, 8, .inl (fun _ => 0)))], [(q6, .inl (g.2 0, 64, .inl (fun _ => 0)))], [(q7, .inl (g.2 0, 6, .inl (fun _ => 0)))]]) := hD
  refine W.widen (k := 7) (n := 110) (Nat.le_of_ble_eq_true rfl) (Nat.le_of_ble_eq_true rfl) ?_
  refine va_putF (D := g.1) (ci := 7) (v := .ref q7) (ty := tyX9 14) (C := RX9) (T := TX9) (N := 19) hx hb hts izRX9 tyX9 tyX9_ok nmX9 hown hK hP hD hS 0 rfl rfl 14 (by decide) (hts _ k16) (fun _ h9 => h9) rfl hin rfl (by decide +kernel) rfl rfl (Nat.le_of_ble_eq_true rfl) dX9_init_80 (fun H locs hP hD hS => ?_)
  have hP : va_P g.1 vwCl (List.flatten [[(o, .inr (7, [.int 0, .int 0, .int 0, .int 20, .int 6, .int 50, .int 0, .int 1, .ref q1, .ref q2, .ref q3, .ref q4, .ref q5, .ref q6, .ref q7, .null, .null, .null, .null]))], [(q1, .inl (g.2 0, 8, .inl (fun _ => 0)))], [(q2, .inl (g.2 0, 8, .inl (fun _ => 0)))], [(q3, .inl (g.2 0, 8, .inl (fun _ => 0)))], [(q4, .inl (g.2 0, 8, .inl (fun _ => 0)))], [(q5, .inl (g.2 1, 8, .inl (fun _ => 0)))], [(q6, .inl (g.2 0, 64, .inl (fun _ => 0)))], [(q7, .inl (g.2 0, 6, .inl (fun _ => 0)))]]) H := hP
  have hD : va_D A (List.flatten [[(o, .inr (7, [.int 0, .int 0, .int 0, .int 20, .int 6, .int 50, .int 0, .int 1, .ref q1, .ref q2, .ref q3, .ref q4, .ref q5, .ref q6, .ref q7, .null, .null, .null, .null]))], [(q1, .inl (g.2 0, 8, .inl (fun _ => 0)))], [(q2, .inl (g.2 0, 8, .inl (fun _ => 0)))], [(q3, .inl (g.2 0, 8, .inl (fun _ => 0)))], [(q4, .inl (g.2 0, 8, .inl (fun _ => 0)))], [(q5, .inl (g.2 1, 8, .inl (fun _ => 0)))], [(q6, .inl (g.2 0, 64, .inl (fun _ => 0)))], [(q7, .inl (g.2 0, 6, .inl (fun _ => 0)))]]) := hD
  refine lv_aload_n hx hb dX9_init_83 rfl (lv_at hl 0 rfl) ?_
  refine lv_bipush (v := 6) hx hb dX9_init_84 (by decide) ?_
  refine znewa (g := g) (atype := .int) (a0 := (6, .inl (fun _ => 0))) (N' := 6) hx hb (hts _ k8) rfl 0 _ rfl (fun _ _ h => h) hK hP hD hS hA (fun _ => rfl) (by decide) (by decide) (Nat.le_of_ble_eq_true rfl) (Nat.le_of_ble_eq_true rfl) (Nat.le_of_ble_eq_true rfl) dX9_init_86 (fun q8 H hP hD hS => ?_)
  have hP : va_P g.1 vwCl (List.flatten [[(o, .inr (7, [.int 0, .int 0, .int 0, .int 20, .int 6, .int 50, .int 0, .int 1, .ref q1, .ref q2, .ref q3, .ref q4, .ref q5, .ref q6, .ref q7, .null, .null, .null, .null]))], [(q1, .inl (g.2 0, 8, .inl (fun _ => 0)))], [(q2, .inl (g.2 0, 8, .inl (fun _ => 0)))], [(q3, .inl (g.2 0, 8, .inl (fun _ => 0)))], [(q4, .inl (g.2 0, 8, .inl (fun _ => 0)))], [(q5, .inl (g.2 1, 8, .inl (fun _ => 0)))], [(q6, .inl (g.2 0, 64, .inl (fun _ => 0)))], [(q7, .inl (g.2 0, 6, .inl (fun _ => 0)))], [(q8, .inl (g.2 0, 6, .inl (fun _ => 0)))]]) H := hP
  have hD : va_D A (List.flatten [[(o, .inr (7, [.int 0, .int 0, .int 0, .int 20, .int 6, .int 50, .int 0, .int 1, .ref q1, .ref q2, .ref q3, .ref q4, .ref q5, .ref q6, .ref q7, .null, .null, .null, .null]))], [(q1, .inl (g.2 0, 8, .inl (fun _ => 0)))], [(q2, .inl (g.2 0, 8, .inl (fun _ => 0)))], [(q3, .inl (g.2 0, 8, .inl (fun _ => 0)))], [(q4, .inl (g.2 0, 8, .inl (fun _ => 0)))], [(q5, .inl (g.2 1, 8, .inl (fun _ => 0)))], [(q6, .inl (g.2 0, 64, .inl (fun _ => 0)))], [(q7, .inl (g.2 0, 6, .inl (fun _ => 0)))], [(q8, .inl (g.2 0, 6, .inl (fun _ => 0)))]]) := hD
  refine W.widen (k := 8) (n := 116) (Nat.le_of_ble_eq_true rfl) (Nat.le_of_ble_eq_true rfl) ?_
  refine va_putF (D := g.1) (ci := 7) (v := .ref q8) (ty := tyX9 15) (C := RX9) (T := TX9) (N := 19) hx hb hts izRX9 tyX9 tyX9_ok nmX9 hown hK hP hD hS 0 rfl rfl 15 (by decide) (hts _ k17) (fun _ h9 => h9) rfl hin rfl (by decide +kernel) rfl rfl (Nat.le_of_ble_eq_true rfl) dX9_init_88 (fun H locs hP hD hS => ?_)
  have hP : va_P g.1 vwCl (List.flatten [[(o, .inr (7, [.int 0, .int 0, .int 0, .int 20, .int 6, .int 50, .int 0, .int 1, .ref q1, .ref q2, .ref q3, .ref q4, .ref q5, .ref q6, .ref q7, .ref q8, .null, .null, .null]))], [(q1, .inl (g.2 0, 8, .inl (fun _ => 0)))], [(q2, .inl (g.2 0, 8, .inl (fun _ => 0)))], [(q3, .inl (g.2 0, 8, .inl (fun _ => 0)))], [(q4, .inl (g.2 0, 8, .inl (fun _ => 0)))], [(q5, .inl (g.2 1, 8, .inl (fun _ => 0)))], [(q6, .inl (g.2 0, 64, .inl (fun _ => 0)))], [(q7, .inl (g.2 0, 6, .inl (fun _ => 0)))], [(q8, .inl (g.2 0, 6, .inl (fun _ => 0)))]]) H := hP
  have hD : va_D A (List.flatten [[(o, .inr (7, [.int 0, .int 0, .int 0, .int 20, .int 6, .int 50, .int 0, .int 1, .ref q1, .ref q2, .ref q3, .ref q4, .ref q5, .ref q6, .ref q7, .ref q8, .null, .null, .null]))], [(q1, .inl (g.2 0, 8, .inl (fun _ => 0)))], [(q2, .inl (g.2 0, 8, .inl (fun _ => 0)))], [(q3, .inl (g.2 0, 8, .inl (fun _ => 0)))], [(q4, .inl (g.2 0, 8, .inl (fun _ => 0)))], [(q5, .inl (g.2 1, 8, .inl (fun _ => 0)))], [(q6, .inl (g.2 0, 64, .inl (fun _ => 0)))], [(q7, .inl (g.2 0, 6, .inl (fun _ => 0)))], [(q8, .inl (g.2 0, 6, .inl (fun _ => 0)))]]) := hD
  refine lv_aload_n hx hb dX9_init_91 rfl (lv_at hl 0 rfl) ?_
  refine lv_bipush (v := 6) hx hb dX9_init_92 (by decide) ?_
  refine znewa (g := g) (atype := .int) (a0 := (6, .inl (fun _ => 0))) (N' := 6) hx hb (hts _ k8) rfl 0 _ rfl (fun _ _ h => h) hK hP hD hS hA (fun _ => rfl) (by decide) (by decide) (Nat.le_of_ble_eq_true rfl) (Nat.le_of_ble_eq_true rfl) (Nat.le_of_ble_eq_true rfl) dX9_init_94 (fun q9 H hP hD hS => ?_)
  have hP : va_P g.1 vwCl (List.flatten [[(o, .inr (7, [.int 0, .int 0, .int 0, .int 20, .int 6, .int 50, .int 0, .int 1, .ref q1, .ref q2, .ref q3, .ref q4, .ref q5, .ref q6, .ref q7, .ref q8, .null, .null, .null]))], [(q1, .inl (g.2 0, 8, .inl (fun _ => 0)))], [(q2, .inl (g.2 0, 8, .inl (fun _ => 0)))], [(q3, .inl (g.2 0, 8, .inl (fun _ => 0)))], [(q4, .inl (g.2 0, 8, .inl (fun _ => 0)))], [(q5, .inl (g.2 1, 8, .inl (fun _ => 0)))], [(q6, .inl (g.2 0, 64, .inl (fun _ => 0)))], [(q7, .inl (g.2 0, 6, .inl (fun _ => 0)))], [(q8, .inl (g.2 0, 6, .inl (fun _ => 0)))], [(q9, .inl (g.2 0, 6, .inl (fun _ => 0)))]]) H := hP
  have hD : va_D A (List.flatten [[(o, .inr (7, [.int 0, .int 0, .int 0, .int 20, .int 6, .int 50, .int 0, .int 1, .ref q1, .ref q2, .ref q3, .ref q4, .ref q5, .ref q6, .ref q7, .ref q8, .null, .null, .null]))], [(q1, .inl (g.2 0, 8, .inl (fun _ => 0)))], [(q2, .inl (g.2 0, 8, .inl (fun _ => 0)))], [(q3, .inl (g.2 0, 8, .inl (fun _ => 0)))], [(q4, .inl (g.2 0, 8, .inl (fun _ => 0)))], [(q5, .inl (g.2 1, 8, .inl (fun _ => 0)))], [(q6, .inl (g.2 0, 64, .inl (fun _ => 0)))], [(q7, .inl (g.2 0, 6, .inl (fun _ => 0)))], [(q8, .inl (g.2 0, 6, .inl (fun _ => 0)))], [(q9, .inl (g.2 0, 6, .inl (fun _ => 0)))]]) := hD
  refine W.widen (k := 9) (n := 122) (Nat.le_of_ble_eq_true rfl) (Nat.le_of_ble_eq_true rfl) ?_
  refine va_putF (D := g.1) (ci := 7) (v := .ref q9) (ty := tyX9 16) (C := RX9) (T := TX9) (N := 19) hx hb hts izRX9 tyX9 tyX9_ok nmX9 hown hK hP hD hS 0 rfl rfl 16 (by decide) (hts _ k18) (fun _ h9 => h9) rfl hin rfl (by decide +kernel) rfl rfl (Nat.le_of_ble_eq_true rfl) dX9_init_96 (fun H locs hP hD hS => ?_)
  have hP : va_P g.1 vwCl (List.flatten [[(o, .inr (7, [.int 0, .int 0, .int 0, .int 20, .int 6, .int 50, .int 0, .int 1, .ref q1, .ref q2, .ref q3, .ref q4, .ref q5, .ref q6, .ref q7, .ref q8, .ref q9, .null, .null]))], [(q1, .inl (g.2 0, 8, .inl (fun _ => 0)))], [(q2, .inl (g.2 0, 8, .inl (fun _ => 0)))], [(q3, .inl (g.2 0, 8, .inl (fun _ => 0)))], [(q4, .inl (g.2 0, 8, .inl (fun _ => 0)))], [(q5, .inl (g.2 1, 8, .inl (fun _ => 0)))], [(q6, .inl (g.2 0, 64, .inl (fun _ => 0)))], [(q7, .inl (g.2 0, 6, .inl (fun _ => 0)))], [(q8, .inl (g.2 0, 6, .inl (fun _ => 0)))], [(q9, .inl (g.2 0, 6, .inl (fun _ => 0)))]]) H := hP
  have hD : va_D A (List.flatten [[(o, .inr (7, [.int 0, .int 0, .int 0, .int 20, .int 6, .int 50, .int 0, .int 1, .ref q1, .ref q2, .ref q3, .ref q4, .ref q5, .ref q6, .ref q7, .ref q8, .ref q9, .null, .null]))], [(q1, .inl (g.2 0, 8, .inl (fun _ => 0)))], [(q2, .inl (g.2 0, 8, .inl (fun _ => 0)))], [(q3, .inl (g.2 0, 8, .inl (fun _ => 0)))], [(q4, .inl (g.2 0, 8, .inl (fun _ => 0)))], [(q5, .inl (g.2 1, 8, .inl (fun _ => 0)))], [(q6, .inl (g.2 0, 64, .inl (fun _ => 0)))], [(q7, .inl (g.2 0, 6, .inl (fun _ => 0)))], [(q8, .inl (g.2 0, 6, .inl (fun _ => 0)))], [(q9, .inl (g.2 0, 6, .inl (fun _ => 0)))]]) := hD
  refine lv_aload_n hx hb dX9_init_99 rfl (lv_at hl 0 rfl) ?_
  refine lv_bipush (v := 6) hx hb dX9_init_100 (by decide) ?_
  refine znewa (g := g) (atype := .int) (a0 := (6, .inl (fun _ => 0))) (N' := 6) hx hb (hts _ k8) rfl 0 _ rfl (fun _ _ h => h) hK hP hD hS hA (fun _ => rfl) (by decide) (by decide) (Nat.le_of_ble_eq_true rfl) (Nat.le_of_ble_eq_true rfl) (Nat.le_of_ble_eq_true rfl) dX9_init_102 (fun q10 H hP hD hS => ?_)
  have hP : va_P g.1 vwCl (List.flatten [[(o, .inr (7, [.int 0, .int 0, .int 0, .int 20, .int 6, .int 50, .int 0, .int 1, .ref q1, .ref q2, .ref q3, .ref q4, .ref q5, .ref q6, .ref q7, .ref q8, .ref q9, .null, .null]))], [(q1, .inl (g.2 0, 8, .inl (fun _ => 0)))], [(q2, .inl (g.2 0, 8, .inl (fun _ => 0)))], [(q3, .inl (g.2 0, 8, .inl (fun _ => 0)))], [(q4, .inl (g.2 0, 8, .inl (fun _ => 0)))], [(q5, .inl (g.2 1, 8, .inl (fun _ => 0)))], [(q6, .inl (g.2 0, 64, .inl (fun _ => 0)))], [(q7, .inl (g.2 0, 6, .inl (fun _ => 0)))], [(q8, .inl (g.2 0, 6, .inl (fun _ => 0)))], [(q9, .inl (g.2 0, 6, .inl (fun _ => 0)))], [(q10, .inl (g.2 0, 6, .inl (fun _ => 0)))]]) H := hP
  have hD : va_D A (List.flatten [[(o, .inr (7, [.int 0, .int 0, .int 0, .int 20, .int 6, .int 50, .int 0, .int 1, .ref q1, .ref q2, .ref q3, .ref q4, .ref q5, .ref q6, .ref q7, .ref q8, .ref q9, .null, .null]))], [(q1, .inl (g.2 0, 8, .inl (fun _ => 0)))], [(q2, .inl (g.2 0, 8, .inl (fun _ => 0)))], [(q3, .inl (g.2 0, 8, .inl (fun _ => 0)))], [(q4, .inl (g.2 0, 8, .inl (fun _ => 0)))], [(q5, .inl (g.2 1, 8, .inl (fun _ => 0)))], [(q6, .inl (g.2 0, 64, .inl (fun _ => 0)))], [(q7, .inl (g.2 0, 6, .inl (fun _ => 0)))], [(q8, .inl (g.2 0, 6, .inl (fun _ => 0)))], [(q9, .inl (g.2 0, 6, .inl (fun _ => 0)))], [(q10, .inl (g.2 0, 6, .inl (fun _ => 0)))]]) := hD
  refine W.widen (k := 10) (n := 128) (Nat.le_of_ble_eq_true rfl) (Nat.le_of_ble_eq_true rfl) ?_
  refine va_putF (D := g.1) (ci := 7) (v := .ref q10) (ty := tyX9 17) (C := RX9) (T := TX9) (N := 19) hx hb hts izRX9 tyX9 tyX9_ok nmX9 hown hK hP hD hS 0 rfl rfl 17 (by decide) (hts _ k19) (fun _ h9 => h9) rfl hin rfl (by decide +kernel) rfl rfl (Nat.le_of_ble_eq_true rfl) dX9_init_104 (fun H locs hP hD hS => ?_)
  have hP : va_P g.1 vwCl (List.flatten [[(o, .inr (7, [.int 0, .int 0, .int 0, .int 20, .int 6, .int 50, .int 0, .int 1, .ref q1, .ref q2, .ref q3, .ref q4, .ref q5, .ref q6, .ref q7, .ref q8, .ref q9, .ref q10, .null]))], [(q1, .inl (g.2 0, 8, .inl (fun _ => 0)))], [(q2, .inl (g.2 0, 8, .inl (fun _ => 0)))], [(q3, .inl (g.2 0, 8, .inl (fun _ => 0)))], [(q4, .inl (g.2 0, 8, .inl (fun _ => 0)))], [(q5, .inl (g.2 1, 8, .inl (fun _ => 0)))], [(q6, .inl (g.2 0, 64, .inl (fun _ => 0)))], [(q7, .inl (g.2 0, 6, .inl (fun _ => 0)))], [(q8, .inl (g.2 0, 6, .inl (fun _ => 0)))], [(q9, .inl (g.2 0, 6, .inl (fun _ => 0)))], [(q10, .inl (g.2 0, 6, .inl (fun _ => 0)))]]) H := hP
  have hD : va_D A (List.flatten [[(o, .inr (7, [.int 0, .int 0, .int 0, .int 20, .int 6, .int 50, .int 0, .int 1, .ref q1, .ref q2, .ref q3, .ref q4, .ref q5, .ref q6, .ref q7, .ref q8, .ref q9, .ref q10, .null]))], [(q1, .inl (g.2 0, 8, .inl (fun _ => 0)))], [(q2, .inl (g.2 0, 8, .inl (fun _ => 0)))], [(q3, .inl (g.2 0, 8, .inl (fun _ => 0)))], [(q4, .inl (g.2 0, 8, .inl (fun _ => 0)))], [(q5, .inl (g.2 1, 8, .inl (fun _ => 0)))], [(q6, .inl (g.2 0, 64, .inl (fun _ => 0)))], [(q7, .inl (g.2 0, 6, .inl (fun _ => 0)))], [(q8, .inl (g.2 0, 6, .inl (fun _ => 0)))], [(q9, .inl (g.2 0, 6, .inl (fun _ => 0)))], [(q10, .inl (g.2 0, 6, .inl (fun _ => 0)))]]) := hD
  refine lv_aload_n hx hb dX9_init_107 rfl (lv_at hl 0 rfl) ?_
  refine lv_bipush (v := 8) hx hb dX9_init_108 (by decide) ?_
  refine znewa (g := g) (atype := .int) (a0 := (8, .inl (fun _ => 0))) (N' := 8) hx hb (hts _ k8) rfl 0 _ rfl (fun _ _ h => h) hK hP hD hS hA (fun _ => rfl) (by decide) (by decide) (Nat.le_of_ble_eq_true rfl) (Nat.le_of_ble_eq_true rfl) (Nat.le_of_ble_eq_true rfl) dX9_init_110 (fun q11 H hP hD hS => ?_)
  have hP : va_P g.1 vwCl (List.flatten [[(o, .inr (7, [.int 0, .int 0, .int 0, .int 20, .int 6, .int 50, .int 0, .int 1, .ref q1, .ref q2, .ref q3, .ref q4, .ref q5, .ref q6, .ref q7, .ref q8, .ref q9, .ref q10, .null]))], [(q1, .inl (g.2 0, 8, .inl (fun _ => 0)))], [(q2, .inl (g.2 0, 8, .inl (fun _ => 0)))], [(q3, .inl (g.2 0, 8, .inl (fun _ => 0)))], [(q4, .inl (g.2 0, 8, .inl (fun _ => 0)))], [(q5, .inl (g.2 1, 8, .inl (fun _ => 0)))], [(q6, .inl (g.2 0, 64, .inl (fun _ => 0)))], [(q7, .inl (g.2 0, 6, .inl (fun _ => 0)))], [(q8, .inl (g.2 0, 6, .inl (fun _ => 0)))], [(q9, .inl (g.2 0, 6, .inl (fun _ => 0)))], [(q10, .inl (g.2 0, 6, .inl (fun _ => 0)))], [(q11, .inl (g.2 0, 8, .inl (fun _ => 0)))]]) H := hP
  have hD : va_D A (List.flatten [[(o, .inr (7, [.int 0, .int 0, .int 0, .int 20, .int 6, .int 50, .int 0, .int 1, .ref q1, .ref q2, .ref q3, .ref q4, .ref q5, .ref q6, .ref q7, .ref q8, .ref q9, .ref q10, .null]))], [(q1, .inl (g.2 0, 8, .inl (fun _ => 0)))], [(q2, .inl (g.2 0, 8, .inl (fun _ => 0)))], [(q3, .inl (g.2 0, 8, .inl (fun _ => 0)))], [(q4, .inl (g.2 0, 8, .inl (fun _ => 0)))], [(q5, .inl (g.2 1, 8, .inl (fun _ => 0)))], [(q6, .inl (g.2 0, 64, .inl (fun _ => 0)))], [(q7, .inl (g.2 0, 6, .inl (fun _ => 0)))], [(q8, .inl (g.2 0, 6, .inl (fun _ => 0)))], [(q9, .inl (g.2 0, 6, .inl (fun _ => 0)))], [(q10, .inl (g.2 0, 6, .inl (fun _ => 0)))], [(q11, .inl (g.2 0, 8, .inl (fun _ => 0)))]]) := hD
  refine W.widen (k := 11) (n := 136) (Nat.le_of_ble_eq_true rfl) (Nat.le_of_ble_eq_true rfl) ?_
  refine va_putF (D := g.1) (ci := 7) (v := .ref q11) (ty := tyX9 18) (C := RX9) (T := TX9) (N := 19) hx hb hts izRX9 tyX9 tyX9_ok nmX9 hown hK hP hD hS 0 rfl rfl 18 (by decide) (hts _ k20) (fun _ h9 => h9) rfl hin rfl (by decide +kernel) rfl rfl (Nat.le_of_ble_eq_true rfl) dX9_init_112 (fun H locs hP hD hS => ?_)
  have hP : va_P g.1 vwCl (List.flatten [[(o, .inr (7, [.int 0, .int 0, .int 0, .int 20, .int 6, .int 50, .int 0, .int 1, .ref q1, .ref q2, .ref q3, .ref q4, .ref q5, .ref q6, .ref q7, .ref q8, .ref q9, .ref q10, .ref q11]))], [(q1, .inl (g.2 0, 8, .inl (fun _ => 0)))], [(q2, .inl (g.2 0, 8, .inl (fun _ => 0)))], [(q3, .inl (g.2 0, 8, .inl (fun _ => 0)))], [(q4, .inl (g.2 0, 8, .inl (fun _ => 0)))], [(q5, .inl (g.2 1, 8, .inl (fun _ => 0)))], [(q6, .inl (g.2 0, 64, .inl (fun _ => 0)))], [(q7, .inl (g.2 0, 6, .inl (fun _ => 0)))], [(q8, .inl (g.2 0, 6, .inl (fun _ => 0)))], [(q9, .inl (g.2 0, 6, .inl (fun _ => 0)))], [(q10, .inl (g.2 0, 6, .inl (fun _ => 0)))], [(q11, .inl (g.2 0, 8, .inl (fun _ => 0)))]]) H := hP
  have hD : va_D A (List.flatten [[(o, .inr (7, [.int 0, .int 0, .int 0, .int 20, .int 6, .int 50, .int 0, .int 1, .ref q1, .ref q2, .ref q3, .ref q4, .ref q5, .ref q6, .ref q7, .ref q8, .ref q9, .ref q10, .ref q11]))], [(q1, .inl (g.2 0, 8, .inl (fun _ => 0)))], [(q2, .inl (g.2 0, 8, .inl (fun _ => 0)))], [(q3, .inl (g.2 0, 8, .inl (fun _ => 0)))], [(q4, .inl (g.2 0, 8, .inl (fun _ => 0)))], [(q5, .inl (g.2 1, 8, .inl (fun _ => 0)))], [(q6, .inl (g.2 0, 64, .inl (fun _ => 0)))], [(q7, .inl (g.2 0, 6, .inl (fun _ => 0)))], [(q8, .inl (g.2 0, 6, .inl (fun _ => 0)))], [(q9, .inl (g.2 0, 6, .inl (fun _ => 0)))], [(q10, .inl (g.2 0, 6, .inl (fun _ => 0)))], [(q11, .inl (g.2 0, 8, .inl (fun _ => 0)))]]) := hD
  have hP : va_P g.1 vwCl (List.flatten [[(o, .inr (7, [.int 0, .int 0, .int 0, .int 20, .int 6, .int 50, .int 0, .int 1, .ref q1, .ref q2, .ref q3, .ref q4, .ref q5, .ref q6, .ref q7, .ref q8, .ref q9, .ref q10, .ref q11]))], [(q1, .inl (g.2 0, 8, .inl (fun _ => 0)))], [(q2, .inl (g.2 0, 8, .inl (fun _ => 0)))], [(q3, .inl (g.2 0, 8, .inl (fun _ => 0)))], [(q4, .inl (g.2 0, 8, .inl (fun _ => 0)))], [(q5, .inl (g.2 1, 8, .inl (fun _ => 0)))], [(q6, .inl (g.2 0, 64, .inl (fun _ => 0)))], [(q7, .inl (g.2 0, 6, .inl (fun _ => 0)))], [(q8, .inl (g.2 0, 6, .inl (fun _ => 0)))], [(q9, .inl (g.2 0, 6, .inl (fun _ => 0)))], [(q10, .inl (g.2 0, 6, .inl (fun _ => 0)))], [(q11, .inl (g.2 0, 8, .inl (fun _ => 0)))]]) H := hP
  have hD : va_D A (List.flatten [[(o, .inr (7, [.int 0, .int 0, .int 0, .int 20, .int 6, .int 50, .int 0, .int 1, .ref q1, .ref q2, .ref q3, .ref q4, .ref q5, .ref q6, .ref q7, .ref q8, .ref q9, .ref q10, .ref q11]))], [(q1, .inl (g.2 0, 8, .inl (fun _ => 0)))], [(q2, .inl (g.2 0, 8, .inl (fun _ => 0)))], [(q3, .inl (g.2 0, 8, .inl (fun _ => 0)))], [(q4, .inl (g.2 0, 8, .inl (fun _ => 0)))], [(q5, .inl (g.2 1, 8, .inl (fun _ => 0)))], [(q6, .inl (g.2 0, 64, .inl (fun _ => 0)))], [(q7, .inl (g.2 0, 6, .inl (fun _ => 0)))], [(q8, .inl (g.2 0, 6, .inl (fun _ => 0)))], [(q9, .inl (g.2 0, 6, .inl (fun _ => 0)))], [(q10, .inl (g.2 0, 6, .inl (fun _ => 0)))], [(q11, .inl (g.2 0, 8, .inl (fun _ => 0)))]]) := hD
  have hP : va_P g.1 vwCl (List.flatten [bTown g o (zl [q1, q2, q3, q4, q5, q6, q7, q8, q9, q10, q11]) 0 0 0 20 6 50 0 1 (fun _ _ => 0)]) H := hP
  have hD : va_D A (List.flatten [bTown g o (zl [q1, q2, q3, q4, q5, q6, q7, q8, q9, q10, q11]) 0 0 0 20 6 50 0 1 (fun _ _ => 0)]) := hD
  exact mret_v hx hb hr hlocks hS (Nat.le_of_ble_eq_true rfl) (Nat.le_of_ble_eq_true rfl) dX9_init_115 (zl [q1, q2, q3, q4, q5, q6, q7, q8, q9, q10, q11]) rfl trivial hP hD
set_option maxRecDepth 100000 in
set_option maxHeartbeats 4000000 in
/-- new Law() -/
theorem c_Law_init (l : Launch) (g : zG) (o : Nat)  : zM g l yX1_init (Cond.code yX1_init cX1_init 1 none :: zB) ({ frames := 1, cells := 1, slots := 400, locals := 13 } : Room) [.ref o] [[(o, .inr (1, [.null, .int 0, .int 0, .int 0, .int 0, .int 0]))]] (fun (ac : Nat) => none) (fun (ac : Nat) => True) (fun (ac : Nat) => [bLaw g o ac 0 (-1) 0 0 0 (fun _ => 0)]) := by
  refine zM.of (cc := cX1_init) (maxL := 1) (rt := none) (by decide) rfl (Nat.le_of_ble_eq_true rfl) ?_
  intro p e s m args below meth c A ls St hr hlocks hin hK hT hA hP hD hS hl
  obtain ⟨hx, hb, hml, hown, hts⟩ := id St
  have hl : lv_has ls 1 [(0, .ref o)] := hl
  refine lv_aload_n hx hb dX1_init_0 rfl (lv_at hl 0 rfl) ?_
  refine W.objInit hx hb hown (hts (.methodLink RX1 3 objectInit) k196) (hts (.instanceMethod objectInit) k2) (hts (.code objectInit ⟨#[0xb1]⟩ 1 none) k3) rfl (by rw [hml]; exact hl.1) rfl dX1_init_1 (Nat.le_of_ble_eq_true rfl) (Nat.le_of_ble_eq_true rfl) ?_
  refine W.eq (g2 := F0 m 4 ls []) rfl ?_
  refine lv_aload_n hx hb dX1_init_4 rfl (lv_at hl 0 rfl) ?_
  refine lv_sipush (v := 400) hx hb dX1_init_5 (by decide) ?_
  refine znewa (g := g) (atype := .int) (a0 := (400, .inl (fun _ => 0))) (N' := 400) hx hb (hts _ k8) rfl 0 _ rfl (fun _ _ h => h) hK hP hD hS hA (fun _ => rfl) (by decide) (by decide) (Nat.le_of_ble_eq_true rfl) (Nat.le_of_ble_eq_true rfl) (Nat.le_of_ble_eq_true rfl) dX1_init_8 (fun q1 H hP hD hS => ?_)
  have hP : va_P g.1 vwCl (List.flatten [[(o, .inr (1, [.null, .int 0, .int 0, .int 0, .int 0, .int 0]))], [(q1, .inl (g.2 0, 400, .inl (fun _ => 0)))]]) H := hP
  have hD : va_D A (List.flatten [[(o, .inr (1, [.null, .int 0, .int 0, .int 0, .int 0, .int 0]))], [(q1, .inl (g.2 0, 400, .inl (fun _ => 0)))]]) := hD
  refine W.widen (k := 1) (n := 400) (Nat.le_of_ble_eq_true rfl) (Nat.le_of_ble_eq_true rfl) ?_
  refine va_putF (D := g.1) (ci := 1) (v := .ref q1) (ty := tyX1 0) (C := RX1) (T := TX1) (N := 6) hx hb hts izRX1 tyX1 tyX1_ok nmX1 hown hK hP hD hS 0 rfl rfl 0 (by decide) (hts _ k90) (fun _ h9 => h9) rfl hin rfl (by decide +kernel) rfl rfl (Nat.le_of_ble_eq_true rfl) dX1_init_10 (fun H locs hP hD hS => ?_)
  have hP : va_P g.1 vwCl (List.flatten [[(o, .inr (1, [.ref q1, .int 0, .int 0, .int 0, .int 0, .int 0]))], [(q1, .inl (g.2 0, 400, .inl (fun _ => 0)))]]) H := hP
  have hD : va_D A (List.flatten [[(o, .inr (1, [.ref q1, .int 0, .int 0, .int 0, .int 0, .int 0]))], [(q1, .inl (g.2 0, 400, .inl (fun _ => 0)))]]) := hD
  refine lv_aload_n hx hb dX1_init_13 rfl (lv_at hl 0 rfl) ?_
  refine lv_iconst (v := (-1)) hx hb dX1_init_14 (by decide) ?_
  refine va_put (D := g.1) (ci := 1) (v := .int (-1)) (ty := .int) (C := RX1) (T := TX1) (N := 6) hx hb hts izRX1 tyX1 tyX1_ok nmX1 hown hK hP hD hS 0 rfl rfl 2 (by decide) (hts _ k87) (fun _ h9 => h9) rfl (by decide +kernel) rfl rfl (Nat.le_of_ble_eq_true rfl) dX1_init_15 (fun H locs hP hD hS => ?_)
  have hP : va_P g.1 vwCl (List.flatten [[(o, .inr (1, [.ref q1, .int 0, .int (-1), .int 0, .int 0, .int 0]))], [(q1, .inl (g.2 0, 400, .inl (fun _ => 0)))]]) H := hP
  have hD : va_D A (List.flatten [[(o, .inr (1, [.ref q1, .int 0, .int (-1), .int 0, .int 0, .int 0]))], [(q1, .inl (g.2 0, 400, .inl (fun _ => 0)))]]) := hD
  have hP : va_P g.1 vwCl (List.flatten [[(o, .inr (1, [.ref q1, .int 0, .int (-1), .int 0, .int 0, .int 0]))], [(q1, .inl (g.2 0, 400, .inl (fun _ => 0)))]]) H := hP
  have hD : va_D A (List.flatten [[(o, .inr (1, [.ref q1, .int 0, .int (-1), .int 0, .int 0, .int 0]))], [(q1, .inl (g.2 0, 400, .inl (fun _ => 0)))]]) := hD
  have hP : va_P g.1 vwCl (List.flatten [bLaw g o q1 0 (-1) 0 0 0 (fun _ => 0)]) H := hP
  have hD : va_D A (List.flatten [bLaw g o q1 0 (-1) 0 0 0 (fun _ => 0)]) := hD
  exact mret_v hx hb hr hlocks hS (Nat.le_of_ble_eq_true rfl) (Nat.le_of_ble_eq_true rfl) dX1_init_18 (q1) rfl trivial hP hD
set_option maxRecDepth 100000 in
set_option maxHeartbeats 4000000 in
/-- new Log() -/
theorem c_Log_init (l : Launch) (g : zG) (o : Nat)  : zM g l yX3_init (Cond.code yX3_init cX3_init 1 none :: zB) ({ frames := 1, cells := 1, slots := 240, locals := 13 } : Room) [.ref o] [[(o, .inr (3, [.null, .int 0, .int 0]))]] (fun (ar : Nat) => none) (fun (ar : Nat) => True) (fun (ar : Nat) => [bLog g o ar 0 0 (fun _ => 0)]) := by
  refine zM.of (cc := cX3_init) (maxL := 1) (rt := none) (by decide) rfl (Nat.le_of_ble_eq_true rfl) ?_
  intro p e s m args below meth c A ls St hr hlocks hin hK hT hA hP hD hS hl
  obtain ⟨hx, hb, hml, hown, hts⟩ := id St
  have hl : lv_has ls 1 [(0, .ref o)] := hl
  refine lv_aload_n hx hb dX3_init_0 rfl (lv_at hl 0 rfl) ?_
  refine W.objInit hx hb hown (hts (.methodLink RX3 3 objectInit) k218) (hts (.instanceMethod objectInit) k2) (hts (.code objectInit ⟨#[0xb1]⟩ 1 none) k3) rfl (by rw [hml]; exact hl.1) rfl dX3_init_1 (Nat.le_of_ble_eq_true rfl) (Nat.le_of_ble_eq_true rfl) ?_
  refine W.eq (g2 := F0 m 4 ls []) rfl ?_
  refine lv_aload_n hx hb dX3_init_4 rfl (lv_at hl 0 rfl) ?_
  refine lv_sipush (v := 240) hx hb dX3_init_5 (by decide) ?_
  refine znewa (g := g) (atype := .int) (a0 := (240, .inl (fun _ => 0))) (N' := 240) hx hb (hts _ k8) rfl 0 _ rfl (fun _ _ h => h) hK hP hD hS hA (fun _ => rfl) (by decide) (by decide) (Nat.le_of_ble_eq_true rfl) (Nat.le_of_ble_eq_true rfl) (Nat.le_of_ble_eq_true rfl) dX3_init_8 (fun q1 H hP hD hS => ?_)
  have hP : va_P g.1 vwCl (List.flatten [[(o, .inr (3, [.null, .int 0, .int 0]))], [(q1, .inl (g.2 0, 240, .inl (fun _ => 0)))]]) H := hP
  have hD : va_D A (List.flatten [[(o, .inr (3, [.null, .int 0, .int 0]))], [(q1, .inl (g.2 0, 240, .inl (fun _ => 0)))]]) := hD
  refine W.widen (k := 1) (n := 240) (Nat.le_of_ble_eq_true rfl) (Nat.le_of_ble_eq_true rfl) ?_
  refine va_putF (D := g.1) (ci := 3) (v := .ref q1) (ty := tyX3 0) (C := RX3) (T := TX3) (N := 3) hx hb hts izRX3 tyX3 tyX3_ok nmX3 hown hK hP hD hS 0 rfl rfl 0 (by decide) (hts _ k124) (fun _ h9 => h9) rfl hin rfl (by decide +kernel) rfl rfl (Nat.le_of_ble_eq_true rfl) dX3_init_10 (fun H locs hP hD hS => ?_)
  have hP : va_P g.1 vwCl (List.flatten [[(o, .inr (3, [.ref q1, .int 0, .int 0]))], [(q1, .inl (g.2 0, 240, .inl (fun _ => 0)))]]) H := hP
  have hD : va_D A (List.flatten [[(o, .inr (3, [.ref q1, .int 0, .int 0]))], [(q1, .inl (g.2 0, 240, .inl (fun _ => 0)))]]) := hD
  have hP : va_P g.1 vwCl (List.flatten [[(o, .inr (3, [.ref q1, .int 0, .int 0]))], [(q1, .inl (g.2 0, 240, .inl (fun _ => 0)))]]) H := hP
  have hD : va_D A (List.flatten [[(o, .inr (3, [.ref q1, .int 0, .int 0]))], [(q1, .inl (g.2 0, 240, .inl (fun _ => 0)))]]) := hD
  have hP : va_P g.1 vwCl (List.flatten [bLog g o q1 0 0 (fun _ => 0)]) H := hP
  have hD : va_D A (List.flatten [bLog g o q1 0 0 (fun _ => 0)]) := hD
  exact mret_v hx hb hr hlocks hS (Nat.le_of_ble_eq_true rfl) (Nat.le_of_ble_eq_true rfl) dX3_init_13 (q1) rfl trivial hP hD
set_option maxRecDepth 100000 in
set_option maxHeartbeats 4000000 in
/-- bitCount(0) is 0 -/
theorem c_bitCount0 (l : Launch) (g : zG)   : zM g l yJ6_bitCount_0f7a4 (Cond.code yJ6_bitCount_0f7a4 cJ6_bitCount_0f7a4 1 (some .int) :: zB) ({ frames := 0, cells := 0, slots := 0, locals := 0 } : Room) [.int 0] [] (fun _ : Unit => some (.int 0)) (fun _ : Unit => True) (fun _ : Unit => []) := by
  refine zM.of (cc := cJ6_bitCount_0f7a4) (maxL := 1) (rt := (some .int)) (by decide) rfl (Nat.le_of_ble_eq_true rfl) ?_
  intro p e s m args below meth c A ls St hr hlocks hin hK hT hA hP hD hS hl
  obtain ⟨hx, hb, hml, hown, hts⟩ := id St
  have hl : lv_has ls 1 [(0, .int 0)] := hl
  refine lv_iload_n hx hb dJ6_bitCount_0f7a4_0 rfl (lv_at hl 0 rfl) ?_
  refine lv_iload_n hx hb dJ6_bitCount_0f7a4_1 rfl (lv_at hl 0 rfl) ?_
  refine lv_iconst (v := 1) hx hb dJ6_bitCount_0f7a4_2 (by decide) ?_
  refine lv_iushr (v := ((0 : Int32).toUInt32 >>> ((1 : Int32).toUInt32 &&& Int32.toUInt32 31)).toInt32) hx hb dJ6_bitCount_0f7a4_3 rfl ?_
  refine ztop (r := 0) (by decide) ?_
  refine lv_ldcw (v := 1431655765) hx hb hown (hts _ k45) dJ6_bitCount_0f7a4_4 ?_
  refine lv_iand hx hb dJ6_bitCount_0f7a4_7 ?_
  refine ztop (r := 0) (by decide) ?_
  refine lv_isub hx hb dJ6_bitCount_0f7a4_8 ?_
  refine ztop (r := 0) (by decide) ?_
  refine lv_istore_n (lv' := [(0, .int 0)]) hx hb dJ6_bitCount_0f7a4_9 rfl hl (by decide) rfl (fun ls hl => ?_)
  refine lv_iload_n hx hb dJ6_bitCount_0f7a4_10 rfl (lv_at hl 0 rfl) ?_
  refine lv_ldcw (v := 858993459) hx hb hown (hts _ k46) dJ6_bitCount_0f7a4_11 ?_
  refine lv_iand hx hb dJ6_bitCount_0f7a4_14 ?_
  refine ztop (r := 0) (by decide) ?_
  refine lv_iload_n hx hb dJ6_bitCount_0f7a4_15 rfl (lv_at hl 0 rfl) ?_
  refine lv_iconst (v := 2) hx hb dJ6_bitCount_0f7a4_16 (by decide) ?_
  refine lv_iushr (v := ((0 : Int32).toUInt32 >>> ((2 : Int32).toUInt32 &&& Int32.toUInt32 31)).toInt32) hx hb dJ6_bitCount_0f7a4_17 rfl ?_
  refine ztop (r := 0) (by decide) ?_
  refine lv_ldcw (v := 858993459) hx hb hown (hts _ k46) dJ6_bitCount_0f7a4_18 ?_
  refine lv_iand hx hb dJ6_bitCount_0f7a4_21 ?_
  refine ztop (r := 0) (by decide) ?_
  refine lv_iadd hx hb dJ6_bitCount_0f7a4_22 ?_
  refine ztop (r := 0) (by decide) ?_
  refine lv_istore_n (lv' := [(0, .int 0)]) hx hb dJ6_bitCount_0f7a4_23 rfl hl (by decide) rfl (fun ls hl => ?_)
  refine lv_iload_n hx hb dJ6_bitCount_0f7a4_24 rfl (lv_at hl 0 rfl) ?_
  refine lv_iload_n hx hb dJ6_bitCount_0f7a4_25 rfl (lv_at hl 0 rfl) ?_
  refine lv_iconst (v := 4) hx hb dJ6_bitCount_0f7a4_26 (by decide) ?_
  refine lv_iushr (v := ((0 : Int32).toUInt32 >>> ((4 : Int32).toUInt32 &&& Int32.toUInt32 31)).toInt32) hx hb dJ6_bitCount_0f7a4_27 rfl ?_
  refine ztop (r := 0) (by decide) ?_
  refine lv_iadd hx hb dJ6_bitCount_0f7a4_28 ?_
  refine ztop (r := 0) (by decide) ?_
  refine lv_ldcw (v := 252645135) hx hb hown (hts _ k47) dJ6_bitCount_0f7a4_29 ?_
  refine lv_iand hx hb dJ6_bitCount_0f7a4_32 ?_
  refine ztop (r := 0) (by decide) ?_
  refine lv_istore_n (lv' := [(0, .int 0)]) hx hb dJ6_bitCount_0f7a4_33 rfl hl (by decide) rfl (fun ls hl => ?_)
  refine lv_iload_n hx hb dJ6_bitCount_0f7a4_34 rfl (lv_at hl 0 rfl) ?_
  refine lv_iload_n hx hb dJ6_bitCount_0f7a4_35 rfl (lv_at hl 0 rfl) ?_
  refine lv_bipush (v := 8) hx hb dJ6_bitCount_0f7a4_36 (by decide) ?_
  refine lv_iushr (v := ((0 : Int32).toUInt32 >>> ((8 : Int32).toUInt32 &&& Int32.toUInt32 31)).toInt32) hx hb dJ6_bitCount_0f7a4_38 rfl ?_
  refine ztop (r := 0) (by decide) ?_
  refine lv_iadd hx hb dJ6_bitCount_0f7a4_39 ?_
  refine ztop (r := 0) (by decide) ?_
  refine lv_istore_n (lv' := [(0, .int 0)]) hx hb dJ6_bitCount_0f7a4_40 rfl hl (by decide) rfl (fun ls hl => ?_)
  refine lv_iload_n hx hb dJ6_bitCount_0f7a4_41 rfl (lv_at hl 0 rfl) ?_
  refine lv_iload_n hx hb dJ6_bitCount_0f7a4_42 rfl (lv_at hl 0 rfl) ?_
  refine lv_bipush (v := 16) hx hb dJ6_bitCount_0f7a4_43 (by decide) ?_
  refine lv_iushr (v := ((0 : Int32).toUInt32 >>> ((16 : Int32).toUInt32 &&& Int32.toUInt32 31)).toInt32) hx hb dJ6_bitCount_0f7a4_45 rfl ?_
  refine ztop (r := 0) (by decide) ?_
  refine lv_iadd hx hb dJ6_bitCount_0f7a4_46 ?_
  refine ztop (r := 0) (by decide) ?_
  refine lv_istore_n (lv' := [(0, .int 0)]) hx hb dJ6_bitCount_0f7a4_47 rfl hl (by decide) rfl (fun ls hl => ?_)
  refine lv_iload_n hx hb dJ6_bitCount_0f7a4_48 rfl (lv_at hl 0 rfl) ?_
  refine lv_bipush (v := 63) hx hb dJ6_bitCount_0f7a4_49 (by decide) ?_
  refine lv_iand hx hb dJ6_bitCount_0f7a4_51 ?_
  refine ztop (r := 0) (by decide) ?_
  have hP : va_P g.1 vwCl (List.flatten []) s.heap := hP
  have hD : va_D A (List.flatten []) := hD
  exact mret_i hx hb hr hlocks hS (Nat.le_of_ble_eq_true rfl) (Nat.le_of_ble_eq_true rfl) dJ6_bitCount_0f7a4_52 () rfl trivial hP hD
set_option maxRecDepth 100000 in
set_option maxHeartbeats 4000000 in
theorem c_peopleHere (l : Launch) (g : zG) (o : Nat) (a : Nat → Nat) (tx : Int32) (ch : Int32) (jo : Int32) (tr : Int32) (dy : Int32) (sd : Int32) (f : Nat → Nat → Int32)  : zM g l yX9_peopleHere (Cond.code yX9_peopleHere cX9_peopleHere 3 (some .int) :: zB) ({ frames := 0, cells := 0, slots := 0, locals := 0 } : Room) [.ref o] [bTown g o a 0 0 tx ch jo tr dy sd f] (fun _ : Unit => some (.int 0)) (fun _ : Unit => True) (fun _ : Unit => [bTown g o a 0 0 tx ch jo tr dy sd f]) := by
  refine zM.of (cc := cX9_peopleHere) (maxL := 3) (rt := (some .int)) (by decide) rfl (Nat.le_of_ble_eq_true rfl) ?_
  intro p e s m args below meth c A ls St hr hlocks hin hK hT hA hP hD hS hl
  obtain ⟨hx, hb, hml, hown, hts⟩ := id St
  have hl : lv_has ls 3 [(0, .ref o)] := hl
  refine lv_iconst (v := 0) hx hb dX9_peopleHere_0 (by decide) ?_
  refine lv_istore_n (lv' := [(1, .int 0), (0, .ref o)]) hx hb dX9_peopleHere_1 rfl hl (by decide) rfl (fun ls hl => ?_)
  refine lv_iconst (v := 0) hx hb dX9_peopleHere_2 (by decide) ?_
  refine lv_istore_n (lv' := [(2, .int 0), (1, .int 0), (0, .ref o)]) hx hb dX9_peopleHere_3 rfl hl (by decide) rfl (fun ls hl => ?_)
  refine lv_iload_n hx hb dX9_peopleHere_4 rfl (lv_at hl 0 rfl) ?_
  refine lv_aload_n hx hb dX9_peopleHere_5 rfl (lv_at hl 2 rfl) ?_
  refine va_get (D := g.1) (ci := 7) (v := .int 0) (C := RX9) (T := TX9) (N := 19) hx hb hts izRX9 hown hK hP 0 rfl rfl 0 (by decide) (hts _ k31) (fun _ h9 => h9) rfl dX9_peopleHere_6 ?_
  refine lv_icmp_ge (tgt := 32) hx hb dX9_peopleHere_9 (by decide) (fun _ => ?_) (fun c1 => absurd (by decide) c1)
  refine lv_iload_n hx hb dX9_peopleHere_32 rfl (lv_at hl 1 rfl) ?_
  have hP : va_P g.1 vwCl (List.flatten [bTown g o a 0 0 tx ch jo tr dy sd f]) s.heap := hP
  have hD : va_D A (List.flatten [bTown g o a 0 0 tx ch jo tr dy sd f]) := hD
  exact mret_i hx hb hr hlocks hS (Nat.le_of_ble_eq_true rfl) (Nat.le_of_ble_eq_true rfl) dX9_peopleHere_33 () rfl trivial hP hD
set_option maxRecDepth 100000 in
set_option maxHeartbeats 4000000 in
theorem c_believed (l : Launch) (g : zG) (o : Nat) (a : Nat → Nat) (tx : Int32) (ch : Int32) (jo : Int32) (tr : Int32) (dy : Int32) (sd : Int32) (f : Nat → Nat → Int32)  : zM g l yX9_believed (Cond.code yX9_believed cX9_believed 3 (some .int) :: zB) ({ frames := 0, cells := 0, slots := 0, locals := 0 } : Room) [.ref o] [bTown g o a 0 0 tx ch jo tr dy sd f] (fun _ : Unit => some (.int 0)) (fun _ : Unit => True) (fun _ : Unit => [bTown g o a 0 0 tx ch jo tr dy sd f]) := by
  refine zM.of (cc := cX9_believed) (maxL := 3) (rt := (some .int)) (by decide) rfl (Nat.le_of_ble_eq_true rfl) ?_
  intro p e s m args below meth c A ls St hr hlocks hin hK hT hA hP hD hS hl
  obtain ⟨hx, hb, hml, hown, hts⟩ := id St
  have hl : lv_has ls 3 [(0, .ref o)] := hl
  refine lv_iconst (v := 0) hx hb dX9_believed_0 (by decide) ?_
  refine lv_istore_n (lv' := [(1, .int 0), (0, .ref o)]) hx hb dX9_believed_1 rfl hl (by decide) rfl (fun ls hl => ?_)
  refine lv_iconst (v := 0) hx hb dX9_believed_2 (by decide) ?_
  refine lv_istore_n (lv' := [(2, .int 0), (1, .int 0), (0, .ref o)]) hx hb dX9_believed_3 rfl hl (by decide) rfl (fun ls hl => ?_)
  refine lv_iload_n hx hb dX9_believed_4 rfl (lv_at hl 0 rfl) ?_
  refine lv_aload_n hx hb dX9_believed_5 rfl (lv_at hl 2 rfl) ?_
  refine va_get (D := g.1) (ci := 7) (v := .int 0) (C := RX9) (T := TX9) (N := 19) hx hb hts izRX9 hown hK hP 0 rfl rfl 0 (by decide) (hts _ k31) (fun _ h9 => h9) rfl dX9_believed_6 ?_
  refine lv_icmp_ge (tgt := 35) hx hb dX9_believed_9 (by decide) (fun _ => ?_) (fun c1 => absurd (by decide) c1)
  refine lv_iload_n hx hb dX9_believed_35 rfl (lv_at hl 1 rfl) ?_
  have hP : va_P g.1 vwCl (List.flatten [bTown g o a 0 0 tx ch jo tr dy sd f]) s.heap := hP
  have hD : va_D A (List.flatten [bTown g o a 0 0 tx ch jo tr dy sd f]) := hD
  exact mret_i hx hb hr hlocks hS (Nat.le_of_ble_eq_true rfl) (Nat.le_of_ble_eq_true rfl) dX9_believed_36 () rfl trivial hP hD
set_option maxRecDepth 100000 in
set_option maxHeartbeats 4000000 in
theorem c_meanBelief (l : Launch) (g : zG) (o : Nat) (a : Nat → Nat) (tx : Int32) (ch : Int32) (jo : Int32) (tr : Int32) (dy : Int32) (sd : Int32) (f : Nat → Nat → Int32)  : zM g l yX9_meanBelief (Cond.code yX9_meanBelief cX9_meanBelief 2 (some .int) :: zB) ({ frames := 1, cells := 0, slots := 0, locals := 22 } : Room) [.ref o] [bTown g o a 0 0 tx ch jo tr dy sd f] (fun _ : Unit => some (.int 0)) (fun _ : Unit => True) (fun _ : Unit => [bTown g o a 0 0 tx ch jo tr dy sd f]) := by
  refine zM.of (cc := cX9_meanBelief) (maxL := 2) (rt := (some .int)) (by decide) rfl (Nat.le_of_ble_eq_true rfl) ?_
  intro p e s m args below meth c A ls St hr hlocks hin hK hT hA hP hD hS hl
  obtain ⟨hx, hb, hml, hown, hts⟩ := id St
  have hl : lv_has ls 2 [(0, .ref o)] := hl
  refine lv_aload_n hx hb dX9_meanBelief_0 rfl (lv_at hl 0 rfl) ?_
  refine mcallV (g := g) (q0 := 0) (ci := 7) (As := []) (rest := []) St hK hT hA hP hD hS hl.1 [0] [] rfl rfl rfl (c_peopleHere l g o a tx ch jo tr dy sd f ) (cwV 0 hts (zgL (zl4 k50 k51 k52 k24) k39) rfl rfl rfl (by decide +kernel) ⟨Nat.le_of_ble_eq_true rfl, Nat.le_of_ble_eq_true rfl⟩) rfl rfl rfl rfl (Nat.le_of_ble_eq_true rfl) dX9_meanBelief_1 ⟨(Nat.le_of_ble_eq_true rfl), (Nat.le_of_ble_eq_true rfl)⟩ (fun _u H locs hq1 hP hD hS => ?_)
  have hP : va_P g.1 vwCl (List.flatten [bTown g o a 0 0 tx ch jo tr dy sd f]) H := hP
  have hD : va_D A (List.flatten [bTown g o a 0 0 tx ch jo tr dy sd f]) := hD
  refine W.widen (k := 0) (n := 0) (Nat.le_of_ble_eq_true rfl) (Nat.le_of_ble_eq_true rfl) ?_
  refine W.eq (g2 := F0 m 4 ls [.int 0]) rfl ?_
  refine mcallS (g := g) (As := [.int 0]) (rest := []) St hK hT hA hP hD hS hl.1 [] [0] rfl rfl rfl (c_bitCount0 l g  ) (va_cwS 1 hts (zgL (zl3 k53 k54 k55) k44) rfl rfl rfl (by decide +kernel) ⟨Nat.le_of_ble_eq_true rfl, Nat.le_of_ble_eq_true rfl⟩) rfl rfl (Nat.le_of_ble_eq_true rfl) dX9_meanBelief_4 ⟨(Nat.le_of_ble_eq_true rfl), (Nat.le_of_ble_eq_true rfl)⟩ (fun _u H locs hq2 hP hD hS => ?_)
  have hP : va_P g.1 vwCl (List.flatten [bTown g o a 0 0 tx ch jo tr dy sd f]) H := hP
  have hD : va_D A (List.flatten [bTown g o a 0 0 tx ch jo tr dy sd f]) := hD
  refine W.widen (k := 0) (n := 0) (Nat.le_of_ble_eq_true rfl) (Nat.le_of_ble_eq_true rfl) ?_
  refine W.eq (g2 := F0 m 7 ls [.int 0]) rfl ?_
  refine lv_istore_n (lv' := [(1, .int 0), (0, .ref o)]) hx hb dX9_meanBelief_7 rfl hl (by decide) rfl (fun ls hl => ?_)
  refine lv_iload_n hx hb dX9_meanBelief_8 rfl (lv_at hl 0 rfl) ?_
  refine lv_if_ne (tgt := 16) hx hb dX9_meanBelief_9 (by decide) (fun c3 => absurd (by decide) c3) (fun _ => ?_)
  refine lv_iconst (v := 0) hx hb dX9_meanBelief_12 (by decide) ?_
  refine lv_goto (tgt := 22) hx hb dX9_meanBelief_13 (by decide) ?_
  have hP : va_P g.1 vwCl (List.flatten [bTown g o a 0 0 tx ch jo tr dy sd f]) H := hP
  have hD : va_D A (List.flatten [bTown g o a 0 0 tx ch jo tr dy sd f]) := hD
  exact mret_i hx hb hr hlocks hS (Nat.le_of_ble_eq_true rfl) (Nat.le_of_ble_eq_true rfl) dX9_meanBelief_22 () rfl trivial hP hD
set_option maxRecDepth 100000 in
set_option maxHeartbeats 4000000 in
theorem c_sharePrice (l : Launch) (g : zG) (o : Nat) (a : Nat → Nat) (tx : Int32) (ch : Int32) (jo : Int32) (tr : Int32) (dy : Int32) (sd : Int32) (f : Nat → Nat → Int32)  : zM g l yX9_sharePrice (Cond.code yX9_sharePrice cX9_sharePrice 2 (some .int) :: zB) ({ frames := 2, cells := 0, slots := 0, locals := 43 } : Room) [.ref o] [bTown g o a 0 0 tx ch jo tr dy sd f] (fun _ : Unit => some (.int 1)) (fun _ : Unit => True) (fun _ : Unit => [bTown g o a 0 0 tx ch jo tr dy sd f]) := by
  refine zM.of (cc := cX9_sharePrice) (maxL := 2) (rt := (some .int)) (by decide) rfl (Nat.le_of_ble_eq_true rfl) ?_
  intro p e s m args below meth c A ls St hr hlocks hin hK hT hA hP hD hS hl
  obtain ⟨hx, hb, hml, hown, hts⟩ := id St
  have hl : lv_has ls 2 [(0, .ref o)] := hl
  refine lv_aload_n hx hb dX9_sharePrice_0 rfl (lv_at hl 0 rfl) ?_
  refine mcallV (g := g) (q0 := 0) (ci := 7) (As := []) (rest := []) St hK hT hA hP hD hS hl.1 [0] [] rfl rfl rfl (c_meanBelief l g o a tx ch jo tr dy sd f ) (cwV 0 hts (zgL (zl4 k64 k65 k66 k24) k49) rfl rfl rfl (by decide +kernel) ⟨Nat.le_of_ble_eq_true rfl, Nat.le_of_ble_eq_true rfl⟩) rfl rfl rfl rfl (Nat.le_of_ble_eq_true rfl) dX9_sharePrice_1 ⟨(Nat.le_of_ble_eq_true rfl), (Nat.le_of_ble_eq_true rfl)⟩ (fun _u H locs hq1 hP hD hS => ?_)
  have hP : va_P g.1 vwCl (List.flatten [bTown g o a 0 0 tx ch jo tr dy sd f]) H := hP
  have hD : va_D A (List.flatten [bTown g o a 0 0 tx ch jo tr dy sd f]) := hD
  refine W.widen (k := 0) (n := 0) (Nat.le_of_ble_eq_true rfl) (Nat.le_of_ble_eq_true rfl) ?_
  refine W.eq (g2 := F0 m 4 ls [.int 0]) rfl ?_
  refine lv_istore_n (lv' := [(1, .int 0), (0, .ref o)]) hx hb dX9_sharePrice_4 rfl hl (by decide) rfl (fun ls hl => ?_)
  refine lv_iload_n hx hb dX9_sharePrice_5 rfl (lv_at hl 0 rfl) ?_
  refine lv_iload_n hx hb dX9_sharePrice_6 rfl (lv_at hl 0 rfl) ?_
  refine lv_imul hx hb dX9_sharePrice_7 ?_
  refine ztop (r := 0) (by decide) ?_
  refine lv_bipush (v := 50) hx hb dX9_sharePrice_8 (by decide) ?_
  refine lv_idiv hx hb dX9_sharePrice_10 (by decide) ?_
  refine ztop (r := 0) (by decide) ?_
  refine lv_iconst (v := 1) hx hb dX9_sharePrice_11 (by decide) ?_
  refine lv_iadd hx hb dX9_sharePrice_12 ?_
  refine ztop (r := 1) (by decide) ?_
  have hP : va_P g.1 vwCl (List.flatten [bTown g o a 0 0 tx ch jo tr dy sd f]) H := hP
  have hD : va_D A (List.flatten [bTown g o a 0 0 tx ch jo tr dy sd f]) := hD
  exact mret_i hx hb hr hlocks hS (Nat.le_of_ble_eq_true rfl) (Nat.le_of_ble_eq_true rfl) dX9_sharePrice_13 () rfl trivial hP hD
set_option maxRecDepth 100000 in
set_option maxHeartbeats 4000000 in
theorem c_doubters (l : Launch) (g : zG) (o : Nat) (a : Nat → Nat) (tx : Int32) (ch : Int32) (jo : Int32) (tr : Int32) (dy : Int32) (sd : Int32) (f : Nat → Nat → Int32)  : zM g l yX9_doubters (Cond.code yX9_doubters cX9_doubters 3 (some .int) :: zB) ({ frames := 0, cells := 0, slots := 0, locals := 0 } : Room) [.ref o] [bTown g o a 0 0 tx ch jo tr dy sd f] (fun _ : Unit => some (.int 0)) (fun _ : Unit => True) (fun _ : Unit => [bTown g o a 0 0 tx ch jo tr dy sd f]) := by
  refine zM.of (cc := cX9_doubters) (maxL := 3) (rt := (some .int)) (by decide) rfl (Nat.le_of_ble_eq_true rfl) ?_
  intro p e s m args below meth c A ls St hr hlocks hin hK hT hA hP hD hS hl
  obtain ⟨hx, hb, hml, hown, hts⟩ := id St
  have hl : lv_has ls 3 [(0, .ref o)] := hl
  refine lv_iconst (v := 0) hx hb dX9_doubters_0 (by decide) ?_
  refine lv_istore_n (lv' := [(1, .int 0), (0, .ref o)]) hx hb dX9_doubters_1 rfl hl (by decide) rfl (fun ls hl => ?_)
  refine lv_iconst (v := 0) hx hb dX9_doubters_2 (by decide) ?_
  refine lv_istore_n (lv' := [(2, .int 0), (1, .int 0), (0, .ref o)]) hx hb dX9_doubters_3 rfl hl (by decide) rfl (fun ls hl => ?_)
  refine lv_iload_n hx hb dX9_doubters_4 rfl (lv_at hl 0 rfl) ?_
  refine lv_aload_n hx hb dX9_doubters_5 rfl (lv_at hl 2 rfl) ?_
  refine va_get (D := g.1) (ci := 7) (v := .int 0) (C := RX9) (T := TX9) (N := 19) hx hb hts izRX9 hown hK hP 0 rfl rfl 0 (by decide) (hts _ k31) (fun _ h9 => h9) rfl dX9_doubters_6 ?_
  refine lv_icmp_ge (tgt := 43) hx hb dX9_doubters_9 (by decide) (fun _ => ?_) (fun c1 => absurd (by decide) c1)
  refine lv_iload_n hx hb dX9_doubters_43 rfl (lv_at hl 1 rfl) ?_
  have hP : va_P g.1 vwCl (List.flatten [bTown g o a 0 0 tx ch jo tr dy sd f]) s.heap := hP
  have hD : va_D A (List.flatten [bTown g o a 0 0 tx ch jo tr dy sd f]) := hD
  exact mret_i hx hb hr hlocks hS (Nat.le_of_ble_eq_true rfl) (Nat.le_of_ble_eq_true rfl) dX9_doubters_44 () rfl trivial hP hD
set_option maxRecDepth 100000 in
set_option maxHeartbeats 4000000 in
theorem c_isRuined (l : Launch) (g : zG) (o : Nat) (a : Nat → Nat) (tx : Int32) (ch : Int32) (jo : Int32) (tr : Int32) (dy : Int32) (sd : Int32) (f : Nat → Nat → Int32)  : zM g l yX9_isRuined (Cond.code yX9_isRuined cX9_isRuined 2 (some .boolean) :: zB) ({ frames := 1, cells := 0, slots := 0, locals := 22 } : Room) [.ref o] [bTown g o a 0 0 tx ch jo tr dy sd f] (fun _ : Unit => some (.int 0)) (fun _ : Unit => True) (fun _ : Unit => [bTown g o a 0 0 tx ch jo tr dy sd f]) := by
  refine zM.of (cc := cX9_isRuined) (maxL := 2) (rt := (some .boolean)) (by decide) rfl (Nat.le_of_ble_eq_true rfl) ?_
  intro p e s m args below meth c A ls St hr hlocks hin hK hT hA hP hD hS hl
  obtain ⟨hx, hb, hml, hown, hts⟩ := id St
  have hl : lv_has ls 2 [(0, .ref o)] := hl
  refine lv_aload_n hx hb dX9_isRuined_0 rfl (lv_at hl 0 rfl) ?_
  refine mcallV (g := g) (q0 := 0) (ci := 7) (As := []) (rest := []) St hK hT hA hP hD hS hl.1 [0] [] rfl rfl rfl (c_peopleHere l g o a tx ch jo tr dy sd f ) (cwV 0 hts (zgL (zl4 k50 k51 k52 k24) k39) rfl rfl rfl (by decide +kernel) ⟨Nat.le_of_ble_eq_true rfl, Nat.le_of_ble_eq_true rfl⟩) rfl rfl rfl rfl (Nat.le_of_ble_eq_true rfl) dX9_isRuined_1 ⟨(Nat.le_of_ble_eq_true rfl), (Nat.le_of_ble_eq_true rfl)⟩ (fun _u H locs hq1 hP hD hS => ?_)
  have hP : va_P g.1 vwCl (List.flatten [bTown g o a 0 0 tx ch jo tr dy sd f]) H := hP
  have hD : va_D A (List.flatten [bTown g o a 0 0 tx ch jo tr dy sd f]) := hD
  refine W.widen (k := 0) (n := 0) (Nat.le_of_ble_eq_true rfl) (Nat.le_of_ble_eq_true rfl) ?_
  refine W.eq (g2 := F0 m 4 ls [.int 0]) rfl ?_
  refine mcallS (g := g) (As := [.int 0]) (rest := []) St hK hT hA hP hD hS hl.1 [] [0] rfl rfl rfl (c_bitCount0 l g  ) (va_cwS 1 hts (zgL (zl3 k53 k54 k55) k44) rfl rfl rfl (by decide +kernel) ⟨Nat.le_of_ble_eq_true rfl, Nat.le_of_ble_eq_true rfl⟩) rfl rfl (Nat.le_of_ble_eq_true rfl) dX9_isRuined_4 ⟨(Nat.le_of_ble_eq_true rfl), (Nat.le_of_ble_eq_true rfl)⟩ (fun _u H locs hq2 hP hD hS => ?_)
  have hP : va_P g.1 vwCl (List.flatten [bTown g o a 0 0 tx ch jo tr dy sd f]) H := hP
  have hD : va_D A (List.flatten [bTown g o a 0 0 tx ch jo tr dy sd f]) := hD
  refine W.widen (k := 0) (n := 0) (Nat.le_of_ble_eq_true rfl) (Nat.le_of_ble_eq_true rfl) ?_
  refine W.eq (g2 := F0 m 7 ls [.int 0]) rfl ?_
  refine lv_istore_n (lv' := [(1, .int 0), (0, .ref o)]) hx hb dX9_isRuined_7 rfl hl (by decide) rfl (fun ls hl => ?_)
  refine lv_iload_n hx hb dX9_isRuined_8 rfl (lv_at hl 0 rfl) ?_
  refine lv_if_le (tgt := 31) hx hb dX9_isRuined_9 (by decide) (fun _ => ?_) (fun c3 => absurd (by decide) c3)
  refine lv_iconst (v := 0) hx hb dX9_isRuined_31 (by decide) ?_
  have hP : va_P g.1 vwCl (List.flatten [bTown g o a 0 0 tx ch jo tr dy sd f]) H := hP
  have hD : va_D A (List.flatten [bTown g o a 0 0 tx ch jo tr dy sd f]) := hD
  exact mret_z hx hb hr hlocks hS (Nat.le_of_ble_eq_true rfl) (Nat.le_of_ble_eq_true rfl) dX9_isRuined_32 () rfl (by decide) trivial hP hD
set_option maxRecDepth 100000 in
set_option maxHeartbeats 4000000 in
theorem c_worksIn (l : Launch) (g : zG) (o : Nat) (a : Nat → Nat) (tx : Int32) (ch : Int32) (jo : Int32) (tr : Int32) (dy : Int32) (sd : Int32) (f : Nat → Nat → Int32) (which : Int32)  : zM g l yX9_worksIn (Cond.code yX9_worksIn cX9_worksIn 4 (some .int) :: zB) ({ frames := 0, cells := 0, slots := 0, locals := 0 } : Room) [.ref o, .int which] [bTown g o a 0 0 tx ch jo tr dy sd f] (fun _ : Unit => some (.int 0)) (fun _ : Unit => True) (fun _ : Unit => [bTown g o a 0 0 tx ch jo tr dy sd f]) := by
  refine zM.of (cc := cX9_worksIn) (maxL := 4) (rt := (some .int)) (by decide) rfl (Nat.le_of_ble_eq_true rfl) ?_
  intro p e s m args below meth c A ls St hr hlocks hin hK hT hA hP hD hS hl
  obtain ⟨hx, hb, hml, hown, hts⟩ := id St
  have hl : lv_has ls 4 [(0, .ref o), (1, .int which)] := hl
  refine lv_iconst (v := 0) hx hb dX9_worksIn_0 (by decide) ?_
  refine lv_istore_n (lv' := [(2, .int 0), (0, .ref o), (1, .int which)]) hx hb dX9_worksIn_1 rfl hl (by decide) rfl (fun ls hl => ?_)
  refine lv_iconst (v := 0) hx hb dX9_worksIn_2 (by decide) ?_
  refine lv_istore_n (lv' := [(3, .int 0), (2, .int 0), (0, .ref o), (1, .int which)]) hx hb dX9_worksIn_3 rfl hl (by decide) rfl (fun ls hl => ?_)
  refine lv_iload_n hx hb dX9_worksIn_4 rfl (lv_at hl 0 rfl) ?_
  refine lv_aload_n hx hb dX9_worksIn_5 rfl (lv_at hl 2 rfl) ?_
  refine va_get (D := g.1) (ci := 7) (v := .int 0) (C := RX9) (T := TX9) (N := 19) hx hb hts izRX9 hown hK hP 0 rfl rfl 1 (by decide) (hts _ k32) (fun _ h9 => h9) rfl dX9_worksIn_6 ?_
  refine lv_icmp_ge (tgt := 34) hx hb dX9_worksIn_9 (by decide) (fun _ => ?_) (fun c1 => absurd (by decide) c1)
  refine lv_iload_n hx hb dX9_worksIn_34 rfl (lv_at hl 1 rfl) ?_
  have hP : va_P g.1 vwCl (List.flatten [bTown g o a 0 0 tx ch jo tr dy sd f]) s.heap := hP
  have hD : va_D A (List.flatten [bTown g o a 0 0 tx ch jo tr dy sd f]) := hD
  exact mret_i hx hb hr hlocks hS (Nat.le_of_ble_eq_true rfl) (Nat.le_of_ble_eq_true rfl) dX9_worksIn_35 () rfl trivial hP hD
set_option maxRecDepth 100000 in
set_option maxHeartbeats 4000000 in
theorem c_firstComing (l : Launch) (g : zG) (o : Nat) (a : Nat → Nat) (tx : Int32) (ch : Int32) (jo : Int32) (tr : Int32) (dy : Int32) (sd : Int32) (f : Nat → Nat → Int32)  : zM g l yX9_firstComing (Cond.code yX9_firstComing cX9_firstComing 3 (some .int) :: zB) ({ frames := 0, cells := 0, slots := 0, locals := 0 } : Room) [.ref o] [bTown g o a 0 0 tx ch jo tr dy sd f] (fun _ : Unit => some (.int (-1))) (fun _ : Unit => True) (fun _ : Unit => [bTown g o a 0 0 tx ch jo tr dy sd f]) := by
  refine zM.of (cc := cX9_firstComing) (maxL := 3) (rt := (some .int)) (by decide) rfl (Nat.le_of_ble_eq_true rfl) ?_
  intro p e s m args below meth c A ls St hr hlocks hin hK hT hA hP hD hS hl
  obtain ⟨hx, hb, hml, hown, hts⟩ := id St
  have hl : lv_has ls 3 [(0, .ref o)] := hl
  refine lv_iconst (v := (-1)) hx hb dX9_firstComing_0 (by decide) ?_
  refine lv_istore_n (lv' := [(1, .int (-1)), (0, .ref o)]) hx hb dX9_firstComing_1 rfl hl (by decide) rfl (fun ls hl => ?_)
  refine lv_iconst (v := 0) hx hb dX9_firstComing_2 (by decide) ?_
  refine lv_istore_n (lv' := [(2, .int 0), (1, .int (-1)), (0, .ref o)]) hx hb dX9_firstComing_3 rfl hl (by decide) rfl (fun ls hl => ?_)
  refine lv_iload_n hx hb dX9_firstComing_4 rfl (lv_at hl 0 rfl) ?_
  refine lv_aload_n hx hb dX9_firstComing_5 rfl (lv_at hl 2 rfl) ?_
  refine va_get (D := g.1) (ci := 7) (v := .int 0) (C := RX9) (T := TX9) (N := 19) hx hb hts izRX9 hown hK hP 0 rfl rfl 0 (by decide) (hts _ k31) (fun _ h9 => h9) rfl dX9_firstComing_6 ?_
  refine lv_icmp_ge (tgt := 48) hx hb dX9_firstComing_9 (by decide) (fun _ => ?_) (fun c1 => absurd (by decide) c1)
  refine lv_iload_n hx hb dX9_firstComing_48 rfl (lv_at hl 1 rfl) ?_
  refine lv_iconst (v := (-1)) hx hb dX9_firstComing_49 (by decide) ?_
  refine lv_icmp_eq (tgt := 60) hx hb dX9_firstComing_50 (by decide) (fun _ => ?_) (fun c2 => absurd (by decide) c2)
  refine lv_iconst (v := (-1)) hx hb dX9_firstComing_60 (by decide) ?_
  refine lv_goto (tgt := 72) hx hb dX9_firstComing_61 (by decide) ?_
  have hP : va_P g.1 vwCl (List.flatten [bTown g o a 0 0 tx ch jo tr dy sd f]) s.heap := hP
  have hD : va_D A (List.flatten [bTown g o a 0 0 tx ch jo tr dy sd f]) := hD
  exact mret_i hx hb hr hlocks hS (Nat.le_of_ble_eq_true rfl) (Nat.le_of_ble_eq_true rfl) dX9_firstComing_72 () rfl trivial hP hD
set_option maxRecDepth 100000 in
set_option maxHeartbeats 4000000 in
theorem c_sharesOfAll (l : Launch) (g : zG) (o : Nat) (a : Nat → Nat) (tx : Int32) (ch : Int32) (jo : Int32) (tr : Int32) (dy : Int32) (sd : Int32) (f : Nat → Nat → Int32)  : zM g l yX9_sharesOfAll (Cond.code yX9_sharesOfAll cX9_sharesOfAll 3 (some .int) :: zB) ({ frames := 0, cells := 0, slots := 0, locals := 0 } : Room) [.ref o] [bTown g o a 0 0 tx ch jo tr dy sd f] (fun _ : Unit => some (.int 0)) (fun _ : Unit => True) (fun _ : Unit => [bTown g o a 0 0 tx ch jo tr dy sd f]) := by
  refine zM.of (cc := cX9_sharesOfAll) (maxL := 3) (rt := (some .int)) (by decide) rfl (Nat.le_of_ble_eq_true rfl) ?_
  intro p e s m args below meth c A ls St hr hlocks hin hK hT hA hP hD hS hl
  obtain ⟨hx, hb, hml, hown, hts⟩ := id St
  have hl : lv_has ls 3 [(0, .ref o)] := hl
  refine lv_iconst (v := 0) hx hb dX9_sharesOfAll_0 (by decide) ?_
  refine lv_istore_n (lv' := [(1, .int 0), (0, .ref o)]) hx hb dX9_sharesOfAll_1 rfl hl (by decide) rfl (fun ls hl => ?_)
  refine lv_iconst (v := 0) hx hb dX9_sharesOfAll_2 (by decide) ?_
  refine lv_istore_n (lv' := [(2, .int 0), (1, .int 0), (0, .ref o)]) hx hb dX9_sharesOfAll_3 rfl hl (by decide) rfl (fun ls hl => ?_)
  refine lv_iload_n hx hb dX9_sharesOfAll_4 rfl (lv_at hl 0 rfl) ?_
  refine lv_aload_n hx hb dX9_sharesOfAll_5 rfl (lv_at hl 2 rfl) ?_
  refine va_get (D := g.1) (ci := 7) (v := .int 0) (C := RX9) (T := TX9) (N := 19) hx hb hts izRX9 hown hK hP 0 rfl rfl 0 (by decide) (hts _ k31) (fun _ h9 => h9) rfl dX9_sharesOfAll_6 ?_
  refine lv_icmp_ge (tgt := 27) hx hb dX9_sharesOfAll_9 (by decide) (fun _ => ?_) (fun c1 => absurd (by decide) c1)
  refine lv_iload_n hx hb dX9_sharesOfAll_27 rfl (lv_at hl 1 rfl) ?_
  have hP : va_P g.1 vwCl (List.flatten [bTown g o a 0 0 tx ch jo tr dy sd f]) s.heap := hP
  have hD : va_D A (List.flatten [bTown g o a 0 0 tx ch jo tr dy sd f]) := hD
  exact mret_i hx hb hr hlocks hS (Nat.le_of_ble_eq_true rfl) (Nat.le_of_ble_eq_true rfl) dX9_sharesOfAll_28 () rfl trivial hP hD
set_option maxRecDepth 100000 in
set_option maxHeartbeats 4000000 in
theorem c_gainOf (l : Launch) (g : zG) (o : Nat) (a : Nat → Nat) (tx : Int32) (ch : Int32) (jo : Int32) (tr : Int32) (dy : Int32) (sd : Int32) (f : Nat → Nat → Int32) (set : Int32)  : zM g l yX9_gainOf (Cond.code yX9_gainOf cX9_gainOf 4 (some .int) :: zB) ({ frames := 0, cells := 0, slots := 0, locals := 0 } : Room) [.ref o, .int set] [bTown g o a 0 0 tx ch jo tr dy sd f] (fun _ : Unit => some (.int 0)) (fun _ : Unit => True) (fun _ : Unit => [bTown g o a 0 0 tx ch jo tr dy sd f]) := by
  refine zM.of (cc := cX9_gainOf) (maxL := 4) (rt := (some .int)) (by decide) rfl (Nat.le_of_ble_eq_true rfl) ?_
  intro p e s m args below meth c A ls St hr hlocks hin hK hT hA hP hD hS hl
  obtain ⟨hx, hb, hml, hown, hts⟩ := id St
  have hl : lv_has ls 4 [(0, .ref o), (1, .int set)] := hl
  refine lv_iconst (v := 0) hx hb dX9_gainOf_0 (by decide) ?_
  refine lv_istore_n (lv' := [(2, .int 0), (0, .ref o), (1, .int set)]) hx hb dX9_gainOf_1 rfl hl (by decide) rfl (fun ls hl => ?_)
  refine lv_iconst (v := 0) hx hb dX9_gainOf_2 (by decide) ?_
  refine lv_istore_n (lv' := [(3, .int 0), (2, .int 0), (0, .ref o), (1, .int set)]) hx hb dX9_gainOf_3 rfl hl (by decide) rfl (fun ls hl => ?_)
  refine lv_iload_n hx hb dX9_gainOf_4 rfl (lv_at hl 0 rfl) ?_
  refine lv_aload_n hx hb dX9_gainOf_5 rfl (lv_at hl 2 rfl) ?_
  refine va_get (D := g.1) (ci := 7) (v := .int 0) (C := RX9) (T := TX9) (N := 19) hx hb hts izRX9 hown hK hP 0 rfl rfl 1 (by decide) (hts _ k32) (fun _ h9 => h9) rfl dX9_gainOf_6 ?_
  refine lv_icmp_ge (tgt := 35) hx hb dX9_gainOf_9 (by decide) (fun _ => ?_) (fun c1 => absurd (by decide) c1)
  refine lv_iload_n hx hb dX9_gainOf_35 rfl (lv_at hl 1 rfl) ?_
  have hP : va_P g.1 vwCl (List.flatten [bTown g o a 0 0 tx ch jo tr dy sd f]) s.heap := hP
  have hD : va_D A (List.flatten [bTown g o a 0 0 tx ch jo tr dy sd f]) := hD
  exact mret_i hx hb hr hlocks hS (Nat.le_of_ble_eq_true rfl) (Nat.le_of_ble_eq_true rfl) dX9_gainOf_36 () rfl trivial hP hD
set_option maxRecDepth 100000 in
set_option maxHeartbeats 4000000 in
theorem c_bestWorks (l : Launch) (g : zG) (o : Nat) (a : Nat → Nat) (tx : Int32) (ch : Int32) (jo : Int32) (tr : Int32) (dy : Int32) (sd : Int32) (f : Nat → Nat → Int32)  : zM g l yX9_bestWorks (Cond.code yX9_bestWorks cX9_bestWorks 3 (some .int) :: zB) ({ frames := 0, cells := 0, slots := 0, locals := 0 } : Room) [.ref o] [bTown g o a 0 0 tx ch jo tr dy sd f] (fun _ : Unit => some (.int 0)) (fun _ : Unit => True) (fun _ : Unit => [bTown g o a 0 0 tx ch jo tr dy sd f]) := by
  refine zM.of (cc := cX9_bestWorks) (maxL := 3) (rt := (some .int)) (by decide) rfl (Nat.le_of_ble_eq_true rfl) ?_
  intro p e s m args below meth c A ls St hr hlocks hin hK hT hA hP hD hS hl
  obtain ⟨hx, hb, hml, hown, hts⟩ := id St
  have hl : lv_has ls 3 [(0, .ref o)] := hl
  refine lv_iconst (v := 0) hx hb dX9_bestWorks_0 (by decide) ?_
  refine lv_istore_n (lv' := [(1, .int 0), (0, .ref o)]) hx hb dX9_bestWorks_1 rfl hl (by decide) rfl (fun ls hl => ?_)
  refine lv_iconst (v := 1) hx hb dX9_bestWorks_2 (by decide) ?_
  refine lv_istore_n (lv' := [(2, .int 1), (1, .int 0), (0, .ref o)]) hx hb dX9_bestWorks_3 rfl hl (by decide) rfl (fun ls hl => ?_)
  refine lv_iload_n hx hb dX9_bestWorks_4 rfl (lv_at hl 0 rfl) ?_
  refine lv_iconst (v := 1) hx hb dX9_bestWorks_5 (by decide) ?_
  refine lv_aload_n hx hb dX9_bestWorks_6 rfl (lv_at hl 2 rfl) ?_
  refine va_get (D := g.1) (ci := 7) (v := .int 0) (C := RX9) (T := TX9) (N := 19) hx hb hts izRX9 hown hK hP 0 rfl rfl 1 (by decide) (hts _ k32) (fun _ h9 => h9) rfl dX9_bestWorks_7 ?_
  refine lv_ishl hx hb dX9_bestWorks_10 ?_
  refine ztop (r := 1) (by decide) ?_
  refine lv_icmp_ge (tgt := 43) hx hb dX9_bestWorks_11 (by decide) (fun _ => ?_) (fun c1 => absurd (by decide) c1)
  refine lv_iload_n hx hb dX9_bestWorks_43 rfl (lv_at hl 1 rfl) ?_
  have hP : va_P g.1 vwCl (List.flatten [bTown g o a 0 0 tx ch jo tr dy sd f]) s.heap := hP
  have hD : va_D A (List.flatten [bTown g o a 0 0 tx ch jo tr dy sd f]) := hD
  exact mret_i hx hb hr hlocks hS (Nat.le_of_ble_eq_true rfl) (Nat.le_of_ble_eq_true rfl) dX9_bestWorks_44 () rfl trivial hP hD
set_option maxRecDepth 100000 in
set_option maxHeartbeats 4000000 in
theorem c_look (l : Launch) (g : zG) (lo : Nat) (ac : Nat) (ls0 : Int32) (ll : Int32) (lm : Int32) (lg : Int32) (ld : Int32) (fc : Nat → Int32) (x : Int32) (y : Int32) (z : Int32)  : zM g l yX1_look (Cond.code yX1_look cX1_look 4 none :: zB) ({ frames := 0, cells := 0, slots := 0, locals := 0 } : Room) [.ref lo, .int x, .int y, .int z] [bLaw g lo ac ls0 ll lm lg ld fc] (fun _ : Unit => none) (fun _ : Unit => True) (fun _ : Unit => [bLaw g lo ac ls0 ll x y z fc]) := by
  refine zM.of (cc := cX1_look) (maxL := 4) (rt := none) (by decide) rfl (Nat.le_of_ble_eq_true rfl) ?_
  intro p e s m args below meth c A ls St hr hlocks hin hK hT hA hP hD hS hl
  obtain ⟨hx, hb, hml, hown, hts⟩ := id St
  have hl : lv_has ls 4 [(0, .ref lo), (1, .int x), (2, .int y), (3, .int z)] := hl
  refine lv_aload_n hx hb dX1_look_0 rfl (lv_at hl 0 rfl) ?_
  refine lv_iload_n hx hb dX1_look_1 rfl (lv_at hl 1 rfl) ?_
  refine va_put (D := g.1) (ci := 1) (v := .int x) (ty := .int) (C := RX1) (T := TX1) (N := 6) hx hb hts izRX1 tyX1 tyX1_ok nmX1 hown hK hP hD hS 0 rfl rfl 3 (by decide) (hts _ k61) (fun _ h9 => h9) rfl (by decide +kernel) rfl rfl (Nat.le_of_ble_eq_true rfl) dX1_look_2 (fun H locs hP hD hS => ?_)
  have hP : va_P g.1 vwCl (List.flatten [[(lo, .inr (1, [.ref ac, .int ls0, .int ll, .int x, .int lg, .int ld])), (ac, .inl (g.2 0, 400, .inl fc))]]) H := hP
  have hD : va_D A (List.flatten [[(lo, .inr (1, [.ref ac, .int ls0, .int ll, .int x, .int lg, .int ld])), (ac, .inl (g.2 0, 400, .inl fc))]]) := hD
  refine lv_aload_n hx hb dX1_look_5 rfl (lv_at hl 0 rfl) ?_
  refine lv_iload_n hx hb dX1_look_6 rfl (lv_at hl 2 rfl) ?_
  refine va_put (D := g.1) (ci := 1) (v := .int y) (ty := .int) (C := RX1) (T := TX1) (N := 6) hx hb hts izRX1 tyX1 tyX1_ok nmX1 hown hK hP hD hS 0 rfl rfl 4 (by decide) (hts _ k62) (fun _ h9 => h9) rfl (by decide +kernel) rfl rfl (Nat.le_of_ble_eq_true rfl) dX1_look_7 (fun H locs hP hD hS => ?_)
  have hP : va_P g.1 vwCl (List.flatten [[(lo, .inr (1, [.ref ac, .int ls0, .int ll, .int x, .int y, .int ld])), (ac, .inl (g.2 0, 400, .inl fc))]]) H := hP
  have hD : va_D A (List.flatten [[(lo, .inr (1, [.ref ac, .int ls0, .int ll, .int x, .int y, .int ld])), (ac, .inl (g.2 0, 400, .inl fc))]]) := hD
  refine lv_aload_n hx hb dX1_look_10 rfl (lv_at hl 0 rfl) ?_
  refine lv_iload_n hx hb dX1_look_11 rfl (lv_at hl 3 rfl) ?_
  refine va_put (D := g.1) (ci := 1) (v := .int z) (ty := .int) (C := RX1) (T := TX1) (N := 6) hx hb hts izRX1 tyX1 tyX1_ok nmX1 hown hK hP hD hS 0 rfl rfl 5 (by decide) (hts _ k63) (fun _ h9 => h9) rfl (by decide +kernel) rfl rfl (Nat.le_of_ble_eq_true rfl) dX1_look_12 (fun H locs hP hD hS => ?_)
  have hP : va_P g.1 vwCl (List.flatten [[(lo, .inr (1, [.ref ac, .int ls0, .int ll, .int x, .int y, .int z])), (ac, .inl (g.2 0, 400, .inl fc))]]) H := hP
  have hD : va_D A (List.flatten [[(lo, .inr (1, [.ref ac, .int ls0, .int ll, .int x, .int y, .int z])), (ac, .inl (g.2 0, 400, .inl fc))]]) := hD
  have hP : va_P g.1 vwCl (List.flatten [bLaw g lo ac ls0 ll x y z fc]) H := hP
  have hD : va_D A (List.flatten [bLaw g lo ac ls0 ll x y z fc]) := hD
  exact mret_v hx hb hr hlocks hS (Nat.le_of_ble_eq_true rfl) (Nat.le_of_ble_eq_true rfl) dX1_look_15 () rfl trivial hP hD
set_option maxRecDepth 100000 in
set_option maxHeartbeats 4000000 in
theorem c_Law_clear (l : Launch) (g : zG) (lo : Nat) (ac : Nat) (ls0 : Int32) (ll : Int32) (lm : Int32) (lg : Int32) (ld : Int32) (fc : Nat → Int32)  : zM g l yX1_clear (Cond.code yX1_clear cX1_clear 1 none :: zB) ({ frames := 0, cells := 0, slots := 0, locals := 0 } : Room) [.ref lo] [bLaw g lo ac ls0 ll lm lg ld fc] (fun _ : Unit => none) (fun _ : Unit => True) (fun _ : Unit => [bLaw g lo ac 0 (-1) lm lg ld fc]) := by
  refine zM.of (cc := cX1_clear) (maxL := 1) (rt := none) (by decide) rfl (Nat.le_of_ble_eq_true rfl) ?_
  intro p e s m args below meth c A ls St hr hlocks hin hK hT hA hP hD hS hl
  obtain ⟨hx, hb, hml, hown, hts⟩ := id St
  have hl : lv_has ls 1 [(0, .ref lo)] := hl
  refine lv_aload_n hx hb dX1_clear_0 rfl (lv_at hl 0 rfl) ?_
  refine lv_iconst (v := 0) hx hb dX1_clear_1 (by decide) ?_
  refine va_put (D := g.1) (ci := 1) (v := .int 0) (ty := .int) (C := RX1) (T := TX1) (N := 6) hx hb hts izRX1 tyX1 tyX1_ok nmX1 hown hK hP hD hS 0 rfl rfl 1 (by decide) (hts _ k89) (fun _ h9 => h9) rfl (by decide +kernel) rfl rfl (Nat.le_of_ble_eq_true rfl) dX1_clear_2 (fun H locs hP hD hS => ?_)
  have hP : va_P g.1 vwCl (List.flatten [[(lo, .inr (1, [.ref ac, .int 0, .int ll, .int lm, .int lg, .int ld])), (ac, .inl (g.2 0, 400, .inl fc))]]) H := hP
  have hD : va_D A (List.flatten [[(lo, .inr (1, [.ref ac, .int 0, .int ll, .int lm, .int lg, .int ld])), (ac, .inl (g.2 0, 400, .inl fc))]]) := hD
  refine lv_aload_n hx hb dX1_clear_5 rfl (lv_at hl 0 rfl) ?_
  refine lv_iconst (v := (-1)) hx hb dX1_clear_6 (by decide) ?_
  refine va_put (D := g.1) (ci := 1) (v := .int (-1)) (ty := .int) (C := RX1) (T := TX1) (N := 6) hx hb hts izRX1 tyX1 tyX1_ok nmX1 hown hK hP hD hS 0 rfl rfl 2 (by decide) (hts _ k87) (fun _ h9 => h9) rfl (by decide +kernel) rfl rfl (Nat.le_of_ble_eq_true rfl) dX1_clear_7 (fun H locs hP hD hS => ?_)
  have hP : va_P g.1 vwCl (List.flatten [[(lo, .inr (1, [.ref ac, .int 0, .int (-1), .int lm, .int lg, .int ld])), (ac, .inl (g.2 0, 400, .inl fc))]]) H := hP
  have hD : va_D A (List.flatten [[(lo, .inr (1, [.ref ac, .int 0, .int (-1), .int lm, .int lg, .int ld])), (ac, .inl (g.2 0, 400, .inl fc))]]) := hD
  have hP : va_P g.1 vwCl (List.flatten [bLaw g lo ac 0 (-1) lm lg ld fc]) H := hP
  have hD : va_D A (List.flatten [bLaw g lo ac 0 (-1) lm lg ld fc]) := hD
  exact mret_v hx hb hr hlocks hS (Nat.le_of_ble_eq_true rfl) (Nat.le_of_ble_eq_true rfl) dX1_clear_10 () rfl trivial hP hD
set_option maxRecDepth 100000 in
set_option maxHeartbeats 4000000 in
theorem c_showTo (l : Launch) (g : zG) (o : Nat) (a : Nat → Nat) (tx : Int32) (ch : Int32) (jo : Int32) (tr : Int32) (dy : Int32) (sd : Int32) (f : Nat → Nat → Int32) (lo : Nat) (ac : Nat) (ls0 : Int32) (ll : Int32) (lm : Int32) (lg : Int32) (ld : Int32) (fc : Nat → Int32)  : zM g l yX9_showTo (Cond.code yX9_showTo cX9_showTo 2 none :: zB) ({ frames := 2, cells := 0, slots := 0, locals := 43 } : Room) [.ref o, .ref lo] [bTown g o a 0 0 tx ch jo tr dy sd f, bLaw g lo ac ls0 ll lm lg ld fc] (fun _ : Unit => none) (fun _ : Unit => True) (fun _ : Unit => [bTown g o a 0 0 tx ch jo tr dy sd f, bLaw g lo ac ls0 ll 0 0 dy fc]) := by
  refine zM.of (cc := cX9_showTo) (maxL := 2) (rt := none) (by decide) rfl (Nat.le_of_ble_eq_true rfl) ?_
  intro p e s m args below meth c A ls St hr hlocks hin hK hT hA hP hD hS hl
  obtain ⟨hx, hb, hml, hown, hts⟩ := id St
  have hl : lv_has ls 2 [(0, .ref o), (1, .ref lo)] := hl
  refine lv_aload_n hx hb dX9_showTo_0 rfl (lv_at hl 1 rfl) ?_
  refine lv_aload_n hx hb dX9_showTo_1 rfl (lv_at hl 0 rfl) ?_
  refine mcallV (g := g) (q0 := 0) (ci := 7) (As := []) (rest := [.ref lo]) St hK hT hA hP hD hS hl.1 [0] [1] rfl rfl rfl (c_meanBelief l g o a tx ch jo tr dy sd f ) (cwV 0 hts (zgL (zl4 k64 k65 k66 k24) k49) rfl rfl rfl (by decide +kernel) ⟨Nat.le_of_ble_eq_true rfl, Nat.le_of_ble_eq_true rfl⟩) rfl rfl rfl rfl (Nat.le_of_ble_eq_true rfl) dX9_showTo_2 ⟨(Nat.le_of_ble_eq_true rfl), (Nat.le_of_ble_eq_true rfl)⟩ (fun _u H locs hq1 hP hD hS => ?_)
  have hP : va_P g.1 vwCl (List.flatten [bLaw g lo ac ls0 ll lm lg ld fc, bTown g o a 0 0 tx ch jo tr dy sd f]) H := hP
  have hD : va_D A (List.flatten [bLaw g lo ac ls0 ll lm lg ld fc, bTown g o a 0 0 tx ch jo tr dy sd f]) := hD
  refine W.widen (k := 0) (n := 0) (Nat.le_of_ble_eq_true rfl) (Nat.le_of_ble_eq_true rfl) ?_
  refine W.eq (g2 := F0 m 5 ls [.int 0, .ref lo]) rfl ?_
  refine lv_aload_n hx hb dX9_showTo_5 rfl (lv_at hl 0 rfl) ?_
  refine lv_iconst (v := 1) hx hb dX9_showTo_6 (by decide) ?_
  refine mcallV (g := g) (q0 := 0) (ci := 7) (As := [.int 1]) (rest := [.int 0, .ref lo]) St hK hT hA hP hD hS hl.1 [1] [0] rfl rfl rfl (c_worksIn l g o a tx ch jo tr dy sd f 1 ) (cwV 1 hts (zgL (zl4 k67 k68 k69 k24) k59) rfl rfl rfl (by decide +kernel) ⟨Nat.le_of_ble_eq_true rfl, Nat.le_of_ble_eq_true rfl⟩) rfl rfl rfl rfl (Nat.le_of_ble_eq_true rfl) dX9_showTo_7 ⟨(Nat.le_of_ble_eq_true rfl), (Nat.le_of_ble_eq_true rfl)⟩ (fun _u H locs hq2 hP hD hS => ?_)
  have hP : va_P g.1 vwCl (List.flatten [bLaw g lo ac ls0 ll lm lg ld fc, bTown g o a 0 0 tx ch jo tr dy sd f]) H := hP
  have hD : va_D A (List.flatten [bLaw g lo ac ls0 ll lm lg ld fc, bTown g o a 0 0 tx ch jo tr dy sd f]) := hD
  refine W.widen (k := 0) (n := 0) (Nat.le_of_ble_eq_true rfl) (Nat.le_of_ble_eq_true rfl) ?_
  refine W.eq (g2 := F0 m 10 ls [.int 0, .int 0, .ref lo]) rfl ?_
  refine mcallS (g := g) (As := [.int 0]) (rest := [.int 0, .ref lo]) St hK hT hA hP hD hS hl.1 [] [0, 1] rfl rfl rfl (c_bitCount0 l g  ) (va_cwS 1 hts (zgL (zl3 k53 k54 k55) k44) rfl rfl rfl (by decide +kernel) ⟨Nat.le_of_ble_eq_true rfl, Nat.le_of_ble_eq_true rfl⟩) rfl rfl (Nat.le_of_ble_eq_true rfl) dX9_showTo_10 ⟨(Nat.le_of_ble_eq_true rfl), (Nat.le_of_ble_eq_true rfl)⟩ (fun _u H locs hq3 hP hD hS => ?_)
  have hP : va_P g.1 vwCl (List.flatten [bLaw g lo ac ls0 ll lm lg ld fc, bTown g o a 0 0 tx ch jo tr dy sd f]) H := hP
  have hD : va_D A (List.flatten [bLaw g lo ac ls0 ll lm lg ld fc, bTown g o a 0 0 tx ch jo tr dy sd f]) := hD
  refine W.widen (k := 0) (n := 0) (Nat.le_of_ble_eq_true rfl) (Nat.le_of_ble_eq_true rfl) ?_
  refine W.eq (g2 := F0 m 13 ls [.int 0, .int 0, .ref lo]) rfl ?_
  refine lv_aload_n hx hb dX9_showTo_13 rfl (lv_at hl 0 rfl) ?_
  refine va_get (D := g.1) (ci := 7) (v := .int dy) (C := RX9) (T := TX9) (N := 19) hx hb hts izRX9 hown hK hP 2 rfl rfl 6 (by decide) (hts _ k34) (fun _ h9 => h9) rfl dX9_showTo_14 ?_
  refine mcallV (g := g) (q0 := 0) (ci := 1) (As := [.int 0, .int 0, .int dy]) (rest := []) St hK hT hA hP hD hS hl.1 [0] [1] rfl rfl rfl (c_look l g lo ac ls0 ll lm lg ld fc 0 0 dy ) (cwV 3 hts (zgL (zl4 k70 k71 k72 k73) k60) rfl rfl rfl (by decide +kernel) ⟨Nat.le_of_ble_eq_true rfl, Nat.le_of_ble_eq_true rfl⟩) rfl rfl rfl rfl (Nat.le_of_ble_eq_true rfl) dX9_showTo_17 ⟨(Nat.le_of_ble_eq_true rfl), (Nat.le_of_ble_eq_true rfl)⟩ (fun _u H locs hq4 hP hD hS => ?_)
  have hP : va_P g.1 vwCl (List.flatten [bTown g o a 0 0 tx ch jo tr dy sd f, bLaw g lo ac ls0 ll 0 0 dy fc]) H := hP
  have hD : va_D A (List.flatten [bTown g o a 0 0 tx ch jo tr dy sd f, bLaw g lo ac ls0 ll 0 0 dy fc]) := hD
  refine W.widen (k := 0) (n := 0) (Nat.le_of_ble_eq_true rfl) (Nat.le_of_ble_eq_true rfl) ?_
  refine W.eq (g2 := F0 m 20 ls []) rfl ?_
  have hP : va_P g.1 vwCl (List.flatten [bTown g o a 0 0 tx ch jo tr dy sd f, bLaw g lo ac ls0 ll 0 0 dy fc]) H := hP
  have hD : va_D A (List.flatten [bTown g o a 0 0 tx ch jo tr dy sd f, bLaw g lo ac ls0 ll 0 0 dy fc]) := hD
  exact mret_v hx hb hr hlocks hS (Nat.le_of_ble_eq_true rfl) (Nat.le_of_ble_eq_true rfl) dX9_showTo_20 () rfl trivial hP hD
set_option maxRecDepth 100000 in
set_option maxHeartbeats 4000000 in
theorem c_turnBeliefs (l : Launch) (g : zG) (o : Nat) (a : Nat → Nat) (tx : Int32) (ch : Int32) (jo : Int32) (tr : Int32) (dy : Int32) (sd : Int32) (f : Nat → Nat → Int32) (lo : Nat) (ac : Nat) (ls0 : Int32) (ll : Int32) (lm : Int32) (lg : Int32) (ld : Int32) (fc : Nat → Int32)  : zM g l yX9_turnBeliefs (Cond.code yX9_turnBeliefs cX9_turnBeliefs 3 none :: zB) ({ frames := 1, cells := 0, slots := 0, locals := 40 } : Room) [.ref o, .ref lo] [bTown g o a 0 0 tx ch jo tr dy sd f, bLaw g lo ac ls0 ll lm lg ld fc] (fun (f2 : Nat → Nat → Int32) => none) (fun (f2 : Nat → Nat → Int32) => f2 4 = f 4) (fun (f2 : Nat → Nat → Int32) => [bTown g o a 0 0 tx ch jo tr dy sd f2, bLaw g lo ac ls0 ll lm lg ld fc]) := by
  refine zM.of (cc := cX9_turnBeliefs) (maxL := 3) (rt := none) (by decide) rfl (Nat.le_of_ble_eq_true rfl) ?_
  intro p e s m args below meth c A ls St hr hlocks hin hK hT hA hP hD hS hl
  obtain ⟨hx, hb, hml, hown, hts⟩ := id St
  have hl : lv_has ls 3 [(0, .ref o), (1, .ref lo)] := hl
  refine lv_iconst (v := 0) hx hb dX9_turnBeliefs_0 (by decide) ?_
  refine lv_istore_n (lv' := [(2, .int 0), (0, .ref o), (1, .ref lo)]) hx hb dX9_turnBeliefs_1 rfl hl (by decide) rfl (fun ls hl => ?_)
  refine lv_iload_n hx hb dX9_turnBeliefs_2 rfl (lv_at hl 0 rfl) ?_
  refine lv_aload_n hx hb dX9_turnBeliefs_3 rfl (lv_at hl 1 rfl) ?_
  refine va_get (D := g.1) (ci := 7) (v := .int 0) (C := RX9) (T := TX9) (N := 19) hx hb hts izRX9 hown hK hP 0 rfl rfl 0 (by decide) (hts _ k31) (fun _ h9 => h9) rfl dX9_turnBeliefs_4 ?_
  refine lv_icmp_ge (tgt := 68) hx hb dX9_turnBeliefs_7 (by decide) (fun _ => ?_) (fun c1 => absurd (by decide) c1)
  refine lv_aload_n hx hb dX9_turnBeliefs_68 rfl (lv_at hl 1 rfl) ?_
  refine va_get (D := g.1) (ci := 7) (v := .ref (a 10)) (C := RX9) (T := TX9) (N := 19) hx hb hts izRX9 hown hK hP 0 rfl rfl 18 (by decide) (hts _ k20) (fun _ h9 => h9) rfl dX9_turnBeliefs_69 ?_
  refine lv_iconst (v := 0) hx hb dX9_turnBeliefs_72 (by decide) ?_
  refine lv_aload_n hx hb dX9_turnBeliefs_73 rfl (lv_at hl 1 rfl) ?_
  refine va_get (D := g.1) (ci := 7) (v := .ref (a 0)) (C := RX9) (T := TX9) (N := 19) hx hb hts izRX9 hown hK hP 0 rfl rfl 8 (by decide) (hts _ k9) (fun _ h9 => h9) rfl dX9_turnBeliefs_74 ?_
  refine lv_iconst (v := 0) hx hb dX9_turnBeliefs_77 (by decide) ?_
  refine lv_aload_n hx hb dX9_turnBeliefs_78 rfl (lv_at hl 1 rfl) ?_
  refine va_get (D := g.1) (ci := 7) (v := .int 0) (C := RX9) (T := TX9) (N := 19) hx hb hts izRX9 hown hK hP 0 rfl rfl 0 (by decide) (hts _ k31) (fun _ h9 => h9) rfl dX9_turnBeliefs_79 ?_
  refine va_copyi (D := g.1) (ty := .int) hx hb (by rw [hml]; exact hl.1.symm) hown (hts _ k35) (hts _ k36) (hts _ k37) (hts _ k38) hK hP hD hS 11 1 0 0 rfl rfl rfl rfl rfl (by decide) (by decide) (by decide) (by decide) (by decide) (fun _ _ => rfl) (Nat.le_of_ble_eq_true rfl) (by decide) dX9_turnBeliefs_82 (fun H locs hP hD hS => ?_)
  have hP : va_P g.1 vwCl (List.flatten [[(o, .inr (7, [.int 0, .int 0, .int tx, .int ch, .int jo, .int tr, .int dy, .int sd, .ref (a 0), .ref (a 1), .ref (a 2), .ref (a 3), .ref (a 4), .ref (a 5), .ref (a 6), .ref (a 7), .ref (a 8), .ref (a 9), .ref (a 10)])), (a 0, .inl (g.2 0, 8, .inl (va_cpy (f 10) (f 0) 0 0 0))), (a 1, .inl (g.2 0, 8, .inl (f 1))), (a 2, .inl (g.2 0, 8, .inl (f 2))), (a 3, .inl (g.2 0, 8, .inl (f 3))), (a 4, .inl (g.2 1, 8, .inl (f 4))), (a 5, .inl (g.2 0, 64, .inl (f 5))), (a 6, .inl (g.2 0, 6, .inl (f 6))), (a 7, .inl (g.2 0, 6, .inl (f 7))), (a 8, .inl (g.2 0, 6, .inl (f 8))), (a 9, .inl (g.2 0, 6, .inl (f 9))), (a 10, .inl (g.2 0, 8, .inl (f 10)))], bLaw g lo ac ls0 ll lm lg ld fc]) H := hP
  have hD : va_D A (List.flatten [[(o, .inr (7, [.int 0, .int 0, .int tx, .int ch, .int jo, .int tr, .int dy, .int sd, .ref (a 0), .ref (a 1), .ref (a 2), .ref (a 3), .ref (a 4), .ref (a 5), .ref (a 6), .ref (a 7), .ref (a 8), .ref (a 9), .ref (a 10)])), (a 0, .inl (g.2 0, 8, .inl (va_cpy (f 10) (f 0) 0 0 0))), (a 1, .inl (g.2 0, 8, .inl (f 1))), (a 2, .inl (g.2 0, 8, .inl (f 2))), (a 3, .inl (g.2 0, 8, .inl (f 3))), (a 4, .inl (g.2 1, 8, .inl (f 4))), (a 5, .inl (g.2 0, 64, .inl (f 5))), (a 6, .inl (g.2 0, 6, .inl (f 6))), (a 7, .inl (g.2 0, 6, .inl (f 7))), (a 8, .inl (g.2 0, 6, .inl (f 8))), (a 9, .inl (g.2 0, 6, .inl (f 9))), (a 10, .inl (g.2 0, 8, .inl (f 10)))], bLaw g lo ac ls0 ll lm lg ld fc]) := hD
  have hP : va_P g.1 vwCl (List.flatten [bTown g o a 0 0 tx ch jo tr dy sd (zf [va_cpy (f 10) (f 0) 0 0 0, f 1, f 2, f 3, f 4, f 5, f 6, f 7, f 8, f 9, f 10]), bLaw g lo ac ls0 ll lm lg ld fc]) H := hP
  have hD : va_D A (List.flatten [bTown g o a 0 0 tx ch jo tr dy sd (zf [va_cpy (f 10) (f 0) 0 0 0, f 1, f 2, f 3, f 4, f 5, f 6, f 7, f 8, f 9, f 10]), bLaw g lo ac ls0 ll lm lg ld fc]) := hD
  exact mret_v hx hb hr hlocks hS (Nat.le_of_ble_eq_true rfl) (Nat.le_of_ble_eq_true rfl) dX9_turnBeliefs_85 (zf [va_cpy (f 10) (f 0) 0 0 0, f 1, f 2, f 3, f 4, f 5, f 6, f 7, f 8, f 9, f 10]) rfl rfl hP hD
set_option maxRecDepth 100000 in
set_option maxHeartbeats 4000000 in
theorem c_keepWorks (l : Launch) (g : zG) (o : Nat) (a : Nat → Nat) (tx : Int32) (ch : Int32) (jo : Int32) (tr : Int32) (dy : Int32) (sd : Int32) (f : Nat → Nat → Int32) (lg0 : Nat)  : zM g l yX9_keepWorks (Cond.code yX9_keepWorks cX9_keepWorks 5 (some .int) :: zB) ({ frames := 1, cells := 0, slots := 0, locals := 22 } : Room) [.ref o, .ref lg0] [bTown g o a 0 0 tx ch jo tr dy sd f] (fun _ : Unit => some (.int 0)) (fun _ : Unit => True) (fun _ : Unit => [bTown g o a 0 0 tx ch jo tr dy sd f]) := by
  refine zM.of (cc := cX9_keepWorks) (maxL := 5) (rt := (some .int)) (by decide) rfl (Nat.le_of_ble_eq_true rfl) ?_
  intro p e s m args below meth c A ls St hr hlocks hin hK hT hA hP hD hS hl
  obtain ⟨hx, hb, hml, hown, hts⟩ := id St
  have hl : lv_has ls 5 [(0, .ref o), (1, .ref lg0)] := hl
  refine lv_aload_n hx hb dX9_keepWorks_0 rfl (lv_at hl 0 rfl) ?_
  refine mcallV (g := g) (q0 := 0) (ci := 7) (As := []) (rest := []) St hK hT hA hP hD hS hl.1 [0] [] rfl rfl rfl (c_believed l g o a tx ch jo tr dy sd f ) (cwV 0 hts (zgL (zl4 k56 k57 k58 k24) k48) rfl rfl rfl (by decide +kernel) ⟨Nat.le_of_ble_eq_true rfl, Nat.le_of_ble_eq_true rfl⟩) rfl rfl rfl rfl (Nat.le_of_ble_eq_true rfl) dX9_keepWorks_1 ⟨(Nat.le_of_ble_eq_true rfl), (Nat.le_of_ble_eq_true rfl)⟩ (fun _u H locs hq1 hP hD hS => ?_)
  have hP : va_P g.1 vwCl (List.flatten [bTown g o a 0 0 tx ch jo tr dy sd f]) H := hP
  have hD : va_D A (List.flatten [bTown g o a 0 0 tx ch jo tr dy sd f]) := hD
  refine W.widen (k := 0) (n := 0) (Nat.le_of_ble_eq_true rfl) (Nat.le_of_ble_eq_true rfl) ?_
  refine W.eq (g2 := F0 m 4 ls [.int 0]) rfl ?_
  refine lv_istore_n (lv' := [(2, .int 0), (0, .ref o), (1, .ref lg0)]) hx hb dX9_keepWorks_4 rfl hl (by decide) rfl (fun ls hl => ?_)
  refine lv_iconst (v := 0) hx hb dX9_keepWorks_5 (by decide) ?_
  refine lv_istore_n (lv' := [(3, .int 0), (2, .int 0), (0, .ref o), (1, .ref lg0)]) hx hb dX9_keepWorks_6 rfl hl (by decide) rfl (fun ls hl => ?_)
  refine lv_iconst (v := 0) hx hb dX9_keepWorks_7 (by decide) ?_
  refine lv_istore (lv' := [(4, .int 0), (3, .int 0), (2, .int 0), (0, .ref o), (1, .ref lg0)]) hx hb dX9_keepWorks_8 hl (by decide) rfl (fun ls hl => ?_)
  refine lv_iload hx hb dX9_keepWorks_10 (lv_at hl 0 rfl) ?_
  refine lv_aload_n hx hb dX9_keepWorks_12 rfl (lv_at hl 3 rfl) ?_
  refine va_get (D := g.1) (ci := 7) (v := .int 0) (C := RX9) (T := TX9) (N := 19) hx hb hts izRX9 hown hK hP 0 rfl rfl 1 (by decide) (hts _ k32) (fun _ h9 => h9) rfl dX9_keepWorks_13 ?_
  refine lv_icmp_ge (tgt := 172) hx hb dX9_keepWorks_16 (by decide) (fun _ => ?_) (fun c2 => absurd (by decide) c2)
  refine lv_iload_n hx hb dX9_keepWorks_172 rfl (lv_at hl 1 rfl) ?_
  have hP : va_P g.1 vwCl (List.flatten [bTown g o a 0 0 tx ch jo tr dy sd f]) H := hP
  have hD : va_D A (List.flatten [bTown g o a 0 0 tx ch jo tr dy sd f]) := hD
  exact mret_i hx hb hr hlocks hS (Nat.le_of_ble_eq_true rfl) (Nat.le_of_ble_eq_true rfl) dX9_keepWorks_173 () rfl trivial hP hD
set_option maxRecDepth 100000 in
set_option maxHeartbeats 4000000 in
theorem c_comeBack (l : Launch) (g : zG) (o : Nat) (a : Nat → Nat) (tx : Int32) (ch : Int32) (jo : Int32) (tr : Int32) (dy : Int32) (sd : Int32) (f : Nat → Nat → Int32) (tl : Int32) (lg0 : Nat)  : zM g l yX9_comeBack (Cond.code yX9_comeBack cX9_comeBack 5 none :: zB) ({ frames := 0, cells := 0, slots := 0, locals := 0 } : Room) [.ref o, .int tl, .ref lg0] [bTown g o a 0 0 tx ch jo tr dy sd f] (fun _ : Unit => none) (fun _ : Unit => True) (fun _ : Unit => [bTown g o a 0 0 tx ch jo tr dy sd f]) := by
  refine zM.of (cc := cX9_comeBack) (maxL := 5) (rt := none) (by decide) rfl (Nat.le_of_ble_eq_true rfl) ?_
  intro p e s m args below meth c A ls St hr hlocks hin hK hT hA hP hD hS hl
  obtain ⟨hx, hb, hml, hown, hts⟩ := id St
  have hl : lv_has ls 5 [(0, .ref o), (1, .int tl), (2, .ref lg0)] := hl
  refine lv_iconst (v := 0) hx hb dX9_comeBack_0 (by decide) ?_
  refine lv_istore_n (lv' := [(3, .int 0), (0, .ref o), (1, .int tl), (2, .ref lg0)]) hx hb dX9_comeBack_1 rfl hl (by decide) rfl (fun ls hl => ?_)
  refine lv_iload_n hx hb dX9_comeBack_2 rfl (lv_at hl 0 rfl) ?_
  refine lv_aload_n hx hb dX9_comeBack_3 rfl (lv_at hl 1 rfl) ?_
  refine va_get (D := g.1) (ci := 7) (v := .int 0) (C := RX9) (T := TX9) (N := 19) hx hb hts izRX9 hown hK hP 0 rfl rfl 0 (by decide) (hts _ k31) (fun _ h9 => h9) rfl dX9_comeBack_4 ?_
  refine lv_icmp_ge (tgt := 92) hx hb dX9_comeBack_7 (by decide) (fun _ => ?_) (fun c1 => absurd (by decide) c1)
  have hP : va_P g.1 vwCl (List.flatten [bTown g o a 0 0 tx ch jo tr dy sd f]) s.heap := hP
  have hD : va_D A (List.flatten [bTown g o a 0 0 tx ch jo tr dy sd f]) := hD
  exact mret_v hx hb hr hlocks hS (Nat.le_of_ble_eq_true rfl) (Nat.le_of_ble_eq_true rfl) dX9_comeBack_92 () rfl trivial hP hD
set_option maxRecDepth 100000 in
set_option maxHeartbeats 4000000 in
theorem c_passDay (l : Launch) (g : zG) (o : Nat) (a : Nat → Nat) (tx : Int32) (ch : Int32) (jo : Int32) (tr : Int32) (dy : Int32) (sd : Int32) (f : Nat → Nat → Int32) (lo : Nat) (ac : Nat) (ls0 : Int32) (ll : Int32) (lm : Int32) (lg : Int32) (ld : Int32) (fc : Nat → Int32) (tl : Int32) (lg0 : Nat)  : zM g l yX9_passDay (Cond.code yX9_passDay cX9_passDay 5 (some .int) :: zB) ({ frames := 3, cells := 0, slots := 0, locals := 64 } : Room) [.ref o, .ref lo, .int tl, .ref lg0] [bTown g o a 0 0 tx ch jo tr dy sd f, bLaw g lo ac ls0 ll lm lg ld fc] (fun u : Int32 × (Nat → Nat → Int32) => (fun (dy2 : Int32) (f2 : Nat → Nat → Int32) => some (.int 0)) (u.1) (u.2)) (fun u : Int32 × (Nat → Nat → Int32) => (fun (dy2 : Int32) (f2 : Nat → Nat → Int32) => f2 4 = f 4) (u.1) (u.2)) (fun u : Int32 × (Nat → Nat → Int32) => (fun (dy2 : Int32) (f2 : Nat → Nat → Int32) => [bTown g o a 0 0 tx ch jo tr dy2 sd f2, bLaw g lo ac ls0 ll 0 0 dy fc]) (u.1) (u.2)) := by
  refine zM.of (cc := cX9_passDay) (maxL := 5) (rt := (some .int)) (by decide) rfl (Nat.le_of_ble_eq_true rfl) ?_
  intro p e s m args below meth c A ls St hr hlocks hin hK hT hA hP hD hS hl
  obtain ⟨hx, hb, hml, hown, hts⟩ := id St
  have hl : lv_has ls 5 [(0, .ref o), (1, .ref lo), (2, .int tl), (3, .ref lg0)] := hl
  refine lv_aload_n hx hb dX9_passDay_0 rfl (lv_at hl 0 rfl) ?_
  refine lv_aload_n hx hb dX9_passDay_1 rfl (lv_at hl 1 rfl) ?_
  refine mcallV (g := g) (q0 := 0) (ci := 7) (As := [.ref lo]) (rest := []) St hK hT hA hP hD hS hl.1 [0, 1] [] rfl rfl rfl (c_showTo l g o a tx ch jo tr dy sd f lo ac ls0 ll lm lg ld fc ) (cwV 1 hts (zgL (zl4 k142 k143 k144 k24) k74) rfl rfl rfl (by decide +kernel) ⟨Nat.le_of_ble_eq_true rfl, Nat.le_of_ble_eq_true rfl⟩) rfl rfl rfl rfl (Nat.le_of_ble_eq_true rfl) dX9_passDay_2 ⟨(Nat.le_of_ble_eq_true rfl), (Nat.le_of_ble_eq_true rfl)⟩ (fun _u H locs hq1 hP hD hS => ?_)
  have hP : va_P g.1 vwCl (List.flatten [bTown g o a 0 0 tx ch jo tr dy sd f, bLaw g lo ac ls0 ll 0 0 dy fc]) H := hP
  have hD : va_D A (List.flatten [bTown g o a 0 0 tx ch jo tr dy sd f, bLaw g lo ac ls0 ll 0 0 dy fc]) := hD
  refine W.widen (k := 0) (n := 0) (Nat.le_of_ble_eq_true rfl) (Nat.le_of_ble_eq_true rfl) ?_
  refine W.eq (g2 := F0 m 5 ls []) rfl ?_
  refine lv_aload_n hx hb dX9_passDay_5 rfl (lv_at hl 0 rfl) ?_
  refine lv_aload_n hx hb dX9_passDay_6 rfl (lv_at hl 1 rfl) ?_
  refine mcallV (g := g) (q0 := 0) (ci := 7) (As := [.ref lo]) (rest := []) St hK hT hA hP hD hS hl.1 [0, 1] [] rfl rfl rfl (c_turnBeliefs l g o a tx ch jo tr dy sd f lo ac ls0 ll 0 0 dy fc ) (cwV 1 hts (zgL (zl4 k145 k146 k147 k24) k113) rfl rfl rfl (by decide +kernel) ⟨Nat.le_of_ble_eq_true rfl, Nat.le_of_ble_eq_true rfl⟩) rfl rfl rfl rfl (Nat.le_of_ble_eq_true rfl) dX9_passDay_7 ⟨(Nat.le_of_ble_eq_true rfl), (Nat.le_of_ble_eq_true rfl)⟩ (fun f2_2 H locs hq3 hP hD hS => ?_)
  have hq3 : f2_2 4 = f 4 := hq3
  have hP : va_P g.1 vwCl (List.flatten [bTown g o a 0 0 tx ch jo tr dy sd f2_2, bLaw g lo ac ls0 ll 0 0 dy fc]) H := hP
  have hD : va_D A (List.flatten [bTown g o a 0 0 tx ch jo tr dy sd f2_2, bLaw g lo ac ls0 ll 0 0 dy fc]) := hD
  refine W.widen (k := 0) (n := 0) (Nat.le_of_ble_eq_true rfl) (Nat.le_of_ble_eq_true rfl) ?_
  refine W.eq (g2 := F0 m 10 ls []) rfl ?_
  refine lv_aload_n hx hb dX9_passDay_10 rfl (lv_at hl 0 rfl) ?_
  refine lv_aload_n hx hb dX9_passDay_11 rfl (lv_at hl 3 rfl) ?_
  refine mcallV (g := g) (q0 := 0) (ci := 7) (As := [.ref lg0]) (rest := []) St hK hT hA hP hD hS hl.1 [0] [1] rfl rfl rfl (c_keepWorks l g o a tx ch jo tr dy sd f2_2 lg0 ) (cwV 1 hts (zgL (zl4 k148 k149 k150 k24) k127) rfl rfl rfl (by decide +kernel) ⟨Nat.le_of_ble_eq_true rfl, Nat.le_of_ble_eq_true rfl⟩) rfl rfl rfl rfl (Nat.le_of_ble_eq_true rfl) dX9_passDay_12 ⟨(Nat.le_of_ble_eq_true rfl), (Nat.le_of_ble_eq_true rfl)⟩ (fun _u H locs hq4 hP hD hS => ?_)
  have hP : va_P g.1 vwCl (List.flatten [bLaw g lo ac ls0 ll 0 0 dy fc, bTown g o a 0 0 tx ch jo tr dy sd f2_2]) H := hP
  have hD : va_D A (List.flatten [bLaw g lo ac ls0 ll 0 0 dy fc, bTown g o a 0 0 tx ch jo tr dy sd f2_2]) := hD
  refine W.widen (k := 0) (n := 0) (Nat.le_of_ble_eq_true rfl) (Nat.le_of_ble_eq_true rfl) ?_
  refine W.eq (g2 := F0 m 15 ls [.int 0]) rfl ?_
  refine lv_istore (lv' := [(4, .int 0), (0, .ref o), (1, .ref lo), (2, .int tl), (3, .ref lg0)]) hx hb dX9_passDay_15 hl (by decide) rfl (fun ls hl => ?_)
  refine lv_aload_n hx hb dX9_passDay_17 rfl (lv_at hl 1 rfl) ?_
  refine lv_iload_n hx hb dX9_passDay_18 rfl (lv_at hl 3 rfl) ?_
  refine lv_aload_n hx hb dX9_passDay_19 rfl (lv_at hl 4 rfl) ?_
  refine mcallV (g := g) (q0 := 0) (ci := 7) (As := [.int tl, .ref lg0]) (rest := []) St hK hT hA hP hD hS hl.1 [1] [0] rfl rfl rfl (c_comeBack l g o a tx ch jo tr dy sd f2_2 tl lg0 ) (cwV 2 hts (zgL (zl4 k151 k152 k153 k24) k141) rfl rfl rfl (by decide +kernel) ⟨Nat.le_of_ble_eq_true rfl, Nat.le_of_ble_eq_true rfl⟩) rfl rfl rfl rfl (Nat.le_of_ble_eq_true rfl) dX9_passDay_20 ⟨(Nat.le_of_ble_eq_true rfl), (Nat.le_of_ble_eq_true rfl)⟩ (fun _u H locs hq5 hP hD hS => ?_)
  have hP : va_P g.1 vwCl (List.flatten [bLaw g lo ac ls0 ll 0 0 dy fc, bTown g o a 0 0 tx ch jo tr dy sd f2_2]) H := hP
  have hD : va_D A (List.flatten [bLaw g lo ac ls0 ll 0 0 dy fc, bTown g o a 0 0 tx ch jo tr dy sd f2_2]) := hD
  refine W.widen (k := 0) (n := 0) (Nat.le_of_ble_eq_true rfl) (Nat.le_of_ble_eq_true rfl) ?_
  refine W.eq (g2 := F0 m 23 ls []) rfl ?_
  refine lv_aload_n hx hb dX9_passDay_23 rfl (lv_at hl 1 rfl) ?_
  refine lv_sipush (v := 9999) hx hb dX9_passDay_24 (by decide) ?_
  refine lv_aload_n hx hb dX9_passDay_27 rfl (lv_at hl 1 rfl) ?_
  refine va_get (D := g.1) (ci := 7) (v := .int dy) (C := RX9) (T := TX9) (N := 19) hx hb hts izRX9 hown hK hP 2 rfl rfl 6 (by decide) (hts _ k34) (fun _ h9 => h9) rfl dX9_passDay_28 ?_
  refine lv_iconst (v := 1) hx hb dX9_passDay_31 (by decide) ?_
  refine lv_iadd hx hb dX9_passDay_32 ?_
  refine va_mmin hx hb (by rw [hml]; exact hl.1.symm) hown (hts _ k109) (hts _ k110) (hts _ k94) (hts _ k111) (Nat.le_of_ble_eq_true rfl) (Nat.le_of_ble_eq_true rfl) (Nat.le_of_ble_eq_true rfl) (Nat.le_of_ble_eq_true rfl) dX9_passDay_33 ?_
  refine va_put (D := g.1) (ci := 7) (v := .int (if (dy + 1) < 9999 then dy + 1 else 9999)) (ty := .int) (C := RX9) (T := TX9) (N := 19) hx hb hts izRX9 tyX9 tyX9_ok nmX9 hown hK hP hD hS 2 rfl rfl 6 (by decide) (hts _ k34) (fun _ h9 => h9) rfl (by decide +kernel) rfl rfl (Nat.le_of_ble_eq_true rfl) dX9_passDay_36 (fun H locs hP hD hS => ?_)
  have hP : va_P g.1 vwCl (List.flatten [bLaw g lo ac ls0 ll 0 0 dy fc, [(o, .inr (7, [.int 0, .int 0, .int tx, .int ch, .int jo, .int tr, .int (if (dy + 1) < 9999 then dy + 1 else 9999), .int sd, .ref (a 0), .ref (a 1), .ref (a 2), .ref (a 3), .ref (a 4), .ref (a 5), .ref (a 6), .ref (a 7), .ref (a 8), .ref (a 9), .ref (a 10)])), (a 0, .inl (g.2 0, 8, .inl (f2_2 0))), (a 1, .inl (g.2 0, 8, .inl (f2_2 1))), (a 2, .inl (g.2 0, 8, .inl (f2_2 2))), (a 3, .inl (g.2 0, 8, .inl (f2_2 3))), (a 4, .inl (g.2 1, 8, .inl (f2_2 4))), (a 5, .inl (g.2 0, 64, .inl (f2_2 5))), (a 6, .inl (g.2 0, 6, .inl (f2_2 6))), (a 7, .inl (g.2 0, 6, .inl (f2_2 7))), (a 8, .inl (g.2 0, 6, .inl (f2_2 8))), (a 9, .inl (g.2 0, 6, .inl (f2_2 9))), (a 10, .inl (g.2 0, 8, .inl (f2_2 10)))]]) H := hP
  have hD : va_D A (List.flatten [bLaw g lo ac ls0 ll 0 0 dy fc, [(o, .inr (7, [.int 0, .int 0, .int tx, .int ch, .int jo, .int tr, .int (if (dy + 1) < 9999 then dy + 1 else 9999), .int sd, .ref (a 0), .ref (a 1), .ref (a 2), .ref (a 3), .ref (a 4), .ref (a 5), .ref (a 6), .ref (a 7), .ref (a 8), .ref (a 9), .ref (a 10)])), (a 0, .inl (g.2 0, 8, .inl (f2_2 0))), (a 1, .inl (g.2 0, 8, .inl (f2_2 1))), (a 2, .inl (g.2 0, 8, .inl (f2_2 2))), (a 3, .inl (g.2 0, 8, .inl (f2_2 3))), (a 4, .inl (g.2 1, 8, .inl (f2_2 4))), (a 5, .inl (g.2 0, 64, .inl (f2_2 5))), (a 6, .inl (g.2 0, 6, .inl (f2_2 6))), (a 7, .inl (g.2 0, 6, .inl (f2_2 7))), (a 8, .inl (g.2 0, 6, .inl (f2_2 8))), (a 9, .inl (g.2 0, 6, .inl (f2_2 9))), (a 10, .inl (g.2 0, 8, .inl (f2_2 10)))]]) := hD
  refine lv_iload hx hb dX9_passDay_39 (lv_at hl 0 rfl) ?_
  have hP : va_P g.1 vwCl (List.flatten [bLaw g lo ac ls0 ll 0 0 dy fc, bTown g o a 0 0 tx ch jo tr (if (dy + 1) < 9999 then dy + 1 else 9999) sd f2_2]) H := hP
  have hD : va_D A (List.flatten [bLaw g lo ac ls0 ll 0 0 dy fc, bTown g o a 0 0 tx ch jo tr (if (dy + 1) < 9999 then dy + 1 else 9999) sd f2_2]) := hD
  obtain ⟨hP, hD⟩ := zord (g := g) (Bs' := [bTown g o a 0 0 tx ch jo tr (if (dy + 1) < 9999 then dy + 1 else 9999) sd f2_2, bLaw g lo ac ls0 ll 0 0 dy fc]) [1, 0] rfl rfl hP hD
  exact mret_i hx hb hr hlocks hS (Nat.le_of_ble_eq_true rfl) (Nat.le_of_ble_eq_true rfl) dX9_passDay_41 (if (dy + 1) < 9999 then dy + 1 else 9999, f2_2) rfl (by assumption) hP hD
set_option maxRecDepth 100000 in
set_option maxHeartbeats 4000000 in
theorem c_keepWorksN (l : Launch) (g : zG) (o : Nat) (a : Nat → Nat) (tx : Int32) (ch : Int32) (jo : Int32) (tr : Int32) (dy : Int32) (sd : Int32) (f : Nat → Nat → Int32)  : zM g l yX9_keepWorks (Cond.code yX9_keepWorks cX9_keepWorks 5 (some .int) :: zB) ({ frames := 1, cells := 0, slots := 0, locals := 22 } : Room) [.ref o, .null] [bTown g o a 0 0 tx ch jo tr dy sd f] (fun _ : Unit => some (.int 0)) (fun _ : Unit => True) (fun _ : Unit => [bTown g o a 0 0 tx ch jo tr dy sd f]) := by
  refine zM.of (cc := cX9_keepWorks) (maxL := 5) (rt := (some .int)) (by decide) rfl (Nat.le_of_ble_eq_true rfl) ?_
  intro p e s m args below meth c A ls St hr hlocks hin hK hT hA hP hD hS hl
  obtain ⟨hx, hb, hml, hown, hts⟩ := id St
  have hl : lv_has ls 5 [(0, .ref o), (1, .null)] := hl
  refine lv_aload_n hx hb dX9_keepWorks_0 rfl (lv_at hl 0 rfl) ?_
  refine mcallV (g := g) (q0 := 0) (ci := 7) (As := []) (rest := []) St hK hT hA hP hD hS hl.1 [0] [] rfl rfl rfl (c_believed l g o a tx ch jo tr dy sd f ) (cwV 0 hts (zgL (zl4 k56 k57 k58 k24) k48) rfl rfl rfl (by decide +kernel) ⟨Nat.le_of_ble_eq_true rfl, Nat.le_of_ble_eq_true rfl⟩) rfl rfl rfl rfl (Nat.le_of_ble_eq_true rfl) dX9_keepWorks_1 ⟨(Nat.le_of_ble_eq_true rfl), (Nat.le_of_ble_eq_true rfl)⟩ (fun _u H locs hq1 hP hD hS => ?_)
  have hP : va_P g.1 vwCl (List.flatten [bTown g o a 0 0 tx ch jo tr dy sd f]) H := hP
  have hD : va_D A (List.flatten [bTown g o a 0 0 tx ch jo tr dy sd f]) := hD
  refine W.widen (k := 0) (n := 0) (Nat.le_of_ble_eq_true rfl) (Nat.le_of_ble_eq_true rfl) ?_
  refine W.eq (g2 := F0 m 4 ls [.int 0]) rfl ?_
  refine lv_istore_n (lv' := [(2, .int 0), (0, .ref o), (1, .null)]) hx hb dX9_keepWorks_4 rfl hl (by decide) rfl (fun ls hl => ?_)
  refine lv_iconst (v := 0) hx hb dX9_keepWorks_5 (by decide) ?_
  refine lv_istore_n (lv' := [(3, .int 0), (2, .int 0), (0, .ref o), (1, .null)]) hx hb dX9_keepWorks_6 rfl hl (by decide) rfl (fun ls hl => ?_)
  refine lv_iconst (v := 0) hx hb dX9_keepWorks_7 (by decide) ?_
  refine lv_istore (lv' := [(4, .int 0), (3, .int 0), (2, .int 0), (0, .ref o), (1, .null)]) hx hb dX9_keepWorks_8 hl (by decide) rfl (fun ls hl => ?_)
  refine lv_iload hx hb dX9_keepWorks_10 (lv_at hl 0 rfl) ?_
  refine lv_aload_n hx hb dX9_keepWorks_12 rfl (lv_at hl 3 rfl) ?_
  refine va_get (D := g.1) (ci := 7) (v := .int 0) (C := RX9) (T := TX9) (N := 19) hx hb hts izRX9 hown hK hP 0 rfl rfl 1 (by decide) (hts _ k32) (fun _ h9 => h9) rfl dX9_keepWorks_13 ?_
  refine lv_icmp_ge (tgt := 172) hx hb dX9_keepWorks_16 (by decide) (fun _ => ?_) (fun c2 => absurd (by decide) c2)
  refine lv_iload_n hx hb dX9_keepWorks_172 rfl (lv_at hl 1 rfl) ?_
  have hP : va_P g.1 vwCl (List.flatten [bTown g o a 0 0 tx ch jo tr dy sd f]) H := hP
  have hD : va_D A (List.flatten [bTown g o a 0 0 tx ch jo tr dy sd f]) := hD
  exact mret_i hx hb hr hlocks hS (Nat.le_of_ble_eq_true rfl) (Nat.le_of_ble_eq_true rfl) dX9_keepWorks_173 () rfl trivial hP hD
set_option maxRecDepth 100000 in
set_option maxHeartbeats 4000000 in
theorem c_comeBackN (l : Launch) (g : zG) (o : Nat) (a : Nat → Nat) (tx : Int32) (ch : Int32) (jo : Int32) (tr : Int32) (dy : Int32) (sd : Int32) (f : Nat → Nat → Int32) (tl : Int32)  : zM g l yX9_comeBack (Cond.code yX9_comeBack cX9_comeBack 5 none :: zB) ({ frames := 0, cells := 0, slots := 0, locals := 0 } : Room) [.ref o, .int tl, .null] [bTown g o a 0 0 tx ch jo tr dy sd f] (fun _ : Unit => none) (fun _ : Unit => True) (fun _ : Unit => [bTown g o a 0 0 tx ch jo tr dy sd f]) := by
  refine zM.of (cc := cX9_comeBack) (maxL := 5) (rt := none) (by decide) rfl (Nat.le_of_ble_eq_true rfl) ?_
  intro p e s m args below meth c A ls St hr hlocks hin hK hT hA hP hD hS hl
  obtain ⟨hx, hb, hml, hown, hts⟩ := id St
  have hl : lv_has ls 5 [(0, .ref o), (1, .int tl), (2, .null)] := hl
  refine lv_iconst (v := 0) hx hb dX9_comeBack_0 (by decide) ?_
  refine lv_istore_n (lv' := [(3, .int 0), (0, .ref o), (1, .int tl), (2, .null)]) hx hb dX9_comeBack_1 rfl hl (by decide) rfl (fun ls hl => ?_)
  refine lv_iload_n hx hb dX9_comeBack_2 rfl (lv_at hl 0 rfl) ?_
  refine lv_aload_n hx hb dX9_comeBack_3 rfl (lv_at hl 1 rfl) ?_
  refine va_get (D := g.1) (ci := 7) (v := .int 0) (C := RX9) (T := TX9) (N := 19) hx hb hts izRX9 hown hK hP 0 rfl rfl 0 (by decide) (hts _ k31) (fun _ h9 => h9) rfl dX9_comeBack_4 ?_
  refine lv_icmp_ge (tgt := 92) hx hb dX9_comeBack_7 (by decide) (fun _ => ?_) (fun c1 => absurd (by decide) c1)
  have hP : va_P g.1 vwCl (List.flatten [bTown g o a 0 0 tx ch jo tr dy sd f]) s.heap := hP
  have hD : va_D A (List.flatten [bTown g o a 0 0 tx ch jo tr dy sd f]) := hD
  exact mret_v hx hb hr hlocks hS (Nat.le_of_ble_eq_true rfl) (Nat.le_of_ble_eq_true rfl) dX9_comeBack_92 () rfl trivial hP hD
set_option maxRecDepth 100000 in
set_option maxHeartbeats 4000000 in
theorem c_passDayN (l : Launch) (g : zG) (o : Nat) (a : Nat → Nat) (tx : Int32) (ch : Int32) (jo : Int32) (tr : Int32) (dy : Int32) (sd : Int32) (f : Nat → Nat → Int32) (lo : Nat) (ac : Nat) (ls0 : Int32) (ll : Int32) (lm : Int32) (lg : Int32) (ld : Int32) (fc : Nat → Int32) (tl : Int32)  : zM g l yX9_passDay (Cond.code yX9_passDay cX9_passDay 5 (some .int) :: zB) ({ frames := 3, cells := 0, slots := 0, locals := 64 } : Room) [.ref o, .ref lo, .int tl, .null] [bTown g o a 0 0 tx ch jo tr dy sd f, bLaw g lo ac ls0 ll lm lg ld fc] (fun u : Int32 × (Nat → Nat → Int32) => (fun (dy2 : Int32) (f2 : Nat → Nat → Int32) => some (.int 0)) (u.1) (u.2)) (fun u : Int32 × (Nat → Nat → Int32) => (fun (dy2 : Int32) (f2 : Nat → Nat → Int32) => f2 4 = f 4) (u.1) (u.2)) (fun u : Int32 × (Nat → Nat → Int32) => (fun (dy2 : Int32) (f2 : Nat → Nat → Int32) => [bTown g o a 0 0 tx ch jo tr dy2 sd f2, bLaw g lo ac ls0 ll 0 0 dy fc]) (u.1) (u.2)) := by
  refine zM.of (cc := cX9_passDay) (maxL := 5) (rt := (some .int)) (by decide) rfl (Nat.le_of_ble_eq_true rfl) ?_
  intro p e s m args below meth c A ls St hr hlocks hin hK hT hA hP hD hS hl
  obtain ⟨hx, hb, hml, hown, hts⟩ := id St
  have hl : lv_has ls 5 [(0, .ref o), (1, .ref lo), (2, .int tl), (3, .null)] := hl
  refine lv_aload_n hx hb dX9_passDay_0 rfl (lv_at hl 0 rfl) ?_
  refine lv_aload_n hx hb dX9_passDay_1 rfl (lv_at hl 1 rfl) ?_
  refine mcallV (g := g) (q0 := 0) (ci := 7) (As := [.ref lo]) (rest := []) St hK hT hA hP hD hS hl.1 [0, 1] [] rfl rfl rfl (c_showTo l g o a tx ch jo tr dy sd f lo ac ls0 ll lm lg ld fc ) (cwV 1 hts (zgL (zl4 k142 k143 k144 k24) k74) rfl rfl rfl (by decide +kernel) ⟨Nat.le_of_ble_eq_true rfl, Nat.le_of_ble_eq_true rfl⟩) rfl rfl rfl rfl (Nat.le_of_ble_eq_true rfl) dX9_passDay_2 ⟨(Nat.le_of_ble_eq_true rfl), (Nat.le_of_ble_eq_true rfl)⟩ (fun _u H locs hq1 hP hD hS => ?_)
  have hP : va_P g.1 vwCl (List.flatten [bTown g o a 0 0 tx ch jo tr dy sd f, bLaw g lo ac ls0 ll 0 0 dy fc]) H := hP
  have hD : va_D A (List.flatten [bTown g o a 0 0 tx ch jo tr dy sd f, bLaw g lo ac ls0 ll 0 0 dy fc]) := hD
  refine W.widen (k := 0) (n := 0) (Nat.le_of_ble_eq_true rfl) (Nat.le_of_ble_eq_true rfl) ?_
  refine W.eq (g2 := F0 m 5 ls []) rfl ?_
  refine lv_aload_n hx hb dX9_passDay_5 rfl (lv_at hl 0 rfl) ?_
  refine lv_aload_n hx hb dX9_passDay_6 rfl (lv_at hl 1 rfl) ?_
  refine mcallV (g := g) (q0 := 0) (ci := 7) (As := [.ref lo]) (rest := []) St hK hT hA hP hD hS hl.1 [0, 1] [] rfl rfl rfl (c_turnBeliefs l g o a tx ch jo tr dy sd f lo ac ls0 ll 0 0 dy fc ) (cwV 1 hts (zgL (zl4 k145 k146 k147 k24) k113) rfl rfl rfl (by decide +kernel) ⟨Nat.le_of_ble_eq_true rfl, Nat.le_of_ble_eq_true rfl⟩) rfl rfl rfl rfl (Nat.le_of_ble_eq_true rfl) dX9_passDay_7 ⟨(Nat.le_of_ble_eq_true rfl), (Nat.le_of_ble_eq_true rfl)⟩ (fun f2_2 H locs hq3 hP hD hS => ?_)
  have hq3 : f2_2 4 = f 4 := hq3
  have hP : va_P g.1 vwCl (List.flatten [bTown g o a 0 0 tx ch jo tr dy sd f2_2, bLaw g lo ac ls0 ll 0 0 dy fc]) H := hP
  have hD : va_D A (List.flatten [bTown g o a 0 0 tx ch jo tr dy sd f2_2, bLaw g lo ac ls0 ll 0 0 dy fc]) := hD
  refine W.widen (k := 0) (n := 0) (Nat.le_of_ble_eq_true rfl) (Nat.le_of_ble_eq_true rfl) ?_
  refine W.eq (g2 := F0 m 10 ls []) rfl ?_
  refine lv_aload_n hx hb dX9_passDay_10 rfl (lv_at hl 0 rfl) ?_
  refine lv_aload_nN hx hb dX9_passDay_11 rfl (lv_at hl 3 rfl) ?_
  refine mcallV (g := g) (q0 := 0) (ci := 7) (As := [.null]) (rest := []) St hK hT hA hP hD hS hl.1 [0] [1] rfl rfl rfl (c_keepWorksN l g o a tx ch jo tr dy sd f2_2 ) (cwV 1 hts (zgL (zl4 k148 k149 k150 k24) k127) rfl rfl rfl (by decide +kernel) ⟨Nat.le_of_ble_eq_true rfl, Nat.le_of_ble_eq_true rfl⟩) rfl rfl rfl rfl (Nat.le_of_ble_eq_true rfl) dX9_passDay_12 ⟨(Nat.le_of_ble_eq_true rfl), (Nat.le_of_ble_eq_true rfl)⟩ (fun _u H locs hq4 hP hD hS => ?_)
  have hP : va_P g.1 vwCl (List.flatten [bLaw g lo ac ls0 ll 0 0 dy fc, bTown g o a 0 0 tx ch jo tr dy sd f2_2]) H := hP
  have hD : va_D A (List.flatten [bLaw g lo ac ls0 ll 0 0 dy fc, bTown g o a 0 0 tx ch jo tr dy sd f2_2]) := hD
  refine W.widen (k := 0) (n := 0) (Nat.le_of_ble_eq_true rfl) (Nat.le_of_ble_eq_true rfl) ?_
  refine W.eq (g2 := F0 m 15 ls [.int 0]) rfl ?_
  refine lv_istore (lv' := [(4, .int 0), (0, .ref o), (1, .ref lo), (2, .int tl), (3, .null)]) hx hb dX9_passDay_15 hl (by decide) rfl (fun ls hl => ?_)
  refine lv_aload_n hx hb dX9_passDay_17 rfl (lv_at hl 1 rfl) ?_
  refine lv_iload_n hx hb dX9_passDay_18 rfl (lv_at hl 3 rfl) ?_
  refine lv_aload_nN hx hb dX9_passDay_19 rfl (lv_at hl 4 rfl) ?_
  refine mcallV (g := g) (q0 := 0) (ci := 7) (As := [.int tl, .null]) (rest := []) St hK hT hA hP hD hS hl.1 [1] [0] rfl rfl rfl (c_comeBackN l g o a tx ch jo tr dy sd f2_2 tl ) (cwV 2 hts (zgL (zl4 k151 k152 k153 k24) k141) rfl rfl rfl (by decide +kernel) ⟨Nat.le_of_ble_eq_true rfl, Nat.le_of_ble_eq_true rfl⟩) rfl rfl rfl rfl (Nat.le_of_ble_eq_true rfl) dX9_passDay_20 ⟨(Nat.le_of_ble_eq_true rfl), (Nat.le_of_ble_eq_true rfl)⟩ (fun _u H locs hq5 hP hD hS => ?_)
  have hP : va_P g.1 vwCl (List.flatten [bLaw g lo ac ls0 ll 0 0 dy fc, bTown g o a 0 0 tx ch jo tr dy sd f2_2]) H := hP
  have hD : va_D A (List.flatten [bLaw g lo ac ls0 ll 0 0 dy fc, bTown g o a 0 0 tx ch jo tr dy sd f2_2]) := hD
  refine W.widen (k := 0) (n := 0) (Nat.le_of_ble_eq_true rfl) (Nat.le_of_ble_eq_true rfl) ?_
  refine W.eq (g2 := F0 m 23 ls []) rfl ?_
  refine lv_aload_n hx hb dX9_passDay_23 rfl (lv_at hl 1 rfl) ?_
  refine lv_sipush (v := 9999) hx hb dX9_passDay_24 (by decide) ?_
  refine lv_aload_n hx hb dX9_passDay_27 rfl (lv_at hl 1 rfl) ?_
  refine va_get (D := g.1) (ci := 7) (v := .int dy) (C := RX9) (T := TX9) (N := 19) hx hb hts izRX9 hown hK hP 2 rfl rfl 6 (by decide) (hts _ k34) (fun _ h9 => h9) rfl dX9_passDay_28 ?_
  refine lv_iconst (v := 1) hx hb dX9_passDay_31 (by decide) ?_
  refine lv_iadd hx hb dX9_passDay_32 ?_
  refine va_mmin hx hb (by rw [hml]; exact hl.1.symm) hown (hts _ k109) (hts _ k110) (hts _ k94) (hts _ k111) (Nat.le_of_ble_eq_true rfl) (Nat.le_of_ble_eq_true rfl) (Nat.le_of_ble_eq_true rfl) (Nat.le_of_ble_eq_true rfl) dX9_passDay_33 ?_
  refine va_put (D := g.1) (ci := 7) (v := .int (if (dy + 1) < 9999 then dy + 1 else 9999)) (ty := .int) (C := RX9) (T := TX9) (N := 19) hx hb hts izRX9 tyX9 tyX9_ok nmX9 hown hK hP hD hS 2 rfl rfl 6 (by decide) (hts _ k34) (fun _ h9 => h9) rfl (by decide +kernel) rfl rfl (Nat.le_of_ble_eq_true rfl) dX9_passDay_36 (fun H locs hP hD hS => ?_)
  have hP : va_P g.1 vwCl (List.flatten [bLaw g lo ac ls0 ll 0 0 dy fc, [(o, .inr (7, [.int 0, .int 0, .int tx, .int ch, .int jo, .int tr, .int (if (dy + 1) < 9999 then dy + 1 else 9999), .int sd, .ref (a 0), .ref (a 1), .ref (a 2), .ref (a 3), .ref (a 4), .ref (a 5), .ref (a 6), .ref (a 7), .ref (a 8), .ref (a 9), .ref (a 10)])), (a 0, .inl (g.2 0, 8, .inl (f2_2 0))), (a 1, .inl (g.2 0, 8, .inl (f2_2 1))), (a 2, .inl (g.2 0, 8, .inl (f2_2 2))), (a 3, .inl (g.2 0, 8, .inl (f2_2 3))), (a 4, .inl (g.2 1, 8, .inl (f2_2 4))), (a 5, .inl (g.2 0, 64, .inl (f2_2 5))), (a 6, .inl (g.2 0, 6, .inl (f2_2 6))), (a 7, .inl (g.2 0, 6, .inl (f2_2 7))), (a 8, .inl (g.2 0, 6, .inl (f2_2 8))), (a 9, .inl (g.2 0, 6, .inl (f2_2 9))), (a 10, .inl (g.2 0, 8, .inl (f2_2 10)))]]) H := hP
  have hD : va_D A (List.flatten [bLaw g lo ac ls0 ll 0 0 dy fc, [(o, .inr (7, [.int 0, .int 0, .int tx, .int ch, .int jo, .int tr, .int (if (dy + 1) < 9999 then dy + 1 else 9999), .int sd, .ref (a 0), .ref (a 1), .ref (a 2), .ref (a 3), .ref (a 4), .ref (a 5), .ref (a 6), .ref (a 7), .ref (a 8), .ref (a 9), .ref (a 10)])), (a 0, .inl (g.2 0, 8, .inl (f2_2 0))), (a 1, .inl (g.2 0, 8, .inl (f2_2 1))), (a 2, .inl (g.2 0, 8, .inl (f2_2 2))), (a 3, .inl (g.2 0, 8, .inl (f2_2 3))), (a 4, .inl (g.2 1, 8, .inl (f2_2 4))), (a 5, .inl (g.2 0, 64, .inl (f2_2 5))), (a 6, .inl (g.2 0, 6, .inl (f2_2 6))), (a 7, .inl (g.2 0, 6, .inl (f2_2 7))), (a 8, .inl (g.2 0, 6, .inl (f2_2 8))), (a 9, .inl (g.2 0, 6, .inl (f2_2 9))), (a 10, .inl (g.2 0, 8, .inl (f2_2 10)))]]) := hD
  refine lv_iload hx hb dX9_passDay_39 (lv_at hl 0 rfl) ?_
  have hP : va_P g.1 vwCl (List.flatten [bLaw g lo ac ls0 ll 0 0 dy fc, bTown g o a 0 0 tx ch jo tr (if (dy + 1) < 9999 then dy + 1 else 9999) sd f2_2]) H := hP
  have hD : va_D A (List.flatten [bLaw g lo ac ls0 ll 0 0 dy fc, bTown g o a 0 0 tx ch jo tr (if (dy + 1) < 9999 then dy + 1 else 9999) sd f2_2]) := hD
  obtain ⟨hP, hD⟩ := zord (g := g) (Bs' := [bTown g o a 0 0 tx ch jo tr (if (dy + 1) < 9999 then dy + 1 else 9999) sd f2_2, bLaw g lo ac ls0 ll 0 0 dy fc]) [1, 0] rfl rfl hP hD
  exact mret_i hx hb hr hlocks hS (Nat.le_of_ble_eq_true rfl) (Nat.le_of_ble_eq_true rfl) dX9_passDay_41 (if (dy + 1) < 9999 then dy + 1 else 9999, f2_2) rfl (by assumption) hP hD
