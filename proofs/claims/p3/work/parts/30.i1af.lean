set_option maxRecDepth 100000 in
set_option maxHeartbeats 4000000 in
theorem c_LawText_init (l : Launch) (g : zG) (o : Nat) (ta : Nat)  : zM' g l yX2_init (Cond.code yX2_init cX2_init 2 none :: zB) ({ frames := 2, cells := 2, slots := 406, locals := 34 } : Room) [.ref o, .ref ta] [[(o, .inr (2, [.null, .null]))]] (fun u : Nat × Nat => (fun (dr : Nat) (ac : Nat) => none) (u.1) (u.2)) (fun u : Nat × Nat => (fun (dr : Nat) (ac : Nat) => True) (u.1) (u.2)) (fun u : Nat × Nat => (fun (dr : Nat) (ac : Nat) => [bLT g o ta dr, bLaw g dr ac 0 (-1) 0 0 0 (fun _ => 0)]) (u.1) (u.2)) := by
  refine zM'.of (cc := cX2_init) (maxL := 2) (rt := none) (by decide) rfl (Nat.le_of_ble_eq_true rfl) ?_
  intro p e s m args below meth c A ls St hr hlocks hin hK hT hA hP hD hS hl
  obtain ⟨hx, hb, hml, hown, hts⟩ := id St
  have hl : lv_has ls 2 [(0, .ref o), (1, .ref ta)] := hl
  refine lv_aload_n hx hb dX2_init_0 rfl (lv_at hl 0 rfl) ?_
  refine lv_aload_n hx hb dX2_init_1 rfl (lv_at hl 1 rfl) ?_
  refine mcallI' (g := g) (As := [.ref ta]) (rest := []) St hK hT hA hP hD hS hl.1 [0] [] rfl rfl rfl (c_Text_initL l g o ta ) (cwI 1 hts (zgI k204) rfl rfl rfl (hts _ k213) (hts _ k211) (hts _ k212) rfl (by decide +kernel) ⟨Nat.le_of_ble_eq_true rfl, Nat.le_of_ble_eq_true rfl⟩) rfl rfl (Nat.le_of_ble_eq_true rfl) dX2_init_2 ⟨(Nat.le_of_ble_eq_true rfl), (Nat.le_of_ble_eq_true rfl)⟩ (fun _u H locs hq1 hP hD hS => ?_)
  have hP : va_P g.1 vwCl (List.flatten [[(o, .inr (2, [.ref ta, .null]))]]) H := hP
  have hD : va_D A (List.flatten [[(o, .inr (2, [.ref ta, .null]))]]) := hD
  refine W.widen (k := 0) (n := 0) (Nat.le_of_ble_eq_true rfl) (Nat.le_of_ble_eq_true rfl) ?_
  refine W.eq (g2 := F0 m 5 ls []) rfl ?_
  refine lv_aload_n hx hb dX2_init_5 rfl (lv_at hl 0 rfl) ?_
  refine znew (g := g) (ci := 1) (fs := [.null, .int 0, .int 0, .int 0, .int 0, .int 0]) (C := RX1) (T := TX1) (N := 6) hx hb hts izRX1 tyX1 tyX1_ok hown (hts _ k208) (hts _ k209) (hts _ k85) hK hP hD hS hA rfl (fun j hj => by rcases (show j = 0 ∨ j = 1 ∨ j = 2 ∨ j = 3 ∨ j = 4 ∨ j = 5 by omega) with rfl | rfl | rfl | rfl | rfl | rfl <;> rfl) (Nat.le_of_ble_eq_true rfl) (Nat.le_of_ble_eq_true rfl) dX2_init_6 (fun q2 H hP hD hS => ?_)
  have hP : va_P g.1 vwCl (List.flatten [[(o, .inr (2, [.ref ta, .null]))], [(q2, .inr (1, [.null, .int 0, .int 0, .int 0, .int 0, .int 0]))]]) H := hP
  have hD : va_D A (List.flatten [[(o, .inr (2, [.ref ta, .null]))], [(q2, .inr (1, [.null, .int 0, .int 0, .int 0, .int 0, .int 0]))]]) := hD
  refine W.widen (k := 1) (n := 6) (Nat.le_of_ble_eq_true rfl) (Nat.le_of_ble_eq_true rfl) ?_
  refine lv_dup hx hb dX2_init_9 rfl ?_
  refine mcallIN' (g := g) (As := []) (rest := [.ref q2, .ref o]) St hK hT hA hP hD hS hl.1 [1] [0] rfl rfl rfl (c_Law_init l g q2 ) ⟨va_cnB (host := "DryRiver") 0 hts (zgI k197) rfl rfl rfl (hT.1.2.2.2.1 (RX2, 11, yX1_init) (List.mem_of_getElem? (i := 1) rfl)) (hts _ k85) (by decide +kernel) ⟨Nat.le_of_ble_eq_true rfl, Nat.le_of_ble_eq_true rfl⟩, rfl, hts _ k214⟩ rfl rfl (Nat.le_of_ble_eq_true rfl) dX2_init_10 ⟨(Nat.le_of_ble_eq_true rfl), (Nat.le_of_ble_eq_true rfl)⟩ (fun ac_3 H locs hq4 hP hD hS => ?_)
  have hP : va_P g.1 vwCl (List.flatten [[(o, .inr (2, [.ref ta, .null]))], bLaw g q2 ac_3 0 (-1) 0 0 0 (fun _ => 0)]) H := hP
  have hD : va_D A (List.flatten [[(o, .inr (2, [.ref ta, .null]))], bLaw g q2 ac_3 0 (-1) 0 0 0 (fun _ => 0)]) := hD
  refine W.widen (k := 2) (n := 406) (Nat.le_of_ble_eq_true rfl) (Nat.le_of_ble_eq_true rfl) ?_
  refine W.eq (g2 := F0 m 13 ls [.ref q2, .ref o]) rfl ?_
  refine va_putF (D := g.1) (ci := 2) (v := .ref q2) (ty := tyX2 1) (C := RX2) (T := TX2) (N := 2) hx hb hts izRX2 tyX2 tyX2_ok nmX2 hown hK hP hD hS 0 rfl rfl 1 (by decide) (hts _ k210) (fun _ h9 => h9) rfl hin rfl (by decide +kernel) rfl rfl (Nat.le_of_ble_eq_true rfl) dX2_init_13 (fun H locs hP hD hS => ?_)
  have hP : va_P g.1 vwCl (List.flatten [[(o, .inr (2, [.ref ta, .ref q2]))], bLaw g q2 ac_3 0 (-1) 0 0 0 (fun _ => 0)]) H := hP
  have hD : va_D A (List.flatten [[(o, .inr (2, [.ref ta, .ref q2]))], bLaw g q2 ac_3 0 (-1) 0 0 0 (fun _ => 0)]) := hD
  have hP : va_P g.1 vwCl (List.flatten [bLT g o ta q2, bLaw g q2 ac_3 0 (-1) 0 0 0 (fun _ => 0)]) H := hP
  have hD : va_D A (List.flatten [bLT g o ta q2, bLaw g q2 ac_3 0 (-1) 0 0 0 (fun _ => 0)]) := hD
  exact mret_v hx hb hr hlocks hS (Nat.le_of_ble_eq_true rfl) (Nat.le_of_ble_eq_true rfl) dX2_init_16 (q2, ac_3) rfl trivial hP hD
