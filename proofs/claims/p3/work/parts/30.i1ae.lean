set_option maxRecDepth 100000 in
set_option maxHeartbeats 4000000 in
theorem c_TownText_init (l : Launch) (g : zG) (o : Nat) (ta : Nat)  : zM' g l yX10_init (Cond.code yX10_init cX10_init 2 none :: zB) ({ frames := 2, cells := 12, slots := 155, locals := 34 } : Room) [.ref o, .ref ta] [[(o, .inr (8, [.null, .null]))]] (fun u : Nat × (Nat → Nat) => (fun (dr : Nat) (a : Nat → Nat) => none) (u.1) (u.2)) (fun u : Nat × (Nat → Nat) => (fun (dr : Nat) (a : Nat → Nat) => True) (u.1) (u.2)) (fun u : Nat × (Nat → Nat) => (fun (dr : Nat) (a : Nat → Nat) => [bTT g o ta dr, bTown g dr a 0 0 0 20 6 50 0 1 (fun _ _ => 0)]) (u.1) (u.2)) := by
  refine zM'.of (cc := cX10_init) (maxL := 2) (rt := none) (by decide) rfl (Nat.le_of_ble_eq_true rfl) ?_
  intro p e s m args below meth c A ls St hr hlocks hin hK hT hA hP hD hS hl
  obtain ⟨hx, hb, hml, hown, hts⟩ := id St
  have hl : lv_has ls 2 [(0, .ref o), (1, .ref ta)] := hl
  refine lv_aload_n hx hb dX10_init_0 rfl (lv_at hl 0 rfl) ?_
  refine lv_aload_n hx hb dX10_init_1 rfl (lv_at hl 1 rfl) ?_
  refine mcallI' (g := g) (As := [.ref ta]) (rest := []) St hK hT hA hP hD hS hl.1 [0] [] rfl rfl rfl (c_Text_initT l g o ta ) (cwI 1 hts (zgI k204) rfl rfl rfl (hts _ k213) (hts _ k531) (hts _ k212) rfl (by decide +kernel) ⟨Nat.le_of_ble_eq_true rfl, Nat.le_of_ble_eq_true rfl⟩) rfl rfl (Nat.le_of_ble_eq_true rfl) dX10_init_2 ⟨(Nat.le_of_ble_eq_true rfl), (Nat.le_of_ble_eq_true rfl)⟩ (fun _u H locs hq1 hP hD hS => ?_)
  have hP : va_P g.1 vwCl (List.flatten [[(o, .inr (8, [.ref ta, .null]))]]) H := hP
  have hD : va_D A (List.flatten [[(o, .inr (8, [.ref ta, .null]))]]) := hD
  refine W.widen (k := 0) (n := 0) (Nat.le_of_ble_eq_true rfl) (Nat.le_of_ble_eq_true rfl) ?_
  refine W.eq (g2 := F0 m 5 ls []) rfl ?_
  refine lv_aload_n hx hb dX10_init_5 rfl (lv_at hl 0 rfl) ?_
  refine znew (g := g) (ci := 7) (fs := [.int 0, .int 0, .int 0, .int 0, .int 0, .int 0, .int 0, .int 0, .null, .null, .null, .null, .null, .null, .null, .null, .null, .null, .null]) (C := RX9) (T := TX9) (N := 19) hx hb hts izRX9 tyX9 tyX9_ok hown (hts _ k530) (hts _ k23) (hts _ k24) hK hP hD hS hA rfl (fun j hj => by rcases (show j = 0 ∨ j = 1 ∨ j = 2 ∨ j = 3 ∨ j = 4 ∨ j = 5 ∨ j = 6 ∨ j = 7 ∨ j = 8 ∨ j = 9 ∨ j = 10 ∨ j = 11 ∨ j = 12 ∨ j = 13 ∨ j = 14 ∨ j = 15 ∨ j = 16 ∨ j = 17 ∨ j = 18 by omega) with rfl | rfl | rfl | rfl | rfl | rfl | rfl | rfl | rfl | rfl | rfl | rfl | rfl | rfl | rfl | rfl | rfl | rfl | rfl <;> rfl) (Nat.le_of_ble_eq_true rfl) (Nat.le_of_ble_eq_true rfl) dX10_init_6 (fun q2 H hP hD hS => ?_)
  have hP : va_P g.1 vwCl (List.flatten [[(o, .inr (8, [.ref ta, .null]))], [(q2, .inr (7, [.int 0, .int 0, .int 0, .int 0, .int 0, .int 0, .int 0, .int 0, .null, .null, .null, .null, .null, .null, .null, .null, .null, .null, .null]))]]) H := hP
  have hD : va_D A (List.flatten [[(o, .inr (8, [.ref ta, .null]))], [(q2, .inr (7, [.int 0, .int 0, .int 0, .int 0, .int 0, .int 0, .int 0, .int 0, .null, .null, .null, .null, .null, .null, .null, .null, .null, .null, .null]))]]) := hD
  refine W.widen (k := 1) (n := 19) (Nat.le_of_ble_eq_true rfl) (Nat.le_of_ble_eq_true rfl) ?_
  refine lv_dup hx hb dX10_init_9 rfl ?_
  refine mcallIN' (g := g) (As := []) (rest := [.ref q2, .ref o]) St hK hT hA hP hD hS hl.1 [1] [0] rfl rfl rfl (c_Town_init l g q2 ) ⟨va_cnB (host := "DryRiver") 0 hts (zgI k0) rfl rfl rfl (hT.1.2.2.2.1 (RX10, 11, yX9_init) (List.mem_of_getElem? (i := 5) rfl)) (hts _ k24) (by decide +kernel) ⟨Nat.le_of_ble_eq_true rfl, Nat.le_of_ble_eq_true rfl⟩, rfl, hts _ k28⟩ rfl rfl (Nat.le_of_ble_eq_true rfl) dX10_init_10 ⟨(Nat.le_of_ble_eq_true rfl), (Nat.le_of_ble_eq_true rfl)⟩ (fun a_3 H locs hq4 hP hD hS => ?_)
  have hP : va_P g.1 vwCl (List.flatten [[(o, .inr (8, [.ref ta, .null]))], bTown g q2 a_3 0 0 0 20 6 50 0 1 (fun _ _ => 0)]) H := hP
  have hD : va_D A (List.flatten [[(o, .inr (8, [.ref ta, .null]))], bTown g q2 a_3 0 0 0 20 6 50 0 1 (fun _ _ => 0)]) := hD
  refine W.widen (k := 12) (n := 155) (Nat.le_of_ble_eq_true rfl) (Nat.le_of_ble_eq_true rfl) ?_
  refine W.eq (g2 := F0 m 13 ls [.ref q2, .ref o]) rfl ?_
  refine va_putF (D := g.1) (ci := 8) (v := .ref q2) (ty := tyX10 1) (C := RX10) (T := TX10) (N := 2) hx hb hts izRX10 tyX10 tyX10_ok nmX10 hown hK hP hD hS 0 rfl rfl 1 (by decide) (hts _ k439) (fun _ h9 => h9) rfl hin rfl (by decide +kernel) rfl rfl (Nat.le_of_ble_eq_true rfl) dX10_init_13 (fun H locs hP hD hS => ?_)
  have hP : va_P g.1 vwCl (List.flatten [[(o, .inr (8, [.ref ta, .ref q2]))], bTown g q2 a_3 0 0 0 20 6 50 0 1 (fun _ _ => 0)]) H := hP
  have hD : va_D A (List.flatten [[(o, .inr (8, [.ref ta, .ref q2]))], bTown g q2 a_3 0 0 0 20 6 50 0 1 (fun _ _ => 0)]) := hD
  have hP : va_P g.1 vwCl (List.flatten [bTT g o ta q2, bTown g q2 a_3 0 0 0 20 6 50 0 1 (fun _ _ => 0)]) H := hP
  have hD : va_D A (List.flatten [bTT g o ta q2, bTown g q2 a_3 0 0 0 20 6 50 0 1 (fun _ _ => 0)]) := hD
  exact mret_v hx hb hr hlocks hS (Nat.le_of_ble_eq_true rfl) (Nat.le_of_ble_eq_true rfl) dX10_init_16 (q2, a_3) rfl trivial hP hD
