set_option maxRecDepth 100000 in
set_option maxHeartbeats 4000000 in
theorem c_Foresight_init (l : Launch) (g : zG) (fo : Nat) (o : Nat) (lo : Nat)  : zM' g l yX0_init (Cond.code yX0_init cX0_init 3 none :: zB) ({ frames := 2, cells := 12, slots := 155, locals := 33 } : Room) [.ref fo, .ref o, .ref lo] [[(fo, .inr (0, [.null, .null, .null]))]] (fun u : Nat × (Nat → Nat) => (fun (od : Nat) (ad : Nat → Nat) => none) (u.1) (u.2)) (fun u : Nat × (Nat → Nat) => (fun (od : Nat) (ad : Nat → Nat) => True) (u.1) (u.2)) (fun u : Nat × (Nat → Nat) => (fun (od : Nat) (ad : Nat → Nat) => [bFo g fo o lo od, bTown g od ad 0 0 0 20 6 50 0 1 (fun _ _ => 0)]) (u.1) (u.2)) := by
  refine zM'.of (cc := cX0_init) (maxL := 3) (rt := none) (by decide) rfl (Nat.le_of_ble_eq_true rfl) ?_
  intro p e s m args below meth c A ls St hr hlocks hin hK hT hA hP hD hS hl
  obtain ⟨hx, hb, hml, hown, hts⟩ := id St
  have hl : lv_has ls 3 [(0, .ref fo), (1, .ref o), (2, .ref lo)] := hl
  refine lv_aload_n hx hb dX0_init_0 rfl (lv_at hl 0 rfl) ?_
  refine W.objInit hx hb hown (hts (.methodLink RX0 3 objectInit) k21) (hts (.instanceMethod objectInit) k2) (hts (.code objectInit ⟨#[0xb1]⟩ 1 none) k3) rfl (by rw [hml]; exact hl.1) rfl dX0_init_1 (Nat.le_of_ble_eq_true rfl) (Nat.le_of_ble_eq_true rfl) ?_
  refine W.eq (g2 := F0 m 4 ls []) rfl ?_
  refine lv_aload_n hx hb dX0_init_4 rfl (lv_at hl 0 rfl) ?_
  refine znew (g := g) (ci := 7) (fs := [.int 0, .int 0, .int 0, .int 0, .int 0, .int 0, .int 0, .int 0, .null, .null, .null, .null, .null, .null, .null, .null, .null, .null, .null]) (C := RX9) (T := TX9) (N := 19) hx hb hts izRX9 tyX9 tyX9_ok hown (hts _ k22) (hts _ k23) (hts _ k24) hK hP hD hS hA rfl (fun j hj => by rcases (show j = 0 ∨ j = 1 ∨ j = 2 ∨ j = 3 ∨ j = 4 ∨ j = 5 ∨ j = 6 ∨ j = 7 ∨ j = 8 ∨ j = 9 ∨ j = 10 ∨ j = 11 ∨ j = 12 ∨ j = 13 ∨ j = 14 ∨ j = 15 ∨ j = 16 ∨ j = 17 ∨ j = 18 by omega) with rfl | rfl | rfl | rfl | rfl | rfl | rfl | rfl | rfl | rfl | rfl | rfl | rfl | rfl | rfl | rfl | rfl | rfl | rfl <;> rfl) (Nat.le_of_ble_eq_true rfl) (Nat.le_of_ble_eq_true rfl) dX0_init_5 (fun q1 H hP hD hS => ?_)
  have hP : va_P g.1 vwCl (List.flatten [[(fo, .inr (0, [.null, .null, .null]))], [(q1, .inr (7, [.int 0, .int 0, .int 0, .int 0, .int 0, .int 0, .int 0, .int 0, .null, .null, .null, .null, .null, .null, .null, .null, .null, .null, .null]))]]) H := hP
  have hD : va_D A (List.flatten [[(fo, .inr (0, [.null, .null, .null]))], [(q1, .inr (7, [.int 0, .int 0, .int 0, .int 0, .int 0, .int 0, .int 0, .int 0, .null, .null, .null, .null, .null, .null, .null, .null, .null, .null, .null]))]]) := hD
  refine W.widen (k := 1) (n := 19) (Nat.le_of_ble_eq_true rfl) (Nat.le_of_ble_eq_true rfl) ?_
  refine lv_dup hx hb dX0_init_8 rfl ?_
  refine mcallIN' (g := g) (As := []) (rest := [.ref q1, .ref fo]) St hK hT hA hP hD hS hl.1 [1] [0] rfl rfl rfl (c_Town_init l g q1 ) ⟨va_cnB (host := "DryRiver") 0 hts (zgI k0) rfl rfl rfl (hT.1.2.2.2.1 (RX0, 11, yX9_init) (List.mem_of_getElem? (i := 0) rfl)) (hts _ k24) (by decide +kernel) ⟨Nat.le_of_ble_eq_true rfl, Nat.le_of_ble_eq_true rfl⟩, rfl, hts _ k28⟩ rfl rfl (Nat.le_of_ble_eq_true rfl) dX0_init_9 ⟨(Nat.le_of_ble_eq_true rfl), (Nat.le_of_ble_eq_true rfl)⟩ (fun a_2 H locs hq3 hP hD hS => ?_)
  have hP : va_P g.1 vwCl (List.flatten [[(fo, .inr (0, [.null, .null, .null]))], bTown g q1 a_2 0 0 0 20 6 50 0 1 (fun _ _ => 0)]) H := hP
  have hD : va_D A (List.flatten [[(fo, .inr (0, [.null, .null, .null]))], bTown g q1 a_2 0 0 0 20 6 50 0 1 (fun _ _ => 0)]) := hD
  refine W.widen (k := 12) (n := 155) (Nat.le_of_ble_eq_true rfl) (Nat.le_of_ble_eq_true rfl) ?_
  refine W.eq (g2 := F0 m 12 ls [.ref q1, .ref fo]) rfl ?_
  refine va_putF (D := g.1) (ci := 0) (v := .ref q1) (ty := tyX0 2) (C := RX0) (T := TX0) (N := 3) hx hb hts izRX0 tyX0 tyX0_ok nmX0 hown hK hP hD hS 0 rfl rfl 2 (by decide) (hts _ k25) (fun _ h9 => h9) rfl hin rfl (by decide +kernel) rfl rfl (Nat.le_of_ble_eq_true rfl) dX0_init_12 (fun H locs hP hD hS => ?_)
  have hP : va_P g.1 vwCl (List.flatten [[(fo, .inr (0, [.null, .null, .ref q1]))], bTown g q1 a_2 0 0 0 20 6 50 0 1 (fun _ _ => 0)]) H := hP
  have hD : va_D A (List.flatten [[(fo, .inr (0, [.null, .null, .ref q1]))], bTown g q1 a_2 0 0 0 20 6 50 0 1 (fun _ _ => 0)]) := hD
  refine lv_aload_n hx hb dX0_init_15 rfl (lv_at hl 0 rfl) ?_
  refine lv_aload_n hx hb dX0_init_16 rfl (lv_at hl 1 rfl) ?_
  refine va_putF (D := g.1) (ci := 0) (v := .ref o) (ty := tyX0 0) (C := RX0) (T := TX0) (N := 3) hx hb hts izRX0 tyX0 tyX0_ok nmX0 hown hK hP hD hS 0 rfl rfl 0 (by decide) (hts _ k26) (fun _ h9 => h9) rfl hin rfl (by decide +kernel) rfl rfl (Nat.le_of_ble_eq_true rfl) dX0_init_17 (fun H locs hP hD hS => ?_)
  have hP : va_P g.1 vwCl (List.flatten [[(fo, .inr (0, [.ref o, .null, .ref q1]))], bTown g q1 a_2 0 0 0 20 6 50 0 1 (fun _ _ => 0)]) H := hP
  have hD : va_D A (List.flatten [[(fo, .inr (0, [.ref o, .null, .ref q1]))], bTown g q1 a_2 0 0 0 20 6 50 0 1 (fun _ _ => 0)]) := hD
  refine lv_aload_n hx hb dX0_init_20 rfl (lv_at hl 0 rfl) ?_
  refine lv_aload_n hx hb dX0_init_21 rfl (lv_at hl 2 rfl) ?_
  refine va_putF (D := g.1) (ci := 0) (v := .ref lo) (ty := tyX0 1) (C := RX0) (T := TX0) (N := 3) hx hb hts izRX0 tyX0 tyX0_ok nmX0 hown hK hP hD hS 0 rfl rfl 1 (by decide) (hts _ k27) (fun _ h9 => h9) rfl hin rfl (by decide +kernel) rfl rfl (Nat.le_of_ble_eq_true rfl) dX0_init_22 (fun H locs hP hD hS => ?_)
  have hP : va_P g.1 vwCl (List.flatten [[(fo, .inr (0, [.ref o, .ref lo, .ref q1]))], bTown g q1 a_2 0 0 0 20 6 50 0 1 (fun _ _ => 0)]) H := hP
  have hD : va_D A (List.flatten [[(fo, .inr (0, [.ref o, .ref lo, .ref q1]))], bTown g q1 a_2 0 0 0 20 6 50 0 1 (fun _ _ => 0)]) := hD
  have hP : va_P g.1 vwCl (List.flatten [bFo g fo o lo q1, bTown g q1 a_2 0 0 0 20 6 50 0 1 (fun _ _ => 0)]) H := hP
  have hD : va_D A (List.flatten [bFo g fo o lo q1, bTown g q1 a_2 0 0 0 20 6 50 0 1 (fun _ _ => 0)]) := hD
  exact mret_v hx hb hr hlocks hS (Nat.le_of_ble_eq_true rfl) (Nat.le_of_ble_eq_true rfl) dX0_init_25 (q1, a_2) rfl trivial hP hD
