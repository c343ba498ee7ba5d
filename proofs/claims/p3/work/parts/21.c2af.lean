set_option maxRecDepth 100000 in
set_option maxHeartbeats 4000000 in
theorem c_t_open (l : Launch) (g : zG) (ta : Nat) (ab : Nat) (sz : Int32) (ln : Int32) (kd : Int32) (bg : Int32) (nx : Int32) (ft : Int32) (fb : Nat → Int32) (n : Int32) (b_n : 0 ≤ n.toInt ∧ n.toInt ≤ 400) : zM' g l yX6_open (Cond.code yX6_open cX6_open 2 none :: zB) ({ frames := 1, cells := 0, slots := 0, locals := 21 } : Room) [.ref ta, .int n] [bTape g ta ab sz ln kd bg nx ft fb] (fun u : Int32 × Int32 × Int32 × Int32 => (fun (kd2 : Int32) (bg2 : Int32) (nx2 : Int32) (ln2 : Int32) => none) (u.1) (u.2.1) (u.2.2.1) (u.2.2.2)) (fun u : Int32 × Int32 × Int32 × Int32 => (fun (kd2 : Int32) (bg2 : Int32) (nx2 : Int32) (ln2 : Int32) => (0 ≤ nx2.toInt ∧ nx2.toInt ≤ 400) ∧ (0 ≤ bg2.toInt ∧ bg2.toInt ≤ 400) ∧ (zKd kd2.toInt bg2.toInt nx2.toInt) ∧ (0 ≤ ln2.toInt ∧ ln2.toInt ≤ 400)) (u.1) (u.2.1) (u.2.2.1) (u.2.2.2)) (fun u : Int32 × Int32 × Int32 × Int32 => (fun (kd2 : Int32) (bg2 : Int32) (nx2 : Int32) (ln2 : Int32) => [bTape g ta ab sz ln2 kd2 bg2 nx2 (-1) fb]) (u.1) (u.2.1) (u.2.2.1) (u.2.2.2)) := by
  refine zM'.of (cc := cX6_open) (maxL := 2) (rt := none) (by decide) rfl (Nat.le_of_ble_eq_true rfl) ?_
  intro p e s m args below meth c A ls St hr hlocks hin hK hT hA hP hD hS hl
  obtain ⟨hx, hb, hml, hown, hts⟩ := id St
  have hl : lv_has ls 2 [(0, .ref ta), (1, .int n)] := hl
  refine lv_aload_n hx hb dX6_open_0 rfl (lv_at hl 0 rfl) ?_
  refine lv_iload_n hx hb dX6_open_1 rfl (lv_at hl 1 rfl) ?_
  refine lv_sipush (v := 400) hx hb dX6_open_2 (by decide) ?_
  refine va_mmin hx hb (by rw [hml]; exact hl.1.symm) hown (hts _ k429) (hts _ k41) (hts _ k42) (hts _ k43) (Nat.le_of_ble_eq_true rfl) (Nat.le_of_ble_eq_true rfl) (Nat.le_of_ble_eq_true rfl) (Nat.le_of_ble_eq_true rfl) dX6_open_5 ?_
  refine zgmn (i := n.toInt) (j := 400) rfl (by decide) (fun x_1 hx_1 => ?_)
  refine va_put (D := g.1) (ci := 6) (v := .int x_1) (ty := .int) (C := RX6) (T := TX6) (N := 7) hx hb hts izRX6 tyX6 tyX6_ok nmX6 hown hK hP hD hS 0 rfl rfl 2 (by decide) (hts _ k272) (fun _ h9 => h9) rfl (by decide +kernel) rfl rfl (Nat.le_of_ble_eq_true rfl) dX6_open_8 (fun H locs hP hD hS => ?_)
  have hP : va_P g.1 vwCl (List.flatten [bTape g ta ab sz x_1 kd bg nx ft fb]) H := hP
  have hD : va_D A (List.flatten [bTape g ta ab sz x_1 kd bg nx ft fb]) := hD
  refine lv_aload_n hx hb dX6_open_11 rfl (lv_at hl 0 rfl) ?_
  refine lv_iconst (v := 0) hx hb dX6_open_12 (by decide) ?_
  refine va_put (D := g.1) (ci := 6) (v := .int 0) (ty := .int) (C := RX6) (T := TX6) (N := 7) hx hb hts izRX6 tyX6 tyX6_ok nmX6 hown hK hP hD hS 0 rfl rfl 5 (by decide) (hts _ k259) (fun _ h9 => h9) rfl (by decide +kernel) rfl rfl (Nat.le_of_ble_eq_true rfl) dX6_open_13 (fun H locs hP hD hS => ?_)
  have hP : va_P g.1 vwCl (List.flatten [bTape g ta ab sz x_1 kd bg 0 ft fb]) H := hP
  have hD : va_D A (List.flatten [bTape g ta ab sz x_1 kd bg 0 ft fb]) := hD
  refine lv_aload_n hx hb dX6_open_16 rfl (lv_at hl 0 rfl) ?_
  refine lv_iconst (v := (-1)) hx hb dX6_open_17 (by decide) ?_
  refine va_put (D := g.1) (ci := 6) (v := .int (-1)) (ty := .int) (C := RX6) (T := TX6) (N := 7) hx hb hts izRX6 tyX6 tyX6_ok nmX6 hown hK hP hD hS 0 rfl rfl 6 (by decide) (hts _ k270) (fun _ h9 => h9) rfl (by decide +kernel) rfl rfl (Nat.le_of_ble_eq_true rfl) dX6_open_18 (fun H locs hP hD hS => ?_)
  have hP : va_P g.1 vwCl (List.flatten [bTape g ta ab sz x_1 kd bg 0 (-1) fb]) H := hP
  have hD : va_D A (List.flatten [bTape g ta ab sz x_1 kd bg 0 (-1) fb]) := hD
  refine lv_aload_n hx hb dX6_open_21 rfl (lv_at hl 0 rfl) ?_
  have hL0 : (0 : Int32).toInt = 0 := by decide
  refine mcallV' (g := g) (q0 := 0) (ci := 6) (As := []) (rest := []) St hK hT hA hP hD hS hl.1 [0] [] rfl rfl rfl (c_t_step l g ta ab sz x_1 kd bg 0 (-1) fb (by first | assumption | omega | decide | exact Or.inl (by decide) | exact Or.inr (by decide)) (by decide)) (cwV 0 hts (zgL (zl4 k274 k275 k276 k277) k271) rfl rfl rfl (by decide +kernel) ⟨Nat.le_of_ble_eq_true rfl, Nat.le_of_ble_eq_true rfl⟩) rfl rfl rfl rfl (Nat.le_of_ble_eq_true rfl) dX6_open_22 ⟨(Nat.le_of_ble_eq_true rfl), (Nat.le_of_ble_eq_true rfl)⟩ (fun u_ H locs hq5 hP hD hS => ?_)
  obtain ⟨kd2_2, bg2_3, nx2_4⟩ := u_
  replace hq5 : (0 ≤ nx2_4.toInt ∧ nx2_4.toInt ≤ 400) ∧ (0 ≤ bg2_3.toInt ∧ bg2_3.toInt ≤ 400) ∧ (zKd kd2_2.toInt bg2_3.toInt nx2_4.toInt) := hq5
  have hP : va_P g.1 vwCl (List.flatten [bTape g ta ab sz x_1 kd2_2 bg2_3 nx2_4 (-1) fb]) H := hP
  have hD : va_D A (List.flatten [bTape g ta ab sz x_1 kd2_2 bg2_3 nx2_4 (-1) fb]) := hD
  refine W.widen (k := 0) (n := 0) (Nat.le_of_ble_eq_true rfl) (Nat.le_of_ble_eq_true rfl) ?_
  refine W.eq (g2 := F0 m 25 ls []) rfl ?_
  obtain ⟨hq5_0, hq5_1, hq5_2⟩ := hq5
  have hP : va_P g.1 vwCl (List.flatten [bTape g ta ab sz x_1 kd2_2 bg2_3 nx2_4 (-1) fb]) H := hP
  have hD : va_D A (List.flatten [bTape g ta ab sz x_1 kd2_2 bg2_3 nx2_4 (-1) fb]) := hD
  exact mret_v hx hb hr hlocks hS (Nat.le_of_ble_eq_true rfl) (Nat.le_of_ble_eq_true rfl) dX6_open_25 (kd2_2, bg2_3, nx2_4, x_1) rfl (show (0 ≤ nx2_4.toInt ∧ nx2_4.toInt ≤ 400) ∧ (0 ≤ bg2_3.toInt ∧ bg2_3.toInt ≤ 400) ∧ (zKd kd2_2.toInt bg2_3.toInt nx2_4.toInt) ∧ (0 ≤ x_1.toInt ∧ x_1.toInt ≤ 400) from ⟨hq5_0, hq5_1, hq5_2, (by first | assumption | omega | decide | exact rfl | exact zb01 (by omega) | exact Or.inl (by decide) | exact Or.inr (by first | omega | decide))⟩) hP hD
