set_option maxRecDepth 100000 in
set_option maxHeartbeats 4000000 in
theorem c_x_feed (l : Launch) (g : zG) (x : Nat) (ta : Nat) (o : Nat) (lo : Nat) (go : Nat) (tt : Nat) (lt : Nat) (mo : Nat) (fo : Nat) (ro : Nat) (fl9 : Int32) (ab : Nat) (sz : Int32) (ln : Int32) (kd : Int32) (bg : Int32) (nx : Int32) (ft : Int32) (fb : Nat → Int32) (a1 : Int32) (a2 : Int32) (a3 : Int32) (a4 : Int32) (a5 : Int32) (b_sz : 0 ≤ sz.toInt ∧ sz.toInt ≤ 400) : zM' g l yX11_feed (Cond.code yX11_feed cX11_feed 6 (some .int) :: zB) ({ frames := 1, cells := 0, slots := 0, locals := 22 } : Room) [.ref x, .int a1, .int a2, .int a3, .int a4, .int a5] [bDR g x ta o lo go tt lt mo fo ro fl9, bTape g ta ab sz ln kd bg nx ft fb] (fun u : Int32 × (Nat → Int32) × Int32 => (fun (sz2 : Int32) (fb2 : Nat → Int32) (q : Int32) => some (.int q)) (u.1) (u.2.1) (u.2.2)) (fun u : Int32 × (Nat → Int32) × Int32 => (fun (sz2 : Int32) (fb2 : Nat → Int32) (q : Int32) => (0 ≤ sz2.toInt ∧ sz2.toInt ≤ 400) ∧ ((380 < sz.toInt → sz2.toInt = sz.toInt) ∧ (sz.toInt ≤ 380 → sz2.toInt = sz.toInt + 20))) (u.1) (u.2.1) (u.2.2)) (fun u : Int32 × (Nat → Int32) × Int32 => (fun (sz2 : Int32) (fb2 : Nat → Int32) (q : Int32) => [bDR g x ta o lo go tt lt mo fo ro fl9, bTape g ta ab sz2 ln kd bg nx ft fb2]) (u.1) (u.2.1) (u.2.2)) := by
  refine zM'.of (cc := cX11_feed) (maxL := 6) (rt := (some .int)) (by decide) rfl (Nat.le_of_ble_eq_true rfl) ?_
  intro p e s m args below meth c A ls St hr hlocks hin hK hT hA hP hD hS hl
  obtain ⟨hx, hb, hml, hown, hts⟩ := id St
  have hl : lv_has ls 6 [(0, .ref x), (1, .int a1), (2, .int a2), (3, .int a3), (4, .int a4), (5, .int a5)] := hl
  refine lv_aload_n hx hb dX11_feed_0 rfl (lv_at hl 0 rfl) ?_
  refine va_get (D := g.1) (ci := 9) (v := .ref ta) (C := RX11) (T := TX11) (N := 10) hx hb hts izRX11 hown hK hP 0 rfl rfl 0 (by decide) (hts _ k536) (fun _ h9 => h9) rfl dX11_feed_1 ?_
  refine va_get (D := g.1) (ci := 6) (v := .int sz) (C := RX6) (T := TX6) (N := 7) hx hb hts izRX6 hown hK hP 1 rfl rfl 1 (by decide) (hts _ k571) (fun _ h9 => h9) rfl dX11_feed_4 ?_
  refine lv_sipush (v := 380) hx hb dX11_feed_7 (by decide) ?_
  refine lv_icmp_le (tgt := 15) hx hb dX11_feed_10 (by decide) (fun cb9 => ?_) (fun cb9 => ?_)
  · skip
    have c1 : sz.toInt ≤ 380 := zle cb9 rfl (by decide)
    have n2 : sz.toInt ≤ 380 := Int.le_trans c1 (Int.le_refl _)
    refine lv_aload_n hx hb dX11_feed_15 rfl (lv_at hl 0 rfl) ?_
    refine va_get (D := g.1) (ci := 9) (v := .ref ta) (C := RX11) (T := TX11) (N := 10) hx hb hts izRX11 hown hK hP 0 rfl rfl 0 (by decide) (hts _ k536) (fun _ h9 => h9) rfl dX11_feed_16 ?_
    refine lv_iload_n hx hb dX11_feed_19 rfl (lv_at hl 1 rfl) ?_
    refine mcallV' (g := g) (q0 := 0) (ci := 6) (As := [.int a1]) (rest := []) St hK hT hA hP hD hS hl.1 [1] [0] rfl rfl rfl (c_t_add l g ta ab sz ln kd bg nx ft fb a1 b_sz (by first | assumption | omega | decide | exact Or.inl (by decide) | exact Or.inr (by decide))) (cwV 1 hts (zgL (zl4 k572 k573 k574 k277) k422) rfl rfl rfl (by decide +kernel) ⟨Nat.le_of_ble_eq_true rfl, Nat.le_of_ble_eq_true rfl⟩) rfl rfl rfl rfl (Nat.le_of_ble_eq_true rfl) dX11_feed_20 ⟨(Nat.le_of_ble_eq_true rfl), (Nat.le_of_ble_eq_true rfl)⟩ (fun u_ H locs hq5 hP hD hS => ?_)
    obtain ⟨sz2_3, fb2_4⟩ := u_
    replace hq5 : (0 ≤ sz2_3.toInt ∧ sz2_3.toInt ≤ 400) ∧ (sz2_3.toInt = sz.toInt + 4) := hq5
    have hP : va_P g.1 vwCl (List.flatten [bDR g x ta o lo go tt lt mo fo ro fl9, bTape g ta ab sz2_3 ln kd bg nx ft fb2_4]) H := hP
    have hD : va_D A (List.flatten [bDR g x ta o lo go tt lt mo fo ro fl9, bTape g ta ab sz2_3 ln kd bg nx ft fb2_4]) := hD
    refine W.widen (k := 0) (n := 0) (Nat.le_of_ble_eq_true rfl) (Nat.le_of_ble_eq_true rfl) ?_
    refine W.eq (g2 := F0 m 23 ls []) rfl ?_
    obtain ⟨hq5_0, hq5_1⟩ := hq5
    refine lv_aload_n hx hb dX11_feed_23 rfl (lv_at hl 0 rfl) ?_
    refine va_get (D := g.1) (ci := 9) (v := .ref ta) (C := RX11) (T := TX11) (N := 10) hx hb hts izRX11 hown hK hP 0 rfl rfl 0 (by decide) (hts _ k536) (fun _ h9 => h9) rfl dX11_feed_24 ?_
    refine lv_iload_n hx hb dX11_feed_27 rfl (lv_at hl 2 rfl) ?_
    refine mcallV' (g := g) (q0 := 0) (ci := 6) (As := [.int a2]) (rest := []) St hK hT hA hP hD hS hl.1 [1] [0] rfl rfl rfl (c_t_add l g ta ab sz2_3 ln kd bg nx ft fb2_4 a2 hq5_0 (by first | assumption | omega | decide | exact Or.inl (by decide) | exact Or.inr (by decide))) (cwV 1 hts (zgL (zl4 k572 k573 k574 k277) k422) rfl rfl rfl (by decide +kernel) ⟨Nat.le_of_ble_eq_true rfl, Nat.le_of_ble_eq_true rfl⟩) rfl rfl rfl rfl (Nat.le_of_ble_eq_true rfl) dX11_feed_28 ⟨(Nat.le_of_ble_eq_true rfl), (Nat.le_of_ble_eq_true rfl)⟩ (fun u_ H locs hq8 hP hD hS => ?_)
    obtain ⟨sz2_6, fb2_7⟩ := u_
    replace hq8 : (0 ≤ sz2_6.toInt ∧ sz2_6.toInt ≤ 400) ∧ (sz2_6.toInt = sz2_3.toInt + 4) := hq8
    have hP : va_P g.1 vwCl (List.flatten [bDR g x ta o lo go tt lt mo fo ro fl9, bTape g ta ab sz2_6 ln kd bg nx ft fb2_7]) H := hP
    have hD : va_D A (List.flatten [bDR g x ta o lo go tt lt mo fo ro fl9, bTape g ta ab sz2_6 ln kd bg nx ft fb2_7]) := hD
    refine W.widen (k := 0) (n := 0) (Nat.le_of_ble_eq_true rfl) (Nat.le_of_ble_eq_true rfl) ?_
    refine W.eq (g2 := F0 m 31 ls []) rfl ?_
    obtain ⟨hq8_0, hq8_1⟩ := hq8
    refine lv_aload_n hx hb dX11_feed_31 rfl (lv_at hl 0 rfl) ?_
    refine va_get (D := g.1) (ci := 9) (v := .ref ta) (C := RX11) (T := TX11) (N := 10) hx hb hts izRX11 hown hK hP 0 rfl rfl 0 (by decide) (hts _ k536) (fun _ h9 => h9) rfl dX11_feed_32 ?_
    refine lv_iload_n hx hb dX11_feed_35 rfl (lv_at hl 3 rfl) ?_
    refine mcallV' (g := g) (q0 := 0) (ci := 6) (As := [.int a3]) (rest := []) St hK hT hA hP hD hS hl.1 [1] [0] rfl rfl rfl (c_t_add l g ta ab sz2_6 ln kd bg nx ft fb2_7 a3 hq8_0 (by first | assumption | omega | decide | exact Or.inl (by decide) | exact Or.inr (by decide))) (cwV 1 hts (zgL (zl4 k572 k573 k574 k277) k422) rfl rfl rfl (by decide +kernel) ⟨Nat.le_of_ble_eq_true rfl, Nat.le_of_ble_eq_true rfl⟩) rfl rfl rfl rfl (Nat.le_of_ble_eq_true rfl) dX11_feed_36 ⟨(Nat.le_of_ble_eq_true rfl), (Nat.le_of_ble_eq_true rfl)⟩ (fun u_ H locs hq11 hP hD hS => ?_)
    obtain ⟨sz2_9, fb2_10⟩ := u_
    replace hq11 : (0 ≤ sz2_9.toInt ∧ sz2_9.toInt ≤ 400) ∧ (sz2_9.toInt = sz2_6.toInt + 4) := hq11
    have hP : va_P g.1 vwCl (List.flatten [bDR g x ta o lo go tt lt mo fo ro fl9, bTape g ta ab sz2_9 ln kd bg nx ft fb2_10]) H := hP
    have hD : va_D A (List.flatten [bDR g x ta o lo go tt lt mo fo ro fl9, bTape g ta ab sz2_9 ln kd bg nx ft fb2_10]) := hD
    refine W.widen (k := 0) (n := 0) (Nat.le_of_ble_eq_true rfl) (Nat.le_of_ble_eq_true rfl) ?_
    refine W.eq (g2 := F0 m 39 ls []) rfl ?_
    obtain ⟨hq11_0, hq11_1⟩ := hq11
    refine lv_aload_n hx hb dX11_feed_39 rfl (lv_at hl 0 rfl) ?_
    refine va_get (D := g.1) (ci := 9) (v := .ref ta) (C := RX11) (T := TX11) (N := 10) hx hb hts izRX11 hown hK hP 0 rfl rfl 0 (by decide) (hts _ k536) (fun _ h9 => h9) rfl dX11_feed_40 ?_
    refine lv_iload hx hb dX11_feed_43 (lv_at hl 4 rfl) ?_
    refine mcallV' (g := g) (q0 := 0) (ci := 6) (As := [.int a4]) (rest := []) St hK hT hA hP hD hS hl.1 [1] [0] rfl rfl rfl (c_t_add l g ta ab sz2_9 ln kd bg nx ft fb2_10 a4 hq11_0 (by first | assumption | omega | decide | exact Or.inl (by decide) | exact Or.inr (by decide))) (cwV 1 hts (zgL (zl4 k572 k573 k574 k277) k422) rfl rfl rfl (by decide +kernel) ⟨Nat.le_of_ble_eq_true rfl, Nat.le_of_ble_eq_true rfl⟩) rfl rfl rfl rfl (Nat.le_of_ble_eq_true rfl) dX11_feed_45 ⟨(Nat.le_of_ble_eq_true rfl), (Nat.le_of_ble_eq_true rfl)⟩ (fun u_ H locs hq14 hP hD hS => ?_)
    obtain ⟨sz2_12, fb2_13⟩ := u_
    replace hq14 : (0 ≤ sz2_12.toInt ∧ sz2_12.toInt ≤ 400) ∧ (sz2_12.toInt = sz2_9.toInt + 4) := hq14
    have hP : va_P g.1 vwCl (List.flatten [bDR g x ta o lo go tt lt mo fo ro fl9, bTape g ta ab sz2_12 ln kd bg nx ft fb2_13]) H := hP
    have hD : va_D A (List.flatten [bDR g x ta o lo go tt lt mo fo ro fl9, bTape g ta ab sz2_12 ln kd bg nx ft fb2_13]) := hD
    refine W.widen (k := 0) (n := 0) (Nat.le_of_ble_eq_true rfl) (Nat.le_of_ble_eq_true rfl) ?_
    refine W.eq (g2 := F0 m 48 ls []) rfl ?_
    obtain ⟨hq14_0, hq14_1⟩ := hq14
    refine lv_aload_n hx hb dX11_feed_48 rfl (lv_at hl 0 rfl) ?_
    refine va_get (D := g.1) (ci := 9) (v := .ref ta) (C := RX11) (T := TX11) (N := 10) hx hb hts izRX11 hown hK hP 0 rfl rfl 0 (by decide) (hts _ k536) (fun _ h9 => h9) rfl dX11_feed_49 ?_
    refine lv_iload hx hb dX11_feed_52 (lv_at hl 5 rfl) ?_
    refine mcallV' (g := g) (q0 := 0) (ci := 6) (As := [.int a5]) (rest := []) St hK hT hA hP hD hS hl.1 [1] [0] rfl rfl rfl (c_t_add l g ta ab sz2_12 ln kd bg nx ft fb2_13 a5 hq14_0 (by first | assumption | omega | decide | exact Or.inl (by decide) | exact Or.inr (by decide))) (cwV 1 hts (zgL (zl4 k572 k573 k574 k277) k422) rfl rfl rfl (by decide +kernel) ⟨Nat.le_of_ble_eq_true rfl, Nat.le_of_ble_eq_true rfl⟩) rfl rfl rfl rfl (Nat.le_of_ble_eq_true rfl) dX11_feed_54 ⟨(Nat.le_of_ble_eq_true rfl), (Nat.le_of_ble_eq_true rfl)⟩ (fun u_ H locs hq17 hP hD hS => ?_)
    obtain ⟨sz2_15, fb2_16⟩ := u_
    replace hq17 : (0 ≤ sz2_15.toInt ∧ sz2_15.toInt ≤ 400) ∧ (sz2_15.toInt = sz2_12.toInt + 4) := hq17
    have hP : va_P g.1 vwCl (List.flatten [bDR g x ta o lo go tt lt mo fo ro fl9, bTape g ta ab sz2_15 ln kd bg nx ft fb2_16]) H := hP
    have hD : va_D A (List.flatten [bDR g x ta o lo go tt lt mo fo ro fl9, bTape g ta ab sz2_15 ln kd bg nx ft fb2_16]) := hD
    refine W.widen (k := 0) (n := 0) (Nat.le_of_ble_eq_true rfl) (Nat.le_of_ble_eq_true rfl) ?_
    refine W.eq (g2 := F0 m 57 ls []) rfl ?_
    obtain ⟨hq17_0, hq17_1⟩ := hq17
    refine lv_aload_n hx hb dX11_feed_57 rfl (lv_at hl 0 rfl) ?_
    refine va_get (D := g.1) (ci := 9) (v := .ref ta) (C := RX11) (T := TX11) (N := 10) hx hb hts izRX11 hown hK hP 0 rfl rfl 0 (by decide) (hts _ k536) (fun _ h9 => h9) rfl dX11_feed_58 ?_
    refine va_get (D := g.1) (ci := 6) (v := .int sz2_15) (C := RX6) (T := TX6) (N := 7) hx hb hts izRX6 hown hK hP 1 rfl rfl 1 (by decide) (hts _ k571) (fun _ h9 => h9) rfl dX11_feed_61 ?_
    have hP : va_P g.1 vwCl (List.flatten [bDR g x ta o lo go tt lt mo fo ro fl9, bTape g ta ab sz2_15 ln kd bg nx ft fb2_16]) H := hP
    have hD : va_D A (List.flatten [bDR g x ta o lo go tt lt mo fo ro fl9, bTape g ta ab sz2_15 ln kd bg nx ft fb2_16]) := hD
    exact mret_i hx hb hr hlocks hS (Nat.le_of_ble_eq_true rfl) (Nat.le_of_ble_eq_true rfl) dX11_feed_64 (sz2_15, fb2_16, sz2_15) rfl (show (0 ≤ sz2_15.toInt ∧ sz2_15.toInt ≤ 400) ∧ ((380 < sz.toInt → sz2_15.toInt = sz.toInt) ∧ (sz.toInt ≤ 380 → sz2_15.toInt = sz.toInt + 20)) from ⟨hq17_0, (by first | assumption | omega | decide | exact rfl | exact zb01 (by omega) | exact Or.inl (by decide) | exact Or.inr (by first | omega | decide))⟩) hP hD
  · skip
    have c18 : 380 < sz.toInt := zlti (Int32.not_le.mp cb9) (by decide) rfl
    have n19 : 381 ≤ sz.toInt := zL2 (a := 380) c18 (Int.le_refl _) (by decide)
    refine lv_iconst (v := (-1)) hx hb dX11_feed_13 (by decide) ?_
    have hP : va_P g.1 vwCl (List.flatten [bDR g x ta o lo go tt lt mo fo ro fl9, bTape g ta ab sz ln kd bg nx ft fb]) s.heap := hP
    have hD : va_D A (List.flatten [bDR g x ta o lo go tt lt mo fo ro fl9, bTape g ta ab sz ln kd bg nx ft fb]) := hD
    exact mret_i hx hb hr hlocks hS (Nat.le_of_ble_eq_true rfl) (Nat.le_of_ble_eq_true rfl) dX11_feed_14 (sz, fb, -1) rfl (show (0 ≤ sz.toInt ∧ sz.toInt ≤ 400) ∧ ((380 < sz.toInt → sz.toInt = sz.toInt) ∧ (sz.toInt ≤ 380 → sz.toInt = sz.toInt + 20)) from ⟨b_sz, (by first | assumption | omega | decide | exact rfl | exact zb01 (by omega) | exact Or.inl (by decide) | exact Or.inr (by first | omega | decide))⟩) hP hD
