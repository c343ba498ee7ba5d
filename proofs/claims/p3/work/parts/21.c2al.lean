set_option maxRecDepth 100000 in
set_option maxHeartbeats 4000000 in
theorem c_t_needSign (l : Launch) (g : zG) (ta : Nat) (ab : Nat) (sz : Int32) (ln : Int32) (kd : Int32) (bg : Int32) (nx : Int32) (ft : Int32) (fb : Nat → Int32) (sg : Int32) (hln : 0 ≤ ln.toInt ∧ ln.toInt ≤ 400) (hnx : 0 ≤ nx.toInt ∧ nx.toInt ≤ 400) (hbg : 0 ≤ bg.toInt ∧ bg.toInt ≤ 400) (hkd : zKd kd.toInt bg.toInt nx.toInt) (hft : -1 ≤ ft.toInt) : zM' g l yX6_needSign (Cond.code yX6_needSign cX6_needSign 2 (some .boolean) :: zB) ({ frames := 2, cells := 0, slots := 0, locals := 42 } : Room) [.ref ta, .int sg] [bTape g ta ab sz ln kd bg nx ft fb] (fun u : Int32 × Int32 × Int32 × Int32 × Int32 => (fun (kd2 : Int32) (bg2 : Int32) (nx2 : Int32) (ft2 : Int32) (q : Int32) => some (.int q)) (u.1) (u.2.1) (u.2.2.1) (u.2.2.2.1) (u.2.2.2.2)) (fun u : Int32 × Int32 × Int32 × Int32 × Int32 => (fun (kd2 : Int32) (bg2 : Int32) (nx2 : Int32) (ft2 : Int32) (q : Int32) => (0 ≤ nx2.toInt ∧ nx2.toInt ≤ 400) ∧ (0 ≤ bg2.toInt ∧ bg2.toInt ≤ 400) ∧ (zKd kd2.toInt bg2.toInt nx2.toInt) ∧ (-1 ≤ ft2.toInt) ∧ (q = 0 ∨ q = 1)) (u.1) (u.2.1) (u.2.2.1) (u.2.2.2.1) (u.2.2.2.2)) (fun u : Int32 × Int32 × Int32 × Int32 × Int32 => (fun (kd2 : Int32) (bg2 : Int32) (nx2 : Int32) (ft2 : Int32) (q : Int32) => [bTape g ta ab sz ln kd2 bg2 nx2 ft2 fb]) (u.1) (u.2.1) (u.2.2.1) (u.2.2.2.1) (u.2.2.2.2)) := by
  refine zM'.of (cc := cX6_needSign) (maxL := 2) (rt := (some .boolean)) (by decide) rfl (Nat.le_of_ble_eq_true rfl) ?_
  intro p e s m args below meth c A ls St hr hlocks hin hK hT hA hP hD hS hl
  obtain ⟨hx, hb, hml, hown, hts⟩ := id St
  have hl : lv_has ls 2 [(0, .ref ta), (1, .int sg)] := hl
  refine lv_aload_n hx hb dX6_needSign_0 rfl (lv_at hl 0 rfl) ?_
  refine lv_iload_n hx hb dX6_needSign_1 rfl (lv_at hl 1 rfl) ?_
  refine mcallV' (g := g) (q0 := 0) (ci := 6) (As := [.int sg]) (rest := []) St hK hT hA hP hD hS hl.1 [0] [] rfl rfl rfl (c_t_takeSign l g ta ab sz ln kd bg nx ft fb sg hln hnx hbg hkd hft) (cwV 1 hts (zgL (zl4 k433 k301 k302 k277) k286) rfl rfl rfl (by decide +kernel) ⟨Nat.le_of_ble_eq_true rfl, Nat.le_of_ble_eq_true rfl⟩) rfl rfl rfl rfl (Nat.le_of_ble_eq_true rfl) dX6_needSign_2 ⟨(Nat.le_of_ble_eq_true rfl), (Nat.le_of_ble_eq_true rfl)⟩ (fun u_ H locs hq5 hP hD hS => ?_)
  obtain ⟨kd2_1, bg2_2, nx2_3, q_4⟩ := u_
  replace hq5 : (0 ≤ nx2_3.toInt ∧ nx2_3.toInt ≤ 400) ∧ (0 ≤ bg2_2.toInt ∧ bg2_2.toInt ≤ 400) ∧ (zKd kd2_1.toInt bg2_2.toInt nx2_3.toInt) ∧ (q_4 = 0 ∨ q_4 = 1) := hq5
  have hP : va_P g.1 vwCl (List.flatten [bTape g ta ab sz ln kd2_1 bg2_2 nx2_3 ft fb]) H := hP
  have hD : va_D A (List.flatten [bTape g ta ab sz ln kd2_1 bg2_2 nx2_3 ft fb]) := hD
  refine W.widen (k := 0) (n := 0) (Nat.le_of_ble_eq_true rfl) (Nat.le_of_ble_eq_true rfl) ?_
  refine W.eq (g2 := F0 m 5 ls [.int q_4]) rfl ?_
  obtain ⟨hq5_0, hq5_1, hq5_2, hq5_3⟩ := hq5
  rcases hq5_3 with rfl | rfl
  · skip
    refine lv_if_ne (tgt := 15) hx hb dX6_needSign_5 (by decide) (fun c6 => absurd (by decide) c6) (fun _ => ?_)
    refine lv_aload_n hx hb dX6_needSign_8 rfl (lv_at hl 0 rfl) ?_
    refine mcallV' (g := g) (q0 := 0) (ci := 6) (As := []) (rest := []) St hK hT hA hP hD hS hl.1 [0] [] rfl rfl rfl (c_t_refuse l g ta ab sz ln kd2_1 bg2_2 nx2_3 ft fb hln hq5_0 hq5_1 hq5_2 hft) (cwV 0 hts (zgL (zl4 k278 k279 k280 k277) k269) rfl rfl rfl (by decide +kernel) ⟨Nat.le_of_ble_eq_true rfl, Nat.le_of_ble_eq_true rfl⟩) rfl rfl rfl rfl (Nat.le_of_ble_eq_true rfl) dX6_needSign_9 ⟨(Nat.le_of_ble_eq_true rfl), (Nat.le_of_ble_eq_true rfl)⟩ (fun ft2_7 H locs hq8 hP hD hS => ?_)
    replace hq8 : (-1 ≤ ft2_7.toInt) := hq8
    have hP : va_P g.1 vwCl (List.flatten [bTape g ta ab sz ln kd2_1 bg2_2 nx2_3 ft2_7 fb]) H := hP
    have hD : va_D A (List.flatten [bTape g ta ab sz ln kd2_1 bg2_2 nx2_3 ft2_7 fb]) := hD
    refine W.widen (k := 0) (n := 0) (Nat.le_of_ble_eq_true rfl) (Nat.le_of_ble_eq_true rfl) ?_
    refine W.eq (g2 := F0 m 12 ls [.int 0]) rfl ?_
    refine lv_if_eq (tgt := 19) hx hb dX6_needSign_12 (by decide) (fun _ => ?_) (fun c9 => absurd (by decide) c9)
    refine lv_iconst (v := 0) hx hb dX6_needSign_19 (by decide) ?_
    have hP : va_P g.1 vwCl (List.flatten [bTape g ta ab sz ln kd2_1 bg2_2 nx2_3 ft2_7 fb]) H := hP
    have hD : va_D A (List.flatten [bTape g ta ab sz ln kd2_1 bg2_2 nx2_3 ft2_7 fb]) := hD
    exact mret_z hx hb hr hlocks hS (Nat.le_of_ble_eq_true rfl) (Nat.le_of_ble_eq_true rfl) dX6_needSign_20 (kd2_1, bg2_2, nx2_3, ft2_7, (0 : Int32)) rfl (by decide) (show (0 ≤ nx2_3.toInt ∧ nx2_3.toInt ≤ 400) ∧ (0 ≤ bg2_2.toInt ∧ bg2_2.toInt ≤ 400) ∧ (zKd kd2_1.toInt bg2_2.toInt nx2_3.toInt) ∧ (-1 ≤ ft2_7.toInt) ∧ (0 = 0 ∨ 0 = 1) from ⟨hq5_0, hq5_1, hq5_2, hq8, (by decide)⟩) hP hD
  · skip
    refine lv_if_ne (tgt := 15) hx hb dX6_needSign_5 (by decide) (fun _ => ?_) (fun c10 => absurd c10 (by decide))
    refine lv_iconst (v := 1) hx hb dX6_needSign_15 (by decide) ?_
    refine lv_goto (tgt := 20) hx hb dX6_needSign_16 (by decide) ?_
    have hP : va_P g.1 vwCl (List.flatten [bTape g ta ab sz ln kd2_1 bg2_2 nx2_3 ft fb]) H := hP
    have hD : va_D A (List.flatten [bTape g ta ab sz ln kd2_1 bg2_2 nx2_3 ft fb]) := hD
    exact mret_z hx hb hr hlocks hS (Nat.le_of_ble_eq_true rfl) (Nat.le_of_ble_eq_true rfl) dX6_needSign_20 (kd2_1, bg2_2, nx2_3, ft, (1 : Int32)) rfl (by decide) (show (0 ≤ nx2_3.toInt ∧ nx2_3.toInt ≤ 400) ∧ (0 ≤ bg2_2.toInt ∧ bg2_2.toInt ≤ 400) ∧ (zKd kd2_1.toInt bg2_2.toInt nx2_3.toInt) ∧ (-1 ≤ ft.toInt) ∧ (1 = 0 ∨ 1 = 1) from ⟨hq5_0, hq5_1, hq5_2, hft, (by decide)⟩) hP hD
