set_option maxRecDepth 100000 in
set_option maxHeartbeats 4000000 in
theorem c_t_needWord (l : Launch) (g : zG) (ta : Nat) (ab : Nat) (sz : Int32) (ln : Int32) (kd : Int32) (bg : Int32) (nx : Int32) (ft : Int32) (fb : Nat → Int32) (k : Nat) (j : Nat) (q : String × Nat × String × List Int32) (hln : 0 ≤ ln.toInt ∧ ln.toInt ≤ 400) (hnx : 0 ≤ nx.toInt ∧ nx.toInt ≤ 400) (hbg : 0 ≤ bg.toInt ∧ bg.toInt ≤ 400) (hkd : zKd kd.toInt bg.toInt nx.toInt) (hft : -1 ≤ ft.toInt) (hk9 : k = g.2 (10 + 2 * j)) (hj9 : zLit[j]? = some q) (hql : 1 ≤ q.2.2.2.length ∧ q.2.2.2.length ≤ 7) : zM' g l yX6_needWord (Cond.code yX6_needWord cX6_needWord 2 (some .boolean) :: zB) ({ frames := 6, cells := 0, slots := 0, locals := 128 } : Room) [.ref ta, .ref k] [bTape g ta ab sz ln kd bg nx ft fb] (fun u : Int32 × Int32 × Int32 × Int32 × Int32 => (fun (kd2 : Int32) (bg2 : Int32) (nx2 : Int32) (ft2 : Int32) (r : Int32) => some (.int r)) (u.1) (u.2.1) (u.2.2.1) (u.2.2.2.1) (u.2.2.2.2)) (fun u : Int32 × Int32 × Int32 × Int32 × Int32 => (fun (kd2 : Int32) (bg2 : Int32) (nx2 : Int32) (ft2 : Int32) (r : Int32) => (0 ≤ nx2.toInt ∧ nx2.toInt ≤ 400) ∧ (0 ≤ bg2.toInt ∧ bg2.toInt ≤ 400) ∧ (zKd kd2.toInt bg2.toInt nx2.toInt) ∧ (-1 ≤ ft2.toInt) ∧ (r = 0 ∨ r = 1)) (u.1) (u.2.1) (u.2.2.1) (u.2.2.2.1) (u.2.2.2.2)) (fun u : Int32 × Int32 × Int32 × Int32 × Int32 => (fun (kd2 : Int32) (bg2 : Int32) (nx2 : Int32) (ft2 : Int32) (r : Int32) => [bTape g ta ab sz ln kd2 bg2 nx2 ft2 fb]) (u.1) (u.2.1) (u.2.2.1) (u.2.2.2.1) (u.2.2.2.2)) := by
  refine zM'.of (cc := cX6_needWord) (maxL := 2) (rt := (some .boolean)) (by decide) rfl (Nat.le_of_ble_eq_true rfl) ?_
  intro p e s m args below meth c A ls St hr hlocks hin hK hT hA hP hD hS hl
  obtain ⟨hx, hb, hml, hown, hts⟩ := id St
  have hl : lv_has ls 2 [(0, .ref ta), (1, .ref k)] := hl
  refine lv_aload_n hx hb dX6_needWord_0 rfl (lv_at hl 0 rfl) ?_
  refine lv_aload_n hx hb dX6_needWord_1 rfl (lv_at hl 1 rfl) ?_
  refine mcallV' (g := g) (q0 := 0) (ci := 6) (As := [.ref k]) (rest := []) St hK hT hA hP hD hS hl.1 [0] [] rfl rfl rfl (c_t_takeWord l g ta ab sz ln kd bg nx ft fb k j q hln hnx hbg hkd hft hk9 hj9 hql) (cwV 1 hts (zgL (zl4 k430 k311 k312 k277) k284) rfl rfl rfl (by decide +kernel) ⟨Nat.le_of_ble_eq_true rfl, Nat.le_of_ble_eq_true rfl⟩) rfl rfl rfl rfl (Nat.le_of_ble_eq_true rfl) dX6_needWord_2 ⟨(Nat.le_of_ble_eq_true rfl), (Nat.le_of_ble_eq_true rfl)⟩ (fun u_ H locs hq5 hP hD hS => ?_)
  obtain ⟨kd2_1, bg2_2, nx2_3, r_4⟩ := u_
  replace hq5 : (0 ≤ nx2_3.toInt ∧ nx2_3.toInt ≤ 400) ∧ (0 ≤ bg2_2.toInt ∧ bg2_2.toInt ≤ 400) ∧ (zKd kd2_1.toInt bg2_2.toInt nx2_3.toInt) ∧ (r_4 = 0 ∨ r_4 = 1) := hq5
  have hP : va_P g.1 vwCl (List.flatten [bTape g ta ab sz ln kd2_1 bg2_2 nx2_3 ft fb]) H := hP
  have hD : va_D A (List.flatten [bTape g ta ab sz ln kd2_1 bg2_2 nx2_3 ft fb]) := hD
  refine W.widen (k := 0) (n := 0) (Nat.le_of_ble_eq_true rfl) (Nat.le_of_ble_eq_true rfl) ?_
  refine W.eq (g2 := F0 m 5 ls [.int r_4]) rfl ?_
  obtain ⟨hq5_0, hq5_1, hq5_2, hq5_3⟩ := hq5
  rcases hq5_3 with rfl | rfl
  · skip
    refine lv_if_ne (tgt := 15) hx hb dX6_needWord_5 (by decide) (fun c6 => absurd (by decide) c6) (fun _ => ?_)
    refine lv_aload_n hx hb dX6_needWord_8 rfl (lv_at hl 0 rfl) ?_
    refine mcallV' (g := g) (q0 := 0) (ci := 6) (As := []) (rest := []) St hK hT hA hP hD hS hl.1 [0] [] rfl rfl rfl (c_t_refuse l g ta ab sz ln kd2_1 bg2_2 nx2_3 ft fb hln hq5_0 hq5_1 hq5_2 hft) (cwV 0 hts (zgL (zl4 k278 k279 k280 k277) k269) rfl rfl rfl (by decide +kernel) ⟨Nat.le_of_ble_eq_true rfl, Nat.le_of_ble_eq_true rfl⟩) rfl rfl rfl rfl (Nat.le_of_ble_eq_true rfl) dX6_needWord_9 ⟨(Nat.le_of_ble_eq_true rfl), (Nat.le_of_ble_eq_true rfl)⟩ (fun ft2_7 H locs hq8 hP hD hS => ?_)
    replace hq8 : (-1 ≤ ft2_7.toInt) := hq8
    have hP : va_P g.1 vwCl (List.flatten [bTape g ta ab sz ln kd2_1 bg2_2 nx2_3 ft2_7 fb]) H := hP
    have hD : va_D A (List.flatten [bTape g ta ab sz ln kd2_1 bg2_2 nx2_3 ft2_7 fb]) := hD
    refine W.widen (k := 0) (n := 0) (Nat.le_of_ble_eq_true rfl) (Nat.le_of_ble_eq_true rfl) ?_
    refine W.eq (g2 := F0 m 12 ls [.int 0]) rfl ?_
    refine lv_if_eq (tgt := 19) hx hb dX6_needWord_12 (by decide) (fun _ => ?_) (fun c9 => absurd (by decide) c9)
    refine lv_iconst (v := 0) hx hb dX6_needWord_19 (by decide) ?_
    have hP : va_P g.1 vwCl (List.flatten [bTape g ta ab sz ln kd2_1 bg2_2 nx2_3 ft2_7 fb]) H := hP
    have hD : va_D A (List.flatten [bTape g ta ab sz ln kd2_1 bg2_2 nx2_3 ft2_7 fb]) := hD
    exact mret_z hx hb hr hlocks hS (Nat.le_of_ble_eq_true rfl) (Nat.le_of_ble_eq_true rfl) dX6_needWord_20 (kd2_1, bg2_2, nx2_3, ft2_7, (0 : Int32)) rfl (by decide) (show (0 ≤ nx2_3.toInt ∧ nx2_3.toInt ≤ 400) ∧ (0 ≤ bg2_2.toInt ∧ bg2_2.toInt ≤ 400) ∧ (zKd kd2_1.toInt bg2_2.toInt nx2_3.toInt) ∧ (-1 ≤ ft2_7.toInt) ∧ (0 = 0 ∨ 0 = 1) from ⟨hq5_0, hq5_1, hq5_2, hq8, (by decide)⟩) hP hD
  · skip
    refine lv_if_ne (tgt := 15) hx hb dX6_needWord_5 (by decide) (fun _ => ?_) (fun c10 => absurd c10 (by decide))
    refine lv_iconst (v := 1) hx hb dX6_needWord_15 (by decide) ?_
    refine lv_goto (tgt := 20) hx hb dX6_needWord_16 (by decide) ?_
    have hP : va_P g.1 vwCl (List.flatten [bTape g ta ab sz ln kd2_1 bg2_2 nx2_3 ft fb]) H := hP
    have hD : va_D A (List.flatten [bTape g ta ab sz ln kd2_1 bg2_2 nx2_3 ft fb]) := hD
    exact mret_z hx hb hr hlocks hS (Nat.le_of_ble_eq_true rfl) (Nat.le_of_ble_eq_true rfl) dX6_needWord_20 (kd2_1, bg2_2, nx2_3, ft, (1 : Int32)) rfl (by decide) (show (0 ≤ nx2_3.toInt ∧ nx2_3.toInt ≤ 400) ∧ (0 ≤ bg2_2.toInt ∧ bg2_2.toInt ≤ 400) ∧ (zKd kd2_1.toInt bg2_2.toInt nx2_3.toInt) ∧ (-1 ≤ ft.toInt) ∧ (1 = 0 ∨ 1 = 1) from ⟨hq5_0, hq5_1, hq5_2, hft, (by decide)⟩) hP hD
