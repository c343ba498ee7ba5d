set_option maxRecDepth 100000 in
set_option maxHeartbeats 4000000 in
theorem c_t_takeWord (l : Launch) (g : zG) (ta : Nat) (ab : Nat) (sz : Int32) (ln : Int32) (kd : Int32) (bg : Int32) (nx : Int32) (ft : Int32) (fb : Nat → Int32) (k : Nat) (j : Nat) (q : String × Nat × String × List Int32) (hln : 0 ≤ ln.toInt ∧ ln.toInt ≤ 400) (hnx : 0 ≤ nx.toInt ∧ nx.toInt ≤ 400) (hbg : 0 ≤ bg.toInt ∧ bg.toInt ≤ 400) (hkd : zKd kd.toInt bg.toInt nx.toInt) (hft : -1 ≤ ft.toInt) (hk9 : k = g.2 (10 + 2 * j)) (hj9 : zLit[j]? = some q) (hql : 1 ≤ q.2.2.2.length ∧ q.2.2.2.length ≤ 7) : zM' g l yX6_takeWord (Cond.code yX6_takeWord cX6_takeWord 2 (some .boolean) :: zB) ({ frames := 5, cells := 0, slots := 0, locals := 107 } : Room) [.ref ta, .ref k] [bTape g ta ab sz ln kd bg nx ft fb] (fun u : Int32 × Int32 × Int32 × Int32 => (fun (kd2 : Int32) (bg2 : Int32) (nx2 : Int32) (r : Int32) => some (.int r)) (u.1) (u.2.1) (u.2.2.1) (u.2.2.2)) (fun u : Int32 × Int32 × Int32 × Int32 => (fun (kd2 : Int32) (bg2 : Int32) (nx2 : Int32) (r : Int32) => (0 ≤ nx2.toInt ∧ nx2.toInt ≤ 400) ∧ (0 ≤ bg2.toInt ∧ bg2.toInt ≤ 400) ∧ (zKd kd2.toInt bg2.toInt nx2.toInt) ∧ (r = 0 ∨ r = 1)) (u.1) (u.2.1) (u.2.2.1) (u.2.2.2)) (fun u : Int32 × Int32 × Int32 × Int32 => (fun (kd2 : Int32) (bg2 : Int32) (nx2 : Int32) (r : Int32) => [bTape g ta ab sz ln kd2 bg2 nx2 ft fb]) (u.1) (u.2.1) (u.2.2.1) (u.2.2.2)) := by
  refine zM'.of (cc := cX6_takeWord) (maxL := 2) (rt := (some .boolean)) (by decide) rfl (Nat.le_of_ble_eq_true rfl) ?_
  intro p e s m args below meth c A ls St hr hlocks hin hK hT hA hP hD hS hl
  obtain ⟨hx, hb, hml, hown, hts⟩ := id St
  have hl : lv_has ls 2 [(0, .ref ta), (1, .ref k)] := hl
  refine lv_aload_n hx hb dX6_takeWord_0 rfl (lv_at hl 0 rfl) ?_
  refine lv_aload_n hx hb dX6_takeWord_1 rfl (lv_at hl 1 rfl) ?_
  refine mcallV' (g := g) (q0 := 0) (ci := 6) (As := [.ref k]) (rest := []) St hK hT hA hP hD hS hl.1 [0] [] rfl rfl rfl (c_t_isWord l g ta ab sz ln kd bg nx ft fb k j q hln hnx hbg hkd hft hk9 hj9 hql) (cwV 1 hts (zgL (zl4 k281 k282 k283 k277) k268) rfl rfl rfl (by decide +kernel) ⟨Nat.le_of_ble_eq_true rfl, Nat.le_of_ble_eq_true rfl⟩) rfl rfl rfl rfl (Nat.le_of_ble_eq_true rfl) dX6_takeWord_2 ⟨(Nat.le_of_ble_eq_true rfl), (Nat.le_of_ble_eq_true rfl)⟩ (fun r_1 H locs hq2 hP hD hS => ?_)
  replace hq2 : (r_1 = 0 ∨ r_1 = 1) := hq2
  have hP : va_P g.1 vwCl (List.flatten [bTape g ta ab sz ln kd bg nx ft fb]) H := hP
  have hD : va_D A (List.flatten [bTape g ta ab sz ln kd bg nx ft fb]) := hD
  refine W.widen (k := 0) (n := 0) (Nat.le_of_ble_eq_true rfl) (Nat.le_of_ble_eq_true rfl) ?_
  refine W.eq (g2 := F0 m 5 ls [.int r_1]) rfl ?_
  rcases hq2 with rfl | rfl
  · skip
    refine lv_if_ne (tgt := 10) hx hb dX6_takeWord_5 (by decide) (fun c3 => absurd (by decide) c3) (fun _ => ?_)
    refine lv_iconst (v := 0) hx hb dX6_takeWord_8 (by decide) ?_
    have hP : va_P g.1 vwCl (List.flatten [bTape g ta ab sz ln kd bg nx ft fb]) H := hP
    have hD : va_D A (List.flatten [bTape g ta ab sz ln kd bg nx ft fb]) := hD
    exact mret_z hx hb hr hlocks hS (Nat.le_of_ble_eq_true rfl) (Nat.le_of_ble_eq_true rfl) dX6_takeWord_9 (kd, bg, nx, (0 : Int32)) rfl (by decide) (show (0 ≤ nx.toInt ∧ nx.toInt ≤ 400) ∧ (0 ≤ bg.toInt ∧ bg.toInt ≤ 400) ∧ (zKd kd.toInt bg.toInt nx.toInt) ∧ (0 = 0 ∨ 0 = 1) from ⟨hnx, hbg, hkd, (by decide)⟩) hP hD
  · skip
    refine lv_if_ne (tgt := 10) hx hb dX6_takeWord_5 (by decide) (fun _ => ?_) (fun c4 => absurd c4 (by decide))
    refine lv_aload_n hx hb dX6_takeWord_10 rfl (lv_at hl 0 rfl) ?_
    refine mcallV' (g := g) (q0 := 0) (ci := 6) (As := []) (rest := []) St hK hT hA hP hD hS hl.1 [0] [] rfl rfl rfl (c_t_step l g ta ab sz ln kd bg nx ft fb hln hnx) (cwV 0 hts (zgL (zl4 k274 k275 k276 k277) k271) rfl rfl rfl (by decide +kernel) ⟨Nat.le_of_ble_eq_true rfl, Nat.le_of_ble_eq_true rfl⟩) rfl rfl rfl rfl (Nat.le_of_ble_eq_true rfl) dX6_takeWord_11 ⟨(Nat.le_of_ble_eq_true rfl), (Nat.le_of_ble_eq_true rfl)⟩ (fun u_ H locs hq8 hP hD hS => ?_)
    obtain ⟨kd2_5, bg2_6, nx2_7⟩ := u_
    replace hq8 : (0 ≤ nx2_7.toInt ∧ nx2_7.toInt ≤ 400) ∧ (0 ≤ bg2_6.toInt ∧ bg2_6.toInt ≤ 400) ∧ (zKd kd2_5.toInt bg2_6.toInt nx2_7.toInt) := hq8
    have hP : va_P g.1 vwCl (List.flatten [bTape g ta ab sz ln kd2_5 bg2_6 nx2_7 ft fb]) H := hP
    have hD : va_D A (List.flatten [bTape g ta ab sz ln kd2_5 bg2_6 nx2_7 ft fb]) := hD
    refine W.widen (k := 0) (n := 0) (Nat.le_of_ble_eq_true rfl) (Nat.le_of_ble_eq_true rfl) ?_
    refine W.eq (g2 := F0 m 14 ls []) rfl ?_
    obtain ⟨hq8_0, hq8_1, hq8_2⟩ := hq8
    refine lv_iconst (v := 1) hx hb dX6_takeWord_14 (by decide) ?_
    have hP : va_P g.1 vwCl (List.flatten [bTape g ta ab sz ln kd2_5 bg2_6 nx2_7 ft fb]) H := hP
    have hD : va_D A (List.flatten [bTape g ta ab sz ln kd2_5 bg2_6 nx2_7 ft fb]) := hD
    exact mret_z hx hb hr hlocks hS (Nat.le_of_ble_eq_true rfl) (Nat.le_of_ble_eq_true rfl) dX6_takeWord_15 (kd2_5, bg2_6, nx2_7, (1 : Int32)) rfl (by decide) (show (0 ≤ nx2_7.toInt ∧ nx2_7.toInt ≤ 400) ∧ (0 ≤ bg2_6.toInt ∧ bg2_6.toInt ≤ 400) ∧ (zKd kd2_5.toInt bg2_6.toInt nx2_7.toInt) ∧ (1 = 0 ∨ 1 = 1) from ⟨hq8_0, hq8_1, hq8_2, (by decide)⟩) hP hD
