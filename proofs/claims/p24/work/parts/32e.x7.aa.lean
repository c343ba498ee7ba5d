/-! law of both sides -/
theorem zSk_p {f : Nat → Int32} {n p p' b : Int} (e : p = p') (h : zSk f n p b) : zSk f n p' b := e ▸ h
theorem zLaw_of {f : Nat → Int32} {n t b q m : Int} {k : Nat} (hm : m = 12) (hk : k = 12) (hb : b = zbg f n t) (h : q = 0 ∧ n ≤ b ∨ (1 ≤ q ∧ q ≤ m) ∧ ¬ n ≤ b ∧ zLines f n (zLLine f n) k b (.ok (m - q))) : zLawR f n t q := by subst hm; subst hk; subst hb; exact h
theorem zLawR_c {f : Nat → Int32} {n n' t t' q : Int} (en : n = n') (et : t = t') (h : zLawR f n t q) : zLawR f n' t' q := by subst en; subst et; exact h
theorem zLawB_c {f : Nat → Int32} {n n' t t' q : Int} (en : n = n') (et : t = t') (h : zLawB f n t q) : zLawB f n' t' q := by subst en; subst et; exact h
def zGe (A : Int → zRes → Prop) : Prop := ∀ b q, 0 ≤ b → A b (.bad q) → 0 ≤ q
theorem zLawR_det {f : Nat → Int32} {n t q q' : Int} (h : zLawR f n t q) (h' : zLawR f n t q') : q = q' := by
  rcases h with ⟨a, b⟩ | ⟨a, b, c⟩
  · rcases h' with ⟨a', b'⟩ | ⟨a', b', c'⟩
    · rw [a, a']
    · exact absurd b b'
  · rcases h' with ⟨a', b'⟩ | ⟨a', b', c'⟩
    · exact absurd b' b
    · have := zRes.okj (zLines_det f n (zLLine_det f n) 12 _ _ _ c c')
      omega
theorem zLawRB {f : Nat → Int32} {n t q fl : Int} (h : zLawR f n t q) (h' : zLawB f n t fl) : False := by
  rcases h with ⟨_, b⟩ | ⟨_, _, c⟩
  · exact h'.2.1 b
  · exact zRes.ob (zLines_det f n (zLLine_det f n) 12 _ _ _ c h'.2.2)
theorem zLawB_det {f : Nat → Int32} {n t q q' : Int} (h : zLawB f n t q) (h' : zLawB f n t q') : q = q' := zRes.badj (zLines_det f n (zLLine_det f n) 12 _ _ _ h.2.2 h'.2.2)
/-! where the fault is -/
theorem zSum_ge (f : Nat → Int32) (n : Int) : zGe (zSum f n) := fun b q h0 h => by
  rcases zSum_lt h h0 with ⟨q', e, l⟩ | ⟨q', e, _⟩
  · have := zRes.badj e
    omega
  · exact zRes.bo e
theorem zPlain_ge (f : Nat → Int32) (n : Int) : zGe (zPlain f n) := fun b q h0 h => by
  rcases h with ⟨h, e⟩ | ⟨h, ⟨q', h1, e⟩ | ⟨b1, h1, ⟨h2, e⟩ | ⟨h2, h3⟩⟩⟩
  · exact zRes.bo e
  · rw [zRes.badj e]; exact zSum_ge f n _ _ h0 h1
  · have l1 := zSum_gt f n _ _ h0 h1
    rw [zRes.badj e]; omega
  · have l1 := zSum_gt f n _ _ h0 h1
    have l2 : b1 < znt f n b1 := zMv_lt (by omega) (zLG_z h2) rfl
    exact zSum_ge f n _ _ (Int.le_trans (by omega) (Int.le_of_lt l2)) h3
theorem zCond_ge {f : Nat → Int32} {n : Int} {A : Int → zRes → Prop} (G : zGt A) (E : zGe A) : zGe (zCond f n A) := by
  intro b q h0 h
  refine zCond.ind (P := fun b r => 0 ≤ b → ∀ q, r = .bad q → 0 ≤ q) ?_ ?_ ?_ h h0 q rfl
  · intro b q' h h0 q e
    rw [← zRes.badj e]; exact E _ _ h0 h
  · intro b b1 _ _ _ q e; exact zRes.ob e
  · intro b b1 r h hs ih h0 q e
    have l1 := G _ _ h0 h
    have l2 : b1 < znt f n b1 := zMv_lt (by omega) (hs.elim zisW_z zisW_z) rfl
    exact ih (Int.le_trans (by omega) (Int.le_of_lt l2)) q e
theorem zPar_ge {f : Nat → Int32} {n : Int} {C : Int → zRes → Prop} (G : zGt C) (E : zGe C) : zGe (zPar f n C) := fun b q h0 h => by
  rcases h with ⟨q', h, e⟩ | ⟨b1, h, ⟨hs, e⟩ | ⟨hs, e⟩⟩
  · rw [zRes.badj e]; exact E _ _ h0 h
  · exact zRes.bo e
  · have l1 := G _ _ h0 h
    rw [zRes.badj e]; omega
theorem zAtom_ge (f : Nat → Int32) (n : Int) : ∀ k, zGe (zAtom f n k)
  | 0 => fun b q h0 h => by
    rcases h with ⟨_, h⟩ | ⟨_, h⟩
    · rw [zRes.badj h]; exact h0
    · exact zPlain_ge f n b q h0 h
  | k + 1 => fun b q h0 h => by
    have G := zAtom_gt f n k
    have E := zAtom_ge f n k
    rcases h with ⟨h1, h⟩ | ⟨_, h1, h⟩ | ⟨_, h⟩
    · have l : b < znt f n b := zMv_lt h0 (zisW_z h1) rfl
      exact E _ _ (Int.le_trans h0 (Int.le_of_lt l)) h
    · have l : b < znt f n b := zMv_lt h0 (zisS_z h1) rfl
      exact zPar_ge (zCond_gt G) (zCond_ge G E) _ _ (Int.le_trans h0 (Int.le_of_lt l)) h
    · exact zPlain_ge f n b q h0 h
theorem zLLine_gt (f : Nat → Int32) (n : Int) : zGt (zLLine f n) := fun b q h0 h => by
  rcases h with ⟨h, e⟩ | ⟨h, ⟨hn, e⟩ | ⟨⟨v, hn⟩, ⟨hi, e⟩ | ⟨hi, hc⟩⟩⟩
  · exact zRes.ob e
  · exact zRes.ob e
  · have l1 : b < znt f n b := zMv_lt h0 (h.elim zisW_z zisW_z) rfl
    have l2 : znt f n b < znt f n (znt f n b) := zMv_lt (by omega) (zNu_z hn) rfl
    rw [zRes.okj e]; exact Int.lt_trans l1 l2
  · have l1 : b < znt f n b := zMv_lt h0 (h.elim zisW_z zisW_z) rfl
    have l2 : znt f n b < znt f n (znt f n b) := zMv_lt (by omega) (zNu_z hn) rfl
    have l3 : znt f n (znt f n b) < znt f n (znt f n (znt f n b)) := zMv_lt (by omega) (zisW_z hi) rfl
    exact Int.lt_trans l1 (Int.lt_trans l2 (Int.lt_trans l3 (zCond_gt (zAtom_gt f n 6) _ _ (by omega) hc)))
theorem zLLine_ge (f : Nat → Int32) (n : Int) : zGe (zLLine f n) := fun b q h0 h => by
  rcases h with ⟨h, e⟩ | ⟨h, ⟨hn, e⟩ | ⟨⟨v, hn⟩, ⟨hi, e⟩ | ⟨hi, hc⟩⟩⟩
  · rw [zRes.badj e]; exact h0
  · rw [zRes.badj e]; exact zbg_0 _ _ _
  · exact zRes.bo e
  · have l1 : b < znt f n b := zMv_lt h0 (h.elim zisW_z zisW_z) rfl
    have l2 : znt f n b < znt f n (znt f n b) := zMv_lt (by omega) (zNu_z hn) rfl
    have l3 : znt f n (znt f n b) < znt f n (znt f n (znt f n b)) := zMv_lt (by omega) (zisW_z hi) rfl
    exact zCond_ge (zAtom_gt f n 6) (zAtom_ge f n 6) _ _ (by omega) hc
theorem zLines_ge {f : Nat → Int32} {n : Int} : ∀ {k : Nat} {b q : Int}, 0 ≤ b → zLines f n (zLLine f n) k b (.bad q) → 0 ≤ q
  | 0, b, q, h0, h => by
    rw [zRes.badj (show zRes.bad q = .bad b from h)]; exact h0
  | k + 1, b, q, h0, h => by
    rcases h with ⟨q', h, e⟩ | ⟨b1, h, ⟨_, e⟩ | ⟨a, ⟨c, e⟩ | ⟨c, d⟩⟩⟩
    · rw [zRes.badj e]; exact zLLine_ge f n _ _ h0 h
    · exact zRes.bo e
    · have l := zLLine_gt f n _ _ h0 h
      rw [zRes.badj e]; omega
    · have l := zLLine_gt f n _ _ h0 h
      have l2 : b1 < znt f n b1 := zMv_lt (by omega) (zisS_z c) rfl
      exact zLines_ge (Int.le_trans (by omega) (Int.le_of_lt l2)) d
theorem zLawB_of {f : Nat → Int32} {n t b q : Int} {k : Nat} (hk : k = 12) (hb : b = zbg f n t) (h1 : ¬ n ≤ b) (h : zLines f n (zLLine f n) k b (.bad q)) : zLawB f n t q := by
  subst hk; subst hb; exact ⟨zLines_ge (zbg_0 f n t) h, h1, h⟩
def zoutL (a : Int64) (f : Nat → Int32) (n : Int) : Prop := ∃ v : Int32, a = v.toInt64 ∧ zLawR f n 0 v.toInt
theorem zlawX1 {a : Int64} {f f' : Nat → Int32} {z t fl : Int} (hR : f = f') (hz : z = t) (h : zoutL a f z) (h' : zLawB f' t 0 fl) : False := by
  subst hR; subst hz
  obtain ⟨v, _, hv⟩ := h
  exact zLawRB hv h'
theorem zlawX2 {f f' : Nat → Int32} {z t fl q : Int} (hR : f = f') (hz : z = t) (h : zLawB f z 0 fl) (h' : zLawR f' t 0 q) : False := by
  subst hR; subst hz
  exact zLawRB h' h
theorem zlawE {a : Int64} {f f' : Nat → Int32} {z t : Int} {q : Int32} (hR : f = f') (hz : z = t) (h : zoutL a f z) (h' : zLawR f' t 0 q.toInt) : a = q.toInt64 := by
  subst hR; subst hz
  obtain ⟨v, e, hv⟩ := h
  rw [e, Int32.toInt_inj.mp (zLawR_det hv h')]
set_option maxRecDepth 100000 in
set_option maxHeartbeats 4000000 in
theorem c_t_openF (l : Launch) (g : zG) (ta : Nat) (ab : Nat) (sz : Int32) (ln : Int32) (kd : Int32) (bg : Int32) (nx : Int32) (ft : Int32) (fb : Nat → Int32) (n : Int32) (b_n : 0 ≤ n.toInt ∧ n.toInt ≤ 400) : zM' g l yX6_open (Cond.code yX6_open cX6_open 2 none :: zB) ({ frames := 1, cells := 0, slots := 0, locals := 21 } : Room) [.ref ta, .int n] [bTape g ta ab sz ln kd bg nx ft fb] (fun u : Int32 × Int32 × Int32 × Int32 => (fun (kd2 : Int32) (bg2 : Int32) (nx2 : Int32) (ln2 : Int32) => none) (u.1) (u.2.1) (u.2.2.1) (u.2.2.2)) (fun u : Int32 × Int32 × Int32 × Int32 => (fun (kd2 : Int32) (bg2 : Int32) (nx2 : Int32) (ln2 : Int32) => (0 ≤ nx2.toInt ∧ nx2.toInt ≤ 400) ∧ (0 ≤ bg2.toInt ∧ bg2.toInt ≤ 400) ∧ (zKd kd2.toInt bg2.toInt nx2.toInt) ∧ (ln2.toInt = n.toInt) ∧ (zSk fb ln2.toInt 0 bg2.toInt) ∧ (zTk fb ln2.toInt kd2.toInt bg2.toInt nx2.toInt) ∧ (0 ≤ ln2.toInt ∧ ln2.toInt ≤ 400)) (u.1) (u.2.1) (u.2.2.1) (u.2.2.2)) (fun u : Int32 × Int32 × Int32 × Int32 => (fun (kd2 : Int32) (bg2 : Int32) (nx2 : Int32) (ln2 : Int32) => [bTape g ta ab sz ln2 kd2 bg2 nx2 (-1) fb]) (u.1) (u.2.1) (u.2.2.1) (u.2.2.2)) := by
  refine zM'.of (cc := cX6_open) (maxL := 2) (rt := none) (by decide) rfl (Nat.le_of_ble_eq_true rfl) ?_
  intro p e s m args below meth c A ls St hr hlocks hin hK hT hA hP hD hS hl
  obtain ⟨hx, hb, hml, hown, hts⟩ := id St
  have hl : lv_has ls 2 [(0, .ref ta), (1, .int n)] := hl
  refine lv_aload_n hx hb dX6_open_0 rfl (lv_at hl 0 rfl) ?_
  refine lv_iload_n hx hb dX6_open_1 rfl (lv_at hl 1 rfl) ?_
  refine lv_sipush (v := 400) hx hb dX6_open_2 (by decide) ?_
  refine va_mmin hx hb (by rw [hml]; exact hl.1.symm) hown (hts _ k429) (hts _ k41) (hts _ k42) (hts _ k43) (Nat.le_of_ble_eq_true rfl) (Nat.le_of_ble_eq_true rfl) (Nat.le_of_ble_eq_true rfl) (Nat.le_of_ble_eq_true rfl) dX6_open_5 ?_
  refine zgmn (i := n.toInt) (j := 400) rfl (by decide) (fun x_1 hx_1 => ?_)
  refine va_put (D := g.1) (ci := 6) (v := .int x_1) (ty := .int) (C := RX6) (T := TX6) (N := 7) hx hb hts izRX6 tyX6 tyX6_ok nmX6 hown hK hP hD hS 0 rfl rfl 2 (by decide) (hts _ k272) (fun _ h9 => h9) rfl (by decide +kernel) rfl rfl (Nat.le_of_ble_eq_true rfl) dX6_open_8 (fun H locs hP hD hS => ?_)
  have hP : va_P g.1 vwCl (List.flatten [bTape g ta ab sz x_1 kd bg nx ft fb]) H := hP
  have hD : va_D A (List.flatten [bTape g ta ab sz x_1 kd bg nx ft fb]) := hD
  refine lv_aload_n hx hb dX6_open_11 rfl (lv_at hl 0 rfl) ?_
  refine lv_iconst (v := 0) hx hb dX6_open_12 (by decide) ?_
  refine va_put (D := g.1) (ci := 6) (v := .int 0) (ty := .int) (C := RX6) (T := TX6) (N := 7) hx hb hts izRX6 tyX6 tyX6_ok nmX6 hown hK hP hD hS 0 rfl rfl 5 (by decide) (hts _ k259) (fun _ h9 => h9) rfl (by decide +kernel) rfl rfl (Nat.le_of_ble_eq_true rfl) dX6_open_13 (fun H locs hP hD hS => ?_)
  have hP : va_P g.1 vwCl (List.flatten [bTape g ta ab sz x_1 kd bg 0 ft fb]) H := hP
  have hD : va_D A (List.flatten [bTape g ta ab sz x_1 kd bg 0 ft fb]) := hD
  refine lv_aload_n hx hb dX6_open_16 rfl (lv_at hl 0 rfl) ?_
  refine lv_iconst (v := (-1)) hx hb dX6_open_17 (by decide) ?_
  refine va_put (D := g.1) (ci := 6) (v := .int (-1)) (ty := .int) (C := RX6) (T := TX6) (N := 7) hx hb hts izRX6 tyX6 tyX6_ok nmX6 hown hK hP hD hS 0 rfl rfl 6 (by decide) (hts _ k270) (fun _ h9 => h9) rfl (by decide +kernel) rfl rfl (Nat.le_of_ble_eq_true rfl) dX6_open_18 (fun H locs hP hD hS => ?_)
  have hP : va_P g.1 vwCl (List.flatten [bTape g ta ab sz x_1 kd bg 0 (-1) fb]) H := hP
  have hD : va_D A (List.flatten [bTape g ta ab sz x_1 kd bg 0 (-1) fb]) := hD
  refine lv_aload_n hx hb dX6_open_21 rfl (lv_at hl 0 rfl) ?_
  have hL0 : (0 : Int32).toInt = 0 := by decide
  refine mcallV' (g := g) (q0 := 0) (ci := 6) (As := []) (rest := []) St hK hT hA hP hD hS hl.1 [0] [] rfl rfl rfl (c_t_stepF l g ta ab sz x_1 kd bg 0 (-1) fb (by first | assumption | omega | decide | exact Or.inl (by decide) | exact Or.inr (by decide)) (by decide)) (cwV 0 hts (zgL (zl4 k274 k275 k276 k277) k271) rfl rfl rfl (by decide +kernel) ⟨Nat.le_of_ble_eq_true rfl, Nat.le_of_ble_eq_true rfl⟩) rfl rfl rfl rfl (Nat.le_of_ble_eq_true rfl) dX6_open_22 ⟨(Nat.le_of_ble_eq_true rfl), (Nat.le_of_ble_eq_true rfl)⟩ (fun u_ H locs hq5 hP hD hS => ?_)
  obtain ⟨kd2_2, bg2_3, nx2_4⟩ := u_
  replace hq5 : (0 ≤ nx2_4.toInt ∧ nx2_4.toInt ≤ 400) ∧ (0 ≤ bg2_3.toInt ∧ bg2_3.toInt ≤ 400) ∧ (zKd kd2_2.toInt bg2_3.toInt nx2_4.toInt) ∧ (zSk fb x_1.toInt (0 : Int32).toInt bg2_3.toInt) ∧ (zTk fb x_1.toInt kd2_2.toInt bg2_3.toInt nx2_4.toInt) := hq5
  have hP : va_P g.1 vwCl (List.flatten [bTape g ta ab sz x_1 kd2_2 bg2_3 nx2_4 (-1) fb]) H := hP
  have hD : va_D A (List.flatten [bTape g ta ab sz x_1 kd2_2 bg2_3 nx2_4 (-1) fb]) := hD
  refine W.widen (k := 0) (n := 0) (Nat.le_of_ble_eq_true rfl) (Nat.le_of_ble_eq_true rfl) ?_
  refine W.eq (g2 := F0 m 25 ls []) rfl ?_
  obtain ⟨hq5_0, hq5_1, hq5_2, hq5_3, hq5_4⟩ := hq5
  have hP : va_P g.1 vwCl (List.flatten [bTape g ta ab sz x_1 kd2_2 bg2_3 nx2_4 (-1) fb]) H := hP
  have hD : va_D A (List.flatten [bTape g ta ab sz x_1 kd2_2 bg2_3 nx2_4 (-1) fb]) := hD
  exact mret_v hx hb hr hlocks hS (Nat.le_of_ble_eq_true rfl) (Nat.le_of_ble_eq_true rfl) dX6_open_25 (kd2_2, bg2_3, nx2_4, x_1) rfl (show (0 ≤ nx2_4.toInt ∧ nx2_4.toInt ≤ 400) ∧ (0 ≤ bg2_3.toInt ∧ bg2_3.toInt ≤ 400) ∧ (zKd kd2_2.toInt bg2_3.toInt nx2_4.toInt) ∧ (x_1.toInt = n.toInt) ∧ (zSk fb x_1.toInt 0 bg2_3.toInt) ∧ (zTk fb x_1.toInt kd2_2.toInt bg2_3.toInt nx2_4.toInt) ∧ (0 ≤ x_1.toInt ∧ x_1.toInt ≤ 400) from ⟨(by first | assumption | omega | exact Or.inl (by decide) | exact Or.inr (by omega)), (by first | assumption | omega | exact Or.inl (by decide) | exact Or.inr (by omega)), (by first | assumption | omega | exact Or.inl (by decide) | exact Or.inr (by omega)), (by omega), (zSk_p (by decide) hq5_3), hq5_4, (by omega)⟩) hP hD
