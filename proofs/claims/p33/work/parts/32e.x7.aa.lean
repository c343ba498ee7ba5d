/-! law of both sides -/
theorem zSk_p {f : Nat → Int32} {n p p' b : Int} (e : p = p') (h : zSk f n p b) : zSk f n p' b := e ▸ h
theorem zLaw_of {f : Nat → Int32} {n t b q m : Int} {k : Nat} (hm : m = 12) (hk : k = 12) (hb : b = zbg f n t) (h : q = 0 ∧ n ≤ b ∨ (1 ≤ q ∧ q ≤ m) ∧ ¬ n ≤ b ∧ zLines f n (zLLine f n) k b (.ok (m - q))) : zLawR f n t q := by subst hm; subst hk; subst hb; exact h
theorem zLawR_c {f : Nat → Int32} {n n' t t' q : Int} (en : n = n') (et : t = t') (h : zLawR f n t q) : zLawR f n' t' q := by subst en; subst et; exact h
theorem zLawB_c {f : Nat → Int32} {n n' t t' q : Int} (en : n = n') (et : t = t') (h : zLawB f n t q) : zLawB f n' t' q := by subst en; subst et; exact h
def zGe (A : Int → zRes → Prop) : Prop := ∀ b q, 0 ≤ b → A b (.bad q) → 0 ≤ q
theorem zLawR_det {f : Nat → Int32} {n t q q' : Int} (h : zLawR f n t q) (h' : zLawR f n t q') : q = q' := by
  rcases h with ⟨a, b⟩ | ⟨a, b, c⟩
  · rcases h' with ⟨a', b'⟩ | ⟨a', b', c'⟩
    · rw [a, a']
    · exact absurd b b'
  · rcases h' with ⟨a', b'⟩ | ⟨a', b', c'⟩
    · exact absurd b' b
    · have := zRes.okj (zLines_det f n (zLLine_det f n) 12 _ _ _ c c')
      omega
theorem zLawRB {f : Nat → Int32} {n t q fl : Int} (h : zLawR f n t q) (h' : zLawB f n t fl) : False := by
  rcases h with ⟨_, b⟩ | ⟨_, _, c⟩
  · exact h'.2.1 b
  · exact zRes.ob (zLines_det f n (zLLine_det f n) 12 _ _ _ c h'.2.2)
theorem zLawB_det {f : Nat → Int32} {n t q q' : Int} (h : zLawB f n t q) (h' : zLawB f n t q') : q = q' := zRes.badj (zLines_det f n (zLLine_det f n) 12 _ _ _ h.2.2 h'.2.2)
/-! where the fault is -/
theorem zSum_ge (f : Nat → Int32) (n : Int) : zGe (zSum f n) := fun b q h0 h => by
  rcases zSum_lt h h0 with ⟨q', e, l⟩ | ⟨q', e, _⟩
  · have := zRes.badj e
    omega
  · exact zRes.bo e
theorem zPlain_ge (f : Nat → Int32) (n : Int) : zGe (zPlain f n) := fun b q h0 h => by
  rcases h with ⟨h, e⟩ | ⟨h, ⟨q', h1, e⟩ | ⟨b1, h1, ⟨h2, e⟩ | ⟨h2, h3⟩⟩⟩
  · exact zRes.bo e
  · rw [zRes.badj e]; exact zSum_ge f n _ _ h0 h1
  · have l1 := zSum_gt f n _ _ h0 h1
    rw [zRes.badj e]; omega
  · have l1 := zSum_gt f n _ _ h0 h1
    have l2 : b1 < znt f n b1 := zMv_lt (by omega) (zLG_z h2) rfl
    exact zSum_ge f n _ _ (Int.le_trans (by omega) (Int.le_of_lt l2)) h3
theorem zCond_ge {f : Nat → Int32} {n : Int} {A : Int → zRes → Prop} (G : zGt A) (E : zGe A) : zGe (zCond f n A) := by
  intro b q h0 h
  refine zCond.ind (P := fun b r => 0 ≤ b → ∀ q, r = .bad q → 0 ≤ q) ?_ ?_ ?_ h h0 q rfl
  · intro b q' h h0 q e
    rw [← zRes.badj e]; exact E _ _ h0 h
  · intro b b1 _ _ _ q e; exact zRes.ob e
  · intro b b1 r h hs ih h0 q e
    have l1 := G _ _ h0 h
    have l2 : b1 < znt f n b1 := zMv_lt (by omega) (hs.elim zisW_z zisW_z) rfl
    exact ih (Int.le_trans (by omega) (Int.le_of_lt l2)) q e
theorem zPar_ge {f : Nat → Int32} {n : Int} {C : Int → zRes → Prop} (G : zGt C) (E : zGe C) : zGe (zPar f n C) := fun b q h0 h => by
  rcases h with ⟨q', h, e⟩ | ⟨b1, h, ⟨hs, e⟩ | ⟨hs, e⟩⟩
  · rw [zRes.badj e]; exact E _ _ h0 h
  · exact zRes.bo e
  · have l1 := G _ _ h0 h
    rw [zRes.badj e]; omega
theorem zAtom_ge (f : Nat → Int32) (n : Int) : ∀ k, zGe (zAtom f n k)
  | 0 => fun b q h0 h => by
    rcases h with ⟨_, h⟩ | ⟨_, h⟩
    · rw [zRes.badj h]; exact h0
    · exact zPlain_ge f n b q h0 h
  | k + 1 => fun b q h0 h => by
    have G := zAtom_gt f n k
    have E := zAtom_ge f n k
    rcases h with ⟨h1, h⟩ | ⟨_, h1, h⟩ | ⟨_, h⟩
    · have l : b < znt f n b := zMv_lt h0 (zisW_z h1) rfl
      exact E _ _ (Int.le_trans h0 (Int.le_of_lt l)) h
    · have l : b < znt f n b := zMv_lt h0 (zisS_z h1) rfl
      exact zPar_ge (zCond_gt G) (zCond_ge G E) _ _ (Int.le_trans h0 (Int.le_of_lt l)) h
    · exact zPlain_ge f n b q h0 h
theorem zLLine_gt (f : Nat → Int32) (n : Int) : zGt (zLLine f n) := fun b q h0 h => by
  rcases h with ⟨h, e⟩ | ⟨h, ⟨hn, e⟩ | ⟨⟨v, hn⟩, ⟨hi, e⟩ | ⟨hi, hc⟩⟩⟩
  · exact zRes.ob e
  · exact zRes.ob e
  · have l1 : b < znt f n b := zMv_lt h0 (h.elim zisW_z zisW_z) rfl
    have l2 : znt f n b < znt f n (znt f n b) := zMv_lt (by omega) (zNu_z hn) rfl
    rw [zRes.okj e]; exact Int.lt_trans l1 l2
  · have l1 : b < znt f n b := zMv_lt h0 (h.elim zisW_z zisW_z) rfl
    have l2 : znt f n b < znt f n (znt f n b) := zMv_lt (by omega) (zNu_z hn) rfl
    have l3 : znt f n (znt f n b) < znt f n (znt f n (znt f n b)) := zMv_lt (by omega) (zisW_z hi) rfl
    exact Int.lt_trans l1 (Int.lt_trans l2 (Int.lt_trans l3 (zCond_gt (zAtom_gt f n 6) _ _ (by omega) hc)))
theorem zLLine_ge (f : Nat → Int32) (n : Int) : zGe (zLLine f n) := fun b q h0 h => by
  rcases h with ⟨h, e⟩ | ⟨h, ⟨hn, e⟩ | ⟨⟨v, hn⟩, ⟨hi, e⟩ | ⟨hi, hc⟩⟩⟩
  · rw [zRes.badj e]; exact h0
  · rw [zRes.badj e]; exact zbg_0 _ _ _
  · exact zRes.bo e
  · have l1 : b < znt f n b := zMv_lt h0 (h.elim zisW_z zisW_z) rfl
    have l2 : znt f n b < znt f n (znt f n b) := zMv_lt (by omega) (zNu_z hn) rfl
    have l3 : znt f n (znt f n b) < znt f n (znt f n (znt f n b)) := zMv_lt (by omega) (zisW_z hi) rfl
    exact zCond_ge (zAtom_gt f n 6) (zAtom_ge f n 6) _ _ (by omega) hc
theorem zLines_ge {f : Nat → Int32} {n : Int} : ∀ {k : Nat} {b q : Int}, 0 ≤ b → zLines f n (zLLine f n) k b (.bad q) → 0 ≤ q
  | 0, b, q, h0, h => by
    rw [zRes.badj (show zRes.bad q = .bad b from h)]; exact h0
  | k + 1, b, q, h0, h => by
    rcases h with ⟨q', h, e⟩ | ⟨b1, h, ⟨_, e⟩ | ⟨a, ⟨c, e⟩ | ⟨c, d⟩⟩⟩
    · rw [zRes.badj e]; exact zLLine_ge f n _ _ h0 h
    · exact zRes.bo e
    · have l := zLLine_gt f n _ _ h0 h
      rw [zRes.badj e]; omega
    · have l := zLLine_gt f n _ _ h0 h
      have l2 : b1 < znt f n b1 := zMv_lt (by omega) (zisS_z c) rfl
      exact zLines_ge (Int.le_trans (by omega) (Int.le_of_lt l2)) d
theorem zLawB_of {f : Nat → Int32} {n t b q : Int} {k : Nat} (hk : k = 12) (hb : b = zbg f n t) (h1 : ¬ n ≤ b) (h : zLines f n (zLLine f n) k b (.bad q)) : zLawB f n t q := by
  subst hk; subst hb; exact ⟨zLines_ge (zbg_0 f n t) h, h1, h⟩
def zoutL (a : Int64) (f : Nat → Int32) (n : Int) : Prop := ∃ v : Int32, a = v.toInt64 ∧ zLawR f n 0 v.toInt
theorem zlawX1 {a : Int64} {f f' : Nat → Int32} {z t fl : Int} (hR : f = f') (hz : z = t) (h : zoutL a f z) (h' : zLawB f' t 0 fl) : False := by
  subst hR; subst hz
  obtain ⟨v, _, hv⟩ := h
  exact zLawRB hv h'
theorem zlawX2 {f f' : Nat → Int32} {z t fl q : Int} (hR : f = f') (hz : z = t) (h : zLawB f z 0 fl) (h' : zLawR f' t 0 q) : False := by
  subst hR; subst hz
  exact zLawRB h' h
theorem zlawE {a : Int64} {f f' : Nat → Int32} {z t : Int} {q : Int32} (hR : f = f') (hz : z = t) (h : zoutL a f z) (h' : zLawR f' t 0 q.toInt) : a = q.toInt64 := by
  subst hR; subst hz
  obtain ⟨v, e, hv⟩ := h
  rw [e, Int32.toInt_inj.mp (zLawR_det hv h')]
set_option maxRecDepth 100000 in
set_option maxHeartbeats 4000000 in
theorem c_t_openF (l : Launch) (g : zG) (ta : Nat) (ab : Nat) (sz : Int32) (ln : Int32) (kd : Int32) (bg : Int32) (nx : Int32) (ft : Int32) (fb : Nat → Int32) (n : Int32) (b_n : 0 ≤ n.toInt ∧ n.toInt ≤ 400) : zM' g l yX6_open (Cond.code yX6_open cX6_open 2 none :: zB) ({ frames := 1, cells := 0, slots := 0, locals := 21 } : Room) [.ref ta, .int n] [bTape g ta ab sz ln kd bg nx ft fb] (fun u : Int32 × Int32 × Int32 × Int32 => (fun (kd2 : Int32) (bg2 : Int32) (nx2 : Int32) (ln2 : Int32) => none) (u.1) (u.2.1) (u.2.2.1) (u.2.2.2)) (fun u : Int32 × Int32 × Int32 × Int32 => (fun (kd2 : Int32) (bg2 : Int32) (nx2 : Int32) (ln2 : Int32) => (0 ≤ nx2.toInt ∧ nx2.toInt ≤ 400) ∧ (0 ≤ bg2.toInt ∧ bg2.toInt ≤ 400) ∧ (zKd kd2.toInt bg2.toInt nx2.toInt) ∧ (ln2.toInt = n.toInt) ∧ (zSk fb ln2.toInt 0 bg2.toInt) ∧ (zTk fb ln2.toInt kd2.toInt bg2.toInt nx2.toInt) ∧ (0 ≤ ln2.toInt ∧ ln2.toInt ≤ 400)) (u.1) (u.2.1) (u.2.2.1) (u.2.2.2)) (fun u : Int32 × Int32 × Int32 × Int32 => (fun (kd2 : Int32) (bg2 : Int32) (nx2 : Int32) (ln2 : Int32) => [bTape g ta ab sz ln2 kd2 bg2 nx2 (-1) fb]) (u.1) (u.2.1) (u.2.2.1) (u.2.2.2)) := by
  refine zM'.of (cc := cX6_open) (maxL := 2) (rt := none) (by decide) rfl (Nat.le_of_ble_eq_true rfl) ?_
  intro p e s m args below meth c A ls St hr hlocks hin hK hT hA hP hD hS hl
  obtain ⟨hx, hb, hml, hown, hts⟩ := id St
  have hl : lv_has ls 2 [(0, .ref ta), (1, .int n)] := hl
  refine lv_aload_n hx hb dX6_open_0 rfl (lv_at hl 0 rfl) ?_
  refine lv_iload_n hx hb dX6_open_1 rfl (lv_at hl 1 rfl) ?_
  refine lv_sipush (v := 400) hx hb dX6_open_2 (by decide) ?_
  refine va_mmin hx hb (by rw [hml]; exact hl.1.symm) hown (hts _ k429) (hts _ k41) (hts _ k42) (hts _ k43) (Nat.le_of_ble_eq_true rfl) (Nat.le_of_ble_eq_true rfl) (Nat.le_of_ble_eq_true rfl) (Nat.le_of_ble_eq_true rfl) dX6_open_5 ?_
  refine zgmn (i := n.toInt) (j := 400) rfl (by decide) (fun x_1 hx_1 => ?_)
  refine va_put (D := g.1) (ci := 6) (v := .int x_1) (ty := .int) (C := RX6) (T := TX6) (N := 7) hx hb hts izRX6 tyX6 tyX6_ok nmX6 hown hK hP hD hS 0 rfl rfl 2 (by decide) (hts _ k272) (fun _ h9 => h9) rfl (by decide +kernel) rfl rfl (Nat.le_of_ble_eq_true rfl) dX6_open_8 (fun H locs hP hD hS => ?_)
  have hP : va_P g.1 vwCl (List.flatten [bTape g ta ab sz x_1 kd bg nx ft fb]) H := hP
  have hD : va_D A (List.flatten [bTape g ta ab sz x_1 kd bg nx ft fb]) := hD
  refine lv_aload_n hx hb dX6_open_11 rfl (lv_at hl 0 rfl) ?_
  refine lv_iconst (v := 0) hx hb dX6_open_12 (by decide) ?_
  refine va_put (D := g.1) (ci := 6) (v := .int 0) (ty := .int) (C := RX6) (T := TX6) (N := 7) hx hb hts izRX6 tyX6 tyX6_ok nmX6 hown hK hP hD hS 0 rfl rfl 5 (by decide) (hts _ k259) (fun _ h9 => h9) rfl (by decide +kernel) rfl rfl (Nat.le_of_ble_eq_true rfl) dX6_open_13 (fun H locs hP hD hS => ?_)
  have hP : va_P g.1 vwCl (List.flatten [bTape g ta ab sz x_1 kd bg 0 ft fb]) H := hP
  have hD : va_D A (List.flatten [bTape g ta ab sz x_1 kd bg 0 ft fb]) := hD
  refine lv_aload_n hx hb dX6_open_16 rfl (lv_at hl 0 rfl) ?_
  refine lv_iconst (v := (-1)) hx hb dX6_open_17 (by decide) ?_
  refine va_put (D := g.1) (ci := 6) (v := .int (-1)) (ty := .int) (C := RX6) (T := TX6) (N := 7) hx hb hts izRX6 tyX6 tyX6_ok nmX6 hown hK hP hD hS 0 rfl rfl 6 (by decide) (hts _ k270) (fun _ h9 => h9) rfl (by decide +kernel) rfl rfl (Nat.le_of_ble_eq_true rfl) dX6_open_18 (fun H locs hP hD hS => ?_)
  have hP : va_P g.1 vwCl (List.flatten [bTape g ta ab sz x_1 kd bg 0 (-1) fb]) H := hP
  have hD : va_D A (List.flatten [bTape g ta ab sz x_1 kd bg 0 (-1) fb]) := hD
  refine lv_aload_n hx hb dX6_open_21 rfl (lv_at hl 0 rfl) ?_
  have hL0 : (0 : Int32).toInt = 0 := by decide
  refine mcallV' (g := g) (q0 := 0) (ci := 6) (As := []) (rest := []) St hK hT hA hP hD hS hl.1 [0] [] rfl rfl rfl (c_t_stepF l g ta ab sz x_1 kd bg 0 (-1) fb (by first | assumption | omega | decide | exact Or.inl (by decide) | exact Or.inr (by decide)) (by decide)) (cwV 0 hts (zgL (zl4 k274 k275 k276 k277) k271) rfl rfl rfl (by decide +kernel) ⟨Nat.le_of_ble_eq_true rfl, Nat.le_of_ble_eq_true rfl⟩) rfl rfl rfl rfl (Nat.le_of_ble_eq_true rfl) dX6_open_22 ⟨(Nat.le_of_ble_eq_true rfl), (Nat.le_of_ble_eq_true rfl)⟩ (fun u_ H locs hq5 hP hD hS => ?_)
  obtain ⟨kd2_2, bg2_3, nx2_4⟩ := u_
  replace hq5 : (0 ≤ nx2_4.toInt ∧ nx2_4.toInt ≤ 400) ∧ (0 ≤ bg2_3.toInt ∧ bg2_3.toInt ≤ 400) ∧ (zKd kd2_2.toInt bg2_3.toInt nx2_4.toInt) ∧ (zSk fb x_1.toInt (0 : Int32).toInt bg2_3.toInt) ∧ (zTk fb x_1.toInt kd2_2.toInt bg2_3.toInt nx2_4.toInt) := hq5
  have hP : va_P g.1 vwCl (List.flatten [bTape g ta ab sz x_1 kd2_2 bg2_3 nx2_4 (-1) fb]) H := hP
  have hD : va_D A (List.flatten [bTape g ta ab sz x_1 kd2_2 bg2_3 nx2_4 (-1) fb]) := hD
  refine W.widen (k := 0) (n := 0) (Nat.le_of_ble_eq_true rfl) (Nat.le_of_ble_eq_true rfl) ?_
  refine W.eq (g2 := F0 m 25 ls []) rfl ?_
  obtain ⟨hq5_0, hq5_1, hq5_2, hq5_3, hq5_4⟩ := hq5
  have hP : va_P g.1 vwCl (List.flatten [bTape g ta ab sz x_1 kd2_2 bg2_3 nx2_4 (-1) fb]) H := hP
  have hD : va_D A (List.flatten [bTape g ta ab sz x_1 kd2_2 bg2_3 nx2_4 (-1) fb]) := hD
  exact mret_v hx hb hr hlocks hS (Nat.le_of_ble_eq_true rfl) (Nat.le_of_ble_eq_true rfl) dX6_open_25 (kd2_2, bg2_3, nx2_4, x_1) rfl (show (0 ≤ nx2_4.toInt ∧ nx2_4.toInt ≤ 400) ∧ (0 ≤ bg2_3.toInt ∧ bg2_3.toInt ≤ 400) ∧ (zKd kd2_2.toInt bg2_3.toInt nx2_4.toInt) ∧ (x_1.toInt = n.toInt) ∧ (zSk fb x_1.toInt 0 bg2_3.toInt) ∧ (zTk fb x_1.toInt kd2_2.toInt bg2_3.toInt nx2_4.toInt) ∧ (0 ≤ x_1.toInt ∧ x_1.toInt ≤ 400) from ⟨(by first | assumption | omega | exact Or.inl (by decide) | exact Or.inr (by omega)), (by first | assumption | omega | exact Or.inl (by decide) | exact Or.inr (by omega)), (by first | assumption | omega | exact Or.inl (by decide) | exact Or.inr (by omega)), (by omega), (zSk_p (by decide) hq5_3), hq5_4, (by omega)⟩) hP hD
set_option maxRecDepth 100000 in
set_option maxHeartbeats 4000000 in
theorem c_x_lawF (l : Launch) (hfl : l.stackTraces = false) (g : zG) (x : Nat) (ta : Nat) (o : Nat) (lo : Nat) (go : Nat) (tt : Nat) (lt : Nat) (mo : Nat) (fo : Nat) (ro : Nat) (fl9 : Int32) (ab : Nat) (sz : Int32) (ln : Int32) (kd : Int32) (bg : Int32) (nx : Int32) (ft : Int32) (fb : Nat → Int32) (lc : Nat) (lz : Int32) (ll : Int32) (lm : Int32) (lg : Int32) (ld : Int32) (fc : Nat → Int32) (loV : Nat) (lcV : Nat) (lzV : Int32) (llV : Int32) (lmV : Int32) (lgV : Int32) (ldV : Int32) (fcV : Nat → Int32) (qT : Nat) (qL : Nat) (it : Nat) (il : Nat) (ig : Nat) (mh : Int32) (me : Int32) (mx : Int32) (fT : Nat → Option Nat) (fL : Nat → Option Nat) (b_sz : 0 ≤ sz.toInt ∧ sz.toInt ≤ 400) (b_lz : 0 ≤ lz.toInt ∧ lz.toInt ≤ 400) (b_me : 0 ≤ me.toInt ∧ me.toInt ≤ 12) (b_mx : 0 ≤ mx.toInt ∧ mx.toInt ≤ 11) : zX' g l yX11_law (Cond.code yX11_law cX11_law 2 (some .int) :: zB) ({ frames := 28, cells := 1, slots := 6, locals := 622 } : Room) [.ref x] [bDR g x ta o lo go tt lt mo fo ro fl9, bTape g ta ab sz ln kd bg nx ft fb, bLaw g lo lc lz ll lm lg ld fc, bLT g lt ta loV, bLaw g loV lcV lzV llV lmV lgV ldV fcV, bMem g mo qT qL it il ig mh me mx fT fL] (fun u : Int32 × Int32 × Int32 × Int32 × Int32 × Int32 × Int32 × Int32 × (Nat → Int32) × Int32 × Int32 × Int32 × Int32 × Int32 × (Nat → Int32) × Int32 × Int32 => (fun (fl92 : Int32) (ln2 : Int32) (kd2 : Int32) (bg2 : Int32) (nx2 : Int32) (ft2 : Int32) (lz2 : Int32) (ll2 : Int32) (fc2 : Nat → Int32) (lzV2 : Int32) (llV2 : Int32) (lmV2 : Int32) (lgV2 : Int32) (ldV2 : Int32) (fcV2 : Nat → Int32) (me2 : Int32) (q : Int32) => some (.int q)) (u.1) (u.2.1) (u.2.2.1) (u.2.2.2.1) (u.2.2.2.2.1) (u.2.2.2.2.2.1) (u.2.2.2.2.2.2.1) (u.2.2.2.2.2.2.2.1) (u.2.2.2.2.2.2.2.2.1) (u.2.2.2.2.2.2.2.2.2.1) (u.2.2.2.2.2.2.2.2.2.2.1) (u.2.2.2.2.2.2.2.2.2.2.2.1) (u.2.2.2.2.2.2.2.2.2.2.2.2.1) (u.2.2.2.2.2.2.2.2.2.2.2.2.2.1) (u.2.2.2.2.2.2.2.2.2.2.2.2.2.2.1) (u.2.2.2.2.2.2.2.2.2.2.2.2.2.2.2.1) (u.2.2.2.2.2.2.2.2.2.2.2.2.2.2.2.2)) (fun u : Int32 × Int32 × Int32 × Int32 × Int32 × Int32 × Int32 × Int32 × (Nat → Int32) × Int32 × Int32 × Int32 × Int32 × Int32 × (Nat → Int32) × Int32 × Int32 => (fun (fl92 : Int32) (ln2 : Int32) (kd2 : Int32) (bg2 : Int32) (nx2 : Int32) (ft2 : Int32) (lz2 : Int32) (ll2 : Int32) (fc2 : Nat → Int32) (lzV2 : Int32) (llV2 : Int32) (lmV2 : Int32) (lgV2 : Int32) (ldV2 : Int32) (fcV2 : Nat → Int32) (me2 : Int32) (q : Int32) => (0 ≤ lz2.toInt ∧ lz2.toInt ≤ 400) ∧ (0 ≤ lzV2.toInt ∧ lzV2.toInt ≤ 400) ∧ (0 ≤ me2.toInt ∧ me2.toInt ≤ 12) ∧ (zLawR fb sz.toInt 0 q.toInt ∧ fl92.toInt = -1 ∧ me2.toInt = 0)) (u.1) (u.2.1) (u.2.2.1) (u.2.2.2.1) (u.2.2.2.2.1) (u.2.2.2.2.2.1) (u.2.2.2.2.2.2.1) (u.2.2.2.2.2.2.2.1) (u.2.2.2.2.2.2.2.2.1) (u.2.2.2.2.2.2.2.2.2.1) (u.2.2.2.2.2.2.2.2.2.2.1) (u.2.2.2.2.2.2.2.2.2.2.2.1) (u.2.2.2.2.2.2.2.2.2.2.2.2.1) (u.2.2.2.2.2.2.2.2.2.2.2.2.2.1) (u.2.2.2.2.2.2.2.2.2.2.2.2.2.2.1) (u.2.2.2.2.2.2.2.2.2.2.2.2.2.2.2.1) (u.2.2.2.2.2.2.2.2.2.2.2.2.2.2.2.2)) (fun u : Int32 × Int32 × Int32 × Int32 × Int32 × Int32 × Int32 × Int32 × (Nat → Int32) × Int32 × Int32 × Int32 × Int32 × Int32 × (Nat → Int32) × Int32 × Int32 => (fun (fl92 : Int32) (ln2 : Int32) (kd2 : Int32) (bg2 : Int32) (nx2 : Int32) (ft2 : Int32) (lz2 : Int32) (ll2 : Int32) (fc2 : Nat → Int32) (lzV2 : Int32) (llV2 : Int32) (lmV2 : Int32) (lgV2 : Int32) (ldV2 : Int32) (fcV2 : Nat → Int32) (me2 : Int32) (q : Int32) => [bDR g x ta o lo go tt lt mo fo ro fl92, bTape g ta ab 0 ln2 kd2 bg2 nx2 ft2 fb, bLaw g lo lc lz2 ll2 lm lg ld fc2, bLT g lt ta loV, bLaw g loV lcV lzV2 llV2 lmV2 lgV2 ldV2 fcV2, bMem g mo qT qL it il ig mh me2 mx fT fL]) (u.1) (u.2.1) (u.2.2.1) (u.2.2.2.1) (u.2.2.2.2.1) (u.2.2.2.2.2.1) (u.2.2.2.2.2.2.1) (u.2.2.2.2.2.2.2.1) (u.2.2.2.2.2.2.2.2.1) (u.2.2.2.2.2.2.2.2.2.1) (u.2.2.2.2.2.2.2.2.2.2.1) (u.2.2.2.2.2.2.2.2.2.2.2.1) (u.2.2.2.2.2.2.2.2.2.2.2.2.1) (u.2.2.2.2.2.2.2.2.2.2.2.2.2.1) (u.2.2.2.2.2.2.2.2.2.2.2.2.2.2.1) (u.2.2.2.2.2.2.2.2.2.2.2.2.2.2.2.1) (u.2.2.2.2.2.2.2.2.2.2.2.2.2.2.2.2)) (fun (E : String) => fun u : Int32 × Int32 × Int32 × Int32 × Int32 × Int32 × Int32 × Int32 × (Nat → Int32) × Int32 × Int32 × Int32 × Int32 × Int32 × (Nat → Int32) × Int32 => (fun (fl92 : Int32) (ln2 : Int32) (kd2 : Int32) (bg2 : Int32) (nx2 : Int32) (ft2 : Int32) (lz2 : Int32) (ll2 : Int32) (fc2 : Nat → Int32) (lzV2 : Int32) (llV2 : Int32) (lmV2 : Int32) (lgV2 : Int32) (ldV2 : Int32) (fcV2 : Nat → Int32) (me2 : Int32) => (E = "java/lang/IllegalArgumentException") ∧ (0 ≤ lz2.toInt ∧ lz2.toInt ≤ 400) ∧ (0 ≤ lzV2.toInt ∧ lzV2.toInt ≤ 400) ∧ (0 ≤ me2.toInt ∧ me2.toInt ≤ 12) ∧ (zLawB fb sz.toInt 0 fl92.toInt) ∧ (me2.toInt = me.toInt)) (u.1) (u.2.1) (u.2.2.1) (u.2.2.2.1) (u.2.2.2.2.1) (u.2.2.2.2.2.1) (u.2.2.2.2.2.2.1) (u.2.2.2.2.2.2.2.1) (u.2.2.2.2.2.2.2.2.1) (u.2.2.2.2.2.2.2.2.2.1) (u.2.2.2.2.2.2.2.2.2.2.1) (u.2.2.2.2.2.2.2.2.2.2.2.1) (u.2.2.2.2.2.2.2.2.2.2.2.2.1) (u.2.2.2.2.2.2.2.2.2.2.2.2.2.1) (u.2.2.2.2.2.2.2.2.2.2.2.2.2.2.1) (u.2.2.2.2.2.2.2.2.2.2.2.2.2.2.2)) (fun u : Int32 × Int32 × Int32 × Int32 × Int32 × Int32 × Int32 × Int32 × (Nat → Int32) × Int32 × Int32 × Int32 × Int32 × Int32 × (Nat → Int32) × Int32 => (fun (fl92 : Int32) (ln2 : Int32) (kd2 : Int32) (bg2 : Int32) (nx2 : Int32) (ft2 : Int32) (lz2 : Int32) (ll2 : Int32) (fc2 : Nat → Int32) (lzV2 : Int32) (llV2 : Int32) (lmV2 : Int32) (lgV2 : Int32) (ldV2 : Int32) (fcV2 : Nat → Int32) (me2 : Int32) => [bDR g x ta o lo go tt lt mo fo ro fl92, bTape g ta ab 0 ln2 kd2 bg2 nx2 ft2 fb, bLaw g lo lc lz2 ll2 lm lg ld fc2, bLT g lt ta loV, bLaw g loV lcV lzV2 llV2 lmV2 lgV2 ldV2 fcV2, bMem g mo qT qL it il ig mh me2 mx fT fL]) (u.1) (u.2.1) (u.2.2.1) (u.2.2.2.1) (u.2.2.2.2.1) (u.2.2.2.2.2.1) (u.2.2.2.2.2.2.1) (u.2.2.2.2.2.2.2.1) (u.2.2.2.2.2.2.2.2.1) (u.2.2.2.2.2.2.2.2.2.1) (u.2.2.2.2.2.2.2.2.2.2.1) (u.2.2.2.2.2.2.2.2.2.2.2.1) (u.2.2.2.2.2.2.2.2.2.2.2.2.1) (u.2.2.2.2.2.2.2.2.2.2.2.2.2.1) (u.2.2.2.2.2.2.2.2.2.2.2.2.2.2.1) (u.2.2.2.2.2.2.2.2.2.2.2.2.2.2.2)) := by
  refine zX'.of (cc := cX11_law) (maxL := 2) (rt := (some .int)) (by decide) rfl (Nat.le_of_ble_eq_true rfl) ?_
  intro p e s m args below meth c A ls St hr hlocks htab hin hK hT hA hP hD hS hl
  obtain ⟨hx, hb, hml, hown, hts⟩ := id St
  have hl : lv_has ls 2 [(0, .ref x)] := hl
  refine lv_aload_n hx hb dX11_law_0 rfl (lv_at hl 0 rfl) ?_
  refine va_get (D := g.1) (ci := 9) (v := .ref ta) (C := RX11) (T := TX11) (N := 10) hx hb hts izRX11 hown hK hP 0 rfl rfl 0 (by decide) (hts _ k536) (fun _ h9 => h9) rfl dX11_law_1 ?_
  refine lv_aload_n hx hb dX11_law_4 rfl (lv_at hl 0 rfl) ?_
  refine va_get (D := g.1) (ci := 9) (v := .ref ta) (C := RX11) (T := TX11) (N := 10) hx hb hts izRX11 hown hK hP 0 rfl rfl 0 (by decide) (hts _ k536) (fun _ h9 => h9) rfl dX11_law_5 ?_
  refine mcallV' (g := g) (q0 := 0) (ci := 6) (As := []) (rest := [.ref ta]) St hK hT hA hP hD hS hl.1 [1] [0, 2, 3, 4, 5] rfl rfl rfl (c_t_useUp l g ta ab sz ln kd bg nx ft fb ) (cwV 0 hts (zgL (zl4 k583 k584 k585 k277) k424) rfl rfl rfl (by decide +kernel) ⟨Nat.le_of_ble_eq_true rfl, Nat.le_of_ble_eq_true rfl⟩) rfl rfl rfl rfl (Nat.le_of_ble_eq_true rfl) dX11_law_8 ⟨(Nat.le_of_ble_eq_true rfl), (Nat.le_of_ble_eq_true rfl)⟩ (fun _u H locs hq1 hP hD hS => ?_)
  have hP : va_P g.1 vwCl (List.flatten [bDR g x ta o lo go tt lt mo fo ro fl9, bLaw g lo lc lz ll lm lg ld fc, bLT g lt ta loV, bLaw g loV lcV lzV llV lmV lgV ldV fcV, bMem g mo qT qL it il ig mh me mx fT fL, bTape g ta ab 0 ln kd bg nx ft fb]) H := hP
  have hD : va_D A (List.flatten [bDR g x ta o lo go tt lt mo fo ro fl9, bLaw g lo lc lz ll lm lg ld fc, bLT g lt ta loV, bLaw g loV lcV lzV llV lmV lgV ldV fcV, bMem g mo qT qL it il ig mh me mx fT fL, bTape g ta ab 0 ln kd bg nx ft fb]) := hD
  refine W.widen (k := 0) (n := 0) (Nat.le_of_ble_eq_true rfl) (Nat.le_of_ble_eq_true rfl) ?_
  refine W.eq (g2 := F0 m 11 ls [.int sz, .ref ta]) rfl ?_
  refine mcallV' (g := g) (q0 := 0) (ci := 6) (As := [.int sz]) (rest := []) St hK hT hA hP hD hS hl.1 [5] [0, 1, 2, 3, 4] rfl rfl rfl (c_t_openF l g ta ab 0 ln kd bg nx ft fb sz b_sz) (cwV 1 hts (zgL (zl4 k586 k587 k588 k277) k428) rfl rfl rfl (by decide +kernel) ⟨Nat.le_of_ble_eq_true rfl, Nat.le_of_ble_eq_true rfl⟩) rfl rfl rfl rfl (Nat.le_of_ble_eq_true rfl) dX11_law_11 ⟨(Nat.le_of_ble_eq_true rfl), (Nat.le_of_ble_eq_true rfl)⟩ (fun u_ H locs hq6 hP hD hS => ?_)
  obtain ⟨kd2_2, bg2_3, nx2_4, ln2_5⟩ := u_
  replace hq6 : (0 ≤ nx2_4.toInt ∧ nx2_4.toInt ≤ 400) ∧ (0 ≤ bg2_3.toInt ∧ bg2_3.toInt ≤ 400) ∧ (zKd kd2_2.toInt bg2_3.toInt nx2_4.toInt) ∧ (ln2_5.toInt = sz.toInt) ∧ (zSk fb ln2_5.toInt 0 bg2_3.toInt) ∧ (zTk fb ln2_5.toInt kd2_2.toInt bg2_3.toInt nx2_4.toInt) ∧ (0 ≤ ln2_5.toInt ∧ ln2_5.toInt ≤ 400) := hq6
  have hP : va_P g.1 vwCl (List.flatten [bDR g x ta o lo go tt lt mo fo ro fl9, bLaw g lo lc lz ll lm lg ld fc, bLT g lt ta loV, bLaw g loV lcV lzV llV lmV lgV ldV fcV, bMem g mo qT qL it il ig mh me mx fT fL, bTape g ta ab 0 ln2_5 kd2_2 bg2_3 nx2_4 (-1) fb]) H := hP
  have hD : va_D A (List.flatten [bDR g x ta o lo go tt lt mo fo ro fl9, bLaw g lo lc lz ll lm lg ld fc, bLT g lt ta loV, bLaw g loV lcV lzV llV lmV lgV ldV fcV, bMem g mo qT qL it il ig mh me mx fT fL, bTape g ta ab 0 ln2_5 kd2_2 bg2_3 nx2_4 (-1) fb]) := hD
  refine W.widen (k := 0) (n := 0) (Nat.le_of_ble_eq_true rfl) (Nat.le_of_ble_eq_true rfl) ?_
  refine W.eq (g2 := F0 m 14 ls []) rfl ?_
  obtain ⟨hq6_0, hq6_1, hq6_2, hq6_3, hq6_4, hq6_5, hq6_6⟩ := hq6
  refine lv_aload_n hx hb dX11_law_14 rfl (lv_at hl 0 rfl) ?_
  refine va_get (D := g.1) (ci := 9) (v := .ref lt) (C := RX11) (T := TX11) (N := 10) hx hb hts izRX11 hown hK hP 0 rfl rfl 5 (by decide) (hts _ k548) (fun _ h9 => h9) rfl dX11_law_15 ?_
  refine va_get (D := g.1) (ci := 2) (v := .ref loV) (C := RX2) (T := TX2) (N := 2) hx hb hts izRX2 hown hK hP 3 rfl rfl 1 (by decide) (hts _ k596) (fun _ h9 => h9) rfl dX11_law_18 ?_
  refine mcallV' (g := g) (q0 := 0) (ci := 1) (As := []) (rest := []) St hK hT hA hP hD hS hl.1 [3] [0, 1, 2, 4, 5] rfl rfl rfl (c_l_clear l g loV lcV lzV llV lmV lgV ldV fcV ) (cwV 0 hts (zgL (zl4 k598 k599 k600 k85) k199) rfl rfl rfl (by decide +kernel) ⟨Nat.le_of_ble_eq_true rfl, Nat.le_of_ble_eq_true rfl⟩) rfl rfl rfl rfl (Nat.le_of_ble_eq_true rfl) dX11_law_21 ⟨(Nat.le_of_ble_eq_true rfl), (Nat.le_of_ble_eq_true rfl)⟩ (fun _u H locs hq7 hP hD hS => ?_)
  have hP : va_P g.1 vwCl (List.flatten [bDR g x ta o lo go tt lt mo fo ro fl9, bLaw g lo lc lz ll lm lg ld fc, bLT g lt ta loV, bMem g mo qT qL it il ig mh me mx fT fL, bTape g ta ab 0 ln2_5 kd2_2 bg2_3 nx2_4 (-1) fb, bLaw g loV lcV 0 (-1) lmV lgV ldV fcV]) H := hP
  have hD : va_D A (List.flatten [bDR g x ta o lo go tt lt mo fo ro fl9, bLaw g lo lc lz ll lm lg ld fc, bLT g lt ta loV, bMem g mo qT qL it il ig mh me mx fT fL, bTape g ta ab 0 ln2_5 kd2_2 bg2_3 nx2_4 (-1) fb, bLaw g loV lcV 0 (-1) lmV lgV ldV fcV]) := hD
  refine W.widen (k := 0) (n := 0) (Nat.le_of_ble_eq_true rfl) (Nat.le_of_ble_eq_true rfl) ?_
  refine W.eq (g2 := F0 m 24 ls []) rfl ?_
  refine lv_aload_n hx hb dX11_law_24 rfl (lv_at hl 0 rfl) ?_
  refine va_get (D := g.1) (ci := 9) (v := .ref lt) (C := RX11) (T := TX11) (N := 10) hx hb hts izRX11 hown hK hP 0 rfl rfl 5 (by decide) (hts _ k548) (fun _ h9 => h9) rfl dX11_law_25 ?_
  refine lv_bipush (v := 12) hx hb dX11_law_28 (by decide) ?_
  have hL0 : (0 : Int32).toInt = 0 := by decide
  have hL12 : (12 : Int32).toInt = 12 := by decide
  refine mcallU' (g := g) (q0 := 0) (ci := 2) (As := [.int 12]) (rest := []) St hK hT hA hP hD hS hl.1 [2, 4, 5] [0, 1, 3] rfl rfl rfl (c_lt_readLinesF l g lt ta loV ab 0 ln2_5 kd2_2 bg2_3 nx2_4 fb lcV 0 (-1) lmV lgV ldV fcV 12 (by decide) (by decide) hq6_6 hq6_0 hq6_1 hq6_2 hq6_5) (va_cwU (x := ⟨"DryRiver$LawText", "readLines", "(I)I"⟩) 1 hts (zgL (zl5 k601 k602 k603 k593 k213) k498) rfl rfl rfl rfl (by decide +kernel) ⟨Nat.le_of_ble_eq_true rfl, Nat.le_of_ble_eq_true rfl⟩) rfl rfl rfl rfl (Nat.le_of_ble_eq_true rfl) dX11_law_30 ⟨(Nat.le_of_ble_eq_true rfl), (Nat.le_of_ble_eq_true rfl)⟩ (fun u_ H locs hq15 hP hD hS => ?_)
  obtain ⟨kd2_8, bg2_9, nx2_10, ft2_11, lz2_12, fc2_13, q_14⟩ := u_
  replace hq15 : (0 ≤ lz2_12.toInt ∧ lz2_12.toInt ≤ 400) ∧ (-1 ≤ ft2_11.toInt) ∧ (0 ≤ nx2_10.toInt ∧ nx2_10.toInt ≤ 400) ∧ (0 ≤ bg2_9.toInt ∧ bg2_9.toInt ≤ 400) ∧ (zKd kd2_8.toInt bg2_9.toInt nx2_10.toInt) ∧ (zTk fb ln2_5.toInt kd2_8.toInt bg2_9.toInt nx2_10.toInt) ∧ (q_14 = 0 ∧ ln2_5.toInt ≤ bg2_3.toInt ∧ (-1) = ft2_11 ∨ (1 ≤ q_14.toInt ∧ q_14.toInt ≤ (12 : Int32).toInt) ∧ ¬ ln2_5.toInt ≤ bg2_3.toInt ∧ zLines fb ln2_5.toInt (zLLine fb ln2_5.toInt) (12 : Int32).toInt.toNat bg2_3.toInt (.ok ((12 : Int32).toInt - q_14.toInt)) ∧ (-1) = ft2_11 ∨ q_14 = -1 ∧ ¬ ln2_5.toInt ≤ bg2_3.toInt ∧ zLines fb ln2_5.toInt (zLLine fb ln2_5.toInt) (12 : Int32).toInt.toNat bg2_3.toInt (.bad ft2_11.toInt)) := hq15
  have hP : va_P g.1 vwCl (List.flatten [bDR g x ta o lo go tt lt mo fo ro fl9, bLaw g lo lc lz ll lm lg ld fc, bMem g mo qT qL it il ig mh me mx fT fL, bLT g lt ta loV, bTape g ta ab 0 ln2_5 kd2_8 bg2_9 nx2_10 ft2_11 fb, bLaw g loV lcV lz2_12 (-1) lmV lgV ldV fc2_13]) H := hP
  have hD : va_D A (List.flatten [bDR g x ta o lo go tt lt mo fo ro fl9, bLaw g lo lc lz ll lm lg ld fc, bMem g mo qT qL it il ig mh me mx fT fL, bLT g lt ta loV, bTape g ta ab 0 ln2_5 kd2_8 bg2_9 nx2_10 ft2_11 fb, bLaw g loV lcV lz2_12 (-1) lmV lgV ldV fc2_13]) := hD
  refine W.widen (k := 0) (n := 0) (Nat.le_of_ble_eq_true rfl) (Nat.le_of_ble_eq_true rfl) ?_
  refine W.eq (g2 := F0 m 33 ls [.int q_14]) rfl ?_
  obtain ⟨hq15_0, hq15_1, hq15_2, hq15_3, hq15_4, hq15_5, hq15_6⟩ := hq15
  rcases hq15_6 with ⟨rfl, hq15_k, rfl⟩ | ⟨hq15_ka, hq15_kb, hq15_k, rfl⟩ | ⟨rfl, hq15_kb, hq15_k⟩
  · skip
    refine lv_istore_n (lv' := [(1, .int 0), (0, .ref x)]) hx hb dX11_law_33 rfl hl (by decide) rfl (fun ls hl => ?_)
    refine lv_aload_n hx hb dX11_law_34 rfl (lv_at hl 1 rfl) ?_
    refine lv_aload_n hx hb dX11_law_35 rfl (lv_at hl 1 rfl) ?_
    refine va_get (D := g.1) (ci := 9) (v := .ref ta) (C := RX11) (T := TX11) (N := 10) hx hb hts izRX11 hown hK hP 0 rfl rfl 0 (by decide) (hts _ k536) (fun _ h9 => h9) rfl dX11_law_36 ?_
    refine va_get (D := g.1) (ci := 6) (v := .int (-1)) (C := RX6) (T := TX6) (N := 7) hx hb hts izRX6 hown hK hP 7 rfl rfl 6 (by decide) (hts _ k581) (fun _ h9 => h9) rfl dX11_law_39 ?_
    refine va_put (D := g.1) (ci := 9) (v := .int (-1)) (ty := .int) (C := RX11) (T := TX11) (N := 10) hx hb hts izRX11 tyX11 tyX11_ok nmX11 hown hK hP hD hS 0 rfl rfl 9 (by decide) (hts _ k558) (fun _ h9 => h9) rfl (by decide +kernel) rfl rfl (Nat.le_of_ble_eq_true rfl) dX11_law_42 (fun H locs hP hD hS => ?_)
    have hP : va_P g.1 vwCl (List.flatten [bDR g x ta o lo go tt lt mo fo ro (-1), bLaw g lo lc lz ll lm lg ld fc, bMem g mo qT qL it il ig mh me mx fT fL, bLT g lt ta loV, bTape g ta ab 0 ln2_5 kd2_8 bg2_9 nx2_10 (-1) fb, bLaw g loV lcV lz2_12 (-1) lmV lgV ldV fc2_13]) H := hP
    have hD : va_D A (List.flatten [bDR g x ta o lo go tt lt mo fo ro (-1), bLaw g lo lc lz ll lm lg ld fc, bMem g mo qT qL it il ig mh me mx fT fL, bLT g lt ta loV, bTape g ta ab 0 ln2_5 kd2_8 bg2_9 nx2_10 (-1) fb, bLaw g loV lcV lz2_12 (-1) lmV lgV ldV fc2_13]) := hD
    refine lv_iload_n hx hb dX11_law_45 rfl (lv_at hl 0 rfl) ?_
    refine lv_iconst (v := (-1)) hx hb dX11_law_46 (by decide) ?_
    refine lv_icmp_ne (tgt := 60) hx hb dX11_law_47 (by decide) (fun _ => ?_) (fun c16 => absurd c16 (by decide))
    refine lv_aload_n hx hb dX11_law_60 rfl (lv_at hl 1 rfl) ?_
    refine va_get (D := g.1) (ci := 9) (v := .ref lt) (C := RX11) (T := TX11) (N := 10) hx hb hts izRX11 hown hK hP 0 rfl rfl 5 (by decide) (hts _ k548) (fun _ h9 => h9) rfl dX11_law_61 ?_
    refine va_get (D := g.1) (ci := 2) (v := .ref loV) (C := RX2) (T := TX2) (N := 2) hx hb hts izRX2 hown hK hP 6 rfl rfl 1 (by decide) (hts _ k596) (fun _ h9 => h9) rfl dX11_law_64 ?_
    refine lv_iload_n hx hb dX11_law_67 rfl (lv_at hl 0 rfl) ?_
    refine va_put (D := g.1) (ci := 1) (v := .int 0) (ty := .int) (C := RX1) (T := TX1) (N := 6) hx hb hts izRX1 tyX1 tyX1_ok nmX1 hown hK hP hD hS 9 rfl rfl 2 (by decide) (hts _ k597) (fun _ h9 => h9) rfl (by decide +kernel) rfl rfl (Nat.le_of_ble_eq_true rfl) dX11_law_68 (fun H locs hP hD hS => ?_)
    have hP : va_P g.1 vwCl (List.flatten [bDR g x ta o lo go tt lt mo fo ro (-1), bLaw g lo lc lz ll lm lg ld fc, bMem g mo qT qL it il ig mh me mx fT fL, bLT g lt ta loV, bTape g ta ab 0 ln2_5 kd2_8 bg2_9 nx2_10 (-1) fb, bLaw g loV lcV lz2_12 0 lmV lgV ldV fc2_13]) H := hP
    have hD : va_D A (List.flatten [bDR g x ta o lo go tt lt mo fo ro (-1), bLaw g lo lc lz ll lm lg ld fc, bMem g mo qT qL it il ig mh me mx fT fL, bLT g lt ta loV, bTape g ta ab 0 ln2_5 kd2_8 bg2_9 nx2_10 (-1) fb, bLaw g loV lcV lz2_12 0 lmV lgV ldV fc2_13]) := hD
    refine lv_aload_n hx hb dX11_law_71 rfl (lv_at hl 1 rfl) ?_
    refine va_get (D := g.1) (ci := 9) (v := .ref lo) (C := RX11) (T := TX11) (N := 10) hx hb hts izRX11 hown hK hP 0 rfl rfl 2 (by decide) (hts _ k540) (fun _ h9 => h9) rfl dX11_law_72 ?_
    refine lv_aload_n hx hb dX11_law_75 rfl (lv_at hl 1 rfl) ?_
    refine va_get (D := g.1) (ci := 9) (v := .ref lt) (C := RX11) (T := TX11) (N := 10) hx hb hts izRX11 hown hK hP 0 rfl rfl 5 (by decide) (hts _ k548) (fun _ h9 => h9) rfl dX11_law_76 ?_
    refine va_get (D := g.1) (ci := 2) (v := .ref loV) (C := RX2) (T := TX2) (N := 2) hx hb hts izRX2 hown hK hP 6 rfl rfl 1 (by decide) (hts _ k596) (fun _ h9 => h9) rfl dX11_law_79 ?_
    refine mcallV' (g := g) (q0 := 0) (ci := 1) (As := [.ref loV]) (rest := []) St hK hT hA hP hD hS hl.1 [1, 5] [0, 2, 3, 4] rfl rfl rfl (c_l_copyFrom l g lo lc lz ll lm lg ld fc loV lcV lz2_12 0 lmV lgV ldV fc2_13 hq15_0) (cwV 1 hts (zgL (zl4 k604 k372 k373 k85) k200) rfl rfl rfl (by decide +kernel) ⟨Nat.le_of_ble_eq_true rfl, Nat.le_of_ble_eq_true rfl⟩) rfl rfl rfl rfl (Nat.le_of_ble_eq_true rfl) dX11_law_82 ⟨(Nat.le_of_ble_eq_true rfl), (Nat.le_of_ble_eq_true rfl)⟩ (fun h_17 H locs hq18 hP hD hS => ?_)
    have hP : va_P g.1 vwCl (List.flatten [bDR g x ta o lo go tt lt mo fo ro (-1), bMem g mo qT qL it il ig mh me mx fT fL, bLT g lt ta loV, bTape g ta ab 0 ln2_5 kd2_8 bg2_9 nx2_10 (-1) fb, bLaw g lo lc lz2_12 0 lm lg ld h_17, bLaw g loV lcV lz2_12 0 lmV lgV ldV fc2_13]) H := hP
    have hD : va_D A (List.flatten [bDR g x ta o lo go tt lt mo fo ro (-1), bMem g mo qT qL it il ig mh me mx fT fL, bLT g lt ta loV, bTape g ta ab 0 ln2_5 kd2_8 bg2_9 nx2_10 (-1) fb, bLaw g lo lc lz2_12 0 lm lg ld h_17, bLaw g loV lcV lz2_12 0 lmV lgV ldV fc2_13]) := hD
    refine W.widen (k := 0) (n := 0) (Nat.le_of_ble_eq_true rfl) (Nat.le_of_ble_eq_true rfl) ?_
    refine W.eq (g2 := F0 m 85 ls []) rfl ?_
    refine lv_aload_n hx hb dX11_law_85 rfl (lv_at hl 1 rfl) ?_
    refine va_get (D := g.1) (ci := 9) (v := .ref mo) (C := RX11) (T := TX11) (N := 10) hx hb hts izRX11 hown hK hP 0 rfl rfl 6 (by decide) (hts _ k551) (fun _ h9 => h9) rfl dX11_law_86 ?_
    refine mcallV' (g := g) (q0 := 0) (ci := 4) (As := []) (rest := []) St hK hT hA hP hD hS hl.1 [1] [0, 2, 3, 4, 5] rfl rfl rfl (c_m_forget l g mo qT qL it il ig mh me mx fT fL ) (cwV 0 hts (zgL (zl4 k594 k376 k377 k378) k359) rfl rfl rfl (by decide +kernel) ⟨Nat.le_of_ble_eq_true rfl, Nat.le_of_ble_eq_true rfl⟩) rfl rfl rfl rfl (Nat.le_of_ble_eq_true rfl) dX11_law_89 ⟨(Nat.le_of_ble_eq_true rfl), (Nat.le_of_ble_eq_true rfl)⟩ (fun _u H locs hq19 hP hD hS => ?_)
    have hP : va_P g.1 vwCl (List.flatten [bDR g x ta o lo go tt lt mo fo ro (-1), bLT g lt ta loV, bTape g ta ab 0 ln2_5 kd2_8 bg2_9 nx2_10 (-1) fb, bLaw g lo lc lz2_12 0 lm lg ld h_17, bLaw g loV lcV lz2_12 0 lmV lgV ldV fc2_13, bMem g mo qT qL it il ig mh 0 mx fT fL]) H := hP
    have hD : va_D A (List.flatten [bDR g x ta o lo go tt lt mo fo ro (-1), bLT g lt ta loV, bTape g ta ab 0 ln2_5 kd2_8 bg2_9 nx2_10 (-1) fb, bLaw g lo lc lz2_12 0 lm lg ld h_17, bLaw g loV lcV lz2_12 0 lmV lgV ldV fc2_13, bMem g mo qT qL it il ig mh 0 mx fT fL]) := hD
    refine W.widen (k := 0) (n := 0) (Nat.le_of_ble_eq_true rfl) (Nat.le_of_ble_eq_true rfl) ?_
    refine W.eq (g2 := F0 m 92 ls []) rfl ?_
    refine lv_iload_n hx hb dX11_law_92 rfl (lv_at hl 0 rfl) ?_
    have hP : va_P g.1 vwCl (List.flatten [bDR g x ta o lo go tt lt mo fo ro (-1), bLT g lt ta loV, bTape g ta ab 0 ln2_5 kd2_8 bg2_9 nx2_10 (-1) fb, bLaw g lo lc lz2_12 0 lm lg ld h_17, bLaw g loV lcV lz2_12 0 lmV lgV ldV fc2_13, bMem g mo qT qL it il ig mh 0 mx fT fL]) H := hP
    have hD : va_D A (List.flatten [bDR g x ta o lo go tt lt mo fo ro (-1), bLT g lt ta loV, bTape g ta ab 0 ln2_5 kd2_8 bg2_9 nx2_10 (-1) fb, bLaw g lo lc lz2_12 0 lm lg ld h_17, bLaw g loV lcV lz2_12 0 lmV lgV ldV fc2_13, bMem g mo qT qL it il ig mh 0 mx fT fL]) := hD
    obtain ⟨hP, hD⟩ := zord (g := g) (Bs' := [bDR g x ta o lo go tt lt mo fo ro (-1), bTape g ta ab 0 ln2_5 kd2_8 bg2_9 nx2_10 (-1) fb, bLaw g lo lc lz2_12 0 lm lg ld h_17, bLT g lt ta loV, bLaw g loV lcV lz2_12 0 lmV lgV ldV fc2_13, bMem g mo qT qL it il ig mh 0 mx fT fL]) [0, 2, 3, 1, 4, 5] rfl rfl hP hD
    exact zret_i hx hb hr hlocks hS (Nat.le_of_ble_eq_true rfl) (Nat.le_of_ble_eq_true rfl) dX11_law_93 (-1, ln2_5, kd2_8, bg2_9, nx2_10, -1, lz2_12, (0 : Int32), h_17, lz2_12, (0 : Int32), lmV, lgV, ldV, fc2_13, (0 : Int32), (0 : Int32)) rfl (show (0 ≤ lz2_12.toInt ∧ lz2_12.toInt ≤ 400) ∧ (0 ≤ lz2_12.toInt ∧ lz2_12.toInt ≤ 400) ∧ (0 ≤ (0 : Int32).toInt ∧ (0 : Int32).toInt ≤ 12) ∧ (zLawR fb sz.toInt 0 (0 : Int32).toInt ∧ ((-1) : Int32).toInt = -1 ∧ (0 : Int32).toInt = 0) from ⟨(by first | assumption | omega | decide), (by first | assumption | omega | decide), (by first | assumption | omega | decide), ⟨(zLawR_c hq6_3 rfl (zLaw_of (m := 12) (k := 12) rfl rfl (show _ = zbg fb _ 0 from hq6_4) (Or.inl ⟨(by decide), hq15_k⟩))), (by decide), (by decide)⟩⟩) hP hD
  · skip
    refine lv_istore_n (lv' := [(1, .int q_14), (0, .ref x)]) hx hb dX11_law_33 rfl hl (by decide) rfl (fun ls hl => ?_)
    refine lv_aload_n hx hb dX11_law_34 rfl (lv_at hl 1 rfl) ?_
    refine lv_aload_n hx hb dX11_law_35 rfl (lv_at hl 1 rfl) ?_
    refine va_get (D := g.1) (ci := 9) (v := .ref ta) (C := RX11) (T := TX11) (N := 10) hx hb hts izRX11 hown hK hP 0 rfl rfl 0 (by decide) (hts _ k536) (fun _ h9 => h9) rfl dX11_law_36 ?_
    refine va_get (D := g.1) (ci := 6) (v := .int (-1)) (C := RX6) (T := TX6) (N := 7) hx hb hts izRX6 hown hK hP 7 rfl rfl 6 (by decide) (hts _ k581) (fun _ h9 => h9) rfl dX11_law_39 ?_
    refine va_put (D := g.1) (ci := 9) (v := .int (-1)) (ty := .int) (C := RX11) (T := TX11) (N := 10) hx hb hts izRX11 tyX11 tyX11_ok nmX11 hown hK hP hD hS 0 rfl rfl 9 (by decide) (hts _ k558) (fun _ h9 => h9) rfl (by decide +kernel) rfl rfl (Nat.le_of_ble_eq_true rfl) dX11_law_42 (fun H locs hP hD hS => ?_)
    have hP : va_P g.1 vwCl (List.flatten [bDR g x ta o lo go tt lt mo fo ro (-1), bLaw g lo lc lz ll lm lg ld fc, bMem g mo qT qL it il ig mh me mx fT fL, bLT g lt ta loV, bTape g ta ab 0 ln2_5 kd2_8 bg2_9 nx2_10 (-1) fb, bLaw g loV lcV lz2_12 (-1) lmV lgV ldV fc2_13]) H := hP
    have hD : va_D A (List.flatten [bDR g x ta o lo go tt lt mo fo ro (-1), bLaw g lo lc lz ll lm lg ld fc, bMem g mo qT qL it il ig mh me mx fT fL, bLT g lt ta loV, bTape g ta ab 0 ln2_5 kd2_8 bg2_9 nx2_10 (-1) fb, bLaw g loV lcV lz2_12 (-1) lmV lgV ldV fc2_13]) := hD
    refine lv_iload_n hx hb dX11_law_45 rfl (lv_at hl 0 rfl) ?_
    refine lv_iconst (v := (-1)) hx hb dX11_law_46 (by decide) ?_
    refine lv_icmp_ne (tgt := 60) hx hb dX11_law_47 (by decide) (fun cb9 => ?_) (fun cb9 => ?_)
    · skip
      have c20 : ¬ q_14.toInt = (-1) := zne cb9 rfl (by decide)
      refine lv_aload_n hx hb dX11_law_60 rfl (lv_at hl 1 rfl) ?_
      refine va_get (D := g.1) (ci := 9) (v := .ref lt) (C := RX11) (T := TX11) (N := 10) hx hb hts izRX11 hown hK hP 0 rfl rfl 5 (by decide) (hts _ k548) (fun _ h9 => h9) rfl dX11_law_61 ?_
      refine va_get (D := g.1) (ci := 2) (v := .ref loV) (C := RX2) (T := TX2) (N := 2) hx hb hts izRX2 hown hK hP 6 rfl rfl 1 (by decide) (hts _ k596) (fun _ h9 => h9) rfl dX11_law_64 ?_
      refine lv_iload_n hx hb dX11_law_67 rfl (lv_at hl 0 rfl) ?_
      refine va_put (D := g.1) (ci := 1) (v := .int q_14) (ty := .int) (C := RX1) (T := TX1) (N := 6) hx hb hts izRX1 tyX1 tyX1_ok nmX1 hown hK hP hD hS 9 rfl rfl 2 (by decide) (hts _ k597) (fun _ h9 => h9) rfl (by decide +kernel) rfl rfl (Nat.le_of_ble_eq_true rfl) dX11_law_68 (fun H locs hP hD hS => ?_)
      have hP : va_P g.1 vwCl (List.flatten [bDR g x ta o lo go tt lt mo fo ro (-1), bLaw g lo lc lz ll lm lg ld fc, bMem g mo qT qL it il ig mh me mx fT fL, bLT g lt ta loV, bTape g ta ab 0 ln2_5 kd2_8 bg2_9 nx2_10 (-1) fb, bLaw g loV lcV lz2_12 q_14 lmV lgV ldV fc2_13]) H := hP
      have hD : va_D A (List.flatten [bDR g x ta o lo go tt lt mo fo ro (-1), bLaw g lo lc lz ll lm lg ld fc, bMem g mo qT qL it il ig mh me mx fT fL, bLT g lt ta loV, bTape g ta ab 0 ln2_5 kd2_8 bg2_9 nx2_10 (-1) fb, bLaw g loV lcV lz2_12 q_14 lmV lgV ldV fc2_13]) := hD
      refine lv_aload_n hx hb dX11_law_71 rfl (lv_at hl 1 rfl) ?_
      refine va_get (D := g.1) (ci := 9) (v := .ref lo) (C := RX11) (T := TX11) (N := 10) hx hb hts izRX11 hown hK hP 0 rfl rfl 2 (by decide) (hts _ k540) (fun _ h9 => h9) rfl dX11_law_72 ?_
      refine lv_aload_n hx hb dX11_law_75 rfl (lv_at hl 1 rfl) ?_
      refine va_get (D := g.1) (ci := 9) (v := .ref lt) (C := RX11) (T := TX11) (N := 10) hx hb hts izRX11 hown hK hP 0 rfl rfl 5 (by decide) (hts _ k548) (fun _ h9 => h9) rfl dX11_law_76 ?_
      refine va_get (D := g.1) (ci := 2) (v := .ref loV) (C := RX2) (T := TX2) (N := 2) hx hb hts izRX2 hown hK hP 6 rfl rfl 1 (by decide) (hts _ k596) (fun _ h9 => h9) rfl dX11_law_79 ?_
      refine mcallV' (g := g) (q0 := 0) (ci := 1) (As := [.ref loV]) (rest := []) St hK hT hA hP hD hS hl.1 [1, 5] [0, 2, 3, 4] rfl rfl rfl (c_l_copyFrom l g lo lc lz ll lm lg ld fc loV lcV lz2_12 q_14 lmV lgV ldV fc2_13 hq15_0) (cwV 1 hts (zgL (zl4 k604 k372 k373 k85) k200) rfl rfl rfl (by decide +kernel) ⟨Nat.le_of_ble_eq_true rfl, Nat.le_of_ble_eq_true rfl⟩) rfl rfl rfl rfl (Nat.le_of_ble_eq_true rfl) dX11_law_82 ⟨(Nat.le_of_ble_eq_true rfl), (Nat.le_of_ble_eq_true rfl)⟩ (fun h_21 H locs hq22 hP hD hS => ?_)
      have hP : va_P g.1 vwCl (List.flatten [bDR g x ta o lo go tt lt mo fo ro (-1), bMem g mo qT qL it il ig mh me mx fT fL, bLT g lt ta loV, bTape g ta ab 0 ln2_5 kd2_8 bg2_9 nx2_10 (-1) fb, bLaw g lo lc lz2_12 q_14 lm lg ld h_21, bLaw g loV lcV lz2_12 q_14 lmV lgV ldV fc2_13]) H := hP
      have hD : va_D A (List.flatten [bDR g x ta o lo go tt lt mo fo ro (-1), bMem g mo qT qL it il ig mh me mx fT fL, bLT g lt ta loV, bTape g ta ab 0 ln2_5 kd2_8 bg2_9 nx2_10 (-1) fb, bLaw g lo lc lz2_12 q_14 lm lg ld h_21, bLaw g loV lcV lz2_12 q_14 lmV lgV ldV fc2_13]) := hD
      refine W.widen (k := 0) (n := 0) (Nat.le_of_ble_eq_true rfl) (Nat.le_of_ble_eq_true rfl) ?_
      refine W.eq (g2 := F0 m 85 ls []) rfl ?_
      refine lv_aload_n hx hb dX11_law_85 rfl (lv_at hl 1 rfl) ?_
      refine va_get (D := g.1) (ci := 9) (v := .ref mo) (C := RX11) (T := TX11) (N := 10) hx hb hts izRX11 hown hK hP 0 rfl rfl 6 (by decide) (hts _ k551) (fun _ h9 => h9) rfl dX11_law_86 ?_
      refine mcallV' (g := g) (q0 := 0) (ci := 4) (As := []) (rest := []) St hK hT hA hP hD hS hl.1 [1] [0, 2, 3, 4, 5] rfl rfl rfl (c_m_forget l g mo qT qL it il ig mh me mx fT fL ) (cwV 0 hts (zgL (zl4 k594 k376 k377 k378) k359) rfl rfl rfl (by decide +kernel) ⟨Nat.le_of_ble_eq_true rfl, Nat.le_of_ble_eq_true rfl⟩) rfl rfl rfl rfl (Nat.le_of_ble_eq_true rfl) dX11_law_89 ⟨(Nat.le_of_ble_eq_true rfl), (Nat.le_of_ble_eq_true rfl)⟩ (fun _u H locs hq23 hP hD hS => ?_)
      have hP : va_P g.1 vwCl (List.flatten [bDR g x ta o lo go tt lt mo fo ro (-1), bLT g lt ta loV, bTape g ta ab 0 ln2_5 kd2_8 bg2_9 nx2_10 (-1) fb, bLaw g lo lc lz2_12 q_14 lm lg ld h_21, bLaw g loV lcV lz2_12 q_14 lmV lgV ldV fc2_13, bMem g mo qT qL it il ig mh 0 mx fT fL]) H := hP
      have hD : va_D A (List.flatten [bDR g x ta o lo go tt lt mo fo ro (-1), bLT g lt ta loV, bTape g ta ab 0 ln2_5 kd2_8 bg2_9 nx2_10 (-1) fb, bLaw g lo lc lz2_12 q_14 lm lg ld h_21, bLaw g loV lcV lz2_12 q_14 lmV lgV ldV fc2_13, bMem g mo qT qL it il ig mh 0 mx fT fL]) := hD
      refine W.widen (k := 0) (n := 0) (Nat.le_of_ble_eq_true rfl) (Nat.le_of_ble_eq_true rfl) ?_
      refine W.eq (g2 := F0 m 92 ls []) rfl ?_
      refine lv_iload_n hx hb dX11_law_92 rfl (lv_at hl 0 rfl) ?_
      have hP : va_P g.1 vwCl (List.flatten [bDR g x ta o lo go tt lt mo fo ro (-1), bLT g lt ta loV, bTape g ta ab 0 ln2_5 kd2_8 bg2_9 nx2_10 (-1) fb, bLaw g lo lc lz2_12 q_14 lm lg ld h_21, bLaw g loV lcV lz2_12 q_14 lmV lgV ldV fc2_13, bMem g mo qT qL it il ig mh 0 mx fT fL]) H := hP
      have hD : va_D A (List.flatten [bDR g x ta o lo go tt lt mo fo ro (-1), bLT g lt ta loV, bTape g ta ab 0 ln2_5 kd2_8 bg2_9 nx2_10 (-1) fb, bLaw g lo lc lz2_12 q_14 lm lg ld h_21, bLaw g loV lcV lz2_12 q_14 lmV lgV ldV fc2_13, bMem g mo qT qL it il ig mh 0 mx fT fL]) := hD
      obtain ⟨hP, hD⟩ := zord (g := g) (Bs' := [bDR g x ta o lo go tt lt mo fo ro (-1), bTape g ta ab 0 ln2_5 kd2_8 bg2_9 nx2_10 (-1) fb, bLaw g lo lc lz2_12 q_14 lm lg ld h_21, bLT g lt ta loV, bLaw g loV lcV lz2_12 q_14 lmV lgV ldV fc2_13, bMem g mo qT qL it il ig mh 0 mx fT fL]) [0, 2, 3, 1, 4, 5] rfl rfl hP hD
      exact zret_i hx hb hr hlocks hS (Nat.le_of_ble_eq_true rfl) (Nat.le_of_ble_eq_true rfl) dX11_law_93 (-1, ln2_5, kd2_8, bg2_9, nx2_10, -1, lz2_12, q_14, h_21, lz2_12, q_14, lmV, lgV, ldV, fc2_13, (0 : Int32), q_14) rfl (show (0 ≤ lz2_12.toInt ∧ lz2_12.toInt ≤ 400) ∧ (0 ≤ lz2_12.toInt ∧ lz2_12.toInt ≤ 400) ∧ (0 ≤ (0 : Int32).toInt ∧ (0 : Int32).toInt ≤ 12) ∧ (zLawR fb sz.toInt 0 q_14.toInt ∧ ((-1) : Int32).toInt = -1 ∧ (0 : Int32).toInt = 0) from ⟨(by first | assumption | omega | decide), (by first | assumption | omega | decide), (by first | assumption | omega | decide), ⟨(zLawR_c hq6_3 rfl (zLaw_of (by decide) (by decide) (show _ = zbg fb _ 0 from hq6_4) (Or.inr ⟨hq15_ka, hq15_kb, hq15_k⟩))), (by decide), (by decide)⟩⟩) hP hD
    · skip
      exact absurd (show q_14.toInt = (-1) from zeq cb9 rfl (by decide)) (zDeq2 (a := 1) (b := (-1)) hq15_ka.1 (Int.le_refl _) (by decide))
  · skip
    refine lv_istore_n (lv' := [(1, .int (-1)), (0, .ref x)]) hx hb dX11_law_33 rfl hl (by decide) rfl (fun ls hl => ?_)
    refine lv_aload_n hx hb dX11_law_34 rfl (lv_at hl 1 rfl) ?_
    refine lv_aload_n hx hb dX11_law_35 rfl (lv_at hl 1 rfl) ?_
    refine va_get (D := g.1) (ci := 9) (v := .ref ta) (C := RX11) (T := TX11) (N := 10) hx hb hts izRX11 hown hK hP 0 rfl rfl 0 (by decide) (hts _ k536) (fun _ h9 => h9) rfl dX11_law_36 ?_
    refine va_get (D := g.1) (ci := 6) (v := .int ft2_11) (C := RX6) (T := TX6) (N := 7) hx hb hts izRX6 hown hK hP 7 rfl rfl 6 (by decide) (hts _ k581) (fun _ h9 => h9) rfl dX11_law_39 ?_
    refine va_put (D := g.1) (ci := 9) (v := .int ft2_11) (ty := .int) (C := RX11) (T := TX11) (N := 10) hx hb hts izRX11 tyX11 tyX11_ok nmX11 hown hK hP hD hS 0 rfl rfl 9 (by decide) (hts _ k558) (fun _ h9 => h9) rfl (by decide +kernel) rfl rfl (Nat.le_of_ble_eq_true rfl) dX11_law_42 (fun H locs hP hD hS => ?_)
    have hP : va_P g.1 vwCl (List.flatten [bDR g x ta o lo go tt lt mo fo ro ft2_11, bLaw g lo lc lz ll lm lg ld fc, bMem g mo qT qL it il ig mh me mx fT fL, bLT g lt ta loV, bTape g ta ab 0 ln2_5 kd2_8 bg2_9 nx2_10 ft2_11 fb, bLaw g loV lcV lz2_12 (-1) lmV lgV ldV fc2_13]) H := hP
    have hD : va_D A (List.flatten [bDR g x ta o lo go tt lt mo fo ro ft2_11, bLaw g lo lc lz ll lm lg ld fc, bMem g mo qT qL it il ig mh me mx fT fL, bLT g lt ta loV, bTape g ta ab 0 ln2_5 kd2_8 bg2_9 nx2_10 ft2_11 fb, bLaw g loV lcV lz2_12 (-1) lmV lgV ldV fc2_13]) := hD
    refine lv_iload_n hx hb dX11_law_45 rfl (lv_at hl 0 rfl) ?_
    refine lv_iconst (v := (-1)) hx hb dX11_law_46 (by decide) ?_
    refine lv_icmp_ne (tgt := 60) hx hb dX11_law_47 (by decide) (fun c25 => absurd (by decide) c25) (fun _ => ?_)
    have w26 : zLawB fb sz.toInt 0 ft2_11.toInt := zLawB_c hq6_3 rfl (zLawB_of (by decide) (show _ = zbg fb _ 0 from hq6_4) hq15_kb hq15_k)
    obtain ⟨sa27, hsa27⟩ := hT.1.2.2.1 _ (List.mem_of_getElem? (i := 2) rfl)
    have hP : va_P g.1 vwCl (List.flatten [bDR g x ta o lo go tt lt mo fo ro ft2_11, bLaw g lo lc lz ll lm lg ld fc, bMem g mo qT qL it il ig mh me mx fT fL, bLT g lt ta loV, bTape g ta ab 0 ln2_5 kd2_8 bg2_9 nx2_10 ft2_11 fb, bLaw g loV lcV lz2_12 (-1) lmV lgV ldV fc2_13]) H := hP
    have hD : va_D A (List.flatten [bDR g x ta o lo go tt lt mo fo ro ft2_11, bLaw g lo lc lz ll lm lg ld fc, bMem g mo qT qL it il ig mh me mx fT fL, bLT g lt ta loV, bTape g ta ab 0 ln2_5 kd2_8 bg2_9 nx2_10 ft2_11 fb, bLaw g loV lcV lz2_12 (-1) lmV lgV ldV fc2_13]) := hD
    obtain ⟨hP, hD⟩ := zord (g := g) (Bs' := [bDR g x ta o lo go tt lt mo fo ro ft2_11, bTape g ta ab 0 ln2_5 kd2_8 bg2_9 nx2_10 ft2_11 fb, bLaw g lo lc lz ll lm lg ld fc, bLT g lt ta loV, bLaw g loV lcV lz2_12 (-1) lmV lgV ldV fc2_13, bMem g mo qT qL it il ig mh me mx fT fL]) [0, 4, 1, 3, 5, 2] rfl rfl hP hD
    exact vx_throwS (A := A) (names := ["java/lang/RuntimeException", "java/lang/Exception"]) hx hb hfl hown (by decide +kernel) (by decide +kernel) (hts _ k576) (hts _ k577) hsa27 (zhat hat_RX11_110_IllegalArgumentExceptiona hat_RX11_110_IllegalArgumentExceptionb hts (hT.1.2.2.2.2.1 _ (List.mem_of_getElem? (i := 1) rfl))) hat_RX11_110_IllegalArgumentExceptionc hT.1.1 hT.1.2.1 hS (by rw [hml]; exact hl.1) dX11_law_50 dX11_law_53 dX11_law_54 dX11_law_56 dX11_law_59 (fun x hx => (htab x hx).elim) (Nat.le_of_ble_eq_true rfl) (Nat.le_of_ble_eq_true rfl) (Nat.le_of_ble_eq_true rfl) (Nat.le_of_ble_eq_true rfl) hlocks (fun t ht hz hk => ⟨⟨(ft2_11, ln2_5, kd2_8, bg2_9, nx2_10, ft2_11, lz, ll, fc, lz2_12, -1, lmV, lgV, ldV, fc2_13, me), ⟨rfl, (show 0 ≤ lz.toInt ∧ lz.toInt ≤ 400 from b_lz), (show 0 ≤ lz2_12.toInt ∧ lz2_12.toInt ≤ 400 from hq15_0), (show 0 ≤ me.toInt ∧ me.toInt ≤ 12 from b_me), (show zLawB fb sz.toInt 0 ft2_11.toInt from w26), (show me.toInt = me.toInt from (by first | assumption | omega | decide | exact rfl | exact zb01 (by omega) | exact Or.inl (by decide) | exact Or.inr (by first | omega | decide)))⟩, hP.kept (fun k q hq => hk q.1 (hP k q hq).lt), hD⟩, ⟨Nat.le_trans hS.1 hz, fun q h1 h2 => (hk q (Nat.lt_of_lt_of_le h1 hS.1)).trans (hS.2.1 q h1 h2)⟩⟩) hS.2.2 (Nat.le_of_ble_eq_true rfl) (Nat.le_of_ble_eq_true rfl)
set_option maxRecDepth 100000 in
set_option maxHeartbeats 4000000 in
theorem m_lawF (l : Launch) (g : zG) (o : Nat) (a : Nat → Nat) (th : Int32) (hi : Int32) (ac : Int32) (tp : Int32) (ba : Int32) (en : Int32) (tA : Int32) (fl : Int32) (de : Int32) (iD : Int32) (iO : Int32) (tU : Int32) (fm : Nat → Int32) (fk : Nat → Int32) (fa : Nat → Int32) (fc : Nat → Int32) (ft : Nat → Int32) (ff : Nat → Int32) (fb : Nat → Int32) (fi : Nat → Int32) (rfm : rM fm) (hac : 0 ≤ ac.toInt ∧ ac.toInt ≤ 12) (htp : 0 ≤ tp.toInt ∧ tp.toInt ≤ 400) (hiD : 0 ≤ iD.toInt ∧ iD.toInt ≤ 1) (hiO : 0 ≤ iO.toInt ∧ iO.toInt ≤ 1) : zM' g l yX12_law (Cond.code yX12_law cX12_law 3 (some .int) :: zB) ({ frames := 31, cells := 0, slots := 0, locals := 688 } : Room) [.ref o] [bMo g o a th hi ac tp ba en tA fl de iD iO tU fm fk fa fc ft ff fb fi] (fun u : Int32 × Int32 × Int32 × Int32 × (Nat → Int32) × Int32 × Int32 => (fun (th2 : Int32) (at2 : Int32) (fl2 : Int32) (tU2 : Int32) (fm2 : Nat → Int32) (ac2 : Int32) (q : Int32) => some (.int q)) (u.1) (u.2.1) (u.2.2.1) (u.2.2.2.1) (u.2.2.2.2.1) (u.2.2.2.2.2.1) (u.2.2.2.2.2.2)) (fun u : Int32 × Int32 × Int32 × Int32 × (Nat → Int32) × Int32 × Int32 => (fun (th2 : Int32) (at2 : Int32) (fl2 : Int32) (tU2 : Int32) (fm2 : Nat → Int32) (ac2 : Int32) (q : Int32) => ((fm2 0).toInt = (fm 0).toInt ∧ (fm2 3).toInt = (fm 3).toInt ∧ (fm2 4).toInt = (fm 4).toInt) ∧ (0 ≤ ac2.toInt ∧ ac2.toInt ≤ 12) ∧ (rM fm2) ∧ (th2 = 0 ∧ zLawR ft tp.toInt 0 q.toInt ∧ (-1) = fl2 ∧ ac2.toInt = 0 ∨ th2 = 1 ∧ zLawB ft tp.toInt 0 fl2.toInt ∧ ac2.toInt = ac.toInt)) (u.1) (u.2.1) (u.2.2.1) (u.2.2.2.1) (u.2.2.2.2.1) (u.2.2.2.2.2.1) (u.2.2.2.2.2.2)) (fun u : Int32 × Int32 × Int32 × Int32 × (Nat → Int32) × Int32 × Int32 => (fun (th2 : Int32) (at2 : Int32) (fl2 : Int32) (tU2 : Int32) (fm2 : Nat → Int32) (ac2 : Int32) (q : Int32) => [bMo g o a th2 hi ac2 0 (-1) tp at2 fl2 0 iD iO tU2 fm2 fk fa fc ft ff fb fi]) (u.1) (u.2.1) (u.2.2.1) (u.2.2.2.1) (u.2.2.2.2.1) (u.2.2.2.2.2.1) (u.2.2.2.2.2.2)) := by
  refine zM'.of (cc := cX12_law) (maxL := 3) (rt := (some .int)) (by decide) rfl (Nat.le_of_ble_eq_true rfl) ?_
  intro p e s m args below meth c A ls St hr hlocks hin hK hT hA hP hD hS hl
  obtain ⟨hx, hb, hml, hown, hts⟩ := id St
  have hl : lv_has ls 3 [(0, .ref o)] := hl
  refine lv_aload_n hx hb dX12_law_0 rfl (lv_at hl 0 rfl) ?_
  refine mcallV' (g := g) (q0 := 0) (ci := 10) (As := []) (rest := []) St hK hT hA hP hD hS hl.1 [0] [] rfl rfl rfl (m_begins l g o a th hi ac tp ba en tA fl de iD iO tU fm fk fa fc ft ff fb fi ) (cwV 0 hts (zgL (zl4 k978 k979 k980 k839) k932) rfl rfl rfl (by decide +kernel) ⟨Nat.le_of_ble_eq_true rfl, Nat.le_of_ble_eq_true rfl⟩) rfl rfl rfl rfl (Nat.le_of_ble_eq_true rfl) dX12_law_1 ⟨(Nat.le_of_ble_eq_true rfl), (Nat.le_of_ble_eq_true rfl)⟩ (fun _u H locs hq1 hP hD hS => ?_)
  have hP : va_P g.1 vwCl (List.flatten [bMo g o a th hi ac 0 (-1) tp 0 (-1) 0 iD iO tU fm fk fa fc ft ff fb fi]) H := hP
  have hD : va_D A (List.flatten [bMo g o a th hi ac 0 (-1) tp 0 (-1) 0 iD iO tU fm fk fa fc ft ff fb fi]) := hD
  refine W.widen (k := 0) (n := 0) (Nat.le_of_ble_eq_true rfl) (Nat.le_of_ble_eq_true rfl) ?_
  refine W.eq (g2 := F0 m 4 ls []) rfl ?_
  refine lv_aload_n hx hb dX12_law_4 rfl (lv_at hl 0 rfl) ?_
  refine lv_iconst (v := 1) hx hb dX12_law_5 (by decide) ?_
  have hL0 : (0 : Int32).toInt = 0 := by decide
  refine mcallV' (g := g) (q0 := 0) (ci := 10) (As := [.int 1]) (rest := []) St hK hT hA hP hD hS hl.1 [0] [] rfl rfl rfl (m_readLF l g o a th hi ac 0 tp 0 iD iO tU fm fk fa fc ft ff fb fi hiD hiO htp (by first | assumption | omega | decide | exact Or.inl (by decide) | exact Or.inr (by decide)) (by first | assumption | omega | decide | exact Or.inl (by decide) | exact Or.inr (by decide))) (cwV 1 hts (zgL (zl4 k981 k982 k983 k839) k971) rfl rfl rfl (by decide +kernel) ⟨Nat.le_of_ble_eq_true rfl, Nat.le_of_ble_eq_true rfl⟩) rfl rfl rfl rfl (Nat.le_of_ble_eq_true rfl) dX12_law_6 ⟨(Nat.le_of_ble_eq_true rfl), (Nat.le_of_ble_eq_true rfl)⟩ (fun u_ H locs hq6 hP hD hS => ?_)
  obtain ⟨at2_2, fl2_3, tU2_4, q_5⟩ := u_
  replace hq6 : (0 ≤ at2_2.toInt ∧ at2_2.toInt ≤ tp.toInt + 7 - 0) ∧ ((0 : Int32).toInt ≤ at2_2.toInt) ∧ ((-1) = fl2_3 ∧ zLawR ft tp.toInt (0 : Int32).toInt q_5.toInt ∨ 0 ≤ fl2_3.toInt ∧ zLawB ft tp.toInt (0 : Int32).toInt fl2_3.toInt) := hq6
  have hP : va_P g.1 vwCl (List.flatten [bMo g o a th hi ac 0 (-1) tp at2_2 fl2_3 0 iD iO tU2_4 fm fk fa fc ft ff fb fi]) H := hP
  have hD : va_D A (List.flatten [bMo g o a th hi ac 0 (-1) tp at2_2 fl2_3 0 iD iO tU2_4 fm fk fa fc ft ff fb fi]) := hD
  refine W.widen (k := 0) (n := 0) (Nat.le_of_ble_eq_true rfl) (Nat.le_of_ble_eq_true rfl) ?_
  refine W.eq (g2 := F0 m 9 ls [.int q_5]) rfl ?_
  obtain ⟨hq6_0, hq6_1, hq6_2⟩ := hq6
  rcases hq6_2 with ⟨rfl, hq6_k⟩ | ⟨hq6_k, hq6_km⟩
  · skip
    refine lv_istore_n (lv' := [(1, .int q_5), (0, .ref o)]) hx hb dX12_law_9 rfl hl (by decide) rfl (fun ls hl => ?_)
    refine lv_aload_n hx hb dX12_law_10 rfl (lv_at hl 1 rfl) ?_
    refine lv_aload_n hx hb dX12_law_11 rfl (lv_at hl 1 rfl) ?_
    refine va_get (D := g.1) (ci := 10) (v := .int (-1)) (C := RX12) (T := TX12) (N := 20) hx hb hts izRX12 hown hK hP 0 rfl rfl 12 (by decide) (hts _ k820) (fun _ h9 => h9) rfl dX12_law_12 ?_
    refine lv_iconst (v := (-1)) hx hb dX12_law_15 (by decide) ?_
    refine lv_icmp_eq (tgt := 23) hx hb dX12_law_16 (by decide) (fun _ => ?_) (fun c7 => absurd (by decide) c7)
    refine lv_iconst (v := 0) hx hb dX12_law_23 (by decide) ?_
    refine va_put (D := g.1) (ci := 10) (v := .int 0) (ty := .int) (C := RX12) (T := TX12) (N := 20) hx hb hts izRX12 tyX12 tyX12_ok nmX12 hown hK hP hD hS 0 rfl rfl 0 (by decide) (hts _ k825) (fun _ h9 => h9) rfl (by decide +kernel) rfl rfl (Nat.le_of_ble_eq_true rfl) dX12_law_24 (fun H locs hP hD hS => ?_)
    have hP : va_P g.1 vwCl (List.flatten [bMo g o a 0 hi ac 0 (-1) tp at2_2 (-1) 0 iD iO tU2_4 fm fk fa fc ft ff fb fi]) H := hP
    have hD : va_D A (List.flatten [bMo g o a 0 hi ac 0 (-1) tp at2_2 (-1) 0 iD iO tU2_4 fm fk fa fc ft ff fb fi]) := hD
    refine lv_aload_n hx hb dX12_law_27 rfl (lv_at hl 1 rfl) ?_
    refine va_get (D := g.1) (ci := 10) (v := .int 0) (C := RX12) (T := TX12) (N := 20) hx hb hts izRX12 hown hK hP 0 rfl rfl 0 (by decide) (hts _ k825) (fun _ h9 => h9) rfl dX12_law_28 ?_
    refine lv_if_le (tgt := 36) hx hb dX12_law_31 (by decide) (fun _ => ?_) (fun c8 => absurd (by decide) c8)
    refine lv_aload_n hx hb dX12_law_36 rfl (lv_at hl 1 rfl) ?_
    refine va_get (D := g.1) (ci := 10) (v := .ref (a 0)) (C := RX12) (T := TX12) (N := 20) hx hb hts izRX12 hown hK hP 0 rfl rfl 1 (by decide) (hts _ k815) (fun _ h9 => h9) rfl dX12_law_37 ?_
    refine lv_iconst (v := 1) hx hb dX12_law_40 (by decide) ?_
    refine lv_iload_n hx hb dX12_law_41 rfl (lv_at hl 0 rfl) ?_
    refine va_iast hx hb hK hP hD hS 1 0 rfl rfl (zin rfl) dX12_law_42 (fun H locs hP hD hS => ?_)
    obtain ⟨fm_9, rfm_9, hkfm_9, hP, hD⟩ : ∃ fm_9 : Nat → Int32, rM fm_9 ∧ ((fm_9 0).toInt = (fm 0).toInt ∧ (fm_9 3).toInt = (fm 3).toInt ∧ (fm_9 4).toInt = (fm 4).toInt) ∧ va_P g.1 vwCl (List.flatten [bMo g o a 0 hi ac 0 (-1) tp at2_2 (-1) 0 iD iO tU2_4 fm_9 fk fa fc ft ff fb fi]) H ∧ va_D A (List.flatten [bMo g o a 0 hi ac 0 (-1) tp at2_2 (-1) 0 iD iO tU2_4 fm_9 fk fa fc ft ff fb fi]) := ⟨upd fm 1 q_5, (rM_stL rfm (by decide)), ⟨rfl, rfl, rfl⟩, hP, hD⟩
    refine lv_aload_n hx hb dX12_law_43 rfl (lv_at hl 1 rfl) ?_
    refine va_get (D := g.1) (ci := 10) (v := .ref (a 0)) (C := RX12) (T := TX12) (N := 20) hx hb hts izRX12 hown hK hP 0 rfl rfl 1 (by decide) (hts _ k815) (fun _ h9 => h9) rfl dX12_law_44 ?_
    refine lv_iconst (v := 2) hx hb dX12_law_47 (by decide) ?_
    refine lv_aload_n hx hb dX12_law_48 rfl (lv_at hl 1 rfl) ?_
    refine va_get (D := g.1) (ci := 10) (v := .int tp) (C := RX12) (T := TX12) (N := 20) hx hb hts izRX12 hown hK hP 0 rfl rfl 10 (by decide) (hts _ k879) (fun _ h9 => h9) rfl dX12_law_49 ?_
    refine va_iast hx hb hK hP hD hS 1 0 rfl rfl (zin rfl) dX12_law_52 (fun H locs hP hD hS => ?_)
    obtain ⟨fm_10, rfm_10, hkfm_10, hP, hD⟩ : ∃ fm_10 : Nat → Int32, rM fm_10 ∧ ((fm_10 0).toInt = (fm_9 0).toInt ∧ (fm_10 3).toInt = (fm_9 3).toInt ∧ (fm_10 4).toInt = (fm_9 4).toInt) ∧ va_P g.1 vwCl (List.flatten [bMo g o a 0 hi ac 0 (-1) tp at2_2 (-1) 0 iD iO tU2_4 fm_10 fk fa fc ft ff fb fi]) H ∧ va_D A (List.flatten [bMo g o a 0 hi ac 0 (-1) tp at2_2 (-1) 0 iD iO tU2_4 fm_10 fk fa fc ft ff fb fi]) := ⟨upd fm_9 2 tp, (rM_s2 rfm_9 (show 0 ≤ tp.toInt ∧ tp.toInt ≤ 400 from ⟨htp.1, htp.2⟩)), ⟨rfl, rfl, rfl⟩, hP, hD⟩
    refine lv_iconst (v := 0) hx hb dX12_law_53 (by decide) ?_
    refine lv_istore_n (lv' := [(2, .int 0), (1, .int q_5), (0, .ref o)]) hx hb dX12_law_54 rfl hl (by decide) rfl (fun ls hl => ?_)
    have hl := lv_sub (l' := [(0, .ref o), (1, .int q_5), (2, .int 0)]) hl [2, 1, 0] rfl
    have LP55_15 : ∀ (kf : Nat) (x_11 : Int32) (fm_12 : Nat → Int32), (0 ≤ x_11.toInt ∧ x_11.toInt ≤ 400) → (rM fm_12) → ((fm_12 0).toInt = (fm 0).toInt ∧ (fm_12 3).toInt = (fm 3).toInt ∧ (fm_12 4).toInt = (fm 4).toInt) → ∀ (H : Heap) (locs : List Loc) (ls : Array Slot), ((401 - x_11.toInt).toNat) < kf → va_P g.1 vwCl (List.flatten [bMo g o a 0 hi ac 0 (-1) tp at2_2 (-1) 0 iD iO tU2_4 fm_12 fk fa fc ft ff fb fi]) H → va_D A (List.flatten [bMo g o a 0 hi ac 0 (-1) tp at2_2 (-1) 0 iD iO tU2_4 fm_12 fk fa fc ft ff fb fi]) → va_S A s.heap H locs → lv_has ls 3 [(0, .ref o), (1, .int q_5), (2, .int x_11)] → W p l e ({ frames := 31, cells := 0, slots := 0, locals := 688 } : Room) s m args below meth c H locs (0) (0) (zF g (fun u : Int32 × Int32 × Int32 × Int32 × (Nat → Int32) × Int32 × Int32 => (fun (th2 : Int32) (at2 : Int32) (fl2 : Int32) (tU2 : Int32) (fm2 : Nat → Int32) (ac2 : Int32) (q : Int32) => some (.int q)) (u.1) (u.2.1) (u.2.2.1) (u.2.2.2.1) (u.2.2.2.2.1) (u.2.2.2.2.2.1) (u.2.2.2.2.2.2)) (fun u : Int32 × Int32 × Int32 × Int32 × (Nat → Int32) × Int32 × Int32 => (fun (th2 : Int32) (at2 : Int32) (fl2 : Int32) (tU2 : Int32) (fm2 : Nat → Int32) (ac2 : Int32) (q : Int32) => ((fm2 0).toInt = (fm 0).toInt ∧ (fm2 3).toInt = (fm 3).toInt ∧ (fm2 4).toInt = (fm 4).toInt) ∧ (0 ≤ ac2.toInt ∧ ac2.toInt ≤ 12) ∧ (rM fm2) ∧ (th2 = 0 ∧ zLawR ft tp.toInt 0 q.toInt ∧ (-1) = fl2 ∧ ac2.toInt = 0 ∨ th2 = 1 ∧ zLawB ft tp.toInt 0 fl2.toInt ∧ ac2.toInt = ac.toInt)) (u.1) (u.2.1) (u.2.2.1) (u.2.2.2.1) (u.2.2.2.2.1) (u.2.2.2.2.2.1) (u.2.2.2.2.2.2)) (fun u : Int32 × Int32 × Int32 × Int32 × (Nat → Int32) × Int32 × Int32 => (fun (th2 : Int32) (at2 : Int32) (fl2 : Int32) (tU2 : Int32) (fm2 : Nat → Int32) (ac2 : Int32) (q : Int32) => [bMo g o a th2 hi ac2 0 (-1) tp at2 fl2 0 iD iO tU2 fm2 fk fa fc ft ff fb fi]) (u.1) (u.2.1) (u.2.2.1) (u.2.2.2.1) (u.2.2.2.2.1) (u.2.2.2.2.2.1) (u.2.2.2.2.2.2)) ({ frames := 31, cells := 0, slots := 0, locals := 688 } : Room) below args s A) (F0 m 55 ls []) := by
      intro kf
      induction kf with
      | zero => intro x_11 fm_12 i13 rfm_12 i14 H locs ls hk; exact absurd hk (Nat.not_lt_zero _)
      | succ kf ih55_16 =>
        intro x_11 fm_12 i13 rfm_12 i14 H locs ls hk55_16 hP hD hS hl
        refine lv_iload_n hx hb dX12_law_55 rfl (lv_at hl 2 rfl) ?_
        refine lv_aload_n hx hb dX12_law_56 rfl (lv_at hl 0 rfl) ?_
        refine va_get (D := g.1) (ci := 10) (v := .int tp) (C := RX12) (T := TX12) (N := 20) hx hb hts izRX12 hown hK hP 0 rfl rfl 10 (by decide) (hts _ k879) (fun _ h9 => h9) rfl dX12_law_57 ?_
        refine lv_icmp_ge (tgt := 85) hx hb dX12_law_60 (by decide) (fun cb9 => ?_) (fun cb9 => ?_)
        · skip
          have c17 : tp.toInt ≤ x_11.toInt := zle cb9 rfl rfl
          refine lv_aload_n hx hb dX12_law_85 rfl (lv_at hl 0 rfl) ?_
          refine lv_iconst (v := 0) hx hb dX12_law_86 (by decide) ?_
          refine va_put (D := g.1) (ci := 10) (v := .int 0) (ty := .int) (C := RX12) (T := TX12) (N := 20) hx hb hts izRX12 tyX12 tyX12_ok nmX12 hown hK hP hD hS 0 rfl rfl 6 (by decide) (hts _ k974) (fun _ h9 => h9) rfl (by decide +kernel) rfl rfl (Nat.le_of_ble_eq_true rfl) dX12_law_87 (fun H locs hP hD hS => ?_)
          have hP : va_P g.1 vwCl (List.flatten [bMo g o a 0 hi 0 0 (-1) tp at2_2 (-1) 0 iD iO tU2_4 fm_12 fk fa fc ft ff fb fi]) H := hP
          have hD : va_D A (List.flatten [bMo g o a 0 hi 0 0 (-1) tp at2_2 (-1) 0 iD iO tU2_4 fm_12 fk fa fc ft ff fb fi]) := hD
          refine lv_iload_n hx hb dX12_law_90 rfl (lv_at hl 1 rfl) ?_
          have hP : va_P g.1 vwCl (List.flatten [bMo g o a 0 hi 0 0 (-1) tp at2_2 (-1) 0 iD iO tU2_4 fm_12 fk fa fc ft ff fb fi]) H := hP
          have hD : va_D A (List.flatten [bMo g o a 0 hi 0 0 (-1) tp at2_2 (-1) 0 iD iO tU2_4 fm_12 fk fa fc ft ff fb fi]) := hD
          exact mret_i hx hb hr hlocks hS (Nat.le_of_ble_eq_true rfl) (Nat.le_of_ble_eq_true rfl) dX12_law_91 ((0 : Int32), at2_2, -1, tU2_4, fm_12, (0 : Int32), q_5) rfl (show ((fm_12 0).toInt = (fm 0).toInt ∧ (fm_12 3).toInt = (fm 3).toInt ∧ (fm_12 4).toInt = (fm 4).toInt) ∧ (0 ≤ (0 : Int32).toInt ∧ (0 : Int32).toInt ≤ 12) ∧ (rM fm_12) ∧ (0 = 0 ∧ zLawR ft tp.toInt 0 q_5.toInt ∧ (-1) = (-1) ∧ (0 : Int32).toInt = 0 ∨ 0 = 1 ∧ zLawB ft tp.toInt 0 ((-1) : Int32).toInt ∧ (0 : Int32).toInt = ac.toInt) from ⟨(by first | assumption | omega | decide), (by first | assumption | omega | decide), (by first | assumption | omega | decide), (Or.inl ⟨rfl, (zLawR_c rfl (by decide) hq6_k), rfl, (by decide)⟩)⟩) hP hD
        · skip
          have c18 : x_11.toInt < tp.toInt := zlti (Int32.not_le.mp cb9) rfl rfl
          have n19 : x_11.toInt ≤ 399 := zL1 (b := 400) c18 htp.2 (by decide)
          have n20 : 1 ≤ tp.toInt := zL2 (a := 0) c18 i13.1 (by decide)
          refine lv_aload_n hx hb dX12_law_63 rfl (lv_at hl 0 rfl) ?_
          refine va_get (D := g.1) (ci := 10) (v := .ref (a 0)) (C := RX12) (T := TX12) (N := 20) hx hb hts izRX12 hown hK hP 0 rfl rfl 1 (by decide) (hts _ k815) (fun _ h9 => h9) rfl dX12_law_64 ?_
          refine lv_sipush (v := 379) hx hb dX12_law_67 (by decide) ?_
          refine lv_iload_n hx hb dX12_law_70 rfl (lv_at hl 2 rfl) ?_
          refine lv_iadd hx hb dX12_law_71 ?_
          refine zg3 (zaddK (i := 379) (j := x_11.toInt) (a' := 379) (b' := 778) (by decide) rfl (Int.le_refl _) (Int.le_refl _) i13.1 n19 (by decide)) (fun x_21 hx_21 => ?_)
          refine lv_aload_n hx hb dX12_law_72 rfl (lv_at hl 0 rfl) ?_
          refine va_get (D := g.1) (ci := 10) (v := .ref (a 4)) (C := RX12) (T := TX12) (N := 20) hx hb hts izRX12 hown hK hP 0 rfl rfl 7 (by decide) (hts _ k819) (fun _ h9 => h9) rfl dX12_law_73 ?_
          refine lv_iload_n hx hb dX12_law_76 rfl (lv_at hl 2 rfl) ?_
          refine va_iald hx hb hK hP 5 0 rfl rfl (zinK (a := 0) (b := 399) i13.1 n19 (by decide)) dX12_law_77 ?_
          refine zg (fun x_22 => ?_)
          refine va_iast hx hb hK hP hD hS 1 0 rfl rfl (zinK (a := 379) (b := 778) hx_21.2.1 hx_21.2.2 (by decide)) dX12_law_78 (fun H locs hP hD hS => ?_)
          obtain ⟨fm_23, rfm_23, hkfm_23, hP, hD⟩ : ∃ fm_23 : Nat → Int32, rM fm_23 ∧ ((fm_23 0).toInt = (fm_12 0).toInt ∧ (fm_23 3).toInt = (fm_12 3).toInt ∧ (fm_23 4).toInt = (fm_12 4).toInt) ∧ va_P g.1 vwCl (List.flatten [bMo g o a 0 hi ac 0 (-1) tp at2_2 (-1) 0 iD iO tU2_4 fm_23 fk fa fc ft ff fb fi]) H ∧ va_D A (List.flatten [bMo g o a 0 hi ac 0 (-1) tp at2_2 (-1) 0 iD iO tU2_4 fm_23 fk fa fc ft ff fb fi]) := ⟨upd fm_12 x_21.toNatClampNeg x_22, (rM_stB rfm_12 (Int.le_trans (by decide) hx_21.2.1)), (zkpG (by omega)), hP, hD⟩
          refine ziinc3 (n' := 1) (a' := 1) (b' := 400) (lv' := fun v9 => [(2, .int v9), (0, .ref o), (1, .int q_5)]) hx hb dX12_law_79 hl (k := 2) rfl (by decide) (fun _ => rfl) (zaddK (i := x_11.toInt) (j := 1) rfl (by decide) i13.1 n19 (Int.le_refl _) (Int.le_refl _) (by decide)) (fun x_24 ls hx_24 hl => ?_)
          refine lv_goto (tgt := 55) hx hb dX12_law_82 (by decide) ?_
          have hl := lv_sub (l' := [(0, .ref o), (1, .int q_5), (2, .int x_24)]) hl [1, 2, 0] rfl
          have hP : va_P g.1 vwCl (List.flatten [bMo g o a 0 hi ac 0 (-1) tp at2_2 (-1) 0 iD iO tU2_4 fm_23 fk fa fc ft ff fb fi]) H := hP
          have hD : va_D A (List.flatten [bMo g o a 0 hi ac 0 (-1) tp at2_2 (-1) 0 iD iO tU2_4 fm_23 fk fa fc ft ff fb fi]) := hD
          exact ih55_16 x_24 fm_23 ⟨(Int.le_trans (by decide) hx_24.2.1), hx_24.2.2⟩ rfm_23 (by first | omega | assumption | decide) H _ ls (zmK hx_24.1 (by decide) n19 (by decide) hk55_16)  hP hD hS (lv_sub hl [0, 1, 2] rfl)
    have hP : va_P g.1 vwCl (List.flatten [bMo g o a 0 hi ac 0 (-1) tp at2_2 (-1) 0 iD iO tU2_4 fm_10 fk fa fc ft ff fb fi]) H := hP
    have hD : va_D A (List.flatten [bMo g o a 0 hi ac 0 (-1) tp at2_2 (-1) 0 iD iO tU2_4 fm_10 fk fa fc ft ff fb fi]) := hD
    exact LP55_15 _ 0 fm_10 (by decide) rfm_10 (by first | omega | assumption | decide) H _ ls (Nat.lt_succ_self _)  hP hD hS (lv_sub hl [0, 1, 2] rfl)
  · skip
    refine lv_istore_n (lv' := [(1, .int q_5), (0, .ref o)]) hx hb dX12_law_9 rfl hl (by decide) rfl (fun ls hl => ?_)
    refine lv_aload_n hx hb dX12_law_10 rfl (lv_at hl 1 rfl) ?_
    refine lv_aload_n hx hb dX12_law_11 rfl (lv_at hl 1 rfl) ?_
    refine va_get (D := g.1) (ci := 10) (v := .int fl2_3) (C := RX12) (T := TX12) (N := 20) hx hb hts izRX12 hown hK hP 0 rfl rfl 12 (by decide) (hts _ k820) (fun _ h9 => h9) rfl dX12_law_12 ?_
    refine lv_iconst (v := (-1)) hx hb dX12_law_15 (by decide) ?_
    refine lv_icmp_eq (tgt := 23) hx hb dX12_law_16 (by decide) (fun cb9 => ?_) (fun cb9 => ?_)
    · skip
      exact absurd (show fl2_3.toInt = (-1) from zeq cb9 rfl (by decide)) (zDeq2 (a := 0) (b := (-1)) hq6_k (Int.le_refl _) (by decide))
    · skip
      have c26 : ¬ fl2_3.toInt = (-1) := zne cb9 rfl (by decide)
      refine lv_iconst (v := 1) hx hb dX12_law_19 (by decide) ?_
      refine lv_goto (tgt := 24) hx hb dX12_law_20 (by decide) ?_
      refine va_put (D := g.1) (ci := 10) (v := .int 1) (ty := .int) (C := RX12) (T := TX12) (N := 20) hx hb hts izRX12 tyX12 tyX12_ok nmX12 hown hK hP hD hS 0 rfl rfl 0 (by decide) (hts _ k825) (fun _ h9 => h9) rfl (by decide +kernel) rfl rfl (Nat.le_of_ble_eq_true rfl) dX12_law_24 (fun H locs hP hD hS => ?_)
      have hP : va_P g.1 vwCl (List.flatten [bMo g o a 1 hi ac 0 (-1) tp at2_2 fl2_3 0 iD iO tU2_4 fm fk fa fc ft ff fb fi]) H := hP
      have hD : va_D A (List.flatten [bMo g o a 1 hi ac 0 (-1) tp at2_2 fl2_3 0 iD iO tU2_4 fm fk fa fc ft ff fb fi]) := hD
      refine lv_aload_n hx hb dX12_law_27 rfl (lv_at hl 1 rfl) ?_
      refine va_get (D := g.1) (ci := 10) (v := .int 1) (C := RX12) (T := TX12) (N := 20) hx hb hts izRX12 hown hK hP 0 rfl rfl 0 (by decide) (hts _ k825) (fun _ h9 => h9) rfl dX12_law_28 ?_
      refine lv_if_le (tgt := 36) hx hb dX12_law_31 (by decide) (fun c27 => absurd c27 (by decide)) (fun _ => ?_)
      refine lv_iconst (v := 0) hx hb dX12_law_34 (by decide) ?_
      have hP : va_P g.1 vwCl (List.flatten [bMo g o a 1 hi ac 0 (-1) tp at2_2 fl2_3 0 iD iO tU2_4 fm fk fa fc ft ff fb fi]) H := hP
      have hD : va_D A (List.flatten [bMo g o a 1 hi ac 0 (-1) tp at2_2 fl2_3 0 iD iO tU2_4 fm fk fa fc ft ff fb fi]) := hD
      exact mret_i hx hb hr hlocks hS (Nat.le_of_ble_eq_true rfl) (Nat.le_of_ble_eq_true rfl) dX12_law_35 ((1 : Int32), at2_2, fl2_3, tU2_4, fm, ac, (0 : Int32)) rfl (show ((fm 0).toInt = (fm 0).toInt ∧ (fm 3).toInt = (fm 3).toInt ∧ (fm 4).toInt = (fm 4).toInt) ∧ (0 ≤ ac.toInt ∧ ac.toInt ≤ 12) ∧ (rM fm) ∧ (1 = 0 ∧ zLawR ft tp.toInt 0 (0 : Int32).toInt ∧ (-1) = fl2_3 ∧ ac.toInt = 0 ∨ 1 = 1 ∧ zLawB ft tp.toInt 0 fl2_3.toInt ∧ ac.toInt = ac.toInt) from ⟨(by first | assumption | omega | decide), (by first | assumption | omega | decide), (by first | assumption | omega | decide), (Or.inr ⟨rfl, (zLawB_c rfl (by decide) hq6_km), rfl⟩)⟩) hP hD
set_option maxRecDepth 100000 in
set_option maxHeartbeats 4000000 in
theorem l_law (l : Launch) (hfl : l.stackTraces = false) (g : zG) (x : Nat) (ta : Nat) (o : Nat) (lo : Nat) (go : Nat) (tt : Nat) (lt : Nat) (mo : Nat) (fo : Nat) (ro : Nat) (fl9 : Int32) (ab : Nat) (sz : Int32) (ln : Int32) (kd : Int32) (bg : Int32) (nx : Int32) (ft : Int32) (fb : Nat → Int32) (lc : Nat) (lz : Int32) (ll : Int32) (lm : Int32) (lg : Int32) (ld : Int32) (fc : Nat → Int32) (loV : Nat) (lcV : Nat) (lzV : Int32) (llV : Int32) (lmV : Int32) (lgV : Int32) (ldV : Int32) (fcV : Nat → Int32) (qT : Nat) (qL : Nat) (it : Nat) (il : Nat) (ig : Nat) (mh : Int32) (me : Int32) (mx : Int32) (fT : Nat → Option Nat) (fL : Nat → Option Nat) (oa : Nat) (fz : Nat → Int64) (b_sz : 0 ≤ sz.toInt ∧ sz.toInt ≤ 400) (b_lz : 0 ≤ lz.toInt ∧ lz.toInt ≤ 400) (b_me : 0 ≤ me.toInt ∧ me.toInt ≤ 12) (b_mx : 0 ≤ mx.toInt ∧ mx.toInt ≤ 11) : zX' g l yL_law (Cond.codeWith yL_law cL_law 3 (some .int) [(0, 8, 11, 13)] :: zB) ({ frames := 29, cells := 1, slots := 6, locals := 643 } : Room) [.ref x, .ref oa] [bDR g x ta o lo go tt lt mo fo ro fl9, bTape g ta ab sz ln kd bg nx ft fb, bLaw g lo lc lz ll lm lg ld fc, bLT g lt ta loV, bLaw g loV lcV lzV llV lmV lgV ldV fcV, bMem g mo qT qL it il ig mh me mx fT fL, bOut g oa fz] (fun u : Int32 × Int32 × Int32 × Int32 × Int32 × Int32 × Int32 × Int32 × (Nat → Int32) × Int32 × Int32 × Int32 × Int32 × Int32 × (Nat → Int32) × Int32 × (Nat → Int64) × Int32 => (fun (fl92 : Int32) (ln2 : Int32) (kd2 : Int32) (bg2 : Int32) (nx2 : Int32) (ft2 : Int32) (lz2 : Int32) (ll2 : Int32) (fc2 : Nat → Int32) (lzV2 : Int32) (llV2 : Int32) (lmV2 : Int32) (lgV2 : Int32) (ldV2 : Int32) (fcV2 : Nat → Int32) (me2 : Int32) (fz2 : Nat → Int64) (q : Int32) => some (.int q)) (u.1) (u.2.1) (u.2.2.1) (u.2.2.2.1) (u.2.2.2.2.1) (u.2.2.2.2.2.1) (u.2.2.2.2.2.2.1) (u.2.2.2.2.2.2.2.1) (u.2.2.2.2.2.2.2.2.1) (u.2.2.2.2.2.2.2.2.2.1) (u.2.2.2.2.2.2.2.2.2.2.1) (u.2.2.2.2.2.2.2.2.2.2.2.1) (u.2.2.2.2.2.2.2.2.2.2.2.2.1) (u.2.2.2.2.2.2.2.2.2.2.2.2.2.1) (u.2.2.2.2.2.2.2.2.2.2.2.2.2.2.1) (u.2.2.2.2.2.2.2.2.2.2.2.2.2.2.2.1) (u.2.2.2.2.2.2.2.2.2.2.2.2.2.2.2.2.1) (u.2.2.2.2.2.2.2.2.2.2.2.2.2.2.2.2.2)) (fun u : Int32 × Int32 × Int32 × Int32 × Int32 × Int32 × Int32 × Int32 × (Nat → Int32) × Int32 × Int32 × Int32 × Int32 × Int32 × (Nat → Int32) × Int32 × (Nat → Int64) × Int32 => (fun (fl92 : Int32) (ln2 : Int32) (kd2 : Int32) (bg2 : Int32) (nx2 : Int32) (ft2 : Int32) (lz2 : Int32) (ll2 : Int32) (fc2 : Nat → Int32) (lzV2 : Int32) (llV2 : Int32) (lmV2 : Int32) (lgV2 : Int32) (ldV2 : Int32) (fcV2 : Nat → Int32) (me2 : Int32) (fz2 : Nat → Int64) (q : Int32) => (0 ≤ lz2.toInt ∧ lz2.toInt ≤ 400) ∧ (0 ≤ lzV2.toInt ∧ lzV2.toInt ≤ 400) ∧ (0 ≤ me2.toInt ∧ me2.toInt ≤ 12) ∧ (q = 0 ∧ zoutL (fz2 0) fb sz.toInt ∧ fl92.toInt = -1 ∧ me2.toInt = 0 ∨ q = 1 ∧ zLawB fb sz.toInt 0 fl92.toInt ∧ me2.toInt = me.toInt)) (u.1) (u.2.1) (u.2.2.1) (u.2.2.2.1) (u.2.2.2.2.1) (u.2.2.2.2.2.1) (u.2.2.2.2.2.2.1) (u.2.2.2.2.2.2.2.1) (u.2.2.2.2.2.2.2.2.1) (u.2.2.2.2.2.2.2.2.2.1) (u.2.2.2.2.2.2.2.2.2.2.1) (u.2.2.2.2.2.2.2.2.2.2.2.1) (u.2.2.2.2.2.2.2.2.2.2.2.2.1) (u.2.2.2.2.2.2.2.2.2.2.2.2.2.1) (u.2.2.2.2.2.2.2.2.2.2.2.2.2.2.1) (u.2.2.2.2.2.2.2.2.2.2.2.2.2.2.2.1) (u.2.2.2.2.2.2.2.2.2.2.2.2.2.2.2.2.1) (u.2.2.2.2.2.2.2.2.2.2.2.2.2.2.2.2.2)) (fun u : Int32 × Int32 × Int32 × Int32 × Int32 × Int32 × Int32 × Int32 × (Nat → Int32) × Int32 × Int32 × Int32 × Int32 × Int32 × (Nat → Int32) × Int32 × (Nat → Int64) × Int32 => (fun (fl92 : Int32) (ln2 : Int32) (kd2 : Int32) (bg2 : Int32) (nx2 : Int32) (ft2 : Int32) (lz2 : Int32) (ll2 : Int32) (fc2 : Nat → Int32) (lzV2 : Int32) (llV2 : Int32) (lmV2 : Int32) (lgV2 : Int32) (ldV2 : Int32) (fcV2 : Nat → Int32) (me2 : Int32) (fz2 : Nat → Int64) (q : Int32) => [bDR g x ta o lo go tt lt mo fo ro fl92, bTape g ta ab 0 ln2 kd2 bg2 nx2 ft2 fb, bLaw g lo lc lz2 ll2 lm lg ld fc2, bLT g lt ta loV, bLaw g loV lcV lzV2 llV2 lmV2 lgV2 ldV2 fcV2, bMem g mo qT qL it il ig mh me2 mx fT fL, bOut g oa fz2]) (u.1) (u.2.1) (u.2.2.1) (u.2.2.2.1) (u.2.2.2.2.1) (u.2.2.2.2.2.1) (u.2.2.2.2.2.2.1) (u.2.2.2.2.2.2.2.1) (u.2.2.2.2.2.2.2.2.1) (u.2.2.2.2.2.2.2.2.2.1) (u.2.2.2.2.2.2.2.2.2.2.1) (u.2.2.2.2.2.2.2.2.2.2.2.1) (u.2.2.2.2.2.2.2.2.2.2.2.2.1) (u.2.2.2.2.2.2.2.2.2.2.2.2.2.1) (u.2.2.2.2.2.2.2.2.2.2.2.2.2.2.1) (u.2.2.2.2.2.2.2.2.2.2.2.2.2.2.2.1) (u.2.2.2.2.2.2.2.2.2.2.2.2.2.2.2.2.1) (u.2.2.2.2.2.2.2.2.2.2.2.2.2.2.2.2.2)) zNo zN0 := by
  refine zX'.ofH (cc := cL_law) (maxL := 3) (rt := (some .int)) (by decide) rfl (Nat.le_of_ble_eq_true rfl) ?_
  intro p e s m args below meth c A ls St hr hlocks htab hin hK hT hA hP hD hS hl
  obtain ⟨hx, hb, hml, hown, hts⟩ := id St
  have hl : lv_has ls 3 [(0, .ref x), (1, .ref oa)] := hl
  refine lv_aload_n hx hb dL_law_0 rfl (lv_at hl 1 rfl) ?_
  refine lv_iconst (v := 0) hx hb dL_law_1 (by decide) ?_
  refine lv_aload_n hx hb dL_law_2 rfl (lv_at hl 0 rfl) ?_
  refine xcallV' (g := g) (q0 := 0) (ci := 9) (As := []) (rest := [.int 0, .ref oa]) St hK hT hA hP hD hS hl.1 [0, 1, 2, 3, 4, 5] [6] rfl rfl rfl (c_x_lawF l hfl g x ta o lo go tt lt mo fo ro fl9 ab sz ln kd bg nx ft fb lc lz ll lm lg ld fc loV lcV lzV llV lmV lgV ldV fcV qT qL it il ig mh me mx fT fL b_sz b_lz b_me b_mx) (cwV 0 hts (zgL (zl4 k1161 k1162 k1163 k621) k605) rfl rfl rfl (by decide +kernel) ⟨Nat.le_of_ble_eq_true rfl, Nat.le_of_ble_eq_true rfl⟩) rfl rfl rfl rfl (Nat.le_of_ble_eq_true rfl) dL_law_3 ⟨(Nat.le_of_ble_eq_true rfl), (Nat.le_of_ble_eq_true rfl)⟩ (fun E ce q9 u9 H locs hpx hP hD hS hce hcv hcl => ?_) (fun u_ H locs hq18 hP hD hS => ?_)
  · skip
    obtain ⟨fl92_19, ln2_20, kd2_21, bg2_22, nx2_23, ft2_24, lz2_25, ll2_26, fc2_27, lzV2_28, llV2_29, lmV2_30, lgV2_31, ldV2_32, fcV2_33, me2_34⟩ := u9
    have hpx : (E = "java/lang/IllegalArgumentException") ∧ (0 ≤ lz2_25.toInt ∧ lz2_25.toInt ≤ 400) ∧ (0 ≤ lzV2_28.toInt ∧ lzV2_28.toInt ≤ 400) ∧ (0 ≤ me2_34.toInt ∧ me2_34.toInt ≤ 12) ∧ (zLawB fb sz.toInt 0 fl92_19.toInt) ∧ (me2_34.toInt = me.toInt) := hpx
    have hP : va_P g.1 vwCl (List.flatten [bOut g oa fz, bDR g x ta o lo go tt lt mo fo ro fl92_19, bTape g ta ab 0 ln2_20 kd2_21 bg2_22 nx2_23 ft2_24 fb, bLaw g lo lc lz2_25 ll2_26 lm lg ld fc2_27, bLT g lt ta loV, bLaw g loV lcV lzV2_28 llV2_29 lmV2_30 lgV2_31 ldV2_32 fcV2_33, bMem g mo qT qL it il ig mh me2_34 mx fT fL]) H := hP
    have hD : va_D A (List.flatten [bOut g oa fz, bDR g x ta o lo go tt lt mo fo ro fl92_19, bTape g ta ab 0 ln2_20 kd2_21 bg2_22 nx2_23 ft2_24 fb, bLaw g lo lc lz2_25 ll2_26 lm lg ld fc2_27, bLT g lt ta loV, bLaw g loV lcV lzV2_28 llV2_29 lmV2_30 lgV2_31 ldV2_32 fcV2_33, bMem g mo qT qL it il ig mh me2_34 mx fT fL]) := hD
    obtain ⟨hE9, hy35, hy36, hy37, hy38, hy39⟩ := hpx
    obtain rfl := hE9
    refine vx_catch hown [] ⟨0, 8, 11, 13⟩ [] (by rw [htab]; rfl) (fun z hz => absurd hz List.not_mem_nil) (by decide) (by decide) (hts _ k1155) ((hT.1.2.2.2.2.1 _ (List.mem_of_getElem? (i := 1) rfl)).use) hce hcv hcl ?_
    refine W.widen (k := 1) (n := 6) (Nat.le_of_ble_eq_true rfl) (Nat.le_of_ble_eq_true rfl) ?_
    refine lv_astore_n (lv' := [(2, .ref q9), (0, .ref x), (1, .ref oa)]) hx hb dL_law_11 rfl hl (by decide) rfl (fun ls hl => ?_)
    refine lv_iconst (v := 1) hx hb dL_law_12 (by decide) ?_
    have hP : va_P g.1 vwCl (List.flatten [bOut g oa fz, bDR g x ta o lo go tt lt mo fo ro fl92_19, bTape g ta ab 0 ln2_20 kd2_21 bg2_22 nx2_23 ft2_24 fb, bLaw g lo lc lz2_25 ll2_26 lm lg ld fc2_27, bLT g lt ta loV, bLaw g loV lcV lzV2_28 llV2_29 lmV2_30 lgV2_31 ldV2_32 fcV2_33, bMem g mo qT qL it il ig mh me2_34 mx fT fL]) H := hP
    have hD : va_D A (List.flatten [bOut g oa fz, bDR g x ta o lo go tt lt mo fo ro fl92_19, bTape g ta ab 0 ln2_20 kd2_21 bg2_22 nx2_23 ft2_24 fb, bLaw g lo lc lz2_25 ll2_26 lm lg ld fc2_27, bLT g lt ta loV, bLaw g loV lcV lzV2_28 llV2_29 lmV2_30 lgV2_31 ldV2_32 fcV2_33, bMem g mo qT qL it il ig mh me2_34 mx fT fL]) := hD
    obtain ⟨hP, hD⟩ := zord (g := g) (Bs' := [bDR g x ta o lo go tt lt mo fo ro fl92_19, bTape g ta ab 0 ln2_20 kd2_21 bg2_22 nx2_23 ft2_24 fb, bLaw g lo lc lz2_25 ll2_26 lm lg ld fc2_27, bLT g lt ta loV, bLaw g loV lcV lzV2_28 llV2_29 lmV2_30 lgV2_31 ldV2_32 fcV2_33, bMem g mo qT qL it il ig mh me2_34 mx fT fL, bOut g oa fz]) [1, 2, 3, 4, 5, 6, 0] rfl rfl hP hD
    exact zret_i hx hb hr hlocks hS (Nat.le_of_ble_eq_true rfl) (Nat.le_of_ble_eq_true rfl) dL_law_13 (fl92_19, ln2_20, kd2_21, bg2_22, nx2_23, ft2_24, lz2_25, ll2_26, fc2_27, lzV2_28, llV2_29, lmV2_30, lgV2_31, ldV2_32, fcV2_33, me2_34, fz, (1 : Int32)) rfl (show (0 ≤ lz2_25.toInt ∧ lz2_25.toInt ≤ 400) ∧ (0 ≤ lzV2_28.toInt ∧ lzV2_28.toInt ≤ 400) ∧ (0 ≤ me2_34.toInt ∧ me2_34.toInt ≤ 12) ∧ (1 = 0 ∧ zoutL (fz 0) fb sz.toInt ∧ fl92_19.toInt = -1 ∧ me2_34.toInt = 0 ∨ 1 = 1 ∧ zLawB fb sz.toInt 0 fl92_19.toInt ∧ me2_34.toInt = me.toInt) from ⟨(by first | assumption | omega | decide), (by first | assumption | omega | decide), (by first | assumption | omega | decide), (Or.inr ⟨rfl, hy38, (by first | assumption | omega)⟩)⟩) hP hD
  · skip
    obtain ⟨fl92_1, ln2_2, kd2_3, bg2_4, nx2_5, ft2_6, lz2_7, ll2_8, fc2_9, lzV2_10, llV2_11, lmV2_12, lgV2_13, ldV2_14, fcV2_15, me2_16, q_17⟩ := u_
    replace hq18 : (0 ≤ lz2_7.toInt ∧ lz2_7.toInt ≤ 400) ∧ (0 ≤ lzV2_10.toInt ∧ lzV2_10.toInt ≤ 400) ∧ (0 ≤ me2_16.toInt ∧ me2_16.toInt ≤ 12) ∧ (zLawR fb sz.toInt 0 q_17.toInt ∧ fl92_1.toInt = -1 ∧ me2_16.toInt = 0) := hq18
    have hP : va_P g.1 vwCl (List.flatten [bOut g oa fz, bDR g x ta o lo go tt lt mo fo ro fl92_1, bTape g ta ab 0 ln2_2 kd2_3 bg2_4 nx2_5 ft2_6 fb, bLaw g lo lc lz2_7 ll2_8 lm lg ld fc2_9, bLT g lt ta loV, bLaw g loV lcV lzV2_10 llV2_11 lmV2_12 lgV2_13 ldV2_14 fcV2_15, bMem g mo qT qL it il ig mh me2_16 mx fT fL]) H := hP
    have hD : va_D A (List.flatten [bOut g oa fz, bDR g x ta o lo go tt lt mo fo ro fl92_1, bTape g ta ab 0 ln2_2 kd2_3 bg2_4 nx2_5 ft2_6 fb, bLaw g lo lc lz2_7 ll2_8 lm lg ld fc2_9, bLT g lt ta loV, bLaw g loV lcV lzV2_10 llV2_11 lmV2_12 lgV2_13 ldV2_14 fcV2_15, bMem g mo qT qL it il ig mh me2_16 mx fT fL]) := hD
    refine W.widen (k := 1) (n := 6) (Nat.le_of_ble_eq_true rfl) (Nat.le_of_ble_eq_true rfl) ?_
    refine W.eq (g2 := F0 m 6 ls [.int q_17, .int 0, .ref oa]) rfl ?_
    obtain ⟨hq18_0, hq18_1, hq18_2, hq18_3⟩ := hq18
    refine lv_i2l (v := (q_17 : Int32).toInt64) hx hb dL_law_6 rfl ?_
    refine va_last hx hb hK hP hD hS 0 2 rfl rfl (zin rfl) dL_law_7 (fun H locs hP hD hS => ?_)
    have hP : va_P g.1 vwCl (List.flatten [[(oa, .inl (g.2 2, 1, .inr (.inl (vp_updL fz 0 ((q_17 : Int32).toInt64)))))], bDR g x ta o lo go tt lt mo fo ro fl92_1, bTape g ta ab 0 ln2_2 kd2_3 bg2_4 nx2_5 ft2_6 fb, bLaw g lo lc lz2_7 ll2_8 lm lg ld fc2_9, bLT g lt ta loV, bLaw g loV lcV lzV2_10 llV2_11 lmV2_12 lgV2_13 ldV2_14 fcV2_15, bMem g mo qT qL it il ig mh me2_16 mx fT fL]) H := hP
    have hD : va_D A (List.flatten [[(oa, .inl (g.2 2, 1, .inr (.inl (vp_updL fz 0 ((q_17 : Int32).toInt64)))))], bDR g x ta o lo go tt lt mo fo ro fl92_1, bTape g ta ab 0 ln2_2 kd2_3 bg2_4 nx2_5 ft2_6 fb, bLaw g lo lc lz2_7 ll2_8 lm lg ld fc2_9, bLT g lt ta loV, bLaw g loV lcV lzV2_10 llV2_11 lmV2_12 lgV2_13 ldV2_14 fcV2_15, bMem g mo qT qL it il ig mh me2_16 mx fT fL]) := hD
    refine lv_goto (tgt := 14) hx hb dL_law_8 (by decide) ?_
    refine lv_iconst (v := 0) hx hb dL_law_14 (by decide) ?_
    have hP : va_P g.1 vwCl (List.flatten [bOut g oa (vp_updL fz 0 ((q_17 : Int32).toInt64)), bDR g x ta o lo go tt lt mo fo ro fl92_1, bTape g ta ab 0 ln2_2 kd2_3 bg2_4 nx2_5 ft2_6 fb, bLaw g lo lc lz2_7 ll2_8 lm lg ld fc2_9, bLT g lt ta loV, bLaw g loV lcV lzV2_10 llV2_11 lmV2_12 lgV2_13 ldV2_14 fcV2_15, bMem g mo qT qL it il ig mh me2_16 mx fT fL]) H := hP
    have hD : va_D A (List.flatten [bOut g oa (vp_updL fz 0 ((q_17 : Int32).toInt64)), bDR g x ta o lo go tt lt mo fo ro fl92_1, bTape g ta ab 0 ln2_2 kd2_3 bg2_4 nx2_5 ft2_6 fb, bLaw g lo lc lz2_7 ll2_8 lm lg ld fc2_9, bLT g lt ta loV, bLaw g loV lcV lzV2_10 llV2_11 lmV2_12 lgV2_13 ldV2_14 fcV2_15, bMem g mo qT qL it il ig mh me2_16 mx fT fL]) := hD
    obtain ⟨hP, hD⟩ := zord (g := g) (Bs' := [bDR g x ta o lo go tt lt mo fo ro fl92_1, bTape g ta ab 0 ln2_2 kd2_3 bg2_4 nx2_5 ft2_6 fb, bLaw g lo lc lz2_7 ll2_8 lm lg ld fc2_9, bLT g lt ta loV, bLaw g loV lcV lzV2_10 llV2_11 lmV2_12 lgV2_13 ldV2_14 fcV2_15, bMem g mo qT qL it il ig mh me2_16 mx fT fL, bOut g oa (vp_updL fz 0 ((q_17 : Int32).toInt64))]) [1, 2, 3, 4, 5, 6, 0] rfl rfl hP hD
    exact zret_i hx hb hr hlocks hS (Nat.le_of_ble_eq_true rfl) (Nat.le_of_ble_eq_true rfl) dL_law_15 (fl92_1, ln2_2, kd2_3, bg2_4, nx2_5, ft2_6, lz2_7, ll2_8, fc2_9, lzV2_10, llV2_11, lmV2_12, lgV2_13, ldV2_14, fcV2_15, me2_16, vp_updL fz 0 ((q_17 : Int32).toInt64), (0 : Int32)) rfl (show (0 ≤ lz2_7.toInt ∧ lz2_7.toInt ≤ 400) ∧ (0 ≤ lzV2_10.toInt ∧ lzV2_10.toInt ≤ 400) ∧ (0 ≤ me2_16.toInt ∧ me2_16.toInt ≤ 12) ∧ (0 = 0 ∧ zoutL ((vp_updL fz 0 ((q_17 : Int32).toInt64)) 0) fb sz.toInt ∧ fl92_1.toInt = -1 ∧ me2_16.toInt = 0 ∨ 0 = 1 ∧ zLawB fb sz.toInt 0 fl92_1.toInt ∧ me2_16.toInt = me.toInt) from ⟨(by first | assumption | omega | decide), (by first | assumption | omega | decide), (by first | assumption | omega | decide), (Or.inl ⟨rfl, ⟨q_17, rfl, hq18_3.1⟩, hq18_3.2⟩)⟩) hP hD
