/-! THE COUPLING: texts keep bounds; law, memory, image of both sides -/
theorem zwg_in {c : Int → Bool} {f : Nat → Int32} {e : Nat} : ∀ (n p i : Nat), p ≤ i → i < zwg c f e n p → c (f i).toInt = true
  | 0, p, i, h1, h2 => by
    have h3 : i < p := h2
    omega
  | n + 1, p, i, h1, h2 => by
    have h3 : i < (if p < e ∧ c (f p).toInt = true then zwg c f e n (p + 1) else p) := h2
    by_cases q : p < e ∧ c (f p).toInt = true
    · rw [if_pos q] at h3
      by_cases w : i = p
      · rw [w]; exact q.2
      · exact zwg_in n (p + 1) i (by omega) h3
    · rw [if_neg q] at h3; omega
theorem zdig {f : Nat → Int32} {n b : Int} (h : zkd f n b = 2) (h0 : 0 ≤ b) (i : Nat) (h1 : b ≤ (i : Int)) (h2 : (i : Int) < znx f n b) : zcD (f i).toInt = true := by
  unfold zkd at h
  unfold znx at h2
  by_cases a : n ≤ b
  · rw [if_pos a] at h; exact absurd h (by decide)
  rw [if_neg a] at h h2
  by_cases l : zcL (f b.toNat).toInt = true
  · rw [if_pos l] at h; exact absurd h (by decide)
  rw [if_neg l] at h h2
  by_cases d : zcD (f b.toNat).toInt = true
  · rw [if_pos d] at h2
    by_cases w : i = b.toNat
    · rw [w]; exact d
    · exact zwg_in (c := zcD) (f := f) (e := n.toNat) (n.toNat - (b.toNat + 1)) (b.toNat + 1) i (by omega) (by unfold zw at h2; omega)
  · rw [if_neg d] at h; exact absurd h (by decide)
theorem zTK_c1 {f : Nat → Int32} {n pe wo b b1 : Int} {c : zCm} : ∀ {k : Nat}, k < 8 → zTK f n pe wo k b (.ok b1 c) → c.1 = (k : Int)
  | 0, _, h => by
    rcases h with ⟨_, e⟩ | ⟨_, ⟨v, _, h⟩ | ⟨_, e⟩⟩
    · exact zTs.ob e
    · rcases h with ⟨_, h⟩ | ⟨_, e⟩
      · rcases h with ⟨u, _, h⟩ | ⟨_, e⟩
        · rcases h with ⟨_, e⟩ | ⟨_, e⟩
          · rw [(zTs.okj e).2]; rfl
          · rw [(zTs.okj e).2]; rfl
        · exact zTs.ob e
      · exact zTs.ob e
    · exact zTs.ob e
  | 1, _, h => by
    rcases h with ⟨_, e⟩ | ⟨_, ⟨v, _, h⟩ | ⟨_, e⟩⟩
    · exact zTs.ob e
    · rcases h with ⟨_, h⟩ | ⟨_, e⟩
      · rcases h with ⟨u, _, h⟩ | ⟨_, e⟩
        · rcases h with ⟨_, h⟩ | ⟨_, e⟩
          · rcases h with ⟨w, _, e⟩ | ⟨_, e⟩
            · rw [(zTs.okj e).2]; rfl
            · exact zTs.ob e
          · exact zTs.ob e
        · exact zTs.ob e
      · exact zTs.ob e
    · exact zTs.ob e
  | 2, _, h => by
    rcases h with ⟨v, _, ⟨_, e⟩ | ⟨_, e⟩⟩ | ⟨_, e⟩
    · rw [(zTs.okj e).2]; rfl
    · exact zTs.ob e
    · exact zTs.ob e
  | 3, _, h => by
    rcases h with ⟨v, _, ⟨u, _, e⟩ | ⟨_, e⟩⟩ | ⟨_, e⟩
    · rw [(zTs.okj e).2]; rfl
    · exact zTs.ob e
    · exact zTs.ob e
  | 4, _, h => by
    rcases h with ⟨v, _, e⟩ | ⟨_, e⟩
    · rw [(zTs.okj e).2]; rfl
    · exact zTs.ob e
  | 5, _, h => by
    rcases h with ⟨v, _, e⟩ | ⟨_, e⟩
    · rw [(zTs.okj e).2]; rfl
    · exact zTs.ob e
  | 6, _, h => by
    rcases h with ⟨v, _, e⟩ | ⟨_, e⟩
    · rw [(zTs.okj e).2]; rfl
    · exact zTs.ob e
  | 7, _, h => by
    rcases h with ⟨v, _, e⟩ | ⟨_, e⟩
    · rw [(zTs.okj e).2]; rfl
    · exact zTs.ob e
  | _ + 8, hk, _ => absurd hk (by omega)
theorem zTK_p {f : Nat → Int32} {n pe wo b b1 : Int} {c : zCm} (h : zTK f n pe wo 0 b (.ok b1 c)) : 0 ≤ c.2.1 ∧ c.2.1 ≤ 99 := by
  rcases h with ⟨_, e⟩ | ⟨_, ⟨v, hv, h⟩ | ⟨_, e⟩⟩
  · exact zTs.ob e
  · rcases h with ⟨_, h⟩ | ⟨_, e⟩
    · rcases h with ⟨u, _, h⟩ | ⟨_, e⟩
      · rcases h with ⟨_, e⟩ | ⟨_, e⟩
        · rw [(zTs.okj e).2]; exact hv.2.2
        · rw [(zTs.okj e).2]; exact hv.2.2
      · exact zTs.ob e
    · exact zTs.ob e
  · exact zTs.ob e
theorem zTK_t {f : Nat → Int32} {n pe wo b b1 : Int} {c : zCm} (h : zTK f n pe wo 2 b (.ok b1 c)) (j : Nat) (hj : (j : Int) < pe) : zcD (f (c.2.2.1.toNat + j)).toInt = true := by
  rcases h with ⟨v, _, ⟨⟨k, l⟩, e⟩ | ⟨_, e⟩⟩ | ⟨_, e⟩
  · rw [(zTs.okj e).2]
    have g0 : 0 ≤ znt f n (znt f n b) := zbg_0 f n _
    refine zdig k g0 _ ?_ ?_
    · show znt f n (znt f n b) ≤ (((znt f n (znt f n b)).toNat + j : Nat) : Int)
      omega
    · show (((znt f n (znt f n b)).toNat + j : Nat) : Int) < znx f n (znt f n (znt f n b))
      omega
  · exact zTs.ob e
  · exact zTs.ob e
theorem zofI {v : Int} (h : 0 ≤ v ∧ v ≤ 999) : (Int32.ofInt v).toInt = v := by
  rw [Int32.toInt_ofInt]; exact zbm (by omega) (by omega)
theorem zTl1_rg {f : Nat → Int32} {n b b1 : Int} {c : zCm} {s : zTst} (h : zTLine f n s.1.toInt s.2.1.toInt b (.ok b1 c)) (r : zRg s.2.2.2.2.2.2) : zRg (zTl1 f c s).2.2.2.2.2.2 := by
  rcases h with ⟨k, hk, _, t⟩ | ⟨_, e⟩
  · have ck := zTK_c1 hk t
    unfold zTl1
    by_cases c0 : c.1 = 0
    · rw [if_pos c0]
      have k0 : k = 0 := by omega
      subst k0
      have hb := zTK_p t
      exact zRg_q (zRg_q (zRg_q (zRg_q (zRg_S r (by rw [zofI (by omega)]; omega)) (by decide) (by decide)) (by decide) (by decide)) (by decide) (by decide)) (by decide) (by decide)
    rw [if_neg c0]
    by_cases c1 : c.1 = 1
    · rw [if_pos c1]
      exact zRg_q (zRg_q (zRg_q (zRg_q r (by decide) (by decide)) (by decide) (by decide)) (by decide) (by decide)) (by decide) (by decide)
    rw [if_neg c1]
    by_cases c2 : c.1 = 2
    · rw [if_pos c2]
      have k2 : k = 2 := by omega
      subst k2
      refine ⟨fun x hx => r.1 x hx, fun x o hx ho hn => ?_⟩
      show 0 ≤ (if (8 * x + o) / 8 = c.2.1.toNat ∧ (8 * x + o) % 8 < s.1.toInt.toNat ∧ ¬ (8 * x + o) % 8 = c.2.1.toNat then f (c.2.2.1.toNat + (8 * x + o) % 8) - 48 else s.2.2.2.2.2.2 5 (8 * x + o)).toInt ∧ (if (8 * x + o) / 8 = c.2.1.toNat ∧ (8 * x + o) % 8 < s.1.toInt.toNat ∧ ¬ (8 * x + o) % 8 = c.2.1.toNat then f (c.2.2.1.toNat + (8 * x + o) % 8) - 48 else s.2.2.2.2.2.2 5 (8 * x + o)).toInt ≤ 9
      by_cases q : (8 * x + o) / 8 = c.2.1.toNat ∧ (8 * x + o) % 8 < s.1.toInt.toNat ∧ ¬ (8 * x + o) % 8 = c.2.1.toNat
      · rw [if_pos q]
        have d := zTK_t t ((8 * x + o) % 8) (by omega)
        unfold zcD at d
        have d9 := of_decide_eq_true d
        have e48 : (48 : Int32).toInt = 48 := by decide
        rw [zsub (x := f (c.2.2.1.toNat + (8 * x + o) % 8)) (y := 48) rfl e48 (by omega)]
        omega
      · rw [if_neg q]; exact r.2 x o hx ho hn
    rw [if_neg c2]
    by_cases c3 : c.1 = 3
    · rw [if_pos c3]; exact zRg_q r (by decide) (by decide)
    rw [if_neg c3]
    by_cases c4 : c.1 = 4
    · rw [if_pos c4]; exact r
    rw [if_neg c4]
    by_cases c5 : c.1 = 5
    · rw [if_pos c5]; exact r
    rw [if_neg c5]
    by_cases c6 : c.1 = 6
    · rw [if_pos c6]; exact r
    rw [if_neg c6]; exact r
  · exact zTs.ob e
theorem zTLv_rg {f : Nat → Int32} {n : Int} : ∀ (k : Nat) {s : zTst} {b : Int} {s2 : zTst}, zRg s.2.2.2.2.2.2 → zTLv f n k s b s2 → zRg s2.2.2.2.2.2.2
  | 0, _, _, _, _, h => False.elim h
  | k + 1, s, b, s2, r, h => by
    obtain ⟨b1, c, a, h2⟩ := (show ∃ b1 c, zTLine f n s.1.toInt s.2.1.toInt b (.ok b1 c) ∧ ((n ≤ b1 ∧ s2 = zTl1 f c s) ∨ (¬ n ≤ b1 ∧ zisS f n b1 59 ∧ zTLv f n k (zTl1 f c s) (znt f n b1) s2)) from h)
    rcases h2 with ⟨_, e⟩ | ⟨_, _, d⟩
    · rw [e]; exact zTl1_rg a r
    · exact zTLv_rg k (zTl1_rg a r) d
theorem zTwV_rg {f : Nat → Int32} {n t : Int} {s0 s : zTst} (h : zTwV f n t s0 s) (r : zRg s0.2.2.2.2.2.2) : zRg s.2.2.2.2.2.2 := by
  rcases h with ⟨_, e⟩ | ⟨_, s2, e, d⟩
  · exact zRg_c r (zEq_s e.2.2.2.2.2.2)
  · exact zRg_c (zTLv_rg 14 r d) (zEq_s e.2.2.2.2.2.2)
/-- the town's text, read by both -/
theorem zTown_cq {f f' : Nat → Int32} {n n' : Int} {pe wo tx ch jo tr dy sd pe2 wo2 tx2 ch2 jo2 tr2 dy2 sd2 : Int32} {g g2 : zRw} {m m2 : Nat → Int32} (C : zCq (pe, wo, tx, ch, jo, tr, dy, sd, g) m) (h : zTwV f n 0 (pe, wo, ch, jo, tr, dy, g) (pe2, wo2, ch2, jo2, tr2, dy2, g2)) (h' : zTwV f' n' 0 (zSm m) (zSm m2)) (ef : f = f') (en : n = n') (t1 : tx2 = tx + 1) (t2 : m2 0 = m 0 + 1) (d1 : sd2 = sd) (d2 : m2 10 = m 10) (ab : zAb g2 pe2.toInt) (bp : 0 ≤ pe2.toInt ∧ pe2.toInt ≤ 8) (bw : 0 ≤ wo2.toInt ∧ wo2.toInt ≤ 6) (bt : 0 ≤ tx2.toInt ∧ tx2.toInt ≤ 12) : zCq (pe2, wo2, tx2, ch2, jo2, tr2, dy2, sd2, g2) m2 := by
  obtain ⟨⟨e1, e2, e3, e4, e5, e6, e7, e8, e9⟩, ok⟩ := C
  have R : zSR (pe, wo, ch, jo, tr, dy, g) (zSm m) := ⟨e1, e2, e4, e5, e6, e7, e9⟩
  obtain ⟨q1, q2, q4, q5, q6, q7, q9⟩ := zTwV_d ef en R h h'
  have e3' : tx = m 0 := e3
  have e8' : sd = m 10 := e8
  refine ⟨⟨q1, q2, ?_, q4, q5, q6, q7, ?_, q9⟩, bp, bw, bt, (show zRg g2 from by have q9 := zTwV_rg h ok.2.2.2.1; exact q9), ab⟩
  · show tx2 = m2 0
    rw [t1, t2, e3']
  · show sd2 = m2 10
    rw [d1, d2, e8']
/-! the law -/
def zLq (lz ll : Int32) (fc m : Nat → Int32) : Prop := zLm (zLwR fc lz ll) m ∧ ll = m 1
theorem zLq_kl {lz ll : Int32} {fc m m2 : Nat → Int32} (h : zLq lz ll fc m) (k : zKl m m2) : zLq lz ll fc m2 := by
  obtain ⟨h, e⟩ := h
  refine ⟨?_, by rw [k.1]; exact e⟩
  rcases h with ⟨a, b⟩ | ⟨a, tx, b, c⟩
  · exact Or.inl ⟨by rw [k.1]; exact a, b⟩
  · refine Or.inr ⟨by rw [k.1]; exact a, tx, fun j hj => ?_, fun e => by rw [k.2.1]; exact c e⟩
    rw [k.2.2 (379 + j) (by omega)]
    exact b j (by rw [← k.2.1]; exact hj)
theorem zLq_cp {lz ll lz2 ll2 : Int32} {fc fc2 m m2 : Nat → Int32} (h : zLq lz ll fc m) (b : lz.toInt ≤ 400) (hz : 0 ≤ (m 2).toInt ∧ (m 2).toInt ≤ 400) (e1 : lz2 = lz) (e2 : ll2 = ll) (c : zCe fc2 fc) (k : ∀ i : Nat, i < 779 → m2 i = m i) : zLq lz2 ll2 fc2 m2 := by
  subst e1; subst e2
  obtain ⟨h, e⟩ := h
  refine ⟨?_, by rw [k 1 (by decide)]; exact e⟩
  rw [zLwR_c c b]
  rcases h with ⟨a, d⟩ | ⟨a, tx, d, q⟩
  · exact Or.inl ⟨by rw [k 1 (by decide)]; exact a, d⟩
  · have e2 : m2 2 = m 2 := k 2 (by decide)
    refine Or.inr ⟨by rw [k 1 (by decide)]; exact a, tx, fun j hj => ?_, fun e => by rw [e2]; exact q e⟩
    rw [e2] at hj
    rw [k (379 + j) (by omega)]
    exact d j hj
/-- the law's text, read by both -/
theorem zLaw_q {f f' fc2 fm fm2 : Nat → Int32} {n t : Int} {q v tp lz2 ll2 : Int32} (h : zLaK f n fc2 lz2 ll2) (ef : f = f') (en : n = t) (et : t = tp.toInt) (h0 : 0 ≤ tp.toInt) (hv : zLawR f n 0 v.toInt) (el : ll2.toInt = v.toInt) (hq : zLawR f' t 0 q.toInt) (k : zCy (upd (upd fm 1 q) 2 tp) fm2 379 f' 0 tp.toInt) : zLq lz2 ll2 fc2 fm2 := by
  have e1 : fm2 1 = q := by rw [k.2.2 1 (Or.inl (by decide)), pk_un (by decide), pk_us]
  have eq : v = q := by
    subst ef; subst en
    exact Int32.toInt_inj.mp (zLawR_det hv hq)
  refine ⟨zLaK_m h ef en et h0 ?_ k, by rw [e1, Int32.toInt_inj.mp el, eq]⟩
  have b : 0 ≤ q.toInt := by
    rcases hq with ⟨a, _⟩ | ⟨a, _⟩ <;> omega
  omega
theorem zLaw_cq {s : zT9} {fm fm2 f' : Nat → Int32} {q tp : Int32} {t : Int} (C : zCq s fm) (k : zCy (upd (upd fm 1 q) 2 tp) fm2 379 f' 0 t) : zCq s fm2 := zCq_m C (fun i h1 h2 h3 h4 => by rw [k.2.2 i (Or.inl (by omega)), pk_un h3, pk_un h2])
/-! what is remembered by both -/
def zWn (P : Nat → zTR) (me mx : Int) (fc : Nat → Int32) (l1 l2 : Int32) : Prop := ∀ j : Nat, (j : Int) < me → zCq (P ((mx + 11 - j) % 12).toNat).2.2 (fun i => fc (379 * (me - 1 - j).toNat + i)) ∧ fc (379 * (me - 1 - j).toNat + 1) = l1 ∧ fc (379 * (me - 1 - j).toNat + 2) = l2
theorem zWn_0 {P : Nat → zTR} {me mx : Int} {fc : Nat → Int32} {l1 l2 : Int32} (e : me = 0) : zWn P me mx fc l1 l2 := fun j h => absurd h (by omega)
theorem zWn_e {P P2 : Nat → zTR} {me me2 mx mx2 : Int} {fc fc2 : Nat → Int32} {l1 l2 k1 k2 : Int32} (h : zWn P me mx fc l1 l2) (e1 : P2 = P) (e2 : me2 = me) (e3 : mx2 = mx) (e4 : fc2 = fc) (e5 : k1 = l1) (e6 : k2 = l2) : zWn P2 me2 mx2 fc2 k1 k2 := by
  subst e1; subst e2; subst e3; subst e4; subst e5; subst e6; exact h
theorem zWn_act {P P2 : Nat → zTR} {me me2 mx mx2 ac ac2 : Int} {fc fc2 fm : Nat → Int32} {l1 l2 q th : Int32} {s : zT9} (hm : 0 ≤ me ∧ me ≤ 12) (hx : 0 ≤ mx ∧ mx ≤ 11) (W : zWn P me mx fc l1 l2) (ea : me = ac) (C : zCq s fm) (e1 : fm 1 = l1) (e2 : fm 2 = l2) (eq : q = th) (h : zMz q P P2 me me2 mx mx2 s) (k : zMm th fc fc2 ac ac2 fm) : zWn P2 me2 mx2 fc2 l1 l2 ∧ me2 = ac2 := by
  subst eq; subst ea
  rcases h with ⟨h0, a, b, p1, p2⟩ | ⟨h0, a, b, c⟩
  · rcases k with ⟨_, k⟩ | ⟨k0, _⟩
    · rcases k with ⟨k1, k2, k⟩ | ⟨k1, k2, f9, k3, k⟩
      · have a' : me2 = me + 1 := by omega
        refine ⟨fun j hj => ?_, by omega⟩
        by_cases q0 : j = 0
        · subst q0
          have i1 : ((mx2 + 11 - ((0 : Nat) : Int)) % 12).toNat = mx.toNat := by omega
          have i2 : (me2 - 1 - ((0 : Nat) : Int)).toNat = me.toNat := by omega
          rw [i1, i2]
          have g : ∀ i : Nat, i < 379 → fc2 (379 * me.toNat + i) = fm i := fun i hi => by
            have := k.2.1 i (by omega)
            rw [Nat.zero_add] at this; exact this
          exact ⟨zCq_m (zCq_c C p1) (fun i hi _ _ _ => g i (by omega)), (g 1 (by decide)).trans e1, (g 2 (by decide)).trans e2⟩
        · have i1 : ((mx2 + 11 - (j : Int)) % 12).toNat = ((mx + 11 - ((j - 1 : Nat) : Int)) % 12).toNat := by omega
          have i2 : (me2 - 1 - (j : Int)).toNat = (me - 1 - ((j - 1 : Nat) : Int)).toNat := by omega
          have i3 : ((mx + 11 - ((j - 1 : Nat) : Int)) % 12).toNat ≠ mx.toNat := by omega
          have i4 : (me - 1 - ((j - 1 : Nat) : Int)).toNat < me.toNat := by omega
          have w := W (j - 1) (by omega)
          rw [i1, i2, p2 _ i3]
          generalize (me - 1 - ((j - 1 : Nat) : Int)).toNat = r at w i4 ⊢
          have g : ∀ i : Nat, i < 379 → fc2 (379 * r + i) = fc (379 * r + i) := fun i hi => k.2.2 _ (Or.inl (by omega))
          exact ⟨zCq_m w.1 (fun i hi _ _ _ => g i (by omega)), (g 1 (by decide)).trans w.2.1, (g 2 (by decide)).trans w.2.2⟩
      · have a' : me2 = 12 := by omega
        refine ⟨fun j hj => ?_, by omega⟩
        by_cases q0 : j = 0
        · subst q0
          have i1 : ((mx2 + 11 - ((0 : Nat) : Int)) % 12).toNat = mx.toNat := by omega
          have i2 : (me2 - 1 - ((0 : Nat) : Int)).toNat = 11 := by omega
          rw [i1, i2]
          have g : ∀ i : Nat, i < 379 → fc2 (379 * 11 + i) = fm i := fun i hi => by
            have := k.2.1 i (by omega)
            rw [Nat.zero_add] at this; exact this
          exact ⟨zCq_m (zCq_c C p1) (fun i hi _ _ _ => g i (by omega)), (g 1 (by decide)).trans e1, (g 2 (by decide)).trans e2⟩
        · have i1 : ((mx2 + 11 - (j : Int)) % 12).toNat = ((mx + 11 - ((j - 1 : Nat) : Int)) % 12).toNat := by omega
          have i2 : (me - 1 - ((j - 1 : Nat) : Int)).toNat = (me2 - 1 - (j : Int)).toNat + 1 := by omega
          have i3 : ((mx + 11 - ((j - 1 : Nat) : Int)) % 12).toNat ≠ mx.toNat := by omega
          have i4 : (me2 - 1 - (j : Int)).toNat < 11 := by omega
          have w := W (j - 1) (by omega)
          rw [i2] at w
          rw [i1, p2 _ i3]
          generalize (me2 - 1 - (j : Int)).toNat = r at w i4 ⊢
          have g : ∀ i : Nat, i < 379 → fc2 (379 * r + i) = fc (379 * (r + 1) + i) := fun i hi => by
            rw [k.2.2 _ (Or.inl (by omega)), k3.2.1 _ (by omega), show 379 * r + i + 379 = 379 * (r + 1) + i by omega]
          exact ⟨zCq_m w.1 (fun i hi _ _ _ => g i (by omega)), (g 1 (by decide)).trans w.2.1, (g 2 (by decide)).trans w.2.2⟩
    · exact absurd h0 k0
  · rcases k with ⟨k0, _⟩ | ⟨_, k1, k2⟩
    · exact absurd k0 h0
    · subst a; subst b; subst c; subst k1; subst k2; exact ⟨W, rfl⟩
theorem zWn_un {P : Nat → zTR} {me me2 mx mx2 ac2 : Int} {fc fm fm2 : Nat → Int32} {l1 l2 : Int32} {s2 : zT9} (hm : 0 ≤ me ∧ me ≤ 12) (hx : 0 ≤ mx ∧ mx ≤ 11) (W : zWn P me mx fc l1 l2) (h0 : ¬ me = 0) (e1 : me2 = me - 1) (e2 : mx2 = (mx - 1) % 12) (r : zR9 s2 (P mx2.toNat).2.2) (ea : ac2 = me2) (c : zCy fm fm2 0 fc (379 * ac2.toNat) 379) : zCq s2 fm2 ∧ fm2 1 = l1 ∧ fm2 2 = l2 ∧ (∀ i : Nat, 379 ≤ i → fm2 i = fm i) ∧ zWn P me2 mx2 fc l1 l2 := by
  have w := W 0 (by omega)
  rw [show ((mx + 11 - ((0 : Nat) : Int)) % 12).toNat = mx2.toNat by omega, show (me - 1 - ((0 : Nat) : Int)).toNat = ac2.toNat by omega] at w
  have g : ∀ i : Nat, i < 379 → fm2 i = fc (379 * ac2.toNat + i) := fun i hi => by
    have := c.2.1 i (by omega)
    rw [Nat.zero_add] at this; exact this
  refine ⟨zCq_m (zCq_c w.1 r) (fun i hi _ _ _ => g i (by omega)), (g 1 (by decide)).trans w.2.1, (g 2 (by decide)).trans w.2.2, fun i hi => c.2.2 i (Or.inr (by omega)), fun j hj => ?_⟩
  have w2 := W (j + 1) (by omega)
  rw [show ((mx2 + 11 - (j : Int)) % 12).toNat = ((mx + 11 - ((j + 1 : Nat) : Int)) % 12).toNat by omega, show (me2 - 1 - (j : Int)).toNat = (me - 1 - ((j + 1 : Nat) : Int)).toNat by omega]
  exact w2
/-! the image of both -/
def zIg (mh : Int32) (s : zT9) (lz ll : Int32) (fc fk : Nat → Int32) : Prop := ¬ mh.toInt = 0 → zCq s fk ∧ zLq lz ll fc fk
theorem zIg_0 {mh : Int32} {s : zT9} {lz ll : Int32} {fc fk : Nat → Int32} (h : mh.toInt = 0) : zIg mh s lz ll fc fk := fun q => absurd h q
theorem zIg_k {mh : Int32} {s s2 : zT9} {lz ll lz2 ll2 : Int32} {fc fc2 fm fk fk2 : Nat → Int32} (C : zCq s fm) (Q : zLq lz ll fc fm) (b : lz.toInt ≤ 400) (hz : 0 ≤ (fm 2).toInt ∧ (fm 2).toInt ≤ 400) (k : zR9 s2 s ∧ zCe fc2 fc ∧ lz2 = lz ∧ ll2 = ll) (c : zCy fk fk2 0 fm 0 779) : zIg mh s2 lz2 ll2 fc2 fk2 := fun _ =>
  ⟨zCq_m (zCq_c C k.1) (fun i hi _ _ _ => zCy_at c i (by omega)), zLq_cp Q b hz k.2.2.1 k.2.2.2 k.2.1 (fun i hi => zCy_at c i (by omega))⟩
theorem zIg_b {mh lz ll lz2 ll2 : Int32} {s s2 : zT9} {fc fc2 fk fm fm2 : Nat → Int32} (I : zIg mh s lz ll fc fk) (h : ¬ mh.toInt = 0) (b : lz.toInt ≤ 400) (hz : 0 ≤ (fk 2).toInt ∧ (fk 2).toInt ≤ 400) (r : zR9 s2 s) (k : lz2 = lz ∧ ll2 = ll ∧ zCe fc2 fc) (c : zCy fm fm2 0 fk 0 779) : zCq s2 fm2 ∧ zLq lz2 ll2 fc2 fm2 :=
  ⟨zCq_m (zCq_c (I h).1 r) (fun i hi _ _ _ => zCy_at c i (by omega)), zLq_cp (I h).2 b hz k.1 k.2.1 k.2.2 (fun i hi => zCy_at c i (by omega))⟩
theorem zCq_hpw {pe wo tx ch jo tr dy sd : Int32} {f : zRw} {m : Nat → Int32} (h : zCq (pe, wo, tx, ch, jo, tr, dy, sd, f) m) : pe.toInt = (m 3).toInt ∧ wo.toInt = (m 4).toInt ∧ tx.toInt = (m 0).toInt ∧ 0 ≤ tx.toInt ∧ tx.toInt ≤ 12 :=
  ⟨congrArg Int32.toInt h.1.1, congrArg Int32.toInt h.1.2.1, congrArg Int32.toInt h.1.2.2.1, h.2.2.2.1.1, h.2.2.2.1.2⟩
theorem zCq_t {s s2 : zT9} {m : Nat → Int32} (h : zCq s m) (e : s2 = s) : zCq s2 m := by subst e; exact h
theorem zCq_keep {pe wo tx ch jo tr dy sd pe2 wo2 tx2 ch2 jo2 tr2 dy2 sd2 : Int32} {f f2 : zRw} {m : Nat → Int32} (h : zCq (pe, wo, tx, ch, jo, tr, dy, sd, f) m) (k : pe2 = pe ∧ wo2 = wo ∧ tx2 = tx ∧ ch2 = ch ∧ jo2 = jo ∧ tr2 = tr ∧ dy2 = dy ∧ sd2 = sd ∧ f2 = f) : zCq (pe2, wo2, tx2, ch2, jo2, tr2, dy2, sd2, f2) m := by
  obtain ⟨e1, e2, e3, e4, e5, e6, e7, e8, e9⟩ := k
  subst e1; subst e2; subst e3; subst e4; subst e5; subst e6; subst e7; subst e8; subst e9; exact h
theorem zLq_keep {lz ll lz2 ll2 : Int32} {fc fc2 m : Nat → Int32} (h : zLq lz ll fc m) (k : lz2 = lz ∧ ll2 = ll ∧ fc2 = fc) : zLq lz2 ll2 fc2 m := by
  obtain ⟨e1, e2, e3⟩ := k
  subst e1; subst e2; subst e3; exact h
theorem zIg_e {mh mh2 : Int32} {s : zT9} {lz ll : Int32} {fc fk : Nat → Int32} (h : zIg mh s lz ll fc fk) (e : mh2 = mh) : zIg mh2 s lz ll fc fk := by subst e; exact h
theorem zCq_rg {s : zT9} {m : Nat → Int32} (h : zCq s m) : zRg (zV m) := zRg_c h.2.2.2.2.1 h.1.2.2.2.2.2.2.2.2
theorem zCq_z4 {pe wo tx ch jo tr dy sd : Int32} {f : zRw} {m : Nat → Int32} (h : zCq (pe, wo, tx, ch, jo, tr, dy, sd, f) m) (z : zZ4 f) : zZ4 (zV m) := zZ4_v z h.1.2.2.2.2.2.2.2.2
/-- seed told -/
theorem zSeed_cq {pe wo tx ch jo tr dy sd n : Int32} {f : zRw} {m m2 : Nat → Int32} (h : zCq (pe, wo, tx, ch, jo, tr, dy, sd, f) m) (e : m2 = upd m 10 n) : zCq (pe, wo, tx, ch, jo, tr, dy, n, f) m2 := by
  subst e
  obtain ⟨⟨e1, e2, e3, e4, e5, e6, e7, e8, e9⟩, ok⟩ := h
  have k : ∀ i : Nat, i ≠ 10 → upd m 10 n i = m i := fun i h => pk_un h
  exact ⟨⟨e1.trans (k 3 (by decide)).symm, e2.trans (k 4 (by decide)).symm, e3.trans (k 0 (by decide)).symm, e4.trans (k 5 (by decide)).symm, e5.trans (k 6 (by decide)).symm, e6.trans (k 7 (by decide)).symm, e7.trans (k 8 (by decide)).symm, (show upd m 10 n 10 = n from pk_us).symm, zEq_t e9 (zEq_s (zVo (Or.inl (by decide))))⟩, ok⟩
/-- the first town -/
theorem zCq_i {m : Nat → Int32} (h : m = upd (upd (upd (upd (upd (fun _ => 0) 1 (-1)) 5 20) 6 6) 7 50) 10 1) : zCq (0, 0, 0, 20, 6, 50, 0, 1, fun _ _ => 0) m := by
  have z : zEq (fun _ _ => 0) (zV m) := by
    subst h
    refine zEq_t ?_ (zEq_s (zEq_t (zVo (Or.inl (by decide))) (zEq_t (zVo (Or.inl (by decide))) (zEq_t (zVo (Or.inl (by decide))) (zEq_t (zVo (Or.inl (by decide))) (zVo (Or.inl (by decide))))))))
    refine ⟨fun q y h1 h2 => ?_, fun _ _ _ _ _ => rfl, fun q y h1 h2 h3 => ?_⟩
    · rcases (show q = 0 ∨ q = 1 ∨ q = 2 ∨ q = 3 ∨ q = 4 by omega) with e | e | e | e | e <;> subst e <;> rfl
    · rcases (show q = 6 ∨ q = 7 ∨ q = 8 ∨ q = 9 by omega) with e | e | e | e <;> subst e <;> rfl
  subst h
  refine ⟨⟨rfl, rfl, rfl, rfl, rfl, rfl, rfl, rfl, z⟩, ⟨by decide, by decide⟩, ⟨by decide, by decide⟩, ⟨by decide, by decide⟩, ⟨fun _ _ => (show 0 ≤ (0 : Int32).toInt ∧ (0 : Int32).toInt ≤ 99 by decide), fun _ _ _ _ _ => (show 0 ≤ (0 : Int32).toInt ∧ (0 : Int32).toInt ≤ 9 by decide)⟩, fun _ _ _ _ _ _ => rfl⟩
theorem zLq_i {fc m : Nat → Int32} (h : m = upd (upd (upd (upd (upd (fun _ => 0) 1 (-1)) 5 20) 6 6) 7 50) 10 1) : zLq 0 (-1) fc m := by
  subst h
  refine ⟨Or.inl ⟨by decide, fun e => ?_⟩, rfl⟩
  unfold zLwR
  rw [if_pos (by decide)]
/-! dreams -/
theorem zNds_rg {L : zLw} {pe wo : Nat} {tr tl : Int32} {s : zDs} (h : zRg s.2.2.2) : ∀ n : Nat, zRg (zNds L pe wo tr tl n s).1.2.2.2
  | 0 => h
  | n + 1 => zRg_day (zNds_rg h n)
theorem zRg_go {L : zLw} {pe wo n : Nat} {tr tl q : Int32} {m m2 : Nat → Int32} (h : zNR ((m2 5, m2 8, m2 10, zV m2), q) (zNds L pe wo tr tl n (m 5, m 8, m 10, zV m))) (r : zRg (zV m)) : zRg (zV m2) := zRg_c (zNds_rg (s := (m 5, m 8, m 10, zV m)) r n) (zEq_s h.1.2.2.2)
theorem zGo_m {L : zLw} {tl q : Int32} {n : Nat} {m m2 : Nat → Int32} (h : zNR ((m2 5, m2 8, m2 10, zV m2), q) (zNds L (m 3).toInt.toNat (m 4).toInt.toNat (m 7) tl n (m 5, m 8, m 10, zV m))) (g : zGk m m2) : zR9 (zM9 m2) (zGo L tl n (zM9 m)) :=
  ⟨g 3 (by omega), g 4 (by omega), g 0 (by omega), h.1.1, g 6 (by omega), g 7 (by omega), h.1.2.1, h.1.2.2.1, h.1.2.2.2⟩
theorem zBackD {fm f1 f2 fa fa2 : Nat → Int32} (h : zCy fa fa2 0 fm 0 379) (g : zGk fm f1) (k : zCy f1 f2 0 fa2 0 379) : fm = f2 := by
  funext i
  rcases Nat.lt_or_ge i 379 with q | q
  · rw [zCy_at k i (by omega), zCy_at h i (by omega)]
  · rw [k.2.2 i (Or.inr (by omega)), g i (by omega)]
theorem zGk_v {m f f1 : Nat → Int32} {i : Nat} {v : Int32} (h : zGk m f) (e : f1 = upd f i v) (hi : i = 5 ∨ 8 ≤ i ∧ i < 379) : zGk m f1 := fun j hj => by
  rw [e, pk_un (by omega)]; exact h j hj
theorem zRg_u10 {f f1 : Nat → Int32} {v : Int32} (h : zRg (zV f)) (e : f1 = upd f 10 v) : zRg (zV f1) := by subst e; exact zRg_c h (zEq_s (zVo (Or.inl (by decide))))
theorem zRg_bl {f f1 : Nat → Int32} {x : Nat} {v : Int32} (h : zRg (zV f)) (hx : x < 8) (e : f1 = upd f (11 + 5 * x) (zCl v)) : zRg (zV f1) := by subst e; exact zRg_c (zRg_S h (zCl_b v)) (zEq_s (zVp0 hx))
theorem zFm_rg {f f1 : Nat → Int32} (h : zRg (zV f)) (e : f = f1) : zRg (zV f1) := by subst e; exact h
theorem zFm_gk {f f1 : Nat → Int32} (e : f = f1) : zGk f f1 := by subst e; exact zGk_r f
/-- a day more -/
theorem zGo_d {L : zLw} {tl : Int32} {k k' : Nat} {s : zT9} {pe wo tx ch jo tr dy sd ch2 dy2 sd2 : Int32} {f f2 : zRw} (h : zR9 (pe, wo, tx, ch, jo, tr, dy, sd, f) (zGo L tl k s)) (hp : pe.toInt.toNat ≤ 8) (hw : wo.toInt.toNat ≤ 6) (d : zDR (ch2, dy2, sd2, f2) (zDay L pe.toInt.toNat wo.toInt.toNat tr tl (ch, dy, sd, f))) (hk : k' = k + 1) : zR9 (pe, wo, tx, ch2, jo, tr, dy2, sd2, f2) (zGo L tl k' s) := by
  subst hk
  obtain ⟨e1, e2, e3, e4, e5, e6, e7, e8, e9⟩ := h
  have e1' : pe = s.1 := e1
  have e2' : wo = s.2.1 := e2
  have e6' : tr = s.2.2.2.2.2.1 := e6
  subst e1'; subst e2'; subst e6'
  have z := zDay_c (L := L) (tr := s.2.2.2.2.2.1) (tl := tl) (a := (ch, dy, sd, f)) (b := (zNds L s.1.toInt.toNat s.2.1.toInt.toNat s.2.2.2.2.2.1 tl k (zDsS s)).1) hp hw ⟨e4, e7, e8, e9⟩
  have r := zDR_t d z
  exact ⟨rfl, rfl, e3, r.1, e5, rfl, r.2.1, r.2.2.1, r.2.2.2⟩
theorem zGo_0 (L : zLw) (tl : Int32) (s : zT9) : zR9 s (zGo L tl 0 s) := zR9_r s
/-- of the model -/
theorem zGo_dm {L : zLw} {tl q n : Int32} {k k' : Nat} {s : zT9} {m m2 : Nat → Int32} (h : zR9 (zM9 m) (zGo L tl k s)) (hp : (m 3).toInt.toNat ≤ 8) (hw : (m 4).toInt.toNat ≤ 6) (d : zNR ((m2 5, m2 8, m2 10, zV m2), q) (zNds L (m 3).toInt.toNat (m 4).toInt.toNat (m 7) tl n.toInt.toNat (m 5, m 8, m 10, zV m))) (hn : n.toInt = 1) (g : zGk m m2) (hk : k' = k + 1) : zR9 (zM9 m2) (zGo L tl k' s) := by
  have hn' : n.toInt.toNat = 1 := by omega
  rw [hn'] at d
  have r := zGo_d (ch2 := m2 5) (dy2 := m2 8) (sd2 := m2 10) (f2 := zV m2) h hp hw d.1 hk
  have e3 : m2 3 = m 3 := g 3 (by omega)
  have e4 : m2 4 = m 4 := g 4 (by omega)
  have e0 : m2 0 = m 0 := g 0 (by omega)
  have e6 : m2 6 = m 6 := g 6 (by omega)
  have e7 : m2 7 = m 7 := g 7 (by omega)
  unfold zM9
  rw [e3, e4, e0, e6, e7]; exact r
/-- code and answer of what changes nothing -/
def zk2 (A B : Prop) [dA : Decidable A] [dB : Decidable B] (v : Int32) : Int32 × Int32 := if A then (if B then (0, v) else (2, 0)) else (1, 0)
theorem zk2_0 {A B : Prop} [dA : Decidable A] [dB : Decidable B] {v w : Int32} (a : A) (b : B) (e : w = v) : (0, w) = zk2 A B v := by subst e; exact ((if_pos a).trans (if_pos b)).symm
theorem zk2_1 {A B : Prop} [dA : Decidable A] [dB : Decidable B] {v : Int32} (a : ¬ A) : (1, 0) = zk2 A B v := (if_neg a).symm
theorem zk2_2 {A B : Prop} [dA : Decidable A] [dB : Decidable B] {v : Int32} (a : A) (b : ¬ B) : (2, 0) = zk2 A B v := ((if_pos a).trans (if_neg b)).symm
theorem zk2_c {A B A' B' : Prop} [dA : Decidable A] [dB : Decidable B] [dA' : Decidable A'] [dB' : Decidable B'] {v v' : Int32} (eA : A ↔ A') (eB : A → (B ↔ B')) (e : A → B → v = v') : zk2 A B v = zk2 A' B' v' := by
  by_cases a : A
  · by_cases b : B
    · rw [← zk2_0 a b rfl, ← zk2_0 (eA.mp a) ((eB a).mp b) (e a b)]
    · rw [← zk2_2 a b, ← zk2_2 (eA.mp a) (fun q => b ((eB a).mpr q))]
  · rw [← zk2_1 a, ← zk2_1 (fun q => a (eA.mpr q))]
/-- some believe so much more now -/
def zRs1 (st by9 : Int32) (x : Nat) (f : zRw) : zRw := if ((st >>> (nI x &&& 31)) &&& 1).toInt = 0 then f else zSet f 0 x (zCl (f 0 x + by9))
def zRsT (st by9 : Int32) (pe : Nat) (f : zRw) : zRw := zIt (zRs1 st by9) f pe
theorem zRs_0 {st by9 : Int32} {f : zRw} (h : st = 0) : ∀ n : Nat, n ≤ 8 → zRsT st by9 n f = f
  | 0, _ => rfl
  | n + 1, hn => by
    subst h
    show zRs1 0 by9 n (zIt (zRs1 0 by9) f n) = f
    have z : ∀ k : Nat, k < 8 → (((0 : Int32) >>> (nI k &&& 31)) &&& 1).toInt = 0 := by decide +kernel
    unfold zRs1
    rw [if_pos (z n (by omega))]
    exact zRs_0 rfl n (by omega)
theorem zRs1_c {st by9 : Int32} {x : Nat} {f g : zRw} (hx : x < 8) (h : zEq f g) : zEq (zRs1 st by9 x f) (zRs1 st by9 x g) := by
  unfold zRs1
  by_cases q : ((st >>> (nI x &&& 31)) &&& 1).toInt = 0
  · rw [if_pos q, if_pos q]; exact h
  · rw [if_neg q, if_neg q, h.1 0 x (by decide) hx]; exact zSet_c h rfl
theorem zRs_c {st by9 : Int32} {n : Nat} {f g : zRw} (hn : n ≤ 8) (h : zEq f g) : zEq (zRsT st by9 n f) (zRsT st by9 n g) := zIt_c (R := zEq) h n (fun k a a' hk h => zRs1_c (by omega) h)
theorem zRs_n {st by9 : Int32} {x : Nat} {f : zRw} (q : ((st >>> (nI x &&& 31)) &&& 1).toInt = 0) : f = zRs1 st by9 x f := by unfold zRs1; rw [if_pos q]
theorem zRs_y {st by9 : Int32} {x : Nat} {f f1 : zRw} (q : ¬ ((st >>> (nI x &&& 31)) &&& 1).toInt = 0) (e : f1 = zSet f 0 x (zCl (f 0 x + by9))) : f1 = zRs1 st by9 x f := by unfold zRs1; rw [if_neg q]; exact e
theorem zRs_bit {st k b : Int32} (h0 : 0 ≤ k.toInt) (e : b = (st >>> (k &&& 31)) &&& 1) : b = (st >>> (nI k.toInt.toNat &&& 31)) &&& 1 := by rw [e, ← znat h0]
def zLk (L : zLw) (st by9 : Int32) (n : Nat) (s : zT9) : zT9 := zGo L 0 n (zwf s (zRsT st by9 s.1.toInt.toNat s.2.2.2.2.2.2.2.2))
def zBl9 (s : zT9) : Int32 := zBel s.2.2.2.2.2.2.2.2 s.1.toInt.toNat
theorem zBl9_c {s t : zT9} (h : zR9 s t) (b : s.1.toInt ≤ 8) : zBl9 s = zBl9 t := by
  unfold zBl9
  rw [← h.1]; exact zBel_c h.2.2.2.2.2.2.2.2 (by omega)
theorem zLk_c {L : zLw} {st by9 : Int32} {n : Nat} {s t : zT9} (h : zR9 s t) (k : zOk s) : zR9 (zLk L st by9 n s) (zLk L st by9 n t) := by
  obtain ⟨s1, s2, s3, s4, s5, s6, s7, s8, s9⟩ := s
  obtain ⟨t1, t2, t3, t4, t5, t6, t7, t8, t9⟩ := t
  obtain ⟨e1, e2, e3, e4, e5, e6, e7, e8, e9⟩ := h
  have q1 : s1 = t1 := e1
  have q2 : s2 = t2 := e2
  have q3 : s3 = t3 := e3
  have q4 : s4 = t4 := e4
  have q5 : s5 = t5 := e5
  have q6 : s6 = t6 := e6
  have q7 : s7 = t7 := e7
  have q8 : s8 = t8 := e8
  have q9 : zEq s9 t9 := e9
  subst q1; subst q2; subst q3; subst q4; subst q5; subst q6; subst q7; subst q8
  have b8 : 0 ≤ s1.toInt ∧ s1.toInt ≤ 8 := k.1
  have b6 : 0 ≤ s2.toInt ∧ s2.toInt ≤ 6 := k.2.1
  have z := zNds_c (L := L) (pe := s1.toInt.toNat) (wo := s2.toInt.toNat) (tr := s6) (tl := 0) (a := (s4, s7, s8, zRsT st by9 s1.toInt.toNat s9)) (b := (s4, s7, s8, zRsT st by9 s1.toInt.toNat t9)) n (by omega) (by omega) ⟨rfl, rfl, rfl, zRs_c (by omega) q9⟩
  exact ⟨rfl, rfl, rfl, z.1.1, rfl, rfl, z.1.2.1, z.1.2.2.1, z.1.2.2.2⟩
theorem zLk_1 {L : zLw} {st by9 : Int32} {n : Nat} {s : zT9} : (zLk L st by9 n s).1 = s.1 := rfl
theorem zGo_1 {L : zLw} {tl : Int32} {n : Nat} {s : zT9} : (zGo L tl n s).1 = s.1 ∧ (zGo L tl n s).2.1 = s.2.1 := ⟨rfl, rfl⟩
/-! what is asked of a dream -/
def zdAhead (L : zLw) (x n : Int32) (s : zT9) : Int32 × Int32 := zk2 (0 ≤ x.toInt ∧ x.toInt < s.1.toInt) (0 ≤ n.toInt ∧ n.toInt ≤ 100) ((zGo L 0 n.toInt.toNat s).2.2.2.2.2.2.2.2 0 x.toInt.toNat)
def zdThen (L : zLw) (n c : Int32) (s : zT9) : Int32 × Int32 := zk2 (0 ≤ n.toInt ∧ n.toInt ≤ 100) True (if c.toInt = 0 then zBl9 (zGo L 0 n.toInt.toNat s) else (zGo L 0 n.toInt.toNat s).2.2.2.1)
def zdTrial (L : zLw) (n c : Int32) (s : zT9) : Int32 × Int32 := zk2 (0 ≤ n.toInt ∧ n.toInt ≤ 60) True (if c.toInt = 0 then zBl9 (zGo L 1 n.toInt.toNat s) else (zGo L 1 n.toInt.toNat s).2.2.2.1)
def zWk9 (s : zT9) : Int32 := zWks s.2.2.2.2.2.2.2.2 s.2.1.toInt.toNat 2
def zdFalls (L : zLw) (n : Int32) (s : zT9) : Int32 × Int32 := zk2 (0 ≤ n.toInt ∧ n.toInt ≤ 100) True (zWk9 (zGo L 0 n.toInt.toNat s) &&& (zWk9 s ^^^ -1))
theorem zWk9_c {s t : zT9} (h : zR9 s t) (b : s.2.1.toInt ≤ 6) : zWk9 s = zWk9 t := by
  unfold zWk9
  rw [← h.2.1]; exact zWks_c h.2.2.2.2.2.2.2.2 (by omega)
theorem zdAhead_c {L : zLw} {x n : Int32} {s t : zT9} (h : zR9 s t) (k : zOk s) : zdAhead L x n s = zdAhead L x n t := by
  have z := (zGo_n (L := L) (tl := 0) (n := n.toInt.toNat) h k).1
  have e1 : s.1 = t.1 := h.1
  have b := k.1
  unfold zdAhead
  rw [← e1]
  exact zk2_c Iff.rfl (fun _ => Iff.rfl) (fun a _ => z.2.2.2.2.2.2.2.2.1 0 _ (by decide) (by omega))
theorem zdThen_c {L : zLw} {n c : Int32} {s t : zT9} (h : zR9 s t) (k : zOk s) : zdThen L n c s = zdThen L n c t := by
  have z := (zGo_n (L := L) (tl := 0) (n := n.toInt.toNat) h k).1
  unfold zdThen
  rw [zBl9_c z k.1.2, z.2.2.2.1]
theorem zdTrial_c {L : zLw} {n c : Int32} {s t : zT9} (h : zR9 s t) (k : zOk s) : zdTrial L n c s = zdTrial L n c t := by
  have z := (zGo_n (L := L) (tl := 1) (n := n.toInt.toNat) h k).1
  unfold zdTrial
  rw [zBl9_c z k.1.2, z.2.2.2.1]
theorem zdFalls_c {L : zLw} {n : Int32} {s t : zT9} (h : zR9 s t) (k : zOk s) : zdFalls L n s = zdFalls L n t := by
  have z := (zGo_n (L := L) (tl := 0) (n := n.toInt.toNat) h k).1
  unfold zdFalls
  rw [zWk9_c z k.2.1.2, zWk9_c h k.2.1.2]
section ZD
variable {L : zLw} {x n : Int32} {m m2 : Nat → Int32} {s : zT9}
theorem zdAhead_m (hp : 0 ≤ x.toInt ∧ x.toInt < (m 3).toInt) (h8 : x.toInt < 8) (hn : 0 ≤ n.toInt ∧ n.toInt ≤ 100) (g : zR9 (zM9 m2) (zGo L 0 n.toInt.toNat (zM9 m))) : (0, zV m2 0 x.toInt.toNat) = zdAhead L x n (zM9 m) := zk2_0 hp hn (g.2.2.2.2.2.2.2.2.1 0 _ (by decide) (by omega))
theorem zdThen_m0 {c : Int32} (hn : 0 ≤ n.toInt ∧ n.toInt ≤ 100) (hc : c.toInt = 0) (b : (m2 3).toInt ≤ 8) (g : zR9 (zM9 m2) (zGo L 0 n.toInt.toNat (zM9 m))) : (0, zBel (zV m2) (m2 3).toInt.toNat) = zdThen L n c (zM9 m) := zk2_0 hn trivial (by rw [if_pos hc]; exact zBl9_c g b)
theorem zdThen_m1 {c : Int32} (hn : 0 ≤ n.toInt ∧ n.toInt ≤ 100) (hc : ¬ c.toInt = 0) (g : zR9 (zM9 m2) (zGo L 0 n.toInt.toNat (zM9 m))) : (0, m2 5) = zdThen L n c (zM9 m) := zk2_0 hn trivial (by rw [if_neg hc]; exact g.2.2.2.1)
theorem zdTrial_m0 {c : Int32} (hn : 0 ≤ n.toInt ∧ n.toInt ≤ 60) (hc : c.toInt = 0) (b : (m2 3).toInt ≤ 8) (g : zR9 (zM9 m2) (zGo L 1 n.toInt.toNat (zM9 m))) : (0, zBel (zV m2) (m2 3).toInt.toNat) = zdTrial L n c (zM9 m) := zk2_0 hn trivial (by rw [if_pos hc]; exact zBl9_c g b)
theorem zdTrial_m1 {c : Int32} (hn : 0 ≤ n.toInt ∧ n.toInt ≤ 60) (hc : ¬ c.toInt = 0) (g : zR9 (zM9 m2) (zGo L 1 n.toInt.toNat (zM9 m))) : (0, m2 5) = zdTrial L n c (zM9 m) := zk2_0 hn trivial (by rw [if_neg hc]; exact g.2.2.2.1)
theorem zdFalls_m {w w0 : Int32} (hn : 0 ≤ n.toInt ∧ n.toInt ≤ 100) (e0 : w0 = zWks (zV m) (m 4).toInt.toNat 2) (e : w = zWks (zV m2) (m2 4).toInt.toNat 2) (b : (m2 4).toInt ≤ 6) (g : zR9 (zM9 m2) (zGo L 0 n.toInt.toNat (zM9 m))) : (0, w &&& (w0 ^^^ -1)) = zdFalls L n (zM9 m) := zk2_0 hn trivial (by rw [e, e0, show zWks (zV m2) (m2 4).toInt.toNat 2 = zWk9 (zGo L 0 n.toInt.toNat (zM9 m)) from zWk9_c g b]; rfl)
end ZD
section ZE
variable {L : zLw} {x n c : Int32} {m : Nat → Int32}
theorem zdAhead_1 (h : ¬ (0 ≤ x.toInt ∧ x.toInt < (m 3).toInt)) : (1, 0) = zdAhead L x n (zM9 m) := zk2_1 h
theorem zdAhead_2 (h : 0 ≤ x.toInt ∧ x.toInt < (m 3).toInt) (k : ¬ (0 ≤ n.toInt ∧ n.toInt ≤ 100)) : (2, 0) = zdAhead L x n (zM9 m) := zk2_2 h k
theorem zdThen_1 (k : ¬ (0 ≤ n.toInt ∧ n.toInt ≤ 100)) : (1, 0) = zdThen L n c (zM9 m) := zk2_1 k
theorem zdFalls_1 (k : ¬ (0 ≤ n.toInt ∧ n.toInt ≤ 100)) : (1, 0) = zdFalls L n (zM9 m) := zk2_1 k
theorem zdTrial_1 (k : ¬ (0 ≤ n.toInt ∧ n.toInt ≤ 60)) : (1, 0) = zdTrial L n c (zM9 m) := zk2_1 k
end ZE
/-- the model's rows, some told -/
def zRsM (m m2 : Nat → Int32) (st by9 : Int32) (k : Nat) : Prop := zEq (zV m2) (zRsT st by9 k (zV m)) ∧ ∀ i : Nat, (i < 11 ∨ 51 ≤ i) → m2 i = m i
theorem zRsM_0 {m : Nat → Int32} {st by9 k : Int32} (h : k.toInt = 0) : zRsM m m st by9 k.toInt.toNat := by rw [h]; exact ⟨zEq_r _, fun _ _ => rfl⟩
theorem zRsM_n {m f : Nat → Int32} {st by9 k k' : Int32} (h : zRsM m f st by9 k.toInt.toNat) (hk : k'.toInt = k.toInt + 1) (h0 : 0 ≤ k.toInt ∧ k.toInt < 8) (q : ((st >>> (k &&& 31)) &&& 1).toInt = 0) : zRsM m f st by9 k'.toInt.toNat := by
  rw [show k'.toInt.toNat = k.toInt.toNat + 1 by omega]
  rw [znat h0.1] at q
  refine ⟨zEq_t ?_ (zRs1_c (by omega) h.1), h.2⟩
  rw [← zRs_n q]; exact zEq_r _
theorem zRsM_y {m f f1 : Nat → Int32} {st by9 k k' : Int32} (h : zRsM m f st by9 k.toInt.toNat) (hk : k'.toInt = k.toInt + 1) (h0 : 0 ≤ k.toInt ∧ k.toInt < 8) (q : ¬ ((st >>> (k &&& 31)) &&& 1).toInt = 0) (e : f1 = upd f (11 + 5 * k.toInt.toNat) (zCl (zV f 0 k.toInt.toNat + by9))) : zRsM m f1 st by9 k'.toInt.toNat := by
  rw [show k'.toInt.toNat = k.toInt.toNat + 1 by omega]
  rw [znat h0.1] at q
  refine ⟨zEq_t ?_ (zRs1_c (by omega) h.1), fun i hi => by rw [e, pk_un (by omega)]; exact h.2 i hi⟩
  rw [← zRs_y q rfl]
  subst e; exact zVp0 (by omega)
theorem zRsM_x {m f : Nat → Int32} {st by9 k n : Int32} (h : zRsM m f st by9 k.toInt.toNat) (e : k.toInt = n.toInt) : zRsM m f st by9 n.toInt.toNat := by rw [← e]; exact h
theorem zLk_m {L : zLw} {st by9 : Int32} {n : Nat} {m m1 m2 : Nat → Int32} {q : Int32} (h : zRsM m m1 st by9 (m 3).toInt.toNat) (hp : 0 ≤ (m 3).toInt ∧ (m 3).toInt ≤ 8) (hw : 0 ≤ (m 4).toInt ∧ (m 4).toInt ≤ 6) (d : zNR ((m2 5, m2 8, m2 10, zV m2), q) (zNds L (m1 3).toInt.toNat (m1 4).toInt.toNat (m1 7) 0 n (m1 5, m1 8, m1 10, zV m1))) (g : zGk m1 m2) : zR9 (zM9 m2) (zLk L st by9 n (zM9 m)) := by
  have e3 := h.2 3 (by omega)
  have e4 := h.2 4 (by omega)
  have e0 := h.2 0 (by omega)
  have e6 := h.2 6 (by omega)
  have e7 := h.2 7 (by omega)
  have e5 := h.2 5 (by omega)
  have e8 := h.2 8 (by omega)
  have e10 := h.2 10 (by omega)
  rw [e3, e4, e7, e5, e8, e10] at d
  have z := zNds_c (L := L) (pe := (m 3).toInt.toNat) (wo := (m 4).toInt.toNat) (tr := m 7) (tl := 0) (a := (m 5, m 8, m 10, zV m1)) (b := (m 5, m 8, m 10, zRsT st by9 (m 3).toInt.toNat (zV m))) n (by omega) (by omega) ⟨rfl, rfl, rfl, h.1⟩
  have r := zDR_t d.1 z.1
  exact ⟨(g 3 (by omega)).trans e3, (g 4 (by omega)).trans e4, (g 0 (by omega)).trans e0, r.1, (g 6 (by omega)).trans e6, (g 7 (by omega)).trans e7, r.2.1, r.2.2.1, r.2.2.2⟩
theorem zand1b (x : Int32) : (x &&& 1).toInt = 0 ∨ (x &&& 1).toInt = 1 := by
  have h := zand1 x
  omega
theorem zof1 {x : Int32} (h : (x &&& 1).toInt = 1) : ¬ (x &&& 1).toInt = 0 := by omega
theorem zof0 {x : Int32} (h : ¬ (x &&& 1).toInt = 1) : (x &&& 1).toInt = 0 := by
  have := zand1b x
  omega
set_option maxRecDepth 100000 in
set_option maxHeartbeats 4000000 in
theorem m_aheadC (l : Launch) (g : zG) (o : Nat) (a : Nat → Nat) (th : Int32) (hi : Int32) (ac : Int32) (tp : Int32) (ba : Int32) (en : Int32) (tA : Int32) (fl : Int32) (de : Int32) (iD : Int32) (iO : Int32) (tU : Int32) (fm : Nat → Int32) (fk : Nat → Int32) (fa : Nat → Int32) (fc : Nat → Int32) (ft : Nat → Int32) (ff : Nat → Int32) (fb : Nat → Int32) (fi : Nat → Int32) (x : Int32) (n : Int32) (L : zLw) (rfm : rM fm) (rfa : rM fa) (hiD : 0 ≤ iD.toInt ∧ iD.toInt ≤ 1) (hiO : 0 ≤ iO.toInt ∧ iO.toInt ≤ 1) (hrg : zRg (zV fm)) (hL : zLm L fm) : zM' g l yX12_ahead (Cond.code yX12_ahead cX12_ahead 5 (some .int) :: zB) ({ frames := 33, cells := 0, slots := 0, locals := 736 } : Room) [.ref o, .int x, .int n] [bMo g o a th hi ac tp ba en tA fl de iD iO tU fm fk fa fc ft ff fb fi] (fun u : Int32 × (Nat → Int32) × (Nat → Int32) × Int32 × Int32 × Int32 × Int32 × Int32 × Int32 × Int32 × (Nat → Int32) × (Nat → Int32) × Int32 => (fun (th2 : Int32) (fm2 : Nat → Int32) (fa2 : Nat → Int32) (ba2 : Int32) (en2 : Int32) (at2 : Int32) (de2 : Int32) (iD2 : Int32) (iO2 : Int32) (tU2 : Int32) (ff2 : Nat → Int32) (fb2 : Nat → Int32) (q : Int32) => some (.int q)) (u.1) (u.2.1) (u.2.2.1) (u.2.2.2.1) (u.2.2.2.2.1) (u.2.2.2.2.2.1) (u.2.2.2.2.2.2.1) (u.2.2.2.2.2.2.2.1) (u.2.2.2.2.2.2.2.2.1) (u.2.2.2.2.2.2.2.2.2.1) (u.2.2.2.2.2.2.2.2.2.2.1) (u.2.2.2.2.2.2.2.2.2.2.2.1) (u.2.2.2.2.2.2.2.2.2.2.2.2)) (fun u : Int32 × (Nat → Int32) × (Nat → Int32) × Int32 × Int32 × Int32 × Int32 × Int32 × Int32 × Int32 × (Nat → Int32) × (Nat → Int32) × Int32 => (fun (th2 : Int32) (fm2 : Nat → Int32) (fa2 : Nat → Int32) (ba2 : Int32) (en2 : Int32) (at2 : Int32) (de2 : Int32) (iD2 : Int32) (iO2 : Int32) (tU2 : Int32) (ff2 : Nat → Int32) (fb2 : Nat → Int32) (q : Int32) => (0 ≤ iO2.toInt ∧ iO2.toInt ≤ 1) ∧ (0 ≤ iD2.toInt ∧ iD2.toInt ≤ 1) ∧ (rM fa2) ∧ (rM fm2) ∧ ((th2, q) = zdAhead L x n (zM9 fm)) ∧ (fm = fm2)) (u.1) (u.2.1) (u.2.2.1) (u.2.2.2.1) (u.2.2.2.2.1) (u.2.2.2.2.2.1) (u.2.2.2.2.2.2.1) (u.2.2.2.2.2.2.2.1) (u.2.2.2.2.2.2.2.2.1) (u.2.2.2.2.2.2.2.2.2.1) (u.2.2.2.2.2.2.2.2.2.2.1) (u.2.2.2.2.2.2.2.2.2.2.2.1) (u.2.2.2.2.2.2.2.2.2.2.2.2)) (fun u : Int32 × (Nat → Int32) × (Nat → Int32) × Int32 × Int32 × Int32 × Int32 × Int32 × Int32 × Int32 × (Nat → Int32) × (Nat → Int32) × Int32 => (fun (th2 : Int32) (fm2 : Nat → Int32) (fa2 : Nat → Int32) (ba2 : Int32) (en2 : Int32) (at2 : Int32) (de2 : Int32) (iD2 : Int32) (iO2 : Int32) (tU2 : Int32) (ff2 : Nat → Int32) (fb2 : Nat → Int32) (q : Int32) => [bMo g o a th2 hi ac tp ba2 en2 at2 fl de2 iD2 iO2 tU2 fm2 fk fa2 fc ft ff2 fb2 fi]) (u.1) (u.2.1) (u.2.2.1) (u.2.2.2.1) (u.2.2.2.2.1) (u.2.2.2.2.2.1) (u.2.2.2.2.2.2.1) (u.2.2.2.2.2.2.2.1) (u.2.2.2.2.2.2.2.2.1) (u.2.2.2.2.2.2.2.2.2.1) (u.2.2.2.2.2.2.2.2.2.2.1) (u.2.2.2.2.2.2.2.2.2.2.2.1) (u.2.2.2.2.2.2.2.2.2.2.2.2)) := by
  refine zM'.of (cc := cX12_ahead) (maxL := 5) (rt := (some .int)) (by decide) rfl (Nat.le_of_ble_eq_true rfl) ?_
  intro p e s m args below meth c A ls St hr hlocks hin hK hT hA hP hD hS hl
  obtain ⟨hx, hb, hml, hown, hts⟩ := id St
  have hl : lv_has ls 5 [(0, .ref o), (1, .int x), (2, .int n)] := hl
  have hrm3 := rM3 rfm
  have hrm4 := rM4 rfm
  refine lv_aload_n hx hb dX12_ahead_0 rfl (lv_at hl 0 rfl) ?_
  refine lv_aload_n hx hb dX12_ahead_1 rfl (lv_at hl 0 rfl) ?_
  refine lv_iload_n hx hb dX12_ahead_2 rfl (lv_at hl 1 rfl) ?_
  refine mcallV' (g := g) (q0 := 0) (ci := 10) (As := [.int x]) (rest := [.ref o]) St hK hT hA hP hD hS hl.1 [0] [] rfl rfl rfl (m_isPersonG l g o a th hi ac tp ba en tA fl de iD iO tU fm fk fa fc ft ff fb fi x rfm) (cwV 1 hts (zgL (zl4 k1033 k1034 k1035 k839) k836) rfl rfl rfl (by decide +kernel) ⟨Nat.le_of_ble_eq_true rfl, Nat.le_of_ble_eq_true rfl⟩) rfl rfl rfl rfl (Nat.le_of_ble_eq_true rfl) dX12_ahead_3 ⟨(Nat.le_of_ble_eq_true rfl), (Nat.le_of_ble_eq_true rfl)⟩ (fun q_1 H locs hq2 hP hD hS => ?_)
  replace hq2 : (q_1 = 1 ∧ 0 ≤ x.toInt ∧ x.toInt ≤ 7 ∧ x.toInt < (fm 3).toInt ∨ q_1 = 0 ∧ ¬ (0 ≤ x.toInt ∧ x.toInt < (fm 3).toInt)) := hq2
  have hP : va_P g.1 vwCl (List.flatten [bMo g o a th hi ac tp ba en tA fl de iD iO tU fm fk fa fc ft ff fb fi]) H := hP
  have hD : va_D A (List.flatten [bMo g o a th hi ac tp ba en tA fl de iD iO tU fm fk fa fc ft ff fb fi]) := hD
  refine W.widen (k := 0) (n := 0) (Nat.le_of_ble_eq_true rfl) (Nat.le_of_ble_eq_true rfl) ?_
  refine W.eq (g2 := F0 m 6 ls [.int q_1, .ref o]) rfl ?_
  rcases hq2 with ⟨rfl, hq2_k⟩ | ⟨rfl, hq2_k⟩
  · skip
    refine lv_if_ne (tgt := 13) hx hb dX12_ahead_6 (by decide) (fun _ => ?_) (fun c3 => absurd c3 (by decide))
    refine lv_iload_n hx hb dX12_ahead_13 rfl (lv_at hl 2 rfl) ?_
    refine lv_iconst (v := 0) hx hb dX12_ahead_14 (by decide) ?_
    refine lv_bipush (v := 100) hx hb dX12_ahead_15 (by decide) ?_
    have hL0 : (0 : Int32).toInt = 0 := by decide
    have hL100 : (100 : Int32).toInt = 100 := by decide
    refine mcallS' (g := g) (As := [.int n, .int 0, .int 100]) (rest := [.ref o]) St hK hT hA hP hD hS hl.1 [] [0] rfl rfl rfl (m_isIn l g n 0 100 ) (va_cwS 3 hts (zgL (zl3 k837 k838 k839) k826) rfl rfl rfl (by decide +kernel) ⟨Nat.le_of_ble_eq_true rfl, Nat.le_of_ble_eq_true rfl⟩) rfl rfl (Nat.le_of_ble_eq_true rfl) dX12_ahead_17 ⟨(Nat.le_of_ble_eq_true rfl), (Nat.le_of_ble_eq_true rfl)⟩ (fun q_4 H locs hq5 hP hD hS => ?_)
    replace hq5 : (q_4 = 1 ∧ (0 : Int32).toInt ≤ n.toInt ∧ n.toInt ≤ (100 : Int32).toInt ∨ q_4 = 0 ∧ (n.toInt < (0 : Int32).toInt ∨ (100 : Int32).toInt < n.toInt)) := hq5
    have hP : va_P g.1 vwCl (List.flatten [bMo g o a th hi ac tp ba en tA fl de iD iO tU fm fk fa fc ft ff fb fi]) H := hP
    have hD : va_D A (List.flatten [bMo g o a th hi ac tp ba en tA fl de iD iO tU fm fk fa fc ft ff fb fi]) := hD
    refine W.widen (k := 0) (n := 0) (Nat.le_of_ble_eq_true rfl) (Nat.le_of_ble_eq_true rfl) ?_
    refine W.eq (g2 := F0 m 20 ls [.int q_4, .ref o]) rfl ?_
    rcases hq5 with ⟨rfl, hq5_k⟩ | ⟨rfl, hq5_k⟩
    · skip
      refine lv_if_ne (tgt := 27) hx hb dX12_ahead_20 (by decide) (fun _ => ?_) (fun c6 => absurd c6 (by decide))
      refine lv_iconst (v := 0) hx hb dX12_ahead_27 (by decide) ?_
      refine va_put (D := g.1) (ci := 10) (v := .int 0) (ty := .int) (C := RX12) (T := TX12) (N := 20) hx hb hts izRX12 tyX12 tyX12_ok nmX12 hown hK hP hD hS 0 rfl rfl 0 (by decide) (hts _ k825) (fun _ h9 => h9) rfl (by decide +kernel) rfl rfl (Nat.le_of_ble_eq_true rfl) dX12_ahead_28 (fun H locs hP hD hS => ?_)
      have hP : va_P g.1 vwCl (List.flatten [bMo g o a 0 hi ac tp ba en tA fl de iD iO tU fm fk fa fc ft ff fb fi]) H := hP
      have hD : va_D A (List.flatten [bMo g o a 0 hi ac tp ba en tA fl de iD iO tU fm fk fa fc ft ff fb fi]) := hD
      refine lv_aload_n hx hb dX12_ahead_31 rfl (lv_at hl 0 rfl) ?_
      refine va_get (D := g.1) (ci := 10) (v := .int 0) (C := RX12) (T := TX12) (N := 20) hx hb hts izRX12 hown hK hP 0 rfl rfl 0 (by decide) (hts _ k825) (fun _ h9 => h9) rfl dX12_ahead_32 ?_
      refine lv_if_le (tgt := 40) hx hb dX12_ahead_35 (by decide) (fun _ => ?_) (fun c7 => absurd (by decide) c7)
      refine lv_aload_n hx hb dX12_ahead_40 rfl (lv_at hl 0 rfl) ?_
      refine mcallV' (g := g) (q0 := 0) (ci := 10) (As := []) (rest := []) St hK hT hA hP hD hS hl.1 [0] [] rfl rfl rfl (m_putsAside l g o a 0 hi ac tp ba en tA fl de iD iO tU fm fk fa fc ft ff fb fi rfm rfa) (cwV 0 hts (zgL (zl4 k975 k976 k977 k839) k972) rfl rfl rfl (by decide +kernel) ⟨Nat.le_of_ble_eq_true rfl, Nat.le_of_ble_eq_true rfl⟩) rfl rfl rfl rfl (Nat.le_of_ble_eq_true rfl) dX12_ahead_41 ⟨(Nat.le_of_ble_eq_true rfl), (Nat.le_of_ble_eq_true rfl)⟩ (fun fa2_8 H locs hq9 hP hD hS => ?_)
      replace hq9 : (rM fa2_8) ∧ (zCy fa fa2_8 0 fm 0 379) ∧ ((fa2_8 0).toInt = (fm 0).toInt ∧ (fa2_8 3).toInt = (fm 3).toInt ∧ (fa2_8 4).toInt = (fm 4).toInt) := hq9
      have hP : va_P g.1 vwCl (List.flatten [bMo g o a 0 hi ac tp ba en tA fl de iD iO tU fm fk fa2_8 fc ft ff fb fi]) H := hP
      have hD : va_D A (List.flatten [bMo g o a 0 hi ac tp ba en tA fl de iD iO tU fm fk fa2_8 fc ft ff fb fi]) := hD
      refine W.widen (k := 0) (n := 0) (Nat.le_of_ble_eq_true rfl) (Nat.le_of_ble_eq_true rfl) ?_
      refine W.eq (g2 := F0 m 44 ls []) rfl ?_
      obtain ⟨rfa2_8, hq9_1, hq9_2⟩ := hq9
      refine lv_aload_n hx hb dX12_ahead_44 rfl (lv_at hl 0 rfl) ?_
      refine lv_iload_n hx hb dX12_ahead_45 rfl (lv_at hl 2 rfl) ?_
      refine lv_iconst (v := 0) hx hb dX12_ahead_46 (by decide) ?_
      refine mcallV' (g := g) (q0 := 0) (ci := 10) (As := [.int n, .int 0]) (rest := []) St hK hT hA hP hD hS hl.1 [0] [] rfl rfl rfl (m_goes0G l g o a 0 hi ac tp ba en tA fl de iD iO tU fm fk fa2_8 fc ft ff fb fi n L rfm (by first | assumption | omega | decide) (by first | assumption | omega | decide) (by first | assumption | omega | decide) hrg (zLm_k hL (zGk_r _))) (cwV 2 hts (zgL (zl4 k1057 k1058 k1059 k839) k1028) rfl rfl rfl (by decide +kernel) ⟨Nat.le_of_ble_eq_true rfl, Nat.le_of_ble_eq_true rfl⟩) rfl rfl rfl rfl (Nat.le_of_ble_eq_true rfl) dX12_ahead_47 ⟨(Nat.le_of_ble_eq_true rfl), (Nat.le_of_ble_eq_true rfl)⟩ (fun u_ H locs hq21 hP hD hS => ?_)
      obtain ⟨ba2_10, en2_11, at2_12, de2_13, iD2_14, iO2_15, tU2_16, ff2_17, fm2_18, fb2_19, q_20⟩ := u_
      replace hq21 : (rM fm2_18) ∧ (0 ≤ iO2_15.toInt ∧ iO2_15.toInt ≤ 1) ∧ (0 ≤ iD2_14.toInt ∧ iD2_14.toInt ≤ 1) ∧ (zNR ((fm2_18 5, fm2_18 8, fm2_18 10, zV fm2_18), q_20) (zNds L (fm 3).toInt.toNat (fm 4).toInt.toNat (fm 7) 0 n.toInt.toNat (fm 5, fm 8, fm 10, zV fm))) ∧ (zGk fm fm2_18) := hq21
      have hP : va_P g.1 vwCl (List.flatten [bMo g o a 0 hi ac tp ba2_10 en2_11 at2_12 fl de2_13 iD2_14 iO2_15 tU2_16 fm2_18 fk fa2_8 fc ft ff2_17 fb2_19 fi]) H := hP
      have hD : va_D A (List.flatten [bMo g o a 0 hi ac tp ba2_10 en2_11 at2_12 fl de2_13 iD2_14 iO2_15 tU2_16 fm2_18 fk fa2_8 fc ft ff2_17 fb2_19 fi]) := hD
      refine W.widen (k := 0) (n := 0) (Nat.le_of_ble_eq_true rfl) (Nat.le_of_ble_eq_true rfl) ?_
      refine W.eq (g2 := F0 m 50 ls [.int q_20]) rfl ?_
      obtain ⟨rfm2_18, hq21_1, hq21_2, hq21_3, hq21_4⟩ := hq21
      have rg22 : zRg (zV fm2_18) := zRg_go hq21_3 hrg
      have gk23 : zGk fm fm2_18 := zGk_t (zGk_r _) hq21_4
      refine lv_istore_n (lv' := [(3, .int q_20), (0, .ref o), (1, .int x), (2, .int n)]) hx hb dX12_ahead_50 rfl hl (by decide) rfl (fun ls hl => ?_)
      refine lv_aload_n hx hb dX12_ahead_51 rfl (lv_at hl 1 rfl) ?_
      refine lv_iload_n hx hb dX12_ahead_52 rfl (lv_at hl 2 rfl) ?_
      refine lv_iconst (v := 0) hx hb dX12_ahead_53 (by decide) ?_
      refine mcallV' (g := g) (q0 := 0) (ci := 10) (As := [.int x, .int 0]) (rest := []) St hK hT hA hP hD hS hl.1 [0] [] rfl rfl rfl (m_of0F l g o a 0 hi ac tp ba2_10 en2_11 at2_12 fl de2_13 iD2_14 iO2_15 tU2_16 fm2_18 fk fa2_8 fc ft ff2_17 fb2_19 fi x (by first | assumption | omega | decide | exact Or.inl (by decide) | exact Or.inr (by decide))) (cwV 2 hts (zgL (zl4 k842 k843 k844 k839) k831) rfl rfl rfl (by decide +kernel) ⟨Nat.le_of_ble_eq_true rfl, Nat.le_of_ble_eq_true rfl⟩) rfl rfl rfl rfl (Nat.le_of_ble_eq_true rfl) dX12_ahead_54 ⟨(Nat.le_of_ble_eq_true rfl), (Nat.le_of_ble_eq_true rfl)⟩ (fun _u H locs hq24 hP hD hS => ?_)
      have hP : va_P g.1 vwCl (List.flatten [bMo g o a 0 hi ac tp ba2_10 en2_11 at2_12 fl de2_13 iD2_14 iO2_15 tU2_16 fm2_18 fk fa2_8 fc ft ff2_17 fb2_19 fi]) H := hP
      have hD : va_D A (List.flatten [bMo g o a 0 hi ac tp ba2_10 en2_11 at2_12 fl de2_13 iD2_14 iO2_15 tU2_16 fm2_18 fk fa2_8 fc ft ff2_17 fb2_19 fi]) := hD
      refine W.widen (k := 0) (n := 0) (Nat.le_of_ble_eq_true rfl) (Nat.le_of_ble_eq_true rfl) ?_
      refine W.eq (g2 := F0 m 57 ls [.int (zV fm2_18 0 x.toInt.toNat)]) rfl ?_
      refine lv_istore (lv' := [(4, .int (zV fm2_18 0 x.toInt.toNat)), (3, .int q_20), (0, .ref o), (1, .int x), (2, .int n)]) hx hb dX12_ahead_57 hl (by decide) rfl (fun ls hl => ?_)
      refine lv_aload_n hx hb dX12_ahead_59 rfl (lv_at hl 2 rfl) ?_
      refine mcallV' (g := g) (q0 := 0) (ci := 10) (As := []) (rest := []) St hK hT hA hP hD hS hl.1 [0] [] rfl rfl rfl (m_comesBack l g o a 0 hi ac tp ba2_10 en2_11 at2_12 fl de2_13 iD2_14 iO2_15 tU2_16 fm2_18 fk fa2_8 fc ft ff2_17 fb2_19 fi rfm2_18 rfa2_8) (cwV 0 hts (zgL (zl4 k984 k985 k986 k839) k973) rfl rfl rfl (by decide +kernel) ⟨Nat.le_of_ble_eq_true rfl, Nat.le_of_ble_eq_true rfl⟩) rfl rfl rfl rfl (Nat.le_of_ble_eq_true rfl) dX12_ahead_60 ⟨(Nat.le_of_ble_eq_true rfl), (Nat.le_of_ble_eq_true rfl)⟩ (fun fm2_25 H locs hq26 hP hD hS => ?_)
      replace hq26 : (rM fm2_25) ∧ (zCy fm2_18 fm2_25 0 fa2_8 0 379) ∧ ((fm2_25 0).toInt = (fa2_8 0).toInt ∧ (fm2_25 3).toInt = (fa2_8 3).toInt ∧ (fm2_25 4).toInt = (fa2_8 4).toInt) := hq26
      have hP : va_P g.1 vwCl (List.flatten [bMo g o a 0 hi ac tp ba2_10 en2_11 at2_12 fl de2_13 iD2_14 iO2_15 tU2_16 fm2_25 fk fa2_8 fc ft ff2_17 fb2_19 fi]) H := hP
      have hD : va_D A (List.flatten [bMo g o a 0 hi ac tp ba2_10 en2_11 at2_12 fl de2_13 iD2_14 iO2_15 tU2_16 fm2_25 fk fa2_8 fc ft ff2_17 fb2_19 fi]) := hD
      refine W.widen (k := 0) (n := 0) (Nat.le_of_ble_eq_true rfl) (Nat.le_of_ble_eq_true rfl) ?_
      refine W.eq (g2 := F0 m 63 ls []) rfl ?_
      obtain ⟨rfm2_25, hq26_1, hq26_2⟩ := hq26
      refine lv_iload hx hb dX12_ahead_63 (lv_at hl 0 rfl) ?_
      have hP : va_P g.1 vwCl (List.flatten [bMo g o a 0 hi ac tp ba2_10 en2_11 at2_12 fl de2_13 iD2_14 iO2_15 tU2_16 fm2_25 fk fa2_8 fc ft ff2_17 fb2_19 fi]) H := hP
      have hD : va_D A (List.flatten [bMo g o a 0 hi ac tp ba2_10 en2_11 at2_12 fl de2_13 iD2_14 iO2_15 tU2_16 fm2_25 fk fa2_8 fc ft ff2_17 fb2_19 fi]) := hD
      exact mret_i hx hb hr hlocks hS (Nat.le_of_ble_eq_true rfl) (Nat.le_of_ble_eq_true rfl) dX12_ahead_65 ((0 : Int32), fm2_25, fa2_8, ba2_10, en2_11, at2_12, de2_13, iD2_14, iO2_15, tU2_16, ff2_17, fb2_19, zV fm2_18 0 x.toInt.toNat) rfl (show (0 ≤ iO2_15.toInt ∧ iO2_15.toInt ≤ 1) ∧ (0 ≤ iD2_14.toInt ∧ iD2_14.toInt ≤ 1) ∧ (rM fa2_8) ∧ (rM fm2_25) ∧ ((0, (zV fm2_18 0 x.toInt.toNat)) = zdAhead L x n (zM9 fm)) ∧ (fm = fm2_25) from ⟨(by first | assumption | omega | decide), (by first | assumption | omega | decide), (by first | assumption | omega | decide), (by first | assumption | omega | decide), (zdAhead_m (by omega) (by omega) (by omega) (zGo_m hq21_3 hq21_4)), (zBackD hq9_1 gk23 hq26_1)⟩) hP hD
    · skip
      refine lv_if_ne (tgt := 27) hx hb dX12_ahead_20 (by decide) (fun c27 => absurd (by decide) c27) (fun _ => ?_)
      refine lv_iconst (v := 2) hx hb dX12_ahead_23 (by decide) ?_
      refine lv_goto (tgt := 28) hx hb dX12_ahead_24 (by decide) ?_
      refine va_put (D := g.1) (ci := 10) (v := .int 2) (ty := .int) (C := RX12) (T := TX12) (N := 20) hx hb hts izRX12 tyX12 tyX12_ok nmX12 hown hK hP hD hS 0 rfl rfl 0 (by decide) (hts _ k825) (fun _ h9 => h9) rfl (by decide +kernel) rfl rfl (Nat.le_of_ble_eq_true rfl) dX12_ahead_28 (fun H locs hP hD hS => ?_)
      have hP : va_P g.1 vwCl (List.flatten [bMo g o a 2 hi ac tp ba en tA fl de iD iO tU fm fk fa fc ft ff fb fi]) H := hP
      have hD : va_D A (List.flatten [bMo g o a 2 hi ac tp ba en tA fl de iD iO tU fm fk fa fc ft ff fb fi]) := hD
      refine lv_aload_n hx hb dX12_ahead_31 rfl (lv_at hl 0 rfl) ?_
      refine va_get (D := g.1) (ci := 10) (v := .int 2) (C := RX12) (T := TX12) (N := 20) hx hb hts izRX12 hown hK hP 0 rfl rfl 0 (by decide) (hts _ k825) (fun _ h9 => h9) rfl dX12_ahead_32 ?_
      refine lv_if_le (tgt := 40) hx hb dX12_ahead_35 (by decide) (fun c28 => absurd c28 (by decide)) (fun _ => ?_)
      refine lv_iconst (v := 0) hx hb dX12_ahead_38 (by decide) ?_
      have hP : va_P g.1 vwCl (List.flatten [bMo g o a 2 hi ac tp ba en tA fl de iD iO tU fm fk fa fc ft ff fb fi]) H := hP
      have hD : va_D A (List.flatten [bMo g o a 2 hi ac tp ba en tA fl de iD iO tU fm fk fa fc ft ff fb fi]) := hD
      exact mret_i hx hb hr hlocks hS (Nat.le_of_ble_eq_true rfl) (Nat.le_of_ble_eq_true rfl) dX12_ahead_39 ((2 : Int32), fm, fa, ba, en, tA, de, iD, iO, tU, ff, fb, (0 : Int32)) rfl (show (0 ≤ iO.toInt ∧ iO.toInt ≤ 1) ∧ (0 ≤ iD.toInt ∧ iD.toInt ≤ 1) ∧ (rM fa) ∧ (rM fm) ∧ ((2, 0) = zdAhead L x n (zM9 fm)) ∧ (fm = fm) from ⟨(by first | assumption | omega | decide), (by first | assumption | omega | decide), (by first | assumption | omega | decide), (by first | assumption | omega | decide), (zdAhead_2 (by omega) (by omega)), rfl⟩) hP hD
  · skip
    refine lv_if_ne (tgt := 13) hx hb dX12_ahead_6 (by decide) (fun c29 => absurd (by decide) c29) (fun _ => ?_)
    refine lv_iconst (v := 1) hx hb dX12_ahead_9 (by decide) ?_
    refine lv_goto (tgt := 28) hx hb dX12_ahead_10 (by decide) ?_
    refine va_put (D := g.1) (ci := 10) (v := .int 1) (ty := .int) (C := RX12) (T := TX12) (N := 20) hx hb hts izRX12 tyX12 tyX12_ok nmX12 hown hK hP hD hS 0 rfl rfl 0 (by decide) (hts _ k825) (fun _ h9 => h9) rfl (by decide +kernel) rfl rfl (Nat.le_of_ble_eq_true rfl) dX12_ahead_28 (fun H locs hP hD hS => ?_)
    have hP : va_P g.1 vwCl (List.flatten [bMo g o a 1 hi ac tp ba en tA fl de iD iO tU fm fk fa fc ft ff fb fi]) H := hP
    have hD : va_D A (List.flatten [bMo g o a 1 hi ac tp ba en tA fl de iD iO tU fm fk fa fc ft ff fb fi]) := hD
    refine lv_aload_n hx hb dX12_ahead_31 rfl (lv_at hl 0 rfl) ?_
    refine va_get (D := g.1) (ci := 10) (v := .int 1) (C := RX12) (T := TX12) (N := 20) hx hb hts izRX12 hown hK hP 0 rfl rfl 0 (by decide) (hts _ k825) (fun _ h9 => h9) rfl dX12_ahead_32 ?_
    refine lv_if_le (tgt := 40) hx hb dX12_ahead_35 (by decide) (fun c30 => absurd c30 (by decide)) (fun _ => ?_)
    refine lv_iconst (v := 0) hx hb dX12_ahead_38 (by decide) ?_
    have hP : va_P g.1 vwCl (List.flatten [bMo g o a 1 hi ac tp ba en tA fl de iD iO tU fm fk fa fc ft ff fb fi]) H := hP
    have hD : va_D A (List.flatten [bMo g o a 1 hi ac tp ba en tA fl de iD iO tU fm fk fa fc ft ff fb fi]) := hD
    exact mret_i hx hb hr hlocks hS (Nat.le_of_ble_eq_true rfl) (Nat.le_of_ble_eq_true rfl) dX12_ahead_39 ((1 : Int32), fm, fa, ba, en, tA, de, iD, iO, tU, ff, fb, (0 : Int32)) rfl (show (0 ≤ iO.toInt ∧ iO.toInt ≤ 1) ∧ (0 ≤ iD.toInt ∧ iD.toInt ≤ 1) ∧ (rM fa) ∧ (rM fm) ∧ ((1, 0) = zdAhead L x n (zM9 fm)) ∧ (fm = fm) from ⟨(by first | assumption | omega | decide), (by first | assumption | omega | decide), (by first | assumption | omega | decide), (by first | assumption | omega | decide), (zdAhead_1 (by omega)), rfl⟩) hP hD
set_option maxRecDepth 100000 in
set_option maxHeartbeats 4000000 in
theorem m_thenC (l : Launch) (g : zG) (o : Nat) (a : Nat → Nat) (th : Int32) (hi : Int32) (ac : Int32) (tp : Int32) (ba : Int32) (en : Int32) (tA : Int32) (fl : Int32) (de : Int32) (iD : Int32) (iO : Int32) (tU : Int32) (fm : Nat → Int32) (fk : Nat → Int32) (fa : Nat → Int32) (fc : Nat → Int32) (ft : Nat → Int32) (ff : Nat → Int32) (fb : Nat → Int32) (fi : Nat → Int32) (n : Int32) (c9 : Int32) (L : zLw) (rfm : rM fm) (rfa : rM fa) (hiD : 0 ≤ iD.toInt ∧ iD.toInt ≤ 1) (hiO : 0 ≤ iO.toInt ∧ iO.toInt ≤ 1) (hrg : zRg (zV fm)) (hL : zLm L fm) : zM' g l yX12_then (Cond.code yX12_then cX12_then 5 (some .int) :: zB) ({ frames := 33, cells := 0, slots := 0, locals := 736 } : Room) [.ref o, .int n, .int c9] [bMo g o a th hi ac tp ba en tA fl de iD iO tU fm fk fa fc ft ff fb fi] (fun u : Int32 × (Nat → Int32) × (Nat → Int32) × Int32 × Int32 × Int32 × Int32 × Int32 × Int32 × Int32 × (Nat → Int32) × (Nat → Int32) × Int32 => (fun (th2 : Int32) (fm2 : Nat → Int32) (fa2 : Nat → Int32) (ba2 : Int32) (en2 : Int32) (at2 : Int32) (de2 : Int32) (iD2 : Int32) (iO2 : Int32) (tU2 : Int32) (ff2 : Nat → Int32) (fb2 : Nat → Int32) (q : Int32) => some (.int q)) (u.1) (u.2.1) (u.2.2.1) (u.2.2.2.1) (u.2.2.2.2.1) (u.2.2.2.2.2.1) (u.2.2.2.2.2.2.1) (u.2.2.2.2.2.2.2.1) (u.2.2.2.2.2.2.2.2.1) (u.2.2.2.2.2.2.2.2.2.1) (u.2.2.2.2.2.2.2.2.2.2.1) (u.2.2.2.2.2.2.2.2.2.2.2.1) (u.2.2.2.2.2.2.2.2.2.2.2.2)) (fun u : Int32 × (Nat → Int32) × (Nat → Int32) × Int32 × Int32 × Int32 × Int32 × Int32 × Int32 × Int32 × (Nat → Int32) × (Nat → Int32) × Int32 => (fun (th2 : Int32) (fm2 : Nat → Int32) (fa2 : Nat → Int32) (ba2 : Int32) (en2 : Int32) (at2 : Int32) (de2 : Int32) (iD2 : Int32) (iO2 : Int32) (tU2 : Int32) (ff2 : Nat → Int32) (fb2 : Nat → Int32) (q : Int32) => (0 ≤ iO2.toInt ∧ iO2.toInt ≤ 1) ∧ (0 ≤ iD2.toInt ∧ iD2.toInt ≤ 1) ∧ (rM fa2) ∧ (rM fm2) ∧ ((th2, q) = zdThen L n c9 (zM9 fm)) ∧ (fm = fm2)) (u.1) (u.2.1) (u.2.2.1) (u.2.2.2.1) (u.2.2.2.2.1) (u.2.2.2.2.2.1) (u.2.2.2.2.2.2.1) (u.2.2.2.2.2.2.2.1) (u.2.2.2.2.2.2.2.2.1) (u.2.2.2.2.2.2.2.2.2.1) (u.2.2.2.2.2.2.2.2.2.2.1) (u.2.2.2.2.2.2.2.2.2.2.2.1) (u.2.2.2.2.2.2.2.2.2.2.2.2)) (fun u : Int32 × (Nat → Int32) × (Nat → Int32) × Int32 × Int32 × Int32 × Int32 × Int32 × Int32 × Int32 × (Nat → Int32) × (Nat → Int32) × Int32 => (fun (th2 : Int32) (fm2 : Nat → Int32) (fa2 : Nat → Int32) (ba2 : Int32) (en2 : Int32) (at2 : Int32) (de2 : Int32) (iD2 : Int32) (iO2 : Int32) (tU2 : Int32) (ff2 : Nat → Int32) (fb2 : Nat → Int32) (q : Int32) => [bMo g o a th2 hi ac tp ba2 en2 at2 fl de2 iD2 iO2 tU2 fm2 fk fa2 fc ft ff2 fb2 fi]) (u.1) (u.2.1) (u.2.2.1) (u.2.2.2.1) (u.2.2.2.2.1) (u.2.2.2.2.2.1) (u.2.2.2.2.2.2.1) (u.2.2.2.2.2.2.2.1) (u.2.2.2.2.2.2.2.2.1) (u.2.2.2.2.2.2.2.2.2.1) (u.2.2.2.2.2.2.2.2.2.2.1) (u.2.2.2.2.2.2.2.2.2.2.2.1) (u.2.2.2.2.2.2.2.2.2.2.2.2)) := by
  refine zM'.of (cc := cX12_then) (maxL := 5) (rt := (some .int)) (by decide) rfl (Nat.le_of_ble_eq_true rfl) ?_
  intro p e s m args below meth c A ls St hr hlocks hin hK hT hA hP hD hS hl
  obtain ⟨hx, hb, hml, hown, hts⟩ := id St
  have hl : lv_has ls 5 [(0, .ref o), (1, .int n), (2, .int c9)] := hl
  have hrm3 := rM3 rfm
  have hrm4 := rM4 rfm
  refine lv_aload_n hx hb dX12_then_0 rfl (lv_at hl 0 rfl) ?_
  refine lv_iload_n hx hb dX12_then_1 rfl (lv_at hl 1 rfl) ?_
  refine lv_iconst (v := 0) hx hb dX12_then_2 (by decide) ?_
  refine lv_bipush (v := 100) hx hb dX12_then_3 (by decide) ?_
  have hL0 : (0 : Int32).toInt = 0 := by decide
  have hL100 : (100 : Int32).toInt = 100 := by decide
  refine mcallS' (g := g) (As := [.int n, .int 0, .int 100]) (rest := [.ref o]) St hK hT hA hP hD hS hl.1 [] [0] rfl rfl rfl (m_isIn l g n 0 100 ) (va_cwS 3 hts (zgL (zl3 k837 k838 k839) k826) rfl rfl rfl (by decide +kernel) ⟨Nat.le_of_ble_eq_true rfl, Nat.le_of_ble_eq_true rfl⟩) rfl rfl (Nat.le_of_ble_eq_true rfl) dX12_then_5 ⟨(Nat.le_of_ble_eq_true rfl), (Nat.le_of_ble_eq_true rfl)⟩ (fun q_1 H locs hq2 hP hD hS => ?_)
  replace hq2 : (q_1 = 1 ∧ (0 : Int32).toInt ≤ n.toInt ∧ n.toInt ≤ (100 : Int32).toInt ∨ q_1 = 0 ∧ (n.toInt < (0 : Int32).toInt ∨ (100 : Int32).toInt < n.toInt)) := hq2
  have hP : va_P g.1 vwCl (List.flatten [bMo g o a th hi ac tp ba en tA fl de iD iO tU fm fk fa fc ft ff fb fi]) H := hP
  have hD : va_D A (List.flatten [bMo g o a th hi ac tp ba en tA fl de iD iO tU fm fk fa fc ft ff fb fi]) := hD
  refine W.widen (k := 0) (n := 0) (Nat.le_of_ble_eq_true rfl) (Nat.le_of_ble_eq_true rfl) ?_
  refine W.eq (g2 := F0 m 8 ls [.int q_1, .ref o]) rfl ?_
  rcases hq2 with ⟨rfl, hq2_k⟩ | ⟨rfl, hq2_k⟩
  · skip
    refine lv_if_ne (tgt := 15) hx hb dX12_then_8 (by decide) (fun _ => ?_) (fun c3 => absurd c3 (by decide))
    refine lv_iconst (v := 0) hx hb dX12_then_15 (by decide) ?_
    refine va_put (D := g.1) (ci := 10) (v := .int 0) (ty := .int) (C := RX12) (T := TX12) (N := 20) hx hb hts izRX12 tyX12 tyX12_ok nmX12 hown hK hP hD hS 0 rfl rfl 0 (by decide) (hts _ k825) (fun _ h9 => h9) rfl (by decide +kernel) rfl rfl (Nat.le_of_ble_eq_true rfl) dX12_then_16 (fun H locs hP hD hS => ?_)
    have hP : va_P g.1 vwCl (List.flatten [bMo g o a 0 hi ac tp ba en tA fl de iD iO tU fm fk fa fc ft ff fb fi]) H := hP
    have hD : va_D A (List.flatten [bMo g o a 0 hi ac tp ba en tA fl de iD iO tU fm fk fa fc ft ff fb fi]) := hD
    refine lv_aload_n hx hb dX12_then_19 rfl (lv_at hl 0 rfl) ?_
    refine va_get (D := g.1) (ci := 10) (v := .int 0) (C := RX12) (T := TX12) (N := 20) hx hb hts izRX12 hown hK hP 0 rfl rfl 0 (by decide) (hts _ k825) (fun _ h9 => h9) rfl dX12_then_20 ?_
    refine lv_if_le (tgt := 28) hx hb dX12_then_23 (by decide) (fun _ => ?_) (fun c4 => absurd (by decide) c4)
    refine lv_aload_n hx hb dX12_then_28 rfl (lv_at hl 0 rfl) ?_
    refine mcallV' (g := g) (q0 := 0) (ci := 10) (As := []) (rest := []) St hK hT hA hP hD hS hl.1 [0] [] rfl rfl rfl (m_putsAside l g o a 0 hi ac tp ba en tA fl de iD iO tU fm fk fa fc ft ff fb fi rfm rfa) (cwV 0 hts (zgL (zl4 k975 k976 k977 k839) k972) rfl rfl rfl (by decide +kernel) ⟨Nat.le_of_ble_eq_true rfl, Nat.le_of_ble_eq_true rfl⟩) rfl rfl rfl rfl (Nat.le_of_ble_eq_true rfl) dX12_then_29 ⟨(Nat.le_of_ble_eq_true rfl), (Nat.le_of_ble_eq_true rfl)⟩ (fun fa2_5 H locs hq6 hP hD hS => ?_)
    replace hq6 : (rM fa2_5) ∧ (zCy fa fa2_5 0 fm 0 379) ∧ ((fa2_5 0).toInt = (fm 0).toInt ∧ (fa2_5 3).toInt = (fm 3).toInt ∧ (fa2_5 4).toInt = (fm 4).toInt) := hq6
    have hP : va_P g.1 vwCl (List.flatten [bMo g o a 0 hi ac tp ba en tA fl de iD iO tU fm fk fa2_5 fc ft ff fb fi]) H := hP
    have hD : va_D A (List.flatten [bMo g o a 0 hi ac tp ba en tA fl de iD iO tU fm fk fa2_5 fc ft ff fb fi]) := hD
    refine W.widen (k := 0) (n := 0) (Nat.le_of_ble_eq_true rfl) (Nat.le_of_ble_eq_true rfl) ?_
    refine W.eq (g2 := F0 m 32 ls []) rfl ?_
    obtain ⟨rfa2_5, hq6_1, hq6_2⟩ := hq6
    refine lv_aload_n hx hb dX12_then_32 rfl (lv_at hl 0 rfl) ?_
    refine lv_iload_n hx hb dX12_then_33 rfl (lv_at hl 1 rfl) ?_
    refine lv_iconst (v := 0) hx hb dX12_then_34 (by decide) ?_
    refine mcallV' (g := g) (q0 := 0) (ci := 10) (As := [.int n, .int 0]) (rest := []) St hK hT hA hP hD hS hl.1 [0] [] rfl rfl rfl (m_goes0G l g o a 0 hi ac tp ba en tA fl de iD iO tU fm fk fa2_5 fc ft ff fb fi n L rfm (by first | assumption | omega | decide) (by first | assumption | omega | decide) (by first | assumption | omega | decide) hrg (zLm_k hL (zGk_r _))) (cwV 2 hts (zgL (zl4 k1057 k1058 k1059 k839) k1028) rfl rfl rfl (by decide +kernel) ⟨Nat.le_of_ble_eq_true rfl, Nat.le_of_ble_eq_true rfl⟩) rfl rfl rfl rfl (Nat.le_of_ble_eq_true rfl) dX12_then_35 ⟨(Nat.le_of_ble_eq_true rfl), (Nat.le_of_ble_eq_true rfl)⟩ (fun u_ H locs hq18 hP hD hS => ?_)
    obtain ⟨ba2_7, en2_8, at2_9, de2_10, iD2_11, iO2_12, tU2_13, ff2_14, fm2_15, fb2_16, q_17⟩ := u_
    replace hq18 : (rM fm2_15) ∧ (0 ≤ iO2_12.toInt ∧ iO2_12.toInt ≤ 1) ∧ (0 ≤ iD2_11.toInt ∧ iD2_11.toInt ≤ 1) ∧ (zNR ((fm2_15 5, fm2_15 8, fm2_15 10, zV fm2_15), q_17) (zNds L (fm 3).toInt.toNat (fm 4).toInt.toNat (fm 7) 0 n.toInt.toNat (fm 5, fm 8, fm 10, zV fm))) ∧ (zGk fm fm2_15) := hq18
    have hP : va_P g.1 vwCl (List.flatten [bMo g o a 0 hi ac tp ba2_7 en2_8 at2_9 fl de2_10 iD2_11 iO2_12 tU2_13 fm2_15 fk fa2_5 fc ft ff2_14 fb2_16 fi]) H := hP
    have hD : va_D A (List.flatten [bMo g o a 0 hi ac tp ba2_7 en2_8 at2_9 fl de2_10 iD2_11 iO2_12 tU2_13 fm2_15 fk fa2_5 fc ft ff2_14 fb2_16 fi]) := hD
    refine W.widen (k := 0) (n := 0) (Nat.le_of_ble_eq_true rfl) (Nat.le_of_ble_eq_true rfl) ?_
    refine W.eq (g2 := F0 m 38 ls [.int q_17]) rfl ?_
    obtain ⟨rfm2_15, hq18_1, hq18_2, hq18_3, hq18_4⟩ := hq18
    have rg19 : zRg (zV fm2_15) := zRg_go hq18_3 hrg
    have gk20 : zGk fm fm2_15 := zGk_t (zGk_r _) hq18_4
    refine lv_istore_n (lv' := [(3, .int q_17), (0, .ref o), (1, .int n), (2, .int c9)]) hx hb dX12_then_38 rfl hl (by decide) rfl (fun ls hl => ?_)
    refine lv_iload_n hx hb dX12_then_39 rfl (lv_at hl 3 rfl) ?_
    refine lv_if_eq (tgt := 52) hx hb dX12_then_40 (by decide) (fun cb9 => ?_) (fun cb9 => ?_)
    · skip
      have c21 : c9.toInt = 0 := zeq cb9 rfl (by decide)
      have n22 : 0 ≤ c9.toInt := Int.le_trans (Int.le_refl _) (Int.le_of_eq c21.symm)
      have n23 : c9.toInt ≤ 0 := Int.le_trans (Int.le_of_eq c21) (Int.le_refl _)
      refine lv_aload_n hx hb dX12_then_52 rfl (lv_at hl 1 rfl) ?_
      refine mcallV' (g := g) (q0 := 0) (ci := 10) (As := []) (rest := []) St hK hT hA hP hD hS hl.1 [0] [] rfl rfl rfl (m_believedG l g o a 0 hi ac tp ba2_7 en2_8 at2_9 fl de2_10 iD2_11 iO2_12 tU2_13 fm2_15 fk fa2_5 fc ft ff2_14 fb2_16 fi rfm2_15) (cwV 0 hts (zgL (zl4 k856 k857 k858 k839) k849) rfl rfl rfl (by decide +kernel) ⟨Nat.le_of_ble_eq_true rfl, Nat.le_of_ble_eq_true rfl⟩) rfl rfl rfl rfl (Nat.le_of_ble_eq_true rfl) dX12_then_53 ⟨(Nat.le_of_ble_eq_true rfl), (Nat.le_of_ble_eq_true rfl)⟩ (fun _u H locs hq24 hP hD hS => ?_)
      have hP : va_P g.1 vwCl (List.flatten [bMo g o a 0 hi ac tp ba2_7 en2_8 at2_9 fl de2_10 iD2_11 iO2_12 tU2_13 fm2_15 fk fa2_5 fc ft ff2_14 fb2_16 fi]) H := hP
      have hD : va_D A (List.flatten [bMo g o a 0 hi ac tp ba2_7 en2_8 at2_9 fl de2_10 iD2_11 iO2_12 tU2_13 fm2_15 fk fa2_5 fc ft ff2_14 fb2_16 fi]) := hD
      refine W.widen (k := 0) (n := 0) (Nat.le_of_ble_eq_true rfl) (Nat.le_of_ble_eq_true rfl) ?_
      refine W.eq (g2 := F0 m 56 ls [.int (zBel (zV fm2_15) (fm2_15 3).toInt.toNat)]) rfl ?_
      refine lv_istore (lv' := [(4, .int (zBel (zV fm2_15) (fm2_15 3).toInt.toNat)), (3, .int q_17), (0, .ref o), (1, .int n), (2, .int c9)]) hx hb dX12_then_56 hl (by decide) rfl (fun ls hl => ?_)
      refine lv_aload_n hx hb dX12_then_58 rfl (lv_at hl 2 rfl) ?_
      refine mcallV' (g := g) (q0 := 0) (ci := 10) (As := []) (rest := []) St hK hT hA hP hD hS hl.1 [0] [] rfl rfl rfl (m_comesBack l g o a 0 hi ac tp ba2_7 en2_8 at2_9 fl de2_10 iD2_11 iO2_12 tU2_13 fm2_15 fk fa2_5 fc ft ff2_14 fb2_16 fi rfm2_15 rfa2_5) (cwV 0 hts (zgL (zl4 k984 k985 k986 k839) k973) rfl rfl rfl (by decide +kernel) ⟨Nat.le_of_ble_eq_true rfl, Nat.le_of_ble_eq_true rfl⟩) rfl rfl rfl rfl (Nat.le_of_ble_eq_true rfl) dX12_then_59 ⟨(Nat.le_of_ble_eq_true rfl), (Nat.le_of_ble_eq_true rfl)⟩ (fun fm2_25 H locs hq26 hP hD hS => ?_)
      replace hq26 : (rM fm2_25) ∧ (zCy fm2_15 fm2_25 0 fa2_5 0 379) ∧ ((fm2_25 0).toInt = (fa2_5 0).toInt ∧ (fm2_25 3).toInt = (fa2_5 3).toInt ∧ (fm2_25 4).toInt = (fa2_5 4).toInt) := hq26
      have hP : va_P g.1 vwCl (List.flatten [bMo g o a 0 hi ac tp ba2_7 en2_8 at2_9 fl de2_10 iD2_11 iO2_12 tU2_13 fm2_25 fk fa2_5 fc ft ff2_14 fb2_16 fi]) H := hP
      have hD : va_D A (List.flatten [bMo g o a 0 hi ac tp ba2_7 en2_8 at2_9 fl de2_10 iD2_11 iO2_12 tU2_13 fm2_25 fk fa2_5 fc ft ff2_14 fb2_16 fi]) := hD
      refine W.widen (k := 0) (n := 0) (Nat.le_of_ble_eq_true rfl) (Nat.le_of_ble_eq_true rfl) ?_
      refine W.eq (g2 := F0 m 62 ls []) rfl ?_
      obtain ⟨rfm2_25, hq26_1, hq26_2⟩ := hq26
      refine lv_iload hx hb dX12_then_62 (lv_at hl 0 rfl) ?_
      have hP : va_P g.1 vwCl (List.flatten [bMo g o a 0 hi ac tp ba2_7 en2_8 at2_9 fl de2_10 iD2_11 iO2_12 tU2_13 fm2_25 fk fa2_5 fc ft ff2_14 fb2_16 fi]) H := hP
      have hD : va_D A (List.flatten [bMo g o a 0 hi ac tp ba2_7 en2_8 at2_9 fl de2_10 iD2_11 iO2_12 tU2_13 fm2_25 fk fa2_5 fc ft ff2_14 fb2_16 fi]) := hD
      exact mret_i hx hb hr hlocks hS (Nat.le_of_ble_eq_true rfl) (Nat.le_of_ble_eq_true rfl) dX12_then_64 ((0 : Int32), fm2_25, fa2_5, ba2_7, en2_8, at2_9, de2_10, iD2_11, iO2_12, tU2_13, ff2_14, fb2_16, zBel (zV fm2_15) (fm2_15 3).toInt.toNat) rfl (show (0 ≤ iO2_12.toInt ∧ iO2_12.toInt ≤ 1) ∧ (0 ≤ iD2_11.toInt ∧ iD2_11.toInt ≤ 1) ∧ (rM fa2_5) ∧ (rM fm2_25) ∧ ((0, (zBel (zV fm2_15) (fm2_15 3).toInt.toNat)) = zdThen L n c9 (zM9 fm)) ∧ (fm = fm2_25) from ⟨(by first | assumption | omega | decide), (by first | assumption | omega | decide), (by first | assumption | omega | decide), (by first | assumption | omega | decide), (zdThen_m0 (by omega) (by omega) (by have h9 := hq18_4 3 (by decide); rw [h9]; omega) (zGo_m hq18_3 hq18_4)), (zBackD hq6_1 gk20 hq26_1)⟩) hP hD
    · skip
      have c27 : ¬ c9.toInt = 0 := zne cb9 rfl (by decide)
      refine lv_aload_n hx hb dX12_then_43 rfl (lv_at hl 1 rfl) ?_
      refine va_get (D := g.1) (ci := 10) (v := .ref (a 0)) (C := RX12) (T := TX12) (N := 20) hx hb hts izRX12 hown hK hP 0 rfl rfl 1 (by decide) (hts _ k815) (fun _ h9 => h9) rfl dX12_then_44 ?_
      refine lv_iconst (v := 5) hx hb dX12_then_47 (by decide) ?_
      refine va_iald hx hb hK hP 1 0 rfl rfl (zin rfl) dX12_then_48 ?_
      refine ztop (r := (fm2_15 5)) rfl ?_
      refine lv_goto (tgt := 56) hx hb dX12_then_49 (by decide) ?_
      refine lv_istore (lv' := [(4, .int (fm2_15 5)), (3, .int q_17), (0, .ref o), (1, .int n), (2, .int c9)]) hx hb dX12_then_56 hl (by decide) rfl (fun ls hl => ?_)
      refine lv_aload_n hx hb dX12_then_58 rfl (lv_at hl 2 rfl) ?_
      refine mcallV' (g := g) (q0 := 0) (ci := 10) (As := []) (rest := []) St hK hT hA hP hD hS hl.1 [0] [] rfl rfl rfl (m_comesBack l g o a 0 hi ac tp ba2_7 en2_8 at2_9 fl de2_10 iD2_11 iO2_12 tU2_13 fm2_15 fk fa2_5 fc ft ff2_14 fb2_16 fi rfm2_15 rfa2_5) (cwV 0 hts (zgL (zl4 k984 k985 k986 k839) k973) rfl rfl rfl (by decide +kernel) ⟨Nat.le_of_ble_eq_true rfl, Nat.le_of_ble_eq_true rfl⟩) rfl rfl rfl rfl (Nat.le_of_ble_eq_true rfl) dX12_then_59 ⟨(Nat.le_of_ble_eq_true rfl), (Nat.le_of_ble_eq_true rfl)⟩ (fun fm2_28 H locs hq29 hP hD hS => ?_)
      replace hq29 : (rM fm2_28) ∧ (zCy fm2_15 fm2_28 0 fa2_5 0 379) ∧ ((fm2_28 0).toInt = (fa2_5 0).toInt ∧ (fm2_28 3).toInt = (fa2_5 3).toInt ∧ (fm2_28 4).toInt = (fa2_5 4).toInt) := hq29
      have hP : va_P g.1 vwCl (List.flatten [bMo g o a 0 hi ac tp ba2_7 en2_8 at2_9 fl de2_10 iD2_11 iO2_12 tU2_13 fm2_28 fk fa2_5 fc ft ff2_14 fb2_16 fi]) H := hP
      have hD : va_D A (List.flatten [bMo g o a 0 hi ac tp ba2_7 en2_8 at2_9 fl de2_10 iD2_11 iO2_12 tU2_13 fm2_28 fk fa2_5 fc ft ff2_14 fb2_16 fi]) := hD
      refine W.widen (k := 0) (n := 0) (Nat.le_of_ble_eq_true rfl) (Nat.le_of_ble_eq_true rfl) ?_
      refine W.eq (g2 := F0 m 62 ls []) rfl ?_
      obtain ⟨rfm2_28, hq29_1, hq29_2⟩ := hq29
      refine lv_iload hx hb dX12_then_62 (lv_at hl 0 rfl) ?_
      have hP : va_P g.1 vwCl (List.flatten [bMo g o a 0 hi ac tp ba2_7 en2_8 at2_9 fl de2_10 iD2_11 iO2_12 tU2_13 fm2_28 fk fa2_5 fc ft ff2_14 fb2_16 fi]) H := hP
      have hD : va_D A (List.flatten [bMo g o a 0 hi ac tp ba2_7 en2_8 at2_9 fl de2_10 iD2_11 iO2_12 tU2_13 fm2_28 fk fa2_5 fc ft ff2_14 fb2_16 fi]) := hD
      exact mret_i hx hb hr hlocks hS (Nat.le_of_ble_eq_true rfl) (Nat.le_of_ble_eq_true rfl) dX12_then_64 ((0 : Int32), fm2_28, fa2_5, ba2_7, en2_8, at2_9, de2_10, iD2_11, iO2_12, tU2_13, ff2_14, fb2_16, fm2_15 5) rfl (show (0 ≤ iO2_12.toInt ∧ iO2_12.toInt ≤ 1) ∧ (0 ≤ iD2_11.toInt ∧ iD2_11.toInt ≤ 1) ∧ (rM fa2_5) ∧ (rM fm2_28) ∧ ((0, (fm2_15 5)) = zdThen L n c9 (zM9 fm)) ∧ (fm = fm2_28) from ⟨(by first | assumption | omega | decide), (by first | assumption | omega | decide), (by first | assumption | omega | decide), (by first | assumption | omega | decide), (zdThen_m1 (by omega) (by omega) (zGo_m hq18_3 hq18_4)), (zBackD hq6_1 gk20 hq29_1)⟩) hP hD
  · skip
    refine lv_if_ne (tgt := 15) hx hb dX12_then_8 (by decide) (fun c30 => absurd (by decide) c30) (fun _ => ?_)
    refine lv_iconst (v := 1) hx hb dX12_then_11 (by decide) ?_
    refine lv_goto (tgt := 16) hx hb dX12_then_12 (by decide) ?_
    refine va_put (D := g.1) (ci := 10) (v := .int 1) (ty := .int) (C := RX12) (T := TX12) (N := 20) hx hb hts izRX12 tyX12 tyX12_ok nmX12 hown hK hP hD hS 0 rfl rfl 0 (by decide) (hts _ k825) (fun _ h9 => h9) rfl (by decide +kernel) rfl rfl (Nat.le_of_ble_eq_true rfl) dX12_then_16 (fun H locs hP hD hS => ?_)
    have hP : va_P g.1 vwCl (List.flatten [bMo g o a 1 hi ac tp ba en tA fl de iD iO tU fm fk fa fc ft ff fb fi]) H := hP
    have hD : va_D A (List.flatten [bMo g o a 1 hi ac tp ba en tA fl de iD iO tU fm fk fa fc ft ff fb fi]) := hD
    refine lv_aload_n hx hb dX12_then_19 rfl (lv_at hl 0 rfl) ?_
    refine va_get (D := g.1) (ci := 10) (v := .int 1) (C := RX12) (T := TX12) (N := 20) hx hb hts izRX12 hown hK hP 0 rfl rfl 0 (by decide) (hts _ k825) (fun _ h9 => h9) rfl dX12_then_20 ?_
    refine lv_if_le (tgt := 28) hx hb dX12_then_23 (by decide) (fun c31 => absurd c31 (by decide)) (fun _ => ?_)
    refine lv_iconst (v := 0) hx hb dX12_then_26 (by decide) ?_
    have hP : va_P g.1 vwCl (List.flatten [bMo g o a 1 hi ac tp ba en tA fl de iD iO tU fm fk fa fc ft ff fb fi]) H := hP
    have hD : va_D A (List.flatten [bMo g o a 1 hi ac tp ba en tA fl de iD iO tU fm fk fa fc ft ff fb fi]) := hD
    exact mret_i hx hb hr hlocks hS (Nat.le_of_ble_eq_true rfl) (Nat.le_of_ble_eq_true rfl) dX12_then_27 ((1 : Int32), fm, fa, ba, en, tA, de, iD, iO, tU, ff, fb, (0 : Int32)) rfl (show (0 ≤ iO.toInt ∧ iO.toInt ≤ 1) ∧ (0 ≤ iD.toInt ∧ iD.toInt ≤ 1) ∧ (rM fa) ∧ (rM fm) ∧ ((1, 0) = zdThen L n c9 (zM9 fm)) ∧ (fm = fm) from ⟨(by first | assumption | omega | decide), (by first | assumption | omega | decide), (by first | assumption | omega | decide), (by first | assumption | omega | decide), (zdThen_1 (by omega)), rfl⟩) hP hD
set_option maxRecDepth 100000 in
set_option maxHeartbeats 4000000 in
theorem m_trialC (l : Launch) (g : zG) (o : Nat) (a : Nat → Nat) (th : Int32) (hi : Int32) (ac : Int32) (tp : Int32) (ba : Int32) (en : Int32) (tA : Int32) (fl : Int32) (de : Int32) (iD : Int32) (iO : Int32) (tU : Int32) (fm : Nat → Int32) (fk : Nat → Int32) (fa : Nat → Int32) (fc : Nat → Int32) (ft : Nat → Int32) (ff : Nat → Int32) (fb : Nat → Int32) (fi : Nat → Int32) (n : Int32) (c9 : Int32) (L : zLw) (rfm : rM fm) (rfa : rM fa) (hiD : 0 ≤ iD.toInt ∧ iD.toInt ≤ 1) (hiO : 0 ≤ iO.toInt ∧ iO.toInt ≤ 1) (hrg : zRg (zV fm)) (hL : zLm L fm) : zM' g l yX12_trial (Cond.code yX12_trial cX12_trial 5 (some .int) :: zB) ({ frames := 33, cells := 0, slots := 0, locals := 736 } : Room) [.ref o, .int n, .int c9] [bMo g o a th hi ac tp ba en tA fl de iD iO tU fm fk fa fc ft ff fb fi] (fun u : Int32 × (Nat → Int32) × (Nat → Int32) × Int32 × Int32 × Int32 × Int32 × Int32 × Int32 × Int32 × (Nat → Int32) × (Nat → Int32) × Int32 => (fun (th2 : Int32) (fm2 : Nat → Int32) (fa2 : Nat → Int32) (ba2 : Int32) (en2 : Int32) (at2 : Int32) (de2 : Int32) (iD2 : Int32) (iO2 : Int32) (tU2 : Int32) (ff2 : Nat → Int32) (fb2 : Nat → Int32) (q : Int32) => some (.int q)) (u.1) (u.2.1) (u.2.2.1) (u.2.2.2.1) (u.2.2.2.2.1) (u.2.2.2.2.2.1) (u.2.2.2.2.2.2.1) (u.2.2.2.2.2.2.2.1) (u.2.2.2.2.2.2.2.2.1) (u.2.2.2.2.2.2.2.2.2.1) (u.2.2.2.2.2.2.2.2.2.2.1) (u.2.2.2.2.2.2.2.2.2.2.2.1) (u.2.2.2.2.2.2.2.2.2.2.2.2)) (fun u : Int32 × (Nat → Int32) × (Nat → Int32) × Int32 × Int32 × Int32 × Int32 × Int32 × Int32 × Int32 × (Nat → Int32) × (Nat → Int32) × Int32 => (fun (th2 : Int32) (fm2 : Nat → Int32) (fa2 : Nat → Int32) (ba2 : Int32) (en2 : Int32) (at2 : Int32) (de2 : Int32) (iD2 : Int32) (iO2 : Int32) (tU2 : Int32) (ff2 : Nat → Int32) (fb2 : Nat → Int32) (q : Int32) => (0 ≤ iO2.toInt ∧ iO2.toInt ≤ 1) ∧ (0 ≤ iD2.toInt ∧ iD2.toInt ≤ 1) ∧ (rM fa2) ∧ (rM fm2) ∧ ((th2, q) = zdTrial L n c9 (zM9 fm)) ∧ (fm = fm2)) (u.1) (u.2.1) (u.2.2.1) (u.2.2.2.1) (u.2.2.2.2.1) (u.2.2.2.2.2.1) (u.2.2.2.2.2.2.1) (u.2.2.2.2.2.2.2.1) (u.2.2.2.2.2.2.2.2.1) (u.2.2.2.2.2.2.2.2.2.1) (u.2.2.2.2.2.2.2.2.2.2.1) (u.2.2.2.2.2.2.2.2.2.2.2.1) (u.2.2.2.2.2.2.2.2.2.2.2.2)) (fun u : Int32 × (Nat → Int32) × (Nat → Int32) × Int32 × Int32 × Int32 × Int32 × Int32 × Int32 × Int32 × (Nat → Int32) × (Nat → Int32) × Int32 => (fun (th2 : Int32) (fm2 : Nat → Int32) (fa2 : Nat → Int32) (ba2 : Int32) (en2 : Int32) (at2 : Int32) (de2 : Int32) (iD2 : Int32) (iO2 : Int32) (tU2 : Int32) (ff2 : Nat → Int32) (fb2 : Nat → Int32) (q : Int32) => [bMo g o a th2 hi ac tp ba2 en2 at2 fl de2 iD2 iO2 tU2 fm2 fk fa2 fc ft ff2 fb2 fi]) (u.1) (u.2.1) (u.2.2.1) (u.2.2.2.1) (u.2.2.2.2.1) (u.2.2.2.2.2.1) (u.2.2.2.2.2.2.1) (u.2.2.2.2.2.2.2.1) (u.2.2.2.2.2.2.2.2.1) (u.2.2.2.2.2.2.2.2.2.1) (u.2.2.2.2.2.2.2.2.2.2.1) (u.2.2.2.2.2.2.2.2.2.2.2.1) (u.2.2.2.2.2.2.2.2.2.2.2.2)) := by
  refine zM'.of (cc := cX12_trial) (maxL := 5) (rt := (some .int)) (by decide) rfl (Nat.le_of_ble_eq_true rfl) ?_
  intro p e s m args below meth c A ls St hr hlocks hin hK hT hA hP hD hS hl
  obtain ⟨hx, hb, hml, hown, hts⟩ := id St
  have hl : lv_has ls 5 [(0, .ref o), (1, .int n), (2, .int c9)] := hl
  have hrm3 := rM3 rfm
  have hrm4 := rM4 rfm
  refine lv_aload_n hx hb dX12_trial_0 rfl (lv_at hl 0 rfl) ?_
  refine lv_iload_n hx hb dX12_trial_1 rfl (lv_at hl 1 rfl) ?_
  refine lv_iconst (v := 0) hx hb dX12_trial_2 (by decide) ?_
  refine lv_bipush (v := 60) hx hb dX12_trial_3 (by decide) ?_
  have hL0 : (0 : Int32).toInt = 0 := by decide
  have hL60 : (60 : Int32).toInt = 60 := by decide
  refine mcallS' (g := g) (As := [.int n, .int 0, .int 60]) (rest := [.ref o]) St hK hT hA hP hD hS hl.1 [] [0] rfl rfl rfl (m_isIn l g n 0 60 ) (va_cwS 3 hts (zgL (zl3 k837 k838 k839) k826) rfl rfl rfl (by decide +kernel) ⟨Nat.le_of_ble_eq_true rfl, Nat.le_of_ble_eq_true rfl⟩) rfl rfl (Nat.le_of_ble_eq_true rfl) dX12_trial_5 ⟨(Nat.le_of_ble_eq_true rfl), (Nat.le_of_ble_eq_true rfl)⟩ (fun q_1 H locs hq2 hP hD hS => ?_)
  replace hq2 : (q_1 = 1 ∧ (0 : Int32).toInt ≤ n.toInt ∧ n.toInt ≤ (60 : Int32).toInt ∨ q_1 = 0 ∧ (n.toInt < (0 : Int32).toInt ∨ (60 : Int32).toInt < n.toInt)) := hq2
  have hP : va_P g.1 vwCl (List.flatten [bMo g o a th hi ac tp ba en tA fl de iD iO tU fm fk fa fc ft ff fb fi]) H := hP
  have hD : va_D A (List.flatten [bMo g o a th hi ac tp ba en tA fl de iD iO tU fm fk fa fc ft ff fb fi]) := hD
  refine W.widen (k := 0) (n := 0) (Nat.le_of_ble_eq_true rfl) (Nat.le_of_ble_eq_true rfl) ?_
  refine W.eq (g2 := F0 m 8 ls [.int q_1, .ref o]) rfl ?_
  rcases hq2 with ⟨rfl, hq2_k⟩ | ⟨rfl, hq2_k⟩
  · skip
    refine lv_if_ne (tgt := 15) hx hb dX12_trial_8 (by decide) (fun _ => ?_) (fun c3 => absurd c3 (by decide))
    refine lv_iconst (v := 0) hx hb dX12_trial_15 (by decide) ?_
    refine va_put (D := g.1) (ci := 10) (v := .int 0) (ty := .int) (C := RX12) (T := TX12) (N := 20) hx hb hts izRX12 tyX12 tyX12_ok nmX12 hown hK hP hD hS 0 rfl rfl 0 (by decide) (hts _ k825) (fun _ h9 => h9) rfl (by decide +kernel) rfl rfl (Nat.le_of_ble_eq_true rfl) dX12_trial_16 (fun H locs hP hD hS => ?_)
    have hP : va_P g.1 vwCl (List.flatten [bMo g o a 0 hi ac tp ba en tA fl de iD iO tU fm fk fa fc ft ff fb fi]) H := hP
    have hD : va_D A (List.flatten [bMo g o a 0 hi ac tp ba en tA fl de iD iO tU fm fk fa fc ft ff fb fi]) := hD
    refine lv_aload_n hx hb dX12_trial_19 rfl (lv_at hl 0 rfl) ?_
    refine va_get (D := g.1) (ci := 10) (v := .int 0) (C := RX12) (T := TX12) (N := 20) hx hb hts izRX12 hown hK hP 0 rfl rfl 0 (by decide) (hts _ k825) (fun _ h9 => h9) rfl dX12_trial_20 ?_
    refine lv_if_le (tgt := 28) hx hb dX12_trial_23 (by decide) (fun _ => ?_) (fun c4 => absurd (by decide) c4)
    refine lv_aload_n hx hb dX12_trial_28 rfl (lv_at hl 0 rfl) ?_
    refine mcallV' (g := g) (q0 := 0) (ci := 10) (As := []) (rest := []) St hK hT hA hP hD hS hl.1 [0] [] rfl rfl rfl (m_putsAside l g o a 0 hi ac tp ba en tA fl de iD iO tU fm fk fa fc ft ff fb fi rfm rfa) (cwV 0 hts (zgL (zl4 k975 k976 k977 k839) k972) rfl rfl rfl (by decide +kernel) ⟨Nat.le_of_ble_eq_true rfl, Nat.le_of_ble_eq_true rfl⟩) rfl rfl rfl rfl (Nat.le_of_ble_eq_true rfl) dX12_trial_29 ⟨(Nat.le_of_ble_eq_true rfl), (Nat.le_of_ble_eq_true rfl)⟩ (fun fa2_5 H locs hq6 hP hD hS => ?_)
    replace hq6 : (rM fa2_5) ∧ (zCy fa fa2_5 0 fm 0 379) ∧ ((fa2_5 0).toInt = (fm 0).toInt ∧ (fa2_5 3).toInt = (fm 3).toInt ∧ (fa2_5 4).toInt = (fm 4).toInt) := hq6
    have hP : va_P g.1 vwCl (List.flatten [bMo g o a 0 hi ac tp ba en tA fl de iD iO tU fm fk fa2_5 fc ft ff fb fi]) H := hP
    have hD : va_D A (List.flatten [bMo g o a 0 hi ac tp ba en tA fl de iD iO tU fm fk fa2_5 fc ft ff fb fi]) := hD
    refine W.widen (k := 0) (n := 0) (Nat.le_of_ble_eq_true rfl) (Nat.le_of_ble_eq_true rfl) ?_
    refine W.eq (g2 := F0 m 32 ls []) rfl ?_
    obtain ⟨rfa2_5, hq6_1, hq6_2⟩ := hq6
    refine lv_aload_n hx hb dX12_trial_32 rfl (lv_at hl 0 rfl) ?_
    refine lv_iload_n hx hb dX12_trial_33 rfl (lv_at hl 1 rfl) ?_
    refine lv_iconst (v := 1) hx hb dX12_trial_34 (by decide) ?_
    refine mcallV' (g := g) (q0 := 0) (ci := 10) (As := [.int n, .int 1]) (rest := []) St hK hT hA hP hD hS hl.1 [0] [] rfl rfl rfl (m_goes1G l g o a 0 hi ac tp ba en tA fl de iD iO tU fm fk fa2_5 fc ft ff fb fi n L rfm (by first | assumption | omega | decide) (by first | assumption | omega | decide) (by first | assumption | omega | decide) hrg (zLm_k hL (zGk_r _))) (cwV 2 hts (zgL (zl4 k1057 k1058 k1059 k839) k1028) rfl rfl rfl (by decide +kernel) ⟨Nat.le_of_ble_eq_true rfl, Nat.le_of_ble_eq_true rfl⟩) rfl rfl rfl rfl (Nat.le_of_ble_eq_true rfl) dX12_trial_35 ⟨(Nat.le_of_ble_eq_true rfl), (Nat.le_of_ble_eq_true rfl)⟩ (fun u_ H locs hq18 hP hD hS => ?_)
    obtain ⟨ba2_7, en2_8, at2_9, de2_10, iD2_11, iO2_12, tU2_13, ff2_14, fm2_15, fb2_16, q_17⟩ := u_
    replace hq18 : (rM fm2_15) ∧ (0 ≤ iO2_12.toInt ∧ iO2_12.toInt ≤ 1) ∧ (0 ≤ iD2_11.toInt ∧ iD2_11.toInt ≤ 1) ∧ (zNR ((fm2_15 5, fm2_15 8, fm2_15 10, zV fm2_15), q_17) (zNds L (fm 3).toInt.toNat (fm 4).toInt.toNat (fm 7) 1 n.toInt.toNat (fm 5, fm 8, fm 10, zV fm))) ∧ (zGk fm fm2_15) := hq18
    have hP : va_P g.1 vwCl (List.flatten [bMo g o a 0 hi ac tp ba2_7 en2_8 at2_9 fl de2_10 iD2_11 iO2_12 tU2_13 fm2_15 fk fa2_5 fc ft ff2_14 fb2_16 fi]) H := hP
    have hD : va_D A (List.flatten [bMo g o a 0 hi ac tp ba2_7 en2_8 at2_9 fl de2_10 iD2_11 iO2_12 tU2_13 fm2_15 fk fa2_5 fc ft ff2_14 fb2_16 fi]) := hD
    refine W.widen (k := 0) (n := 0) (Nat.le_of_ble_eq_true rfl) (Nat.le_of_ble_eq_true rfl) ?_
    refine W.eq (g2 := F0 m 38 ls [.int q_17]) rfl ?_
    obtain ⟨rfm2_15, hq18_1, hq18_2, hq18_3, hq18_4⟩ := hq18
    have rg19 : zRg (zV fm2_15) := zRg_go hq18_3 hrg
    have gk20 : zGk fm fm2_15 := zGk_t (zGk_r _) hq18_4
    refine lv_istore_n (lv' := [(3, .int q_17), (0, .ref o), (1, .int n), (2, .int c9)]) hx hb dX12_trial_38 rfl hl (by decide) rfl (fun ls hl => ?_)
    refine lv_iload_n hx hb dX12_trial_39 rfl (lv_at hl 3 rfl) ?_
    refine lv_if_eq (tgt := 52) hx hb dX12_trial_40 (by decide) (fun cb9 => ?_) (fun cb9 => ?_)
    · skip
      have c21 : c9.toInt = 0 := zeq cb9 rfl (by decide)
      have n22 : 0 ≤ c9.toInt := Int.le_trans (Int.le_refl _) (Int.le_of_eq c21.symm)
      have n23 : c9.toInt ≤ 0 := Int.le_trans (Int.le_of_eq c21) (Int.le_refl _)
      refine lv_aload_n hx hb dX12_trial_52 rfl (lv_at hl 1 rfl) ?_
      refine mcallV' (g := g) (q0 := 0) (ci := 10) (As := []) (rest := []) St hK hT hA hP hD hS hl.1 [0] [] rfl rfl rfl (m_believedG l g o a 0 hi ac tp ba2_7 en2_8 at2_9 fl de2_10 iD2_11 iO2_12 tU2_13 fm2_15 fk fa2_5 fc ft ff2_14 fb2_16 fi rfm2_15) (cwV 0 hts (zgL (zl4 k856 k857 k858 k839) k849) rfl rfl rfl (by decide +kernel) ⟨Nat.le_of_ble_eq_true rfl, Nat.le_of_ble_eq_true rfl⟩) rfl rfl rfl rfl (Nat.le_of_ble_eq_true rfl) dX12_trial_53 ⟨(Nat.le_of_ble_eq_true rfl), (Nat.le_of_ble_eq_true rfl)⟩ (fun _u H locs hq24 hP hD hS => ?_)
      have hP : va_P g.1 vwCl (List.flatten [bMo g o a 0 hi ac tp ba2_7 en2_8 at2_9 fl de2_10 iD2_11 iO2_12 tU2_13 fm2_15 fk fa2_5 fc ft ff2_14 fb2_16 fi]) H := hP
      have hD : va_D A (List.flatten [bMo g o a 0 hi ac tp ba2_7 en2_8 at2_9 fl de2_10 iD2_11 iO2_12 tU2_13 fm2_15 fk fa2_5 fc ft ff2_14 fb2_16 fi]) := hD
      refine W.widen (k := 0) (n := 0) (Nat.le_of_ble_eq_true rfl) (Nat.le_of_ble_eq_true rfl) ?_
      refine W.eq (g2 := F0 m 56 ls [.int (zBel (zV fm2_15) (fm2_15 3).toInt.toNat)]) rfl ?_
      refine lv_istore (lv' := [(4, .int (zBel (zV fm2_15) (fm2_15 3).toInt.toNat)), (3, .int q_17), (0, .ref o), (1, .int n), (2, .int c9)]) hx hb dX12_trial_56 hl (by decide) rfl (fun ls hl => ?_)
      refine lv_aload_n hx hb dX12_trial_58 rfl (lv_at hl 2 rfl) ?_
      refine mcallV' (g := g) (q0 := 0) (ci := 10) (As := []) (rest := []) St hK hT hA hP hD hS hl.1 [0] [] rfl rfl rfl (m_comesBack l g o a 0 hi ac tp ba2_7 en2_8 at2_9 fl de2_10 iD2_11 iO2_12 tU2_13 fm2_15 fk fa2_5 fc ft ff2_14 fb2_16 fi rfm2_15 rfa2_5) (cwV 0 hts (zgL (zl4 k984 k985 k986 k839) k973) rfl rfl rfl (by decide +kernel) ⟨Nat.le_of_ble_eq_true rfl, Nat.le_of_ble_eq_true rfl⟩) rfl rfl rfl rfl (Nat.le_of_ble_eq_true rfl) dX12_trial_59 ⟨(Nat.le_of_ble_eq_true rfl), (Nat.le_of_ble_eq_true rfl)⟩ (fun fm2_25 H locs hq26 hP hD hS => ?_)
      replace hq26 : (rM fm2_25) ∧ (zCy fm2_15 fm2_25 0 fa2_5 0 379) ∧ ((fm2_25 0).toInt = (fa2_5 0).toInt ∧ (fm2_25 3).toInt = (fa2_5 3).toInt ∧ (fm2_25 4).toInt = (fa2_5 4).toInt) := hq26
      have hP : va_P g.1 vwCl (List.flatten [bMo g o a 0 hi ac tp ba2_7 en2_8 at2_9 fl de2_10 iD2_11 iO2_12 tU2_13 fm2_25 fk fa2_5 fc ft ff2_14 fb2_16 fi]) H := hP
      have hD : va_D A (List.flatten [bMo g o a 0 hi ac tp ba2_7 en2_8 at2_9 fl de2_10 iD2_11 iO2_12 tU2_13 fm2_25 fk fa2_5 fc ft ff2_14 fb2_16 fi]) := hD
      refine W.widen (k := 0) (n := 0) (Nat.le_of_ble_eq_true rfl) (Nat.le_of_ble_eq_true rfl) ?_
      refine W.eq (g2 := F0 m 62 ls []) rfl ?_
      obtain ⟨rfm2_25, hq26_1, hq26_2⟩ := hq26
      refine lv_iload hx hb dX12_trial_62 (lv_at hl 0 rfl) ?_
      have hP : va_P g.1 vwCl (List.flatten [bMo g o a 0 hi ac tp ba2_7 en2_8 at2_9 fl de2_10 iD2_11 iO2_12 tU2_13 fm2_25 fk fa2_5 fc ft ff2_14 fb2_16 fi]) H := hP
      have hD : va_D A (List.flatten [bMo g o a 0 hi ac tp ba2_7 en2_8 at2_9 fl de2_10 iD2_11 iO2_12 tU2_13 fm2_25 fk fa2_5 fc ft ff2_14 fb2_16 fi]) := hD
      exact mret_i hx hb hr hlocks hS (Nat.le_of_ble_eq_true rfl) (Nat.le_of_ble_eq_true rfl) dX12_trial_64 ((0 : Int32), fm2_25, fa2_5, ba2_7, en2_8, at2_9, de2_10, iD2_11, iO2_12, tU2_13, ff2_14, fb2_16, zBel (zV fm2_15) (fm2_15 3).toInt.toNat) rfl (show (0 ≤ iO2_12.toInt ∧ iO2_12.toInt ≤ 1) ∧ (0 ≤ iD2_11.toInt ∧ iD2_11.toInt ≤ 1) ∧ (rM fa2_5) ∧ (rM fm2_25) ∧ ((0, (zBel (zV fm2_15) (fm2_15 3).toInt.toNat)) = zdTrial L n c9 (zM9 fm)) ∧ (fm = fm2_25) from ⟨(by first | assumption | omega | decide), (by first | assumption | omega | decide), (by first | assumption | omega | decide), (by first | assumption | omega | decide), (zdTrial_m0 (by omega) (by omega) (by have h9 := hq18_4 3 (by decide); rw [h9]; omega) (zGo_m hq18_3 hq18_4)), (zBackD hq6_1 gk20 hq26_1)⟩) hP hD
    · skip
      have c27 : ¬ c9.toInt = 0 := zne cb9 rfl (by decide)
      refine lv_aload_n hx hb dX12_trial_43 rfl (lv_at hl 1 rfl) ?_
      refine va_get (D := g.1) (ci := 10) (v := .ref (a 0)) (C := RX12) (T := TX12) (N := 20) hx hb hts izRX12 hown hK hP 0 rfl rfl 1 (by decide) (hts _ k815) (fun _ h9 => h9) rfl dX12_trial_44 ?_
      refine lv_iconst (v := 5) hx hb dX12_trial_47 (by decide) ?_
      refine va_iald hx hb hK hP 1 0 rfl rfl (zin rfl) dX12_trial_48 ?_
      refine ztop (r := (fm2_15 5)) rfl ?_
      refine lv_goto (tgt := 56) hx hb dX12_trial_49 (by decide) ?_
      refine lv_istore (lv' := [(4, .int (fm2_15 5)), (3, .int q_17), (0, .ref o), (1, .int n), (2, .int c9)]) hx hb dX12_trial_56 hl (by decide) rfl (fun ls hl => ?_)
      refine lv_aload_n hx hb dX12_trial_58 rfl (lv_at hl 2 rfl) ?_
      refine mcallV' (g := g) (q0 := 0) (ci := 10) (As := []) (rest := []) St hK hT hA hP hD hS hl.1 [0] [] rfl rfl rfl (m_comesBack l g o a 0 hi ac tp ba2_7 en2_8 at2_9 fl de2_10 iD2_11 iO2_12 tU2_13 fm2_15 fk fa2_5 fc ft ff2_14 fb2_16 fi rfm2_15 rfa2_5) (cwV 0 hts (zgL (zl4 k984 k985 k986 k839) k973) rfl rfl rfl (by decide +kernel) ⟨Nat.le_of_ble_eq_true rfl, Nat.le_of_ble_eq_true rfl⟩) rfl rfl rfl rfl (Nat.le_of_ble_eq_true rfl) dX12_trial_59 ⟨(Nat.le_of_ble_eq_true rfl), (Nat.le_of_ble_eq_true rfl)⟩ (fun fm2_28 H locs hq29 hP hD hS => ?_)
      replace hq29 : (rM fm2_28) ∧ (zCy fm2_15 fm2_28 0 fa2_5 0 379) ∧ ((fm2_28 0).toInt = (fa2_5 0).toInt ∧ (fm2_28 3).toInt = (fa2_5 3).toInt ∧ (fm2_28 4).toInt = (fa2_5 4).toInt) := hq29
      have hP : va_P g.1 vwCl (List.flatten [bMo g o a 0 hi ac tp ba2_7 en2_8 at2_9 fl de2_10 iD2_11 iO2_12 tU2_13 fm2_28 fk fa2_5 fc ft ff2_14 fb2_16 fi]) H := hP
      have hD : va_D A (List.flatten [bMo g o a 0 hi ac tp ba2_7 en2_8 at2_9 fl de2_10 iD2_11 iO2_12 tU2_13 fm2_28 fk fa2_5 fc ft ff2_14 fb2_16 fi]) := hD
      refine W.widen (k := 0) (n := 0) (Nat.le_of_ble_eq_true rfl) (Nat.le_of_ble_eq_true rfl) ?_
      refine W.eq (g2 := F0 m 62 ls []) rfl ?_
      obtain ⟨rfm2_28, hq29_1, hq29_2⟩ := hq29
      refine lv_iload hx hb dX12_trial_62 (lv_at hl 0 rfl) ?_
      have hP : va_P g.1 vwCl (List.flatten [bMo g o a 0 hi ac tp ba2_7 en2_8 at2_9 fl de2_10 iD2_11 iO2_12 tU2_13 fm2_28 fk fa2_5 fc ft ff2_14 fb2_16 fi]) H := hP
      have hD : va_D A (List.flatten [bMo g o a 0 hi ac tp ba2_7 en2_8 at2_9 fl de2_10 iD2_11 iO2_12 tU2_13 fm2_28 fk fa2_5 fc ft ff2_14 fb2_16 fi]) := hD
      exact mret_i hx hb hr hlocks hS (Nat.le_of_ble_eq_true rfl) (Nat.le_of_ble_eq_true rfl) dX12_trial_64 ((0 : Int32), fm2_28, fa2_5, ba2_7, en2_8, at2_9, de2_10, iD2_11, iO2_12, tU2_13, ff2_14, fb2_16, fm2_15 5) rfl (show (0 ≤ iO2_12.toInt ∧ iO2_12.toInt ≤ 1) ∧ (0 ≤ iD2_11.toInt ∧ iD2_11.toInt ≤ 1) ∧ (rM fa2_5) ∧ (rM fm2_28) ∧ ((0, (fm2_15 5)) = zdTrial L n c9 (zM9 fm)) ∧ (fm = fm2_28) from ⟨(by first | assumption | omega | decide), (by first | assumption | omega | decide), (by first | assumption | omega | decide), (by first | assumption | omega | decide), (zdTrial_m1 (by omega) (by omega) (zGo_m hq18_3 hq18_4)), (zBackD hq6_1 gk20 hq29_1)⟩) hP hD
  · skip
    refine lv_if_ne (tgt := 15) hx hb dX12_trial_8 (by decide) (fun c30 => absurd (by decide) c30) (fun _ => ?_)
    refine lv_iconst (v := 1) hx hb dX12_trial_11 (by decide) ?_
    refine lv_goto (tgt := 16) hx hb dX12_trial_12 (by decide) ?_
    refine va_put (D := g.1) (ci := 10) (v := .int 1) (ty := .int) (C := RX12) (T := TX12) (N := 20) hx hb hts izRX12 tyX12 tyX12_ok nmX12 hown hK hP hD hS 0 rfl rfl 0 (by decide) (hts _ k825) (fun _ h9 => h9) rfl (by decide +kernel) rfl rfl (Nat.le_of_ble_eq_true rfl) dX12_trial_16 (fun H locs hP hD hS => ?_)
    have hP : va_P g.1 vwCl (List.flatten [bMo g o a 1 hi ac tp ba en tA fl de iD iO tU fm fk fa fc ft ff fb fi]) H := hP
    have hD : va_D A (List.flatten [bMo g o a 1 hi ac tp ba en tA fl de iD iO tU fm fk fa fc ft ff fb fi]) := hD
    refine lv_aload_n hx hb dX12_trial_19 rfl (lv_at hl 0 rfl) ?_
    refine va_get (D := g.1) (ci := 10) (v := .int 1) (C := RX12) (T := TX12) (N := 20) hx hb hts izRX12 hown hK hP 0 rfl rfl 0 (by decide) (hts _ k825) (fun _ h9 => h9) rfl dX12_trial_20 ?_
    refine lv_if_le (tgt := 28) hx hb dX12_trial_23 (by decide) (fun c31 => absurd c31 (by decide)) (fun _ => ?_)
    refine lv_iconst (v := 0) hx hb dX12_trial_26 (by decide) ?_
    have hP : va_P g.1 vwCl (List.flatten [bMo g o a 1 hi ac tp ba en tA fl de iD iO tU fm fk fa fc ft ff fb fi]) H := hP
    have hD : va_D A (List.flatten [bMo g o a 1 hi ac tp ba en tA fl de iD iO tU fm fk fa fc ft ff fb fi]) := hD
    exact mret_i hx hb hr hlocks hS (Nat.le_of_ble_eq_true rfl) (Nat.le_of_ble_eq_true rfl) dX12_trial_27 ((1 : Int32), fm, fa, ba, en, tA, de, iD, iO, tU, ff, fb, (0 : Int32)) rfl (show (0 ≤ iO.toInt ∧ iO.toInt ≤ 1) ∧ (0 ≤ iD.toInt ∧ iD.toInt ≤ 1) ∧ (rM fa) ∧ (rM fm) ∧ ((1, 0) = zdTrial L n c9 (zM9 fm)) ∧ (fm = fm) from ⟨(by first | assumption | omega | decide), (by first | assumption | omega | decide), (by first | assumption | omega | decide), (by first | assumption | omega | decide), (zdTrial_1 (by omega)), rfl⟩) hP hD
set_option maxRecDepth 100000 in
set_option maxHeartbeats 4000000 in
theorem m_fallsC (l : Launch) (g : zG) (o : Nat) (a : Nat → Nat) (th : Int32) (hi : Int32) (ac : Int32) (tp : Int32) (ba : Int32) (en : Int32) (tA : Int32) (fl : Int32) (de : Int32) (iD : Int32) (iO : Int32) (tU : Int32) (fm : Nat → Int32) (fk : Nat → Int32) (fa : Nat → Int32) (fc : Nat → Int32) (ft : Nat → Int32) (ff : Nat → Int32) (fb : Nat → Int32) (fi : Nat → Int32) (n : Int32) (L : zLw) (rfm : rM fm) (rfa : rM fa) (hiD : 0 ≤ iD.toInt ∧ iD.toInt ≤ 1) (hiO : 0 ≤ iO.toInt ∧ iO.toInt ≤ 1) (hrg : zRg (zV fm)) (hL : zLm L fm) : zM' g l yX12_falls (Cond.code yX12_falls cX12_falls 5 (some .int) :: zB) ({ frames := 33, cells := 0, slots := 0, locals := 736 } : Room) [.ref o, .int n] [bMo g o a th hi ac tp ba en tA fl de iD iO tU fm fk fa fc ft ff fb fi] (fun u : Int32 × (Nat → Int32) × (Nat → Int32) × Int32 × Int32 × Int32 × Int32 × Int32 × Int32 × Int32 × (Nat → Int32) × (Nat → Int32) × Int32 => (fun (th2 : Int32) (fm2 : Nat → Int32) (fa2 : Nat → Int32) (ba2 : Int32) (en2 : Int32) (at2 : Int32) (de2 : Int32) (iD2 : Int32) (iO2 : Int32) (tU2 : Int32) (ff2 : Nat → Int32) (fb2 : Nat → Int32) (q : Int32) => some (.int q)) (u.1) (u.2.1) (u.2.2.1) (u.2.2.2.1) (u.2.2.2.2.1) (u.2.2.2.2.2.1) (u.2.2.2.2.2.2.1) (u.2.2.2.2.2.2.2.1) (u.2.2.2.2.2.2.2.2.1) (u.2.2.2.2.2.2.2.2.2.1) (u.2.2.2.2.2.2.2.2.2.2.1) (u.2.2.2.2.2.2.2.2.2.2.2.1) (u.2.2.2.2.2.2.2.2.2.2.2.2)) (fun u : Int32 × (Nat → Int32) × (Nat → Int32) × Int32 × Int32 × Int32 × Int32 × Int32 × Int32 × Int32 × (Nat → Int32) × (Nat → Int32) × Int32 => (fun (th2 : Int32) (fm2 : Nat → Int32) (fa2 : Nat → Int32) (ba2 : Int32) (en2 : Int32) (at2 : Int32) (de2 : Int32) (iD2 : Int32) (iO2 : Int32) (tU2 : Int32) (ff2 : Nat → Int32) (fb2 : Nat → Int32) (q : Int32) => (0 ≤ iO2.toInt ∧ iO2.toInt ≤ 1) ∧ (0 ≤ iD2.toInt ∧ iD2.toInt ≤ 1) ∧ (rM fa2) ∧ (rM fm2) ∧ ((th2, q) = zdFalls L n (zM9 fm)) ∧ (fm = fm2)) (u.1) (u.2.1) (u.2.2.1) (u.2.2.2.1) (u.2.2.2.2.1) (u.2.2.2.2.2.1) (u.2.2.2.2.2.2.1) (u.2.2.2.2.2.2.2.1) (u.2.2.2.2.2.2.2.2.1) (u.2.2.2.2.2.2.2.2.2.1) (u.2.2.2.2.2.2.2.2.2.2.1) (u.2.2.2.2.2.2.2.2.2.2.2.1) (u.2.2.2.2.2.2.2.2.2.2.2.2)) (fun u : Int32 × (Nat → Int32) × (Nat → Int32) × Int32 × Int32 × Int32 × Int32 × Int32 × Int32 × Int32 × (Nat → Int32) × (Nat → Int32) × Int32 => (fun (th2 : Int32) (fm2 : Nat → Int32) (fa2 : Nat → Int32) (ba2 : Int32) (en2 : Int32) (at2 : Int32) (de2 : Int32) (iD2 : Int32) (iO2 : Int32) (tU2 : Int32) (ff2 : Nat → Int32) (fb2 : Nat → Int32) (q : Int32) => [bMo g o a th2 hi ac tp ba2 en2 at2 fl de2 iD2 iO2 tU2 fm2 fk fa2 fc ft ff2 fb2 fi]) (u.1) (u.2.1) (u.2.2.1) (u.2.2.2.1) (u.2.2.2.2.1) (u.2.2.2.2.2.1) (u.2.2.2.2.2.2.1) (u.2.2.2.2.2.2.2.1) (u.2.2.2.2.2.2.2.2.1) (u.2.2.2.2.2.2.2.2.2.1) (u.2.2.2.2.2.2.2.2.2.2.1) (u.2.2.2.2.2.2.2.2.2.2.2.1) (u.2.2.2.2.2.2.2.2.2.2.2.2)) := by
  refine zM'.of (cc := cX12_falls) (maxL := 5) (rt := (some .int)) (by decide) rfl (Nat.le_of_ble_eq_true rfl) ?_
  intro p e s m args below meth c A ls St hr hlocks hin hK hT hA hP hD hS hl
  obtain ⟨hx, hb, hml, hown, hts⟩ := id St
  have hl : lv_has ls 5 [(0, .ref o), (1, .int n)] := hl
  have hrm3 := rM3 rfm
  have hrm4 := rM4 rfm
  refine lv_aload_n hx hb dX12_falls_0 rfl (lv_at hl 0 rfl) ?_
  refine lv_iload_n hx hb dX12_falls_1 rfl (lv_at hl 1 rfl) ?_
  refine lv_iconst (v := 0) hx hb dX12_falls_2 (by decide) ?_
  refine lv_bipush (v := 100) hx hb dX12_falls_3 (by decide) ?_
  have hL0 : (0 : Int32).toInt = 0 := by decide
  have hL100 : (100 : Int32).toInt = 100 := by decide
  refine mcallS' (g := g) (As := [.int n, .int 0, .int 100]) (rest := [.ref o]) St hK hT hA hP hD hS hl.1 [] [0] rfl rfl rfl (m_isIn l g n 0 100 ) (va_cwS 3 hts (zgL (zl3 k837 k838 k839) k826) rfl rfl rfl (by decide +kernel) ⟨Nat.le_of_ble_eq_true rfl, Nat.le_of_ble_eq_true rfl⟩) rfl rfl (Nat.le_of_ble_eq_true rfl) dX12_falls_5 ⟨(Nat.le_of_ble_eq_true rfl), (Nat.le_of_ble_eq_true rfl)⟩ (fun q_1 H locs hq2 hP hD hS => ?_)
  replace hq2 : (q_1 = 1 ∧ (0 : Int32).toInt ≤ n.toInt ∧ n.toInt ≤ (100 : Int32).toInt ∨ q_1 = 0 ∧ (n.toInt < (0 : Int32).toInt ∨ (100 : Int32).toInt < n.toInt)) := hq2
  have hP : va_P g.1 vwCl (List.flatten [bMo g o a th hi ac tp ba en tA fl de iD iO tU fm fk fa fc ft ff fb fi]) H := hP
  have hD : va_D A (List.flatten [bMo g o a th hi ac tp ba en tA fl de iD iO tU fm fk fa fc ft ff fb fi]) := hD
  refine W.widen (k := 0) (n := 0) (Nat.le_of_ble_eq_true rfl) (Nat.le_of_ble_eq_true rfl) ?_
  refine W.eq (g2 := F0 m 8 ls [.int q_1, .ref o]) rfl ?_
  rcases hq2 with ⟨rfl, hq2_k⟩ | ⟨rfl, hq2_k⟩
  · skip
    refine lv_if_ne (tgt := 15) hx hb dX12_falls_8 (by decide) (fun _ => ?_) (fun c3 => absurd c3 (by decide))
    refine lv_iconst (v := 0) hx hb dX12_falls_15 (by decide) ?_
    refine va_put (D := g.1) (ci := 10) (v := .int 0) (ty := .int) (C := RX12) (T := TX12) (N := 20) hx hb hts izRX12 tyX12 tyX12_ok nmX12 hown hK hP hD hS 0 rfl rfl 0 (by decide) (hts _ k825) (fun _ h9 => h9) rfl (by decide +kernel) rfl rfl (Nat.le_of_ble_eq_true rfl) dX12_falls_16 (fun H locs hP hD hS => ?_)
    have hP : va_P g.1 vwCl (List.flatten [bMo g o a 0 hi ac tp ba en tA fl de iD iO tU fm fk fa fc ft ff fb fi]) H := hP
    have hD : va_D A (List.flatten [bMo g o a 0 hi ac tp ba en tA fl de iD iO tU fm fk fa fc ft ff fb fi]) := hD
    refine lv_aload_n hx hb dX12_falls_19 rfl (lv_at hl 0 rfl) ?_
    refine va_get (D := g.1) (ci := 10) (v := .int 0) (C := RX12) (T := TX12) (N := 20) hx hb hts izRX12 hown hK hP 0 rfl rfl 0 (by decide) (hts _ k825) (fun _ h9 => h9) rfl dX12_falls_20 ?_
    refine lv_if_le (tgt := 28) hx hb dX12_falls_23 (by decide) (fun _ => ?_) (fun c4 => absurd (by decide) c4)
    refine lv_aload_n hx hb dX12_falls_28 rfl (lv_at hl 0 rfl) ?_
    refine lv_iconst (v := 2) hx hb dX12_falls_29 (by decide) ?_
    refine mcallV' (g := g) (q0 := 0) (ci := 10) (As := [.int 2]) (rest := []) St hK hT hA hP hD hS hl.1 [0] [] rfl rfl rfl (m_worksOfG l g o a 0 hi ac tp ba en tA fl de iD iO tU fm fk fa fc ft ff fb fi 2 rfm) (cwV 1 hts (zgL (zl4 k990 k991 k992 k839) k863) rfl rfl rfl (by decide +kernel) ⟨Nat.le_of_ble_eq_true rfl, Nat.le_of_ble_eq_true rfl⟩) rfl rfl rfl rfl (Nat.le_of_ble_eq_true rfl) dX12_falls_30 ⟨(Nat.le_of_ble_eq_true rfl), (Nat.le_of_ble_eq_true rfl)⟩ (fun _u H locs hq5 hP hD hS => ?_)
    have hP : va_P g.1 vwCl (List.flatten [bMo g o a 0 hi ac tp ba en tA fl de iD iO tU fm fk fa fc ft ff fb fi]) H := hP
    have hD : va_D A (List.flatten [bMo g o a 0 hi ac tp ba en tA fl de iD iO tU fm fk fa fc ft ff fb fi]) := hD
    refine W.widen (k := 0) (n := 0) (Nat.le_of_ble_eq_true rfl) (Nat.le_of_ble_eq_true rfl) ?_
    refine W.eq (g2 := F0 m 33 ls [.int (zWks (zV fm) (fm 4).toInt.toNat 2)]) rfl ?_
    refine lv_istore_n (lv' := [(2, .int (zWks (zV fm) (fm 4).toInt.toNat 2)), (0, .ref o), (1, .int n)]) hx hb dX12_falls_33 rfl hl (by decide) rfl (fun ls hl => ?_)
    refine lv_aload_n hx hb dX12_falls_34 rfl (lv_at hl 1 rfl) ?_
    refine mcallV' (g := g) (q0 := 0) (ci := 10) (As := []) (rest := []) St hK hT hA hP hD hS hl.1 [0] [] rfl rfl rfl (m_putsAside l g o a 0 hi ac tp ba en tA fl de iD iO tU fm fk fa fc ft ff fb fi rfm rfa) (cwV 0 hts (zgL (zl4 k975 k976 k977 k839) k972) rfl rfl rfl (by decide +kernel) ⟨Nat.le_of_ble_eq_true rfl, Nat.le_of_ble_eq_true rfl⟩) rfl rfl rfl rfl (Nat.le_of_ble_eq_true rfl) dX12_falls_35 ⟨(Nat.le_of_ble_eq_true rfl), (Nat.le_of_ble_eq_true rfl)⟩ (fun fa2_6 H locs hq7 hP hD hS => ?_)
    replace hq7 : (rM fa2_6) ∧ (zCy fa fa2_6 0 fm 0 379) ∧ ((fa2_6 0).toInt = (fm 0).toInt ∧ (fa2_6 3).toInt = (fm 3).toInt ∧ (fa2_6 4).toInt = (fm 4).toInt) := hq7
    have hP : va_P g.1 vwCl (List.flatten [bMo g o a 0 hi ac tp ba en tA fl de iD iO tU fm fk fa2_6 fc ft ff fb fi]) H := hP
    have hD : va_D A (List.flatten [bMo g o a 0 hi ac tp ba en tA fl de iD iO tU fm fk fa2_6 fc ft ff fb fi]) := hD
    refine W.widen (k := 0) (n := 0) (Nat.le_of_ble_eq_true rfl) (Nat.le_of_ble_eq_true rfl) ?_
    refine W.eq (g2 := F0 m 38 ls []) rfl ?_
    obtain ⟨rfa2_6, hq7_1, hq7_2⟩ := hq7
    refine lv_aload_n hx hb dX12_falls_38 rfl (lv_at hl 1 rfl) ?_
    refine lv_iload_n hx hb dX12_falls_39 rfl (lv_at hl 2 rfl) ?_
    refine lv_iconst (v := 0) hx hb dX12_falls_40 (by decide) ?_
    refine mcallV' (g := g) (q0 := 0) (ci := 10) (As := [.int n, .int 0]) (rest := []) St hK hT hA hP hD hS hl.1 [0] [] rfl rfl rfl (m_goes0G l g o a 0 hi ac tp ba en tA fl de iD iO tU fm fk fa2_6 fc ft ff fb fi n L rfm (by first | assumption | omega | decide) (by first | assumption | omega | decide) (by first | assumption | omega | decide) hrg (zLm_k hL (zGk_r _))) (cwV 2 hts (zgL (zl4 k1057 k1058 k1059 k839) k1028) rfl rfl rfl (by decide +kernel) ⟨Nat.le_of_ble_eq_true rfl, Nat.le_of_ble_eq_true rfl⟩) rfl rfl rfl rfl (Nat.le_of_ble_eq_true rfl) dX12_falls_41 ⟨(Nat.le_of_ble_eq_true rfl), (Nat.le_of_ble_eq_true rfl)⟩ (fun u_ H locs hq19 hP hD hS => ?_)
    obtain ⟨ba2_8, en2_9, at2_10, de2_11, iD2_12, iO2_13, tU2_14, ff2_15, fm2_16, fb2_17, q_18⟩ := u_
    replace hq19 : (rM fm2_16) ∧ (0 ≤ iO2_13.toInt ∧ iO2_13.toInt ≤ 1) ∧ (0 ≤ iD2_12.toInt ∧ iD2_12.toInt ≤ 1) ∧ (zNR ((fm2_16 5, fm2_16 8, fm2_16 10, zV fm2_16), q_18) (zNds L (fm 3).toInt.toNat (fm 4).toInt.toNat (fm 7) 0 n.toInt.toNat (fm 5, fm 8, fm 10, zV fm))) ∧ (zGk fm fm2_16) := hq19
    have hP : va_P g.1 vwCl (List.flatten [bMo g o a 0 hi ac tp ba2_8 en2_9 at2_10 fl de2_11 iD2_12 iO2_13 tU2_14 fm2_16 fk fa2_6 fc ft ff2_15 fb2_17 fi]) H := hP
    have hD : va_D A (List.flatten [bMo g o a 0 hi ac tp ba2_8 en2_9 at2_10 fl de2_11 iD2_12 iO2_13 tU2_14 fm2_16 fk fa2_6 fc ft ff2_15 fb2_17 fi]) := hD
    refine W.widen (k := 0) (n := 0) (Nat.le_of_ble_eq_true rfl) (Nat.le_of_ble_eq_true rfl) ?_
    refine W.eq (g2 := F0 m 44 ls [.int q_18]) rfl ?_
    obtain ⟨rfm2_16, hq19_1, hq19_2, hq19_3, hq19_4⟩ := hq19
    have rg20 : zRg (zV fm2_16) := zRg_go hq19_3 hrg
    have gk21 : zGk fm fm2_16 := zGk_t (zGk_r _) hq19_4
    refine lv_istore_n (lv' := [(3, .int q_18), (2, .int (zWks (zV fm) (fm 4).toInt.toNat 2)), (0, .ref o), (1, .int n)]) hx hb dX12_falls_44 rfl hl (by decide) rfl (fun ls hl => ?_)
    refine lv_aload_n hx hb dX12_falls_45 rfl (lv_at hl 2 rfl) ?_
    refine lv_iconst (v := 2) hx hb dX12_falls_46 (by decide) ?_
    refine mcallV' (g := g) (q0 := 0) (ci := 10) (As := [.int 2]) (rest := []) St hK hT hA hP hD hS hl.1 [0] [] rfl rfl rfl (m_worksOfG l g o a 0 hi ac tp ba2_8 en2_9 at2_10 fl de2_11 iD2_12 iO2_13 tU2_14 fm2_16 fk fa2_6 fc ft ff2_15 fb2_17 fi 2 rfm2_16) (cwV 1 hts (zgL (zl4 k990 k991 k992 k839) k863) rfl rfl rfl (by decide +kernel) ⟨Nat.le_of_ble_eq_true rfl, Nat.le_of_ble_eq_true rfl⟩) rfl rfl rfl rfl (Nat.le_of_ble_eq_true rfl) dX12_falls_47 ⟨(Nat.le_of_ble_eq_true rfl), (Nat.le_of_ble_eq_true rfl)⟩ (fun _u H locs hq22 hP hD hS => ?_)
    have hP : va_P g.1 vwCl (List.flatten [bMo g o a 0 hi ac tp ba2_8 en2_9 at2_10 fl de2_11 iD2_12 iO2_13 tU2_14 fm2_16 fk fa2_6 fc ft ff2_15 fb2_17 fi]) H := hP
    have hD : va_D A (List.flatten [bMo g o a 0 hi ac tp ba2_8 en2_9 at2_10 fl de2_11 iD2_12 iO2_13 tU2_14 fm2_16 fk fa2_6 fc ft ff2_15 fb2_17 fi]) := hD
    refine W.widen (k := 0) (n := 0) (Nat.le_of_ble_eq_true rfl) (Nat.le_of_ble_eq_true rfl) ?_
    refine W.eq (g2 := F0 m 50 ls [.int (zWks (zV fm2_16) (fm2_16 4).toInt.toNat 2)]) rfl ?_
    refine lv_iload_n hx hb dX12_falls_50 rfl (lv_at hl 1 rfl) ?_
    refine lv_iconst (v := (-1)) hx hb dX12_falls_51 (by decide) ?_
    refine lv_ixor hx hb dX12_falls_52 ?_
    refine lv_iand hx hb dX12_falls_53 ?_
    refine lv_istore (lv' := [(4, .int ((zWks (zV fm2_16) (fm2_16 4).toInt.toNat 2) &&& ((zWks (zV fm) (fm 4).toInt.toNat 2) ^^^ (-1)))), (3, .int q_18), (2, .int (zWks (zV fm) (fm 4).toInt.toNat 2)), (0, .ref o), (1, .int n)]) hx hb dX12_falls_54 hl (by decide) rfl (fun ls hl => ?_)
    refine lv_aload_n hx hb dX12_falls_56 rfl (lv_at hl 3 rfl) ?_
    refine mcallV' (g := g) (q0 := 0) (ci := 10) (As := []) (rest := []) St hK hT hA hP hD hS hl.1 [0] [] rfl rfl rfl (m_comesBack l g o a 0 hi ac tp ba2_8 en2_9 at2_10 fl de2_11 iD2_12 iO2_13 tU2_14 fm2_16 fk fa2_6 fc ft ff2_15 fb2_17 fi rfm2_16 rfa2_6) (cwV 0 hts (zgL (zl4 k984 k985 k986 k839) k973) rfl rfl rfl (by decide +kernel) ⟨Nat.le_of_ble_eq_true rfl, Nat.le_of_ble_eq_true rfl⟩) rfl rfl rfl rfl (Nat.le_of_ble_eq_true rfl) dX12_falls_57 ⟨(Nat.le_of_ble_eq_true rfl), (Nat.le_of_ble_eq_true rfl)⟩ (fun fm2_23 H locs hq24 hP hD hS => ?_)
    replace hq24 : (rM fm2_23) ∧ (zCy fm2_16 fm2_23 0 fa2_6 0 379) ∧ ((fm2_23 0).toInt = (fa2_6 0).toInt ∧ (fm2_23 3).toInt = (fa2_6 3).toInt ∧ (fm2_23 4).toInt = (fa2_6 4).toInt) := hq24
    have hP : va_P g.1 vwCl (List.flatten [bMo g o a 0 hi ac tp ba2_8 en2_9 at2_10 fl de2_11 iD2_12 iO2_13 tU2_14 fm2_23 fk fa2_6 fc ft ff2_15 fb2_17 fi]) H := hP
    have hD : va_D A (List.flatten [bMo g o a 0 hi ac tp ba2_8 en2_9 at2_10 fl de2_11 iD2_12 iO2_13 tU2_14 fm2_23 fk fa2_6 fc ft ff2_15 fb2_17 fi]) := hD
    refine W.widen (k := 0) (n := 0) (Nat.le_of_ble_eq_true rfl) (Nat.le_of_ble_eq_true rfl) ?_
    refine W.eq (g2 := F0 m 60 ls []) rfl ?_
    obtain ⟨rfm2_23, hq24_1, hq24_2⟩ := hq24
    refine lv_iload hx hb dX12_falls_60 (lv_at hl 0 rfl) ?_
    have hP : va_P g.1 vwCl (List.flatten [bMo g o a 0 hi ac tp ba2_8 en2_9 at2_10 fl de2_11 iD2_12 iO2_13 tU2_14 fm2_23 fk fa2_6 fc ft ff2_15 fb2_17 fi]) H := hP
    have hD : va_D A (List.flatten [bMo g o a 0 hi ac tp ba2_8 en2_9 at2_10 fl de2_11 iD2_12 iO2_13 tU2_14 fm2_23 fk fa2_6 fc ft ff2_15 fb2_17 fi]) := hD
    exact mret_i hx hb hr hlocks hS (Nat.le_of_ble_eq_true rfl) (Nat.le_of_ble_eq_true rfl) dX12_falls_62 ((0 : Int32), fm2_23, fa2_6, ba2_8, en2_9, at2_10, de2_11, iD2_12, iO2_13, tU2_14, ff2_15, fb2_17, (zWks (zV fm2_16) (fm2_16 4).toInt.toNat 2) &&& ((zWks (zV fm) (fm 4).toInt.toNat 2) ^^^ (-1))) rfl (show (0 ≤ iO2_13.toInt ∧ iO2_13.toInt ≤ 1) ∧ (0 ≤ iD2_12.toInt ∧ iD2_12.toInt ≤ 1) ∧ (rM fa2_6) ∧ (rM fm2_23) ∧ ((0, ((zWks (zV fm2_16) (fm2_16 4).toInt.toNat 2) &&& ((zWks (zV fm) (fm 4).toInt.toNat 2) ^^^ (-1)))) = zdFalls L n (zM9 fm)) ∧ (fm = fm2_23) from ⟨(by first | assumption | omega | decide), (by first | assumption | omega | decide), (by first | assumption | omega | decide), (by first | assumption | omega | decide), (zdFalls_m (by omega) rfl rfl (by have h9 := hq19_4 4 (by decide); rw [h9]; omega) (zGo_m hq19_3 hq19_4)), (zBackD hq7_1 gk21 hq24_1)⟩) hP hD
  · skip
    refine lv_if_ne (tgt := 15) hx hb dX12_falls_8 (by decide) (fun c25 => absurd (by decide) c25) (fun _ => ?_)
    refine lv_iconst (v := 1) hx hb dX12_falls_11 (by decide) ?_
    refine lv_goto (tgt := 16) hx hb dX12_falls_12 (by decide) ?_
    refine va_put (D := g.1) (ci := 10) (v := .int 1) (ty := .int) (C := RX12) (T := TX12) (N := 20) hx hb hts izRX12 tyX12 tyX12_ok nmX12 hown hK hP hD hS 0 rfl rfl 0 (by decide) (hts _ k825) (fun _ h9 => h9) rfl (by decide +kernel) rfl rfl (Nat.le_of_ble_eq_true rfl) dX12_falls_16 (fun H locs hP hD hS => ?_)
    have hP : va_P g.1 vwCl (List.flatten [bMo g o a 1 hi ac tp ba en tA fl de iD iO tU fm fk fa fc ft ff fb fi]) H := hP
    have hD : va_D A (List.flatten [bMo g o a 1 hi ac tp ba en tA fl de iD iO tU fm fk fa fc ft ff fb fi]) := hD
    refine lv_aload_n hx hb dX12_falls_19 rfl (lv_at hl 0 rfl) ?_
    refine va_get (D := g.1) (ci := 10) (v := .int 1) (C := RX12) (T := TX12) (N := 20) hx hb hts izRX12 hown hK hP 0 rfl rfl 0 (by decide) (hts _ k825) (fun _ h9 => h9) rfl dX12_falls_20 ?_
    refine lv_if_le (tgt := 28) hx hb dX12_falls_23 (by decide) (fun c26 => absurd c26 (by decide)) (fun _ => ?_)
    refine lv_iconst (v := 0) hx hb dX12_falls_26 (by decide) ?_
    have hP : va_P g.1 vwCl (List.flatten [bMo g o a 1 hi ac tp ba en tA fl de iD iO tU fm fk fa fc ft ff fb fi]) H := hP
    have hD : va_D A (List.flatten [bMo g o a 1 hi ac tp ba en tA fl de iD iO tU fm fk fa fc ft ff fb fi]) := hD
    exact mret_i hx hb hr hlocks hS (Nat.le_of_ble_eq_true rfl) (Nat.le_of_ble_eq_true rfl) dX12_falls_27 ((1 : Int32), fm, fa, ba, en, tA, de, iD, iO, tU, ff, fb, (0 : Int32)) rfl (show (0 ≤ iO.toInt ∧ iO.toInt ≤ 1) ∧ (0 ≤ iD.toInt ∧ iD.toInt ≤ 1) ∧ (rM fa) ∧ (rM fm) ∧ ((1, 0) = zdFalls L n (zM9 fm)) ∧ (fm = fm) from ⟨(by first | assumption | omega | decide), (by first | assumption | omega | decide), (by first | assumption | omega | decide), (by first | assumption | omega | decide), (zdFalls_1 (by omega)), rfl⟩) hP hD
set_option maxRecDepth 100000 in
set_option maxHeartbeats 4000000 in
theorem m_isOfG (l : Launch) (g : zG) (st0 : Int32) (k : Int32)  : zM' g l yX12_isOf (Cond.code yX12_isOf cX12_isOf 2 (some .boolean) :: zB) ({ frames := 0, cells := 0, slots := 0, locals := 0 } : Room) [.int st0, .int k] [] (fun (q : Int32) => some (.int q)) (fun (q : Int32) => (q = 1 ∧ ¬ ((st0 >>> (k &&& 31)) &&& 1).toInt = 0 ∨ q = 0 ∧ ((st0 >>> (k &&& 31)) &&& 1).toInt = 0)) (fun (q : Int32) => []) := by
  refine zM'.of (cc := cX12_isOf) (maxL := 2) (rt := (some .boolean)) (by decide) rfl (Nat.le_of_ble_eq_true rfl) ?_
  intro p e s m args below meth c A ls St hr hlocks hin hK hT hA hP hD hS hl
  obtain ⟨hx, hb, hml, hown, hts⟩ := id St
  have hl : lv_has ls 2 [(0, .int st0), (1, .int k)] := hl
  refine lv_iload_n hx hb dX12_isOf_0 rfl (lv_at hl 0 rfl) ?_
  refine lv_iload_n hx hb dX12_isOf_1 rfl (lv_at hl 1 rfl) ?_
  refine lv_ishr hx hb dX12_isOf_2 ?_
  refine lv_iconst (v := 1) hx hb dX12_isOf_3 (by decide) ?_
  refine lv_iand hx hb dX12_isOf_4 ?_
  refine lv_iconst (v := 1) hx hb dX12_isOf_5 (by decide) ?_
  refine lv_icmp_ne (tgt := 13) hx hb dX12_isOf_6 (by decide) (fun cb9 => ?_) (fun cb9 => ?_)
  · skip
    have c1 : ¬ ((st0 >>> (k &&& 31)) &&& 1).toInt = 1 := zne cb9 rfl (by decide)
    refine lv_iconst (v := 0) hx hb dX12_isOf_13 (by decide) ?_
    have hP : va_P g.1 vwCl (List.flatten []) s.heap := hP
    have hD : va_D A (List.flatten []) := hD
    exact mret_z hx hb hr hlocks hS (Nat.le_of_ble_eq_true rfl) (Nat.le_of_ble_eq_true rfl) dX12_isOf_14 ((0 : Int32)) rfl (by decide) (show (0 = 1 ∧ ¬ ((st0 >>> (k &&& 31)) &&& 1).toInt = 0 ∨ 0 = 0 ∧ ((st0 >>> (k &&& 31)) &&& 1).toInt = 0) from (by first | exact Or.inl ⟨rfl, zof1 (by omega)⟩ | exact Or.inr ⟨rfl, zof0 (by omega)⟩)) hP hD
  · skip
    have c2 : ((st0 >>> (k &&& 31)) &&& 1).toInt = 1 := zeq cb9 rfl (by decide)
    have n3 : 1 ≤ ((st0 >>> (k &&& 31)) &&& 1).toInt := Int.le_trans (Int.le_refl _) (Int.le_of_eq c2.symm)
    have n4 : ((st0 >>> (k &&& 31)) &&& 1).toInt ≤ 1 := Int.le_trans (Int.le_of_eq c2) (Int.le_refl _)
    refine lv_iconst (v := 1) hx hb dX12_isOf_9 (by decide) ?_
    refine lv_goto (tgt := 14) hx hb dX12_isOf_10 (by decide) ?_
    have hP : va_P g.1 vwCl (List.flatten []) s.heap := hP
    have hD : va_D A (List.flatten []) := hD
    exact mret_z hx hb hr hlocks hS (Nat.le_of_ble_eq_true rfl) (Nat.le_of_ble_eq_true rfl) dX12_isOf_14 ((1 : Int32)) rfl (by decide) (show (1 = 1 ∧ ¬ ((st0 >>> (k &&& 31)) &&& 1).toInt = 0 ∨ 1 = 0 ∧ ((st0 >>> (k &&& 31)) &&& 1).toInt = 0) from (by first | exact Or.inl ⟨rfl, zof1 (by omega)⟩ | exact Or.inr ⟨rfl, zof0 (by omega)⟩)) hP hD
set_option maxRecDepth 100000 in
set_option maxHeartbeats 4000000 in
theorem m_believedByC (l : Launch) (g : zG) (o : Nat) (a : Nat → Nat) (th : Int32) (hi : Int32) (ac : Int32) (tp : Int32) (ba : Int32) (en : Int32) (tA : Int32) (fl : Int32) (de : Int32) (iD : Int32) (iO : Int32) (tU : Int32) (fm : Nat → Int32) (fk : Nat → Int32) (fa : Nat → Int32) (fc : Nat → Int32) (ft : Nat → Int32) (ff : Nat → Int32) (fb : Nat → Int32) (fi : Nat → Int32) (n : Int32) (st0 : Int32) (by9 : Int32) (L : zLw) (rfm : rM fm) (rfa : rM fa) (hiD : 0 ≤ iD.toInt ∧ iD.toInt ≤ 1) (hiO : 0 ≤ iO.toInt ∧ iO.toInt ≤ 1) (b_n : 0 ≤ n.toInt ∧ n.toInt ≤ 100) (hrg : zRg (zV fm)) (hL : zLm L fm) : zM' g l yX12_believedBy (Cond.code yX12_believedBy cX12_believedBy 6 (some .int) :: zB) ({ frames := 33, cells := 0, slots := 0, locals := 736 } : Room) [.ref o, .int n, .int st0, .int by9] [bMo g o a th hi ac tp ba en tA fl de iD iO tU fm fk fa fc ft ff fb fi] (fun u : (Nat → Int32) × (Nat → Int32) × Int32 × Int32 × Int32 × Int32 × Int32 × Int32 × Int32 × (Nat → Int32) × (Nat → Int32) × Int32 => (fun (fm2 : Nat → Int32) (fa2 : Nat → Int32) (ba2 : Int32) (en2 : Int32) (at2 : Int32) (de2 : Int32) (iD2 : Int32) (iO2 : Int32) (tU2 : Int32) (ff2 : Nat → Int32) (fb2 : Nat → Int32) (q : Int32) => some (.int q)) (u.1) (u.2.1) (u.2.2.1) (u.2.2.2.1) (u.2.2.2.2.1) (u.2.2.2.2.2.1) (u.2.2.2.2.2.2.1) (u.2.2.2.2.2.2.2.1) (u.2.2.2.2.2.2.2.2.1) (u.2.2.2.2.2.2.2.2.2.1) (u.2.2.2.2.2.2.2.2.2.2.1) (u.2.2.2.2.2.2.2.2.2.2.2)) (fun u : (Nat → Int32) × (Nat → Int32) × Int32 × Int32 × Int32 × Int32 × Int32 × Int32 × Int32 × (Nat → Int32) × (Nat → Int32) × Int32 => (fun (fm2 : Nat → Int32) (fa2 : Nat → Int32) (ba2 : Int32) (en2 : Int32) (at2 : Int32) (de2 : Int32) (iD2 : Int32) (iO2 : Int32) (tU2 : Int32) (ff2 : Nat → Int32) (fb2 : Nat → Int32) (q : Int32) => (0 ≤ iO2.toInt ∧ iO2.toInt ≤ 1) ∧ (0 ≤ iD2.toInt ∧ iD2.toInt ≤ 1) ∧ (rM fa2) ∧ (rM fm2) ∧ (q = zBl9 (zLk L st0 by9 n.toInt.toNat (zM9 fm))) ∧ (fm = fm2)) (u.1) (u.2.1) (u.2.2.1) (u.2.2.2.1) (u.2.2.2.2.1) (u.2.2.2.2.2.1) (u.2.2.2.2.2.2.1) (u.2.2.2.2.2.2.2.1) (u.2.2.2.2.2.2.2.2.1) (u.2.2.2.2.2.2.2.2.2.1) (u.2.2.2.2.2.2.2.2.2.2.1) (u.2.2.2.2.2.2.2.2.2.2.2)) (fun u : (Nat → Int32) × (Nat → Int32) × Int32 × Int32 × Int32 × Int32 × Int32 × Int32 × Int32 × (Nat → Int32) × (Nat → Int32) × Int32 => (fun (fm2 : Nat → Int32) (fa2 : Nat → Int32) (ba2 : Int32) (en2 : Int32) (at2 : Int32) (de2 : Int32) (iD2 : Int32) (iO2 : Int32) (tU2 : Int32) (ff2 : Nat → Int32) (fb2 : Nat → Int32) (q : Int32) => [bMo g o a th hi ac tp ba2 en2 at2 fl de2 iD2 iO2 tU2 fm2 fk fa2 fc ft ff2 fb2 fi]) (u.1) (u.2.1) (u.2.2.1) (u.2.2.2.1) (u.2.2.2.2.1) (u.2.2.2.2.2.1) (u.2.2.2.2.2.2.1) (u.2.2.2.2.2.2.2.1) (u.2.2.2.2.2.2.2.2.1) (u.2.2.2.2.2.2.2.2.2.1) (u.2.2.2.2.2.2.2.2.2.2.1) (u.2.2.2.2.2.2.2.2.2.2.2)) := by
  refine zM'.of (cc := cX12_believedBy) (maxL := 6) (rt := (some .int)) (by decide) rfl (Nat.le_of_ble_eq_true rfl) ?_
  intro p e s m args below meth c A ls St hr hlocks hin hK hT hA hP hD hS hl
  obtain ⟨hx, hb, hml, hown, hts⟩ := id St
  have hl : lv_has ls 6 [(0, .ref o), (1, .int n), (2, .int st0), (3, .int by9)] := hl
  have hrm3 := rM3 rfm
  have hrm4 := rM4 rfm
  refine lv_aload_n hx hb dX12_believedBy_0 rfl (lv_at hl 0 rfl) ?_
  refine mcallV' (g := g) (q0 := 0) (ci := 10) (As := []) (rest := []) St hK hT hA hP hD hS hl.1 [0] [] rfl rfl rfl (m_putsAside l g o a th hi ac tp ba en tA fl de iD iO tU fm fk fa fc ft ff fb fi rfm rfa) (cwV 0 hts (zgL (zl4 k975 k976 k977 k839) k972) rfl rfl rfl (by decide +kernel) ⟨Nat.le_of_ble_eq_true rfl, Nat.le_of_ble_eq_true rfl⟩) rfl rfl rfl rfl (Nat.le_of_ble_eq_true rfl) dX12_believedBy_1 ⟨(Nat.le_of_ble_eq_true rfl), (Nat.le_of_ble_eq_true rfl)⟩ (fun fa2_1 H locs hq2 hP hD hS => ?_)
  replace hq2 : (rM fa2_1) ∧ (zCy fa fa2_1 0 fm 0 379) ∧ ((fa2_1 0).toInt = (fm 0).toInt ∧ (fa2_1 3).toInt = (fm 3).toInt ∧ (fa2_1 4).toInt = (fm 4).toInt) := hq2
  have hP : va_P g.1 vwCl (List.flatten [bMo g o a th hi ac tp ba en tA fl de iD iO tU fm fk fa2_1 fc ft ff fb fi]) H := hP
  have hD : va_D A (List.flatten [bMo g o a th hi ac tp ba en tA fl de iD iO tU fm fk fa2_1 fc ft ff fb fi]) := hD
  refine W.widen (k := 0) (n := 0) (Nat.le_of_ble_eq_true rfl) (Nat.le_of_ble_eq_true rfl) ?_
  refine W.eq (g2 := F0 m 4 ls []) rfl ?_
  obtain ⟨rfa2_1, hq2_1, hq2_2⟩ := hq2
  refine lv_iconst (v := 0) hx hb dX12_believedBy_4 (by decide) ?_
  refine lv_istore (lv' := [(4, .int 0), (0, .ref o), (1, .int n), (2, .int st0), (3, .int by9)]) hx hb dX12_believedBy_5 hl (by decide) rfl (fun ls hl => ?_)
  have hl := lv_sub (l' := [(0, .ref o), (1, .int n), (2, .int st0), (3, .int by9), (4, .int 0)]) hl [1, 2, 3, 4, 0] rfl
  have LP7_10 : ∀ (kf : Nat) (x_3 : Int32) (fm_4 : Nat → Int32), (0 ≤ x_3.toInt ∧ x_3.toInt ≤ 8) → (rM fm_4) → (zRsM fm fm_4 st0 by9 x_3.toInt.toNat) → (x_3.toInt ≤ (fm 3).toInt) → (zRg (zV fm_4)) → (zGk fm fm_4) → ∀ (H : Heap) (locs : List Loc) (ls : Array Slot), ((9 - x_3.toInt).toNat) < kf → va_P g.1 vwCl (List.flatten [bMo g o a th hi ac tp ba en tA fl de iD iO tU fm_4 fk fa2_1 fc ft ff fb fi]) H → va_D A (List.flatten [bMo g o a th hi ac tp ba en tA fl de iD iO tU fm_4 fk fa2_1 fc ft ff fb fi]) → va_S A s.heap H locs → lv_has ls 6 [(0, .ref o), (1, .int n), (2, .int st0), (3, .int by9), (4, .int x_3)] → W p l e ({ frames := 33, cells := 0, slots := 0, locals := 736 } : Room) s m args below meth c H locs (0) (0) (zF g (fun u : (Nat → Int32) × (Nat → Int32) × Int32 × Int32 × Int32 × Int32 × Int32 × Int32 × Int32 × (Nat → Int32) × (Nat → Int32) × Int32 => (fun (fm2 : Nat → Int32) (fa2 : Nat → Int32) (ba2 : Int32) (en2 : Int32) (at2 : Int32) (de2 : Int32) (iD2 : Int32) (iO2 : Int32) (tU2 : Int32) (ff2 : Nat → Int32) (fb2 : Nat → Int32) (q : Int32) => some (.int q)) (u.1) (u.2.1) (u.2.2.1) (u.2.2.2.1) (u.2.2.2.2.1) (u.2.2.2.2.2.1) (u.2.2.2.2.2.2.1) (u.2.2.2.2.2.2.2.1) (u.2.2.2.2.2.2.2.2.1) (u.2.2.2.2.2.2.2.2.2.1) (u.2.2.2.2.2.2.2.2.2.2.1) (u.2.2.2.2.2.2.2.2.2.2.2)) (fun u : (Nat → Int32) × (Nat → Int32) × Int32 × Int32 × Int32 × Int32 × Int32 × Int32 × Int32 × (Nat → Int32) × (Nat → Int32) × Int32 => (fun (fm2 : Nat → Int32) (fa2 : Nat → Int32) (ba2 : Int32) (en2 : Int32) (at2 : Int32) (de2 : Int32) (iD2 : Int32) (iO2 : Int32) (tU2 : Int32) (ff2 : Nat → Int32) (fb2 : Nat → Int32) (q : Int32) => (0 ≤ iO2.toInt ∧ iO2.toInt ≤ 1) ∧ (0 ≤ iD2.toInt ∧ iD2.toInt ≤ 1) ∧ (rM fa2) ∧ (rM fm2) ∧ (q = zBl9 (zLk L st0 by9 n.toInt.toNat (zM9 fm))) ∧ (fm = fm2)) (u.1) (u.2.1) (u.2.2.1) (u.2.2.2.1) (u.2.2.2.2.1) (u.2.2.2.2.2.1) (u.2.2.2.2.2.2.1) (u.2.2.2.2.2.2.2.1) (u.2.2.2.2.2.2.2.2.1) (u.2.2.2.2.2.2.2.2.2.1) (u.2.2.2.2.2.2.2.2.2.2.1) (u.2.2.2.2.2.2.2.2.2.2.2)) (fun u : (Nat → Int32) × (Nat → Int32) × Int32 × Int32 × Int32 × Int32 × Int32 × Int32 × Int32 × (Nat → Int32) × (Nat → Int32) × Int32 => (fun (fm2 : Nat → Int32) (fa2 : Nat → Int32) (ba2 : Int32) (en2 : Int32) (at2 : Int32) (de2 : Int32) (iD2 : Int32) (iO2 : Int32) (tU2 : Int32) (ff2 : Nat → Int32) (fb2 : Nat → Int32) (q : Int32) => [bMo g o a th hi ac tp ba2 en2 at2 fl de2 iD2 iO2 tU2 fm2 fk fa2 fc ft ff2 fb2 fi]) (u.1) (u.2.1) (u.2.2.1) (u.2.2.2.1) (u.2.2.2.2.1) (u.2.2.2.2.2.1) (u.2.2.2.2.2.2.1) (u.2.2.2.2.2.2.2.1) (u.2.2.2.2.2.2.2.2.1) (u.2.2.2.2.2.2.2.2.2.1) (u.2.2.2.2.2.2.2.2.2.2.1) (u.2.2.2.2.2.2.2.2.2.2.2)) ({ frames := 33, cells := 0, slots := 0, locals := 736 } : Room) below args s A) (F0 m 7 ls []) := by
    intro kf
    induction kf with
    | zero => intro x_3 fm_4 i5 rfm_4 i6 i7 i8 i9 H locs ls hk; exact absurd hk (Nat.not_lt_zero _)
    | succ kf ih7_11 =>
      intro x_3 fm_4 i5 rfm_4 i6 i7 i8 i9 H locs ls hk7_11 hP hD hS hl
      have w12 : (fm_4 3).toInt = (fm 3).toInt := congrArg Int32.toInt (i6.2 3 (by decide))
      refine lv_iload hx hb dX12_believedBy_7 (lv_at hl 4 rfl) ?_
      refine lv_aload_n hx hb dX12_believedBy_9 rfl (lv_at hl 0 rfl) ?_
      refine va_get (D := g.1) (ci := 10) (v := .ref (a 0)) (C := RX12) (T := TX12) (N := 20) hx hb hts izRX12 hown hK hP 0 rfl rfl 1 (by decide) (hts _ k815) (fun _ h9 => h9) rfl dX12_believedBy_10 ?_
      refine lv_iconst (v := 3) hx hb dX12_believedBy_13 (by decide) ?_
      refine va_iald hx hb hK hP 1 0 rfl rfl (zin rfl) dX12_believedBy_14 ?_
      refine ztop (r := (fm_4 3)) rfl ?_
      refine lv_icmp_ge (tgt := 40) hx hb dX12_believedBy_15 (by decide) (fun cb9 => ?_) (fun cb9 => ?_)
      · skip
        have c13 : (fm_4 3).toInt ≤ x_3.toInt := zle cb9 rfl rfl
        refine lv_aload_n hx hb dX12_believedBy_40 rfl (lv_at hl 0 rfl) ?_
        refine lv_iload_n hx hb dX12_believedBy_41 rfl (lv_at hl 1 rfl) ?_
        refine lv_iconst (v := 0) hx hb dX12_believedBy_42 (by decide) ?_
        refine mcallV' (g := g) (q0 := 0) (ci := 10) (As := [.int n, .int 0]) (rest := []) St hK hT hA hP hD hS hl.1 [0] [] rfl rfl rfl (m_goes0G l g o a th hi ac tp ba en tA fl de iD iO tU fm_4 fk fa2_1 fc ft ff fb fi n L rfm_4 (by first | assumption | omega | decide) (by first | assumption | omega | decide) (by first | assumption | omega | decide) i8 (zLm_k hL i9)) (cwV 2 hts (zgL (zl4 k1057 k1058 k1059 k839) k1028) rfl rfl rfl (by decide +kernel) ⟨Nat.le_of_ble_eq_true rfl, Nat.le_of_ble_eq_true rfl⟩) rfl rfl rfl rfl (Nat.le_of_ble_eq_true rfl) dX12_believedBy_43 ⟨(Nat.le_of_ble_eq_true rfl), (Nat.le_of_ble_eq_true rfl)⟩ (fun u_ H locs hq25 hP hD hS => ?_)
        obtain ⟨ba2_14, en2_15, at2_16, de2_17, iD2_18, iO2_19, tU2_20, ff2_21, fm2_22, fb2_23, q_24⟩ := u_
        replace hq25 : (rM fm2_22) ∧ (0 ≤ iO2_19.toInt ∧ iO2_19.toInt ≤ 1) ∧ (0 ≤ iD2_18.toInt ∧ iD2_18.toInt ≤ 1) ∧ (zNR ((fm2_22 5, fm2_22 8, fm2_22 10, zV fm2_22), q_24) (zNds L (fm_4 3).toInt.toNat (fm_4 4).toInt.toNat (fm_4 7) 0 n.toInt.toNat (fm_4 5, fm_4 8, fm_4 10, zV fm_4))) ∧ (zGk fm_4 fm2_22) := hq25
        have hP : va_P g.1 vwCl (List.flatten [bMo g o a th hi ac tp ba2_14 en2_15 at2_16 fl de2_17 iD2_18 iO2_19 tU2_20 fm2_22 fk fa2_1 fc ft ff2_21 fb2_23 fi]) H := hP
        have hD : va_D A (List.flatten [bMo g o a th hi ac tp ba2_14 en2_15 at2_16 fl de2_17 iD2_18 iO2_19 tU2_20 fm2_22 fk fa2_1 fc ft ff2_21 fb2_23 fi]) := hD
        refine W.widen (k := 0) (n := 0) (Nat.le_of_ble_eq_true rfl) (Nat.le_of_ble_eq_true rfl) ?_
        refine W.eq (g2 := F0 m 46 ls [.int q_24]) rfl ?_
        obtain ⟨rfm2_22, hq25_1, hq25_2, hq25_3, hq25_4⟩ := hq25
        have rg26 : zRg (zV fm2_22) := zRg_go hq25_3 i8
        have gk27 : zGk fm fm2_22 := zGk_t i9 hq25_4
        refine lv_istore (lv' := [(4, .int q_24), (0, .ref o), (1, .int n), (2, .int st0), (3, .int by9)]) hx hb dX12_believedBy_46 hl (by decide) rfl (fun ls hl => ?_)
        refine lv_aload_n hx hb dX12_believedBy_48 rfl (lv_at hl 1 rfl) ?_
        refine mcallV' (g := g) (q0 := 0) (ci := 10) (As := []) (rest := []) St hK hT hA hP hD hS hl.1 [0] [] rfl rfl rfl (m_believedG l g o a th hi ac tp ba2_14 en2_15 at2_16 fl de2_17 iD2_18 iO2_19 tU2_20 fm2_22 fk fa2_1 fc ft ff2_21 fb2_23 fi rfm2_22) (cwV 0 hts (zgL (zl4 k856 k857 k858 k839) k849) rfl rfl rfl (by decide +kernel) ⟨Nat.le_of_ble_eq_true rfl, Nat.le_of_ble_eq_true rfl⟩) rfl rfl rfl rfl (Nat.le_of_ble_eq_true rfl) dX12_believedBy_49 ⟨(Nat.le_of_ble_eq_true rfl), (Nat.le_of_ble_eq_true rfl)⟩ (fun _u H locs hq28 hP hD hS => ?_)
        have hP : va_P g.1 vwCl (List.flatten [bMo g o a th hi ac tp ba2_14 en2_15 at2_16 fl de2_17 iD2_18 iO2_19 tU2_20 fm2_22 fk fa2_1 fc ft ff2_21 fb2_23 fi]) H := hP
        have hD : va_D A (List.flatten [bMo g o a th hi ac tp ba2_14 en2_15 at2_16 fl de2_17 iD2_18 iO2_19 tU2_20 fm2_22 fk fa2_1 fc ft ff2_21 fb2_23 fi]) := hD
        refine W.widen (k := 0) (n := 0) (Nat.le_of_ble_eq_true rfl) (Nat.le_of_ble_eq_true rfl) ?_
        refine W.eq (g2 := F0 m 52 ls [.int (zBel (zV fm2_22) (fm2_22 3).toInt.toNat)]) rfl ?_
        refine lv_istore (lv' := [(5, .int (zBel (zV fm2_22) (fm2_22 3).toInt.toNat)), (4, .int q_24), (0, .ref o), (1, .int n), (2, .int st0), (3, .int by9)]) hx hb dX12_believedBy_52 hl (by decide) rfl (fun ls hl => ?_)
        refine lv_aload_n hx hb dX12_believedBy_54 rfl (lv_at hl 2 rfl) ?_
        refine mcallV' (g := g) (q0 := 0) (ci := 10) (As := []) (rest := []) St hK hT hA hP hD hS hl.1 [0] [] rfl rfl rfl (m_comesBack l g o a th hi ac tp ba2_14 en2_15 at2_16 fl de2_17 iD2_18 iO2_19 tU2_20 fm2_22 fk fa2_1 fc ft ff2_21 fb2_23 fi rfm2_22 rfa2_1) (cwV 0 hts (zgL (zl4 k984 k985 k986 k839) k973) rfl rfl rfl (by decide +kernel) ⟨Nat.le_of_ble_eq_true rfl, Nat.le_of_ble_eq_true rfl⟩) rfl rfl rfl rfl (Nat.le_of_ble_eq_true rfl) dX12_believedBy_55 ⟨(Nat.le_of_ble_eq_true rfl), (Nat.le_of_ble_eq_true rfl)⟩ (fun fm2_29 H locs hq30 hP hD hS => ?_)
        replace hq30 : (rM fm2_29) ∧ (zCy fm2_22 fm2_29 0 fa2_1 0 379) ∧ ((fm2_29 0).toInt = (fa2_1 0).toInt ∧ (fm2_29 3).toInt = (fa2_1 3).toInt ∧ (fm2_29 4).toInt = (fa2_1 4).toInt) := hq30
        have hP : va_P g.1 vwCl (List.flatten [bMo g o a th hi ac tp ba2_14 en2_15 at2_16 fl de2_17 iD2_18 iO2_19 tU2_20 fm2_29 fk fa2_1 fc ft ff2_21 fb2_23 fi]) H := hP
        have hD : va_D A (List.flatten [bMo g o a th hi ac tp ba2_14 en2_15 at2_16 fl de2_17 iD2_18 iO2_19 tU2_20 fm2_29 fk fa2_1 fc ft ff2_21 fb2_23 fi]) := hD
        refine W.widen (k := 0) (n := 0) (Nat.le_of_ble_eq_true rfl) (Nat.le_of_ble_eq_true rfl) ?_
        refine W.eq (g2 := F0 m 58 ls []) rfl ?_
        obtain ⟨rfm2_29, hq30_1, hq30_2⟩ := hq30
        refine lv_iload hx hb dX12_believedBy_58 (lv_at hl 0 rfl) ?_
        have hP : va_P g.1 vwCl (List.flatten [bMo g o a th hi ac tp ba2_14 en2_15 at2_16 fl de2_17 iD2_18 iO2_19 tU2_20 fm2_29 fk fa2_1 fc ft ff2_21 fb2_23 fi]) H := hP
        have hD : va_D A (List.flatten [bMo g o a th hi ac tp ba2_14 en2_15 at2_16 fl de2_17 iD2_18 iO2_19 tU2_20 fm2_29 fk fa2_1 fc ft ff2_21 fb2_23 fi]) := hD
        exact mret_i hx hb hr hlocks hS (Nat.le_of_ble_eq_true rfl) (Nat.le_of_ble_eq_true rfl) dX12_believedBy_60 (fm2_29, fa2_1, ba2_14, en2_15, at2_16, de2_17, iD2_18, iO2_19, tU2_20, ff2_21, fb2_23, zBel (zV fm2_22) (fm2_22 3).toInt.toNat) rfl (show (0 ≤ iO2_19.toInt ∧ iO2_19.toInt ≤ 1) ∧ (0 ≤ iD2_18.toInt ∧ iD2_18.toInt ≤ 1) ∧ (rM fa2_1) ∧ (rM fm2_29) ∧ ((zBel (zV fm2_22) (fm2_22 3).toInt.toNat) = zBl9 (zLk L st0 by9 n.toInt.toNat (zM9 fm))) ∧ (fm = fm2_29) from ⟨(by first | assumption | omega | decide), (by first | assumption | omega | decide), (by first | assumption | omega | decide), (by first | assumption | omega | decide), (by rw [← zBl9_c (zLk_m (L := L) (n := n.toInt.toNat) (zRsM_x i6 (by omega)) hrm3 hrm4 hq25_3 hq25_4) (by rw [show (zM9 fm2_22).1 = fm 3 from gk27 3 (by decide)]; omega)]; rfl), (zBackD hq2_1 gk27 hq30_1)⟩) hP hD
      · skip
        have c31 : x_3.toInt < (fm_4 3).toInt := zlti (Int32.not_le.mp cb9) rfl rfl
        have n32 : x_3.toInt ≤ 7 := zL1 (b := 8) c31 (rM3 rfm_4).2 (by decide)
        have n33 : 1 ≤ (fm_4 3).toInt := zL2 (a := 0) c31 i5.1 (by decide)
        refine lv_iload_n hx hb dX12_believedBy_18 rfl (lv_at hl 2 rfl) ?_
        refine lv_iload hx hb dX12_believedBy_19 (lv_at hl 4 rfl) ?_
        refine mcallS' (g := g) (As := [.int st0, .int x_3]) (rest := []) St hK hT hA hP hD hS hl.1 [] [0] rfl rfl rfl (m_isOfG l g st0 x_3 ) (va_cwS 2 hts (zgL (zl3 k1062 k1063 k839) k829) rfl rfl rfl (by decide +kernel) ⟨Nat.le_of_ble_eq_true rfl, Nat.le_of_ble_eq_true rfl⟩) rfl rfl (Nat.le_of_ble_eq_true rfl) dX12_believedBy_21 ⟨(Nat.le_of_ble_eq_true rfl), (Nat.le_of_ble_eq_true rfl)⟩ (fun q_34 H locs hq35 hP hD hS => ?_)
        replace hq35 : (q_34 = 1 ∧ ¬ ((st0 >>> (x_3 &&& 31)) &&& 1).toInt = 0 ∨ q_34 = 0 ∧ ((st0 >>> (x_3 &&& 31)) &&& 1).toInt = 0) := hq35
        have hP : va_P g.1 vwCl (List.flatten [bMo g o a th hi ac tp ba en tA fl de iD iO tU fm_4 fk fa2_1 fc ft ff fb fi]) H := hP
        have hD : va_D A (List.flatten [bMo g o a th hi ac tp ba en tA fl de iD iO tU fm_4 fk fa2_1 fc ft ff fb fi]) := hD
        refine W.widen (k := 0) (n := 0) (Nat.le_of_ble_eq_true rfl) (Nat.le_of_ble_eq_true rfl) ?_
        refine W.eq (g2 := F0 m 24 ls [.int q_34]) rfl ?_
        rcases hq35 with ⟨rfl, hq35_k⟩ | ⟨rfl, hq35_k⟩
        · skip
          refine lv_if_eq (tgt := 34) hx hb dX12_believedBy_24 (by decide) (fun c36 => absurd c36 (by decide)) (fun _ => ?_)
          refine lv_aload_n hx hb dX12_believedBy_27 rfl (lv_at hl 0 rfl) ?_
          refine lv_iload hx hb dX12_believedBy_28 (lv_at hl 4 rfl) ?_
          refine lv_iload_n hx hb dX12_believedBy_30 rfl (lv_at hl 3 rfl) ?_
          refine mcallV' (g := g) (q0 := 0) (ci := 10) (As := [.int x_3, .int by9]) (rest := []) St hK hT hA hP hD hS hl.1 [0] [] rfl rfl rfl (m_believesG l g o a th hi ac tp ba en tA fl de iD iO tU fm_4 fk fa2_1 fc ft ff fb fi x_3 by9 rfm_4 (⟨i5.1, n32⟩)) (cwV 2 hts (zgL (zl4 k1012 k1013 k1014 k839) k1002) rfl rfl rfl (by decide +kernel) ⟨Nat.le_of_ble_eq_true rfl, Nat.le_of_ble_eq_true rfl⟩) rfl rfl rfl rfl (Nat.le_of_ble_eq_true rfl) dX12_believedBy_31 ⟨(Nat.le_of_ble_eq_true rfl), (Nat.le_of_ble_eq_true rfl)⟩ (fun fm2_37 H locs hq38 hP hD hS => ?_)
          replace hq38 : (rM fm2_37) ∧ (fm2_37 = upd fm_4 (11 + 5 * x_3.toInt.toNat) (zCl (zV fm_4 0 x_3.toInt.toNat + by9))) := hq38
          have hP : va_P g.1 vwCl (List.flatten [bMo g o a th hi ac tp ba en tA fl de iD iO tU fm2_37 fk fa2_1 fc ft ff fb fi]) H := hP
          have hD : va_D A (List.flatten [bMo g o a th hi ac tp ba en tA fl de iD iO tU fm2_37 fk fa2_1 fc ft ff fb fi]) := hD
          refine W.widen (k := 0) (n := 0) (Nat.le_of_ble_eq_true rfl) (Nat.le_of_ble_eq_true rfl) ?_
          refine W.eq (g2 := F0 m 34 ls []) rfl ?_
          obtain ⟨rfm2_37, hq38_1⟩ := hq38
          have rg39 : zRg (zV fm2_37) := zRg_bl i8 (by omega) hq38_1
          have gk40 : zGk fm fm2_37 := zGk_v i9 hq38_1 (by omega)
          refine ziinc3 (n' := 1) (a' := 1) (b' := 8) (lv' := fun v9 => [(4, .int v9), (0, .ref o), (1, .int n), (2, .int st0), (3, .int by9)]) hx hb dX12_believedBy_34 hl (k := 4) rfl (by decide) (fun _ => rfl) (zaddK (i := x_3.toInt) (j := 1) rfl (by decide) i5.1 n32 (Int.le_refl _) (Int.le_refl _) (by decide)) (fun x_41 ls hx_41 hl => ?_)
          refine lv_goto (tgt := 7) hx hb dX12_believedBy_37 (by decide) ?_
          have hl := lv_sub (l' := [(0, .ref o), (1, .int n), (2, .int st0), (3, .int by9), (4, .int x_41)]) hl [1, 2, 3, 4, 0] rfl
          have hP : va_P g.1 vwCl (List.flatten [bMo g o a th hi ac tp ba en tA fl de iD iO tU fm2_37 fk fa2_1 fc ft ff fb fi]) H := hP
          have hD : va_D A (List.flatten [bMo g o a th hi ac tp ba en tA fl de iD iO tU fm2_37 fk fa2_1 fc ft ff fb fi]) := hD
          exact ih7_11 x_41 fm2_37 ⟨(Int.le_trans (by decide) hx_41.2.1), hx_41.2.2⟩ rfm2_37 (zRsM_y i6 hx_41.1 (by omega) hq35_k hq38_1) (by first | omega | assumption | decide) rg39 gk40 H _ ls (zmK hx_41.1 (by decide) n32 (by decide) hk7_11)  hP hD hS (lv_sub hl [0, 1, 2, 3, 4] rfl)
        · skip
          refine lv_if_eq (tgt := 34) hx hb dX12_believedBy_24 (by decide) (fun _ => ?_) (fun c42 => absurd (by decide) c42)
          refine ziinc3 (n' := 1) (a' := 1) (b' := 8) (lv' := fun v9 => [(4, .int v9), (0, .ref o), (1, .int n), (2, .int st0), (3, .int by9)]) hx hb dX12_believedBy_34 hl (k := 4) rfl (by decide) (fun _ => rfl) (zaddK (i := x_3.toInt) (j := 1) rfl (by decide) i5.1 n32 (Int.le_refl _) (Int.le_refl _) (by decide)) (fun x_43 ls hx_43 hl => ?_)
          refine lv_goto (tgt := 7) hx hb dX12_believedBy_37 (by decide) ?_
          have hl := lv_sub (l' := [(0, .ref o), (1, .int n), (2, .int st0), (3, .int by9), (4, .int x_43)]) hl [1, 2, 3, 4, 0] rfl
          have hP : va_P g.1 vwCl (List.flatten [bMo g o a th hi ac tp ba en tA fl de iD iO tU fm_4 fk fa2_1 fc ft ff fb fi]) H := hP
          have hD : va_D A (List.flatten [bMo g o a th hi ac tp ba en tA fl de iD iO tU fm_4 fk fa2_1 fc ft ff fb fi]) := hD
          exact ih7_11 x_43 fm_4 ⟨(Int.le_trans (by decide) hx_43.2.1), hx_43.2.2⟩ rfm_4 (zRsM_n i6 hx_43.1 (by omega) hq35_k) (by first | omega | assumption | decide) i8 i9 H _ ls (zmK hx_43.1 (by decide) n32 (by decide) hk7_11)  hP hD hS (lv_sub hl [0, 1, 2, 3, 4] rfl)
  have hL0 : (0 : Int32).toInt = 0 := by decide
  have hP : va_P g.1 vwCl (List.flatten [bMo g o a th hi ac tp ba en tA fl de iD iO tU fm fk fa2_1 fc ft ff fb fi]) H := hP
  have hD : va_D A (List.flatten [bMo g o a th hi ac tp ba en tA fl de iD iO tU fm fk fa2_1 fc ft ff fb fi]) := hD
  exact LP7_10 _ 0 fm (by decide) rfm (zRsM_0 (by decide)) (by first | omega | assumption | decide) hrg (zGk_r _) H _ ls (Nat.lt_succ_self _)  hP hD hS (lv_sub hl [0, 1, 2, 3, 4] rfl)
set_option maxRecDepth 100000 in
set_option maxHeartbeats 4000000 in
theorem m_swaysC (l : Launch) (g : zG) (o : Nat) (a : Nat → Nat) (th : Int32) (hi : Int32) (ac : Int32) (tp : Int32) (ba : Int32) (en : Int32) (tA : Int32) (fl : Int32) (de : Int32) (iD : Int32) (iO : Int32) (tU : Int32) (fm : Nat → Int32) (fk : Nat → Int32) (fa : Nat → Int32) (fc : Nat → Int32) (ft : Nat → Int32) (ff : Nat → Int32) (fb : Nat → Int32) (fi : Nat → Int32) (x : Int32) (n : Int32) (L : zLw) (rfm : rM fm) (rfa : rM fa) (hiD : 0 ≤ iD.toInt ∧ iD.toInt ≤ 1) (hiO : 0 ≤ iO.toInt ∧ iO.toInt ≤ 1) (hrg : zRg (zV fm)) (hL : zLm L fm) : zM' g l yX12_sways (Cond.code yX12_sways cX12_sways 3 (some .int) :: zB) ({ frames := 34, cells := 0, slots := 0, locals := 761 } : Room) [.ref o, .int x, .int n] [bMo g o a th hi ac tp ba en tA fl de iD iO tU fm fk fa fc ft ff fb fi] (fun u : Int32 × (Nat → Int32) × (Nat → Int32) × Int32 × Int32 × Int32 × Int32 × Int32 × Int32 × Int32 × (Nat → Int32) × (Nat → Int32) × Int32 => (fun (th2 : Int32) (fm2 : Nat → Int32) (fa2 : Nat → Int32) (ba2 : Int32) (en2 : Int32) (at2 : Int32) (de2 : Int32) (iD2 : Int32) (iO2 : Int32) (tU2 : Int32) (ff2 : Nat → Int32) (fb2 : Nat → Int32) (q : Int32) => some (.int q)) (u.1) (u.2.1) (u.2.2.1) (u.2.2.2.1) (u.2.2.2.2.1) (u.2.2.2.2.2.1) (u.2.2.2.2.2.2.1) (u.2.2.2.2.2.2.2.1) (u.2.2.2.2.2.2.2.2.1) (u.2.2.2.2.2.2.2.2.2.1) (u.2.2.2.2.2.2.2.2.2.2.1) (u.2.2.2.2.2.2.2.2.2.2.2.1) (u.2.2.2.2.2.2.2.2.2.2.2.2)) (fun u : Int32 × (Nat → Int32) × (Nat → Int32) × Int32 × Int32 × Int32 × Int32 × Int32 × Int32 × Int32 × (Nat → Int32) × (Nat → Int32) × Int32 => (fun (th2 : Int32) (fm2 : Nat → Int32) (fa2 : Nat → Int32) (ba2 : Int32) (en2 : Int32) (at2 : Int32) (de2 : Int32) (iD2 : Int32) (iO2 : Int32) (tU2 : Int32) (ff2 : Nat → Int32) (fb2 : Nat → Int32) (q : Int32) => (0 ≤ iO2.toInt ∧ iO2.toInt ≤ 1) ∧ (0 ≤ iD2.toInt ∧ iD2.toInt ≤ 1) ∧ (rM fa2) ∧ (rM fm2) ∧ (fm = fm2)) (u.1) (u.2.1) (u.2.2.1) (u.2.2.2.1) (u.2.2.2.2.1) (u.2.2.2.2.2.1) (u.2.2.2.2.2.2.1) (u.2.2.2.2.2.2.2.1) (u.2.2.2.2.2.2.2.2.1) (u.2.2.2.2.2.2.2.2.2.1) (u.2.2.2.2.2.2.2.2.2.2.1) (u.2.2.2.2.2.2.2.2.2.2.2.1) (u.2.2.2.2.2.2.2.2.2.2.2.2)) (fun u : Int32 × (Nat → Int32) × (Nat → Int32) × Int32 × Int32 × Int32 × Int32 × Int32 × Int32 × Int32 × (Nat → Int32) × (Nat → Int32) × Int32 => (fun (th2 : Int32) (fm2 : Nat → Int32) (fa2 : Nat → Int32) (ba2 : Int32) (en2 : Int32) (at2 : Int32) (de2 : Int32) (iD2 : Int32) (iO2 : Int32) (tU2 : Int32) (ff2 : Nat → Int32) (fb2 : Nat → Int32) (q : Int32) => [bMo g o a th2 hi ac tp ba2 en2 at2 fl de2 iD2 iO2 tU2 fm2 fk fa2 fc ft ff2 fb2 fi]) (u.1) (u.2.1) (u.2.2.1) (u.2.2.2.1) (u.2.2.2.2.1) (u.2.2.2.2.2.1) (u.2.2.2.2.2.2.1) (u.2.2.2.2.2.2.2.1) (u.2.2.2.2.2.2.2.2.1) (u.2.2.2.2.2.2.2.2.2.1) (u.2.2.2.2.2.2.2.2.2.2.1) (u.2.2.2.2.2.2.2.2.2.2.2.1) (u.2.2.2.2.2.2.2.2.2.2.2.2)) := by
  refine zM'.of (cc := cX12_sways) (maxL := 3) (rt := (some .int)) (by decide) rfl (Nat.le_of_ble_eq_true rfl) ?_
  intro p e s m args below meth c A ls St hr hlocks hin hK hT hA hP hD hS hl
  obtain ⟨hx, hb, hml, hown, hts⟩ := id St
  have hl : lv_has ls 3 [(0, .ref o), (1, .int x), (2, .int n)] := hl
  refine lv_aload_n hx hb dX12_sways_0 rfl (lv_at hl 0 rfl) ?_
  refine lv_aload_n hx hb dX12_sways_1 rfl (lv_at hl 0 rfl) ?_
  refine lv_iload_n hx hb dX12_sways_2 rfl (lv_at hl 1 rfl) ?_
  refine mcallV' (g := g) (q0 := 0) (ci := 10) (As := [.int x]) (rest := [.ref o]) St hK hT hA hP hD hS hl.1 [0] [] rfl rfl rfl (m_isPerson l g o a th hi ac tp ba en tA fl de iD iO tU fm fk fa fc ft ff fb fi x rfm) (cwV 1 hts (zgL (zl4 k1033 k1034 k1035 k839) k836) rfl rfl rfl (by decide +kernel) ⟨Nat.le_of_ble_eq_true rfl, Nat.le_of_ble_eq_true rfl⟩) rfl rfl rfl rfl (Nat.le_of_ble_eq_true rfl) dX12_sways_3 ⟨(Nat.le_of_ble_eq_true rfl), (Nat.le_of_ble_eq_true rfl)⟩ (fun q_1 H locs hq2 hP hD hS => ?_)
  replace hq2 : (q_1 = 1 ∧ 0 ≤ x.toInt ∧ x.toInt ≤ 7 ∧ x.toInt < (fm 3).toInt ∨ q_1 = 0) := hq2
  have hP : va_P g.1 vwCl (List.flatten [bMo g o a th hi ac tp ba en tA fl de iD iO tU fm fk fa fc ft ff fb fi]) H := hP
  have hD : va_D A (List.flatten [bMo g o a th hi ac tp ba en tA fl de iD iO tU fm fk fa fc ft ff fb fi]) := hD
  refine W.widen (k := 0) (n := 0) (Nat.le_of_ble_eq_true rfl) (Nat.le_of_ble_eq_true rfl) ?_
  refine W.eq (g2 := F0 m 6 ls [.int q_1, .ref o]) rfl ?_
  rcases hq2 with ⟨rfl, hq2_k⟩ | rfl
  · skip
    refine lv_if_ne (tgt := 13) hx hb dX12_sways_6 (by decide) (fun _ => ?_) (fun c3 => absurd c3 (by decide))
    refine lv_iload_n hx hb dX12_sways_13 rfl (lv_at hl 2 rfl) ?_
    refine lv_iconst (v := 0) hx hb dX12_sways_14 (by decide) ?_
    refine lv_bipush (v := 30) hx hb dX12_sways_15 (by decide) ?_
    have hL0 : (0 : Int32).toInt = 0 := by decide
    have hL30 : (30 : Int32).toInt = 30 := by decide
    refine mcallS' (g := g) (As := [.int n, .int 0, .int 30]) (rest := [.ref o]) St hK hT hA hP hD hS hl.1 [] [0] rfl rfl rfl (m_isIn l g n 0 30 ) (va_cwS 3 hts (zgL (zl3 k837 k838 k839) k826) rfl rfl rfl (by decide +kernel) ⟨Nat.le_of_ble_eq_true rfl, Nat.le_of_ble_eq_true rfl⟩) rfl rfl (Nat.le_of_ble_eq_true rfl) dX12_sways_17 ⟨(Nat.le_of_ble_eq_true rfl), (Nat.le_of_ble_eq_true rfl)⟩ (fun q_4 H locs hq5 hP hD hS => ?_)
    replace hq5 : (q_4 = 1 ∧ (0 : Int32).toInt ≤ n.toInt ∧ n.toInt ≤ (30 : Int32).toInt ∨ q_4 = 0 ∧ (n.toInt < (0 : Int32).toInt ∨ (30 : Int32).toInt < n.toInt)) := hq5
    have hP : va_P g.1 vwCl (List.flatten [bMo g o a th hi ac tp ba en tA fl de iD iO tU fm fk fa fc ft ff fb fi]) H := hP
    have hD : va_D A (List.flatten [bMo g o a th hi ac tp ba en tA fl de iD iO tU fm fk fa fc ft ff fb fi]) := hD
    refine W.widen (k := 0) (n := 0) (Nat.le_of_ble_eq_true rfl) (Nat.le_of_ble_eq_true rfl) ?_
    refine W.eq (g2 := F0 m 20 ls [.int q_4, .ref o]) rfl ?_
    rcases hq5 with ⟨rfl, hq5_k⟩ | ⟨rfl, hq5_k⟩
    · skip
      refine lv_if_ne (tgt := 27) hx hb dX12_sways_20 (by decide) (fun _ => ?_) (fun c6 => absurd c6 (by decide))
      refine lv_iconst (v := 0) hx hb dX12_sways_27 (by decide) ?_
      refine va_put (D := g.1) (ci := 10) (v := .int 0) (ty := .int) (C := RX12) (T := TX12) (N := 20) hx hb hts izRX12 tyX12 tyX12_ok nmX12 hown hK hP hD hS 0 rfl rfl 0 (by decide) (hts _ k825) (fun _ h9 => h9) rfl (by decide +kernel) rfl rfl (Nat.le_of_ble_eq_true rfl) dX12_sways_28 (fun H locs hP hD hS => ?_)
      have hP : va_P g.1 vwCl (List.flatten [bMo g o a 0 hi ac tp ba en tA fl de iD iO tU fm fk fa fc ft ff fb fi]) H := hP
      have hD : va_D A (List.flatten [bMo g o a 0 hi ac tp ba en tA fl de iD iO tU fm fk fa fc ft ff fb fi]) := hD
      refine lv_aload_n hx hb dX12_sways_31 rfl (lv_at hl 0 rfl) ?_
      refine va_get (D := g.1) (ci := 10) (v := .int 0) (C := RX12) (T := TX12) (N := 20) hx hb hts izRX12 hown hK hP 0 rfl rfl 0 (by decide) (hts _ k825) (fun _ h9 => h9) rfl dX12_sways_32 ?_
      refine lv_if_le (tgt := 42) hx hb dX12_sways_35 (by decide) (fun _ => ?_) (fun c7 => absurd (by decide) c7)
      refine lv_aload_n hx hb dX12_sways_42 rfl (lv_at hl 0 rfl) ?_
      refine lv_iload_n hx hb dX12_sways_43 rfl (lv_at hl 2 rfl) ?_
      refine lv_iconst (v := 1) hx hb dX12_sways_44 (by decide) ?_
      refine lv_iload_n hx hb dX12_sways_45 rfl (lv_at hl 1 rfl) ?_
      refine lv_ishl hx hb dX12_sways_46 ?_
      refine zgb (zshl1 (j := x.toInt) rfl 7 128 (by decide) (by decide) (by omega)) (fun x_8 hx_8 => ?_)
      refine lv_bipush (v := 10) hx hb dX12_sways_47 (by decide) ?_
      refine mcallV' (g := g) (q0 := 0) (ci := 10) (As := [.int n, .int x_8, .int 10]) (rest := []) St hK hT hA hP hD hS hl.1 [0] [] rfl rfl rfl (m_believedByC l g o a 0 hi ac tp ba en tA fl de iD iO tU fm fk fa fc ft ff fb fi n x_8 10 L rfm rfa hiD hiO (by first | assumption | omega | decide | exact Or.inl (by decide) | exact Or.inr (by decide)) hrg hL) (cwV 3 hts (zgL (zl4 k1066 k1067 k1068 k839) k1064) rfl rfl rfl (by decide +kernel) ⟨Nat.le_of_ble_eq_true rfl, Nat.le_of_ble_eq_true rfl⟩) rfl rfl rfl rfl (Nat.le_of_ble_eq_true rfl) dX12_sways_49 ⟨(Nat.le_of_ble_eq_true rfl), (Nat.le_of_ble_eq_true rfl)⟩ (fun u_ H locs hq21 hP hD hS => ?_)
      obtain ⟨fm2_9, fa2_10, ba2_11, en2_12, at2_13, de2_14, iD2_15, iO2_16, tU2_17, ff2_18, fb2_19, q_20⟩ := u_
      replace hq21 : (0 ≤ iO2_16.toInt ∧ iO2_16.toInt ≤ 1) ∧ (0 ≤ iD2_15.toInt ∧ iD2_15.toInt ≤ 1) ∧ (rM fa2_10) ∧ (rM fm2_9) ∧ (q_20 = zBl9 (zLk L x_8 10 n.toInt.toNat (zM9 fm))) ∧ (fm = fm2_9) := hq21
      have hP : va_P g.1 vwCl (List.flatten [bMo g o a 0 hi ac tp ba2_11 en2_12 at2_13 fl de2_14 iD2_15 iO2_16 tU2_17 fm2_9 fk fa2_10 fc ft ff2_18 fb2_19 fi]) H := hP
      have hD : va_D A (List.flatten [bMo g o a 0 hi ac tp ba2_11 en2_12 at2_13 fl de2_14 iD2_15 iO2_16 tU2_17 fm2_9 fk fa2_10 fc ft ff2_18 fb2_19 fi]) := hD
      refine W.widen (k := 0) (n := 0) (Nat.le_of_ble_eq_true rfl) (Nat.le_of_ble_eq_true rfl) ?_
      refine W.eq (g2 := F0 m 52 ls [.int q_20]) rfl ?_
      obtain ⟨hq21_0, hq21_1, rfa2_10, rfm2_9, hq21_4, hq21_5⟩ := hq21
      rcases hq21_5 with rfl
      · skip
        refine lv_aload_n hx hb dX12_sways_52 rfl (lv_at hl 0 rfl) ?_
        refine lv_iload_n hx hb dX12_sways_53 rfl (lv_at hl 2 rfl) ?_
        refine lv_iconst (v := 0) hx hb dX12_sways_54 (by decide) ?_
        refine lv_iconst (v := 0) hx hb dX12_sways_55 (by decide) ?_
        refine mcallV' (g := g) (q0 := 0) (ci := 10) (As := [.int n, .int 0, .int 0]) (rest := [.int q_20]) St hK hT hA hP hD hS hl.1 [0] [] rfl rfl rfl (m_believedByC l g o a 0 hi ac tp ba2_11 en2_12 at2_13 fl de2_14 iD2_15 iO2_16 tU2_17 fm fk fa2_10 fc ft ff2_18 fb2_19 fi n 0 0 L rfm rfa2_10 hq21_1 hq21_0 (by first | assumption | omega | decide | exact Or.inl (by decide) | exact Or.inr (by decide)) hrg hL) (cwV 3 hts (zgL (zl4 k1066 k1067 k1068 k839) k1064) rfl rfl rfl (by decide +kernel) ⟨Nat.le_of_ble_eq_true rfl, Nat.le_of_ble_eq_true rfl⟩) rfl rfl rfl rfl (Nat.le_of_ble_eq_true rfl) dX12_sways_56 ⟨(Nat.le_of_ble_eq_true rfl), (Nat.le_of_ble_eq_true rfl)⟩ (fun u_ H locs hq34 hP hD hS => ?_)
        obtain ⟨fm2_22, fa2_23, ba2_24, en2_25, at2_26, de2_27, iD2_28, iO2_29, tU2_30, ff2_31, fb2_32, q_33⟩ := u_
        replace hq34 : (0 ≤ iO2_29.toInt ∧ iO2_29.toInt ≤ 1) ∧ (0 ≤ iD2_28.toInt ∧ iD2_28.toInt ≤ 1) ∧ (rM fa2_23) ∧ (rM fm2_22) ∧ (q_33 = zBl9 (zLk L 0 0 n.toInt.toNat (zM9 fm))) ∧ (fm = fm2_22) := hq34
        have hP : va_P g.1 vwCl (List.flatten [bMo g o a 0 hi ac tp ba2_24 en2_25 at2_26 fl de2_27 iD2_28 iO2_29 tU2_30 fm2_22 fk fa2_23 fc ft ff2_31 fb2_32 fi]) H := hP
        have hD : va_D A (List.flatten [bMo g o a 0 hi ac tp ba2_24 en2_25 at2_26 fl de2_27 iD2_28 iO2_29 tU2_30 fm2_22 fk fa2_23 fc ft ff2_31 fb2_32 fi]) := hD
        refine W.widen (k := 0) (n := 0) (Nat.le_of_ble_eq_true rfl) (Nat.le_of_ble_eq_true rfl) ?_
        refine W.eq (g2 := F0 m 59 ls [.int q_33, .int q_20]) rfl ?_
        obtain ⟨hq34_0, hq34_1, rfa2_23, rfm2_22, hq34_4, hq34_5⟩ := hq34
        rcases hq34_5 with rfl
        · skip
          refine lv_isub hx hb dX12_sways_59 ?_
          refine zg (fun x_35 => ?_)
          have hP : va_P g.1 vwCl (List.flatten [bMo g o a 0 hi ac tp ba2_24 en2_25 at2_26 fl de2_27 iD2_28 iO2_29 tU2_30 fm fk fa2_23 fc ft ff2_31 fb2_32 fi]) H := hP
          have hD : va_D A (List.flatten [bMo g o a 0 hi ac tp ba2_24 en2_25 at2_26 fl de2_27 iD2_28 iO2_29 tU2_30 fm fk fa2_23 fc ft ff2_31 fb2_32 fi]) := hD
          exact mret_i hx hb hr hlocks hS (Nat.le_of_ble_eq_true rfl) (Nat.le_of_ble_eq_true rfl) dX12_sways_60 ((0 : Int32), fm, fa2_23, ba2_24, en2_25, at2_26, de2_27, iD2_28, iO2_29, tU2_30, ff2_31, fb2_32, x_35) rfl (show (0 ≤ iO2_29.toInt ∧ iO2_29.toInt ≤ 1) ∧ (0 ≤ iD2_28.toInt ∧ iD2_28.toInt ≤ 1) ∧ (rM fa2_23) ∧ (rM fm) ∧ (fm = fm) from ⟨(by first | assumption | omega | decide), (by first | assumption | omega | decide), (by first | assumption | omega | decide), (by first | assumption | omega | decide), rfl⟩) hP hD
    · skip
      refine lv_if_ne (tgt := 27) hx hb dX12_sways_20 (by decide) (fun c36 => absurd (by decide) c36) (fun _ => ?_)
      refine lv_iconst (v := 2) hx hb dX12_sways_23 (by decide) ?_
      refine lv_goto (tgt := 28) hx hb dX12_sways_24 (by decide) ?_
      refine va_put (D := g.1) (ci := 10) (v := .int 2) (ty := .int) (C := RX12) (T := TX12) (N := 20) hx hb hts izRX12 tyX12 tyX12_ok nmX12 hown hK hP hD hS 0 rfl rfl 0 (by decide) (hts _ k825) (fun _ h9 => h9) rfl (by decide +kernel) rfl rfl (Nat.le_of_ble_eq_true rfl) dX12_sways_28 (fun H locs hP hD hS => ?_)
      have hP : va_P g.1 vwCl (List.flatten [bMo g o a 2 hi ac tp ba en tA fl de iD iO tU fm fk fa fc ft ff fb fi]) H := hP
      have hD : va_D A (List.flatten [bMo g o a 2 hi ac tp ba en tA fl de iD iO tU fm fk fa fc ft ff fb fi]) := hD
      refine lv_aload_n hx hb dX12_sways_31 rfl (lv_at hl 0 rfl) ?_
      refine va_get (D := g.1) (ci := 10) (v := .int 2) (C := RX12) (T := TX12) (N := 20) hx hb hts izRX12 hown hK hP 0 rfl rfl 0 (by decide) (hts _ k825) (fun _ h9 => h9) rfl dX12_sways_32 ?_
      refine lv_if_le (tgt := 42) hx hb dX12_sways_35 (by decide) (fun c37 => absurd c37 (by decide)) (fun _ => ?_)
      refine lv_iconst (v := 0) hx hb dX12_sways_38 (by decide) ?_
      refine lv_goto (tgt := 60) hx hb dX12_sways_39 (by decide) ?_
      have hP : va_P g.1 vwCl (List.flatten [bMo g o a 2 hi ac tp ba en tA fl de iD iO tU fm fk fa fc ft ff fb fi]) H := hP
      have hD : va_D A (List.flatten [bMo g o a 2 hi ac tp ba en tA fl de iD iO tU fm fk fa fc ft ff fb fi]) := hD
      exact mret_i hx hb hr hlocks hS (Nat.le_of_ble_eq_true rfl) (Nat.le_of_ble_eq_true rfl) dX12_sways_60 ((2 : Int32), fm, fa, ba, en, tA, de, iD, iO, tU, ff, fb, (0 : Int32)) rfl (show (0 ≤ iO.toInt ∧ iO.toInt ≤ 1) ∧ (0 ≤ iD.toInt ∧ iD.toInt ≤ 1) ∧ (rM fa) ∧ (rM fm) ∧ (fm = fm) from ⟨(by first | assumption | omega | decide), (by first | assumption | omega | decide), (by first | assumption | omega | decide), (by first | assumption | omega | decide), rfl⟩) hP hD
  · skip
    refine lv_if_ne (tgt := 13) hx hb dX12_sways_6 (by decide) (fun c38 => absurd (by decide) c38) (fun _ => ?_)
    refine lv_iconst (v := 1) hx hb dX12_sways_9 (by decide) ?_
    refine lv_goto (tgt := 28) hx hb dX12_sways_10 (by decide) ?_
    refine va_put (D := g.1) (ci := 10) (v := .int 1) (ty := .int) (C := RX12) (T := TX12) (N := 20) hx hb hts izRX12 tyX12 tyX12_ok nmX12 hown hK hP hD hS 0 rfl rfl 0 (by decide) (hts _ k825) (fun _ h9 => h9) rfl (by decide +kernel) rfl rfl (Nat.le_of_ble_eq_true rfl) dX12_sways_28 (fun H locs hP hD hS => ?_)
    have hP : va_P g.1 vwCl (List.flatten [bMo g o a 1 hi ac tp ba en tA fl de iD iO tU fm fk fa fc ft ff fb fi]) H := hP
    have hD : va_D A (List.flatten [bMo g o a 1 hi ac tp ba en tA fl de iD iO tU fm fk fa fc ft ff fb fi]) := hD
    refine lv_aload_n hx hb dX12_sways_31 rfl (lv_at hl 0 rfl) ?_
    refine va_get (D := g.1) (ci := 10) (v := .int 1) (C := RX12) (T := TX12) (N := 20) hx hb hts izRX12 hown hK hP 0 rfl rfl 0 (by decide) (hts _ k825) (fun _ h9 => h9) rfl dX12_sways_32 ?_
    refine lv_if_le (tgt := 42) hx hb dX12_sways_35 (by decide) (fun c39 => absurd c39 (by decide)) (fun _ => ?_)
    refine lv_iconst (v := 0) hx hb dX12_sways_38 (by decide) ?_
    refine lv_goto (tgt := 60) hx hb dX12_sways_39 (by decide) ?_
    have hP : va_P g.1 vwCl (List.flatten [bMo g o a 1 hi ac tp ba en tA fl de iD iO tU fm fk fa fc ft ff fb fi]) H := hP
    have hD : va_D A (List.flatten [bMo g o a 1 hi ac tp ba en tA fl de iD iO tU fm fk fa fc ft ff fb fi]) := hD
    exact mret_i hx hb hr hlocks hS (Nat.le_of_ble_eq_true rfl) (Nat.le_of_ble_eq_true rfl) dX12_sways_60 ((1 : Int32), fm, fa, ba, en, tA, de, iD, iO, tU, ff, fb, (0 : Int32)) rfl (show (0 ≤ iO.toInt ∧ iO.toInt ≤ 1) ∧ (0 ≤ iD.toInt ∧ iD.toInt ≤ 1) ∧ (rM fa) ∧ (rM fm) ∧ (fm = fm) from ⟨(by first | assumption | omega | decide), (by first | assumption | omega | decide), (by first | assumption | omega | decide), (by first | assumption | omega | decide), rfl⟩) hP hD
set_option maxRecDepth 100000 in
set_option maxHeartbeats 4000000 in
theorem m_guruC (l : Launch) (g : zG) (o : Nat) (a : Nat → Nat) (th : Int32) (hi : Int32) (ac : Int32) (tp : Int32) (ba : Int32) (en : Int32) (tA : Int32) (fl : Int32) (de : Int32) (iD : Int32) (iO : Int32) (tU : Int32) (fm : Nat → Int32) (fk : Nat → Int32) (fa : Nat → Int32) (fc : Nat → Int32) (ft : Nat → Int32) (ff : Nat → Int32) (fb : Nat → Int32) (fi : Nat → Int32) (n : Int32) (L : zLw) (rfm : rM fm) (rfa : rM fa) (hiD : 0 ≤ iD.toInt ∧ iD.toInt ≤ 1) (hiO : 0 ≤ iO.toInt ∧ iO.toInt ≤ 1) (hrg : zRg (zV fm)) (hL : zLm L fm) : zM' g l yX12_guru (Cond.code yX12_guru cX12_guru 6 (some .int) :: zB) ({ frames := 34, cells := 0, slots := 0, locals := 761 } : Room) [.ref o, .int n] [bMo g o a th hi ac tp ba en tA fl de iD iO tU fm fk fa fc ft ff fb fi] (fun u : Int32 × (Nat → Int32) × (Nat → Int32) × Int32 × Int32 × Int32 × Int32 × Int32 × Int32 × Int32 × (Nat → Int32) × (Nat → Int32) × Int32 => (fun (th2 : Int32) (fm2 : Nat → Int32) (fa2 : Nat → Int32) (ba2 : Int32) (en2 : Int32) (at2 : Int32) (de2 : Int32) (iD2 : Int32) (iO2 : Int32) (tU2 : Int32) (ff2 : Nat → Int32) (fb2 : Nat → Int32) (q : Int32) => some (.int q)) (u.1) (u.2.1) (u.2.2.1) (u.2.2.2.1) (u.2.2.2.2.1) (u.2.2.2.2.2.1) (u.2.2.2.2.2.2.1) (u.2.2.2.2.2.2.2.1) (u.2.2.2.2.2.2.2.2.1) (u.2.2.2.2.2.2.2.2.2.1) (u.2.2.2.2.2.2.2.2.2.2.1) (u.2.2.2.2.2.2.2.2.2.2.2.1) (u.2.2.2.2.2.2.2.2.2.2.2.2)) (fun u : Int32 × (Nat → Int32) × (Nat → Int32) × Int32 × Int32 × Int32 × Int32 × Int32 × Int32 × Int32 × (Nat → Int32) × (Nat → Int32) × Int32 => (fun (th2 : Int32) (fm2 : Nat → Int32) (fa2 : Nat → Int32) (ba2 : Int32) (en2 : Int32) (at2 : Int32) (de2 : Int32) (iD2 : Int32) (iO2 : Int32) (tU2 : Int32) (ff2 : Nat → Int32) (fb2 : Nat → Int32) (q : Int32) => (0 ≤ iO2.toInt ∧ iO2.toInt ≤ 1) ∧ (0 ≤ iD2.toInt ∧ iD2.toInt ≤ 1) ∧ (rM fa2) ∧ (rM fm2) ∧ (fm = fm2)) (u.1) (u.2.1) (u.2.2.1) (u.2.2.2.1) (u.2.2.2.2.1) (u.2.2.2.2.2.1) (u.2.2.2.2.2.2.1) (u.2.2.2.2.2.2.2.1) (u.2.2.2.2.2.2.2.2.1) (u.2.2.2.2.2.2.2.2.2.1) (u.2.2.2.2.2.2.2.2.2.2.1) (u.2.2.2.2.2.2.2.2.2.2.2.1) (u.2.2.2.2.2.2.2.2.2.2.2.2)) (fun u : Int32 × (Nat → Int32) × (Nat → Int32) × Int32 × Int32 × Int32 × Int32 × Int32 × Int32 × Int32 × (Nat → Int32) × (Nat → Int32) × Int32 => (fun (th2 : Int32) (fm2 : Nat → Int32) (fa2 : Nat → Int32) (ba2 : Int32) (en2 : Int32) (at2 : Int32) (de2 : Int32) (iD2 : Int32) (iO2 : Int32) (tU2 : Int32) (ff2 : Nat → Int32) (fb2 : Nat → Int32) (q : Int32) => [bMo g o a th2 hi ac tp ba2 en2 at2 fl de2 iD2 iO2 tU2 fm2 fk fa2 fc ft ff2 fb2 fi]) (u.1) (u.2.1) (u.2.2.1) (u.2.2.2.1) (u.2.2.2.2.1) (u.2.2.2.2.2.1) (u.2.2.2.2.2.2.1) (u.2.2.2.2.2.2.2.1) (u.2.2.2.2.2.2.2.2.1) (u.2.2.2.2.2.2.2.2.2.1) (u.2.2.2.2.2.2.2.2.2.2.1) (u.2.2.2.2.2.2.2.2.2.2.2.1) (u.2.2.2.2.2.2.2.2.2.2.2.2)) := by
  refine zM'.of (cc := cX12_guru) (maxL := 6) (rt := (some .int)) (by decide) rfl (Nat.le_of_ble_eq_true rfl) ?_
  intro p e s m args below meth c A ls St hr hlocks hin hK hT hA hP hD hS hl
  obtain ⟨hx, hb, hml, hown, hts⟩ := id St
  have hl : lv_has ls 6 [(0, .ref o), (1, .int n)] := hl
  refine lv_aload_n hx hb dX12_guru_0 rfl (lv_at hl 0 rfl) ?_
  refine lv_iload_n hx hb dX12_guru_1 rfl (lv_at hl 1 rfl) ?_
  refine lv_iconst (v := 0) hx hb dX12_guru_2 (by decide) ?_
  refine lv_bipush (v := 30) hx hb dX12_guru_3 (by decide) ?_
  have hL0 : (0 : Int32).toInt = 0 := by decide
  have hL30 : (30 : Int32).toInt = 30 := by decide
  refine mcallS' (g := g) (As := [.int n, .int 0, .int 30]) (rest := [.ref o]) St hK hT hA hP hD hS hl.1 [] [0] rfl rfl rfl (m_isIn l g n 0 30 ) (va_cwS 3 hts (zgL (zl3 k837 k838 k839) k826) rfl rfl rfl (by decide +kernel) ⟨Nat.le_of_ble_eq_true rfl, Nat.le_of_ble_eq_true rfl⟩) rfl rfl (Nat.le_of_ble_eq_true rfl) dX12_guru_5 ⟨(Nat.le_of_ble_eq_true rfl), (Nat.le_of_ble_eq_true rfl)⟩ (fun q_1 H locs hq2 hP hD hS => ?_)
  replace hq2 : (q_1 = 1 ∧ (0 : Int32).toInt ≤ n.toInt ∧ n.toInt ≤ (30 : Int32).toInt ∨ q_1 = 0 ∧ (n.toInt < (0 : Int32).toInt ∨ (30 : Int32).toInt < n.toInt)) := hq2
  have hP : va_P g.1 vwCl (List.flatten [bMo g o a th hi ac tp ba en tA fl de iD iO tU fm fk fa fc ft ff fb fi]) H := hP
  have hD : va_D A (List.flatten [bMo g o a th hi ac tp ba en tA fl de iD iO tU fm fk fa fc ft ff fb fi]) := hD
  refine W.widen (k := 0) (n := 0) (Nat.le_of_ble_eq_true rfl) (Nat.le_of_ble_eq_true rfl) ?_
  refine W.eq (g2 := F0 m 8 ls [.int q_1, .ref o]) rfl ?_
  rcases hq2 with ⟨rfl, hq2_k⟩ | ⟨rfl, hq2_k⟩
  · skip
    refine lv_if_ne (tgt := 15) hx hb dX12_guru_8 (by decide) (fun _ => ?_) (fun c3 => absurd c3 (by decide))
    refine lv_iconst (v := 0) hx hb dX12_guru_15 (by decide) ?_
    refine va_put (D := g.1) (ci := 10) (v := .int 0) (ty := .int) (C := RX12) (T := TX12) (N := 20) hx hb hts izRX12 tyX12 tyX12_ok nmX12 hown hK hP hD hS 0 rfl rfl 0 (by decide) (hts _ k825) (fun _ h9 => h9) rfl (by decide +kernel) rfl rfl (Nat.le_of_ble_eq_true rfl) dX12_guru_16 (fun H locs hP hD hS => ?_)
    have hP : va_P g.1 vwCl (List.flatten [bMo g o a 0 hi ac tp ba en tA fl de iD iO tU fm fk fa fc ft ff fb fi]) H := hP
    have hD : va_D A (List.flatten [bMo g o a 0 hi ac tp ba en tA fl de iD iO tU fm fk fa fc ft ff fb fi]) := hD
    refine lv_aload_n hx hb dX12_guru_19 rfl (lv_at hl 0 rfl) ?_
    refine va_get (D := g.1) (ci := 10) (v := .int 0) (C := RX12) (T := TX12) (N := 20) hx hb hts izRX12 hown hK hP 0 rfl rfl 0 (by decide) (hts _ k825) (fun _ h9 => h9) rfl dX12_guru_20 ?_
    refine lv_if_le (tgt := 28) hx hb dX12_guru_23 (by decide) (fun _ => ?_) (fun c4 => absurd (by decide) c4)
    refine lv_iconst (v := (-1)) hx hb dX12_guru_28 (by decide) ?_
    refine lv_istore_n (lv' := [(2, .int (-1)), (0, .ref o), (1, .int n)]) hx hb dX12_guru_29 rfl hl (by decide) rfl (fun ls hl => ?_)
    refine lv_iconst (v := 0) hx hb dX12_guru_30 (by decide) ?_
    refine lv_istore_n (lv' := [(3, .int 0), (2, .int (-1)), (0, .ref o), (1, .int n)]) hx hb dX12_guru_31 rfl hl (by decide) rfl (fun ls hl => ?_)
    refine lv_iconst (v := 0) hx hb dX12_guru_32 (by decide) ?_
    refine lv_istore (lv' := [(4, .int 0), (3, .int 0), (2, .int (-1)), (0, .ref o), (1, .int n)]) hx hb dX12_guru_33 hl (by decide) rfl (fun ls hl => ?_)
    have hl := lv_sub (l' := [(0, .ref o), (1, .int n), (2, .int (-1)), (3, .int 0), (4, .int 0)]) hl [3, 4, 2, 1, 0] rfl
    have LP35_22 : ∀ (kf : Nat) (x_5 : Int32) (x_6 : Int32) (x_7 : Int32) (x_8 : Int32) (x_9 : Int32) (x_10 : Int32) (x_11 : Int32) (x_12 : Int32) (x_13 : Int32) (x_14 : Int32) (fa_15 : Nat → Int32) (ff_16 : Nat → Int32) (fb_17 : Nat → Int32), ((-1) ≤ x_5.toInt ∧ x_5.toInt ≤ 7) → (0 ≤ x_7.toInt ∧ x_7.toInt ≤ 8) → (0 ≤ x_12.toInt ∧ x_12.toInt ≤ 1) → (0 ≤ x_13.toInt ∧ x_13.toInt ≤ 1) → (rM fa_15) → ∀ (H : Heap) (locs : List Loc) (ls : Array Slot), ((9 - x_7.toInt).toNat) < kf → va_P g.1 vwCl (List.flatten [bMo g o a 0 hi ac tp x_8 x_9 x_10 fl x_11 x_12 x_13 x_14 fm fk fa_15 fc ft ff_16 fb_17 fi]) H → va_D A (List.flatten [bMo g o a 0 hi ac tp x_8 x_9 x_10 fl x_11 x_12 x_13 x_14 fm fk fa_15 fc ft ff_16 fb_17 fi]) → va_S A s.heap H locs → lv_has ls 6 [(0, .ref o), (1, .int n), (2, .int x_5), (3, .int x_6), (4, .int x_7)] → W p l e ({ frames := 34, cells := 0, slots := 0, locals := 761 } : Room) s m args below meth c H locs (0) (0) (zF g (fun u : Int32 × (Nat → Int32) × (Nat → Int32) × Int32 × Int32 × Int32 × Int32 × Int32 × Int32 × Int32 × (Nat → Int32) × (Nat → Int32) × Int32 => (fun (th2 : Int32) (fm2 : Nat → Int32) (fa2 : Nat → Int32) (ba2 : Int32) (en2 : Int32) (at2 : Int32) (de2 : Int32) (iD2 : Int32) (iO2 : Int32) (tU2 : Int32) (ff2 : Nat → Int32) (fb2 : Nat → Int32) (q : Int32) => some (.int q)) (u.1) (u.2.1) (u.2.2.1) (u.2.2.2.1) (u.2.2.2.2.1) (u.2.2.2.2.2.1) (u.2.2.2.2.2.2.1) (u.2.2.2.2.2.2.2.1) (u.2.2.2.2.2.2.2.2.1) (u.2.2.2.2.2.2.2.2.2.1) (u.2.2.2.2.2.2.2.2.2.2.1) (u.2.2.2.2.2.2.2.2.2.2.2.1) (u.2.2.2.2.2.2.2.2.2.2.2.2)) (fun u : Int32 × (Nat → Int32) × (Nat → Int32) × Int32 × Int32 × Int32 × Int32 × Int32 × Int32 × Int32 × (Nat → Int32) × (Nat → Int32) × Int32 => (fun (th2 : Int32) (fm2 : Nat → Int32) (fa2 : Nat → Int32) (ba2 : Int32) (en2 : Int32) (at2 : Int32) (de2 : Int32) (iD2 : Int32) (iO2 : Int32) (tU2 : Int32) (ff2 : Nat → Int32) (fb2 : Nat → Int32) (q : Int32) => (0 ≤ iO2.toInt ∧ iO2.toInt ≤ 1) ∧ (0 ≤ iD2.toInt ∧ iD2.toInt ≤ 1) ∧ (rM fa2) ∧ (rM fm2) ∧ (fm = fm2)) (u.1) (u.2.1) (u.2.2.1) (u.2.2.2.1) (u.2.2.2.2.1) (u.2.2.2.2.2.1) (u.2.2.2.2.2.2.1) (u.2.2.2.2.2.2.2.1) (u.2.2.2.2.2.2.2.2.1) (u.2.2.2.2.2.2.2.2.2.1) (u.2.2.2.2.2.2.2.2.2.2.1) (u.2.2.2.2.2.2.2.2.2.2.2.1) (u.2.2.2.2.2.2.2.2.2.2.2.2)) (fun u : Int32 × (Nat → Int32) × (Nat → Int32) × Int32 × Int32 × Int32 × Int32 × Int32 × Int32 × Int32 × (Nat → Int32) × (Nat → Int32) × Int32 => (fun (th2 : Int32) (fm2 : Nat → Int32) (fa2 : Nat → Int32) (ba2 : Int32) (en2 : Int32) (at2 : Int32) (de2 : Int32) (iD2 : Int32) (iO2 : Int32) (tU2 : Int32) (ff2 : Nat → Int32) (fb2 : Nat → Int32) (q : Int32) => [bMo g o a th2 hi ac tp ba2 en2 at2 fl de2 iD2 iO2 tU2 fm2 fk fa2 fc ft ff2 fb2 fi]) (u.1) (u.2.1) (u.2.2.1) (u.2.2.2.1) (u.2.2.2.2.1) (u.2.2.2.2.2.1) (u.2.2.2.2.2.2.1) (u.2.2.2.2.2.2.2.1) (u.2.2.2.2.2.2.2.2.1) (u.2.2.2.2.2.2.2.2.2.1) (u.2.2.2.2.2.2.2.2.2.2.1) (u.2.2.2.2.2.2.2.2.2.2.2.1) (u.2.2.2.2.2.2.2.2.2.2.2.2)) ({ frames := 34, cells := 0, slots := 0, locals := 761 } : Room) below args s A) (F0 m 35 ls []) := by
      intro kf
      induction kf with
      | zero => intro x_5 x_6 x_7 x_8 x_9 x_10 x_11 x_12 x_13 x_14 fa_15 ff_16 fb_17 i18 i19 i20 i21 rfa_15 H locs ls hk; exact absurd hk (Nat.not_lt_zero _)
      | succ kf ih35_23 =>
        intro x_5 x_6 x_7 x_8 x_9 x_10 x_11 x_12 x_13 x_14 fa_15 ff_16 fb_17 i18 i19 i20 i21 rfa_15 H locs ls hk35_23 hP hD hS hl
        refine lv_iload hx hb dX12_guru_35 (lv_at hl 4 rfl) ?_
        refine lv_aload_n hx hb dX12_guru_37 rfl (lv_at hl 0 rfl) ?_
        refine va_get (D := g.1) (ci := 10) (v := .ref (a 0)) (C := RX12) (T := TX12) (N := 20) hx hb hts izRX12 hown hK hP 0 rfl rfl 1 (by decide) (hts _ k815) (fun _ h9 => h9) rfl dX12_guru_38 ?_
        refine lv_iconst (v := 3) hx hb dX12_guru_41 (by decide) ?_
        refine va_iald hx hb hK hP 1 0 rfl rfl (zin rfl) dX12_guru_42 ?_
        refine zgq (r := fm 3) rfl (rM3 rfm) (fun x_24 hx_24 => ?_)
        refine lv_icmp_ge (tgt := 107) hx hb dX12_guru_43 (by decide) (fun cb9 => ?_) (fun cb9 => ?_)
        · skip
          have c25 : x_24.toInt ≤ x_7.toInt := zle cb9 rfl rfl
          refine lv_iload_n hx hb dX12_guru_107 rfl (lv_at hl 2 rfl) ?_
          have hP : va_P g.1 vwCl (List.flatten [bMo g o a 0 hi ac tp x_8 x_9 x_10 fl x_11 x_12 x_13 x_14 fm fk fa_15 fc ft ff_16 fb_17 fi]) H := hP
          have hD : va_D A (List.flatten [bMo g o a 0 hi ac tp x_8 x_9 x_10 fl x_11 x_12 x_13 x_14 fm fk fa_15 fc ft ff_16 fb_17 fi]) := hD
          exact mret_i hx hb hr hlocks hS (Nat.le_of_ble_eq_true rfl) (Nat.le_of_ble_eq_true rfl) dX12_guru_108 ((0 : Int32), fm, fa_15, x_8, x_9, x_10, x_11, x_12, x_13, x_14, ff_16, fb_17, x_5) rfl (show (0 ≤ x_13.toInt ∧ x_13.toInt ≤ 1) ∧ (0 ≤ x_12.toInt ∧ x_12.toInt ≤ 1) ∧ (rM fa_15) ∧ (rM fm) ∧ (fm = fm) from ⟨(by first | assumption | omega | decide), (by first | assumption | omega | decide), (by first | assumption | omega | decide), (by first | assumption | omega | decide), rfl⟩) hP hD
        · skip
          have c26 : x_7.toInt < x_24.toInt := zlti (Int32.not_le.mp cb9) rfl rfl
          have n27 : x_7.toInt ≤ 7 := zL1 (b := 8) c26 hx_24.2.1 (by decide)
          have n28 : 1 ≤ x_24.toInt := zL2 (a := 0) c26 i19.1 (by decide)
          refine lv_aload_n hx hb dX12_guru_46 rfl (lv_at hl 0 rfl) ?_
          refine lv_iload hx hb dX12_guru_47 (lv_at hl 4 rfl) ?_
          refine mcallV' (g := g) (q0 := 0) (ci := 10) (As := [.int x_7]) (rest := []) St hK hT hA hP hD hS hl.1 [0] [] rfl rfl rfl (m_isHere l g o a 0 hi ac tp x_8 x_9 x_10 fl x_11 x_12 x_13 x_14 fm fk fa_15 fc ft ff_16 fb_17 fi x_7 (⟨i19.1, n27⟩)) (cwV 1 hts (zgL (zl4 k846 k847 k848 k839) k841) rfl rfl rfl (by decide +kernel) ⟨Nat.le_of_ble_eq_true rfl, Nat.le_of_ble_eq_true rfl⟩) rfl rfl rfl rfl (Nat.le_of_ble_eq_true rfl) dX12_guru_49 ⟨(Nat.le_of_ble_eq_true rfl), (Nat.le_of_ble_eq_true rfl)⟩ (fun q_29 H locs hq30 hP hD hS => ?_)
          replace hq30 : (q_29 = 0 ∨ q_29 = 1) := hq30
          have hP : va_P g.1 vwCl (List.flatten [bMo g o a 0 hi ac tp x_8 x_9 x_10 fl x_11 x_12 x_13 x_14 fm fk fa_15 fc ft ff_16 fb_17 fi]) H := hP
          have hD : va_D A (List.flatten [bMo g o a 0 hi ac tp x_8 x_9 x_10 fl x_11 x_12 x_13 x_14 fm fk fa_15 fc ft ff_16 fb_17 fi]) := hD
          refine W.widen (k := 0) (n := 0) (Nat.le_of_ble_eq_true rfl) (Nat.le_of_ble_eq_true rfl) ?_
          refine W.eq (g2 := F0 m 52 ls [.int q_29]) rfl ?_
          rcases hq30 with rfl | rfl
          · skip
            refine lv_if_eq (tgt := 69) hx hb dX12_guru_52 (by decide) (fun _ => ?_) (fun c31 => absurd (by decide) c31)
            refine lv_iconst (v := 0) hx hb dX12_guru_69 (by decide) ?_
            refine lv_istore (lv' := [(5, .int 0), (0, .ref o), (1, .int n), (2, .int x_5), (3, .int x_6), (4, .int x_7)]) hx hb dX12_guru_70 hl (by decide) rfl (fun ls hl => ?_)
            refine lv_aload_n hx hb dX12_guru_72 rfl (lv_at hl 1 rfl) ?_
            refine lv_iload hx hb dX12_guru_73 (lv_at hl 5 rfl) ?_
            refine mcallV' (g := g) (q0 := 0) (ci := 10) (As := [.int x_7]) (rest := []) St hK hT hA hP hD hS hl.1 [0] [] rfl rfl rfl (m_isHere l g o a 0 hi ac tp x_8 x_9 x_10 fl x_11 x_12 x_13 x_14 fm fk fa_15 fc ft ff_16 fb_17 fi x_7 (⟨i19.1, n27⟩)) (cwV 1 hts (zgL (zl4 k846 k847 k848 k839) k841) rfl rfl rfl (by decide +kernel) ⟨Nat.le_of_ble_eq_true rfl, Nat.le_of_ble_eq_true rfl⟩) rfl rfl rfl rfl (Nat.le_of_ble_eq_true rfl) dX12_guru_75 ⟨(Nat.le_of_ble_eq_true rfl), (Nat.le_of_ble_eq_true rfl)⟩ (fun q_32 H locs hq33 hP hD hS => ?_)
            replace hq33 : (q_32 = 0 ∨ q_32 = 1) := hq33
            have hP : va_P g.1 vwCl (List.flatten [bMo g o a 0 hi ac tp x_8 x_9 x_10 fl x_11 x_12 x_13 x_14 fm fk fa_15 fc ft ff_16 fb_17 fi]) H := hP
            have hD : va_D A (List.flatten [bMo g o a 0 hi ac tp x_8 x_9 x_10 fl x_11 x_12 x_13 x_14 fm fk fa_15 fc ft ff_16 fb_17 fi]) := hD
            refine W.widen (k := 0) (n := 0) (Nat.le_of_ble_eq_true rfl) (Nat.le_of_ble_eq_true rfl) ?_
            refine W.eq (g2 := F0 m 78 ls [.int q_32]) rfl ?_
            rcases hq33 with rfl | rfl
            · skip
              refine lv_if_eq (tgt := 101) hx hb dX12_guru_78 (by decide) (fun _ => ?_) (fun c34 => absurd (by decide) c34)
              refine ziinc3 (n' := 1) (a' := 1) (b' := 8) (lv' := fun v9 => [(4, .int v9), (5, .int 0), (0, .ref o), (1, .int n), (2, .int x_5), (3, .int x_6)]) hx hb dX12_guru_101 hl (k := 5) rfl (by decide) (fun _ => rfl) (zaddK (i := x_7.toInt) (j := 1) rfl (by decide) i19.1 n27 (Int.le_refl _) (Int.le_refl _) (by decide)) (fun x_35 ls hx_35 hl => ?_)
              refine lv_goto (tgt := 35) hx hb dX12_guru_104 (by decide) ?_
              have hl := lv_sub (l' := [(0, .ref o), (1, .int n), (2, .int x_5), (3, .int x_6), (4, .int x_35), (5, .int 0)]) hl [2, 3, 4, 5, 0, 1] rfl
              have hP : va_P g.1 vwCl (List.flatten [bMo g o a 0 hi ac tp x_8 x_9 x_10 fl x_11 x_12 x_13 x_14 fm fk fa_15 fc ft ff_16 fb_17 fi]) H := hP
              have hD : va_D A (List.flatten [bMo g o a 0 hi ac tp x_8 x_9 x_10 fl x_11 x_12 x_13 x_14 fm fk fa_15 fc ft ff_16 fb_17 fi]) := hD
              exact ih35_23 x_5 x_6 x_35 x_8 x_9 x_10 x_11 x_12 x_13 x_14 fa_15 ff_16 fb_17 ⟨i18.1, i18.2⟩ ⟨(Int.le_trans (by decide) hx_35.2.1), hx_35.2.2⟩ ⟨i20.1, i20.2⟩ ⟨i21.1, i21.2⟩ rfa_15 H _ ls (zmK hx_35.1 (by decide) n27 (by decide) hk35_23)  hP hD hS (lv_sub hl [0, 1, 2, 3, 4] rfl)
            · skip
              refine lv_if_eq (tgt := 101) hx hb dX12_guru_78 (by decide) (fun c36 => absurd c36 (by decide)) (fun _ => ?_)
              refine lv_iload_n hx hb dX12_guru_81 rfl (lv_at hl 3 rfl) ?_
              refine lv_iconst (v := (-1)) hx hb dX12_guru_82 (by decide) ?_
              refine lv_icmp_eq (tgt := 95) hx hb dX12_guru_83 (by decide) (fun cb9 => ?_) (fun cb9 => ?_)
              · skip
                have c37 : x_5.toInt = (-1) := zeq cb9 rfl (by decide)
                have n38 : x_5.toInt ≤ (-1) := Int.le_trans (Int.le_of_eq c37) (Int.le_refl _)
                refine lv_iload hx hb dX12_guru_95 (lv_at hl 0 rfl) ?_
                refine lv_istore_n (lv' := [(3, .int 0), (5, .int 0), (0, .ref o), (1, .int n), (2, .int x_5), (4, .int x_7)]) hx hb dX12_guru_97 rfl hl (by decide) rfl (fun ls hl => ?_)
                refine lv_iload hx hb dX12_guru_98 (lv_at hl 5 rfl) ?_
                refine lv_istore_n (lv' := [(2, .int x_7), (3, .int 0), (5, .int 0), (0, .ref o), (1, .int n), (4, .int x_7)]) hx hb dX12_guru_100 rfl hl (by decide) rfl (fun ls hl => ?_)
                refine ziinc3 (n' := 1) (a' := 1) (b' := 8) (lv' := fun v9 => [(4, .int v9), (2, .int x_7), (3, .int 0), (5, .int 0), (0, .ref o), (1, .int n)]) hx hb dX12_guru_101 hl (k := 5) rfl (by decide) (fun _ => rfl) (zaddK (i := x_7.toInt) (j := 1) rfl (by decide) i19.1 n27 (Int.le_refl _) (Int.le_refl _) (by decide)) (fun x_39 ls hx_39 hl => ?_)
                refine lv_goto (tgt := 35) hx hb dX12_guru_104 (by decide) ?_
                have hl := lv_sub (l' := [(0, .ref o), (1, .int n), (2, .int x_7), (3, .int 0), (4, .int x_39), (5, .int 0)]) hl [4, 5, 1, 2, 0, 3] rfl
                have hP : va_P g.1 vwCl (List.flatten [bMo g o a 0 hi ac tp x_8 x_9 x_10 fl x_11 x_12 x_13 x_14 fm fk fa_15 fc ft ff_16 fb_17 fi]) H := hP
                have hD : va_D A (List.flatten [bMo g o a 0 hi ac tp x_8 x_9 x_10 fl x_11 x_12 x_13 x_14 fm fk fa_15 fc ft ff_16 fb_17 fi]) := hD
                exact ih35_23 x_7 0 x_39 x_8 x_9 x_10 x_11 x_12 x_13 x_14 fa_15 ff_16 fb_17 ⟨(Int.le_trans (by decide) i19.1), n27⟩ ⟨(Int.le_trans (by decide) hx_39.2.1), hx_39.2.2⟩ ⟨i20.1, i20.2⟩ ⟨i21.1, i21.2⟩ rfa_15 H _ ls (zmK hx_39.1 (by decide) n27 (by decide) hk35_23)  hP hD hS (lv_sub hl [0, 1, 2, 3, 4] rfl)
              · skip
                have c40 : ¬ x_5.toInt = (-1) := zne cb9 rfl (by decide)
                have n41 : 0 ≤ x_5.toInt := zN1 c40 i18.1 (by decide)
                refine lv_iload hx hb dX12_guru_86 (lv_at hl 0 rfl) ?_
                refine lv_iload_n hx hb dX12_guru_88 rfl (lv_at hl 4 rfl) ?_
                refine lv_icmp_gt (tgt := 95) hx hb dX12_guru_89 (by decide) (fun cb9 => ?_) (fun cb9 => ?_)
                · skip
                  have c42 : x_6.toInt < 0 := zlti cb9 rfl (by decide)
                  have n43 : x_6.toInt ≤ (-1) := zL1 (b := 0) c42 (Int.le_refl _) (by decide)
                  refine lv_iload hx hb dX12_guru_95 (lv_at hl 0 rfl) ?_
                  refine lv_istore_n (lv' := [(3, .int 0), (5, .int 0), (0, .ref o), (1, .int n), (2, .int x_5), (4, .int x_7)]) hx hb dX12_guru_97 rfl hl (by decide) rfl (fun ls hl => ?_)
                  refine lv_iload hx hb dX12_guru_98 (lv_at hl 5 rfl) ?_
                  refine lv_istore_n (lv' := [(2, .int x_7), (3, .int 0), (5, .int 0), (0, .ref o), (1, .int n), (4, .int x_7)]) hx hb dX12_guru_100 rfl hl (by decide) rfl (fun ls hl => ?_)
                  refine ziinc3 (n' := 1) (a' := 1) (b' := 8) (lv' := fun v9 => [(4, .int v9), (2, .int x_7), (3, .int 0), (5, .int 0), (0, .ref o), (1, .int n)]) hx hb dX12_guru_101 hl (k := 5) rfl (by decide) (fun _ => rfl) (zaddK (i := x_7.toInt) (j := 1) rfl (by decide) i19.1 n27 (Int.le_refl _) (Int.le_refl _) (by decide)) (fun x_44 ls hx_44 hl => ?_)
                  refine lv_goto (tgt := 35) hx hb dX12_guru_104 (by decide) ?_
                  have hl := lv_sub (l' := [(0, .ref o), (1, .int n), (2, .int x_7), (3, .int 0), (4, .int x_44), (5, .int 0)]) hl [4, 5, 1, 2, 0, 3] rfl
                  have hP : va_P g.1 vwCl (List.flatten [bMo g o a 0 hi ac tp x_8 x_9 x_10 fl x_11 x_12 x_13 x_14 fm fk fa_15 fc ft ff_16 fb_17 fi]) H := hP
                  have hD : va_D A (List.flatten [bMo g o a 0 hi ac tp x_8 x_9 x_10 fl x_11 x_12 x_13 x_14 fm fk fa_15 fc ft ff_16 fb_17 fi]) := hD
                  exact ih35_23 x_7 0 x_44 x_8 x_9 x_10 x_11 x_12 x_13 x_14 fa_15 ff_16 fb_17 ⟨(Int.le_trans (by decide) i19.1), n27⟩ ⟨(Int.le_trans (by decide) hx_44.2.1), hx_44.2.2⟩ ⟨i20.1, i20.2⟩ ⟨i21.1, i21.2⟩ rfa_15 H _ ls (zmK hx_44.1 (by decide) n27 (by decide) hk35_23)  hP hD hS (lv_sub hl [0, 1, 2, 3, 4] rfl)
                · skip
                  have c45 : 0 ≤ x_6.toInt := zle (Int32.not_lt.mp cb9) (by decide) rfl
                  have n46 : 0 ≤ x_6.toInt := Int.le_trans (Int.le_refl _) c45
                  refine lv_goto (tgt := 101) hx hb dX12_guru_92 (by decide) ?_
                  refine ziinc3 (n' := 1) (a' := 1) (b' := 8) (lv' := fun v9 => [(4, .int v9), (5, .int 0), (0, .ref o), (1, .int n), (2, .int x_5), (3, .int x_6)]) hx hb dX12_guru_101 hl (k := 5) rfl (by decide) (fun _ => rfl) (zaddK (i := x_7.toInt) (j := 1) rfl (by decide) i19.1 n27 (Int.le_refl _) (Int.le_refl _) (by decide)) (fun x_47 ls hx_47 hl => ?_)
                  refine lv_goto (tgt := 35) hx hb dX12_guru_104 (by decide) ?_
                  have hl := lv_sub (l' := [(0, .ref o), (1, .int n), (2, .int x_5), (3, .int x_6), (4, .int x_47), (5, .int 0)]) hl [2, 3, 4, 5, 0, 1] rfl
                  have hP : va_P g.1 vwCl (List.flatten [bMo g o a 0 hi ac tp x_8 x_9 x_10 fl x_11 x_12 x_13 x_14 fm fk fa_15 fc ft ff_16 fb_17 fi]) H := hP
                  have hD : va_D A (List.flatten [bMo g o a 0 hi ac tp x_8 x_9 x_10 fl x_11 x_12 x_13 x_14 fm fk fa_15 fc ft ff_16 fb_17 fi]) := hD
                  exact ih35_23 x_5 x_6 x_47 x_8 x_9 x_10 x_11 x_12 x_13 x_14 fa_15 ff_16 fb_17 ⟨(Int.le_trans (by decide) n41), i18.2⟩ ⟨(Int.le_trans (by decide) hx_47.2.1), hx_47.2.2⟩ ⟨i20.1, i20.2⟩ ⟨i21.1, i21.2⟩ rfa_15 H _ ls (zmK hx_47.1 (by decide) n27 (by decide) hk35_23)  hP hD hS (lv_sub hl [0, 1, 2, 3, 4] rfl)
          · skip
            refine lv_if_eq (tgt := 69) hx hb dX12_guru_52 (by decide) (fun c48 => absurd c48 (by decide)) (fun _ => ?_)
            refine lv_aload_n hx hb dX12_guru_55 rfl (lv_at hl 0 rfl) ?_
            refine lv_iload_n hx hb dX12_guru_56 rfl (lv_at hl 1 rfl) ?_
            refine lv_iconst (v := 1) hx hb dX12_guru_57 (by decide) ?_
            refine lv_iload hx hb dX12_guru_58 (lv_at hl 4 rfl) ?_
            refine lv_ishl hx hb dX12_guru_60 ?_
            refine zgb (zshl1 (j := x_7.toInt) rfl 7 128 (by decide) (by decide) ⟨i19.1, n27⟩) (fun x_49 hx_49 => ?_)
            refine lv_bipush (v := 10) hx hb dX12_guru_61 (by decide) ?_
            refine mcallV' (g := g) (q0 := 0) (ci := 10) (As := [.int n, .int x_49, .int 10]) (rest := []) St hK hT hA hP hD hS hl.1 [0] [] rfl rfl rfl (m_believedByC l g o a 0 hi ac tp x_8 x_9 x_10 fl x_11 x_12 x_13 x_14 fm fk fa_15 fc ft ff_16 fb_17 fi n x_49 10 L rfm rfa_15 i20 i21 (by first | assumption | omega | decide | exact Or.inl (by decide) | exact Or.inr (by decide)) hrg hL) (cwV 3 hts (zgL (zl4 k1066 k1067 k1068 k839) k1064) rfl rfl rfl (by decide +kernel) ⟨Nat.le_of_ble_eq_true rfl, Nat.le_of_ble_eq_true rfl⟩) rfl rfl rfl rfl (Nat.le_of_ble_eq_true rfl) dX12_guru_63 ⟨(Nat.le_of_ble_eq_true rfl), (Nat.le_of_ble_eq_true rfl)⟩ (fun u_ H locs hq62 hP hD hS => ?_)
            obtain ⟨fm2_50, fa2_51, ba2_52, en2_53, at2_54, de2_55, iD2_56, iO2_57, tU2_58, ff2_59, fb2_60, q_61⟩ := u_
            replace hq62 : (0 ≤ iO2_57.toInt ∧ iO2_57.toInt ≤ 1) ∧ (0 ≤ iD2_56.toInt ∧ iD2_56.toInt ≤ 1) ∧ (rM fa2_51) ∧ (rM fm2_50) ∧ (q_61 = zBl9 (zLk L x_49 10 n.toInt.toNat (zM9 fm))) ∧ (fm = fm2_50) := hq62
            have hP : va_P g.1 vwCl (List.flatten [bMo g o a 0 hi ac tp ba2_52 en2_53 at2_54 fl de2_55 iD2_56 iO2_57 tU2_58 fm2_50 fk fa2_51 fc ft ff2_59 fb2_60 fi]) H := hP
            have hD : va_D A (List.flatten [bMo g o a 0 hi ac tp ba2_52 en2_53 at2_54 fl de2_55 iD2_56 iO2_57 tU2_58 fm2_50 fk fa2_51 fc ft ff2_59 fb2_60 fi]) := hD
            refine W.widen (k := 0) (n := 0) (Nat.le_of_ble_eq_true rfl) (Nat.le_of_ble_eq_true rfl) ?_
            refine W.eq (g2 := F0 m 66 ls [.int q_61]) rfl ?_
            obtain ⟨hq62_0, hq62_1, rfa2_51, rfm2_50, hq62_4, hq62_5⟩ := hq62
            rcases hq62_5 with rfl
            · skip
              refine lv_goto (tgt := 70) hx hb dX12_guru_66 (by decide) ?_
              refine lv_istore (lv' := [(5, .int q_61), (0, .ref o), (1, .int n), (2, .int x_5), (3, .int x_6), (4, .int x_7)]) hx hb dX12_guru_70 hl (by decide) rfl (fun ls hl => ?_)
              refine lv_aload_n hx hb dX12_guru_72 rfl (lv_at hl 1 rfl) ?_
              refine lv_iload hx hb dX12_guru_73 (lv_at hl 5 rfl) ?_
              refine mcallV' (g := g) (q0 := 0) (ci := 10) (As := [.int x_7]) (rest := []) St hK hT hA hP hD hS hl.1 [0] [] rfl rfl rfl (m_isHere l g o a 0 hi ac tp ba2_52 en2_53 at2_54 fl de2_55 iD2_56 iO2_57 tU2_58 fm fk fa2_51 fc ft ff2_59 fb2_60 fi x_7 (⟨i19.1, n27⟩)) (cwV 1 hts (zgL (zl4 k846 k847 k848 k839) k841) rfl rfl rfl (by decide +kernel) ⟨Nat.le_of_ble_eq_true rfl, Nat.le_of_ble_eq_true rfl⟩) rfl rfl rfl rfl (Nat.le_of_ble_eq_true rfl) dX12_guru_75 ⟨(Nat.le_of_ble_eq_true rfl), (Nat.le_of_ble_eq_true rfl)⟩ (fun q_63 H locs hq64 hP hD hS => ?_)
              replace hq64 : (q_63 = 0 ∨ q_63 = 1) := hq64
              have hP : va_P g.1 vwCl (List.flatten [bMo g o a 0 hi ac tp ba2_52 en2_53 at2_54 fl de2_55 iD2_56 iO2_57 tU2_58 fm fk fa2_51 fc ft ff2_59 fb2_60 fi]) H := hP
              have hD : va_D A (List.flatten [bMo g o a 0 hi ac tp ba2_52 en2_53 at2_54 fl de2_55 iD2_56 iO2_57 tU2_58 fm fk fa2_51 fc ft ff2_59 fb2_60 fi]) := hD
              refine W.widen (k := 0) (n := 0) (Nat.le_of_ble_eq_true rfl) (Nat.le_of_ble_eq_true rfl) ?_
              refine W.eq (g2 := F0 m 78 ls [.int q_63]) rfl ?_
              rcases hq64 with rfl | rfl
              · skip
                refine lv_if_eq (tgt := 101) hx hb dX12_guru_78 (by decide) (fun _ => ?_) (fun c65 => absurd (by decide) c65)
                refine ziinc3 (n' := 1) (a' := 1) (b' := 8) (lv' := fun v9 => [(4, .int v9), (5, .int q_61), (0, .ref o), (1, .int n), (2, .int x_5), (3, .int x_6)]) hx hb dX12_guru_101 hl (k := 5) rfl (by decide) (fun _ => rfl) (zaddK (i := x_7.toInt) (j := 1) rfl (by decide) i19.1 n27 (Int.le_refl _) (Int.le_refl _) (by decide)) (fun x_66 ls hx_66 hl => ?_)
                refine lv_goto (tgt := 35) hx hb dX12_guru_104 (by decide) ?_
                have hl := lv_sub (l' := [(0, .ref o), (1, .int n), (2, .int x_5), (3, .int x_6), (4, .int x_66), (5, .int q_61)]) hl [2, 3, 4, 5, 0, 1] rfl
                have hP : va_P g.1 vwCl (List.flatten [bMo g o a 0 hi ac tp ba2_52 en2_53 at2_54 fl de2_55 iD2_56 iO2_57 tU2_58 fm fk fa2_51 fc ft ff2_59 fb2_60 fi]) H := hP
                have hD : va_D A (List.flatten [bMo g o a 0 hi ac tp ba2_52 en2_53 at2_54 fl de2_55 iD2_56 iO2_57 tU2_58 fm fk fa2_51 fc ft ff2_59 fb2_60 fi]) := hD
                exact ih35_23 x_5 x_6 x_66 ba2_52 en2_53 at2_54 de2_55 iD2_56 iO2_57 tU2_58 fa2_51 ff2_59 fb2_60 ⟨i18.1, i18.2⟩ ⟨(Int.le_trans (by decide) hx_66.2.1), hx_66.2.2⟩ ⟨hq62_1.1, hq62_1.2⟩ ⟨hq62_0.1, hq62_0.2⟩ rfa2_51 H _ ls (zmK hx_66.1 (by decide) n27 (by decide) hk35_23)  hP hD hS (lv_sub hl [0, 1, 2, 3, 4] rfl)
              · skip
                refine lv_if_eq (tgt := 101) hx hb dX12_guru_78 (by decide) (fun c67 => absurd c67 (by decide)) (fun _ => ?_)
                refine lv_iload_n hx hb dX12_guru_81 rfl (lv_at hl 3 rfl) ?_
                refine lv_iconst (v := (-1)) hx hb dX12_guru_82 (by decide) ?_
                refine lv_icmp_eq (tgt := 95) hx hb dX12_guru_83 (by decide) (fun cb9 => ?_) (fun cb9 => ?_)
                · skip
                  have c68 : x_5.toInt = (-1) := zeq cb9 rfl (by decide)
                  have n69 : x_5.toInt ≤ (-1) := Int.le_trans (Int.le_of_eq c68) (Int.le_refl _)
                  refine lv_iload hx hb dX12_guru_95 (lv_at hl 0 rfl) ?_
                  refine lv_istore_n (lv' := [(3, .int q_61), (5, .int q_61), (0, .ref o), (1, .int n), (2, .int x_5), (4, .int x_7)]) hx hb dX12_guru_97 rfl hl (by decide) rfl (fun ls hl => ?_)
                  refine lv_iload hx hb dX12_guru_98 (lv_at hl 5 rfl) ?_
                  refine lv_istore_n (lv' := [(2, .int x_7), (3, .int q_61), (5, .int q_61), (0, .ref o), (1, .int n), (4, .int x_7)]) hx hb dX12_guru_100 rfl hl (by decide) rfl (fun ls hl => ?_)
                  refine ziinc3 (n' := 1) (a' := 1) (b' := 8) (lv' := fun v9 => [(4, .int v9), (2, .int x_7), (3, .int q_61), (5, .int q_61), (0, .ref o), (1, .int n)]) hx hb dX12_guru_101 hl (k := 5) rfl (by decide) (fun _ => rfl) (zaddK (i := x_7.toInt) (j := 1) rfl (by decide) i19.1 n27 (Int.le_refl _) (Int.le_refl _) (by decide)) (fun x_70 ls hx_70 hl => ?_)
                  refine lv_goto (tgt := 35) hx hb dX12_guru_104 (by decide) ?_
                  have hl := lv_sub (l' := [(0, .ref o), (1, .int n), (2, .int x_7), (3, .int q_61), (4, .int x_70), (5, .int q_61)]) hl [4, 5, 1, 2, 0, 3] rfl
                  have hP : va_P g.1 vwCl (List.flatten [bMo g o a 0 hi ac tp ba2_52 en2_53 at2_54 fl de2_55 iD2_56 iO2_57 tU2_58 fm fk fa2_51 fc ft ff2_59 fb2_60 fi]) H := hP
                  have hD : va_D A (List.flatten [bMo g o a 0 hi ac tp ba2_52 en2_53 at2_54 fl de2_55 iD2_56 iO2_57 tU2_58 fm fk fa2_51 fc ft ff2_59 fb2_60 fi]) := hD
                  exact ih35_23 x_7 q_61 x_70 ba2_52 en2_53 at2_54 de2_55 iD2_56 iO2_57 tU2_58 fa2_51 ff2_59 fb2_60 ⟨(Int.le_trans (by decide) i19.1), n27⟩ ⟨(Int.le_trans (by decide) hx_70.2.1), hx_70.2.2⟩ ⟨hq62_1.1, hq62_1.2⟩ ⟨hq62_0.1, hq62_0.2⟩ rfa2_51 H _ ls (zmK hx_70.1 (by decide) n27 (by decide) hk35_23)  hP hD hS (lv_sub hl [0, 1, 2, 3, 4] rfl)
                · skip
                  have c71 : ¬ x_5.toInt = (-1) := zne cb9 rfl (by decide)
                  have n72 : 0 ≤ x_5.toInt := zN1 c71 i18.1 (by decide)
                  refine lv_iload hx hb dX12_guru_86 (lv_at hl 0 rfl) ?_
                  refine lv_iload_n hx hb dX12_guru_88 rfl (lv_at hl 4 rfl) ?_
                  refine lv_icmp_gt (tgt := 95) hx hb dX12_guru_89 (by decide) (fun cb9 => ?_) (fun cb9 => ?_)
                  · skip
                    have c73 : x_6.toInt < q_61.toInt := zlti cb9 rfl rfl
                    refine lv_iload hx hb dX12_guru_95 (lv_at hl 0 rfl) ?_
                    refine lv_istore_n (lv' := [(3, .int q_61), (5, .int q_61), (0, .ref o), (1, .int n), (2, .int x_5), (4, .int x_7)]) hx hb dX12_guru_97 rfl hl (by decide) rfl (fun ls hl => ?_)
                    refine lv_iload hx hb dX12_guru_98 (lv_at hl 5 rfl) ?_
                    refine lv_istore_n (lv' := [(2, .int x_7), (3, .int q_61), (5, .int q_61), (0, .ref o), (1, .int n), (4, .int x_7)]) hx hb dX12_guru_100 rfl hl (by decide) rfl (fun ls hl => ?_)
                    refine ziinc3 (n' := 1) (a' := 1) (b' := 8) (lv' := fun v9 => [(4, .int v9), (2, .int x_7), (3, .int q_61), (5, .int q_61), (0, .ref o), (1, .int n)]) hx hb dX12_guru_101 hl (k := 5) rfl (by decide) (fun _ => rfl) (zaddK (i := x_7.toInt) (j := 1) rfl (by decide) i19.1 n27 (Int.le_refl _) (Int.le_refl _) (by decide)) (fun x_74 ls hx_74 hl => ?_)
                    refine lv_goto (tgt := 35) hx hb dX12_guru_104 (by decide) ?_
                    have hl := lv_sub (l' := [(0, .ref o), (1, .int n), (2, .int x_7), (3, .int q_61), (4, .int x_74), (5, .int q_61)]) hl [4, 5, 1, 2, 0, 3] rfl
                    have hP : va_P g.1 vwCl (List.flatten [bMo g o a 0 hi ac tp ba2_52 en2_53 at2_54 fl de2_55 iD2_56 iO2_57 tU2_58 fm fk fa2_51 fc ft ff2_59 fb2_60 fi]) H := hP
                    have hD : va_D A (List.flatten [bMo g o a 0 hi ac tp ba2_52 en2_53 at2_54 fl de2_55 iD2_56 iO2_57 tU2_58 fm fk fa2_51 fc ft ff2_59 fb2_60 fi]) := hD
                    exact ih35_23 x_7 q_61 x_74 ba2_52 en2_53 at2_54 de2_55 iD2_56 iO2_57 tU2_58 fa2_51 ff2_59 fb2_60 ⟨(Int.le_trans (by decide) i19.1), n27⟩ ⟨(Int.le_trans (by decide) hx_74.2.1), hx_74.2.2⟩ ⟨hq62_1.1, hq62_1.2⟩ ⟨hq62_0.1, hq62_0.2⟩ rfa2_51 H _ ls (zmK hx_74.1 (by decide) n27 (by decide) hk35_23)  hP hD hS (lv_sub hl [0, 1, 2, 3, 4] rfl)
                  · skip
                    have c75 : q_61.toInt ≤ x_6.toInt := zle (Int32.not_lt.mp cb9) rfl rfl
                    refine lv_goto (tgt := 101) hx hb dX12_guru_92 (by decide) ?_
                    refine ziinc3 (n' := 1) (a' := 1) (b' := 8) (lv' := fun v9 => [(4, .int v9), (5, .int q_61), (0, .ref o), (1, .int n), (2, .int x_5), (3, .int x_6)]) hx hb dX12_guru_101 hl (k := 5) rfl (by decide) (fun _ => rfl) (zaddK (i := x_7.toInt) (j := 1) rfl (by decide) i19.1 n27 (Int.le_refl _) (Int.le_refl _) (by decide)) (fun x_76 ls hx_76 hl => ?_)
                    refine lv_goto (tgt := 35) hx hb dX12_guru_104 (by decide) ?_
                    have hl := lv_sub (l' := [(0, .ref o), (1, .int n), (2, .int x_5), (3, .int x_6), (4, .int x_76), (5, .int q_61)]) hl [2, 3, 4, 5, 0, 1] rfl
                    have hP : va_P g.1 vwCl (List.flatten [bMo g o a 0 hi ac tp ba2_52 en2_53 at2_54 fl de2_55 iD2_56 iO2_57 tU2_58 fm fk fa2_51 fc ft ff2_59 fb2_60 fi]) H := hP
                    have hD : va_D A (List.flatten [bMo g o a 0 hi ac tp ba2_52 en2_53 at2_54 fl de2_55 iD2_56 iO2_57 tU2_58 fm fk fa2_51 fc ft ff2_59 fb2_60 fi]) := hD
                    exact ih35_23 x_5 x_6 x_76 ba2_52 en2_53 at2_54 de2_55 iD2_56 iO2_57 tU2_58 fa2_51 ff2_59 fb2_60 ⟨(Int.le_trans (by decide) n72), i18.2⟩ ⟨(Int.le_trans (by decide) hx_76.2.1), hx_76.2.2⟩ ⟨hq62_1.1, hq62_1.2⟩ ⟨hq62_0.1, hq62_0.2⟩ rfa2_51 H _ ls (zmK hx_76.1 (by decide) n27 (by decide) hk35_23)  hP hD hS (lv_sub hl [0, 1, 2, 3, 4] rfl)
    have hP : va_P g.1 vwCl (List.flatten [bMo g o a 0 hi ac tp ba en tA fl de iD iO tU fm fk fa fc ft ff fb fi]) H := hP
    have hD : va_D A (List.flatten [bMo g o a 0 hi ac tp ba en tA fl de iD iO tU fm fk fa fc ft ff fb fi]) := hD
    exact LP35_22 _ (-1) 0 0 ba en tA de iD iO tU fa ff fb (by decide) (by decide) ⟨hiD.1, hiD.2⟩ ⟨hiO.1, hiO.2⟩ rfa H _ ls (Nat.lt_succ_self _)  hP hD hS (lv_sub hl [0, 1, 2, 3, 4] rfl)
  · skip
    refine lv_if_ne (tgt := 15) hx hb dX12_guru_8 (by decide) (fun c77 => absurd (by decide) c77) (fun _ => ?_)
    refine lv_iconst (v := 1) hx hb dX12_guru_11 (by decide) ?_
    refine lv_goto (tgt := 16) hx hb dX12_guru_12 (by decide) ?_
    refine va_put (D := g.1) (ci := 10) (v := .int 1) (ty := .int) (C := RX12) (T := TX12) (N := 20) hx hb hts izRX12 tyX12 tyX12_ok nmX12 hown hK hP hD hS 0 rfl rfl 0 (by decide) (hts _ k825) (fun _ h9 => h9) rfl (by decide +kernel) rfl rfl (Nat.le_of_ble_eq_true rfl) dX12_guru_16 (fun H locs hP hD hS => ?_)
    have hP : va_P g.1 vwCl (List.flatten [bMo g o a 1 hi ac tp ba en tA fl de iD iO tU fm fk fa fc ft ff fb fi]) H := hP
    have hD : va_D A (List.flatten [bMo g o a 1 hi ac tp ba en tA fl de iD iO tU fm fk fa fc ft ff fb fi]) := hD
    refine lv_aload_n hx hb dX12_guru_19 rfl (lv_at hl 0 rfl) ?_
    refine va_get (D := g.1) (ci := 10) (v := .int 1) (C := RX12) (T := TX12) (N := 20) hx hb hts izRX12 hown hK hP 0 rfl rfl 0 (by decide) (hts _ k825) (fun _ h9 => h9) rfl dX12_guru_20 ?_
    refine lv_if_le (tgt := 28) hx hb dX12_guru_23 (by decide) (fun c78 => absurd c78 (by decide)) (fun _ => ?_)
    refine lv_iconst (v := 0) hx hb dX12_guru_26 (by decide) ?_
    have hP : va_P g.1 vwCl (List.flatten [bMo g o a 1 hi ac tp ba en tA fl de iD iO tU fm fk fa fc ft ff fb fi]) H := hP
    have hD : va_D A (List.flatten [bMo g o a 1 hi ac tp ba en tA fl de iD iO tU fm fk fa fc ft ff fb fi]) := hD
    exact mret_i hx hb hr hlocks hS (Nat.le_of_ble_eq_true rfl) (Nat.le_of_ble_eq_true rfl) dX12_guru_27 ((1 : Int32), fm, fa, ba, en, tA, de, iD, iO, tU, ff, fb, (0 : Int32)) rfl (show (0 ≤ iO.toInt ∧ iO.toInt ≤ 1) ∧ (0 ≤ iD.toInt ∧ iD.toInt ≤ 1) ∧ (rM fa) ∧ (rM fm) ∧ (fm = fm) from ⟨(by first | assumption | omega | decide), (by first | assumption | omega | decide), (by first | assumption | omega | decide), (by first | assumption | omega | decide), rfl⟩) hP hD
