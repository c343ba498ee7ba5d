/-! THE CLASS'S CELLS: what a row of cells does, whatever stands behind it -/
def zBlk (fc : Nat → Int32) (a b : Int) (e : Nat → Int32) (s s1 : zRs) : Prop := ∀ (fd : Nat → Int32) (z : Int), (∀ i : Nat, a ≤ (i : Int) → (i : Int) < b → fd i = fc i) → b ≤ z → zRu fd z e a s = zRu fd z e b s1
theorem zBlk_r {fc : Nat → Int32} {a b : Int} {e : Nat → Int32} {s : zRs} (h : b = a) : zBlk fc a b e s s := fun _ _ _ _ => by rw [h]
theorem zBlk_t {fc : Nat → Int32} {a b c : Int} {e : Nat → Int32} {s s1 s2 : zRs} (h : zBlk fc a b e s s1) (k : zBlk fc b c e s1 s2) (hb : a ≤ b) (hc : b ≤ c) : zBlk fc a c e s s2 := fun fd z ag hz => (h fd z (fun i h1 h2 => ag i h1 (by omega)) (by omega)).trans (k fd z (fun i h1 h2 => ag i (by omega) h2) hz)
theorem zBlk_c {fc fc' : Nat → Int32} {a b : Int} {e : Nat → Int32} {s s1 : zRs} (h : zBlk fc a b e s s1) (ag : ∀ i : Nat, a ≤ (i : Int) → (i : Int) < b → fc' i = fc i) : zBlk fc' a b e s s1 := fun fd z ag' hz => h fd z (fun i h1 h2 => (ag' i h1 h2).trans (ag i h1 h2)) hz
/-- one cell -/
theorem zBlk_1 {fc : Nat → Int32} {a b : Int} {e : Nat → Int32} {s s1 : zRs} {c : Int32} (h0 : 0 ≤ a) (hb : b = a + 1) (hc : fc a.toNat = c) (hn : zNx c a s = a) (hs : zSx e c s = s1) : zBlk fc a b e s s1 := fun fd z ag hz => by
  have q := ag a.toNat (by omega) (by omega)
  rw [zRu_s (by omega), q, hc, hn, hs, hb]
/-- a cell's two numbers -/
theorem zck {k n : Nat} {c : Int32} (hk : k < 32) (hn : n ≤ 1000) (h : c = nI (k + 32 * n)) : zCk c = nI k ∧ zNb c = nI n := by
  have e32 : (32 : Int32) = nI 32 := rfl
  constructor
  · unfold zCk
    rw [h, e32, pk_rem (by omega) (by decide) (by decide), show (k + 32 * n) % 32 = k by omega]
  · unfold zNb
    rw [h, e32, pk_div (by omega) (by decide) (by decide), show (k + 32 * n) / 32 = n by omega]
theorem zcell {kn nu : Int32} {k n : Nat} (hk : kn = nI k) (hn : nu = nI n) : kn + 32 * nu = nI (k + 32 * n) := by
  rw [hk, hn, show (32 : Int32) = nI 32 from rfl, pk_mul, nI_add]
theorem zckI {k n : Nat} {c : Int32} (hk : k < 32) (hn : n ≤ 1000) (h : c = nI (k + 32 * n)) : (zCk c).toInt = (k : Int) ∧ (zNb c).toInt = (n : Int) := by
  obtain ⟨a, b⟩ := zck hk hn h
  rw [a, b, nI_toInt (by omega), nI_toInt (by omega)]; exact ⟨rfl, rfl⟩
theorem zNx_p {c : Int32} {a : Int} {s : zRs} (h : ¬ (zCk c).toInt = 13) (k : ¬ (zCk c).toInt = 14) : zNx c a s = a := by
  unfold zNx
  rw [if_neg (fun q => h q.1), if_neg (fun q => k q.1)]
theorem zSx_0 {e : Nat → Int32} {c : Int32} {t l u so : Int32} (hk : (zCk c).toInt = 0) : zSx e c (t, l, u, so) = (t, l, u + zNb c, so) := by
  unfold zSx
  refine (if_pos hk).trans ?_
  rfl
theorem zSx_7 {e : Nat → Int32} {c : Int32} {t l u so : Int32} (hk : (zCk c).toInt = 7) : zSx e c (t, l, u, so) = (t, u, 0, so) := by
  unfold zSx
  refine (if_neg (by omega)).trans ?_
  refine (if_pos hk).trans ?_
  rfl
theorem zSx_8 {e : Nat → Int32} {c : Int32} {t l u so : Int32} (hk : (zCk c).toInt = 8) : zSx e c (t, l, u, so) = (t, l, 0, if l.toInt < u.toInt then 1 else 0) := by
  unfold zSx
  refine (if_neg (by omega)).trans ?_
  refine (if_neg (by omega)).trans ?_
  refine (if_pos hk).trans ?_
  rfl
theorem zSx_9 {e : Nat → Int32} {c : Int32} {t l u so : Int32} (hk : (zCk c).toInt = 9) : zSx e c (t, l, u, so) = (t, l, 0, if u.toInt < l.toInt then 1 else 0) := by
  unfold zSx
  refine (if_neg (by omega)).trans ?_
  refine (if_neg (by omega)).trans ?_
  refine (if_neg (by omega)).trans ?_
  refine (if_pos hk).trans ?_
  rfl
theorem zSx_10 {e : Nat → Int32} {c : Int32} {t l u so : Int32} (hk : (zCk c).toInt = 10) : zSx e c (t, l, u, so) = (t, l, u, e 6) := by
  unfold zSx
  refine (if_neg (by omega)).trans ?_
  refine (if_neg (by omega)).trans ?_
  refine (if_neg (by omega)).trans ?_
  refine (if_neg (by omega)).trans ?_
  refine (if_pos hk).trans ?_
  rfl
theorem zSx_11 {e : Nat → Int32} {c : Int32} {t l u so : Int32} (hk : (zCk c).toInt = 11) : zSx e c (t, l, u, so) = (t, l, u, e 7) := by
  unfold zSx
  refine (if_neg (by omega)).trans ?_
  refine (if_neg (by omega)).trans ?_
  refine (if_neg (by omega)).trans ?_
  refine (if_neg (by omega)).trans ?_
  refine (if_neg (by omega)).trans ?_
  refine (if_pos hk).trans ?_
  rfl
theorem zSx_12 {e : Nat → Int32} {c : Int32} {t l u so : Int32} (hk : (zCk c).toInt = 12) : zSx e c (t, l, u, so) = (t, l, u, if so.toInt = 0 then 1 else 0) := by
  unfold zSx
  refine (if_neg (by omega)).trans ?_
  refine (if_neg (by omega)).trans ?_
  refine (if_neg (by omega)).trans ?_
  refine (if_neg (by omega)).trans ?_
  refine (if_neg (by omega)).trans ?_
  refine (if_neg (by omega)).trans ?_
  refine (if_pos hk).trans ?_
  rfl
theorem zSx_13 {e : Nat → Int32} {c : Int32} {t l u so : Int32} (hk : (zCk c).toInt = 13) : zSx e c (t, l, u, so) = (t, l, u, so) := by
  unfold zSx
  refine (if_neg (by omega)).trans ?_
  refine (if_neg (by omega)).trans ?_
  refine (if_neg (by omega)).trans ?_
  refine (if_neg (by omega)).trans ?_
  refine (if_neg (by omega)).trans ?_
  refine (if_neg (by omega)).trans ?_
  refine (if_neg (by omega)).trans ?_
  refine (if_pos hk).trans ?_
  rfl
theorem zSx_14 {e : Nat → Int32} {c : Int32} {t l u so : Int32} (hk : (zCk c).toInt = 14) : zSx e c (t, l, u, so) = (t, l, u, so) := by
  unfold zSx
  refine (if_neg (by omega)).trans ?_
  refine (if_neg (by omega)).trans ?_
  refine (if_neg (by omega)).trans ?_
  refine (if_neg (by omega)).trans ?_
  refine (if_neg (by omega)).trans ?_
  refine (if_neg (by omega)).trans ?_
  refine (if_neg (by omega)).trans ?_
  refine (if_neg (by omega)).trans ?_
  refine (if_pos hk).trans ?_
  rfl
theorem zSx_15 {e : Nat → Int32} {c : Int32} {t l u so : Int32} (hk : (zCk c).toInt = 15) : zSx e c (t, l, u, so) = (t + (if so.toInt = 0 then 0 else zNb c), l, u, 1) := by
  unfold zSx
  refine (if_neg (by omega)).trans ?_
  refine (if_neg (by omega)).trans ?_
  refine (if_neg (by omega)).trans ?_
  refine (if_neg (by omega)).trans ?_
  refine (if_neg (by omega)).trans ?_
  refine (if_neg (by omega)).trans ?_
  refine (if_neg (by omega)).trans ?_
  refine (if_neg (by omega)).trans ?_
  refine (if_neg (by omega)).trans ?_
  refine (if_pos hk).trans ?_
  rfl
theorem zSx_16 {e : Nat → Int32} {c : Int32} {t l u so : Int32} (hk : (zCk c).toInt = 16) : zSx e c (t, l, u, so) = (t - (if so.toInt = 0 then 0 else zNb c), l, u, 1) := by
  unfold zSx
  refine (if_neg (by omega)).trans ?_
  refine (if_neg (by omega)).trans ?_
  refine (if_neg (by omega)).trans ?_
  refine (if_neg (by omega)).trans ?_
  refine (if_neg (by omega)).trans ?_
  refine (if_neg (by omega)).trans ?_
  refine (if_neg (by omega)).trans ?_
  refine (if_neg (by omega)).trans ?_
  refine (if_neg (by omega)).trans ?_
  refine (if_neg (by omega)).trans ?_
  refine (if_pos hk).trans ?_
  rfl
theorem zSx_d {e : Nat → Int32} {c : Int32} {t l u so : Int32} {k : Int} (hk : (zCk c).toInt = k) (h : 1 ≤ k ∧ k ≤ 6) : zSx e c (t, l, u, so) = (t, l, u + zPv e (zCk c), so) := by
  unfold zSx
  refine (if_neg (by omega)).trans ?_
  refine (if_neg (by omega)).trans ?_
  refine (if_neg (by omega)).trans ?_
  refine (if_neg (by omega)).trans ?_
  refine (if_neg (by omega)).trans ?_
  refine (if_neg (by omega)).trans ?_
  refine (if_neg (by omega)).trans ?_
  refine (if_neg (by omega)).trans ?_
  refine (if_neg (by omega)).trans ?_
  refine (if_neg (by omega)).trans ?_
  refine (if_neg (by omega)).trans ?_
  rfl
/-! a sum's cells -/
def zSC (f : Nat → Int32) (n b b1 : Int) (fc0 fc : Nat → Int32) (z z1 : Int) : Prop :=
  (z + 1 ≤ z1 ∧ z1 ≤ z + (b1 - b)) ∧ (∀ i : Nat, (i : Int) < z → fc i = fc0 i) ∧
  ∀ e : Nat → Int32, ∃ x, zSv f n e b 0 b1 x ∧ ∀ t l s : Int32, zBlk fc z z1 e (t, l, 0, s) (t, l, x, s)
/-- between two parts: what stands ahead of b1 is a sum so far -/
def zSD (f : Nat → Int32) (n b b1 : Int) (fc0 fc : Nat → Int32) (z z1 : Int) : Prop :=
  (z ≤ z1 ∧ z1 ≤ z + (b1 - b)) ∧ (∀ i : Nat, (i : Int) < z → fc i = fc0 i) ∧
  ∀ e : Nat → Int32, ∃ x, (∀ p v, zSv f n e b1 x p v → zSv f n e b 0 p v) ∧ ∀ t l s : Int32, zBlk fc z z1 e (t, l, 0, s) (t, l, x, s)
theorem zSD_0 (f : Nat → Int32) (n b : Int) (fc : Nat → Int32) (z : Int) : zSD f n b b fc fc z z := ⟨⟨by omega, by omega⟩, fun _ _ => rfl, fun _ => ⟨0, fun _ _ h => h, fun _ _ _ => zBlk_r rfl⟩⟩
/-- a part's cell -/
def zPC (f : Nat → Int32) (n b : Int) (c : Int32) : Prop := ∀ e : Nat → Int32, ∃ w, zPtV f n e b w ∧ ∀ (a : Int) (t l u s : Int32), zNx c a (t, l, u, s) = a ∧ zSx e c (t, l, u, s) = (t, l, u + w, s)
theorem zPC_n {f : Nat → Int32} {n b : Int} {v c : Int32} (h : zNu f n b 0 999 v) (hc : c = 0 + 32 * v) : zPC f n b c := fun e => by
  obtain ⟨k, h1, e1, h3⟩ := znN (x := v) rfl h.2.2.1
  have hk := zckI (k := 0) (n := k) (by decide) (by have := h.2.2.2; omega) (hc.trans (zcell rfl e1))
  have hb := zck (k := 0) (n := k) (by decide) (by have := h.2.2.2; omega) (hc.trans (zcell rfl e1))
  refine ⟨v, by unfold zPtV; exact Or.inr (Or.inr (Or.inr (Or.inr (Or.inr (Or.inr h))))), fun a t l u s => ⟨zNx_p (by rw [hk.1]; decide) (by rw [hk.1]; decide), ?_⟩⟩
  rw [zSx_0 (by rw [hk.1]; rfl), hb.2, ← e1]
theorem zPC_w {f : Nat → Int32} {n b : Int} {c : Int32} {k : Nat} (hk : 1 ≤ k ∧ k ≤ 6) (hc : c = nI (k + 32 * 0)) (h : ∀ e : Nat → Int32, zPtV f n e b (zPv e (nI k))) : zPC f n b c := fun e => by
  have hi := zckI (k := k) (n := 0) (by omega) (by decide) hc
  have hb := zck (k := k) (n := 0) (by omega) (by decide) hc
  refine ⟨zPv e (nI k), h e, fun a t l u s => ⟨zNx_p (by rw [hi.1]; omega) (by rw [hi.1]; omega), ?_⟩⟩
  rw [zSx_d hi.1 (by omega), hb.1]
theorem zSD_p {f : Nat → Int32} {n b b1 : Int} {fc0 fc fc1 : Nat → Int32} {z z1 z2 : Int} {c : Int32} (h0 : 0 ≤ z) (h : zSD f n b b1 fc0 fc z z1) (p : zPC f n b1 c) (e1 : fc1 = upd fc z1.toNat c) (e2 : z2 = z1 + 1) :
    (∀ i : Nat, (i : Int) < z → fc1 i = fc0 i) ∧ ∀ e : Nat → Int32, ∃ x, (∀ q v, zSvT f n e (znt f n b1) x q v → zSv f n e b 0 q v) ∧ ∀ t l s : Int32, zBlk fc1 z z2 e (t, l, 0, s) (t, l, x, s) := by
  obtain ⟨⟨h1, h2⟩, h3, h4⟩ := h
  refine ⟨fun i hi => by rw [e1, pk_un (by omega)]; exact h3 i hi, fun e => ?_⟩
  obtain ⟨x, J, B⟩ := h4 e
  obtain ⟨w, pw, pc⟩ := p e
  refine ⟨x + w, fun q v hq => J q v (zSv_m pw hq), fun t l s => ?_⟩
  refine zBlk_t (b := z1) (zBlk_c (B t l s) (fun i a b => by rw [e1, pk_un (by omega)])) ?_ h1 (by omega)
  exact zBlk_1 (c := c) (by omega) e2 (by rw [e1, pk_us]) (pc z1 t l x s).1 (pc z1 t l x s).2
theorem zSD_plus {f : Nat → Int32} {n b b1 b2 b3 c9 : Int} {fc0 fc fc1 : Nat → Int32} {z z1 z2 : Int} {c : Int32} (h0 : 0 ≤ z) (h : zSD f n b b1 fc0 fc z z1) (p : zPC f n b1 c) (e1 : fc1 = upd fc z1.toNat c) (e2 : z2 = z1 + 1) (m : zMv f n b1 b2) (hs : zisS f n b2 c9) (hc : c9 = 43) (m2 : zMv f n b2 b3) (l1 : b1 < b2) (l2 : b2 < b3) : zSD f n b b3 fc0 fc1 z z2 := by
  obtain ⟨a, q⟩ := zSD_p h0 h p e1 e2
  obtain ⟨⟨h1, h2⟩, -⟩ := h
  have E := znt_of m
  have E2 := znt_of m2
  subst hc; subst E; subst E2
  refine ⟨⟨by omega, by omega⟩, a, fun e => ?_⟩
  obtain ⟨x, J, B⟩ := q e
  exact ⟨x, fun p v hp => J p v (Or.inr ⟨hs, hp⟩), B⟩
theorem zSD_end {f : Nat → Int32} {n b b1 b2 c9 : Int} {fc0 fc fc1 : Nat → Int32} {z z1 z2 : Int} {c : Int32} (h0 : 0 ≤ z) (h : zSD f n b b1 fc0 fc z z1) (p : zPC f n b1 c) (e1 : fc1 = upd fc z1.toNat c) (e2 : z2 = z1 + 1) (m : zMv f n b1 b2) (hs : ¬ zisS f n b2 c9) (hc : c9 = 43) (l1 : b1 < b2) : zSC f n b b2 fc0 fc1 z z2 := by
  obtain ⟨a, q⟩ := zSD_p h0 h p e1 e2
  obtain ⟨⟨h1, h2⟩, -⟩ := h
  have E := znt_of m
  subst hc; subst E
  refine ⟨⟨by omega, by omega⟩, a, fun e => ?_⟩
  obtain ⟨x, J, B⟩ := q e
  exact ⟨x, J _ _ (Or.inl ⟨hs, rfl, rfl⟩), B⟩
/-! an atom's, a condition's cells: it holds or not -/
def zAC (V : (Nat → Int32) → Bool → Prop) (b b1 : Int) (fc0 fc : Nat → Int32) (z z1 : Int) : Prop :=
  (z + 1 ≤ z1 ∧ z1 ≤ z + (b1 - b) + 1) ∧ (∀ i : Nat, (i : Int) < z → fc i = fc0 i) ∧
  ∀ e : Nat → Int32, ∃ v, V e v ∧ ∀ t l s : Int32, ∃ l1 s1 : Int32, zNz s1 = v ∧ zBlk fc z z1 e (t, l, 0, s) (t, l1, 0, s1)
theorem zNz_0 : zNz 0 = false := by decide
theorem zNz_1 : zNz 1 = true := by decide
theorem zNz_d {P : Prop} [d : Decidable P] : zNz (if P then 1 else 0) = decide P := by
  by_cases h : P
  · rw [if_pos h, decide_eq_true h]; decide
  · rw [if_neg h, decide_eq_false h]; decide
/-- dry, owner: one cell -/
theorem zAC_1 {V : (Nat → Int32) → Bool → Prop} {b b1 : Int} {fc0 fc : Nat → Int32} {z z1 : Int} {k j : Nat} {c : Int32} (h0 : 0 ≤ z) (hj : (k = 10 ∧ j = 6) ∨ (k = 11 ∧ j = 7)) (hc : c = nI (k + 32 * 0)) (e1 : fc = upd fc0 z.toNat c) (e2 : z1 = z + 1) (l : b < b1) (h : ∀ e : Nat → Int32, V e (zNz (e j))) : zAC V b b1 fc0 fc z z1 := by
  have hi := zckI (k := k) (n := 0) (by omega) (by decide) hc
  refine ⟨⟨by omega, by omega⟩, fun i hi => by rw [e1, pk_un (by omega)], fun e => ⟨_, h e, fun t l s => ⟨l, e j, rfl, ?_⟩⟩⟩
  refine zBlk_1 (c := c) h0 e2 (by rw [e1, pk_us]) (zNx_p (by rw [hi.1]; omega) (by rw [hi.1]; omega)) ?_
  rcases hj with ⟨a, d⟩ | ⟨a, d⟩
  · subst a; subst d; exact zSx_10 hi.1
  · subst a; subst d; exact zSx_11 hi.1
/-- a comparison: a sum, LEFT, a sum, the sign's cell -/
theorem zAC_c {V : (Nat → Int32) → Bool → Prop} {f : Nat → Int32} {n b b1 b2 b3 : Int} {fc0 fc1 fc2 fc3 fc4 : Nat → Int32} {z z1 z2 z3 z4 : Int} {cl cs : Int32} {k : Nat} (h0 : 0 ≤ z) (S1 : zSC f n b b1 fc0 fc1 z z1) (hl : cl = nI (7 + 32 * 0)) (e2 : fc2 = upd fc1 z1.toNat cl) (ez : z2 = z1 + 1) (S2 : zSC f n b2 b3 fc2 fc3 z2 z3) (hk : k = 8 ∨ k = 9) (hs : cs = nI (k + 32 * 0)) (e4 : fc4 = upd fc3 z3.toNat cs) (ez4 : z4 = z3 + 1) (l : b1 < b2)
    (h : ∀ (e : Nat → Int32) (x y : Int32), zSv f n e b 0 b1 x → zSv f n e b2 0 b3 y → V e (if k = 8 then decide (x.toInt < y.toInt) else decide (y.toInt < x.toInt))) : zAC V b b3 fc0 fc4 z z4 := by
  obtain ⟨⟨a1, a2⟩, a3, a4⟩ := S1
  obtain ⟨⟨b1', b2'⟩, b3', b4⟩ := S2
  have il := zckI (k := 7) (n := 0) (by decide) (by decide) hl
  have is := zckI (k := k) (n := 0) (by omega) (by decide) hs
  refine ⟨⟨by omega, by omega⟩, fun i hi => ?_, fun e => ?_⟩
  · rw [e4, pk_un (by omega), b3' i (by omega), e2, pk_un (by omega)]; exact a3 i hi
  obtain ⟨x, hx, Bx⟩ := a4 e
  obtain ⟨y, hy, By⟩ := b4 e
  refine ⟨_, h e x y hx hy, fun t l s => ⟨x, if k = 8 then (if x.toInt < y.toInt then 1 else 0) else (if y.toInt < x.toInt then 1 else 0), ?_, ?_⟩⟩
  · by_cases q : k = 8
    · rw [if_pos q, if_pos q]; exact zNz_d
    · rw [if_neg q, if_neg q]; exact zNz_d
  have ag3 : ∀ i : Nat, (i : Int) < z3 → fc4 i = fc3 i := fun i hi => by rw [e4, pk_un (by omega)]
  have ag2 : ∀ i : Nat, (i : Int) < z2 → fc4 i = fc2 i := fun i hi => (ag3 i (by omega)).trans (b3' i hi)
  have ag1 : ∀ i : Nat, (i : Int) < z1 → fc4 i = fc1 i := fun i hi => (ag2 i (by omega)).trans (by rw [e2, pk_un (by omega)])
  refine zBlk_t (b := z1) (zBlk_c (Bx t l s) (fun i _ h => ag1 i h)) ?_ (by omega) (by omega)
  refine zBlk_t (b := z2) (zBlk_1 (c := cl) (s1 := (t, x, 0, s)) (by omega) ez ((ag2 z1.toNat (by omega)).trans (by rw [e2, pk_us])) (zNx_p (by rw [il.1]; decide) (by rw [il.1]; decide)) (zSx_7 il.1)) ?_ (by omega) (by omega)
  refine zBlk_t (b := z3) (zBlk_c (By t x s) (fun i _ h => ag3 i h)) ?_ (by omega) (by omega)
  refine zBlk_1 (c := cs) (by omega) ez4 (by rw [e4, pk_us]) (zNx_p (by rw [is.1]; omega) (by rw [is.1]; omega)) ?_
  rcases hk with q | q
  · subst q; exact zSx_8 is.1
  · subst q; exact zSx_9 is.1
/-- not: an atom, and NOT's cell -/
theorem zAC_n {V V1 : (Nat → Int32) → Bool → Prop} {b b0 b1 : Int} {fc0 fc1 fc2 : Nat → Int32} {z z1 z2 : Int} {c : Int32} (h0 : 0 ≤ z) (A : zAC V1 b0 b1 fc0 fc1 z z1) (hc : c = nI (12 + 32 * 0)) (e2 : fc2 = upd fc1 z1.toNat c) (ez : z2 = z1 + 1) (l : b < b0) (h : ∀ (e : Nat → Int32) (v : Bool), V1 e v → V e (!v)) : zAC V b b1 fc0 fc2 z z2 := by
  obtain ⟨⟨a1, a2⟩, a3, a4⟩ := A
  have ic := zckI (k := 12) (n := 0) (by decide) (by decide) hc
  refine ⟨⟨by omega, by omega⟩, fun i hi => by rw [e2, pk_un (by omega)]; exact a3 i hi, fun e => ?_⟩
  obtain ⟨v, hv, B⟩ := a4 e
  refine ⟨!v, h e v hv, fun t l s => ?_⟩
  obtain ⟨l1, s1, hs, Bl⟩ := B t l s
  refine ⟨l1, if s1.toInt = 0 then 1 else 0, ?_, ?_⟩
  · rw [zNz_d, ← hs]; unfold zNz; cases decide (s1.toInt = 0) <;> rfl
  refine zBlk_t (b := z1) (zBlk_c Bl (fun i _ h => by rw [e2, pk_un (by omega)])) ?_ (by omega) (by omega)
  exact zBlk_1 (c := c) (by omega) ez (by rw [e2, pk_us]) (zNx_p (by rw [ic.1]; decide) (by rw [ic.1]; decide)) (zSx_12 ic.1)
theorem zAC_w {V V1 : (Nat → Int32) → Bool → Prop} {b b0 b1 b2 : Int} {fc0 fc : Nat → Int32} {z z1 : Int} (A : zAC V1 b0 b1 fc0 fc z z1) (l1 : b ≤ b0) (l2 : b1 ≤ b2) (h : ∀ (e : Nat → Int32) (v : Bool), V1 e v → V e v) : zAC V b b2 fc0 fc z z1 := by
  obtain ⟨⟨a1, a2⟩, a3, a4⟩ := A
  refine ⟨⟨a1, by omega⟩, a3, fun e => ?_⟩
  obtain ⟨v, hv, B⟩ := a4 e
  exact ⟨v, h e v hv, B⟩
theorem zNx_13y {c : Int32} {a n : Int} {s : zRs} (h : (zCk c).toInt = 13) (k : s.2.2.2.toInt = 0) (hn : (zNb c).toInt = n) (l : a + 1 ≤ n) : zNx c a s + 1 = n := by
  unfold zNx
  rw [if_pos ⟨h, k⟩, hn]; omega
theorem zNx_13n {c : Int32} {a : Int} {s : zRs} (h : (zCk c).toInt = 13) (k : ¬ s.2.2.2.toInt = 0) : zNx c a s = a := by
  unfold zNx
  rw [if_neg (fun q => k q.2), if_neg (fun q => absurd (h.symm.trans q.1) (by decide))]
theorem zNx_14y {c : Int32} {a n : Int} {s : zRs} (h : (zCk c).toInt = 14) (k : ¬ s.2.2.2.toInt = 0) (hn : (zNb c).toInt = n) (l : a + 1 ≤ n) : zNx c a s + 1 = n := by
  unfold zNx
  rw [if_neg (fun q => absurd (h.symm.trans q.1) (by decide)), if_pos ⟨h, k⟩, hn]; omega
theorem zNx_14n {c : Int32} {a : Int} {s : zRs} (h : (zCk c).toInt = 14) (k : s.2.2.2.toInt = 0) : zNx c a s = a := by
  unfold zNx
  rw [if_neg (fun q => absurd (h.symm.trans q.1) (by decide)), if_neg (fun q => q.2 k)]
theorem zNz_tt {x : Int32} (h : zNz x = true) : ¬ x.toInt = 0 := fun q => by
  unfold zNz at h
  rw [decide_eq_true q] at h; exact absurd h (by decide)
theorem zNz_ff {x : Int32} (h : zNz x = false) : x.toInt = 0 := by
  unfold zNz at h
  by_cases q : x.toInt = 0
  · exact q
  · rw [decide_eq_false q] at h; exact absurd h (by decide)
theorem zMv_len {f : Nat → Int32} {n b b2 : Int} {bs : List Int32} (h : zisW f n b bs) (m : zMv f n b b2) (h0 : 0 ≤ b) : b + (bs.length : Int) ≤ b2 := by
  have a := h.2.1
  unfold zMv zSk at m
  have g := zw_ge (c := zcS) (f := f) (e := n.toNat) (p := (znx f n b).toNat)
  omega
/-- a jump is aimed, if there is one -/
def zAim (z x : Int) (fc fc2 : Nat → Int32) : Prop := (x < 0 → fc2 = fc) ∧ (0 ≤ x → fc2 = upd fc x.toNat (zCk (fc x.toNat) + 32 * nI z.toNat))
theorem zAim_n {z x : Int} {fc : Nat → Int32} (h : x < 0) : zAim z x fc fc := ⟨fun _ => rfl, fun q => absurd q (by omega)⟩
theorem zAim_y {z x : Int32} {fc fc2 : Nat → Int32} (hx : 0 ≤ x.toInt) (hz : 0 ≤ z.toInt) (e : fc2 = upd fc x.toInt.toNat (fc x.toInt.toNat - fc x.toInt.toNat / 32 * 32 + 32 * z)) : zAim z.toInt x.toInt fc fc2 := by
  refine ⟨fun q => absurd q (by omega), fun _ => ?_⟩
  obtain ⟨k, h1, e1, h3⟩ := znN (x := z) rfl hz
  rw [e, show z.toInt.toNat = k by omega, ← e1]; rfl
theorem zAim_v {z x : Int} {k : Nat} {fc fc2 : Nat → Int32} (h : zAim z x fc fc2) (hk : k < 32) (hf : 0 ≤ x → fc x.toNat = nI k) (hx : 0 ≤ x) : fc2 = upd fc x.toNat (nI (k + 32 * z.toNat)) := by
  rw [h.2 hx, (zck (k := k) (n := 0) hk (by decide) (hf hx)).1, zcell rfl rfl]
/-! conditions: z0: where the cells begin; po, pa: the jumps that aren't aimed yet (-1: none) -/
def zPend (fc : Nat → Int32) (z0 z po pa : Int) (e : Nat → Int32) (o a : Bool) : Prop :=
  (po < 0 → o = false) ∧ (pa < 0 → a = true) ∧
  ∀ t l s : Int32, ∃ l1 s1 : Int32, (o = true → zNz s1 = true) ∧ (o = false → a = false → zNz s1 = false) ∧
    ∀ (fd : Nat → Int32) (Z To Ta : Int), (∀ i : Nat, z0 ≤ (i : Int) → (i : Int) < z → ¬ (i : Int) = po → ¬ (i : Int) = pa → fd i = fc i) → (0 ≤ po → fd po.toNat = nI (14 + 32 * To.toNat)) → (0 ≤ pa → fd pa.toNat = nI (13 + 32 * Ta.toNat)) → z ≤ Z → (z ≤ To ∧ To ≤ 1000) → (z ≤ Ta ∧ Ta ≤ 1000) →
      zRu fd Z e z0 (t, l, 0, s) = zRu fd Z e (if o = true then To else if a = true then z else Ta) (t, l1, 0, s1)
def zMid (fc : Nat → Int32) (z0 z po : Int) (e : Nat → Int32) (o a : Bool) : Prop :=
  (po < 0 → o = false) ∧
  ∀ t l s : Int32, ∃ l1 s1 : Int32, zNz s1 = (o || a) ∧
    ∀ (fd : Nat → Int32) (Z To : Int), (∀ i : Nat, z0 ≤ (i : Int) → (i : Int) < z → ¬ (i : Int) = po → fd i = fc i) → (0 ≤ po → fd po.toNat = nI (14 + 32 * To.toNat)) → z ≤ Z → (z ≤ To ∧ To ≤ 1000) →
      zRu fd Z e z0 (t, l, 0, s) = zRu fd Z e (if o = true then To else z) (t, l1, 0, s1)
def zDone (fc : Nat → Int32) (z0 z : Int) (e : Nat → Int32) (w : Bool) : Prop := ∀ t l s : Int32, ∃ l1 s1 : Int32, zNz s1 = w ∧ zBlk fc z0 z e (t, l, 0, s) (t, l1, 0, s1)
theorem zPend_0 {fc : Nat → Int32} {z : Int} {e : Nat → Int32} : zPend fc z z (-1) (-1) e false true :=
  ⟨fun _ => rfl, fun _ => rfl, fun t l s => ⟨l, s, fun q => absurd q (by decide), fun _ q => absurd q (by decide), fun fd Z To Ta _ _ _ _ _ _ => by rw [if_neg (by decide), if_pos rfl]⟩⟩
theorem zMid_of {fc fc1 fc2 : Nat → Int32} {z0 z z1 po pa : Int} {e : Nat → Int32} {o a w : Bool} (P : zPend fc z0 z po pa e o a) (h0 : 0 ≤ z0) (hz : z0 ≤ z) (A : zDone fc1 z z1 e w) (k1 : ∀ i : Nat, (i : Int) < z → fc1 i = fc i) (m1 : pa < 0 → fc2 = fc1) (m2 : 0 ≤ pa → fc2 = upd fc1 pa.toNat (nI (13 + 32 * z1.toNat))) (hp : po < z) (hq : pa < z) (hqz : 0 ≤ pa → z0 ≤ pa) (ne : 0 ≤ pa → ¬ po = pa) (hz1 : z ≤ z1 ∧ z1 ≤ 1000) : zMid fc2 z0 z1 po e o (a && w) := by
  obtain ⟨P1, P2, P3⟩ := P
  have g : ∀ i : Nat, ¬ (i : Int) = pa → fc2 i = fc1 i := fun i hi => by
    rcases Int.lt_or_le pa 0 with q | q
    · rw [m1 q]
    · rw [m2 q, pk_un (by omega)]
  refine ⟨P1, fun t l s => ?_⟩
  obtain ⟨l1, s1, S1, S2, R⟩ := P3 t l s
  obtain ⟨l2, s2, W, B⟩ := A t l1 s1
  have R' : ∀ (fd : Nat → Int32) (Z To : Int), (∀ i : Nat, z0 ≤ (i : Int) → (i : Int) < z1 → ¬ (i : Int) = po → fd i = fc2 i) → (0 ≤ po → fd po.toNat = nI (14 + 32 * To.toNat)) → z1 ≤ Z → (z1 ≤ To ∧ To ≤ 1000) → zRu fd Z e z0 (t, l, 0, s) = zRu fd Z e (if o = true then To else if a = true then z else z1) (t, l1, 0, s1) := fun fd Z To ag ho hZ hT => by
    refine R fd Z To z1 (fun i a1 a2 a3 a4 => ?_) ho (fun q => ?_) (by omega) (by omega) hz1
    · rw [ag i a1 (by omega) a3, g i a4, k1 i a2]
    · have n1 := ne q
      have n2 := hqz q
      rw [ag pa.toNat (by omega) (by omega) (by omega), m2 q, pk_us]
  cases o with
  | true =>
    refine ⟨l1, s1, ?_, fun fd Z To ag ho hZ hT => ?_⟩
    · rw [S1 rfl]; rfl
    · rw [R' fd Z To ag ho hZ hT, if_pos rfl, if_pos rfl]
  | false =>
    cases a with
    | false =>
      refine ⟨l1, s1, ?_, fun fd Z To ag ho hZ hT => ?_⟩
      · rw [S2 rfl rfl]; rfl
      · rw [R' fd Z To ag ho hZ hT, if_neg (by decide), if_neg (by decide), if_neg (by decide)]
    | true =>
      refine ⟨l2, s2, ?_, fun fd Z To ag ho hZ hT => ?_⟩
      · rw [W]; cases w <;> rfl
      · rw [R' fd Z To ag ho hZ hT, if_neg (by decide), if_pos rfl, if_neg (by decide)]
        exact B fd Z (fun i a1 a2 => (ag i (by omega) a2 (by omega)).trans (g i (by omega))) hZ
theorem zPend_and {fc fc' : Nat → Int32} {z0 z1 z2 po : Int} {e : Nat → Int32} {o a : Bool} (M : zMid fc z0 z1 po e o a) (e1 : fc' = upd fc z1.toNat (nI (13 + 32 * 0))) (h0 : 0 ≤ z0) (hz : z0 ≤ z1) (hp : po < z1) (ez : z2 = z1 + 1) : zPend fc' z0 z2 po z1 e o a := by
  obtain ⟨M1, M2⟩ := M
  refine ⟨M1, fun q => absurd q (by omega), fun t l s => ?_⟩
  obtain ⟨l1, s1, W, R⟩ := M2 t l s
  refine ⟨l1, s1, fun q => by rw [W, q]; rfl, fun q r => by rw [W, q, r]; rfl, fun fd Z To Ta ag ho ha hZ hT hA => ?_⟩
  rw [R fd Z To (fun i a1 a2 a3 => by rw [ag i a1 (by omega) a3 (by omega), e1, pk_un (by omega)]) ho (by omega) (by omega)]
  cases o with
  | true => rw [if_pos rfl, if_pos rfl]
  | false =>
    rw [if_neg (by decide), if_neg (by decide)]
    have hk := zckI (k := 13) (n := Ta.toNat) (by decide) (by omega) (ha (by omega))
    have hn : (zNb (fd z1.toNat)).toInt = Ta := hk.2.trans (Int.toNat_of_nonneg (by omega))
    rw [zRu_s (at_ := z1) (by omega), zSx_13 hk.1]
    cases a with
    | true => rw [if_pos rfl, zNx_13n (s := (t, l1, 0, s1)) hk.1 (zNz_tt (W.trans rfl)), ez]
    | false => rw [if_neg (by decide), zNx_13y (s := (t, l1, 0, s1)) hk.1 (zNz_ff (W.trans rfl)) hn (by omega)]
theorem zDone_of {fc fc3 : Nat → Int32} {z0 z1 po : Int} {e : Nat → Int32} {o a : Bool} (M : zMid fc z0 z1 po e o a) (m1 : po < 0 → fc3 = fc) (m2 : 0 ≤ po → fc3 = upd fc po.toNat (nI (14 + 32 * z1.toNat))) (hp : po < z1) (hpz : 0 ≤ po → z0 ≤ po) (hz : z1 ≤ 1000) : zDone fc3 z0 z1 e (o || a) := by
  intro t l s
  obtain ⟨l1, s1, W, R⟩ := M.2 t l s
  refine ⟨l1, s1, W, fun fd Z ag hZ => ?_⟩
  have E := R fd Z z1 (fun i a1 a2 a3 => by
    rw [ag i a1 a2]
    rcases Int.lt_or_le po 0 with q | q
    · rw [m1 q]
    · rw [m2 q, pk_un (by omega)]) (fun q => by
    have n2 := hpz q
    rw [ag po.toNat (by omega) (by omega), m2 q, pk_us]) hZ ⟨Int.le_refl _, hz⟩
  rw [E, ite_self]
theorem zPend_or {fc fc' : Nat → Int32} {z0 z1 z2 : Int} {e : Nat → Int32} {w : Bool} (D : zDone fc z0 z1 e w) (e1 : fc' = upd fc z1.toNat (nI (14 + 32 * 0))) (h0 : 0 ≤ z0) (hz : z0 ≤ z1) (ez : z2 = z1 + 1) : zPend fc' z0 z2 z1 (-1) e w true := by
  refine ⟨fun q => absurd q (by omega), fun _ => rfl, fun t l s => ?_⟩
  obtain ⟨l1, s1, W, B⟩ := D t l s
  refine ⟨l1, s1, fun q => by rw [W, q], fun _ q => absurd q (by decide), fun fd Z To Ta ag ho _ hZ hT _ => ?_⟩
  rw [B fd Z (fun i a1 a2 => by rw [ag i a1 (by omega) (by omega) (by omega), e1, pk_un (by omega)]) (by omega)]
  have hk := zckI (k := 14) (n := To.toNat) (by decide) (by omega) (ho (by omega))
  have hn : (zNb (fd z1.toNat)).toInt = To := hk.2.trans (Int.toNat_of_nonneg (by omega))
  rw [zRu_s (at_ := z1) (by omega), zSx_14 hk.1]
  cases w with
  | true => rw [if_pos rfl, zNx_14y (s := (t, l1, 0, s1)) hk.1 (zNz_tt W) hn (by omega)]
  | false => rw [if_neg (by decide), if_pos rfl, zNx_14n (s := (t, l1, 0, s1)) hk.1 (zNz_ff W), ez]
/-- what is still to come behind an atom -/
def zCvT (f : Nat → Int32) (n : Int) (A : Int → Int → Bool → Prop) (o a : Bool) (b p : Int) (v : Bool) : Prop :=
  (zisW f n b zwAnd ∧ zCv f n A o a (znt f n b) p v) ∨ (¬ zisW f n b zwAnd ∧ zisW f n b zwOr ∧ zCv f n A (o || a) true (znt f n b) p v) ∨ (¬ zisW f n b zwAnd ∧ ¬ zisW f n b zwOr ∧ p = b ∧ v = (o || a))
/-- ahead of an atom -/
def zCI (A : (Nat → Int32) → Int → Int → Bool → Prop) (f : Nat → Int32) (n b0 b : Int) (fc0 fc : Nat → Int32) (z0 z po pa : Int) : Prop :=
  (z0 ≤ z ∧ z ≤ z0 + (b - b0)) ∧ (-1 ≤ po ∧ po < z ∧ -1 ≤ pa ∧ pa < z) ∧ (0 ≤ po → z0 ≤ po ∧ fc po.toNat = nI 14) ∧ (0 ≤ pa → z0 ≤ pa ∧ fc pa.toNat = nI 13) ∧ (∀ i : Nat, (i : Int) < z0 → fc i = fc0 i) ∧
  ∀ e, ∃ o a, (∀ p v, zCv f n (A e) o a b p v → zCv f n (A e) false true b0 p v) ∧ zPend fc z0 z po pa e o a
/-- behind one -/
def zCM (A : (Nat → Int32) → Int → Int → Bool → Prop) (f : Nat → Int32) (n b0 b : Int) (fc0 fc : Nat → Int32) (z0 z po : Int) : Prop :=
  (z0 + 1 ≤ z ∧ z ≤ z0 + (b - b0) + 1) ∧ (-1 ≤ po ∧ po < z) ∧ (0 ≤ po → z0 ≤ po ∧ fc po.toNat = nI 14) ∧ (∀ i : Nat, (i : Int) < z0 → fc i = fc0 i) ∧
  ∀ e, ∃ o a, (∀ p v, zCvT f n (A e) o a b p v → zCv f n (A e) false true b0 p v) ∧ zMid fc z0 z po e o a
theorem zCI_0 {A : (Nat → Int32) → Int → Int → Bool → Prop} {f : Nat → Int32} {n b : Int} {fc : Nat → Int32} {z : Int} (h0 : 0 ≤ z) : zCI A f n b b fc fc z z (-1) (-1) :=
  ⟨⟨by omega, by omega⟩, ⟨by omega, by omega, by omega, by omega⟩, fun q => absurd q (by decide), fun q => absurd q (by decide), fun _ _ => rfl, fun _ => ⟨false, true, fun _ _ h => h, zPend_0⟩⟩
theorem zCM_of {A : (Nat → Int32) → Int → Int → Bool → Prop} {f : Nat → Int32} {n b0 b b1 : Int} {fc0 fc fc1 fc2 : Nat → Int32} {z0 z z1 po pa : Int} (h0 : 0 ≤ z0) (C : zCI A f n b0 b fc0 fc z0 z po pa) (H : zAC (fun e v => A e b b1 v) b b1 fc fc1 z z1) (m : zAim z1 pa fc1 fc2) (hz1 : z1 ≤ 1000) : zCM A f n b0 b1 fc0 fc2 z0 z1 po := by
  obtain ⟨⟨c1, c2⟩, ⟨c3, c4, c5, c6⟩, c7, c8, c9, c10⟩ := C
  obtain ⟨⟨a1, a2⟩, a3, a4⟩ := H
  have m2 : 0 ≤ pa → fc2 = upd fc1 pa.toNat (nI (13 + 32 * z1.toNat)) := zAim_v m (by decide) (fun q => (a3 _ (by omega)).trans (c8 q).2)
  have ne : 0 ≤ pa → ¬ po = pa := fun q r => by
    have q1 := (c8 q).2
    rw [← r, (c7 (by omega)).2] at q1; exact absurd q1 (by decide)
  have g : ∀ i : Nat, ¬ (i : Int) = pa → fc2 i = fc1 i := fun i hi => by
    rcases Int.lt_or_le pa 0 with q | q
    · rw [m.1 q]
    · rw [m2 q, pk_un (by omega)]
  refine ⟨⟨by omega, by omega⟩, ⟨c3, by omega⟩, fun q => ⟨(c7 q).1, ?_⟩, fun i hi => ?_, fun e => ?_⟩
  · rw [g _ (fun r => by rcases Int.lt_or_le pa 0 with s | s; omega; exact ne s (by omega)), a3 _ (by omega)]; exact (c7 q).2
  · rw [g _ (fun r => by have := (c8 (by omega)).1; omega), a3 _ (by omega)]; exact c9 i hi
  obtain ⟨o, a, J, P⟩ := c10 e
  obtain ⟨w, hw, B⟩ := a4 e
  exact ⟨o, a && w, fun p v q => J p v (zCv_m ⟨b1, w, hw, q⟩), zMid_of P h0 c1 B a3 m.1 m2 c4 c6 (fun q => (c8 q).1) ne ⟨by omega, hz1⟩⟩
theorem zCI_and {A : (Nat → Int32) → Int → Int → Bool → Prop} {f : Nat → Int32} {n b0 b1 b2 : Int} {fc0 fc fc' : Nat → Int32} {z0 z z' po : Int} {cl : Int32} (h0 : 0 ≤ z0) (hb : 0 ≤ b1) (M : zCM A f n b0 b1 fc0 fc z0 z po) (hw : zisW f n b1 zwAnd) (mv : zMv f n b1 b2) (hcl : cl = nI (13 + 32 * 0)) (e1 : fc' = upd fc z.toNat cl) (ez : z' = z + 1) : zCI A f n b0 b2 fc0 fc' z0 z' po z := by
  subst hcl
  have L := zMv_len hw mv hb
  have L3 : (zwAnd.length : Int) = 3 := by decide
  have E := znt_of mv
  obtain ⟨⟨c1, c2⟩, ⟨c3, c4⟩, c7, c9, c10⟩ := M
  refine ⟨⟨by omega, by omega⟩, ⟨c3, by omega, by omega, by omega⟩, fun q => ⟨(c7 q).1, ?_⟩, fun _ => ⟨by omega, ?_⟩, fun i hi => ?_, fun e => ?_⟩
  · rw [e1, pk_un (by omega)]; exact (c7 q).2
  · rw [e1, pk_us]
  · rw [e1, pk_un (by omega)]; exact c9 i hi
  obtain ⟨o, a, J, P⟩ := c10 e
  subst E
  exact ⟨o, a, fun p v q => J p v (Or.inl ⟨hw, q⟩), zPend_and P e1 h0 (by omega) c4 ez⟩
theorem zCI_or {A : (Nat → Int32) → Int → Int → Bool → Prop} {f : Nat → Int32} {n b0 b1 b2 : Int} {fc0 fc fc3 fc' : Nat → Int32} {z0 z z' po : Int} {cl : Int32} (h0 : 0 ≤ z0) (hb : 0 ≤ b1) (hz : z ≤ 1000) (M : zCM A f n b0 b1 fc0 fc z0 z po) (m : zAim z po fc fc3) (hn : ¬ zisW f n b1 zwAnd) (hw : zisW f n b1 zwOr) (mv : zMv f n b1 b2) (hcl : cl = nI (14 + 32 * 0)) (e1 : fc' = upd fc3 z.toNat cl) (ez : z' = z + 1) : zCI A f n b0 b2 fc0 fc' z0 z' z (-1) := by
  subst hcl
  have L := zMv_len hw mv hb
  have L3 : (zwOr.length : Int) = 2 := by decide
  have E := znt_of mv
  obtain ⟨⟨c1, c2⟩, ⟨c3, c4⟩, c7, c9, c10⟩ := M
  have m2 : 0 ≤ po → fc3 = upd fc po.toNat (nI (14 + 32 * z.toNat)) := zAim_v m (by decide) (fun q => (c7 q).2)
  refine ⟨⟨by omega, by omega⟩, ⟨by omega, by omega, by omega, by omega⟩, fun _ => ⟨by omega, ?_⟩, fun q => absurd q (by decide), fun i hi => ?_, fun e => ?_⟩
  · rw [e1, pk_us]
  · rw [e1, pk_un (by omega)]
    rcases Int.lt_or_le po 0 with q | q
    · rw [m.1 q]; exact c9 i hi
    · have := (c7 q).1
      rw [m2 q, pk_un (by omega)]; exact c9 i hi
  obtain ⟨o, a, J, P⟩ := c10 e
  subst E
  exact ⟨o || a, true, fun p v q => J p v (Or.inr (Or.inl ⟨hn, hw, q⟩)), zPend_or (zDone_of P m.1 m2 c4 (fun q => (c7 q).1) hz) e1 h0 (by omega) ez⟩
theorem zAC_end {A : (Nat → Int32) → Int → Int → Bool → Prop} {f : Nat → Int32} {n b0 b1 : Int} {fc0 fc fc3 : Nat → Int32} {z0 z po : Int} (hz : z ≤ 1000) (M : zCM A f n b0 b1 fc0 fc z0 z po) (m : zAim z po fc fc3) (hn : ¬ zisW f n b1 zwAnd) (hw : ¬ zisW f n b1 zwOr) : zAC (fun e v => zCv f n (A e) false true b0 b1 v) b0 b1 fc0 fc3 z0 z := by
  obtain ⟨⟨c1, c2⟩, ⟨c3, c4⟩, c7, c9, c10⟩ := M
  have m2 : 0 ≤ po → fc3 = upd fc po.toNat (nI (14 + 32 * z.toNat)) := zAim_v m (by decide) (fun q => (c7 q).2)
  refine ⟨⟨c1, c2⟩, fun i hi => ?_, fun e => ?_⟩
  · rcases Int.lt_or_le po 0 with q | q
    · rw [m.1 q]; exact c9 i hi
    · have := (c7 q).1
      rw [m2 q, pk_un (by omega)]; exact c9 i hi
  obtain ⟨o, a, J, P⟩ := c10 e
  exact ⟨o || a, J _ _ (Or.inr (Or.inr ⟨hn, hw, rfl, rfl⟩)), zDone_of P m.1 m2 c4 (fun q => (c7 q).1) hz⟩
/-! deeper, and an atom -/
def zDv (f : Nat → Int32) (n : Int) (e : Nat → Int32) (k : Nat) (b b1 : Int) (v : Bool) : Prop := (zisS f n b 40 ∧ ∃ p, zCv f n (zAv f n e k) false true (znt f n b) p v ∧ zisS f n p 41 ∧ b1 = znt f n p) ∨ (¬ zisS f n b 40 ∧ zAv f n e k (znt f n b) b1 (!v))
theorem zAv_s {f : Nat → Int32} {n : Int} {e : Nat → Int32} {k : Nat} {b b1 : Int} {v : Bool} (D : zDeep f n b) (h : zDv f n e k b b1 v) : zAv f n e (k + 1) b b1 v := by
  rcases h with ⟨a, c⟩ | ⟨a, c⟩
  · exact Or.inr (Or.inl ⟨a, c⟩)
  · exact Or.inl ⟨D.resolve_right a, c⟩
theorem zAv_pl {f : Nat → Int32} {n : Int} {e : Nat → Int32} {b b1 : Int} {v : Bool} : ∀ {k : Nat}, ¬ zDeep f n b → zPlV f n e b b1 v → zAv f n e k b b1 v
  | 0, h, p => ⟨h, p⟩
  | _ + 1, h, p => Or.inr (Or.inr ⟨h, p⟩)
theorem zAC_deep {f : Nat → Int32} {n : Int} {k k' : Nat} {b b1 : Int} {fc0 fc : Nat → Int32} {z z1 : Int} (hk : k' = k + 1) (D : zDeep f n b) (A : zAC (fun e v => zDv f n e k b b1 v) b b1 fc0 fc z z1) : zAC (fun e v => zAv f n e k' b b1 v) b b1 fc0 fc z z1 := by
  subst hk; exact zAC_w A (Int.le_refl _) (Int.le_refl _) (fun e v h => zAv_s D h)
theorem zAC_par {f : Nat → Int32} {n : Int} {k : Nat} {b b1 b2 b3 c d : Int} {fc0 fc : Nat → Int32} {z z1 : Int} (hs : zisS f n b c) (hc : c = 40) (mv : zMv f n b b1) (A : zAC (fun e v => zCv f n (zAv f n e k) false true b1 b2 v) b1 b2 fc0 fc z z1) (hs2 : zisS f n b2 d) (hd : d = 41) (mv2 : zMv f n b2 b3) (l1 : b ≤ b1) (l2 : b2 ≤ b3) : zAC (fun e v => zDv f n e k b b3 v) b b3 fc0 fc z z1 := by
  have E := znt_of mv
  have E2 := znt_of mv2
  subst hc; subst hd; subst E; subst E2
  exact zAC_w A l1 l2 (fun e v h => Or.inl ⟨hs, b2, h, hs2, rfl⟩)
theorem zAC_not {f : Nat → Int32} {n : Int} {k : Nat} {b b1 b2 c : Int} {fc0 fc fc2 : Nat → Int32} {z z1 z2 : Int} {cl : Int32} (h0 : 0 ≤ z) (hs : ¬ zisS f n b c) (hc : c = 40) (mv : zMv f n b b1) (A : zAC (fun e v => zAv f n e k b1 b2 v) b1 b2 fc0 fc z z1) (hl : cl = nI (12 + 32 * 0)) (e2 : fc2 = upd fc z1.toNat cl) (ez : z2 = z1 + 1) (l : b < b1) : zAC (fun e v => zDv f n e k b b2 v) b b2 fc0 fc2 z z2 := by
  have E := znt_of mv
  subst hc; subst E
  refine zAC_n h0 A hl e2 ez l (fun e v h => Or.inr ⟨hs, ?_⟩)
  rw [Bool.not_not]; exact h
theorem zAC_word {f : Nat → Int32} {n : Int} {kk : Nat} {b b1 : Int} {fc0 fc : Nat → Int32} {z z1 : Int} {k j : Nat} {c : Int32} (h0 : 0 ≤ z) (nd : ¬ zDeep f n b) (w : (k = 10 ∧ j = 6 ∧ zisW f n b zwDry) ∨ (k = 11 ∧ j = 7 ∧ zisW f n b zwOwner)) (mv : zMv f n b b1) (hc : c = nI (k + 32 * 0)) (e1 : fc = upd fc0 z.toNat c) (e2 : z1 = z + 1) (l : b < b1) : zAC (fun e v => zAv f n e kk b b1 v) b b1 fc0 fc z z1 := by
  have E := znt_of mv
  subst E
  refine zAC_1 (k := k) (j := j) h0 (w.elim (fun q => Or.inl ⟨q.1, q.2.1⟩) (fun q => Or.inr ⟨q.1, q.2.1⟩)) hc e1 e2 l (fun e => zAv_pl nd ?_)
  rcases w with ⟨_, q, r⟩ | ⟨_, q, r⟩
  · subst q; exact Or.inl ⟨r, rfl, rfl⟩
  · subst q; exact Or.inr (Or.inl ⟨r, rfl, rfl⟩)
theorem zAC_less {f : Nat → Int32} {n : Int} {kk : Nat} {b b1 b2 b3 c : Int} {fc0 fc1 fc2 fc3 fc4 : Nat → Int32} {z z1 z2 z3 z4 : Int} {cl cs : Int32} {k : Nat} (h0 : 0 ≤ z) (nd : ¬ zDeep f n b) (n1 : ¬ zisW f n b zwDry) (n2 : ¬ zisW f n b zwOwner) (S1 : zSC f n b b1 fc0 fc1 z z1) (hs : zisS f n b1 c) (hk : (k = 8 ∧ c = 60) ∨ (k = 9 ∧ c = 62)) (mv : zMv f n b1 b2) (hl : cl = nI (7 + 32 * 0)) (e2 : fc2 = upd fc1 z1.toNat cl) (ez : z2 = z1 + 1) (S2 : zSC f n b2 b3 fc2 fc3 z2 z3) (hcs : cs = nI (k + 32 * 0)) (e4 : fc4 = upd fc3 z3.toNat cs) (ez4 : z4 = z3 + 1) (l : b1 < b2) : zAC (fun e v => zAv f n e kk b b3 v) b b3 fc0 fc4 z z4 := by
  have E := znt_of mv
  subst E
  refine zAC_c (k := k) h0 S1 hl e2 ez S2 (hk.elim (fun q => Or.inl q.1) (fun q => Or.inr q.1)) hcs e4 ez4 l (fun e x y hx hy => zAv_pl nd (Or.inr (Or.inr ⟨n1, n2, b1, x, y, hx, ?_, hy⟩)))
  rcases hk with ⟨q, r⟩ | ⟨q, r⟩
  · subst q; subst r; exact Or.inl ⟨hs, if_pos rfl⟩
  · subst q; subst r; exact Or.inr ⟨hs, if_neg (by decide)⟩
/-! a line -/
def zLC (f : Nat → Int32) (n b b1 : Int) (fc0 fc : Nat → Int32) (z z1 : Int) : Prop :=
  (z + 1 ≤ z1 ∧ z1 ≤ z + (b1 - b)) ∧ (∀ i : Nat, (i : Int) < z → fc i = fc0 i) ∧
  ∀ e (t l : Int32), ∃ t1 l1 : Int32, zLvt f n e b b1 t t1 ∧ zBlk fc z z1 e (t, l, 0, 1) (t1, l1, 0, 1)
theorem zLC_x {f : Nat → Int32} {n b b1 b2 b3 : Int} {w : Int32} {fc0 fc fc2 : Nat → Int32} {z z1 z2 : Int} {c kn : Int32} {k : Nat} (h0 : 0 ≤ z) (hk : (k = 15 ∧ zisW f n b zwRaise) ∨ (k = 16 ∧ ¬ zisW f n b zwRaise ∧ zisW f n b zwLower)) (mv : zMv f n b b1) (hw : zNu f n b1 0 30 w) (mv2 : zMv f n b1 b2)
    (A : (∀ i : Nat, (i : Int) < z → fc i = fc0 i) ∧ ∀ e (t l : Int32), ∃ (v : Bool) (l1 s1 : Int32), zNz s1 = v ∧ ((¬ zisW f n b2 zwIf ∧ b3 = b2 ∧ v = true) ∨ (zisW f n b2 zwIf ∧ zCv f n (zAv f n e 6) false true (znt f n b2) b3 v)) ∧ zBlk fc z z1 e (t, l, 0, 1) (t, l1, 0, s1))
    (hkn : kn = nI k) (hc : c = kn + 32 * w) (e2 : fc2 = upd fc z1.toNat c) (ez : z2 = z1 + 1) (l1 : z ≤ z1) (l2 : z2 ≤ z + (b3 - b)) : zLC f n b b3 fc0 fc2 z z2 := by
  obtain ⟨A1, A2⟩ := A
  have E := znt_of mv
  have E2 := znt_of mv2
  obtain ⟨m, h1, e1, h3⟩ := znN (x := w) rfl hw.2.2.1
  have hb30 := hw.2.2.2
  have ic := zckI (k := k) (n := m) (by omega) (by omega) (hc.trans (zcell hkn e1))
  have nc := zck (k := k) (n := m) (by omega) (by omega) (hc.trans (zcell hkn e1))
  refine ⟨⟨by omega, l2⟩, fun i hi => by rw [e2, pk_un (by omega)]; exact A1 i hi, fun e t l => ?_⟩
  obtain ⟨v, l9, s1, W, T, B⟩ := A2 e t l
  subst E; subst E2
  have hv : (if s1.toInt = 0 then 0 else zNb c) = if v = true then w else 0 := by
    rw [nc.2, ← e1]
    cases v with
    | true => rw [if_neg (zNz_tt W), if_pos rfl]
    | false => rw [if_pos (zNz_ff W), if_neg (by decide)]
  have B2 := zBlk_c B (fc' := fc2) (fun i _ h => by rw [e2, pk_un (by omega)])
  rcases hk with ⟨q, r⟩ | ⟨q, r⟩
  · subst q
    refine ⟨t + (if v = true then w else 0), l9, ⟨w, v, hw, Or.inl ⟨r, rfl⟩, T⟩, zBlk_t B2 (zBlk_1 (c := c) (by omega) ez (by rw [e2, pk_us]) (zNx_p (by rw [ic.1]; decide) (by rw [ic.1]; decide)) ?_) l1 (by omega)⟩
    rw [zSx_15 ic.1, hv]
  · subst q
    refine ⟨t - (if v = true then w else 0), l9, ⟨w, v, hw, Or.inr ⟨r.1, r.2, rfl⟩, T⟩, zBlk_t B2 (zBlk_1 (c := c) (by omega) ez (by rw [e2, pk_us]) (zNx_p (by rw [ic.1]; decide) (by rw [ic.1]; decide)) ?_) l1 (by omega)⟩
    rw [zSx_16 ic.1, hv]
theorem zLx_p {f : Nat → Int32} {n b2 : Int} {fc : Nat → Int32} {z : Int} (hi : ¬ zisW f n b2 zwIf) : (∀ i : Nat, (i : Int) < z → fc i = fc i) ∧ ∀ e (t l : Int32), ∃ (v : Bool) (l1 s1 : Int32), zNz s1 = v ∧ ((¬ zisW f n b2 zwIf ∧ b2 = b2 ∧ v = true) ∨ (zisW f n b2 zwIf ∧ zCv f n (zAv f n e 6) false true (znt f n b2) b2 v)) ∧ zBlk fc z z e (t, l, 0, 1) (t, l1, 0, s1) :=
  ⟨fun _ _ => rfl, fun e t l => ⟨true, l, 1, zNz_1, Or.inl ⟨hi, rfl, rfl⟩, zBlk_r rfl⟩⟩
theorem zLx_c {f : Nat → Int32} {n b2 b3 b4 : Int} {fc0 fc : Nat → Int32} {z z1 : Int} (hi : zisW f n b2 zwIf) (mv : zMv f n b2 b3) (C : zAC (fun e v => zCv f n (zAv f n e 6) false true b3 b4 v) b3 b4 fc0 fc z z1) : (∀ i : Nat, (i : Int) < z → fc i = fc0 i) ∧ ∀ e (t l : Int32), ∃ (v : Bool) (l1 s1 : Int32), zNz s1 = v ∧ ((¬ zisW f n b2 zwIf ∧ b4 = b2 ∧ v = true) ∨ (zisW f n b2 zwIf ∧ zCv f n (zAv f n e 6) false true (znt f n b2) b4 v)) ∧ zBlk fc z z1 e (t, l, 0, 1) (t, l1, 0, s1) := by
  have E := znt_of mv
  subst E
  refine ⟨C.2.1, fun e t l => ?_⟩
  obtain ⟨v, hv, B⟩ := C.2.2 e
  obtain ⟨l1, s1, W, Bl⟩ := B t l 1
  exact ⟨v, l1, s1, W, Or.inr ⟨hi, hv⟩, Bl⟩
/-! lines: ahead of one; k: how many may come -/
def zLJ (f : Nat → Int32) (n : Int) (m k : Nat) (b0 b : Int) (fc : Nat → Int32) (z : Int) : Prop :=
  (0 ≤ z ∧ z ≤ b) ∧ ∀ e, ∃ t l : Int32, (∀ v, zLsN f n e k b t v → zLsN f n e m b0 0 v) ∧ zBlk fc 0 z e (0, 0, 0, 1) (t, l, 0, 1)
theorem zLJ_0 {f : Nat → Int32} {n b : Int} {m k : Nat} {fc : Nat → Int32} {z : Int} (hk : k = m) (hb : 0 ≤ b) (hz : z = 0) : zLJ f n m k b b fc z := by
  subst hk; subst hz
  exact ⟨⟨by omega, hb⟩, fun _ => ⟨0, 0, fun _ h => h, zBlk_r rfl⟩⟩
theorem zLJ_e {f : Nat → Int32} {n : Int} {m k k' : Nat} {b0 b : Int} {fc : Nat → Int32} {z : Int} (J : zLJ f n m k b0 b fc z) (h : k' = k) : zLJ f n m k' b0 b fc z := by subst h; exact J
theorem zLJ_s {f : Nat → Int32} {n : Int} {m k k' : Nat} {b0 b b1 b2 c : Int} {fc fc1 : Nat → Int32} {z z1 : Int} (J : zLJ f n m k b0 b fc z) (hk : k = k' + 1) (L : zLC f n b b1 fc fc1 z z1) (he : ¬ n ≤ b1) (hs : zisS f n b1 c) (hc : c = 59) (mv : zMv f n b1 b2) (l : b1 ≤ b2) : zLJ f n m k' b0 b2 fc1 z1 := by
  obtain ⟨⟨j1, j2⟩, J2⟩ := J
  obtain ⟨⟨l1, l2⟩, l3, l4⟩ := L
  have E := znt_of mv
  refine ⟨⟨by omega, by omega⟩, fun e => ?_⟩
  obtain ⟨t, ll, J3, B⟩ := J2 e
  obtain ⟨t1, ll1, V, B1⟩ := l4 e t ll
  subst hk; subst hc; subst E
  exact ⟨t1, ll1, fun v q => J3 v ⟨b1, t1, V, Or.inr ⟨he, hs, q⟩⟩, zBlk_t (zBlk_c B (fun i _ h => l3 i h)) B1 j1 (by omega)⟩
/-- the whole text of the law by its cells -/
def zLaC (f : Nat → Int32) (n : Int) (m : Nat) (b0 : Int) (fc : Nat → Int32) (z : Int) : Prop := ∀ e, zLsN f n e m b0 0 (zRu fc z e 0 (0, 0, 0, 1)).1
theorem zLaC_e {f : Nat → Int32} {n : Int} {m k : Nat} {b0 b b1 : Int} {fc fc1 : Nat → Int32} {z z1 : Int} (J : zLJ f n m k b0 b fc z) (hk : 0 < k) (L : zLC f n b b1 fc fc1 z z1) (he : n ≤ b1) : zLaC f n m b0 fc1 z1 := by
  obtain ⟨⟨j1, j2⟩, J2⟩ := J
  obtain ⟨⟨l1, l2⟩, l3, l4⟩ := L
  obtain ⟨k', rfl⟩ : ∃ k', k = k' + 1 := ⟨k - 1, by omega⟩
  intro e
  obtain ⟨t, ll, J3, B⟩ := J2 e
  obtain ⟨t1, ll1, V, B1⟩ := l4 e t ll
  have R := (zBlk_t (zBlk_c B (fc' := fc1) (fun i _ h => l3 i h)) B1 j1 (by omega)) fc1 z1 (fun _ _ _ => rfl) (Int.le_refl _)
  rw [R, zRu_x (Int.le_refl _)]
  exact J3 t1 ⟨b1, t1, V, Or.inl ⟨he, rfl⟩⟩
theorem zlz1 {z : Int32} (h : 0 ≤ z.toInt ∧ z.toInt ≤ 399) : (z + 1).toInt = z.toInt + 1 := zadd (i := z.toInt) (j := 1) rfl (by decide) (by omega)
theorem zDeep_z {f : Nat → Int32} {n b : Int} (h : zDeep f n b) : ¬ zkd f n b = 0 := h.elim zisW_z zisS_z
theorem zPtw1 {f : Nat → Int32} {n b : Int} (h : zisW f n b zwWho) : zPC f n b (1 + 32 * 0) := zPC_w (k := 1) (by decide) (by decide) (fun e => Or.inl ⟨h, zPv_1 e⟩)
theorem zPtw2 {f : Nat → Int32} {n b : Int} (h : zisW f n b zwBelief) : zPC f n b (2 + 32 * 0) := zPC_w (k := 2) (by decide) (by decide) (fun e => Or.inr (Or.inl ⟨h, zPv_2 e⟩))
theorem zPtw3 {f : Nat → Int32} {n b : Int} (h : zisW f n b zwMean) : zPC f n b (3 + 32 * 0) := zPC_w (k := 3) (by decide) (by decide) (fun e => Or.inr (Or.inr (Or.inl ⟨h, zPv_3 e⟩)))
theorem zPtw4 {f : Nat → Int32} {n b : Int} (h : zisW f n b zwWorks) : zPC f n b (4 + 32 * 0) := zPC_w (k := 4) (by decide) (by decide) (fun e => Or.inr (Or.inr (Or.inr (Or.inl ⟨h, zPv_4 e⟩))))
theorem zPtw5 {f : Nat → Int32} {n b : Int} (h : zisW f n b zwTies) : zPC f n b (5 + 32 * 0) := zPC_w (k := 5) (by decide) (by decide) (fun e => Or.inr (Or.inr (Or.inr (Or.inr (Or.inl ⟨h, zPv_5 e⟩)))))
theorem zPtw6 {f : Nat → Int32} {n b : Int} (h : zisW f n b zwDay) : zPC f n b (6 + 32 * 0) := zPC_w (k := 6) (by decide) (by decide) (fun e => Or.inr (Or.inr (Or.inr (Or.inr (Or.inr (Or.inl ⟨h, zPv_d (e := e) (k := nI 6) (by decide) (by decide) (by decide) (by decide) (by decide)⟩))))))
set_option maxRecDepth 100000 in
set_option maxHeartbeats 4000000 in
theorem c_l_putC (l : Launch) (g : zG) (lo : Nat) (lc : Nat) (lz : Int32) (ll : Int32) (lm : Int32) (lg : Int32) (ld : Int32) (fc : Nat → Int32) (kn : Int32) (nu : Int32) (b_lz : 0 ≤ lz.toInt ∧ lz.toInt ≤ 400) (hlz : 0 ≤ lz.toInt ∧ lz.toInt ≤ 399) : zM' g l yX1_put (Cond.code yX1_put cX1_put 3 (some .int) :: zB) ({ frames := 0, cells := 0, slots := 0, locals := 0 } : Room) [.ref lo, .int kn, .int nu] [bLaw g lo lc lz ll lm lg ld fc] (fun u : Int32 × (Nat → Int32) => (fun (lz2 : Int32) (fc2 : Nat → Int32) => some (.int lz)) (u.1) (u.2)) (fun u : Int32 × (Nat → Int32) => (fun (lz2 : Int32) (fc2 : Nat → Int32) => (0 ≤ lz2.toInt ∧ lz2.toInt ≤ 400) ∧ (lz2.toInt = lz.toInt + 1) ∧ (fc2 = upd fc lz.toInt.toNat (kn + 32 * nu))) (u.1) (u.2)) (fun u : Int32 × (Nat → Int32) => (fun (lz2 : Int32) (fc2 : Nat → Int32) => [bLaw g lo lc lz2 ll lm lg ld fc2]) (u.1) (u.2)) := by
  refine zM'.of (cc := cX1_put) (maxL := 3) (rt := (some .int)) (by decide) rfl (Nat.le_of_ble_eq_true rfl) ?_
  intro p e s m args below meth c A ls St hr hlocks hin hK hT hA hP hD hS hl
  obtain ⟨hx, hb, hml, hown, hts⟩ := id St
  have hl : lv_has ls 3 [(0, .ref lo), (1, .int kn), (2, .int nu)] := hl
  refine lv_aload_n hx hb dX1_put_0 rfl (lv_at hl 0 rfl) ?_
  refine va_get (D := g.1) (ci := 1) (v := .int lz) (C := RX1) (T := TX1) (N := 6) hx hb hts izRX1 hown hK hP 0 rfl rfl 1 (by decide) (hts _ k100) (fun _ h9 => h9) rfl dX1_put_1 ?_
  refine lv_sipush (v := 400) hx hb dX1_put_4 (by decide) ?_
  refine lv_icmp_lt (tgt := 12) hx hb dX1_put_7 (by decide) (fun cb9 => ?_) (fun cb9 => ?_)
  · skip
    have c1 : lz.toInt < 400 := zlti cb9 rfl (by decide)
    refine lv_aload_n hx hb dX1_put_12 rfl (lv_at hl 0 rfl) ?_
    refine va_get (D := g.1) (ci := 1) (v := .ref lc) (C := RX1) (T := TX1) (N := 6) hx hb hts izRX1 hown hK hP 0 rfl rfl 0 (by decide) (hts _ k101) (fun _ h9 => h9) rfl dX1_put_13 ?_
    refine lv_aload_n hx hb dX1_put_16 rfl (lv_at hl 0 rfl) ?_
    refine va_get (D := g.1) (ci := 1) (v := .int lz) (C := RX1) (T := TX1) (N := 6) hx hb hts izRX1 hown hK hP 0 rfl rfl 1 (by decide) (hts _ k100) (fun _ h9 => h9) rfl dX1_put_17 ?_
    refine lv_iload_n hx hb dX1_put_20 rfl (lv_at hl 1 rfl) ?_
    refine lv_bipush (v := 32) hx hb dX1_put_21 (by decide) ?_
    refine lv_iload_n hx hb dX1_put_23 rfl (lv_at hl 2 rfl) ?_
    refine lv_imul hx hb dX1_put_24 ?_
    refine lv_iadd hx hb dX1_put_25 ?_
    refine va_iast hx hb hK hP hD hS 1 0 rfl rfl (zinK (a := 0) (b := 399) hlz.1 hlz.2 (by decide)) dX1_put_26 (fun H locs hP hD hS => ?_)
    obtain ⟨fc_2, efc_2, hP, hD⟩ : ∃ fc_2 : Nat → Int32, fc_2 = upd fc lz.toInt.toNat (kn + (32 * nu)) ∧ va_P g.1 vwCl (List.flatten [bLaw g lo lc lz ll lm lg ld fc_2]) H ∧ va_D A (List.flatten [bLaw g lo lc lz ll lm lg ld fc_2]) := ⟨upd fc lz.toNatClampNeg (kn + (32 * nu)), (by rw [zcl]), hP, hD⟩
    refine lv_aload_n hx hb dX1_put_27 rfl (lv_at hl 0 rfl) ?_
    refine lv_dup hx hb dX1_put_28 rfl ?_
    refine va_get (D := g.1) (ci := 1) (v := .int lz) (C := RX1) (T := TX1) (N := 6) hx hb hts izRX1 hown hK hP 0 rfl rfl 1 (by decide) (hts _ k100) (fun _ h9 => h9) rfl dX1_put_29 ?_
    refine lv_iconst (v := 1) hx hb dX1_put_32 (by decide) ?_
    refine lv_iadd hx hb dX1_put_33 ?_
    refine va_put (D := g.1) (ci := 1) (v := .int (lz + 1)) (ty := .int) (C := RX1) (T := TX1) (N := 6) hx hb hts izRX1 tyX1 tyX1_ok nmX1 hown hK hP hD hS 0 rfl rfl 1 (by decide) (hts _ k100) (fun _ h9 => h9) rfl (by decide +kernel) rfl rfl (Nat.le_of_ble_eq_true rfl) dX1_put_34 (fun H locs hP hD hS => ?_)
    have hP : va_P g.1 vwCl (List.flatten [bLaw g lo lc (lz + 1) ll lm lg ld fc_2]) H := hP
    have hD : va_D A (List.flatten [bLaw g lo lc (lz + 1) ll lm lg ld fc_2]) := hD
    refine lv_aload_n hx hb dX1_put_37 rfl (lv_at hl 0 rfl) ?_
    refine va_get (D := g.1) (ci := 1) (v := .int (lz + 1)) (C := RX1) (T := TX1) (N := 6) hx hb hts izRX1 hown hK hP 0 rfl rfl 1 (by decide) (hts _ k100) (fun _ h9 => h9) rfl dX1_put_38 ?_
    refine lv_iconst (v := 1) hx hb dX1_put_41 (by decide) ?_
    refine lv_isub hx hb dX1_put_42 ?_
    refine ztop (r := lz) (Int32.add_sub_cancel lz 1) ?_
    have hP : va_P g.1 vwCl (List.flatten [bLaw g lo lc (lz + 1) ll lm lg ld fc_2]) H := hP
    have hD : va_D A (List.flatten [bLaw g lo lc (lz + 1) ll lm lg ld fc_2]) := hD
    exact mret_i hx hb hr hlocks hS (Nat.le_of_ble_eq_true rfl) (Nat.le_of_ble_eq_true rfl) dX1_put_43 (lz + 1, fc_2) rfl (show (0 ≤ (lz + 1).toInt ∧ (lz + 1).toInt ≤ 400) ∧ ((lz + 1).toInt = lz.toInt + 1) ∧ (fc_2 = upd fc lz.toInt.toNat (kn + 32 * nu)) from ⟨⟨(by rw [zlz1 hlz]; omega), (by rw [zlz1 hlz]; omega)⟩, zlz1 hlz, efc_2⟩) hP hD
  · skip
    exact absurd (show 400 ≤ lz.toInt from zle (Int32.not_lt.mp cb9) (by decide) rfl) (zDle (a := 400) (b := 399) (Int.le_refl _) hlz.2 (by decide))
set_option maxRecDepth 100000 in
set_option maxHeartbeats 4000000 in
theorem c_l_aimC (l : Launch) (g : zG) (lo : Nat) (lc : Nat) (lz : Int32) (ll : Int32) (lm : Int32) (lg : Int32) (ld : Int32) (fc : Nat → Int32) (ju : Int32) (b_lz : 0 ≤ lz.toInt ∧ lz.toInt ≤ 400) (hlz : 0 ≤ lz.toInt ∧ lz.toInt ≤ 400) (hju : ju.toInt < lz.toInt) : zM' g l yX1_aim (Cond.code yX1_aim cX1_aim 2 none :: zB) ({ frames := 0, cells := 0, slots := 0, locals := 0 } : Room) [.ref lo, .int ju] [bLaw g lo lc lz ll lm lg ld fc] (fun (fc2 : Nat → Int32) => none) (fun (fc2 : Nat → Int32) => (zAim lz.toInt ju.toInt fc fc2)) (fun (fc2 : Nat → Int32) => [bLaw g lo lc lz ll lm lg ld fc2]) := by
  refine zM'.of (cc := cX1_aim) (maxL := 2) (rt := none) (by decide) rfl (Nat.le_of_ble_eq_true rfl) ?_
  intro p e s m args below meth c A ls St hr hlocks hin hK hT hA hP hD hS hl
  obtain ⟨hx, hb, hml, hown, hts⟩ := id St
  have hl : lv_has ls 2 [(0, .ref lo), (1, .int ju)] := hl
  refine lv_iload_n hx hb dX1_aim_0 rfl (lv_at hl 1 rfl) ?_
  refine lv_if_lt (tgt := 35) hx hb dX1_aim_1 (by decide) (fun cb9 => ?_) (fun cb9 => ?_)
  · skip
    have c1 : ju.toInt < 0 := zlti cb9 rfl (by decide)
    have n2 : ju.toInt ≤ (-1) := zL1 (b := 0) c1 (Int.le_refl _) (by decide)
    have hP : va_P g.1 vwCl (List.flatten [bLaw g lo lc lz ll lm lg ld fc]) s.heap := hP
    have hD : va_D A (List.flatten [bLaw g lo lc lz ll lm lg ld fc]) := hD
    exact mret_v hx hb hr hlocks hS (Nat.le_of_ble_eq_true rfl) (Nat.le_of_ble_eq_true rfl) dX1_aim_35 (fc) rfl (show (zAim lz.toInt ju.toInt fc fc) from (zAim_n (by omega))) hP hD
  · skip
    have c3 : 0 ≤ ju.toInt := zle (Int32.not_lt.mp cb9) (by decide) rfl
    have n4 : 0 ≤ ju.toInt := Int.le_trans (Int.le_refl _) c3
    refine lv_iload_n hx hb dX1_aim_4 rfl (lv_at hl 1 rfl) ?_
    refine lv_aload_n hx hb dX1_aim_5 rfl (lv_at hl 0 rfl) ?_
    refine va_get (D := g.1) (ci := 1) (v := .int lz) (C := RX1) (T := TX1) (N := 6) hx hb hts izRX1 hown hK hP 0 rfl rfl 1 (by decide) (hts _ k100) (fun _ h9 => h9) rfl dX1_aim_6 ?_
    refine lv_icmp_ge (tgt := 35) hx hb dX1_aim_9 (by decide) (fun cb9 => ?_) (fun cb9 => ?_)
    · skip
      have c5 : lz.toInt ≤ ju.toInt := zle cb9 rfl rfl
      have hP : va_P g.1 vwCl (List.flatten [bLaw g lo lc lz ll lm lg ld fc]) s.heap := hP
      have hD : va_D A (List.flatten [bLaw g lo lc lz ll lm lg ld fc]) := hD
      exact mret_v hx hb hr hlocks hS (Nat.le_of_ble_eq_true rfl) (Nat.le_of_ble_eq_true rfl) dX1_aim_35 (fc) rfl (show (zAim lz.toInt ju.toInt fc fc) from (zAim_n (by omega))) hP hD
    · skip
      have c6 : ju.toInt < lz.toInt := zlti (Int32.not_le.mp cb9) rfl rfl
      have n7 : ju.toInt ≤ 399 := zL1 (b := 400) c6 hlz.2 (by decide)
      have n8 : 1 ≤ lz.toInt := zL2 (a := 0) c6 n4 (by decide)
      refine lv_aload_n hx hb dX1_aim_12 rfl (lv_at hl 0 rfl) ?_
      refine va_get (D := g.1) (ci := 1) (v := .ref lc) (C := RX1) (T := TX1) (N := 6) hx hb hts izRX1 hown hK hP 0 rfl rfl 0 (by decide) (hts _ k101) (fun _ h9 => h9) rfl dX1_aim_13 ?_
      refine lv_iload_n hx hb dX1_aim_16 rfl (lv_at hl 1 rfl) ?_
      refine lv_aload_n hx hb dX1_aim_17 rfl (lv_at hl 0 rfl) ?_
      refine va_get (D := g.1) (ci := 1) (v := .ref lc) (C := RX1) (T := TX1) (N := 6) hx hb hts izRX1 hown hK hP 0 rfl rfl 0 (by decide) (hts _ k101) (fun _ h9 => h9) rfl dX1_aim_18 ?_
      refine lv_iload_n hx hb dX1_aim_21 rfl (lv_at hl 1 rfl) ?_
      refine va_iald hx hb hK hP 1 0 rfl rfl (zinK (a := 0) (b := 399) n4 n7 (by decide)) dX1_aim_22 ?_
      refine ztop (r := (fc ju.toInt.toNat)) rfl ?_
      refine lv_bipush (v := 32) hx hb dX1_aim_23 (by decide) ?_
      refine lv_irem hx hb dX1_aim_25 (by decide) ?_
      refine lv_bipush (v := 32) hx hb dX1_aim_26 (by decide) ?_
      refine lv_aload_n hx hb dX1_aim_28 rfl (lv_at hl 0 rfl) ?_
      refine va_get (D := g.1) (ci := 1) (v := .int lz) (C := RX1) (T := TX1) (N := 6) hx hb hts izRX1 hown hK hP 0 rfl rfl 1 (by decide) (hts _ k100) (fun _ h9 => h9) rfl dX1_aim_29 ?_
      refine lv_imul hx hb dX1_aim_32 ?_
      refine lv_iadd hx hb dX1_aim_33 ?_
      refine va_iast hx hb hK hP hD hS 1 0 rfl rfl (zinK (a := 0) (b := 399) n4 n7 (by decide)) dX1_aim_34 (fun H locs hP hD hS => ?_)
      obtain ⟨fc_9, efc_9, hP, hD⟩ : ∃ fc_9 : Nat → Int32, fc_9 = upd fc ju.toInt.toNat (((fc ju.toInt.toNat) - (fc ju.toInt.toNat) / 32 * 32) + (32 * lz)) ∧ va_P g.1 vwCl (List.flatten [bLaw g lo lc lz ll lm lg ld fc_9]) H ∧ va_D A (List.flatten [bLaw g lo lc lz ll lm lg ld fc_9]) := ⟨upd fc ju.toNatClampNeg (((fc ju.toInt.toNat) - (fc ju.toInt.toNat) / 32 * 32) + (32 * lz)), rfl, hP, hD⟩
      have hP : va_P g.1 vwCl (List.flatten [bLaw g lo lc lz ll lm lg ld fc_9]) H := hP
      have hD : va_D A (List.flatten [bLaw g lo lc lz ll lm lg ld fc_9]) := hD
      exact mret_v hx hb hr hlocks hS (Nat.le_of_ble_eq_true rfl) (Nat.le_of_ble_eq_true rfl) dX1_aim_35 (fc_9) rfl (show (zAim lz.toInt ju.toInt fc fc_9) from (zAim_y (by omega) (by omega) efc_9)) hP hD
set_option maxRecDepth 100000 in
set_option maxHeartbeats 4000000 in
theorem c_lt_readSumC (l : Launch) (g : zG) (lt : Nat) (ta : Nat) (lo : Nat) (ab : Nat) (sz : Int32) (ln : Int32) (kd : Int32) (bg : Int32) (nx : Int32) (fb : Nat → Int32) (lc : Nat) (lz : Int32) (ll : Int32) (lm : Int32) (lg : Int32) (ld : Int32) (fc : Nat → Int32) (b_lz : 0 ≤ lz.toInt ∧ lz.toInt ≤ 400) (hln : 0 ≤ ln.toInt ∧ ln.toInt ≤ 400) (hnx : 0 ≤ nx.toInt ∧ nx.toInt ≤ 400) (hbg : 0 ≤ bg.toInt ∧ bg.toInt ≤ 400) (hkd : zKd kd.toInt bg.toInt nx.toInt) (hTk : zTk fb ln.toInt kd.toInt bg.toInt nx.toInt) (hlb : lz.toInt + 2 ≤ bg.toInt) : zM' g l yX2_readSum (Cond.code yX2_readSum cX2_readSum 4 (some .boolean) :: zB) ({ frames := 5, cells := 0, slots := 0, locals := 107 } : Room) [.ref lt] [bLT g lt ta lo, bTape g ta ab sz ln kd bg nx (-1) fb, bLaw g lo lc lz ll lm lg ld fc] (fun u : Int32 × Int32 × Int32 × Int32 × Int32 × (Nat → Int32) × Int32 => (fun (kd2 : Int32) (bg2 : Int32) (nx2 : Int32) (ft2 : Int32) (lz2 : Int32) (fc2 : Nat → Int32) (q : Int32) => some (.int q)) (u.1) (u.2.1) (u.2.2.1) (u.2.2.2.1) (u.2.2.2.2.1) (u.2.2.2.2.2.1) (u.2.2.2.2.2.2)) (fun u : Int32 × Int32 × Int32 × Int32 × Int32 × (Nat → Int32) × Int32 => (fun (kd2 : Int32) (bg2 : Int32) (nx2 : Int32) (ft2 : Int32) (lz2 : Int32) (fc2 : Nat → Int32) (q : Int32) => (0 ≤ lz2.toInt ∧ lz2.toInt ≤ 400) ∧ (-1 ≤ ft2.toInt) ∧ (0 ≤ nx2.toInt ∧ nx2.toInt ≤ 400) ∧ (0 ≤ bg2.toInt ∧ bg2.toInt ≤ 400) ∧ (zKd kd2.toInt bg2.toInt nx2.toInt) ∧ (zTk fb ln.toInt kd2.toInt bg2.toInt nx2.toInt) ∧ (q = 1 ∧ zSum fb ln.toInt bg.toInt (.ok bg2.toInt) ∧ (-1) = ft2 ∧ zSC fb ln.toInt bg.toInt bg2.toInt fc fc2 lz.toInt lz2.toInt ∨ q = 0 ∧ zSum fb ln.toInt bg.toInt (.bad ft2.toInt))) (u.1) (u.2.1) (u.2.2.1) (u.2.2.2.1) (u.2.2.2.2.1) (u.2.2.2.2.2.1) (u.2.2.2.2.2.2)) (fun u : Int32 × Int32 × Int32 × Int32 × Int32 × (Nat → Int32) × Int32 => (fun (kd2 : Int32) (bg2 : Int32) (nx2 : Int32) (ft2 : Int32) (lz2 : Int32) (fc2 : Nat → Int32) (q : Int32) => [bLT g lt ta lo, bTape g ta ab sz ln kd2 bg2 nx2 ft2 fb, bLaw g lo lc lz2 ll lm lg ld fc2]) (u.1) (u.2.1) (u.2.2.1) (u.2.2.2.1) (u.2.2.2.2.1) (u.2.2.2.2.2.1) (u.2.2.2.2.2.2)) := by
  refine zM'.of (cc := cX2_readSum) (maxL := 4) (rt := (some .boolean)) (by decide) rfl (Nat.le_of_ble_eq_true rfl) ?_
  intro p e s m args below meth c A ls St hr hlocks hin hK hT hA hP hD hS hl
  obtain ⟨hx, hb, hml, hown, hts⟩ := id St
  have hl : lv_has ls 4 [(0, .ref lt)] := hl
  refine lv_iconst (v := 0) hx hb dX2_readSum_0 (by decide) ?_
  refine lv_istore_n (lv' := [(1, .int 0), (0, .ref lt)]) hx hb dX2_readSum_1 rfl hl (by decide) rfl (fun ls hl => ?_)
  have hl := lv_sub (l' := [(0, .ref lt), (1, .int 0)]) hl [1, 0] rfl
  have LP2_16 : ∀ (kf : Nat) (x_1 : Int32) (x_2 : Int32) (x_3 : Int32) (x_4 : Int32) (x_5 : Int32) (fc_6 : Nat → Int32), (0 ≤ x_1.toInt ∧ x_1.toInt ≤ 400) → (0 ≤ x_3.toInt ∧ x_3.toInt ≤ 400) → (0 ≤ x_4.toInt ∧ x_4.toInt ≤ 400) → (0 ≤ x_5.toInt ∧ x_5.toInt ≤ 400) → (zKd x_2.toInt x_3.toInt x_4.toInt) → (zTk fb ln.toInt x_2.toInt x_3.toInt x_4.toInt) → (x_1.toInt ≤ x_3.toInt) → (∀ r9, zSum fb ln.toInt x_3.toInt r9 → zSum fb ln.toInt bg.toInt r9) → (zSD fb ln.toInt bg.toInt x_3.toInt fc fc_6 lz.toInt x_5.toInt) → ∀ (H : Heap) (locs : List Loc) (ls : Array Slot), ((401 - x_1.toInt).toNat) < kf → va_P g.1 vwCl (List.flatten [bLT g lt ta lo, bTape g ta ab sz ln x_2 x_3 x_4 (-1) fb, bLaw g lo lc x_5 ll lm lg ld fc_6]) H → va_D A (List.flatten [bLT g lt ta lo, bTape g ta ab sz ln x_2 x_3 x_4 (-1) fb, bLaw g lo lc x_5 ll lm lg ld fc_6]) → va_S A s.heap H locs → lv_has ls 4 [(0, .ref lt), (1, .int x_1)] → W p l e ({ frames := 5, cells := 0, slots := 0, locals := 107 } : Room) s m args below meth c H locs (0) (0) (zF g (fun u : Int32 × Int32 × Int32 × Int32 × Int32 × (Nat → Int32) × Int32 => (fun (kd2 : Int32) (bg2 : Int32) (nx2 : Int32) (ft2 : Int32) (lz2 : Int32) (fc2 : Nat → Int32) (q : Int32) => some (.int q)) (u.1) (u.2.1) (u.2.2.1) (u.2.2.2.1) (u.2.2.2.2.1) (u.2.2.2.2.2.1) (u.2.2.2.2.2.2)) (fun u : Int32 × Int32 × Int32 × Int32 × Int32 × (Nat → Int32) × Int32 => (fun (kd2 : Int32) (bg2 : Int32) (nx2 : Int32) (ft2 : Int32) (lz2 : Int32) (fc2 : Nat → Int32) (q : Int32) => (0 ≤ lz2.toInt ∧ lz2.toInt ≤ 400) ∧ (-1 ≤ ft2.toInt) ∧ (0 ≤ nx2.toInt ∧ nx2.toInt ≤ 400) ∧ (0 ≤ bg2.toInt ∧ bg2.toInt ≤ 400) ∧ (zKd kd2.toInt bg2.toInt nx2.toInt) ∧ (zTk fb ln.toInt kd2.toInt bg2.toInt nx2.toInt) ∧ (q = 1 ∧ zSum fb ln.toInt bg.toInt (.ok bg2.toInt) ∧ (-1) = ft2 ∧ zSC fb ln.toInt bg.toInt bg2.toInt fc fc2 lz.toInt lz2.toInt ∨ q = 0 ∧ zSum fb ln.toInt bg.toInt (.bad ft2.toInt))) (u.1) (u.2.1) (u.2.2.1) (u.2.2.2.1) (u.2.2.2.2.1) (u.2.2.2.2.2.1) (u.2.2.2.2.2.2)) (fun u : Int32 × Int32 × Int32 × Int32 × Int32 × (Nat → Int32) × Int32 => (fun (kd2 : Int32) (bg2 : Int32) (nx2 : Int32) (ft2 : Int32) (lz2 : Int32) (fc2 : Nat → Int32) (q : Int32) => [bLT g lt ta lo, bTape g ta ab sz ln kd2 bg2 nx2 ft2 fb, bLaw g lo lc lz2 ll lm lg ld fc2]) (u.1) (u.2.1) (u.2.2.1) (u.2.2.2.1) (u.2.2.2.2.1) (u.2.2.2.2.2.1) (u.2.2.2.2.2.2)) ({ frames := 5, cells := 0, slots := 0, locals := 107 } : Room) below args s A) (F0 m 2 ls []) := by
    intro kf
    induction kf with
    | zero => intro x_1 x_2 x_3 x_4 x_5 fc_6 i7 i8 i9 i10 i11 i12 i13 i14 i15 H locs ls hk; exact absurd hk (Nat.not_lt_zero _)
    | succ kf ih2_17 =>
      intro x_1 x_2 x_3 x_4 x_5 fc_6 i7 i8 i9 i10 i11 i12 i13 i14 i15 H locs ls hk2_17 hP hD hS hl
      refine lv_iload_n hx hb dX2_readSum_2 rfl (lv_at hl 1 rfl) ?_
      refine lv_sipush (v := 400) hx hb dX2_readSum_3 (by decide) ?_
      refine lv_icmp_ge (tgt := 170) hx hb dX2_readSum_6 (by decide) (fun cb9 => ?_) (fun cb9 => ?_)
      · skip
        have c18 : 400 ≤ x_1.toInt := zle cb9 (by decide) rfl
        have n19 : 400 ≤ x_1.toInt := Int.le_trans (Int.le_refl _) c18
        have w20 := i15.1
        refine lv_aload_n hx hb dX2_readSum_170 rfl (lv_at hl 0 rfl) ?_
        refine va_get (D := g.1) (ci := 2) (v := .ref ta) (C := RX2) (T := TX2) (N := 2) hx hb hts izRX2 hown hK hP 0 rfl rfl 0 (by decide) (hts _ k290) (fun x9 h9 => u_same (hts _ k291) x9 h9) rfl dX2_readSum_171 ?_
        refine mcallV' (g := g) (q0 := 0) (ci := 6) (As := []) (rest := []) St hK hT hA hP hD hS hl.1 [1] [0, 2] rfl rfl rfl (c_t_refuseF l g ta ab sz ln x_2 x_3 x_4 fb ) (cwV 0 hts (zgL (zl4 k303 k279 k280 k277) k269) rfl rfl rfl (by decide +kernel) ⟨Nat.le_of_ble_eq_true rfl, Nat.le_of_ble_eq_true rfl⟩) rfl rfl rfl rfl (Nat.le_of_ble_eq_true rfl) dX2_readSum_174 ⟨(Nat.le_of_ble_eq_true rfl), (Nat.le_of_ble_eq_true rfl)⟩ (fun _u H locs hq21 hP hD hS => ?_)
        have hP : va_P g.1 vwCl (List.flatten [bLT g lt ta lo, bLaw g lo lc x_5 ll lm lg ld fc_6, bTape g ta ab sz ln x_2 x_3 x_4 x_3 fb]) H := hP
        have hD : va_D A (List.flatten [bLT g lt ta lo, bLaw g lo lc x_5 ll lm lg ld fc_6, bTape g ta ab sz ln x_2 x_3 x_4 x_3 fb]) := hD
        refine W.widen (k := 0) (n := 0) (Nat.le_of_ble_eq_true rfl) (Nat.le_of_ble_eq_true rfl) ?_
        refine W.eq (g2 := F0 m 177 ls [.int 0]) rfl ?_
        have hP : va_P g.1 vwCl (List.flatten [bLT g lt ta lo, bLaw g lo lc x_5 ll lm lg ld fc_6, bTape g ta ab sz ln x_2 x_3 x_4 x_3 fb]) H := hP
        have hD : va_D A (List.flatten [bLT g lt ta lo, bLaw g lo lc x_5 ll lm lg ld fc_6, bTape g ta ab sz ln x_2 x_3 x_4 x_3 fb]) := hD
        obtain ⟨hP, hD⟩ := zord (g := g) (Bs' := [bLT g lt ta lo, bTape g ta ab sz ln x_2 x_3 x_4 x_3 fb, bLaw g lo lc x_5 ll lm lg ld fc_6]) [0, 2, 1] rfl rfl hP hD
        exact mret_z hx hb hr hlocks hS (Nat.le_of_ble_eq_true rfl) (Nat.le_of_ble_eq_true rfl) dX2_readSum_177 (x_2, x_3, x_4, x_3, x_5, fc_6, (0 : Int32)) rfl (by decide) (show (0 ≤ x_5.toInt ∧ x_5.toInt ≤ 400) ∧ (-1 ≤ x_3.toInt) ∧ (0 ≤ x_4.toInt ∧ x_4.toInt ≤ 400) ∧ (0 ≤ x_3.toInt ∧ x_3.toInt ≤ 400) ∧ (zKd x_2.toInt x_3.toInt x_4.toInt) ∧ (zTk fb ln.toInt x_2.toInt x_3.toInt x_4.toInt) ∧ (0 = 1 ∧ zSum fb ln.toInt bg.toInt (.ok x_3.toInt) ∧ (-1) = x_3 ∧ zSC fb ln.toInt bg.toInt x_3.toInt fc fc_6 lz.toInt x_5.toInt ∨ 0 = 0 ∧ zSum fb ln.toInt bg.toInt (.bad x_3.toInt)) from ⟨(by first | assumption | omega | exact Or.inl (by decide) | exact Or.inr (by omega)), (by first | decide | omega), (by first | assumption | omega | exact Or.inl (by decide) | exact Or.inr (by omega)), (by first | assumption | omega | exact Or.inl (by decide) | exact Or.inr (by omega)), (by first | assumption | omega | exact Or.inl (by decide) | exact Or.inr (by omega)), (by assumption), (Or.inr ⟨rfl, i14 _ (.wrong (zPt_e (by omega)))⟩)⟩) hP hD
      · skip
        have c22 : x_1.toInt < 400 := zlti (Int32.not_le.mp cb9) rfl (by decide)
        have n23 : x_1.toInt ≤ 399 := zL1 (b := 400) c22 (Int.le_refl _) (by decide)
        have w24 := i15.1
        refine lv_aload_n hx hb dX2_readSum_9 rfl (lv_at hl 0 rfl) ?_
        refine va_get (D := g.1) (ci := 2) (v := .ref ta) (C := RX2) (T := TX2) (N := 2) hx hb hts izRX2 hown hK hP 0 rfl rfl 0 (by decide) (hts _ k290) (fun x9 h9 => u_same (hts _ k291) x9 h9) rfl dX2_readSum_10 ?_
        refine va_ldcS (q := g.2 26) hx hb hown (zra8 hT.2.1) dX2_readSum_13 ?_
        refine mcallV' (g := g) (q0 := 0) (ci := 6) (As := [.ref (g.2 26)]) (rest := []) St hK hT hA hP hD hS hl.1 [1] [0, 2] rfl rfl rfl (c_t_isWordF l g ta ab sz ln x_2 x_3 x_4 (-1) fb (g.2 26) 8 zqa8 hln i9 i8 i11 i12 rfl zla8 zna8 (zlitB zla8)) (cwV 1 hts (zgL (zl4 k292 k282 k283 k277) k268) rfl rfl rfl (by decide +kernel) ⟨Nat.le_of_ble_eq_true rfl, Nat.le_of_ble_eq_true rfl⟩) rfl rfl rfl rfl (Nat.le_of_ble_eq_true rfl) dX2_readSum_15 ⟨(Nat.le_of_ble_eq_true rfl), (Nat.le_of_ble_eq_true rfl)⟩ (fun r_25 H locs hq26 hP hD hS => ?_)
        replace hq26 : (r_25 = 1 ∧ zisW fb ln.toInt x_3.toInt zqa8.2.2.2 ∨ r_25 = 0 ∧ ¬ zisW fb ln.toInt x_3.toInt zqa8.2.2.2) := hq26
        have hP : va_P g.1 vwCl (List.flatten [bLT g lt ta lo, bLaw g lo lc x_5 ll lm lg ld fc_6, bTape g ta ab sz ln x_2 x_3 x_4 (-1) fb]) H := hP
        have hD : va_D A (List.flatten [bLT g lt ta lo, bLaw g lo lc x_5 ll lm lg ld fc_6, bTape g ta ab sz ln x_2 x_3 x_4 (-1) fb]) := hD
        refine W.widen (k := 0) (n := 0) (Nat.le_of_ble_eq_true rfl) (Nat.le_of_ble_eq_true rfl) ?_
        refine W.eq (g2 := F0 m 18 ls [.int r_25]) rfl ?_
        rcases hq26 with ⟨rfl, hq26_k⟩ | ⟨rfl, hq26_k⟩
        · skip
          refine lv_if_eq (tgt := 25) hx hb dX2_readSum_18 (by decide) (fun c27 => absurd c27 (by decide)) (fun _ => ?_)
          refine lv_iconst (v := 1) hx hb dX2_readSum_21 (by decide) ?_
          refine lv_goto (tgt := 107) hx hb dX2_readSum_22 (by decide) ?_
          refine lv_istore_n (lv' := [(2, .int 1), (0, .ref lt), (1, .int x_1)]) hx hb dX2_readSum_107 rfl hl (by decide) rfl (fun ls hl => ?_)
          refine lv_iconst (v := 0) hx hb dX2_readSum_108 (by decide) ?_
          refine lv_istore_n (lv' := [(3, .int 0), (2, .int 1), (0, .ref lt), (1, .int x_1)]) hx hb dX2_readSum_109 rfl hl (by decide) rfl (fun ls hl => ?_)
          refine lv_iload_n hx hb dX2_readSum_110 rfl (lv_at hl 1 rfl) ?_
          refine lv_if_ne (tgt := 133) hx hb dX2_readSum_111 (by decide) (fun _ => ?_) (fun c28 => absurd c28 (by decide))
          refine lv_aload_n hx hb dX2_readSum_133 rfl (lv_at hl 2 rfl) ?_
          refine va_get (D := g.1) (ci := 2) (v := .ref ta) (C := RX2) (T := TX2) (N := 2) hx hb hts izRX2 hown hK hP 0 rfl rfl 0 (by decide) (hts _ k290) (fun x9 h9 => u_same (hts _ k291) x9 h9) rfl dX2_readSum_134 ?_
          refine mcallV' (g := g) (q0 := 0) (ci := 6) (As := []) (rest := []) St hK hT hA hP hD hS hl.1 [2] [0, 1] rfl rfl rfl (c_t_stepF l g ta ab sz ln x_2 x_3 x_4 (-1) fb hln i9) (cwV 0 hts (zgL (zl4 k296 k275 k276 k277) k271) rfl rfl rfl (by decide +kernel) ⟨Nat.le_of_ble_eq_true rfl, Nat.le_of_ble_eq_true rfl⟩) rfl rfl rfl rfl (Nat.le_of_ble_eq_true rfl) dX2_readSum_137 ⟨(Nat.le_of_ble_eq_true rfl), (Nat.le_of_ble_eq_true rfl)⟩ (fun u_ H locs hq32 hP hD hS => ?_)
          obtain ⟨kd2_29, bg2_30, nx2_31⟩ := u_
          replace hq32 : (0 ≤ nx2_31.toInt ∧ nx2_31.toInt ≤ 400) ∧ (0 ≤ bg2_30.toInt ∧ bg2_30.toInt ≤ 400) ∧ (zKd kd2_29.toInt bg2_30.toInt nx2_31.toInt) ∧ (zSk fb ln.toInt x_4.toInt bg2_30.toInt) ∧ (zTk fb ln.toInt kd2_29.toInt bg2_30.toInt nx2_31.toInt) := hq32
          have hP : va_P g.1 vwCl (List.flatten [bLT g lt ta lo, bLaw g lo lc x_5 ll lm lg ld fc_6, bTape g ta ab sz ln kd2_29 bg2_30 nx2_31 (-1) fb]) H := hP
          have hD : va_D A (List.flatten [bLT g lt ta lo, bLaw g lo lc x_5 ll lm lg ld fc_6, bTape g ta ab sz ln kd2_29 bg2_30 nx2_31 (-1) fb]) := hD
          refine W.widen (k := 0) (n := 0) (Nat.le_of_ble_eq_true rfl) (Nat.le_of_ble_eq_true rfl) ?_
          refine W.eq (g2 := F0 m 140 ls []) rfl ?_
          obtain ⟨hq32_0, hq32_1, hq32_2, hq32_3, hq32_4⟩ := hq32
          refine lv_aload_n hx hb dX2_readSum_140 rfl (lv_at hl 2 rfl) ?_
          refine va_get (D := g.1) (ci := 2) (v := .ref lo) (C := RX2) (T := TX2) (N := 2) hx hb hts izRX2 hown hK hP 0 rfl rfl 1 (by decide) (hts _ k210) (fun _ h9 => h9) rfl dX2_readSum_141 ?_
          refine lv_iload_n hx hb dX2_readSum_144 rfl (lv_at hl 1 rfl) ?_
          refine lv_iload_n hx hb dX2_readSum_145 rfl (lv_at hl 0 rfl) ?_
          refine mcallV' (g := g) (q0 := 0) (ci := 1) (As := [.int 1, .int 0]) (rest := []) St hK hT hA hP hD hS hl.1 [1] [0, 2] rfl rfl rfl (c_l_putC l g lo lc x_5 ll lm lg ld fc_6 1 0 i10 (by first | assumption | omega | decide | exact Or.inl (by decide) | exact Or.inr (by decide))) (cwV 2 hts (zgL (zl4 k297 k298 k299 k85) k202) rfl rfl rfl (by decide +kernel) ⟨Nat.le_of_ble_eq_true rfl, Nat.le_of_ble_eq_true rfl⟩) rfl rfl rfl rfl (Nat.le_of_ble_eq_true rfl) dX2_readSum_146 ⟨(Nat.le_of_ble_eq_true rfl), (Nat.le_of_ble_eq_true rfl)⟩ (fun u_ H locs hq35 hP hD hS => ?_)
          obtain ⟨lz2_33, fc2_34⟩ := u_
          replace hq35 : (0 ≤ lz2_33.toInt ∧ lz2_33.toInt ≤ 400) ∧ (lz2_33.toInt = x_5.toInt + 1) ∧ (fc2_34 = upd fc_6 x_5.toInt.toNat (1 + 32 * 0)) := hq35
          have hP : va_P g.1 vwCl (List.flatten [bLT g lt ta lo, bTape g ta ab sz ln kd2_29 bg2_30 nx2_31 (-1) fb, bLaw g lo lc lz2_33 ll lm lg ld fc2_34]) H := hP
          have hD : va_D A (List.flatten [bLT g lt ta lo, bTape g ta ab sz ln kd2_29 bg2_30 nx2_31 (-1) fb, bLaw g lo lc lz2_33 ll lm lg ld fc2_34]) := hD
          refine W.widen (k := 0) (n := 0) (Nat.le_of_ble_eq_true rfl) (Nat.le_of_ble_eq_true rfl) ?_
          refine W.eq (g2 := F0 m 149 ls [.int x_5]) rfl ?_
          obtain ⟨hq35_0, hq35_1, hq35_2⟩ := hq35
          refine lv_pop hx hb dX2_readSum_149 rfl ?_
          refine lv_aload_n hx hb dX2_readSum_150 rfl (lv_at hl 2 rfl) ?_
          refine va_get (D := g.1) (ci := 2) (v := .ref ta) (C := RX2) (T := TX2) (N := 2) hx hb hts izRX2 hown hK hP 0 rfl rfl 0 (by decide) (hts _ k290) (fun x9 h9 => u_same (hts _ k291) x9 h9) rfl dX2_readSum_151 ?_
          refine lv_bipush (v := 43) hx hb dX2_readSum_154 (by decide) ?_
          have hL43 : (43 : Int32).toInt = 43 := by decide
          refine mcallV' (g := g) (q0 := 0) (ci := 6) (As := [.int 43]) (rest := []) St hK hT hA hP hD hS hl.1 [1] [0, 2] rfl rfl rfl (c_t_takeSignF l g ta ab sz ln kd2_29 bg2_30 nx2_31 (-1) fb 43 hln hq32_0 hq32_1 hq32_2 hq32_4) (cwV 1 hts (zgL (zl4 k300 k301 k302 k277) k286) rfl rfl rfl (by decide +kernel) ⟨Nat.le_of_ble_eq_true rfl, Nat.le_of_ble_eq_true rfl⟩) rfl rfl rfl rfl (Nat.le_of_ble_eq_true rfl) dX2_readSum_156 ⟨(Nat.le_of_ble_eq_true rfl), (Nat.le_of_ble_eq_true rfl)⟩ (fun u_ H locs hq40 hP hD hS => ?_)
          obtain ⟨kd2_36, bg2_37, nx2_38, q_39⟩ := u_
          replace hq40 : (0 ≤ nx2_38.toInt ∧ nx2_38.toInt ≤ 400) ∧ (0 ≤ bg2_37.toInt ∧ bg2_37.toInt ≤ 400) ∧ (zKd kd2_36.toInt bg2_37.toInt nx2_38.toInt) ∧ (zTk fb ln.toInt kd2_36.toInt bg2_37.toInt nx2_38.toInt) ∧ (q_39 = 1 ∧ zisS fb ln.toInt bg2_30.toInt (43 : Int32).toInt ∧ zMv fb ln.toInt bg2_30.toInt bg2_37.toInt ∨ q_39 = 0 ∧ ¬ zisS fb ln.toInt bg2_30.toInt (43 : Int32).toInt ∧ kd2_29 = kd2_36 ∧ bg2_30 = bg2_37 ∧ nx2_31 = nx2_38) := hq40
          have hP : va_P g.1 vwCl (List.flatten [bLT g lt ta lo, bLaw g lo lc lz2_33 ll lm lg ld fc2_34, bTape g ta ab sz ln kd2_36 bg2_37 nx2_38 (-1) fb]) H := hP
          have hD : va_D A (List.flatten [bLT g lt ta lo, bLaw g lo lc lz2_33 ll lm lg ld fc2_34, bTape g ta ab sz ln kd2_36 bg2_37 nx2_38 (-1) fb]) := hD
          refine W.widen (k := 0) (n := 0) (Nat.le_of_ble_eq_true rfl) (Nat.le_of_ble_eq_true rfl) ?_
          refine W.eq (g2 := F0 m 159 ls [.int q_39]) rfl ?_
          obtain ⟨hq40_0, hq40_1, hq40_2, hq40_3, hq40_4⟩ := hq40
          rcases hq40_4 with ⟨rfl, hq40_k, hq40_km⟩ | ⟨rfl, hq40_k, rfl, rfl, rfl⟩
          · skip
            refine lv_if_ne (tgt := 164) hx hb dX2_readSum_159 (by decide) (fun _ => ?_) (fun c41 => absurd c41 (by decide))
            have w42 : x_3.toInt < bg2_30.toInt := zMv_lt (f := fb) (n := ln.toInt) (by omega) (zPt_z (Or.inl (Or.inl (hq26_k)))) (zMv_mk i12 hq32_3)
            have w43 : bg2_30.toInt < bg2_37.toInt := zMv_lt (f := fb) (n := ln.toInt) (by omega) (zisS_z hq40_k) hq40_km
            have w44 : ∀ r9, zSum fb ln.toInt bg2_37.toInt r9 → zSum fb ln.toInt bg.toInt r9 := fun r9 h9 => i14 r9 (zSum_more (by decide) (Or.inl (Or.inl (hq26_k))) (zMv_mk i12 hq32_3) hq40_k hq40_km h9)
            have w45 : zSD fb ln.toInt bg.toInt bg2_37.toInt fc fc2_34 lz.toInt lz2_33.toInt := zSD_plus (by omega) i15 (zPtw1 hq26_k) hq35_2 hq35_1 (zMv_mk i12 hq32_3) hq40_k (by decide) hq40_km (by omega) (by omega)
            refine ziinc3 (n' := 1) (a' := 1) (b' := 400) (lv' := fun v9 => [(1, .int v9), (3, .int 0), (2, .int 1), (0, .ref lt)]) hx hb dX2_readSum_164 hl (k := 3) rfl (by decide) (fun _ => rfl) (zaddK (i := x_1.toInt) (j := 1) rfl (by decide) i7.1 n23 (Int.le_refl _) (Int.le_refl _) (by decide)) (fun x_46 ls hx_46 hl => ?_)
            refine lv_goto (tgt := 2) hx hb dX2_readSum_167 (by decide) ?_
            have hl := lv_sub (l' := [(0, .ref lt), (1, .int x_46), (2, .int 1), (3, .int 0)]) hl [3, 0, 2, 1] rfl
            have hP : va_P g.1 vwCl (List.flatten [bLT g lt ta lo, bLaw g lo lc lz2_33 ll lm lg ld fc2_34, bTape g ta ab sz ln kd2_36 bg2_37 nx2_38 (-1) fb]) H := hP
            have hD : va_D A (List.flatten [bLT g lt ta lo, bLaw g lo lc lz2_33 ll lm lg ld fc2_34, bTape g ta ab sz ln kd2_36 bg2_37 nx2_38 (-1) fb]) := hD
            obtain ⟨hP, hD⟩ := zord (g := g) (Bs' := [bLT g lt ta lo, bTape g ta ab sz ln kd2_36 bg2_37 nx2_38 (-1) fb, bLaw g lo lc lz2_33 ll lm lg ld fc2_34]) [0, 2, 1] rfl rfl hP hD
            have hP : va_P g.1 vwCl (List.flatten [bLT g lt ta lo, bTape g ta ab sz ln kd2_36 bg2_37 nx2_38 (-1) fb, bLaw g lo lc lz2_33 ll lm lg ld fc2_34]) H := hP
            have hD : va_D A (List.flatten [bLT g lt ta lo, bTape g ta ab sz ln kd2_36 bg2_37 nx2_38 (-1) fb, bLaw g lo lc lz2_33 ll lm lg ld fc2_34]) := hD
            exact ih2_17 x_46 kd2_36 bg2_37 nx2_38 lz2_33 fc2_34 ⟨(Int.le_trans (by decide) hx_46.2.1), hx_46.2.2⟩ ⟨hq40_1.1, hq40_1.2⟩ ⟨hq40_0.1, hq40_0.2⟩ ⟨hq35_0.1, hq35_0.2⟩ hq40_2 hq40_3 (by first | omega | assumption | decide) w44 w45 H _ ls (zmK hx_46.1 (by decide) n23 (by decide) hk2_17)  hP hD hS (lv_sub hl [0, 1] rfl)
          · skip
            refine lv_if_ne (tgt := 164) hx hb dX2_readSum_159 (by decide) (fun c47 => absurd (by decide) c47) (fun _ => ?_)
            refine lv_iconst (v := 1) hx hb dX2_readSum_162 (by decide) ?_
            have hP : va_P g.1 vwCl (List.flatten [bLT g lt ta lo, bLaw g lo lc lz2_33 ll lm lg ld fc2_34, bTape g ta ab sz ln kd2_29 bg2_30 nx2_31 (-1) fb]) H := hP
            have hD : va_D A (List.flatten [bLT g lt ta lo, bLaw g lo lc lz2_33 ll lm lg ld fc2_34, bTape g ta ab sz ln kd2_29 bg2_30 nx2_31 (-1) fb]) := hD
            obtain ⟨hP, hD⟩ := zord (g := g) (Bs' := [bLT g lt ta lo, bTape g ta ab sz ln kd2_29 bg2_30 nx2_31 (-1) fb, bLaw g lo lc lz2_33 ll lm lg ld fc2_34]) [0, 2, 1] rfl rfl hP hD
            exact mret_z hx hb hr hlocks hS (Nat.le_of_ble_eq_true rfl) (Nat.le_of_ble_eq_true rfl) dX2_readSum_163 (kd2_29, bg2_30, nx2_31, -1, lz2_33, fc2_34, (1 : Int32)) rfl (by decide) (show (0 ≤ lz2_33.toInt ∧ lz2_33.toInt ≤ 400) ∧ (-1 ≤ ((-1) : Int32).toInt) ∧ (0 ≤ nx2_31.toInt ∧ nx2_31.toInt ≤ 400) ∧ (0 ≤ bg2_30.toInt ∧ bg2_30.toInt ≤ 400) ∧ (zKd kd2_29.toInt bg2_30.toInt nx2_31.toInt) ∧ (zTk fb ln.toInt kd2_29.toInt bg2_30.toInt nx2_31.toInt) ∧ (1 = 1 ∧ zSum fb ln.toInt bg.toInt (.ok bg2_30.toInt) ∧ (-1) = (-1) ∧ zSC fb ln.toInt bg.toInt bg2_30.toInt fc fc2_34 lz.toInt lz2_33.toInt ∨ 1 = 0 ∧ zSum fb ln.toInt bg.toInt (.bad ((-1) : Int32).toInt)) from ⟨(by first | assumption | omega | exact Or.inl (by decide) | exact Or.inr (by omega)), (by decide), (by first | assumption | omega | exact Or.inl (by decide) | exact Or.inr (by omega)), (by first | assumption | omega | exact Or.inl (by decide) | exact Or.inr (by omega)), (by first | assumption | omega | exact Or.inl (by decide) | exact Or.inr (by omega)), (by assumption), (Or.inl ⟨rfl, i14 _ (zSum_one (by decide) (Or.inl (Or.inl (hq26_k))) (zMv_mk i12 hq32_3) hq40_k), rfl, (zSD_end (by omega) i15 (zPtw1 hq26_k) hq35_2 hq35_1 (zMv_mk i12 hq32_3) hq40_k (by decide) (zMv_lt (f := fb) (n := ln.toInt) (by omega) (zPt_z (Or.inl (Or.inl (hq26_k)))) (zMv_mk i12 hq32_3)))⟩)⟩) hP hD
        · skip
          refine lv_if_eq (tgt := 25) hx hb dX2_readSum_18 (by decide) (fun _ => ?_) (fun c48 => absurd (by decide) c48)
          refine lv_aload_n hx hb dX2_readSum_25 rfl (lv_at hl 0 rfl) ?_
          refine va_get (D := g.1) (ci := 2) (v := .ref ta) (C := RX2) (T := TX2) (N := 2) hx hb hts izRX2 hown hK hP 0 rfl rfl 0 (by decide) (hts _ k290) (fun x9 h9 => u_same (hts _ k291) x9 h9) rfl dX2_readSum_26 ?_
          refine va_ldcS (q := g.2 28) hx hb hown (zra9 hT.2.1) dX2_readSum_29 ?_
          refine mcallV' (g := g) (q0 := 0) (ci := 6) (As := [.ref (g.2 28)]) (rest := []) St hK hT hA hP hD hS hl.1 [2] [0, 1] rfl rfl rfl (c_t_isWordF l g ta ab sz ln x_2 x_3 x_4 (-1) fb (g.2 28) 9 zqa9 hln i9 i8 i11 i12 rfl zla9 zna9 (zlitB zla9)) (cwV 1 hts (zgL (zl4 k292 k282 k283 k277) k268) rfl rfl rfl (by decide +kernel) ⟨Nat.le_of_ble_eq_true rfl, Nat.le_of_ble_eq_true rfl⟩) rfl rfl rfl rfl (Nat.le_of_ble_eq_true rfl) dX2_readSum_31 ⟨(Nat.le_of_ble_eq_true rfl), (Nat.le_of_ble_eq_true rfl)⟩ (fun r_49 H locs hq50 hP hD hS => ?_)
          replace hq50 : (r_49 = 1 ∧ zisW fb ln.toInt x_3.toInt zqa9.2.2.2 ∨ r_49 = 0 ∧ ¬ zisW fb ln.toInt x_3.toInt zqa9.2.2.2) := hq50
          have hP : va_P g.1 vwCl (List.flatten [bLT g lt ta lo, bLaw g lo lc x_5 ll lm lg ld fc_6, bTape g ta ab sz ln x_2 x_3 x_4 (-1) fb]) H := hP
          have hD : va_D A (List.flatten [bLT g lt ta lo, bLaw g lo lc x_5 ll lm lg ld fc_6, bTape g ta ab sz ln x_2 x_3 x_4 (-1) fb]) := hD
          refine W.widen (k := 0) (n := 0) (Nat.le_of_ble_eq_true rfl) (Nat.le_of_ble_eq_true rfl) ?_
          refine W.eq (g2 := F0 m 34 ls [.int r_49]) rfl ?_
          rcases hq50 with ⟨rfl, hq50_k⟩ | ⟨rfl, hq50_k⟩
          · skip
            refine lv_if_eq (tgt := 41) hx hb dX2_readSum_34 (by decide) (fun c51 => absurd c51 (by decide)) (fun _ => ?_)
            refine lv_iconst (v := 2) hx hb dX2_readSum_37 (by decide) ?_
            refine lv_goto (tgt := 107) hx hb dX2_readSum_38 (by decide) ?_
            refine lv_istore_n (lv' := [(2, .int 2), (0, .ref lt), (1, .int x_1)]) hx hb dX2_readSum_107 rfl hl (by decide) rfl (fun ls hl => ?_)
            refine lv_iconst (v := 0) hx hb dX2_readSum_108 (by decide) ?_
            refine lv_istore_n (lv' := [(3, .int 0), (2, .int 2), (0, .ref lt), (1, .int x_1)]) hx hb dX2_readSum_109 rfl hl (by decide) rfl (fun ls hl => ?_)
            refine lv_iload_n hx hb dX2_readSum_110 rfl (lv_at hl 1 rfl) ?_
            refine lv_if_ne (tgt := 133) hx hb dX2_readSum_111 (by decide) (fun _ => ?_) (fun c52 => absurd c52 (by decide))
            refine lv_aload_n hx hb dX2_readSum_133 rfl (lv_at hl 2 rfl) ?_
            refine va_get (D := g.1) (ci := 2) (v := .ref ta) (C := RX2) (T := TX2) (N := 2) hx hb hts izRX2 hown hK hP 0 rfl rfl 0 (by decide) (hts _ k290) (fun x9 h9 => u_same (hts _ k291) x9 h9) rfl dX2_readSum_134 ?_
            refine mcallV' (g := g) (q0 := 0) (ci := 6) (As := []) (rest := []) St hK hT hA hP hD hS hl.1 [2] [0, 1] rfl rfl rfl (c_t_stepF l g ta ab sz ln x_2 x_3 x_4 (-1) fb hln i9) (cwV 0 hts (zgL (zl4 k296 k275 k276 k277) k271) rfl rfl rfl (by decide +kernel) ⟨Nat.le_of_ble_eq_true rfl, Nat.le_of_ble_eq_true rfl⟩) rfl rfl rfl rfl (Nat.le_of_ble_eq_true rfl) dX2_readSum_137 ⟨(Nat.le_of_ble_eq_true rfl), (Nat.le_of_ble_eq_true rfl)⟩ (fun u_ H locs hq56 hP hD hS => ?_)
            obtain ⟨kd2_53, bg2_54, nx2_55⟩ := u_
            replace hq56 : (0 ≤ nx2_55.toInt ∧ nx2_55.toInt ≤ 400) ∧ (0 ≤ bg2_54.toInt ∧ bg2_54.toInt ≤ 400) ∧ (zKd kd2_53.toInt bg2_54.toInt nx2_55.toInt) ∧ (zSk fb ln.toInt x_4.toInt bg2_54.toInt) ∧ (zTk fb ln.toInt kd2_53.toInt bg2_54.toInt nx2_55.toInt) := hq56
            have hP : va_P g.1 vwCl (List.flatten [bLT g lt ta lo, bLaw g lo lc x_5 ll lm lg ld fc_6, bTape g ta ab sz ln kd2_53 bg2_54 nx2_55 (-1) fb]) H := hP
            have hD : va_D A (List.flatten [bLT g lt ta lo, bLaw g lo lc x_5 ll lm lg ld fc_6, bTape g ta ab sz ln kd2_53 bg2_54 nx2_55 (-1) fb]) := hD
            refine W.widen (k := 0) (n := 0) (Nat.le_of_ble_eq_true rfl) (Nat.le_of_ble_eq_true rfl) ?_
            refine W.eq (g2 := F0 m 140 ls []) rfl ?_
            obtain ⟨hq56_0, hq56_1, hq56_2, hq56_3, hq56_4⟩ := hq56
            refine lv_aload_n hx hb dX2_readSum_140 rfl (lv_at hl 2 rfl) ?_
            refine va_get (D := g.1) (ci := 2) (v := .ref lo) (C := RX2) (T := TX2) (N := 2) hx hb hts izRX2 hown hK hP 0 rfl rfl 1 (by decide) (hts _ k210) (fun _ h9 => h9) rfl dX2_readSum_141 ?_
            refine lv_iload_n hx hb dX2_readSum_144 rfl (lv_at hl 1 rfl) ?_
            refine lv_iload_n hx hb dX2_readSum_145 rfl (lv_at hl 0 rfl) ?_
            refine mcallV' (g := g) (q0 := 0) (ci := 1) (As := [.int 2, .int 0]) (rest := []) St hK hT hA hP hD hS hl.1 [1] [0, 2] rfl rfl rfl (c_l_putC l g lo lc x_5 ll lm lg ld fc_6 2 0 i10 (by first | assumption | omega | decide | exact Or.inl (by decide) | exact Or.inr (by decide))) (cwV 2 hts (zgL (zl4 k297 k298 k299 k85) k202) rfl rfl rfl (by decide +kernel) ⟨Nat.le_of_ble_eq_true rfl, Nat.le_of_ble_eq_true rfl⟩) rfl rfl rfl rfl (Nat.le_of_ble_eq_true rfl) dX2_readSum_146 ⟨(Nat.le_of_ble_eq_true rfl), (Nat.le_of_ble_eq_true rfl)⟩ (fun u_ H locs hq59 hP hD hS => ?_)
            obtain ⟨lz2_57, fc2_58⟩ := u_
            replace hq59 : (0 ≤ lz2_57.toInt ∧ lz2_57.toInt ≤ 400) ∧ (lz2_57.toInt = x_5.toInt + 1) ∧ (fc2_58 = upd fc_6 x_5.toInt.toNat (2 + 32 * 0)) := hq59
            have hP : va_P g.1 vwCl (List.flatten [bLT g lt ta lo, bTape g ta ab sz ln kd2_53 bg2_54 nx2_55 (-1) fb, bLaw g lo lc lz2_57 ll lm lg ld fc2_58]) H := hP
            have hD : va_D A (List.flatten [bLT g lt ta lo, bTape g ta ab sz ln kd2_53 bg2_54 nx2_55 (-1) fb, bLaw g lo lc lz2_57 ll lm lg ld fc2_58]) := hD
            refine W.widen (k := 0) (n := 0) (Nat.le_of_ble_eq_true rfl) (Nat.le_of_ble_eq_true rfl) ?_
            refine W.eq (g2 := F0 m 149 ls [.int x_5]) rfl ?_
            obtain ⟨hq59_0, hq59_1, hq59_2⟩ := hq59
            refine lv_pop hx hb dX2_readSum_149 rfl ?_
            refine lv_aload_n hx hb dX2_readSum_150 rfl (lv_at hl 2 rfl) ?_
            refine va_get (D := g.1) (ci := 2) (v := .ref ta) (C := RX2) (T := TX2) (N := 2) hx hb hts izRX2 hown hK hP 0 rfl rfl 0 (by decide) (hts _ k290) (fun x9 h9 => u_same (hts _ k291) x9 h9) rfl dX2_readSum_151 ?_
            refine lv_bipush (v := 43) hx hb dX2_readSum_154 (by decide) ?_
            have hL43 : (43 : Int32).toInt = 43 := by decide
            refine mcallV' (g := g) (q0 := 0) (ci := 6) (As := [.int 43]) (rest := []) St hK hT hA hP hD hS hl.1 [1] [0, 2] rfl rfl rfl (c_t_takeSignF l g ta ab sz ln kd2_53 bg2_54 nx2_55 (-1) fb 43 hln hq56_0 hq56_1 hq56_2 hq56_4) (cwV 1 hts (zgL (zl4 k300 k301 k302 k277) k286) rfl rfl rfl (by decide +kernel) ⟨Nat.le_of_ble_eq_true rfl, Nat.le_of_ble_eq_true rfl⟩) rfl rfl rfl rfl (Nat.le_of_ble_eq_true rfl) dX2_readSum_156 ⟨(Nat.le_of_ble_eq_true rfl), (Nat.le_of_ble_eq_true rfl)⟩ (fun u_ H locs hq64 hP hD hS => ?_)
            obtain ⟨kd2_60, bg2_61, nx2_62, q_63⟩ := u_
            replace hq64 : (0 ≤ nx2_62.toInt ∧ nx2_62.toInt ≤ 400) ∧ (0 ≤ bg2_61.toInt ∧ bg2_61.toInt ≤ 400) ∧ (zKd kd2_60.toInt bg2_61.toInt nx2_62.toInt) ∧ (zTk fb ln.toInt kd2_60.toInt bg2_61.toInt nx2_62.toInt) ∧ (q_63 = 1 ∧ zisS fb ln.toInt bg2_54.toInt (43 : Int32).toInt ∧ zMv fb ln.toInt bg2_54.toInt bg2_61.toInt ∨ q_63 = 0 ∧ ¬ zisS fb ln.toInt bg2_54.toInt (43 : Int32).toInt ∧ kd2_53 = kd2_60 ∧ bg2_54 = bg2_61 ∧ nx2_55 = nx2_62) := hq64
            have hP : va_P g.1 vwCl (List.flatten [bLT g lt ta lo, bLaw g lo lc lz2_57 ll lm lg ld fc2_58, bTape g ta ab sz ln kd2_60 bg2_61 nx2_62 (-1) fb]) H := hP
            have hD : va_D A (List.flatten [bLT g lt ta lo, bLaw g lo lc lz2_57 ll lm lg ld fc2_58, bTape g ta ab sz ln kd2_60 bg2_61 nx2_62 (-1) fb]) := hD
            refine W.widen (k := 0) (n := 0) (Nat.le_of_ble_eq_true rfl) (Nat.le_of_ble_eq_true rfl) ?_
            refine W.eq (g2 := F0 m 159 ls [.int q_63]) rfl ?_
            obtain ⟨hq64_0, hq64_1, hq64_2, hq64_3, hq64_4⟩ := hq64
            rcases hq64_4 with ⟨rfl, hq64_k, hq64_km⟩ | ⟨rfl, hq64_k, rfl, rfl, rfl⟩
            · skip
              refine lv_if_ne (tgt := 164) hx hb dX2_readSum_159 (by decide) (fun _ => ?_) (fun c65 => absurd c65 (by decide))
              have w66 : x_3.toInt < bg2_54.toInt := zMv_lt (f := fb) (n := ln.toInt) (by omega) (zPt_z (Or.inl (Or.inr (Or.inl (hq50_k))))) (zMv_mk i12 hq56_3)
              have w67 : bg2_54.toInt < bg2_61.toInt := zMv_lt (f := fb) (n := ln.toInt) (by omega) (zisS_z hq64_k) hq64_km
              have w68 : ∀ r9, zSum fb ln.toInt bg2_61.toInt r9 → zSum fb ln.toInt bg.toInt r9 := fun r9 h9 => i14 r9 (zSum_more (by decide) (Or.inl (Or.inr (Or.inl (hq50_k)))) (zMv_mk i12 hq56_3) hq64_k hq64_km h9)
              have w69 : zSD fb ln.toInt bg.toInt bg2_61.toInt fc fc2_58 lz.toInt lz2_57.toInt := zSD_plus (by omega) i15 (zPtw2 hq50_k) hq59_2 hq59_1 (zMv_mk i12 hq56_3) hq64_k (by decide) hq64_km (by omega) (by omega)
              refine ziinc3 (n' := 1) (a' := 1) (b' := 400) (lv' := fun v9 => [(1, .int v9), (3, .int 0), (2, .int 2), (0, .ref lt)]) hx hb dX2_readSum_164 hl (k := 3) rfl (by decide) (fun _ => rfl) (zaddK (i := x_1.toInt) (j := 1) rfl (by decide) i7.1 n23 (Int.le_refl _) (Int.le_refl _) (by decide)) (fun x_70 ls hx_70 hl => ?_)
              refine lv_goto (tgt := 2) hx hb dX2_readSum_167 (by decide) ?_
              have hl := lv_sub (l' := [(0, .ref lt), (1, .int x_70), (2, .int 2), (3, .int 0)]) hl [3, 0, 2, 1] rfl
              have hP : va_P g.1 vwCl (List.flatten [bLT g lt ta lo, bLaw g lo lc lz2_57 ll lm lg ld fc2_58, bTape g ta ab sz ln kd2_60 bg2_61 nx2_62 (-1) fb]) H := hP
              have hD : va_D A (List.flatten [bLT g lt ta lo, bLaw g lo lc lz2_57 ll lm lg ld fc2_58, bTape g ta ab sz ln kd2_60 bg2_61 nx2_62 (-1) fb]) := hD
              obtain ⟨hP, hD⟩ := zord (g := g) (Bs' := [bLT g lt ta lo, bTape g ta ab sz ln kd2_60 bg2_61 nx2_62 (-1) fb, bLaw g lo lc lz2_57 ll lm lg ld fc2_58]) [0, 2, 1] rfl rfl hP hD
              have hP : va_P g.1 vwCl (List.flatten [bLT g lt ta lo, bTape g ta ab sz ln kd2_60 bg2_61 nx2_62 (-1) fb, bLaw g lo lc lz2_57 ll lm lg ld fc2_58]) H := hP
              have hD : va_D A (List.flatten [bLT g lt ta lo, bTape g ta ab sz ln kd2_60 bg2_61 nx2_62 (-1) fb, bLaw g lo lc lz2_57 ll lm lg ld fc2_58]) := hD
              exact ih2_17 x_70 kd2_60 bg2_61 nx2_62 lz2_57 fc2_58 ⟨(Int.le_trans (by decide) hx_70.2.1), hx_70.2.2⟩ ⟨hq64_1.1, hq64_1.2⟩ ⟨hq64_0.1, hq64_0.2⟩ ⟨hq59_0.1, hq59_0.2⟩ hq64_2 hq64_3 (by first | omega | assumption | decide) w68 w69 H _ ls (zmK hx_70.1 (by decide) n23 (by decide) hk2_17)  hP hD hS (lv_sub hl [0, 1] rfl)
            · skip
              refine lv_if_ne (tgt := 164) hx hb dX2_readSum_159 (by decide) (fun c71 => absurd (by decide) c71) (fun _ => ?_)
              refine lv_iconst (v := 1) hx hb dX2_readSum_162 (by decide) ?_
              have hP : va_P g.1 vwCl (List.flatten [bLT g lt ta lo, bLaw g lo lc lz2_57 ll lm lg ld fc2_58, bTape g ta ab sz ln kd2_53 bg2_54 nx2_55 (-1) fb]) H := hP
              have hD : va_D A (List.flatten [bLT g lt ta lo, bLaw g lo lc lz2_57 ll lm lg ld fc2_58, bTape g ta ab sz ln kd2_53 bg2_54 nx2_55 (-1) fb]) := hD
              obtain ⟨hP, hD⟩ := zord (g := g) (Bs' := [bLT g lt ta lo, bTape g ta ab sz ln kd2_53 bg2_54 nx2_55 (-1) fb, bLaw g lo lc lz2_57 ll lm lg ld fc2_58]) [0, 2, 1] rfl rfl hP hD
              exact mret_z hx hb hr hlocks hS (Nat.le_of_ble_eq_true rfl) (Nat.le_of_ble_eq_true rfl) dX2_readSum_163 (kd2_53, bg2_54, nx2_55, -1, lz2_57, fc2_58, (1 : Int32)) rfl (by decide) (show (0 ≤ lz2_57.toInt ∧ lz2_57.toInt ≤ 400) ∧ (-1 ≤ ((-1) : Int32).toInt) ∧ (0 ≤ nx2_55.toInt ∧ nx2_55.toInt ≤ 400) ∧ (0 ≤ bg2_54.toInt ∧ bg2_54.toInt ≤ 400) ∧ (zKd kd2_53.toInt bg2_54.toInt nx2_55.toInt) ∧ (zTk fb ln.toInt kd2_53.toInt bg2_54.toInt nx2_55.toInt) ∧ (1 = 1 ∧ zSum fb ln.toInt bg.toInt (.ok bg2_54.toInt) ∧ (-1) = (-1) ∧ zSC fb ln.toInt bg.toInt bg2_54.toInt fc fc2_58 lz.toInt lz2_57.toInt ∨ 1 = 0 ∧ zSum fb ln.toInt bg.toInt (.bad ((-1) : Int32).toInt)) from ⟨(by first | assumption | omega | exact Or.inl (by decide) | exact Or.inr (by omega)), (by decide), (by first | assumption | omega | exact Or.inl (by decide) | exact Or.inr (by omega)), (by first | assumption | omega | exact Or.inl (by decide) | exact Or.inr (by omega)), (by first | assumption | omega | exact Or.inl (by decide) | exact Or.inr (by omega)), (by assumption), (Or.inl ⟨rfl, i14 _ (zSum_one (by decide) (Or.inl (Or.inr (Or.inl (hq50_k)))) (zMv_mk i12 hq56_3) hq64_k), rfl, (zSD_end (by omega) i15 (zPtw2 hq50_k) hq59_2 hq59_1 (zMv_mk i12 hq56_3) hq64_k (by decide) (zMv_lt (f := fb) (n := ln.toInt) (by omega) (zPt_z (Or.inl (Or.inr (Or.inl (hq50_k))))) (zMv_mk i12 hq56_3)))⟩)⟩) hP hD
          · skip
            refine lv_if_eq (tgt := 41) hx hb dX2_readSum_34 (by decide) (fun _ => ?_) (fun c72 => absurd (by decide) c72)
            refine lv_aload_n hx hb dX2_readSum_41 rfl (lv_at hl 0 rfl) ?_
            refine va_get (D := g.1) (ci := 2) (v := .ref ta) (C := RX2) (T := TX2) (N := 2) hx hb hts izRX2 hown hK hP 0 rfl rfl 0 (by decide) (hts _ k290) (fun x9 h9 => u_same (hts _ k291) x9 h9) rfl dX2_readSum_42 ?_
            refine va_ldcS (q := g.2 30) hx hb hown (zra10 hT.2.1) dX2_readSum_45 ?_
            refine mcallV' (g := g) (q0 := 0) (ci := 6) (As := [.ref (g.2 30)]) (rest := []) St hK hT hA hP hD hS hl.1 [2] [0, 1] rfl rfl rfl (c_t_isWordF l g ta ab sz ln x_2 x_3 x_4 (-1) fb (g.2 30) 10 zqa10 hln i9 i8 i11 i12 rfl zla10 zna10 (zlitB zla10)) (cwV 1 hts (zgL (zl4 k292 k282 k283 k277) k268) rfl rfl rfl (by decide +kernel) ⟨Nat.le_of_ble_eq_true rfl, Nat.le_of_ble_eq_true rfl⟩) rfl rfl rfl rfl (Nat.le_of_ble_eq_true rfl) dX2_readSum_47 ⟨(Nat.le_of_ble_eq_true rfl), (Nat.le_of_ble_eq_true rfl)⟩ (fun r_73 H locs hq74 hP hD hS => ?_)
            replace hq74 : (r_73 = 1 ∧ zisW fb ln.toInt x_3.toInt zqa10.2.2.2 ∨ r_73 = 0 ∧ ¬ zisW fb ln.toInt x_3.toInt zqa10.2.2.2) := hq74
            have hP : va_P g.1 vwCl (List.flatten [bLT g lt ta lo, bLaw g lo lc x_5 ll lm lg ld fc_6, bTape g ta ab sz ln x_2 x_3 x_4 (-1) fb]) H := hP
            have hD : va_D A (List.flatten [bLT g lt ta lo, bLaw g lo lc x_5 ll lm lg ld fc_6, bTape g ta ab sz ln x_2 x_3 x_4 (-1) fb]) := hD
            refine W.widen (k := 0) (n := 0) (Nat.le_of_ble_eq_true rfl) (Nat.le_of_ble_eq_true rfl) ?_
            refine W.eq (g2 := F0 m 50 ls [.int r_73]) rfl ?_
            rcases hq74 with ⟨rfl, hq74_k⟩ | ⟨rfl, hq74_k⟩
            · skip
              refine lv_if_eq (tgt := 57) hx hb dX2_readSum_50 (by decide) (fun c75 => absurd c75 (by decide)) (fun _ => ?_)
              refine lv_iconst (v := 3) hx hb dX2_readSum_53 (by decide) ?_
              refine lv_goto (tgt := 107) hx hb dX2_readSum_54 (by decide) ?_
              refine lv_istore_n (lv' := [(2, .int 3), (0, .ref lt), (1, .int x_1)]) hx hb dX2_readSum_107 rfl hl (by decide) rfl (fun ls hl => ?_)
              refine lv_iconst (v := 0) hx hb dX2_readSum_108 (by decide) ?_
              refine lv_istore_n (lv' := [(3, .int 0), (2, .int 3), (0, .ref lt), (1, .int x_1)]) hx hb dX2_readSum_109 rfl hl (by decide) rfl (fun ls hl => ?_)
              refine lv_iload_n hx hb dX2_readSum_110 rfl (lv_at hl 1 rfl) ?_
              refine lv_if_ne (tgt := 133) hx hb dX2_readSum_111 (by decide) (fun _ => ?_) (fun c76 => absurd c76 (by decide))
              refine lv_aload_n hx hb dX2_readSum_133 rfl (lv_at hl 2 rfl) ?_
              refine va_get (D := g.1) (ci := 2) (v := .ref ta) (C := RX2) (T := TX2) (N := 2) hx hb hts izRX2 hown hK hP 0 rfl rfl 0 (by decide) (hts _ k290) (fun x9 h9 => u_same (hts _ k291) x9 h9) rfl dX2_readSum_134 ?_
              refine mcallV' (g := g) (q0 := 0) (ci := 6) (As := []) (rest := []) St hK hT hA hP hD hS hl.1 [2] [0, 1] rfl rfl rfl (c_t_stepF l g ta ab sz ln x_2 x_3 x_4 (-1) fb hln i9) (cwV 0 hts (zgL (zl4 k296 k275 k276 k277) k271) rfl rfl rfl (by decide +kernel) ⟨Nat.le_of_ble_eq_true rfl, Nat.le_of_ble_eq_true rfl⟩) rfl rfl rfl rfl (Nat.le_of_ble_eq_true rfl) dX2_readSum_137 ⟨(Nat.le_of_ble_eq_true rfl), (Nat.le_of_ble_eq_true rfl)⟩ (fun u_ H locs hq80 hP hD hS => ?_)
              obtain ⟨kd2_77, bg2_78, nx2_79⟩ := u_
              replace hq80 : (0 ≤ nx2_79.toInt ∧ nx2_79.toInt ≤ 400) ∧ (0 ≤ bg2_78.toInt ∧ bg2_78.toInt ≤ 400) ∧ (zKd kd2_77.toInt bg2_78.toInt nx2_79.toInt) ∧ (zSk fb ln.toInt x_4.toInt bg2_78.toInt) ∧ (zTk fb ln.toInt kd2_77.toInt bg2_78.toInt nx2_79.toInt) := hq80
              have hP : va_P g.1 vwCl (List.flatten [bLT g lt ta lo, bLaw g lo lc x_5 ll lm lg ld fc_6, bTape g ta ab sz ln kd2_77 bg2_78 nx2_79 (-1) fb]) H := hP
              have hD : va_D A (List.flatten [bLT g lt ta lo, bLaw g lo lc x_5 ll lm lg ld fc_6, bTape g ta ab sz ln kd2_77 bg2_78 nx2_79 (-1) fb]) := hD
              refine W.widen (k := 0) (n := 0) (Nat.le_of_ble_eq_true rfl) (Nat.le_of_ble_eq_true rfl) ?_
              refine W.eq (g2 := F0 m 140 ls []) rfl ?_
              obtain ⟨hq80_0, hq80_1, hq80_2, hq80_3, hq80_4⟩ := hq80
              refine lv_aload_n hx hb dX2_readSum_140 rfl (lv_at hl 2 rfl) ?_
              refine va_get (D := g.1) (ci := 2) (v := .ref lo) (C := RX2) (T := TX2) (N := 2) hx hb hts izRX2 hown hK hP 0 rfl rfl 1 (by decide) (hts _ k210) (fun _ h9 => h9) rfl dX2_readSum_141 ?_
              refine lv_iload_n hx hb dX2_readSum_144 rfl (lv_at hl 1 rfl) ?_
              refine lv_iload_n hx hb dX2_readSum_145 rfl (lv_at hl 0 rfl) ?_
              refine mcallV' (g := g) (q0 := 0) (ci := 1) (As := [.int 3, .int 0]) (rest := []) St hK hT hA hP hD hS hl.1 [1] [0, 2] rfl rfl rfl (c_l_putC l g lo lc x_5 ll lm lg ld fc_6 3 0 i10 (by first | assumption | omega | decide | exact Or.inl (by decide) | exact Or.inr (by decide))) (cwV 2 hts (zgL (zl4 k297 k298 k299 k85) k202) rfl rfl rfl (by decide +kernel) ⟨Nat.le_of_ble_eq_true rfl, Nat.le_of_ble_eq_true rfl⟩) rfl rfl rfl rfl (Nat.le_of_ble_eq_true rfl) dX2_readSum_146 ⟨(Nat.le_of_ble_eq_true rfl), (Nat.le_of_ble_eq_true rfl)⟩ (fun u_ H locs hq83 hP hD hS => ?_)
              obtain ⟨lz2_81, fc2_82⟩ := u_
              replace hq83 : (0 ≤ lz2_81.toInt ∧ lz2_81.toInt ≤ 400) ∧ (lz2_81.toInt = x_5.toInt + 1) ∧ (fc2_82 = upd fc_6 x_5.toInt.toNat (3 + 32 * 0)) := hq83
              have hP : va_P g.1 vwCl (List.flatten [bLT g lt ta lo, bTape g ta ab sz ln kd2_77 bg2_78 nx2_79 (-1) fb, bLaw g lo lc lz2_81 ll lm lg ld fc2_82]) H := hP
              have hD : va_D A (List.flatten [bLT g lt ta lo, bTape g ta ab sz ln kd2_77 bg2_78 nx2_79 (-1) fb, bLaw g lo lc lz2_81 ll lm lg ld fc2_82]) := hD
              refine W.widen (k := 0) (n := 0) (Nat.le_of_ble_eq_true rfl) (Nat.le_of_ble_eq_true rfl) ?_
              refine W.eq (g2 := F0 m 149 ls [.int x_5]) rfl ?_
              obtain ⟨hq83_0, hq83_1, hq83_2⟩ := hq83
              refine lv_pop hx hb dX2_readSum_149 rfl ?_
              refine lv_aload_n hx hb dX2_readSum_150 rfl (lv_at hl 2 rfl) ?_
              refine va_get (D := g.1) (ci := 2) (v := .ref ta) (C := RX2) (T := TX2) (N := 2) hx hb hts izRX2 hown hK hP 0 rfl rfl 0 (by decide) (hts _ k290) (fun x9 h9 => u_same (hts _ k291) x9 h9) rfl dX2_readSum_151 ?_
              refine lv_bipush (v := 43) hx hb dX2_readSum_154 (by decide) ?_
              have hL43 : (43 : Int32).toInt = 43 := by decide
              refine mcallV' (g := g) (q0 := 0) (ci := 6) (As := [.int 43]) (rest := []) St hK hT hA hP hD hS hl.1 [1] [0, 2] rfl rfl rfl (c_t_takeSignF l g ta ab sz ln kd2_77 bg2_78 nx2_79 (-1) fb 43 hln hq80_0 hq80_1 hq80_2 hq80_4) (cwV 1 hts (zgL (zl4 k300 k301 k302 k277) k286) rfl rfl rfl (by decide +kernel) ⟨Nat.le_of_ble_eq_true rfl, Nat.le_of_ble_eq_true rfl⟩) rfl rfl rfl rfl (Nat.le_of_ble_eq_true rfl) dX2_readSum_156 ⟨(Nat.le_of_ble_eq_true rfl), (Nat.le_of_ble_eq_true rfl)⟩ (fun u_ H locs hq88 hP hD hS => ?_)
              obtain ⟨kd2_84, bg2_85, nx2_86, q_87⟩ := u_
              replace hq88 : (0 ≤ nx2_86.toInt ∧ nx2_86.toInt ≤ 400) ∧ (0 ≤ bg2_85.toInt ∧ bg2_85.toInt ≤ 400) ∧ (zKd kd2_84.toInt bg2_85.toInt nx2_86.toInt) ∧ (zTk fb ln.toInt kd2_84.toInt bg2_85.toInt nx2_86.toInt) ∧ (q_87 = 1 ∧ zisS fb ln.toInt bg2_78.toInt (43 : Int32).toInt ∧ zMv fb ln.toInt bg2_78.toInt bg2_85.toInt ∨ q_87 = 0 ∧ ¬ zisS fb ln.toInt bg2_78.toInt (43 : Int32).toInt ∧ kd2_77 = kd2_84 ∧ bg2_78 = bg2_85 ∧ nx2_79 = nx2_86) := hq88
              have hP : va_P g.1 vwCl (List.flatten [bLT g lt ta lo, bLaw g lo lc lz2_81 ll lm lg ld fc2_82, bTape g ta ab sz ln kd2_84 bg2_85 nx2_86 (-1) fb]) H := hP
              have hD : va_D A (List.flatten [bLT g lt ta lo, bLaw g lo lc lz2_81 ll lm lg ld fc2_82, bTape g ta ab sz ln kd2_84 bg2_85 nx2_86 (-1) fb]) := hD
              refine W.widen (k := 0) (n := 0) (Nat.le_of_ble_eq_true rfl) (Nat.le_of_ble_eq_true rfl) ?_
              refine W.eq (g2 := F0 m 159 ls [.int q_87]) rfl ?_
              obtain ⟨hq88_0, hq88_1, hq88_2, hq88_3, hq88_4⟩ := hq88
              rcases hq88_4 with ⟨rfl, hq88_k, hq88_km⟩ | ⟨rfl, hq88_k, rfl, rfl, rfl⟩
              · skip
                refine lv_if_ne (tgt := 164) hx hb dX2_readSum_159 (by decide) (fun _ => ?_) (fun c89 => absurd c89 (by decide))
                have w90 : x_3.toInt < bg2_78.toInt := zMv_lt (f := fb) (n := ln.toInt) (by omega) (zPt_z (Or.inl (Or.inr (Or.inr (Or.inl (hq74_k)))))) (zMv_mk i12 hq80_3)
                have w91 : bg2_78.toInt < bg2_85.toInt := zMv_lt (f := fb) (n := ln.toInt) (by omega) (zisS_z hq88_k) hq88_km
                have w92 : ∀ r9, zSum fb ln.toInt bg2_85.toInt r9 → zSum fb ln.toInt bg.toInt r9 := fun r9 h9 => i14 r9 (zSum_more (by decide) (Or.inl (Or.inr (Or.inr (Or.inl (hq74_k))))) (zMv_mk i12 hq80_3) hq88_k hq88_km h9)
                have w93 : zSD fb ln.toInt bg.toInt bg2_85.toInt fc fc2_82 lz.toInt lz2_81.toInt := zSD_plus (by omega) i15 (zPtw3 hq74_k) hq83_2 hq83_1 (zMv_mk i12 hq80_3) hq88_k (by decide) hq88_km (by omega) (by omega)
                refine ziinc3 (n' := 1) (a' := 1) (b' := 400) (lv' := fun v9 => [(1, .int v9), (3, .int 0), (2, .int 3), (0, .ref lt)]) hx hb dX2_readSum_164 hl (k := 3) rfl (by decide) (fun _ => rfl) (zaddK (i := x_1.toInt) (j := 1) rfl (by decide) i7.1 n23 (Int.le_refl _) (Int.le_refl _) (by decide)) (fun x_94 ls hx_94 hl => ?_)
                refine lv_goto (tgt := 2) hx hb dX2_readSum_167 (by decide) ?_
                have hl := lv_sub (l' := [(0, .ref lt), (1, .int x_94), (2, .int 3), (3, .int 0)]) hl [3, 0, 2, 1] rfl
                have hP : va_P g.1 vwCl (List.flatten [bLT g lt ta lo, bLaw g lo lc lz2_81 ll lm lg ld fc2_82, bTape g ta ab sz ln kd2_84 bg2_85 nx2_86 (-1) fb]) H := hP
                have hD : va_D A (List.flatten [bLT g lt ta lo, bLaw g lo lc lz2_81 ll lm lg ld fc2_82, bTape g ta ab sz ln kd2_84 bg2_85 nx2_86 (-1) fb]) := hD
                obtain ⟨hP, hD⟩ := zord (g := g) (Bs' := [bLT g lt ta lo, bTape g ta ab sz ln kd2_84 bg2_85 nx2_86 (-1) fb, bLaw g lo lc lz2_81 ll lm lg ld fc2_82]) [0, 2, 1] rfl rfl hP hD
                have hP : va_P g.1 vwCl (List.flatten [bLT g lt ta lo, bTape g ta ab sz ln kd2_84 bg2_85 nx2_86 (-1) fb, bLaw g lo lc lz2_81 ll lm lg ld fc2_82]) H := hP
                have hD : va_D A (List.flatten [bLT g lt ta lo, bTape g ta ab sz ln kd2_84 bg2_85 nx2_86 (-1) fb, bLaw g lo lc lz2_81 ll lm lg ld fc2_82]) := hD
                exact ih2_17 x_94 kd2_84 bg2_85 nx2_86 lz2_81 fc2_82 ⟨(Int.le_trans (by decide) hx_94.2.1), hx_94.2.2⟩ ⟨hq88_1.1, hq88_1.2⟩ ⟨hq88_0.1, hq88_0.2⟩ ⟨hq83_0.1, hq83_0.2⟩ hq88_2 hq88_3 (by first | omega | assumption | decide) w92 w93 H _ ls (zmK hx_94.1 (by decide) n23 (by decide) hk2_17)  hP hD hS (lv_sub hl [0, 1] rfl)
              · skip
                refine lv_if_ne (tgt := 164) hx hb dX2_readSum_159 (by decide) (fun c95 => absurd (by decide) c95) (fun _ => ?_)
                refine lv_iconst (v := 1) hx hb dX2_readSum_162 (by decide) ?_
                have hP : va_P g.1 vwCl (List.flatten [bLT g lt ta lo, bLaw g lo lc lz2_81 ll lm lg ld fc2_82, bTape g ta ab sz ln kd2_77 bg2_78 nx2_79 (-1) fb]) H := hP
                have hD : va_D A (List.flatten [bLT g lt ta lo, bLaw g lo lc lz2_81 ll lm lg ld fc2_82, bTape g ta ab sz ln kd2_77 bg2_78 nx2_79 (-1) fb]) := hD
                obtain ⟨hP, hD⟩ := zord (g := g) (Bs' := [bLT g lt ta lo, bTape g ta ab sz ln kd2_77 bg2_78 nx2_79 (-1) fb, bLaw g lo lc lz2_81 ll lm lg ld fc2_82]) [0, 2, 1] rfl rfl hP hD
                exact mret_z hx hb hr hlocks hS (Nat.le_of_ble_eq_true rfl) (Nat.le_of_ble_eq_true rfl) dX2_readSum_163 (kd2_77, bg2_78, nx2_79, -1, lz2_81, fc2_82, (1 : Int32)) rfl (by decide) (show (0 ≤ lz2_81.toInt ∧ lz2_81.toInt ≤ 400) ∧ (-1 ≤ ((-1) : Int32).toInt) ∧ (0 ≤ nx2_79.toInt ∧ nx2_79.toInt ≤ 400) ∧ (0 ≤ bg2_78.toInt ∧ bg2_78.toInt ≤ 400) ∧ (zKd kd2_77.toInt bg2_78.toInt nx2_79.toInt) ∧ (zTk fb ln.toInt kd2_77.toInt bg2_78.toInt nx2_79.toInt) ∧ (1 = 1 ∧ zSum fb ln.toInt bg.toInt (.ok bg2_78.toInt) ∧ (-1) = (-1) ∧ zSC fb ln.toInt bg.toInt bg2_78.toInt fc fc2_82 lz.toInt lz2_81.toInt ∨ 1 = 0 ∧ zSum fb ln.toInt bg.toInt (.bad ((-1) : Int32).toInt)) from ⟨(by first | assumption | omega | exact Or.inl (by decide) | exact Or.inr (by omega)), (by decide), (by first | assumption | omega | exact Or.inl (by decide) | exact Or.inr (by omega)), (by first | assumption | omega | exact Or.inl (by decide) | exact Or.inr (by omega)), (by first | assumption | omega | exact Or.inl (by decide) | exact Or.inr (by omega)), (by assumption), (Or.inl ⟨rfl, i14 _ (zSum_one (by decide) (Or.inl (Or.inr (Or.inr (Or.inl (hq74_k))))) (zMv_mk i12 hq80_3) hq88_k), rfl, (zSD_end (by omega) i15 (zPtw3 hq74_k) hq83_2 hq83_1 (zMv_mk i12 hq80_3) hq88_k (by decide) (zMv_lt (f := fb) (n := ln.toInt) (by omega) (zPt_z (Or.inl (Or.inr (Or.inr (Or.inl (hq74_k)))))) (zMv_mk i12 hq80_3)))⟩)⟩) hP hD
            · skip
              refine lv_if_eq (tgt := 57) hx hb dX2_readSum_50 (by decide) (fun _ => ?_) (fun c96 => absurd (by decide) c96)
              refine lv_aload_n hx hb dX2_readSum_57 rfl (lv_at hl 0 rfl) ?_
              refine va_get (D := g.1) (ci := 2) (v := .ref ta) (C := RX2) (T := TX2) (N := 2) hx hb hts izRX2 hown hK hP 0 rfl rfl 0 (by decide) (hts _ k290) (fun x9 h9 => u_same (hts _ k291) x9 h9) rfl dX2_readSum_58 ?_
              refine va_ldcS (q := g.2 32) hx hb hown (zra11 hT.2.1) dX2_readSum_61 ?_
              refine mcallV' (g := g) (q0 := 0) (ci := 6) (As := [.ref (g.2 32)]) (rest := []) St hK hT hA hP hD hS hl.1 [2] [0, 1] rfl rfl rfl (c_t_isWordF l g ta ab sz ln x_2 x_3 x_4 (-1) fb (g.2 32) 11 zqa11 hln i9 i8 i11 i12 rfl zla11 zna11 (zlitB zla11)) (cwV 1 hts (zgL (zl4 k292 k282 k283 k277) k268) rfl rfl rfl (by decide +kernel) ⟨Nat.le_of_ble_eq_true rfl, Nat.le_of_ble_eq_true rfl⟩) rfl rfl rfl rfl (Nat.le_of_ble_eq_true rfl) dX2_readSum_63 ⟨(Nat.le_of_ble_eq_true rfl), (Nat.le_of_ble_eq_true rfl)⟩ (fun r_97 H locs hq98 hP hD hS => ?_)
              replace hq98 : (r_97 = 1 ∧ zisW fb ln.toInt x_3.toInt zqa11.2.2.2 ∨ r_97 = 0 ∧ ¬ zisW fb ln.toInt x_3.toInt zqa11.2.2.2) := hq98
              have hP : va_P g.1 vwCl (List.flatten [bLT g lt ta lo, bLaw g lo lc x_5 ll lm lg ld fc_6, bTape g ta ab sz ln x_2 x_3 x_4 (-1) fb]) H := hP
              have hD : va_D A (List.flatten [bLT g lt ta lo, bLaw g lo lc x_5 ll lm lg ld fc_6, bTape g ta ab sz ln x_2 x_3 x_4 (-1) fb]) := hD
              refine W.widen (k := 0) (n := 0) (Nat.le_of_ble_eq_true rfl) (Nat.le_of_ble_eq_true rfl) ?_
              refine W.eq (g2 := F0 m 66 ls [.int r_97]) rfl ?_
              rcases hq98 with ⟨rfl, hq98_k⟩ | ⟨rfl, hq98_k⟩
              · skip
                refine lv_if_eq (tgt := 73) hx hb dX2_readSum_66 (by decide) (fun c99 => absurd c99 (by decide)) (fun _ => ?_)
                refine lv_iconst (v := 4) hx hb dX2_readSum_69 (by decide) ?_
                refine lv_goto (tgt := 107) hx hb dX2_readSum_70 (by decide) ?_
                refine lv_istore_n (lv' := [(2, .int 4), (0, .ref lt), (1, .int x_1)]) hx hb dX2_readSum_107 rfl hl (by decide) rfl (fun ls hl => ?_)
                refine lv_iconst (v := 0) hx hb dX2_readSum_108 (by decide) ?_
                refine lv_istore_n (lv' := [(3, .int 0), (2, .int 4), (0, .ref lt), (1, .int x_1)]) hx hb dX2_readSum_109 rfl hl (by decide) rfl (fun ls hl => ?_)
                refine lv_iload_n hx hb dX2_readSum_110 rfl (lv_at hl 1 rfl) ?_
                refine lv_if_ne (tgt := 133) hx hb dX2_readSum_111 (by decide) (fun _ => ?_) (fun c100 => absurd c100 (by decide))
                refine lv_aload_n hx hb dX2_readSum_133 rfl (lv_at hl 2 rfl) ?_
                refine va_get (D := g.1) (ci := 2) (v := .ref ta) (C := RX2) (T := TX2) (N := 2) hx hb hts izRX2 hown hK hP 0 rfl rfl 0 (by decide) (hts _ k290) (fun x9 h9 => u_same (hts _ k291) x9 h9) rfl dX2_readSum_134 ?_
                refine mcallV' (g := g) (q0 := 0) (ci := 6) (As := []) (rest := []) St hK hT hA hP hD hS hl.1 [2] [0, 1] rfl rfl rfl (c_t_stepF l g ta ab sz ln x_2 x_3 x_4 (-1) fb hln i9) (cwV 0 hts (zgL (zl4 k296 k275 k276 k277) k271) rfl rfl rfl (by decide +kernel) ⟨Nat.le_of_ble_eq_true rfl, Nat.le_of_ble_eq_true rfl⟩) rfl rfl rfl rfl (Nat.le_of_ble_eq_true rfl) dX2_readSum_137 ⟨(Nat.le_of_ble_eq_true rfl), (Nat.le_of_ble_eq_true rfl)⟩ (fun u_ H locs hq104 hP hD hS => ?_)
                obtain ⟨kd2_101, bg2_102, nx2_103⟩ := u_
                replace hq104 : (0 ≤ nx2_103.toInt ∧ nx2_103.toInt ≤ 400) ∧ (0 ≤ bg2_102.toInt ∧ bg2_102.toInt ≤ 400) ∧ (zKd kd2_101.toInt bg2_102.toInt nx2_103.toInt) ∧ (zSk fb ln.toInt x_4.toInt bg2_102.toInt) ∧ (zTk fb ln.toInt kd2_101.toInt bg2_102.toInt nx2_103.toInt) := hq104
                have hP : va_P g.1 vwCl (List.flatten [bLT g lt ta lo, bLaw g lo lc x_5 ll lm lg ld fc_6, bTape g ta ab sz ln kd2_101 bg2_102 nx2_103 (-1) fb]) H := hP
                have hD : va_D A (List.flatten [bLT g lt ta lo, bLaw g lo lc x_5 ll lm lg ld fc_6, bTape g ta ab sz ln kd2_101 bg2_102 nx2_103 (-1) fb]) := hD
                refine W.widen (k := 0) (n := 0) (Nat.le_of_ble_eq_true rfl) (Nat.le_of_ble_eq_true rfl) ?_
                refine W.eq (g2 := F0 m 140 ls []) rfl ?_
                obtain ⟨hq104_0, hq104_1, hq104_2, hq104_3, hq104_4⟩ := hq104
                refine lv_aload_n hx hb dX2_readSum_140 rfl (lv_at hl 2 rfl) ?_
                refine va_get (D := g.1) (ci := 2) (v := .ref lo) (C := RX2) (T := TX2) (N := 2) hx hb hts izRX2 hown hK hP 0 rfl rfl 1 (by decide) (hts _ k210) (fun _ h9 => h9) rfl dX2_readSum_141 ?_
                refine lv_iload_n hx hb dX2_readSum_144 rfl (lv_at hl 1 rfl) ?_
                refine lv_iload_n hx hb dX2_readSum_145 rfl (lv_at hl 0 rfl) ?_
                refine mcallV' (g := g) (q0 := 0) (ci := 1) (As := [.int 4, .int 0]) (rest := []) St hK hT hA hP hD hS hl.1 [1] [0, 2] rfl rfl rfl (c_l_putC l g lo lc x_5 ll lm lg ld fc_6 4 0 i10 (by first | assumption | omega | decide | exact Or.inl (by decide) | exact Or.inr (by decide))) (cwV 2 hts (zgL (zl4 k297 k298 k299 k85) k202) rfl rfl rfl (by decide +kernel) ⟨Nat.le_of_ble_eq_true rfl, Nat.le_of_ble_eq_true rfl⟩) rfl rfl rfl rfl (Nat.le_of_ble_eq_true rfl) dX2_readSum_146 ⟨(Nat.le_of_ble_eq_true rfl), (Nat.le_of_ble_eq_true rfl)⟩ (fun u_ H locs hq107 hP hD hS => ?_)
                obtain ⟨lz2_105, fc2_106⟩ := u_
                replace hq107 : (0 ≤ lz2_105.toInt ∧ lz2_105.toInt ≤ 400) ∧ (lz2_105.toInt = x_5.toInt + 1) ∧ (fc2_106 = upd fc_6 x_5.toInt.toNat (4 + 32 * 0)) := hq107
                have hP : va_P g.1 vwCl (List.flatten [bLT g lt ta lo, bTape g ta ab sz ln kd2_101 bg2_102 nx2_103 (-1) fb, bLaw g lo lc lz2_105 ll lm lg ld fc2_106]) H := hP
                have hD : va_D A (List.flatten [bLT g lt ta lo, bTape g ta ab sz ln kd2_101 bg2_102 nx2_103 (-1) fb, bLaw g lo lc lz2_105 ll lm lg ld fc2_106]) := hD
                refine W.widen (k := 0) (n := 0) (Nat.le_of_ble_eq_true rfl) (Nat.le_of_ble_eq_true rfl) ?_
                refine W.eq (g2 := F0 m 149 ls [.int x_5]) rfl ?_
                obtain ⟨hq107_0, hq107_1, hq107_2⟩ := hq107
                refine lv_pop hx hb dX2_readSum_149 rfl ?_
                refine lv_aload_n hx hb dX2_readSum_150 rfl (lv_at hl 2 rfl) ?_
                refine va_get (D := g.1) (ci := 2) (v := .ref ta) (C := RX2) (T := TX2) (N := 2) hx hb hts izRX2 hown hK hP 0 rfl rfl 0 (by decide) (hts _ k290) (fun x9 h9 => u_same (hts _ k291) x9 h9) rfl dX2_readSum_151 ?_
                refine lv_bipush (v := 43) hx hb dX2_readSum_154 (by decide) ?_
                have hL43 : (43 : Int32).toInt = 43 := by decide
                refine mcallV' (g := g) (q0 := 0) (ci := 6) (As := [.int 43]) (rest := []) St hK hT hA hP hD hS hl.1 [1] [0, 2] rfl rfl rfl (c_t_takeSignF l g ta ab sz ln kd2_101 bg2_102 nx2_103 (-1) fb 43 hln hq104_0 hq104_1 hq104_2 hq104_4) (cwV 1 hts (zgL (zl4 k300 k301 k302 k277) k286) rfl rfl rfl (by decide +kernel) ⟨Nat.le_of_ble_eq_true rfl, Nat.le_of_ble_eq_true rfl⟩) rfl rfl rfl rfl (Nat.le_of_ble_eq_true rfl) dX2_readSum_156 ⟨(Nat.le_of_ble_eq_true rfl), (Nat.le_of_ble_eq_true rfl)⟩ (fun u_ H locs hq112 hP hD hS => ?_)
                obtain ⟨kd2_108, bg2_109, nx2_110, q_111⟩ := u_
                replace hq112 : (0 ≤ nx2_110.toInt ∧ nx2_110.toInt ≤ 400) ∧ (0 ≤ bg2_109.toInt ∧ bg2_109.toInt ≤ 400) ∧ (zKd kd2_108.toInt bg2_109.toInt nx2_110.toInt) ∧ (zTk fb ln.toInt kd2_108.toInt bg2_109.toInt nx2_110.toInt) ∧ (q_111 = 1 ∧ zisS fb ln.toInt bg2_102.toInt (43 : Int32).toInt ∧ zMv fb ln.toInt bg2_102.toInt bg2_109.toInt ∨ q_111 = 0 ∧ ¬ zisS fb ln.toInt bg2_102.toInt (43 : Int32).toInt ∧ kd2_101 = kd2_108 ∧ bg2_102 = bg2_109 ∧ nx2_103 = nx2_110) := hq112
                have hP : va_P g.1 vwCl (List.flatten [bLT g lt ta lo, bLaw g lo lc lz2_105 ll lm lg ld fc2_106, bTape g ta ab sz ln kd2_108 bg2_109 nx2_110 (-1) fb]) H := hP
                have hD : va_D A (List.flatten [bLT g lt ta lo, bLaw g lo lc lz2_105 ll lm lg ld fc2_106, bTape g ta ab sz ln kd2_108 bg2_109 nx2_110 (-1) fb]) := hD
                refine W.widen (k := 0) (n := 0) (Nat.le_of_ble_eq_true rfl) (Nat.le_of_ble_eq_true rfl) ?_
                refine W.eq (g2 := F0 m 159 ls [.int q_111]) rfl ?_
                obtain ⟨hq112_0, hq112_1, hq112_2, hq112_3, hq112_4⟩ := hq112
                rcases hq112_4 with ⟨rfl, hq112_k, hq112_km⟩ | ⟨rfl, hq112_k, rfl, rfl, rfl⟩
                · skip
                  refine lv_if_ne (tgt := 164) hx hb dX2_readSum_159 (by decide) (fun _ => ?_) (fun c113 => absurd c113 (by decide))
                  have w114 : x_3.toInt < bg2_102.toInt := zMv_lt (f := fb) (n := ln.toInt) (by omega) (zPt_z (Or.inl (Or.inr (Or.inr (Or.inr (Or.inl (hq98_k))))))) (zMv_mk i12 hq104_3)
                  have w115 : bg2_102.toInt < bg2_109.toInt := zMv_lt (f := fb) (n := ln.toInt) (by omega) (zisS_z hq112_k) hq112_km
                  have w116 : ∀ r9, zSum fb ln.toInt bg2_109.toInt r9 → zSum fb ln.toInt bg.toInt r9 := fun r9 h9 => i14 r9 (zSum_more (by decide) (Or.inl (Or.inr (Or.inr (Or.inr (Or.inl (hq98_k)))))) (zMv_mk i12 hq104_3) hq112_k hq112_km h9)
                  have w117 : zSD fb ln.toInt bg.toInt bg2_109.toInt fc fc2_106 lz.toInt lz2_105.toInt := zSD_plus (by omega) i15 (zPtw4 hq98_k) hq107_2 hq107_1 (zMv_mk i12 hq104_3) hq112_k (by decide) hq112_km (by omega) (by omega)
                  refine ziinc3 (n' := 1) (a' := 1) (b' := 400) (lv' := fun v9 => [(1, .int v9), (3, .int 0), (2, .int 4), (0, .ref lt)]) hx hb dX2_readSum_164 hl (k := 3) rfl (by decide) (fun _ => rfl) (zaddK (i := x_1.toInt) (j := 1) rfl (by decide) i7.1 n23 (Int.le_refl _) (Int.le_refl _) (by decide)) (fun x_118 ls hx_118 hl => ?_)
                  refine lv_goto (tgt := 2) hx hb dX2_readSum_167 (by decide) ?_
                  have hl := lv_sub (l' := [(0, .ref lt), (1, .int x_118), (2, .int 4), (3, .int 0)]) hl [3, 0, 2, 1] rfl
                  have hP : va_P g.1 vwCl (List.flatten [bLT g lt ta lo, bLaw g lo lc lz2_105 ll lm lg ld fc2_106, bTape g ta ab sz ln kd2_108 bg2_109 nx2_110 (-1) fb]) H := hP
                  have hD : va_D A (List.flatten [bLT g lt ta lo, bLaw g lo lc lz2_105 ll lm lg ld fc2_106, bTape g ta ab sz ln kd2_108 bg2_109 nx2_110 (-1) fb]) := hD
                  obtain ⟨hP, hD⟩ := zord (g := g) (Bs' := [bLT g lt ta lo, bTape g ta ab sz ln kd2_108 bg2_109 nx2_110 (-1) fb, bLaw g lo lc lz2_105 ll lm lg ld fc2_106]) [0, 2, 1] rfl rfl hP hD
                  have hP : va_P g.1 vwCl (List.flatten [bLT g lt ta lo, bTape g ta ab sz ln kd2_108 bg2_109 nx2_110 (-1) fb, bLaw g lo lc lz2_105 ll lm lg ld fc2_106]) H := hP
                  have hD : va_D A (List.flatten [bLT g lt ta lo, bTape g ta ab sz ln kd2_108 bg2_109 nx2_110 (-1) fb, bLaw g lo lc lz2_105 ll lm lg ld fc2_106]) := hD
                  exact ih2_17 x_118 kd2_108 bg2_109 nx2_110 lz2_105 fc2_106 ⟨(Int.le_trans (by decide) hx_118.2.1), hx_118.2.2⟩ ⟨hq112_1.1, hq112_1.2⟩ ⟨hq112_0.1, hq112_0.2⟩ ⟨hq107_0.1, hq107_0.2⟩ hq112_2 hq112_3 (by first | omega | assumption | decide) w116 w117 H _ ls (zmK hx_118.1 (by decide) n23 (by decide) hk2_17)  hP hD hS (lv_sub hl [0, 1] rfl)
                · skip
                  refine lv_if_ne (tgt := 164) hx hb dX2_readSum_159 (by decide) (fun c119 => absurd (by decide) c119) (fun _ => ?_)
                  refine lv_iconst (v := 1) hx hb dX2_readSum_162 (by decide) ?_
                  have hP : va_P g.1 vwCl (List.flatten [bLT g lt ta lo, bLaw g lo lc lz2_105 ll lm lg ld fc2_106, bTape g ta ab sz ln kd2_101 bg2_102 nx2_103 (-1) fb]) H := hP
                  have hD : va_D A (List.flatten [bLT g lt ta lo, bLaw g lo lc lz2_105 ll lm lg ld fc2_106, bTape g ta ab sz ln kd2_101 bg2_102 nx2_103 (-1) fb]) := hD
                  obtain ⟨hP, hD⟩ := zord (g := g) (Bs' := [bLT g lt ta lo, bTape g ta ab sz ln kd2_101 bg2_102 nx2_103 (-1) fb, bLaw g lo lc lz2_105 ll lm lg ld fc2_106]) [0, 2, 1] rfl rfl hP hD
                  exact mret_z hx hb hr hlocks hS (Nat.le_of_ble_eq_true rfl) (Nat.le_of_ble_eq_true rfl) dX2_readSum_163 (kd2_101, bg2_102, nx2_103, -1, lz2_105, fc2_106, (1 : Int32)) rfl (by decide) (show (0 ≤ lz2_105.toInt ∧ lz2_105.toInt ≤ 400) ∧ (-1 ≤ ((-1) : Int32).toInt) ∧ (0 ≤ nx2_103.toInt ∧ nx2_103.toInt ≤ 400) ∧ (0 ≤ bg2_102.toInt ∧ bg2_102.toInt ≤ 400) ∧ (zKd kd2_101.toInt bg2_102.toInt nx2_103.toInt) ∧ (zTk fb ln.toInt kd2_101.toInt bg2_102.toInt nx2_103.toInt) ∧ (1 = 1 ∧ zSum fb ln.toInt bg.toInt (.ok bg2_102.toInt) ∧ (-1) = (-1) ∧ zSC fb ln.toInt bg.toInt bg2_102.toInt fc fc2_106 lz.toInt lz2_105.toInt ∨ 1 = 0 ∧ zSum fb ln.toInt bg.toInt (.bad ((-1) : Int32).toInt)) from ⟨(by first | assumption | omega | exact Or.inl (by decide) | exact Or.inr (by omega)), (by decide), (by first | assumption | omega | exact Or.inl (by decide) | exact Or.inr (by omega)), (by first | assumption | omega | exact Or.inl (by decide) | exact Or.inr (by omega)), (by first | assumption | omega | exact Or.inl (by decide) | exact Or.inr (by omega)), (by assumption), (Or.inl ⟨rfl, i14 _ (zSum_one (by decide) (Or.inl (Or.inr (Or.inr (Or.inr (Or.inl (hq98_k)))))) (zMv_mk i12 hq104_3) hq112_k), rfl, (zSD_end (by omega) i15 (zPtw4 hq98_k) hq107_2 hq107_1 (zMv_mk i12 hq104_3) hq112_k (by decide) (zMv_lt (f := fb) (n := ln.toInt) (by omega) (zPt_z (Or.inl (Or.inr (Or.inr (Or.inr (Or.inl (hq98_k))))))) (zMv_mk i12 hq104_3)))⟩)⟩) hP hD
              · skip
                refine lv_if_eq (tgt := 73) hx hb dX2_readSum_66 (by decide) (fun _ => ?_) (fun c120 => absurd (by decide) c120)
                refine lv_aload_n hx hb dX2_readSum_73 rfl (lv_at hl 0 rfl) ?_
                refine va_get (D := g.1) (ci := 2) (v := .ref ta) (C := RX2) (T := TX2) (N := 2) hx hb hts izRX2 hown hK hP 0 rfl rfl 0 (by decide) (hts _ k290) (fun x9 h9 => u_same (hts _ k291) x9 h9) rfl dX2_readSum_74 ?_
                refine va_ldcS (q := g.2 34) hx hb hown (zra12 hT.2.1) dX2_readSum_77 ?_
                refine mcallV' (g := g) (q0 := 0) (ci := 6) (As := [.ref (g.2 34)]) (rest := []) St hK hT hA hP hD hS hl.1 [2] [0, 1] rfl rfl rfl (c_t_isWordF l g ta ab sz ln x_2 x_3 x_4 (-1) fb (g.2 34) 12 zqa12 hln i9 i8 i11 i12 rfl zla12 zna12 (zlitB zla12)) (cwV 1 hts (zgL (zl4 k292 k282 k283 k277) k268) rfl rfl rfl (by decide +kernel) ⟨Nat.le_of_ble_eq_true rfl, Nat.le_of_ble_eq_true rfl⟩) rfl rfl rfl rfl (Nat.le_of_ble_eq_true rfl) dX2_readSum_79 ⟨(Nat.le_of_ble_eq_true rfl), (Nat.le_of_ble_eq_true rfl)⟩ (fun r_121 H locs hq122 hP hD hS => ?_)
                replace hq122 : (r_121 = 1 ∧ zisW fb ln.toInt x_3.toInt zqa12.2.2.2 ∨ r_121 = 0 ∧ ¬ zisW fb ln.toInt x_3.toInt zqa12.2.2.2) := hq122
                have hP : va_P g.1 vwCl (List.flatten [bLT g lt ta lo, bLaw g lo lc x_5 ll lm lg ld fc_6, bTape g ta ab sz ln x_2 x_3 x_4 (-1) fb]) H := hP
                have hD : va_D A (List.flatten [bLT g lt ta lo, bLaw g lo lc x_5 ll lm lg ld fc_6, bTape g ta ab sz ln x_2 x_3 x_4 (-1) fb]) := hD
                refine W.widen (k := 0) (n := 0) (Nat.le_of_ble_eq_true rfl) (Nat.le_of_ble_eq_true rfl) ?_
                refine W.eq (g2 := F0 m 82 ls [.int r_121]) rfl ?_
                rcases hq122 with ⟨rfl, hq122_k⟩ | ⟨rfl, hq122_k⟩
                · skip
                  refine lv_if_eq (tgt := 89) hx hb dX2_readSum_82 (by decide) (fun c123 => absurd c123 (by decide)) (fun _ => ?_)
                  refine lv_iconst (v := 5) hx hb dX2_readSum_85 (by decide) ?_
                  refine lv_goto (tgt := 107) hx hb dX2_readSum_86 (by decide) ?_
                  refine lv_istore_n (lv' := [(2, .int 5), (0, .ref lt), (1, .int x_1)]) hx hb dX2_readSum_107 rfl hl (by decide) rfl (fun ls hl => ?_)
                  refine lv_iconst (v := 0) hx hb dX2_readSum_108 (by decide) ?_
                  refine lv_istore_n (lv' := [(3, .int 0), (2, .int 5), (0, .ref lt), (1, .int x_1)]) hx hb dX2_readSum_109 rfl hl (by decide) rfl (fun ls hl => ?_)
                  refine lv_iload_n hx hb dX2_readSum_110 rfl (lv_at hl 1 rfl) ?_
                  refine lv_if_ne (tgt := 133) hx hb dX2_readSum_111 (by decide) (fun _ => ?_) (fun c124 => absurd c124 (by decide))
                  refine lv_aload_n hx hb dX2_readSum_133 rfl (lv_at hl 2 rfl) ?_
                  refine va_get (D := g.1) (ci := 2) (v := .ref ta) (C := RX2) (T := TX2) (N := 2) hx hb hts izRX2 hown hK hP 0 rfl rfl 0 (by decide) (hts _ k290) (fun x9 h9 => u_same (hts _ k291) x9 h9) rfl dX2_readSum_134 ?_
                  refine mcallV' (g := g) (q0 := 0) (ci := 6) (As := []) (rest := []) St hK hT hA hP hD hS hl.1 [2] [0, 1] rfl rfl rfl (c_t_stepF l g ta ab sz ln x_2 x_3 x_4 (-1) fb hln i9) (cwV 0 hts (zgL (zl4 k296 k275 k276 k277) k271) rfl rfl rfl (by decide +kernel) ⟨Nat.le_of_ble_eq_true rfl, Nat.le_of_ble_eq_true rfl⟩) rfl rfl rfl rfl (Nat.le_of_ble_eq_true rfl) dX2_readSum_137 ⟨(Nat.le_of_ble_eq_true rfl), (Nat.le_of_ble_eq_true rfl)⟩ (fun u_ H locs hq128 hP hD hS => ?_)
                  obtain ⟨kd2_125, bg2_126, nx2_127⟩ := u_
                  replace hq128 : (0 ≤ nx2_127.toInt ∧ nx2_127.toInt ≤ 400) ∧ (0 ≤ bg2_126.toInt ∧ bg2_126.toInt ≤ 400) ∧ (zKd kd2_125.toInt bg2_126.toInt nx2_127.toInt) ∧ (zSk fb ln.toInt x_4.toInt bg2_126.toInt) ∧ (zTk fb ln.toInt kd2_125.toInt bg2_126.toInt nx2_127.toInt) := hq128
                  have hP : va_P g.1 vwCl (List.flatten [bLT g lt ta lo, bLaw g lo lc x_5 ll lm lg ld fc_6, bTape g ta ab sz ln kd2_125 bg2_126 nx2_127 (-1) fb]) H := hP
                  have hD : va_D A (List.flatten [bLT g lt ta lo, bLaw g lo lc x_5 ll lm lg ld fc_6, bTape g ta ab sz ln kd2_125 bg2_126 nx2_127 (-1) fb]) := hD
                  refine W.widen (k := 0) (n := 0) (Nat.le_of_ble_eq_true rfl) (Nat.le_of_ble_eq_true rfl) ?_
                  refine W.eq (g2 := F0 m 140 ls []) rfl ?_
                  obtain ⟨hq128_0, hq128_1, hq128_2, hq128_3, hq128_4⟩ := hq128
                  refine lv_aload_n hx hb dX2_readSum_140 rfl (lv_at hl 2 rfl) ?_
                  refine va_get (D := g.1) (ci := 2) (v := .ref lo) (C := RX2) (T := TX2) (N := 2) hx hb hts izRX2 hown hK hP 0 rfl rfl 1 (by decide) (hts _ k210) (fun _ h9 => h9) rfl dX2_readSum_141 ?_
                  refine lv_iload_n hx hb dX2_readSum_144 rfl (lv_at hl 1 rfl) ?_
                  refine lv_iload_n hx hb dX2_readSum_145 rfl (lv_at hl 0 rfl) ?_
                  refine mcallV' (g := g) (q0 := 0) (ci := 1) (As := [.int 5, .int 0]) (rest := []) St hK hT hA hP hD hS hl.1 [1] [0, 2] rfl rfl rfl (c_l_putC l g lo lc x_5 ll lm lg ld fc_6 5 0 i10 (by first | assumption | omega | decide | exact Or.inl (by decide) | exact Or.inr (by decide))) (cwV 2 hts (zgL (zl4 k297 k298 k299 k85) k202) rfl rfl rfl (by decide +kernel) ⟨Nat.le_of_ble_eq_true rfl, Nat.le_of_ble_eq_true rfl⟩) rfl rfl rfl rfl (Nat.le_of_ble_eq_true rfl) dX2_readSum_146 ⟨(Nat.le_of_ble_eq_true rfl), (Nat.le_of_ble_eq_true rfl)⟩ (fun u_ H locs hq131 hP hD hS => ?_)
                  obtain ⟨lz2_129, fc2_130⟩ := u_
                  replace hq131 : (0 ≤ lz2_129.toInt ∧ lz2_129.toInt ≤ 400) ∧ (lz2_129.toInt = x_5.toInt + 1) ∧ (fc2_130 = upd fc_6 x_5.toInt.toNat (5 + 32 * 0)) := hq131
                  have hP : va_P g.1 vwCl (List.flatten [bLT g lt ta lo, bTape g ta ab sz ln kd2_125 bg2_126 nx2_127 (-1) fb, bLaw g lo lc lz2_129 ll lm lg ld fc2_130]) H := hP
                  have hD : va_D A (List.flatten [bLT g lt ta lo, bTape g ta ab sz ln kd2_125 bg2_126 nx2_127 (-1) fb, bLaw g lo lc lz2_129 ll lm lg ld fc2_130]) := hD
                  refine W.widen (k := 0) (n := 0) (Nat.le_of_ble_eq_true rfl) (Nat.le_of_ble_eq_true rfl) ?_
                  refine W.eq (g2 := F0 m 149 ls [.int x_5]) rfl ?_
                  obtain ⟨hq131_0, hq131_1, hq131_2⟩ := hq131
                  refine lv_pop hx hb dX2_readSum_149 rfl ?_
                  refine lv_aload_n hx hb dX2_readSum_150 rfl (lv_at hl 2 rfl) ?_
                  refine va_get (D := g.1) (ci := 2) (v := .ref ta) (C := RX2) (T := TX2) (N := 2) hx hb hts izRX2 hown hK hP 0 rfl rfl 0 (by decide) (hts _ k290) (fun x9 h9 => u_same (hts _ k291) x9 h9) rfl dX2_readSum_151 ?_
                  refine lv_bipush (v := 43) hx hb dX2_readSum_154 (by decide) ?_
                  have hL43 : (43 : Int32).toInt = 43 := by decide
                  refine mcallV' (g := g) (q0 := 0) (ci := 6) (As := [.int 43]) (rest := []) St hK hT hA hP hD hS hl.1 [1] [0, 2] rfl rfl rfl (c_t_takeSignF l g ta ab sz ln kd2_125 bg2_126 nx2_127 (-1) fb 43 hln hq128_0 hq128_1 hq128_2 hq128_4) (cwV 1 hts (zgL (zl4 k300 k301 k302 k277) k286) rfl rfl rfl (by decide +kernel) ⟨Nat.le_of_ble_eq_true rfl, Nat.le_of_ble_eq_true rfl⟩) rfl rfl rfl rfl (Nat.le_of_ble_eq_true rfl) dX2_readSum_156 ⟨(Nat.le_of_ble_eq_true rfl), (Nat.le_of_ble_eq_true rfl)⟩ (fun u_ H locs hq136 hP hD hS => ?_)
                  obtain ⟨kd2_132, bg2_133, nx2_134, q_135⟩ := u_
                  replace hq136 : (0 ≤ nx2_134.toInt ∧ nx2_134.toInt ≤ 400) ∧ (0 ≤ bg2_133.toInt ∧ bg2_133.toInt ≤ 400) ∧ (zKd kd2_132.toInt bg2_133.toInt nx2_134.toInt) ∧ (zTk fb ln.toInt kd2_132.toInt bg2_133.toInt nx2_134.toInt) ∧ (q_135 = 1 ∧ zisS fb ln.toInt bg2_126.toInt (43 : Int32).toInt ∧ zMv fb ln.toInt bg2_126.toInt bg2_133.toInt ∨ q_135 = 0 ∧ ¬ zisS fb ln.toInt bg2_126.toInt (43 : Int32).toInt ∧ kd2_125 = kd2_132 ∧ bg2_126 = bg2_133 ∧ nx2_127 = nx2_134) := hq136
                  have hP : va_P g.1 vwCl (List.flatten [bLT g lt ta lo, bLaw g lo lc lz2_129 ll lm lg ld fc2_130, bTape g ta ab sz ln kd2_132 bg2_133 nx2_134 (-1) fb]) H := hP
                  have hD : va_D A (List.flatten [bLT g lt ta lo, bLaw g lo lc lz2_129 ll lm lg ld fc2_130, bTape g ta ab sz ln kd2_132 bg2_133 nx2_134 (-1) fb]) := hD
                  refine W.widen (k := 0) (n := 0) (Nat.le_of_ble_eq_true rfl) (Nat.le_of_ble_eq_true rfl) ?_
                  refine W.eq (g2 := F0 m 159 ls [.int q_135]) rfl ?_
                  obtain ⟨hq136_0, hq136_1, hq136_2, hq136_3, hq136_4⟩ := hq136
                  rcases hq136_4 with ⟨rfl, hq136_k, hq136_km⟩ | ⟨rfl, hq136_k, rfl, rfl, rfl⟩
                  · skip
                    refine lv_if_ne (tgt := 164) hx hb dX2_readSum_159 (by decide) (fun _ => ?_) (fun c137 => absurd c137 (by decide))
                    have w138 : x_3.toInt < bg2_126.toInt := zMv_lt (f := fb) (n := ln.toInt) (by omega) (zPt_z (Or.inl (Or.inr (Or.inr (Or.inr (Or.inr (Or.inl (hq122_k)))))))) (zMv_mk i12 hq128_3)
                    have w139 : bg2_126.toInt < bg2_133.toInt := zMv_lt (f := fb) (n := ln.toInt) (by omega) (zisS_z hq136_k) hq136_km
                    have w140 : ∀ r9, zSum fb ln.toInt bg2_133.toInt r9 → zSum fb ln.toInt bg.toInt r9 := fun r9 h9 => i14 r9 (zSum_more (by decide) (Or.inl (Or.inr (Or.inr (Or.inr (Or.inr (Or.inl (hq122_k))))))) (zMv_mk i12 hq128_3) hq136_k hq136_km h9)
                    have w141 : zSD fb ln.toInt bg.toInt bg2_133.toInt fc fc2_130 lz.toInt lz2_129.toInt := zSD_plus (by omega) i15 (zPtw5 hq122_k) hq131_2 hq131_1 (zMv_mk i12 hq128_3) hq136_k (by decide) hq136_km (by omega) (by omega)
                    refine ziinc3 (n' := 1) (a' := 1) (b' := 400) (lv' := fun v9 => [(1, .int v9), (3, .int 0), (2, .int 5), (0, .ref lt)]) hx hb dX2_readSum_164 hl (k := 3) rfl (by decide) (fun _ => rfl) (zaddK (i := x_1.toInt) (j := 1) rfl (by decide) i7.1 n23 (Int.le_refl _) (Int.le_refl _) (by decide)) (fun x_142 ls hx_142 hl => ?_)
                    refine lv_goto (tgt := 2) hx hb dX2_readSum_167 (by decide) ?_
                    have hl := lv_sub (l' := [(0, .ref lt), (1, .int x_142), (2, .int 5), (3, .int 0)]) hl [3, 0, 2, 1] rfl
                    have hP : va_P g.1 vwCl (List.flatten [bLT g lt ta lo, bLaw g lo lc lz2_129 ll lm lg ld fc2_130, bTape g ta ab sz ln kd2_132 bg2_133 nx2_134 (-1) fb]) H := hP
                    have hD : va_D A (List.flatten [bLT g lt ta lo, bLaw g lo lc lz2_129 ll lm lg ld fc2_130, bTape g ta ab sz ln kd2_132 bg2_133 nx2_134 (-1) fb]) := hD
                    obtain ⟨hP, hD⟩ := zord (g := g) (Bs' := [bLT g lt ta lo, bTape g ta ab sz ln kd2_132 bg2_133 nx2_134 (-1) fb, bLaw g lo lc lz2_129 ll lm lg ld fc2_130]) [0, 2, 1] rfl rfl hP hD
                    have hP : va_P g.1 vwCl (List.flatten [bLT g lt ta lo, bTape g ta ab sz ln kd2_132 bg2_133 nx2_134 (-1) fb, bLaw g lo lc lz2_129 ll lm lg ld fc2_130]) H := hP
                    have hD : va_D A (List.flatten [bLT g lt ta lo, bTape g ta ab sz ln kd2_132 bg2_133 nx2_134 (-1) fb, bLaw g lo lc lz2_129 ll lm lg ld fc2_130]) := hD
                    exact ih2_17 x_142 kd2_132 bg2_133 nx2_134 lz2_129 fc2_130 ⟨(Int.le_trans (by decide) hx_142.2.1), hx_142.2.2⟩ ⟨hq136_1.1, hq136_1.2⟩ ⟨hq136_0.1, hq136_0.2⟩ ⟨hq131_0.1, hq131_0.2⟩ hq136_2 hq136_3 (by first | omega | assumption | decide) w140 w141 H _ ls (zmK hx_142.1 (by decide) n23 (by decide) hk2_17)  hP hD hS (lv_sub hl [0, 1] rfl)
                  · skip
                    refine lv_if_ne (tgt := 164) hx hb dX2_readSum_159 (by decide) (fun c143 => absurd (by decide) c143) (fun _ => ?_)
                    refine lv_iconst (v := 1) hx hb dX2_readSum_162 (by decide) ?_
                    have hP : va_P g.1 vwCl (List.flatten [bLT g lt ta lo, bLaw g lo lc lz2_129 ll lm lg ld fc2_130, bTape g ta ab sz ln kd2_125 bg2_126 nx2_127 (-1) fb]) H := hP
                    have hD : va_D A (List.flatten [bLT g lt ta lo, bLaw g lo lc lz2_129 ll lm lg ld fc2_130, bTape g ta ab sz ln kd2_125 bg2_126 nx2_127 (-1) fb]) := hD
                    obtain ⟨hP, hD⟩ := zord (g := g) (Bs' := [bLT g lt ta lo, bTape g ta ab sz ln kd2_125 bg2_126 nx2_127 (-1) fb, bLaw g lo lc lz2_129 ll lm lg ld fc2_130]) [0, 2, 1] rfl rfl hP hD
                    exact mret_z hx hb hr hlocks hS (Nat.le_of_ble_eq_true rfl) (Nat.le_of_ble_eq_true rfl) dX2_readSum_163 (kd2_125, bg2_126, nx2_127, -1, lz2_129, fc2_130, (1 : Int32)) rfl (by decide) (show (0 ≤ lz2_129.toInt ∧ lz2_129.toInt ≤ 400) ∧ (-1 ≤ ((-1) : Int32).toInt) ∧ (0 ≤ nx2_127.toInt ∧ nx2_127.toInt ≤ 400) ∧ (0 ≤ bg2_126.toInt ∧ bg2_126.toInt ≤ 400) ∧ (zKd kd2_125.toInt bg2_126.toInt nx2_127.toInt) ∧ (zTk fb ln.toInt kd2_125.toInt bg2_126.toInt nx2_127.toInt) ∧ (1 = 1 ∧ zSum fb ln.toInt bg.toInt (.ok bg2_126.toInt) ∧ (-1) = (-1) ∧ zSC fb ln.toInt bg.toInt bg2_126.toInt fc fc2_130 lz.toInt lz2_129.toInt ∨ 1 = 0 ∧ zSum fb ln.toInt bg.toInt (.bad ((-1) : Int32).toInt)) from ⟨(by first | assumption | omega | exact Or.inl (by decide) | exact Or.inr (by omega)), (by decide), (by first | assumption | omega | exact Or.inl (by decide) | exact Or.inr (by omega)), (by first | assumption | omega | exact Or.inl (by decide) | exact Or.inr (by omega)), (by first | assumption | omega | exact Or.inl (by decide) | exact Or.inr (by omega)), (by assumption), (Or.inl ⟨rfl, i14 _ (zSum_one (by decide) (Or.inl (Or.inr (Or.inr (Or.inr (Or.inr (Or.inl (hq122_k))))))) (zMv_mk i12 hq128_3) hq136_k), rfl, (zSD_end (by omega) i15 (zPtw5 hq122_k) hq131_2 hq131_1 (zMv_mk i12 hq128_3) hq136_k (by decide) (zMv_lt (f := fb) (n := ln.toInt) (by omega) (zPt_z (Or.inl (Or.inr (Or.inr (Or.inr (Or.inr (Or.inl (hq122_k)))))))) (zMv_mk i12 hq128_3)))⟩)⟩) hP hD
                · skip
                  refine lv_if_eq (tgt := 89) hx hb dX2_readSum_82 (by decide) (fun _ => ?_) (fun c144 => absurd (by decide) c144)
                  refine lv_aload_n hx hb dX2_readSum_89 rfl (lv_at hl 0 rfl) ?_
                  refine va_get (D := g.1) (ci := 2) (v := .ref ta) (C := RX2) (T := TX2) (N := 2) hx hb hts izRX2 hown hK hP 0 rfl rfl 0 (by decide) (hts _ k290) (fun x9 h9 => u_same (hts _ k291) x9 h9) rfl dX2_readSum_90 ?_
                  refine va_ldcS (q := g.2 36) hx hb hown (zra13 hT.2.1) dX2_readSum_93 ?_
                  refine mcallV' (g := g) (q0 := 0) (ci := 6) (As := [.ref (g.2 36)]) (rest := []) St hK hT hA hP hD hS hl.1 [2] [0, 1] rfl rfl rfl (c_t_isWordF l g ta ab sz ln x_2 x_3 x_4 (-1) fb (g.2 36) 13 zqa13 hln i9 i8 i11 i12 rfl zla13 zna13 (zlitB zla13)) (cwV 1 hts (zgL (zl4 k292 k282 k283 k277) k268) rfl rfl rfl (by decide +kernel) ⟨Nat.le_of_ble_eq_true rfl, Nat.le_of_ble_eq_true rfl⟩) rfl rfl rfl rfl (Nat.le_of_ble_eq_true rfl) dX2_readSum_95 ⟨(Nat.le_of_ble_eq_true rfl), (Nat.le_of_ble_eq_true rfl)⟩ (fun r_145 H locs hq146 hP hD hS => ?_)
                  replace hq146 : (r_145 = 1 ∧ zisW fb ln.toInt x_3.toInt zqa13.2.2.2 ∨ r_145 = 0 ∧ ¬ zisW fb ln.toInt x_3.toInt zqa13.2.2.2) := hq146
                  have hP : va_P g.1 vwCl (List.flatten [bLT g lt ta lo, bLaw g lo lc x_5 ll lm lg ld fc_6, bTape g ta ab sz ln x_2 x_3 x_4 (-1) fb]) H := hP
                  have hD : va_D A (List.flatten [bLT g lt ta lo, bLaw g lo lc x_5 ll lm lg ld fc_6, bTape g ta ab sz ln x_2 x_3 x_4 (-1) fb]) := hD
                  refine W.widen (k := 0) (n := 0) (Nat.le_of_ble_eq_true rfl) (Nat.le_of_ble_eq_true rfl) ?_
                  refine W.eq (g2 := F0 m 98 ls [.int r_145]) rfl ?_
                  rcases hq146 with ⟨rfl, hq146_k⟩ | ⟨rfl, hq146_k⟩
                  · skip
                    refine lv_if_eq (tgt := 106) hx hb dX2_readSum_98 (by decide) (fun c147 => absurd c147 (by decide)) (fun _ => ?_)
                    refine lv_bipush (v := 6) hx hb dX2_readSum_101 (by decide) ?_
                    refine lv_goto (tgt := 107) hx hb dX2_readSum_103 (by decide) ?_
                    refine lv_istore_n (lv' := [(2, .int 6), (0, .ref lt), (1, .int x_1)]) hx hb dX2_readSum_107 rfl hl (by decide) rfl (fun ls hl => ?_)
                    refine lv_iconst (v := 0) hx hb dX2_readSum_108 (by decide) ?_
                    refine lv_istore_n (lv' := [(3, .int 0), (2, .int 6), (0, .ref lt), (1, .int x_1)]) hx hb dX2_readSum_109 rfl hl (by decide) rfl (fun ls hl => ?_)
                    refine lv_iload_n hx hb dX2_readSum_110 rfl (lv_at hl 1 rfl) ?_
                    refine lv_if_ne (tgt := 133) hx hb dX2_readSum_111 (by decide) (fun _ => ?_) (fun c148 => absurd c148 (by decide))
                    refine lv_aload_n hx hb dX2_readSum_133 rfl (lv_at hl 2 rfl) ?_
                    refine va_get (D := g.1) (ci := 2) (v := .ref ta) (C := RX2) (T := TX2) (N := 2) hx hb hts izRX2 hown hK hP 0 rfl rfl 0 (by decide) (hts _ k290) (fun x9 h9 => u_same (hts _ k291) x9 h9) rfl dX2_readSum_134 ?_
                    refine mcallV' (g := g) (q0 := 0) (ci := 6) (As := []) (rest := []) St hK hT hA hP hD hS hl.1 [2] [0, 1] rfl rfl rfl (c_t_stepF l g ta ab sz ln x_2 x_3 x_4 (-1) fb hln i9) (cwV 0 hts (zgL (zl4 k296 k275 k276 k277) k271) rfl rfl rfl (by decide +kernel) ⟨Nat.le_of_ble_eq_true rfl, Nat.le_of_ble_eq_true rfl⟩) rfl rfl rfl rfl (Nat.le_of_ble_eq_true rfl) dX2_readSum_137 ⟨(Nat.le_of_ble_eq_true rfl), (Nat.le_of_ble_eq_true rfl)⟩ (fun u_ H locs hq152 hP hD hS => ?_)
                    obtain ⟨kd2_149, bg2_150, nx2_151⟩ := u_
                    replace hq152 : (0 ≤ nx2_151.toInt ∧ nx2_151.toInt ≤ 400) ∧ (0 ≤ bg2_150.toInt ∧ bg2_150.toInt ≤ 400) ∧ (zKd kd2_149.toInt bg2_150.toInt nx2_151.toInt) ∧ (zSk fb ln.toInt x_4.toInt bg2_150.toInt) ∧ (zTk fb ln.toInt kd2_149.toInt bg2_150.toInt nx2_151.toInt) := hq152
                    have hP : va_P g.1 vwCl (List.flatten [bLT g lt ta lo, bLaw g lo lc x_5 ll lm lg ld fc_6, bTape g ta ab sz ln kd2_149 bg2_150 nx2_151 (-1) fb]) H := hP
                    have hD : va_D A (List.flatten [bLT g lt ta lo, bLaw g lo lc x_5 ll lm lg ld fc_6, bTape g ta ab sz ln kd2_149 bg2_150 nx2_151 (-1) fb]) := hD
                    refine W.widen (k := 0) (n := 0) (Nat.le_of_ble_eq_true rfl) (Nat.le_of_ble_eq_true rfl) ?_
                    refine W.eq (g2 := F0 m 140 ls []) rfl ?_
                    obtain ⟨hq152_0, hq152_1, hq152_2, hq152_3, hq152_4⟩ := hq152
                    refine lv_aload_n hx hb dX2_readSum_140 rfl (lv_at hl 2 rfl) ?_
                    refine va_get (D := g.1) (ci := 2) (v := .ref lo) (C := RX2) (T := TX2) (N := 2) hx hb hts izRX2 hown hK hP 0 rfl rfl 1 (by decide) (hts _ k210) (fun _ h9 => h9) rfl dX2_readSum_141 ?_
                    refine lv_iload_n hx hb dX2_readSum_144 rfl (lv_at hl 1 rfl) ?_
                    refine lv_iload_n hx hb dX2_readSum_145 rfl (lv_at hl 0 rfl) ?_
                    refine mcallV' (g := g) (q0 := 0) (ci := 1) (As := [.int 6, .int 0]) (rest := []) St hK hT hA hP hD hS hl.1 [1] [0, 2] rfl rfl rfl (c_l_putC l g lo lc x_5 ll lm lg ld fc_6 6 0 i10 (by first | assumption | omega | decide | exact Or.inl (by decide) | exact Or.inr (by decide))) (cwV 2 hts (zgL (zl4 k297 k298 k299 k85) k202) rfl rfl rfl (by decide +kernel) ⟨Nat.le_of_ble_eq_true rfl, Nat.le_of_ble_eq_true rfl⟩) rfl rfl rfl rfl (Nat.le_of_ble_eq_true rfl) dX2_readSum_146 ⟨(Nat.le_of_ble_eq_true rfl), (Nat.le_of_ble_eq_true rfl)⟩ (fun u_ H locs hq155 hP hD hS => ?_)
                    obtain ⟨lz2_153, fc2_154⟩ := u_
                    replace hq155 : (0 ≤ lz2_153.toInt ∧ lz2_153.toInt ≤ 400) ∧ (lz2_153.toInt = x_5.toInt + 1) ∧ (fc2_154 = upd fc_6 x_5.toInt.toNat (6 + 32 * 0)) := hq155
                    have hP : va_P g.1 vwCl (List.flatten [bLT g lt ta lo, bTape g ta ab sz ln kd2_149 bg2_150 nx2_151 (-1) fb, bLaw g lo lc lz2_153 ll lm lg ld fc2_154]) H := hP
                    have hD : va_D A (List.flatten [bLT g lt ta lo, bTape g ta ab sz ln kd2_149 bg2_150 nx2_151 (-1) fb, bLaw g lo lc lz2_153 ll lm lg ld fc2_154]) := hD
                    refine W.widen (k := 0) (n := 0) (Nat.le_of_ble_eq_true rfl) (Nat.le_of_ble_eq_true rfl) ?_
                    refine W.eq (g2 := F0 m 149 ls [.int x_5]) rfl ?_
                    obtain ⟨hq155_0, hq155_1, hq155_2⟩ := hq155
                    refine lv_pop hx hb dX2_readSum_149 rfl ?_
                    refine lv_aload_n hx hb dX2_readSum_150 rfl (lv_at hl 2 rfl) ?_
                    refine va_get (D := g.1) (ci := 2) (v := .ref ta) (C := RX2) (T := TX2) (N := 2) hx hb hts izRX2 hown hK hP 0 rfl rfl 0 (by decide) (hts _ k290) (fun x9 h9 => u_same (hts _ k291) x9 h9) rfl dX2_readSum_151 ?_
                    refine lv_bipush (v := 43) hx hb dX2_readSum_154 (by decide) ?_
                    have hL43 : (43 : Int32).toInt = 43 := by decide
                    refine mcallV' (g := g) (q0 := 0) (ci := 6) (As := [.int 43]) (rest := []) St hK hT hA hP hD hS hl.1 [1] [0, 2] rfl rfl rfl (c_t_takeSignF l g ta ab sz ln kd2_149 bg2_150 nx2_151 (-1) fb 43 hln hq152_0 hq152_1 hq152_2 hq152_4) (cwV 1 hts (zgL (zl4 k300 k301 k302 k277) k286) rfl rfl rfl (by decide +kernel) ⟨Nat.le_of_ble_eq_true rfl, Nat.le_of_ble_eq_true rfl⟩) rfl rfl rfl rfl (Nat.le_of_ble_eq_true rfl) dX2_readSum_156 ⟨(Nat.le_of_ble_eq_true rfl), (Nat.le_of_ble_eq_true rfl)⟩ (fun u_ H locs hq160 hP hD hS => ?_)
                    obtain ⟨kd2_156, bg2_157, nx2_158, q_159⟩ := u_
                    replace hq160 : (0 ≤ nx2_158.toInt ∧ nx2_158.toInt ≤ 400) ∧ (0 ≤ bg2_157.toInt ∧ bg2_157.toInt ≤ 400) ∧ (zKd kd2_156.toInt bg2_157.toInt nx2_158.toInt) ∧ (zTk fb ln.toInt kd2_156.toInt bg2_157.toInt nx2_158.toInt) ∧ (q_159 = 1 ∧ zisS fb ln.toInt bg2_150.toInt (43 : Int32).toInt ∧ zMv fb ln.toInt bg2_150.toInt bg2_157.toInt ∨ q_159 = 0 ∧ ¬ zisS fb ln.toInt bg2_150.toInt (43 : Int32).toInt ∧ kd2_149 = kd2_156 ∧ bg2_150 = bg2_157 ∧ nx2_151 = nx2_158) := hq160
                    have hP : va_P g.1 vwCl (List.flatten [bLT g lt ta lo, bLaw g lo lc lz2_153 ll lm lg ld fc2_154, bTape g ta ab sz ln kd2_156 bg2_157 nx2_158 (-1) fb]) H := hP
                    have hD : va_D A (List.flatten [bLT g lt ta lo, bLaw g lo lc lz2_153 ll lm lg ld fc2_154, bTape g ta ab sz ln kd2_156 bg2_157 nx2_158 (-1) fb]) := hD
                    refine W.widen (k := 0) (n := 0) (Nat.le_of_ble_eq_true rfl) (Nat.le_of_ble_eq_true rfl) ?_
                    refine W.eq (g2 := F0 m 159 ls [.int q_159]) rfl ?_
                    obtain ⟨hq160_0, hq160_1, hq160_2, hq160_3, hq160_4⟩ := hq160
                    rcases hq160_4 with ⟨rfl, hq160_k, hq160_km⟩ | ⟨rfl, hq160_k, rfl, rfl, rfl⟩
                    · skip
                      refine lv_if_ne (tgt := 164) hx hb dX2_readSum_159 (by decide) (fun _ => ?_) (fun c161 => absurd c161 (by decide))
                      have w162 : x_3.toInt < bg2_150.toInt := zMv_lt (f := fb) (n := ln.toInt) (by omega) (zPt_z (Or.inl (Or.inr (Or.inr (Or.inr (Or.inr (Or.inr (hq146_k)))))))) (zMv_mk i12 hq152_3)
                      have w163 : bg2_150.toInt < bg2_157.toInt := zMv_lt (f := fb) (n := ln.toInt) (by omega) (zisS_z hq160_k) hq160_km
                      have w164 : ∀ r9, zSum fb ln.toInt bg2_157.toInt r9 → zSum fb ln.toInt bg.toInt r9 := fun r9 h9 => i14 r9 (zSum_more (by decide) (Or.inl (Or.inr (Or.inr (Or.inr (Or.inr (Or.inr (hq146_k))))))) (zMv_mk i12 hq152_3) hq160_k hq160_km h9)
                      have w165 : zSD fb ln.toInt bg.toInt bg2_157.toInt fc fc2_154 lz.toInt lz2_153.toInt := zSD_plus (by omega) i15 (zPtw6 hq146_k) hq155_2 hq155_1 (zMv_mk i12 hq152_3) hq160_k (by decide) hq160_km (by omega) (by omega)
                      refine ziinc3 (n' := 1) (a' := 1) (b' := 400) (lv' := fun v9 => [(1, .int v9), (3, .int 0), (2, .int 6), (0, .ref lt)]) hx hb dX2_readSum_164 hl (k := 3) rfl (by decide) (fun _ => rfl) (zaddK (i := x_1.toInt) (j := 1) rfl (by decide) i7.1 n23 (Int.le_refl _) (Int.le_refl _) (by decide)) (fun x_166 ls hx_166 hl => ?_)
                      refine lv_goto (tgt := 2) hx hb dX2_readSum_167 (by decide) ?_
                      have hl := lv_sub (l' := [(0, .ref lt), (1, .int x_166), (2, .int 6), (3, .int 0)]) hl [3, 0, 2, 1] rfl
                      have hP : va_P g.1 vwCl (List.flatten [bLT g lt ta lo, bLaw g lo lc lz2_153 ll lm lg ld fc2_154, bTape g ta ab sz ln kd2_156 bg2_157 nx2_158 (-1) fb]) H := hP
                      have hD : va_D A (List.flatten [bLT g lt ta lo, bLaw g lo lc lz2_153 ll lm lg ld fc2_154, bTape g ta ab sz ln kd2_156 bg2_157 nx2_158 (-1) fb]) := hD
                      obtain ⟨hP, hD⟩ := zord (g := g) (Bs' := [bLT g lt ta lo, bTape g ta ab sz ln kd2_156 bg2_157 nx2_158 (-1) fb, bLaw g lo lc lz2_153 ll lm lg ld fc2_154]) [0, 2, 1] rfl rfl hP hD
                      have hP : va_P g.1 vwCl (List.flatten [bLT g lt ta lo, bTape g ta ab sz ln kd2_156 bg2_157 nx2_158 (-1) fb, bLaw g lo lc lz2_153 ll lm lg ld fc2_154]) H := hP
                      have hD : va_D A (List.flatten [bLT g lt ta lo, bTape g ta ab sz ln kd2_156 bg2_157 nx2_158 (-1) fb, bLaw g lo lc lz2_153 ll lm lg ld fc2_154]) := hD
                      exact ih2_17 x_166 kd2_156 bg2_157 nx2_158 lz2_153 fc2_154 ⟨(Int.le_trans (by decide) hx_166.2.1), hx_166.2.2⟩ ⟨hq160_1.1, hq160_1.2⟩ ⟨hq160_0.1, hq160_0.2⟩ ⟨hq155_0.1, hq155_0.2⟩ hq160_2 hq160_3 (by first | omega | assumption | decide) w164 w165 H _ ls (zmK hx_166.1 (by decide) n23 (by decide) hk2_17)  hP hD hS (lv_sub hl [0, 1] rfl)
                    · skip
                      refine lv_if_ne (tgt := 164) hx hb dX2_readSum_159 (by decide) (fun c167 => absurd (by decide) c167) (fun _ => ?_)
                      refine lv_iconst (v := 1) hx hb dX2_readSum_162 (by decide) ?_
                      have hP : va_P g.1 vwCl (List.flatten [bLT g lt ta lo, bLaw g lo lc lz2_153 ll lm lg ld fc2_154, bTape g ta ab sz ln kd2_149 bg2_150 nx2_151 (-1) fb]) H := hP
                      have hD : va_D A (List.flatten [bLT g lt ta lo, bLaw g lo lc lz2_153 ll lm lg ld fc2_154, bTape g ta ab sz ln kd2_149 bg2_150 nx2_151 (-1) fb]) := hD
                      obtain ⟨hP, hD⟩ := zord (g := g) (Bs' := [bLT g lt ta lo, bTape g ta ab sz ln kd2_149 bg2_150 nx2_151 (-1) fb, bLaw g lo lc lz2_153 ll lm lg ld fc2_154]) [0, 2, 1] rfl rfl hP hD
                      exact mret_z hx hb hr hlocks hS (Nat.le_of_ble_eq_true rfl) (Nat.le_of_ble_eq_true rfl) dX2_readSum_163 (kd2_149, bg2_150, nx2_151, -1, lz2_153, fc2_154, (1 : Int32)) rfl (by decide) (show (0 ≤ lz2_153.toInt ∧ lz2_153.toInt ≤ 400) ∧ (-1 ≤ ((-1) : Int32).toInt) ∧ (0 ≤ nx2_151.toInt ∧ nx2_151.toInt ≤ 400) ∧ (0 ≤ bg2_150.toInt ∧ bg2_150.toInt ≤ 400) ∧ (zKd kd2_149.toInt bg2_150.toInt nx2_151.toInt) ∧ (zTk fb ln.toInt kd2_149.toInt bg2_150.toInt nx2_151.toInt) ∧ (1 = 1 ∧ zSum fb ln.toInt bg.toInt (.ok bg2_150.toInt) ∧ (-1) = (-1) ∧ zSC fb ln.toInt bg.toInt bg2_150.toInt fc fc2_154 lz.toInt lz2_153.toInt ∨ 1 = 0 ∧ zSum fb ln.toInt bg.toInt (.bad ((-1) : Int32).toInt)) from ⟨(by first | assumption | omega | exact Or.inl (by decide) | exact Or.inr (by omega)), (by decide), (by first | assumption | omega | exact Or.inl (by decide) | exact Or.inr (by omega)), (by first | assumption | omega | exact Or.inl (by decide) | exact Or.inr (by omega)), (by first | assumption | omega | exact Or.inl (by decide) | exact Or.inr (by omega)), (by assumption), (Or.inl ⟨rfl, i14 _ (zSum_one (by decide) (Or.inl (Or.inr (Or.inr (Or.inr (Or.inr (Or.inr (hq146_k))))))) (zMv_mk i12 hq152_3) hq160_k), rfl, (zSD_end (by omega) i15 (zPtw6 hq146_k) hq155_2 hq155_1 (zMv_mk i12 hq152_3) hq160_k (by decide) (zMv_lt (f := fb) (n := ln.toInt) (by omega) (zPt_z (Or.inl (Or.inr (Or.inr (Or.inr (Or.inr (Or.inr (hq146_k)))))))) (zMv_mk i12 hq152_3)))⟩)⟩) hP hD
                  · skip
                    refine lv_if_eq (tgt := 106) hx hb dX2_readSum_98 (by decide) (fun _ => ?_) (fun c168 => absurd (by decide) c168)
                    refine lv_iconst (v := 0) hx hb dX2_readSum_106 (by decide) ?_
                    refine lv_istore_n (lv' := [(2, .int 0), (0, .ref lt), (1, .int x_1)]) hx hb dX2_readSum_107 rfl hl (by decide) rfl (fun ls hl => ?_)
                    refine lv_iconst (v := 0) hx hb dX2_readSum_108 (by decide) ?_
                    refine lv_istore_n (lv' := [(3, .int 0), (2, .int 0), (0, .ref lt), (1, .int x_1)]) hx hb dX2_readSum_109 rfl hl (by decide) rfl (fun ls hl => ?_)
                    refine lv_iload_n hx hb dX2_readSum_110 rfl (lv_at hl 1 rfl) ?_
                    refine lv_if_ne (tgt := 133) hx hb dX2_readSum_111 (by decide) (fun c169 => absurd (by decide) c169) (fun _ => ?_)
                    refine lv_aload_n hx hb dX2_readSum_114 rfl (lv_at hl 2 rfl) ?_
                    refine va_get (D := g.1) (ci := 2) (v := .ref ta) (C := RX2) (T := TX2) (N := 2) hx hb hts izRX2 hown hK hP 0 rfl rfl 0 (by decide) (hts _ k290) (fun x9 h9 => u_same (hts _ k291) x9 h9) rfl dX2_readSum_115 ?_
                    refine lv_iconst (v := 0) hx hb dX2_readSum_118 (by decide) ?_
                    refine lv_sipush (v := 999) hx hb dX2_readSum_119 (by decide) ?_
                    have hL0 : (0 : Int32).toInt = 0 := by decide
                    have hL999 : (999 : Int32).toInt = 999 := by decide
                    refine mcallV' (g := g) (q0 := 0) (ci := 6) (As := [.int 0, .int 999]) (rest := []) St hK hT hA hP hD hS hl.1 [2] [0, 1] rfl rfl rfl (c_t_numberF l g ta ab sz ln x_2 x_3 x_4 fb 0 999 hln i9 i8 i11 i12) (cwV 2 hts (zgL (zl4 k293 k294 k295 k277) k273) rfl rfl rfl (by decide +kernel) ⟨Nat.le_of_ble_eq_true rfl, Nat.le_of_ble_eq_true rfl⟩) rfl rfl rfl rfl (Nat.le_of_ble_eq_true rfl) dX2_readSum_122 ⟨(Nat.le_of_ble_eq_true rfl), (Nat.le_of_ble_eq_true rfl)⟩ (fun u_ H locs hq175 hP hD hS => ?_)
                    obtain ⟨kd2_170, bg2_171, nx2_172, ft2_173, q_174⟩ := u_
                    replace hq175 : (-1 ≤ ft2_173.toInt) ∧ (0 ≤ nx2_172.toInt ∧ nx2_172.toInt ≤ 400) ∧ (0 ≤ bg2_171.toInt ∧ bg2_171.toInt ≤ 400) ∧ (zKd kd2_170.toInt bg2_171.toInt nx2_172.toInt) ∧ (zTk fb ln.toInt kd2_170.toInt bg2_171.toInt nx2_172.toInt) ∧ (zNu fb ln.toInt x_3.toInt (0 : Int32).toInt (999 : Int32).toInt q_174 ∧ zMv fb ln.toInt x_3.toInt bg2_171.toInt ∧ (-1) = ft2_173 ∨ q_174 = -1 ∧ (¬ ∃ v9, zNu fb ln.toInt x_3.toInt (0 : Int32).toInt (999 : Int32).toInt v9) ∧ x_3 = ft2_173 ∧ x_2 = kd2_170 ∧ x_3 = bg2_171 ∧ x_4 = nx2_172) := hq175
                    have hP : va_P g.1 vwCl (List.flatten [bLT g lt ta lo, bLaw g lo lc x_5 ll lm lg ld fc_6, bTape g ta ab sz ln kd2_170 bg2_171 nx2_172 ft2_173 fb]) H := hP
                    have hD : va_D A (List.flatten [bLT g lt ta lo, bLaw g lo lc x_5 ll lm lg ld fc_6, bTape g ta ab sz ln kd2_170 bg2_171 nx2_172 ft2_173 fb]) := hD
                    refine W.widen (k := 0) (n := 0) (Nat.le_of_ble_eq_true rfl) (Nat.le_of_ble_eq_true rfl) ?_
                    refine W.eq (g2 := F0 m 125 ls [.int q_174]) rfl ?_
                    obtain ⟨hq175_0, hq175_1, hq175_2, hq175_3, hq175_4, hq175_5⟩ := hq175
                    rcases hq175_5 with ⟨hq175_k, hq175_km, rfl⟩ | ⟨rfl, hq175_k, rfl, rfl, rfl, rfl⟩
                    · skip
                      have w176 : 0 ≤ q_174.toInt ∧ q_174.toInt ≤ 999 := ⟨(by have h9 := hq175_k.2.2.1; omega), (by have h9 := hq175_k.2.2.2; omega)⟩
                      refine lv_istore_n (lv' := [(3, .int q_174), (2, .int 0), (0, .ref lt), (1, .int x_1)]) hx hb dX2_readSum_125 rfl hl (by decide) rfl (fun ls hl => ?_)
                      refine lv_iload_n hx hb dX2_readSum_126 rfl (lv_at hl 0 rfl) ?_
                      refine lv_iconst (v := (-1)) hx hb dX2_readSum_127 (by decide) ?_
                      refine lv_icmp_ne (tgt := 140) hx hb dX2_readSum_128 (by decide) (fun cb9 => ?_) (fun cb9 => ?_)
                      · skip
                        have c177 : ¬ q_174.toInt = (-1) := zne cb9 rfl (by decide)
                        refine lv_aload_n hx hb dX2_readSum_140 rfl (lv_at hl 2 rfl) ?_
                        refine va_get (D := g.1) (ci := 2) (v := .ref lo) (C := RX2) (T := TX2) (N := 2) hx hb hts izRX2 hown hK hP 0 rfl rfl 1 (by decide) (hts _ k210) (fun _ h9 => h9) rfl dX2_readSum_141 ?_
                        refine lv_iload_n hx hb dX2_readSum_144 rfl (lv_at hl 1 rfl) ?_
                        refine lv_iload_n hx hb dX2_readSum_145 rfl (lv_at hl 0 rfl) ?_
                        refine mcallV' (g := g) (q0 := 0) (ci := 1) (As := [.int 0, .int q_174]) (rest := []) St hK hT hA hP hD hS hl.1 [1] [0, 2] rfl rfl rfl (c_l_putC l g lo lc x_5 ll lm lg ld fc_6 0 q_174 i10 (by first | assumption | omega | decide | exact Or.inl (by decide) | exact Or.inr (by decide))) (cwV 2 hts (zgL (zl4 k297 k298 k299 k85) k202) rfl rfl rfl (by decide +kernel) ⟨Nat.le_of_ble_eq_true rfl, Nat.le_of_ble_eq_true rfl⟩) rfl rfl rfl rfl (Nat.le_of_ble_eq_true rfl) dX2_readSum_146 ⟨(Nat.le_of_ble_eq_true rfl), (Nat.le_of_ble_eq_true rfl)⟩ (fun u_ H locs hq180 hP hD hS => ?_)
                        obtain ⟨lz2_178, fc2_179⟩ := u_
                        replace hq180 : (0 ≤ lz2_178.toInt ∧ lz2_178.toInt ≤ 400) ∧ (lz2_178.toInt = x_5.toInt + 1) ∧ (fc2_179 = upd fc_6 x_5.toInt.toNat (0 + 32 * q_174)) := hq180
                        have hP : va_P g.1 vwCl (List.flatten [bLT g lt ta lo, bTape g ta ab sz ln kd2_170 bg2_171 nx2_172 (-1) fb, bLaw g lo lc lz2_178 ll lm lg ld fc2_179]) H := hP
                        have hD : va_D A (List.flatten [bLT g lt ta lo, bTape g ta ab sz ln kd2_170 bg2_171 nx2_172 (-1) fb, bLaw g lo lc lz2_178 ll lm lg ld fc2_179]) := hD
                        refine W.widen (k := 0) (n := 0) (Nat.le_of_ble_eq_true rfl) (Nat.le_of_ble_eq_true rfl) ?_
                        refine W.eq (g2 := F0 m 149 ls [.int x_5]) rfl ?_
                        obtain ⟨hq180_0, hq180_1, hq180_2⟩ := hq180
                        refine lv_pop hx hb dX2_readSum_149 rfl ?_
                        refine lv_aload_n hx hb dX2_readSum_150 rfl (lv_at hl 2 rfl) ?_
                        refine va_get (D := g.1) (ci := 2) (v := .ref ta) (C := RX2) (T := TX2) (N := 2) hx hb hts izRX2 hown hK hP 0 rfl rfl 0 (by decide) (hts _ k290) (fun x9 h9 => u_same (hts _ k291) x9 h9) rfl dX2_readSum_151 ?_
                        refine lv_bipush (v := 43) hx hb dX2_readSum_154 (by decide) ?_
                        have hL43 : (43 : Int32).toInt = 43 := by decide
                        refine mcallV' (g := g) (q0 := 0) (ci := 6) (As := [.int 43]) (rest := []) St hK hT hA hP hD hS hl.1 [1] [0, 2] rfl rfl rfl (c_t_takeSignF l g ta ab sz ln kd2_170 bg2_171 nx2_172 (-1) fb 43 hln hq175_1 hq175_2 hq175_3 hq175_4) (cwV 1 hts (zgL (zl4 k300 k301 k302 k277) k286) rfl rfl rfl (by decide +kernel) ⟨Nat.le_of_ble_eq_true rfl, Nat.le_of_ble_eq_true rfl⟩) rfl rfl rfl rfl (Nat.le_of_ble_eq_true rfl) dX2_readSum_156 ⟨(Nat.le_of_ble_eq_true rfl), (Nat.le_of_ble_eq_true rfl)⟩ (fun u_ H locs hq185 hP hD hS => ?_)
                        obtain ⟨kd2_181, bg2_182, nx2_183, q_184⟩ := u_
                        replace hq185 : (0 ≤ nx2_183.toInt ∧ nx2_183.toInt ≤ 400) ∧ (0 ≤ bg2_182.toInt ∧ bg2_182.toInt ≤ 400) ∧ (zKd kd2_181.toInt bg2_182.toInt nx2_183.toInt) ∧ (zTk fb ln.toInt kd2_181.toInt bg2_182.toInt nx2_183.toInt) ∧ (q_184 = 1 ∧ zisS fb ln.toInt bg2_171.toInt (43 : Int32).toInt ∧ zMv fb ln.toInt bg2_171.toInt bg2_182.toInt ∨ q_184 = 0 ∧ ¬ zisS fb ln.toInt bg2_171.toInt (43 : Int32).toInt ∧ kd2_170 = kd2_181 ∧ bg2_171 = bg2_182 ∧ nx2_172 = nx2_183) := hq185
                        have hP : va_P g.1 vwCl (List.flatten [bLT g lt ta lo, bLaw g lo lc lz2_178 ll lm lg ld fc2_179, bTape g ta ab sz ln kd2_181 bg2_182 nx2_183 (-1) fb]) H := hP
                        have hD : va_D A (List.flatten [bLT g lt ta lo, bLaw g lo lc lz2_178 ll lm lg ld fc2_179, bTape g ta ab sz ln kd2_181 bg2_182 nx2_183 (-1) fb]) := hD
                        refine W.widen (k := 0) (n := 0) (Nat.le_of_ble_eq_true rfl) (Nat.le_of_ble_eq_true rfl) ?_
                        refine W.eq (g2 := F0 m 159 ls [.int q_184]) rfl ?_
                        obtain ⟨hq185_0, hq185_1, hq185_2, hq185_3, hq185_4⟩ := hq185
                        rcases hq185_4 with ⟨rfl, hq185_k, hq185_km⟩ | ⟨rfl, hq185_k, rfl, rfl, rfl⟩
                        · skip
                          refine lv_if_ne (tgt := 164) hx hb dX2_readSum_159 (by decide) (fun _ => ?_) (fun c186 => absurd c186 (by decide))
                          have w187 : x_3.toInt < bg2_171.toInt := zMv_lt (f := fb) (n := ln.toInt) (by omega) (zPt_z (Or.inr ⟨_, hq175_k⟩)) hq175_km
                          have w188 : bg2_171.toInt < bg2_182.toInt := zMv_lt (f := fb) (n := ln.toInt) (by omega) (zisS_z hq185_k) hq185_km
                          have w189 : ∀ r9, zSum fb ln.toInt bg2_182.toInt r9 → zSum fb ln.toInt bg.toInt r9 := fun r9 h9 => i14 r9 (zSum_more (by decide) (Or.inr ⟨_, hq175_k⟩) hq175_km hq185_k hq185_km h9)
                          have w190 : zSD fb ln.toInt bg.toInt bg2_182.toInt fc fc2_179 lz.toInt lz2_178.toInt := zSD_plus (by omega) i15 (zPC_n hq175_k rfl) hq180_2 hq180_1 hq175_km hq185_k (by decide) hq185_km (by omega) (by omega)
                          refine ziinc3 (n' := 1) (a' := 1) (b' := 400) (lv' := fun v9 => [(1, .int v9), (3, .int q_174), (2, .int 0), (0, .ref lt)]) hx hb dX2_readSum_164 hl (k := 3) rfl (by decide) (fun _ => rfl) (zaddK (i := x_1.toInt) (j := 1) rfl (by decide) i7.1 n23 (Int.le_refl _) (Int.le_refl _) (by decide)) (fun x_191 ls hx_191 hl => ?_)
                          refine lv_goto (tgt := 2) hx hb dX2_readSum_167 (by decide) ?_
                          have hl := lv_sub (l' := [(0, .ref lt), (1, .int x_191), (2, .int 0), (3, .int q_174)]) hl [3, 0, 2, 1] rfl
                          have hP : va_P g.1 vwCl (List.flatten [bLT g lt ta lo, bLaw g lo lc lz2_178 ll lm lg ld fc2_179, bTape g ta ab sz ln kd2_181 bg2_182 nx2_183 (-1) fb]) H := hP
                          have hD : va_D A (List.flatten [bLT g lt ta lo, bLaw g lo lc lz2_178 ll lm lg ld fc2_179, bTape g ta ab sz ln kd2_181 bg2_182 nx2_183 (-1) fb]) := hD
                          obtain ⟨hP, hD⟩ := zord (g := g) (Bs' := [bLT g lt ta lo, bTape g ta ab sz ln kd2_181 bg2_182 nx2_183 (-1) fb, bLaw g lo lc lz2_178 ll lm lg ld fc2_179]) [0, 2, 1] rfl rfl hP hD
                          have hP : va_P g.1 vwCl (List.flatten [bLT g lt ta lo, bTape g ta ab sz ln kd2_181 bg2_182 nx2_183 (-1) fb, bLaw g lo lc lz2_178 ll lm lg ld fc2_179]) H := hP
                          have hD : va_D A (List.flatten [bLT g lt ta lo, bTape g ta ab sz ln kd2_181 bg2_182 nx2_183 (-1) fb, bLaw g lo lc lz2_178 ll lm lg ld fc2_179]) := hD
                          exact ih2_17 x_191 kd2_181 bg2_182 nx2_183 lz2_178 fc2_179 ⟨(Int.le_trans (by decide) hx_191.2.1), hx_191.2.2⟩ ⟨hq185_1.1, hq185_1.2⟩ ⟨hq185_0.1, hq185_0.2⟩ ⟨hq180_0.1, hq180_0.2⟩ hq185_2 hq185_3 (by first | omega | assumption | decide) w189 w190 H _ ls (zmK hx_191.1 (by decide) n23 (by decide) hk2_17)  hP hD hS (lv_sub hl [0, 1] rfl)
                        · skip
                          refine lv_if_ne (tgt := 164) hx hb dX2_readSum_159 (by decide) (fun c192 => absurd (by decide) c192) (fun _ => ?_)
                          refine lv_iconst (v := 1) hx hb dX2_readSum_162 (by decide) ?_
                          have hP : va_P g.1 vwCl (List.flatten [bLT g lt ta lo, bLaw g lo lc lz2_178 ll lm lg ld fc2_179, bTape g ta ab sz ln kd2_170 bg2_171 nx2_172 (-1) fb]) H := hP
                          have hD : va_D A (List.flatten [bLT g lt ta lo, bLaw g lo lc lz2_178 ll lm lg ld fc2_179, bTape g ta ab sz ln kd2_170 bg2_171 nx2_172 (-1) fb]) := hD
                          obtain ⟨hP, hD⟩ := zord (g := g) (Bs' := [bLT g lt ta lo, bTape g ta ab sz ln kd2_170 bg2_171 nx2_172 (-1) fb, bLaw g lo lc lz2_178 ll lm lg ld fc2_179]) [0, 2, 1] rfl rfl hP hD
                          exact mret_z hx hb hr hlocks hS (Nat.le_of_ble_eq_true rfl) (Nat.le_of_ble_eq_true rfl) dX2_readSum_163 (kd2_170, bg2_171, nx2_172, -1, lz2_178, fc2_179, (1 : Int32)) rfl (by decide) (show (0 ≤ lz2_178.toInt ∧ lz2_178.toInt ≤ 400) ∧ (-1 ≤ ((-1) : Int32).toInt) ∧ (0 ≤ nx2_172.toInt ∧ nx2_172.toInt ≤ 400) ∧ (0 ≤ bg2_171.toInt ∧ bg2_171.toInt ≤ 400) ∧ (zKd kd2_170.toInt bg2_171.toInt nx2_172.toInt) ∧ (zTk fb ln.toInt kd2_170.toInt bg2_171.toInt nx2_172.toInt) ∧ (1 = 1 ∧ zSum fb ln.toInt bg.toInt (.ok bg2_171.toInt) ∧ (-1) = (-1) ∧ zSC fb ln.toInt bg.toInt bg2_171.toInt fc fc2_179 lz.toInt lz2_178.toInt ∨ 1 = 0 ∧ zSum fb ln.toInt bg.toInt (.bad ((-1) : Int32).toInt)) from ⟨(by first | assumption | omega | exact Or.inl (by decide) | exact Or.inr (by omega)), (by decide), (by first | assumption | omega | exact Or.inl (by decide) | exact Or.inr (by omega)), (by first | assumption | omega | exact Or.inl (by decide) | exact Or.inr (by omega)), (by first | assumption | omega | exact Or.inl (by decide) | exact Or.inr (by omega)), (by assumption), (Or.inl ⟨rfl, i14 _ (zSum_one (by decide) (Or.inr ⟨_, hq175_k⟩) hq175_km hq185_k), rfl, (zSD_end (by omega) i15 (zPC_n hq175_k rfl) hq180_2 hq180_1 hq175_km hq185_k (by decide) (zMv_lt (f := fb) (n := ln.toInt) (by omega) (zPt_z (Or.inr ⟨_, hq175_k⟩)) hq175_km))⟩)⟩) hP hD
                      · skip
                        exact absurd (show q_174.toInt = (-1) from zeq cb9 rfl (by decide)) (zDeq2 (a := 0) (b := (-1)) w176.1 (Int.le_refl _) (by decide))
                    · skip
                      refine lv_istore_n (lv' := [(3, .int (-1)), (2, .int 0), (0, .ref lt), (1, .int x_1)]) hx hb dX2_readSum_125 rfl hl (by decide) rfl (fun ls hl => ?_)
                      refine lv_iload_n hx hb dX2_readSum_126 rfl (lv_at hl 0 rfl) ?_
                      refine lv_iconst (v := (-1)) hx hb dX2_readSum_127 (by decide) ?_
                      refine lv_icmp_ne (tgt := 140) hx hb dX2_readSum_128 (by decide) (fun c194 => absurd (by decide) c194) (fun _ => ?_)
                      refine lv_iconst (v := 0) hx hb dX2_readSum_131 (by decide) ?_
                      have hP : va_P g.1 vwCl (List.flatten [bLT g lt ta lo, bLaw g lo lc x_5 ll lm lg ld fc_6, bTape g ta ab sz ln x_2 x_3 x_4 x_3 fb]) H := hP
                      have hD : va_D A (List.flatten [bLT g lt ta lo, bLaw g lo lc x_5 ll lm lg ld fc_6, bTape g ta ab sz ln x_2 x_3 x_4 x_3 fb]) := hD
                      obtain ⟨hP, hD⟩ := zord (g := g) (Bs' := [bLT g lt ta lo, bTape g ta ab sz ln x_2 x_3 x_4 x_3 fb, bLaw g lo lc x_5 ll lm lg ld fc_6]) [0, 2, 1] rfl rfl hP hD
                      exact mret_z hx hb hr hlocks hS (Nat.le_of_ble_eq_true rfl) (Nat.le_of_ble_eq_true rfl) dX2_readSum_132 (x_2, x_3, x_4, x_3, x_5, fc_6, (0 : Int32)) rfl (by decide) (show (0 ≤ x_5.toInt ∧ x_5.toInt ≤ 400) ∧ (-1 ≤ x_3.toInt) ∧ (0 ≤ x_4.toInt ∧ x_4.toInt ≤ 400) ∧ (0 ≤ x_3.toInt ∧ x_3.toInt ≤ 400) ∧ (zKd x_2.toInt x_3.toInt x_4.toInt) ∧ (zTk fb ln.toInt x_2.toInt x_3.toInt x_4.toInt) ∧ (0 = 1 ∧ zSum fb ln.toInt bg.toInt (.ok x_3.toInt) ∧ (-1) = x_3 ∧ zSC fb ln.toInt bg.toInt x_3.toInt fc fc_6 lz.toInt x_5.toInt ∨ 0 = 0 ∧ zSum fb ln.toInt bg.toInt (.bad x_3.toInt)) from ⟨(by first | assumption | omega | exact Or.inl (by decide) | exact Or.inr (by omega)), (by first | decide | omega), (by first | assumption | omega | exact Or.inl (by decide) | exact Or.inr (by omega)), (by first | assumption | omega | exact Or.inl (by decide) | exact Or.inr (by omega)), (by first | assumption | omega | exact Or.inl (by decide) | exact Or.inr (by omega)), (by assumption), (Or.inr ⟨rfl, i14 _ (.wrong (zPt_n hq26_k hq50_k hq74_k hq98_k hq122_k hq146_k hq175_k))⟩)⟩) hP hD
  have hL0 : (0 : Int32).toInt = 0 := by decide
  have hP : va_P g.1 vwCl (List.flatten [bLT g lt ta lo, bTape g ta ab sz ln kd bg nx (-1) fb, bLaw g lo lc lz ll lm lg ld fc]) s.heap := hP
  have hD : va_D A (List.flatten [bLT g lt ta lo, bTape g ta ab sz ln kd bg nx (-1) fb, bLaw g lo lc lz ll lm lg ld fc]) := hD
  exact LP2_16 _ 0 kd bg nx lz fc (by decide) ⟨hbg.1, hbg.2⟩ ⟨hnx.1, hnx.2⟩ ⟨b_lz.1, b_lz.2⟩ hkd hTk (by first | omega | assumption | decide) (fun _ h9 => h9) (zSD_0 _ _ _ _ _) s.heap _ ls (Nat.lt_succ_self _)  hP hD hS (lv_sub hl [0, 1] rfl)
set_option maxRecDepth 100000 in
set_option maxHeartbeats 4000000 in
theorem c_lt_readAtom6C (l : Launch) (g : zG) (lt : Nat) (ta : Nat) (lo : Nat) (ab : Nat) (sz : Int32) (ln : Int32) (kd : Int32) (bg : Int32) (nx : Int32) (fb : Nat → Int32) (lc : Nat) (lz : Int32) (ll : Int32) (lm : Int32) (lg : Int32) (ld : Int32) (fc : Nat → Int32) (b_lz : 0 ≤ lz.toInt ∧ lz.toInt ≤ 400) (hln : 0 ≤ ln.toInt ∧ ln.toInt ≤ 400) (hnx : 0 ≤ nx.toInt ∧ nx.toInt ≤ 400) (hbg : 0 ≤ bg.toInt ∧ bg.toInt ≤ 400) (hkd : zKd kd.toInt bg.toInt nx.toInt) (hTk : zTk fb ln.toInt kd.toInt bg.toInt nx.toInt) (hlb : lz.toInt + 2 ≤ bg.toInt) : zM' g l yX2_readAtom (Cond.code yX2_readAtom cX2_readAtom 3 (some .boolean) :: zB) ({ frames := 6, cells := 0, slots := 0, locals := 130 } : Room) [.ref lt, .int 6] [bLT g lt ta lo, bTape g ta ab sz ln kd bg nx (-1) fb, bLaw g lo lc lz ll lm lg ld fc] (fun u : Int32 × Int32 × Int32 × Int32 × Int32 × (Nat → Int32) × Int32 => (fun (kd2 : Int32) (bg2 : Int32) (nx2 : Int32) (ft2 : Int32) (lz2 : Int32) (fc2 : Nat → Int32) (q : Int32) => some (.int q)) (u.1) (u.2.1) (u.2.2.1) (u.2.2.2.1) (u.2.2.2.2.1) (u.2.2.2.2.2.1) (u.2.2.2.2.2.2)) (fun u : Int32 × Int32 × Int32 × Int32 × Int32 × (Nat → Int32) × Int32 => (fun (kd2 : Int32) (bg2 : Int32) (nx2 : Int32) (ft2 : Int32) (lz2 : Int32) (fc2 : Nat → Int32) (q : Int32) => (0 ≤ lz2.toInt ∧ lz2.toInt ≤ 400) ∧ (-1 ≤ ft2.toInt) ∧ (0 ≤ nx2.toInt ∧ nx2.toInt ≤ 400) ∧ (0 ≤ bg2.toInt ∧ bg2.toInt ≤ 400) ∧ (zKd kd2.toInt bg2.toInt nx2.toInt) ∧ (zTk fb ln.toInt kd2.toInt bg2.toInt nx2.toInt) ∧ (q = 1 ∧ zAtom fb ln.toInt 0 bg.toInt (.ok bg2.toInt) ∧ (-1) = ft2 ∧ zAC (fun e9 v9 => zAv fb ln.toInt e9 0 bg.toInt bg2.toInt v9) bg.toInt bg2.toInt fc fc2 lz.toInt lz2.toInt ∨ q = 0 ∧ zAtom fb ln.toInt 0 bg.toInt (.bad ft2.toInt))) (u.1) (u.2.1) (u.2.2.1) (u.2.2.2.1) (u.2.2.2.2.1) (u.2.2.2.2.2.1) (u.2.2.2.2.2.2)) (fun u : Int32 × Int32 × Int32 × Int32 × Int32 × (Nat → Int32) × Int32 => (fun (kd2 : Int32) (bg2 : Int32) (nx2 : Int32) (ft2 : Int32) (lz2 : Int32) (fc2 : Nat → Int32) (q : Int32) => [bLT g lt ta lo, bTape g ta ab sz ln kd2 bg2 nx2 ft2 fb, bLaw g lo lc lz2 ll lm lg ld fc2]) (u.1) (u.2.1) (u.2.2.1) (u.2.2.2.1) (u.2.2.2.2.1) (u.2.2.2.2.2.1) (u.2.2.2.2.2.2)) := by
  refine zM'.of (cc := cX2_readAtom) (maxL := 3) (rt := (some .boolean)) (by decide) rfl (Nat.le_of_ble_eq_true rfl) ?_
  intro p e s m args below meth c A ls St hr hlocks hin hK hT hA hP hD hS hl
  obtain ⟨hx, hb, hml, hown, hts⟩ := id St
  have hl : lv_has ls 3 [(0, .ref lt), (1, .int 6)] := hl
  refine lv_aload_n hx hb dX2_readAtom_0 rfl (lv_at hl 0 rfl) ?_
  refine va_get (D := g.1) (ci := 2) (v := .ref ta) (C := RX2) (T := TX2) (N := 2) hx hb hts izRX2 hown hK hP 0 rfl rfl 0 (by decide) (hts _ k290) (fun x9 h9 => u_same (hts _ k291) x9 h9) rfl dX2_readAtom_1 ?_
  refine va_ldcS (q := g.2 20) hx hb hown (zra5 hT.2.1) dX2_readAtom_4 ?_
  refine mcallV' (g := g) (q0 := 0) (ci := 6) (As := [.ref (g.2 20)]) (rest := []) St hK hT hA hP hD hS hl.1 [1] [0, 2] rfl rfl rfl (c_t_isWordF l g ta ab sz ln kd bg nx (-1) fb (g.2 20) 5 zqa5 hln hnx hbg hkd hTk rfl zla5 zna5 (zlitB zla5)) (cwV 1 hts (zgL (zl4 k292 k282 k283 k277) k268) rfl rfl rfl (by decide +kernel) ⟨Nat.le_of_ble_eq_true rfl, Nat.le_of_ble_eq_true rfl⟩) rfl rfl rfl rfl (Nat.le_of_ble_eq_true rfl) dX2_readAtom_6 ⟨(Nat.le_of_ble_eq_true rfl), (Nat.le_of_ble_eq_true rfl)⟩ (fun r_1 H locs hq2 hP hD hS => ?_)
  replace hq2 : (r_1 = 1 ∧ zisW fb ln.toInt bg.toInt zqa5.2.2.2 ∨ r_1 = 0 ∧ ¬ zisW fb ln.toInt bg.toInt zqa5.2.2.2) := hq2
  have hP : va_P g.1 vwCl (List.flatten [bLT g lt ta lo, bLaw g lo lc lz ll lm lg ld fc, bTape g ta ab sz ln kd bg nx (-1) fb]) H := hP
  have hD : va_D A (List.flatten [bLT g lt ta lo, bLaw g lo lc lz ll lm lg ld fc, bTape g ta ab sz ln kd bg nx (-1) fb]) := hD
  refine W.widen (k := 0) (n := 0) (Nat.le_of_ble_eq_true rfl) (Nat.le_of_ble_eq_true rfl) ?_
  refine W.eq (g2 := F0 m 9 ls [.int r_1]) rfl ?_
  rcases hq2 with ⟨rfl, hq2_k⟩ | ⟨rfl, hq2_k⟩
  · skip
    refine lv_if_ne (tgt := 24) hx hb dX2_readAtom_9 (by decide) (fun _ => ?_) (fun c3 => absurd c3 (by decide))
    have w4 : zDeep fb ln.toInt bg.toInt := (Or.inl hq2_k)
    refine lv_iload_n hx hb dX2_readAtom_24 rfl (lv_at hl 1 rfl) ?_
    refine lv_bipush (v := 6) hx hb dX2_readAtom_25 (by decide) ?_
    refine lv_icmp_ge (tgt := 40) hx hb dX2_readAtom_27 (by decide) (fun _ => ?_) (fun c5 => absurd (by decide) c5)
    refine lv_aload_n hx hb dX2_readAtom_40 rfl (lv_at hl 0 rfl) ?_
    refine va_get (D := g.1) (ci := 2) (v := .ref ta) (C := RX2) (T := TX2) (N := 2) hx hb hts izRX2 hown hK hP 0 rfl rfl 0 (by decide) (hts _ k290) (fun x9 h9 => u_same (hts _ k291) x9 h9) rfl dX2_readAtom_41 ?_
    refine mcallV' (g := g) (q0 := 0) (ci := 6) (As := []) (rest := []) St hK hT hA hP hD hS hl.1 [2] [0, 1] rfl rfl rfl (c_t_refuseF l g ta ab sz ln kd bg nx fb ) (cwV 0 hts (zgL (zl4 k303 k279 k280 k277) k269) rfl rfl rfl (by decide +kernel) ⟨Nat.le_of_ble_eq_true rfl, Nat.le_of_ble_eq_true rfl⟩) rfl rfl rfl rfl (Nat.le_of_ble_eq_true rfl) dX2_readAtom_44 ⟨(Nat.le_of_ble_eq_true rfl), (Nat.le_of_ble_eq_true rfl)⟩ (fun _u H locs hq6 hP hD hS => ?_)
    have hP : va_P g.1 vwCl (List.flatten [bLT g lt ta lo, bLaw g lo lc lz ll lm lg ld fc, bTape g ta ab sz ln kd bg nx bg fb]) H := hP
    have hD : va_D A (List.flatten [bLT g lt ta lo, bLaw g lo lc lz ll lm lg ld fc, bTape g ta ab sz ln kd bg nx bg fb]) := hD
    refine W.widen (k := 0) (n := 0) (Nat.le_of_ble_eq_true rfl) (Nat.le_of_ble_eq_true rfl) ?_
    refine W.eq (g2 := F0 m 47 ls [.int 0]) rfl ?_
    have hP : va_P g.1 vwCl (List.flatten [bLT g lt ta lo, bLaw g lo lc lz ll lm lg ld fc, bTape g ta ab sz ln kd bg nx bg fb]) H := hP
    have hD : va_D A (List.flatten [bLT g lt ta lo, bLaw g lo lc lz ll lm lg ld fc, bTape g ta ab sz ln kd bg nx bg fb]) := hD
    obtain ⟨hP, hD⟩ := zord (g := g) (Bs' := [bLT g lt ta lo, bTape g ta ab sz ln kd bg nx bg fb, bLaw g lo lc lz ll lm lg ld fc]) [0, 2, 1] rfl rfl hP hD
    exact mret_z hx hb hr hlocks hS (Nat.le_of_ble_eq_true rfl) (Nat.le_of_ble_eq_true rfl) dX2_readAtom_47 (kd, bg, nx, bg, lz, fc, (0 : Int32)) rfl (by decide) (show (0 ≤ lz.toInt ∧ lz.toInt ≤ 400) ∧ (-1 ≤ bg.toInt) ∧ (0 ≤ nx.toInt ∧ nx.toInt ≤ 400) ∧ (0 ≤ bg.toInt ∧ bg.toInt ≤ 400) ∧ (zKd kd.toInt bg.toInt nx.toInt) ∧ (zTk fb ln.toInt kd.toInt bg.toInt nx.toInt) ∧ (0 = 1 ∧ zAtom fb ln.toInt 0 bg.toInt (.ok bg.toInt) ∧ (-1) = bg ∧ zAC (fun e9 v9 => zAv fb ln.toInt e9 0 bg.toInt bg.toInt v9) bg.toInt bg.toInt fc fc lz.toInt lz.toInt ∨ 0 = 0 ∧ zAtom fb ln.toInt 0 bg.toInt (.bad bg.toInt)) from ⟨(by first | assumption | omega | exact Or.inl (by decide) | exact Or.inr (by omega)), (by first | decide | omega), (by first | assumption | omega | exact Or.inl (by decide) | exact Or.inr (by omega)), (by first | assumption | omega | exact Or.inl (by decide) | exact Or.inr (by omega)), (by first | assumption | omega | exact Or.inl (by decide) | exact Or.inr (by omega)), (by assumption), (Or.inr ⟨rfl, zAt_0 (Or.inl hq2_k)⟩)⟩) hP hD
  · skip
    refine lv_if_ne (tgt := 24) hx hb dX2_readAtom_9 (by decide) (fun c7 => absurd (by decide) c7) (fun _ => ?_)
    refine lv_aload_n hx hb dX2_readAtom_12 rfl (lv_at hl 0 rfl) ?_
    refine va_get (D := g.1) (ci := 2) (v := .ref ta) (C := RX2) (T := TX2) (N := 2) hx hb hts izRX2 hown hK hP 0 rfl rfl 0 (by decide) (hts _ k290) (fun x9 h9 => u_same (hts _ k291) x9 h9) rfl dX2_readAtom_13 ?_
    refine lv_bipush (v := 40) hx hb dX2_readAtom_16 (by decide) ?_
    have hL40 : (40 : Int32).toInt = 40 := by decide
    refine mcallV' (g := g) (q0 := 0) (ci := 6) (As := [.int 40]) (rest := []) St hK hT hA hP hD hS hl.1 [2] [0, 1] rfl rfl rfl (c_t_isSignF l g ta ab sz ln kd bg nx (-1) fb 40 hln hnx hbg hkd hTk) (cwV 1 hts (zgL (zl4 k305 k288 k289 k277) k285) rfl rfl rfl (by decide +kernel) ⟨Nat.le_of_ble_eq_true rfl, Nat.le_of_ble_eq_true rfl⟩) rfl rfl rfl rfl (Nat.le_of_ble_eq_true rfl) dX2_readAtom_18 ⟨(Nat.le_of_ble_eq_true rfl), (Nat.le_of_ble_eq_true rfl)⟩ (fun q_8 H locs hq9 hP hD hS => ?_)
    replace hq9 : (q_8 = 1 ∧ zisS fb ln.toInt bg.toInt (40 : Int32).toInt ∨ q_8 = 0 ∧ ¬ zisS fb ln.toInt bg.toInt (40 : Int32).toInt) := hq9
    have hP : va_P g.1 vwCl (List.flatten [bLT g lt ta lo, bLaw g lo lc lz ll lm lg ld fc, bTape g ta ab sz ln kd bg nx (-1) fb]) H := hP
    have hD : va_D A (List.flatten [bLT g lt ta lo, bLaw g lo lc lz ll lm lg ld fc, bTape g ta ab sz ln kd bg nx (-1) fb]) := hD
    refine W.widen (k := 0) (n := 0) (Nat.le_of_ble_eq_true rfl) (Nat.le_of_ble_eq_true rfl) ?_
    refine W.eq (g2 := F0 m 21 ls [.int q_8]) rfl ?_
    rcases hq9 with ⟨rfl, hq9_k⟩ | ⟨rfl, hq9_k⟩
    · skip
      refine lv_if_eq (tgt := 48) hx hb dX2_readAtom_21 (by decide) (fun c10 => absurd c10 (by decide)) (fun _ => ?_)
      have w11 : zDeep fb ln.toInt bg.toInt := (Or.inr hq9_k)
      refine lv_iload_n hx hb dX2_readAtom_24 rfl (lv_at hl 1 rfl) ?_
      refine lv_bipush (v := 6) hx hb dX2_readAtom_25 (by decide) ?_
      refine lv_icmp_ge (tgt := 40) hx hb dX2_readAtom_27 (by decide) (fun _ => ?_) (fun c12 => absurd (by decide) c12)
      refine lv_aload_n hx hb dX2_readAtom_40 rfl (lv_at hl 0 rfl) ?_
      refine va_get (D := g.1) (ci := 2) (v := .ref ta) (C := RX2) (T := TX2) (N := 2) hx hb hts izRX2 hown hK hP 0 rfl rfl 0 (by decide) (hts _ k290) (fun x9 h9 => u_same (hts _ k291) x9 h9) rfl dX2_readAtom_41 ?_
      refine mcallV' (g := g) (q0 := 0) (ci := 6) (As := []) (rest := []) St hK hT hA hP hD hS hl.1 [2] [0, 1] rfl rfl rfl (c_t_refuseF l g ta ab sz ln kd bg nx fb ) (cwV 0 hts (zgL (zl4 k303 k279 k280 k277) k269) rfl rfl rfl (by decide +kernel) ⟨Nat.le_of_ble_eq_true rfl, Nat.le_of_ble_eq_true rfl⟩) rfl rfl rfl rfl (Nat.le_of_ble_eq_true rfl) dX2_readAtom_44 ⟨(Nat.le_of_ble_eq_true rfl), (Nat.le_of_ble_eq_true rfl)⟩ (fun _u H locs hq13 hP hD hS => ?_)
      have hP : va_P g.1 vwCl (List.flatten [bLT g lt ta lo, bLaw g lo lc lz ll lm lg ld fc, bTape g ta ab sz ln kd bg nx bg fb]) H := hP
      have hD : va_D A (List.flatten [bLT g lt ta lo, bLaw g lo lc lz ll lm lg ld fc, bTape g ta ab sz ln kd bg nx bg fb]) := hD
      refine W.widen (k := 0) (n := 0) (Nat.le_of_ble_eq_true rfl) (Nat.le_of_ble_eq_true rfl) ?_
      refine W.eq (g2 := F0 m 47 ls [.int 0]) rfl ?_
      have hP : va_P g.1 vwCl (List.flatten [bLT g lt ta lo, bLaw g lo lc lz ll lm lg ld fc, bTape g ta ab sz ln kd bg nx bg fb]) H := hP
      have hD : va_D A (List.flatten [bLT g lt ta lo, bLaw g lo lc lz ll lm lg ld fc, bTape g ta ab sz ln kd bg nx bg fb]) := hD
      obtain ⟨hP, hD⟩ := zord (g := g) (Bs' := [bLT g lt ta lo, bTape g ta ab sz ln kd bg nx bg fb, bLaw g lo lc lz ll lm lg ld fc]) [0, 2, 1] rfl rfl hP hD
      exact mret_z hx hb hr hlocks hS (Nat.le_of_ble_eq_true rfl) (Nat.le_of_ble_eq_true rfl) dX2_readAtom_47 (kd, bg, nx, bg, lz, fc, (0 : Int32)) rfl (by decide) (show (0 ≤ lz.toInt ∧ lz.toInt ≤ 400) ∧ (-1 ≤ bg.toInt) ∧ (0 ≤ nx.toInt ∧ nx.toInt ≤ 400) ∧ (0 ≤ bg.toInt ∧ bg.toInt ≤ 400) ∧ (zKd kd.toInt bg.toInt nx.toInt) ∧ (zTk fb ln.toInt kd.toInt bg.toInt nx.toInt) ∧ (0 = 1 ∧ zAtom fb ln.toInt 0 bg.toInt (.ok bg.toInt) ∧ (-1) = bg ∧ zAC (fun e9 v9 => zAv fb ln.toInt e9 0 bg.toInt bg.toInt v9) bg.toInt bg.toInt fc fc lz.toInt lz.toInt ∨ 0 = 0 ∧ zAtom fb ln.toInt 0 bg.toInt (.bad bg.toInt)) from ⟨(by first | assumption | omega | exact Or.inl (by decide) | exact Or.inr (by omega)), (by first | decide | omega), (by first | assumption | omega | exact Or.inl (by decide) | exact Or.inr (by omega)), (by first | assumption | omega | exact Or.inl (by decide) | exact Or.inr (by omega)), (by first | assumption | omega | exact Or.inl (by decide) | exact Or.inr (by omega)), (by assumption), (Or.inr ⟨rfl, zAt_0 (Or.inr hq9_k)⟩)⟩) hP hD
    · skip
      refine lv_if_eq (tgt := 48) hx hb dX2_readAtom_21 (by decide) (fun _ => ?_) (fun c14 => absurd (by decide) c14)
      refine lv_aload_n hx hb dX2_readAtom_48 rfl (lv_at hl 0 rfl) ?_
      refine va_get (D := g.1) (ci := 2) (v := .ref ta) (C := RX2) (T := TX2) (N := 2) hx hb hts izRX2 hown hK hP 0 rfl rfl 0 (by decide) (hts _ k290) (fun x9 h9 => u_same (hts _ k291) x9 h9) rfl dX2_readAtom_49 ?_
      refine va_ldcS (q := g.2 22) hx hb hown (zra6 hT.2.1) dX2_readAtom_52 ?_
      refine mcallV' (g := g) (q0 := 0) (ci := 6) (As := [.ref (g.2 22)]) (rest := []) St hK hT hA hP hD hS hl.1 [2] [0, 1] rfl rfl rfl (c_t_takeWordF l g ta ab sz ln kd bg nx (-1) fb (g.2 22) 6 zqa6 hln hnx hbg hkd hTk rfl zla6 zna6 (zlitB zla6)) (cwV 1 hts (zgL (zl4 k310 k311 k312 k277) k284) rfl rfl rfl (by decide +kernel) ⟨Nat.le_of_ble_eq_true rfl, Nat.le_of_ble_eq_true rfl⟩) rfl rfl rfl rfl (Nat.le_of_ble_eq_true rfl) dX2_readAtom_54 ⟨(Nat.le_of_ble_eq_true rfl), (Nat.le_of_ble_eq_true rfl)⟩ (fun u_ H locs hq19 hP hD hS => ?_)
      obtain ⟨kd2_15, bg2_16, nx2_17, r_18⟩ := u_
      replace hq19 : (0 ≤ nx2_17.toInt ∧ nx2_17.toInt ≤ 400) ∧ (0 ≤ bg2_16.toInt ∧ bg2_16.toInt ≤ 400) ∧ (zKd kd2_15.toInt bg2_16.toInt nx2_17.toInt) ∧ (zTk fb ln.toInt kd2_15.toInt bg2_16.toInt nx2_17.toInt) ∧ (r_18 = 1 ∧ zisW fb ln.toInt bg.toInt zqa6.2.2.2 ∧ zMv fb ln.toInt bg.toInt bg2_16.toInt ∨ r_18 = 0 ∧ ¬ zisW fb ln.toInt bg.toInt zqa6.2.2.2 ∧ kd = kd2_15 ∧ bg = bg2_16 ∧ nx = nx2_17) := hq19
      have hP : va_P g.1 vwCl (List.flatten [bLT g lt ta lo, bLaw g lo lc lz ll lm lg ld fc, bTape g ta ab sz ln kd2_15 bg2_16 nx2_17 (-1) fb]) H := hP
      have hD : va_D A (List.flatten [bLT g lt ta lo, bLaw g lo lc lz ll lm lg ld fc, bTape g ta ab sz ln kd2_15 bg2_16 nx2_17 (-1) fb]) := hD
      refine W.widen (k := 0) (n := 0) (Nat.le_of_ble_eq_true rfl) (Nat.le_of_ble_eq_true rfl) ?_
      refine W.eq (g2 := F0 m 57 ls [.int r_18]) rfl ?_
      obtain ⟨hq19_0, hq19_1, hq19_2, hq19_3, hq19_4⟩ := hq19
      rcases hq19_4 with ⟨rfl, hq19_k, hq19_km⟩ | ⟨rfl, hq19_k, rfl, rfl, rfl⟩
      · skip
        refine lv_if_eq (tgt := 73) hx hb dX2_readAtom_57 (by decide) (fun c20 => absurd c20 (by decide)) (fun _ => ?_)
        have w21 := zMv_lt (f := fb) (n := ln.toInt) (by omega) (zisW_z hq19_k) hq19_km
        refine lv_aload_n hx hb dX2_readAtom_60 rfl (lv_at hl 0 rfl) ?_
        refine va_get (D := g.1) (ci := 2) (v := .ref lo) (C := RX2) (T := TX2) (N := 2) hx hb hts izRX2 hown hK hP 0 rfl rfl 1 (by decide) (hts _ k210) (fun _ h9 => h9) rfl dX2_readAtom_61 ?_
        refine lv_bipush (v := 10) hx hb dX2_readAtom_64 (by decide) ?_
        refine lv_iconst (v := 0) hx hb dX2_readAtom_66 (by decide) ?_
        refine mcallV' (g := g) (q0 := 0) (ci := 1) (As := [.int 10, .int 0]) (rest := []) St hK hT hA hP hD hS hl.1 [1] [0, 2] rfl rfl rfl (c_l_putC l g lo lc lz ll lm lg ld fc 10 0 b_lz (by first | assumption | omega | decide | exact Or.inl (by decide) | exact Or.inr (by decide))) (cwV 2 hts (zgL (zl4 k297 k298 k299 k85) k202) rfl rfl rfl (by decide +kernel) ⟨Nat.le_of_ble_eq_true rfl, Nat.le_of_ble_eq_true rfl⟩) rfl rfl rfl rfl (Nat.le_of_ble_eq_true rfl) dX2_readAtom_67 ⟨(Nat.le_of_ble_eq_true rfl), (Nat.le_of_ble_eq_true rfl)⟩ (fun u_ H locs hq24 hP hD hS => ?_)
        obtain ⟨lz2_22, fc2_23⟩ := u_
        replace hq24 : (0 ≤ lz2_22.toInt ∧ lz2_22.toInt ≤ 400) ∧ (lz2_22.toInt = lz.toInt + 1) ∧ (fc2_23 = upd fc lz.toInt.toNat (10 + 32 * 0)) := hq24
        have hP : va_P g.1 vwCl (List.flatten [bLT g lt ta lo, bTape g ta ab sz ln kd2_15 bg2_16 nx2_17 (-1) fb, bLaw g lo lc lz2_22 ll lm lg ld fc2_23]) H := hP
        have hD : va_D A (List.flatten [bLT g lt ta lo, bTape g ta ab sz ln kd2_15 bg2_16 nx2_17 (-1) fb, bLaw g lo lc lz2_22 ll lm lg ld fc2_23]) := hD
        refine W.widen (k := 0) (n := 0) (Nat.le_of_ble_eq_true rfl) (Nat.le_of_ble_eq_true rfl) ?_
        refine W.eq (g2 := F0 m 70 ls [.int lz]) rfl ?_
        obtain ⟨hq24_0, hq24_1, hq24_2⟩ := hq24
        refine lv_pop hx hb dX2_readAtom_70 rfl ?_
        refine lv_iconst (v := 1) hx hb dX2_readAtom_71 (by decide) ?_
        have hP : va_P g.1 vwCl (List.flatten [bLT g lt ta lo, bTape g ta ab sz ln kd2_15 bg2_16 nx2_17 (-1) fb, bLaw g lo lc lz2_22 ll lm lg ld fc2_23]) H := hP
        have hD : va_D A (List.flatten [bLT g lt ta lo, bTape g ta ab sz ln kd2_15 bg2_16 nx2_17 (-1) fb, bLaw g lo lc lz2_22 ll lm lg ld fc2_23]) := hD
        exact mret_z hx hb hr hlocks hS (Nat.le_of_ble_eq_true rfl) (Nat.le_of_ble_eq_true rfl) dX2_readAtom_72 (kd2_15, bg2_16, nx2_17, -1, lz2_22, fc2_23, (1 : Int32)) rfl (by decide) (show (0 ≤ lz2_22.toInt ∧ lz2_22.toInt ≤ 400) ∧ (-1 ≤ ((-1) : Int32).toInt) ∧ (0 ≤ nx2_17.toInt ∧ nx2_17.toInt ≤ 400) ∧ (0 ≤ bg2_16.toInt ∧ bg2_16.toInt ≤ 400) ∧ (zKd kd2_15.toInt bg2_16.toInt nx2_17.toInt) ∧ (zTk fb ln.toInt kd2_15.toInt bg2_16.toInt nx2_17.toInt) ∧ (1 = 1 ∧ zAtom fb ln.toInt 0 bg.toInt (.ok bg2_16.toInt) ∧ (-1) = (-1) ∧ zAC (fun e9 v9 => zAv fb ln.toInt e9 0 bg.toInt bg2_16.toInt v9) bg.toInt bg2_16.toInt fc fc2_23 lz.toInt lz2_22.toInt ∨ 1 = 0 ∧ zAtom fb ln.toInt 0 bg.toInt (.bad ((-1) : Int32).toInt)) from ⟨(by first | assumption | omega | exact Or.inl (by decide) | exact Or.inr (by omega)), (by decide), (by first | assumption | omega | exact Or.inl (by decide) | exact Or.inr (by omega)), (by first | assumption | omega | exact Or.inl (by decide) | exact Or.inr (by omega)), (by first | assumption | omega | exact Or.inl (by decide) | exact Or.inr (by omega)), (by assumption), (Or.inl ⟨rfl, zAt_pl (zor_n hq2_k hq9_k) (zPl_word (Or.inl hq19_k) hq19_km), rfl, (zAC_word (k := 10) (j := 6) (by omega) (zor_n hq2_k hq9_k) (Or.inl ⟨rfl, rfl, hq19_k⟩) hq19_km (by decide) hq24_2 hq24_1 w21)⟩)⟩) hP hD
      · skip
        refine lv_if_eq (tgt := 73) hx hb dX2_readAtom_57 (by decide) (fun _ => ?_) (fun c25 => absurd (by decide) c25)
        refine lv_aload_n hx hb dX2_readAtom_73 rfl (lv_at hl 0 rfl) ?_
        refine va_get (D := g.1) (ci := 2) (v := .ref ta) (C := RX2) (T := TX2) (N := 2) hx hb hts izRX2 hown hK hP 0 rfl rfl 0 (by decide) (hts _ k290) (fun x9 h9 => u_same (hts _ k291) x9 h9) rfl dX2_readAtom_74 ?_
        refine va_ldcS (q := g.2 24) hx hb hown (zra7 hT.2.1) dX2_readAtom_77 ?_
        refine mcallV' (g := g) (q0 := 0) (ci := 6) (As := [.ref (g.2 24)]) (rest := []) St hK hT hA hP hD hS hl.1 [2] [0, 1] rfl rfl rfl (c_t_takeWordF l g ta ab sz ln kd bg nx (-1) fb (g.2 24) 7 zqa7 hln hnx hbg hkd hTk rfl zla7 zna7 (zlitB zla7)) (cwV 1 hts (zgL (zl4 k310 k311 k312 k277) k284) rfl rfl rfl (by decide +kernel) ⟨Nat.le_of_ble_eq_true rfl, Nat.le_of_ble_eq_true rfl⟩) rfl rfl rfl rfl (Nat.le_of_ble_eq_true rfl) dX2_readAtom_79 ⟨(Nat.le_of_ble_eq_true rfl), (Nat.le_of_ble_eq_true rfl)⟩ (fun u_ H locs hq30 hP hD hS => ?_)
        obtain ⟨kd2_26, bg2_27, nx2_28, r_29⟩ := u_
        replace hq30 : (0 ≤ nx2_28.toInt ∧ nx2_28.toInt ≤ 400) ∧ (0 ≤ bg2_27.toInt ∧ bg2_27.toInt ≤ 400) ∧ (zKd kd2_26.toInt bg2_27.toInt nx2_28.toInt) ∧ (zTk fb ln.toInt kd2_26.toInt bg2_27.toInt nx2_28.toInt) ∧ (r_29 = 1 ∧ zisW fb ln.toInt bg.toInt zqa7.2.2.2 ∧ zMv fb ln.toInt bg.toInt bg2_27.toInt ∨ r_29 = 0 ∧ ¬ zisW fb ln.toInt bg.toInt zqa7.2.2.2 ∧ kd = kd2_26 ∧ bg = bg2_27 ∧ nx = nx2_28) := hq30
        have hP : va_P g.1 vwCl (List.flatten [bLT g lt ta lo, bLaw g lo lc lz ll lm lg ld fc, bTape g ta ab sz ln kd2_26 bg2_27 nx2_28 (-1) fb]) H := hP
        have hD : va_D A (List.flatten [bLT g lt ta lo, bLaw g lo lc lz ll lm lg ld fc, bTape g ta ab sz ln kd2_26 bg2_27 nx2_28 (-1) fb]) := hD
        refine W.widen (k := 0) (n := 0) (Nat.le_of_ble_eq_true rfl) (Nat.le_of_ble_eq_true rfl) ?_
        refine W.eq (g2 := F0 m 82 ls [.int r_29]) rfl ?_
        obtain ⟨hq30_0, hq30_1, hq30_2, hq30_3, hq30_4⟩ := hq30
        rcases hq30_4 with ⟨rfl, hq30_k, hq30_km⟩ | ⟨rfl, hq30_k, rfl, rfl, rfl⟩
        · skip
          refine lv_if_eq (tgt := 98) hx hb dX2_readAtom_82 (by decide) (fun c31 => absurd c31 (by decide)) (fun _ => ?_)
          have w32 := zMv_lt (f := fb) (n := ln.toInt) (by omega) (zisW_z hq30_k) hq30_km
          refine lv_aload_n hx hb dX2_readAtom_85 rfl (lv_at hl 0 rfl) ?_
          refine va_get (D := g.1) (ci := 2) (v := .ref lo) (C := RX2) (T := TX2) (N := 2) hx hb hts izRX2 hown hK hP 0 rfl rfl 1 (by decide) (hts _ k210) (fun _ h9 => h9) rfl dX2_readAtom_86 ?_
          refine lv_bipush (v := 11) hx hb dX2_readAtom_89 (by decide) ?_
          refine lv_iconst (v := 0) hx hb dX2_readAtom_91 (by decide) ?_
          refine mcallV' (g := g) (q0 := 0) (ci := 1) (As := [.int 11, .int 0]) (rest := []) St hK hT hA hP hD hS hl.1 [1] [0, 2] rfl rfl rfl (c_l_putC l g lo lc lz ll lm lg ld fc 11 0 b_lz (by first | assumption | omega | decide | exact Or.inl (by decide) | exact Or.inr (by decide))) (cwV 2 hts (zgL (zl4 k297 k298 k299 k85) k202) rfl rfl rfl (by decide +kernel) ⟨Nat.le_of_ble_eq_true rfl, Nat.le_of_ble_eq_true rfl⟩) rfl rfl rfl rfl (Nat.le_of_ble_eq_true rfl) dX2_readAtom_92 ⟨(Nat.le_of_ble_eq_true rfl), (Nat.le_of_ble_eq_true rfl)⟩ (fun u_ H locs hq35 hP hD hS => ?_)
          obtain ⟨lz2_33, fc2_34⟩ := u_
          replace hq35 : (0 ≤ lz2_33.toInt ∧ lz2_33.toInt ≤ 400) ∧ (lz2_33.toInt = lz.toInt + 1) ∧ (fc2_34 = upd fc lz.toInt.toNat (11 + 32 * 0)) := hq35
          have hP : va_P g.1 vwCl (List.flatten [bLT g lt ta lo, bTape g ta ab sz ln kd2_26 bg2_27 nx2_28 (-1) fb, bLaw g lo lc lz2_33 ll lm lg ld fc2_34]) H := hP
          have hD : va_D A (List.flatten [bLT g lt ta lo, bTape g ta ab sz ln kd2_26 bg2_27 nx2_28 (-1) fb, bLaw g lo lc lz2_33 ll lm lg ld fc2_34]) := hD
          refine W.widen (k := 0) (n := 0) (Nat.le_of_ble_eq_true rfl) (Nat.le_of_ble_eq_true rfl) ?_
          refine W.eq (g2 := F0 m 95 ls [.int lz]) rfl ?_
          obtain ⟨hq35_0, hq35_1, hq35_2⟩ := hq35
          refine lv_pop hx hb dX2_readAtom_95 rfl ?_
          refine lv_iconst (v := 1) hx hb dX2_readAtom_96 (by decide) ?_
          have hP : va_P g.1 vwCl (List.flatten [bLT g lt ta lo, bTape g ta ab sz ln kd2_26 bg2_27 nx2_28 (-1) fb, bLaw g lo lc lz2_33 ll lm lg ld fc2_34]) H := hP
          have hD : va_D A (List.flatten [bLT g lt ta lo, bTape g ta ab sz ln kd2_26 bg2_27 nx2_28 (-1) fb, bLaw g lo lc lz2_33 ll lm lg ld fc2_34]) := hD
          exact mret_z hx hb hr hlocks hS (Nat.le_of_ble_eq_true rfl) (Nat.le_of_ble_eq_true rfl) dX2_readAtom_97 (kd2_26, bg2_27, nx2_28, -1, lz2_33, fc2_34, (1 : Int32)) rfl (by decide) (show (0 ≤ lz2_33.toInt ∧ lz2_33.toInt ≤ 400) ∧ (-1 ≤ ((-1) : Int32).toInt) ∧ (0 ≤ nx2_28.toInt ∧ nx2_28.toInt ≤ 400) ∧ (0 ≤ bg2_27.toInt ∧ bg2_27.toInt ≤ 400) ∧ (zKd kd2_26.toInt bg2_27.toInt nx2_28.toInt) ∧ (zTk fb ln.toInt kd2_26.toInt bg2_27.toInt nx2_28.toInt) ∧ (1 = 1 ∧ zAtom fb ln.toInt 0 bg.toInt (.ok bg2_27.toInt) ∧ (-1) = (-1) ∧ zAC (fun e9 v9 => zAv fb ln.toInt e9 0 bg.toInt bg2_27.toInt v9) bg.toInt bg2_27.toInt fc fc2_34 lz.toInt lz2_33.toInt ∨ 1 = 0 ∧ zAtom fb ln.toInt 0 bg.toInt (.bad ((-1) : Int32).toInt)) from ⟨(by first | assumption | omega | exact Or.inl (by decide) | exact Or.inr (by omega)), (by decide), (by first | assumption | omega | exact Or.inl (by decide) | exact Or.inr (by omega)), (by first | assumption | omega | exact Or.inl (by decide) | exact Or.inr (by omega)), (by first | assumption | omega | exact Or.inl (by decide) | exact Or.inr (by omega)), (by assumption), (Or.inl ⟨rfl, zAt_pl (zor_n hq2_k hq9_k) (zPl_word (Or.inr hq30_k) hq30_km), rfl, (zAC_word (k := 11) (j := 7) (by omega) (zor_n hq2_k hq9_k) (Or.inr ⟨rfl, rfl, hq30_k⟩) hq30_km (by decide) hq35_2 hq35_1 w32)⟩)⟩) hP hD
        · skip
          refine lv_if_eq (tgt := 98) hx hb dX2_readAtom_82 (by decide) (fun _ => ?_) (fun c36 => absurd (by decide) c36)
          refine lv_aload_n hx hb dX2_readAtom_98 rfl (lv_at hl 0 rfl) ?_
          refine mcallV' (g := g) (q0 := 0) (ci := 2) (As := []) (rest := []) St hK hT hA hP hD hS hl.1 [0, 2, 1] [] rfl rfl rfl (c_lt_readSumC l g lt ta lo ab sz ln kd bg nx fb lc lz ll lm lg ld fc b_lz hln hnx hbg hkd hTk hlb) (cwV 0 hts (zgL (zl4 k313 k314 k315 k309) k304) rfl rfl rfl (by decide +kernel) ⟨Nat.le_of_ble_eq_true rfl, Nat.le_of_ble_eq_true rfl⟩) rfl rfl rfl rfl (Nat.le_of_ble_eq_true rfl) dX2_readAtom_99 ⟨(Nat.le_of_ble_eq_true rfl), (Nat.le_of_ble_eq_true rfl)⟩ (fun u_ H locs hq44 hP hD hS => ?_)
          obtain ⟨kd2_37, bg2_38, nx2_39, ft2_40, lz2_41, fc2_42, q_43⟩ := u_
          replace hq44 : (0 ≤ lz2_41.toInt ∧ lz2_41.toInt ≤ 400) ∧ (-1 ≤ ft2_40.toInt) ∧ (0 ≤ nx2_39.toInt ∧ nx2_39.toInt ≤ 400) ∧ (0 ≤ bg2_38.toInt ∧ bg2_38.toInt ≤ 400) ∧ (zKd kd2_37.toInt bg2_38.toInt nx2_39.toInt) ∧ (zTk fb ln.toInt kd2_37.toInt bg2_38.toInt nx2_39.toInt) ∧ (q_43 = 1 ∧ zSum fb ln.toInt bg.toInt (.ok bg2_38.toInt) ∧ (-1) = ft2_40 ∧ zSC fb ln.toInt bg.toInt bg2_38.toInt fc fc2_42 lz.toInt lz2_41.toInt ∨ q_43 = 0 ∧ zSum fb ln.toInt bg.toInt (.bad ft2_40.toInt)) := hq44
          have hP : va_P g.1 vwCl (List.flatten [bLT g lt ta lo, bTape g ta ab sz ln kd2_37 bg2_38 nx2_39 ft2_40 fb, bLaw g lo lc lz2_41 ll lm lg ld fc2_42]) H := hP
          have hD : va_D A (List.flatten [bLT g lt ta lo, bTape g ta ab sz ln kd2_37 bg2_38 nx2_39 ft2_40 fb, bLaw g lo lc lz2_41 ll lm lg ld fc2_42]) := hD
          refine W.widen (k := 0) (n := 0) (Nat.le_of_ble_eq_true rfl) (Nat.le_of_ble_eq_true rfl) ?_
          refine W.eq (g2 := F0 m 102 ls [.int q_43]) rfl ?_
          obtain ⟨hq44_0, hq44_1, hq44_2, hq44_3, hq44_4, hq44_5, hq44_6⟩ := hq44
          rcases hq44_6 with ⟨rfl, hq44_k, rfl, hq44_kc⟩ | ⟨rfl, hq44_k⟩
          · skip
            have w45 := hq44_kc.1
            refine lv_if_ne (tgt := 107) hx hb dX2_readAtom_102 (by decide) (fun _ => ?_) (fun c46 => absurd c46 (by decide))
            refine lv_aload_n hx hb dX2_readAtom_107 rfl (lv_at hl 0 rfl) ?_
            refine va_get (D := g.1) (ci := 2) (v := .ref ta) (C := RX2) (T := TX2) (N := 2) hx hb hts izRX2 hown hK hP 0 rfl rfl 0 (by decide) (hts _ k290) (fun x9 h9 => u_same (hts _ k291) x9 h9) rfl dX2_readAtom_108 ?_
            refine lv_bipush (v := 60) hx hb dX2_readAtom_111 (by decide) ?_
            have hL60 : (60 : Int32).toInt = 60 := by decide
            refine mcallV' (g := g) (q0 := 0) (ci := 6) (As := [.int 60]) (rest := []) St hK hT hA hP hD hS hl.1 [1] [0, 2] rfl rfl rfl (c_t_isSignF l g ta ab sz ln kd2_37 bg2_38 nx2_39 (-1) fb 60 hln hq44_2 hq44_3 hq44_4 hq44_5) (cwV 1 hts (zgL (zl4 k305 k288 k289 k277) k285) rfl rfl rfl (by decide +kernel) ⟨Nat.le_of_ble_eq_true rfl, Nat.le_of_ble_eq_true rfl⟩) rfl rfl rfl rfl (Nat.le_of_ble_eq_true rfl) dX2_readAtom_113 ⟨(Nat.le_of_ble_eq_true rfl), (Nat.le_of_ble_eq_true rfl)⟩ (fun q_47 H locs hq48 hP hD hS => ?_)
            replace hq48 : (q_47 = 1 ∧ zisS fb ln.toInt bg2_38.toInt (60 : Int32).toInt ∨ q_47 = 0 ∧ ¬ zisS fb ln.toInt bg2_38.toInt (60 : Int32).toInt) := hq48
            have hP : va_P g.1 vwCl (List.flatten [bLT g lt ta lo, bLaw g lo lc lz2_41 ll lm lg ld fc2_42, bTape g ta ab sz ln kd2_37 bg2_38 nx2_39 (-1) fb]) H := hP
            have hD : va_D A (List.flatten [bLT g lt ta lo, bLaw g lo lc lz2_41 ll lm lg ld fc2_42, bTape g ta ab sz ln kd2_37 bg2_38 nx2_39 (-1) fb]) := hD
            refine W.widen (k := 0) (n := 0) (Nat.le_of_ble_eq_true rfl) (Nat.le_of_ble_eq_true rfl) ?_
            refine W.eq (g2 := F0 m 116 ls [.int q_47]) rfl ?_
            rcases hq48 with ⟨rfl, hq48_k⟩ | ⟨rfl, hq48_k⟩
            · skip
              refine lv_istore_n (lv' := [(2, .int 1), (0, .ref lt), (1, .int 6)]) hx hb dX2_readAtom_116 rfl hl (by decide) rfl (fun ls hl => ?_)
              refine lv_iload_n hx hb dX2_readAtom_117 rfl (lv_at hl 0 rfl) ?_
              refine lv_if_ne (tgt := 141) hx hb dX2_readAtom_118 (by decide) (fun _ => ?_) (fun c49 => absurd c49 (by decide))
              refine lv_aload_n hx hb dX2_readAtom_141 rfl (lv_at hl 1 rfl) ?_
              refine va_get (D := g.1) (ci := 2) (v := .ref ta) (C := RX2) (T := TX2) (N := 2) hx hb hts izRX2 hown hK hP 0 rfl rfl 0 (by decide) (hts _ k290) (fun x9 h9 => u_same (hts _ k291) x9 h9) rfl dX2_readAtom_142 ?_
              refine mcallV' (g := g) (q0 := 0) (ci := 6) (As := []) (rest := []) St hK hT hA hP hD hS hl.1 [2] [0, 1] rfl rfl rfl (c_t_stepF l g ta ab sz ln kd2_37 bg2_38 nx2_39 (-1) fb hln hq44_2) (cwV 0 hts (zgL (zl4 k296 k275 k276 k277) k271) rfl rfl rfl (by decide +kernel) ⟨Nat.le_of_ble_eq_true rfl, Nat.le_of_ble_eq_true rfl⟩) rfl rfl rfl rfl (Nat.le_of_ble_eq_true rfl) dX2_readAtom_145 ⟨(Nat.le_of_ble_eq_true rfl), (Nat.le_of_ble_eq_true rfl)⟩ (fun u_ H locs hq53 hP hD hS => ?_)
              obtain ⟨kd2_50, bg2_51, nx2_52⟩ := u_
              replace hq53 : (0 ≤ nx2_52.toInt ∧ nx2_52.toInt ≤ 400) ∧ (0 ≤ bg2_51.toInt ∧ bg2_51.toInt ≤ 400) ∧ (zKd kd2_50.toInt bg2_51.toInt nx2_52.toInt) ∧ (zSk fb ln.toInt nx2_39.toInt bg2_51.toInt) ∧ (zTk fb ln.toInt kd2_50.toInt bg2_51.toInt nx2_52.toInt) := hq53
              have hP : va_P g.1 vwCl (List.flatten [bLT g lt ta lo, bLaw g lo lc lz2_41 ll lm lg ld fc2_42, bTape g ta ab sz ln kd2_50 bg2_51 nx2_52 (-1) fb]) H := hP
              have hD : va_D A (List.flatten [bLT g lt ta lo, bLaw g lo lc lz2_41 ll lm lg ld fc2_42, bTape g ta ab sz ln kd2_50 bg2_51 nx2_52 (-1) fb]) := hD
              refine W.widen (k := 0) (n := 0) (Nat.le_of_ble_eq_true rfl) (Nat.le_of_ble_eq_true rfl) ?_
              refine W.eq (g2 := F0 m 148 ls []) rfl ?_
              obtain ⟨hq53_0, hq53_1, hq53_2, hq53_3, hq53_4⟩ := hq53
              have w54 := zMv_lt (f := fb) (n := ln.toInt) (by omega) (zisS_z hq48_k) (zMv_mk hq44_5 hq53_3)
              refine lv_aload_n hx hb dX2_readAtom_148 rfl (lv_at hl 1 rfl) ?_
              refine va_get (D := g.1) (ci := 2) (v := .ref lo) (C := RX2) (T := TX2) (N := 2) hx hb hts izRX2 hown hK hP 0 rfl rfl 1 (by decide) (hts _ k210) (fun _ h9 => h9) rfl dX2_readAtom_149 ?_
              refine lv_bipush (v := 7) hx hb dX2_readAtom_152 (by decide) ?_
              refine lv_iconst (v := 0) hx hb dX2_readAtom_154 (by decide) ?_
              refine mcallV' (g := g) (q0 := 0) (ci := 1) (As := [.int 7, .int 0]) (rest := []) St hK hT hA hP hD hS hl.1 [1] [0, 2] rfl rfl rfl (c_l_putC l g lo lc lz2_41 ll lm lg ld fc2_42 7 0 hq44_0 (by first | assumption | omega | decide | exact Or.inl (by decide) | exact Or.inr (by decide))) (cwV 2 hts (zgL (zl4 k297 k298 k299 k85) k202) rfl rfl rfl (by decide +kernel) ⟨Nat.le_of_ble_eq_true rfl, Nat.le_of_ble_eq_true rfl⟩) rfl rfl rfl rfl (Nat.le_of_ble_eq_true rfl) dX2_readAtom_155 ⟨(Nat.le_of_ble_eq_true rfl), (Nat.le_of_ble_eq_true rfl)⟩ (fun u_ H locs hq57 hP hD hS => ?_)
              obtain ⟨lz2_55, fc2_56⟩ := u_
              replace hq57 : (0 ≤ lz2_55.toInt ∧ lz2_55.toInt ≤ 400) ∧ (lz2_55.toInt = lz2_41.toInt + 1) ∧ (fc2_56 = upd fc2_42 lz2_41.toInt.toNat (7 + 32 * 0)) := hq57
              have hP : va_P g.1 vwCl (List.flatten [bLT g lt ta lo, bTape g ta ab sz ln kd2_50 bg2_51 nx2_52 (-1) fb, bLaw g lo lc lz2_55 ll lm lg ld fc2_56]) H := hP
              have hD : va_D A (List.flatten [bLT g lt ta lo, bTape g ta ab sz ln kd2_50 bg2_51 nx2_52 (-1) fb, bLaw g lo lc lz2_55 ll lm lg ld fc2_56]) := hD
              refine W.widen (k := 0) (n := 0) (Nat.le_of_ble_eq_true rfl) (Nat.le_of_ble_eq_true rfl) ?_
              refine W.eq (g2 := F0 m 158 ls [.int lz2_41]) rfl ?_
              obtain ⟨hq57_0, hq57_1, hq57_2⟩ := hq57
              refine lv_pop hx hb dX2_readAtom_158 rfl ?_
              refine lv_aload_n hx hb dX2_readAtom_159 rfl (lv_at hl 1 rfl) ?_
              refine mcallV' (g := g) (q0 := 0) (ci := 2) (As := []) (rest := []) St hK hT hA hP hD hS hl.1 [0, 1, 2] [] rfl rfl rfl (c_lt_readSumC l g lt ta lo ab sz ln kd2_50 bg2_51 nx2_52 fb lc lz2_55 ll lm lg ld fc2_56 hq57_0 hln hq53_0 hq53_1 hq53_2 hq53_4 (by first | assumption | omega | decide | exact Or.inl (by decide) | exact Or.inr (by decide))) (cwV 0 hts (zgL (zl4 k313 k314 k315 k309) k304) rfl rfl rfl (by decide +kernel) ⟨Nat.le_of_ble_eq_true rfl, Nat.le_of_ble_eq_true rfl⟩) rfl rfl rfl rfl (Nat.le_of_ble_eq_true rfl) dX2_readAtom_160 ⟨(Nat.le_of_ble_eq_true rfl), (Nat.le_of_ble_eq_true rfl)⟩ (fun u_ H locs hq65 hP hD hS => ?_)
              obtain ⟨kd2_58, bg2_59, nx2_60, ft2_61, lz2_62, fc2_63, q_64⟩ := u_
              replace hq65 : (0 ≤ lz2_62.toInt ∧ lz2_62.toInt ≤ 400) ∧ (-1 ≤ ft2_61.toInt) ∧ (0 ≤ nx2_60.toInt ∧ nx2_60.toInt ≤ 400) ∧ (0 ≤ bg2_59.toInt ∧ bg2_59.toInt ≤ 400) ∧ (zKd kd2_58.toInt bg2_59.toInt nx2_60.toInt) ∧ (zTk fb ln.toInt kd2_58.toInt bg2_59.toInt nx2_60.toInt) ∧ (q_64 = 1 ∧ zSum fb ln.toInt bg2_51.toInt (.ok bg2_59.toInt) ∧ (-1) = ft2_61 ∧ zSC fb ln.toInt bg2_51.toInt bg2_59.toInt fc2_56 fc2_63 lz2_55.toInt lz2_62.toInt ∨ q_64 = 0 ∧ zSum fb ln.toInt bg2_51.toInt (.bad ft2_61.toInt)) := hq65
              have hP : va_P g.1 vwCl (List.flatten [bLT g lt ta lo, bTape g ta ab sz ln kd2_58 bg2_59 nx2_60 ft2_61 fb, bLaw g lo lc lz2_62 ll lm lg ld fc2_63]) H := hP
              have hD : va_D A (List.flatten [bLT g lt ta lo, bTape g ta ab sz ln kd2_58 bg2_59 nx2_60 ft2_61 fb, bLaw g lo lc lz2_62 ll lm lg ld fc2_63]) := hD
              refine W.widen (k := 0) (n := 0) (Nat.le_of_ble_eq_true rfl) (Nat.le_of_ble_eq_true rfl) ?_
              refine W.eq (g2 := F0 m 163 ls [.int q_64]) rfl ?_
              obtain ⟨hq65_0, hq65_1, hq65_2, hq65_3, hq65_4, hq65_5, hq65_6⟩ := hq65
              rcases hq65_6 with ⟨rfl, hq65_k, rfl, hq65_kc⟩ | ⟨rfl, hq65_k⟩
              · skip
                have w66 := hq65_kc.1
                refine lv_if_ne (tgt := 168) hx hb dX2_readAtom_163 (by decide) (fun _ => ?_) (fun c67 => absurd c67 (by decide))
                refine lv_aload_n hx hb dX2_readAtom_168 rfl (lv_at hl 1 rfl) ?_
                refine va_get (D := g.1) (ci := 2) (v := .ref lo) (C := RX2) (T := TX2) (N := 2) hx hb hts izRX2 hown hK hP 0 rfl rfl 1 (by decide) (hts _ k210) (fun _ h9 => h9) rfl dX2_readAtom_169 ?_
                refine lv_iload_n hx hb dX2_readAtom_172 rfl (lv_at hl 0 rfl) ?_
                refine lv_if_eq (tgt := 181) hx hb dX2_readAtom_173 (by decide) (fun c68 => absurd c68 (by decide)) (fun _ => ?_)
                refine lv_bipush (v := 8) hx hb dX2_readAtom_176 (by decide) ?_
                refine lv_goto (tgt := 183) hx hb dX2_readAtom_178 (by decide) ?_
                refine lv_iconst (v := 0) hx hb dX2_readAtom_183 (by decide) ?_
                refine mcallV' (g := g) (q0 := 0) (ci := 1) (As := [.int 8, .int 0]) (rest := []) St hK hT hA hP hD hS hl.1 [2] [0, 1] rfl rfl rfl (c_l_putC l g lo lc lz2_62 ll lm lg ld fc2_63 8 0 hq65_0 (by first | assumption | omega | decide | exact Or.inl (by decide) | exact Or.inr (by decide))) (cwV 2 hts (zgL (zl4 k297 k298 k299 k85) k202) rfl rfl rfl (by decide +kernel) ⟨Nat.le_of_ble_eq_true rfl, Nat.le_of_ble_eq_true rfl⟩) rfl rfl rfl rfl (Nat.le_of_ble_eq_true rfl) dX2_readAtom_184 ⟨(Nat.le_of_ble_eq_true rfl), (Nat.le_of_ble_eq_true rfl)⟩ (fun u_ H locs hq71 hP hD hS => ?_)
                obtain ⟨lz2_69, fc2_70⟩ := u_
                replace hq71 : (0 ≤ lz2_69.toInt ∧ lz2_69.toInt ≤ 400) ∧ (lz2_69.toInt = lz2_62.toInt + 1) ∧ (fc2_70 = upd fc2_63 lz2_62.toInt.toNat (8 + 32 * 0)) := hq71
                have hP : va_P g.1 vwCl (List.flatten [bLT g lt ta lo, bTape g ta ab sz ln kd2_58 bg2_59 nx2_60 (-1) fb, bLaw g lo lc lz2_69 ll lm lg ld fc2_70]) H := hP
                have hD : va_D A (List.flatten [bLT g lt ta lo, bTape g ta ab sz ln kd2_58 bg2_59 nx2_60 (-1) fb, bLaw g lo lc lz2_69 ll lm lg ld fc2_70]) := hD
                refine W.widen (k := 0) (n := 0) (Nat.le_of_ble_eq_true rfl) (Nat.le_of_ble_eq_true rfl) ?_
                refine W.eq (g2 := F0 m 187 ls [.int lz2_62]) rfl ?_
                obtain ⟨hq71_0, hq71_1, hq71_2⟩ := hq71
                refine lv_pop hx hb dX2_readAtom_187 rfl ?_
                refine lv_iconst (v := 1) hx hb dX2_readAtom_188 (by decide) ?_
                have hP : va_P g.1 vwCl (List.flatten [bLT g lt ta lo, bTape g ta ab sz ln kd2_58 bg2_59 nx2_60 (-1) fb, bLaw g lo lc lz2_69 ll lm lg ld fc2_70]) H := hP
                have hD : va_D A (List.flatten [bLT g lt ta lo, bTape g ta ab sz ln kd2_58 bg2_59 nx2_60 (-1) fb, bLaw g lo lc lz2_69 ll lm lg ld fc2_70]) := hD
                exact mret_z hx hb hr hlocks hS (Nat.le_of_ble_eq_true rfl) (Nat.le_of_ble_eq_true rfl) dX2_readAtom_189 (kd2_58, bg2_59, nx2_60, -1, lz2_69, fc2_70, (1 : Int32)) rfl (by decide) (show (0 ≤ lz2_69.toInt ∧ lz2_69.toInt ≤ 400) ∧ (-1 ≤ ((-1) : Int32).toInt) ∧ (0 ≤ nx2_60.toInt ∧ nx2_60.toInt ≤ 400) ∧ (0 ≤ bg2_59.toInt ∧ bg2_59.toInt ≤ 400) ∧ (zKd kd2_58.toInt bg2_59.toInt nx2_60.toInt) ∧ (zTk fb ln.toInt kd2_58.toInt bg2_59.toInt nx2_60.toInt) ∧ (1 = 1 ∧ zAtom fb ln.toInt 0 bg.toInt (.ok bg2_59.toInt) ∧ (-1) = (-1) ∧ zAC (fun e9 v9 => zAv fb ln.toInt e9 0 bg.toInt bg2_59.toInt v9) bg.toInt bg2_59.toInt fc fc2_70 lz.toInt lz2_69.toInt ∨ 1 = 0 ∧ zAtom fb ln.toInt 0 bg.toInt (.bad ((-1) : Int32).toInt)) from ⟨(by first | assumption | omega | exact Or.inl (by decide) | exact Or.inr (by omega)), (by decide), (by first | assumption | omega | exact Or.inl (by decide) | exact Or.inr (by omega)), (by first | assumption | omega | exact Or.inl (by decide) | exact Or.inr (by omega)), (by first | assumption | omega | exact Or.inl (by decide) | exact Or.inr (by omega)), (by assumption), (Or.inl ⟨rfl, zAt_pl (zor_n hq2_k hq9_k) (zPl_all (zor_n hq19_k hq30_k) hq44_k (Or.inl hq48_k) (zMv_mk hq44_5 hq53_3) hq65_k), rfl, (zAC_less (k := 8) (by omega) (zor_n hq2_k hq9_k) hq19_k hq30_k hq44_kc hq48_k (Or.inl ⟨rfl, by decide⟩) (zMv_mk hq44_5 hq53_3) (by decide) hq57_2 hq57_1 hq65_kc (by decide) hq71_2 hq71_1 w54)⟩)⟩) hP hD
              · skip
                refine lv_if_ne (tgt := 168) hx hb dX2_readAtom_163 (by decide) (fun c72 => absurd (by decide) c72) (fun _ => ?_)
                refine lv_iconst (v := 0) hx hb dX2_readAtom_166 (by decide) ?_
                have hP : va_P g.1 vwCl (List.flatten [bLT g lt ta lo, bTape g ta ab sz ln kd2_58 bg2_59 nx2_60 ft2_61 fb, bLaw g lo lc lz2_62 ll lm lg ld fc2_63]) H := hP
                have hD : va_D A (List.flatten [bLT g lt ta lo, bTape g ta ab sz ln kd2_58 bg2_59 nx2_60 ft2_61 fb, bLaw g lo lc lz2_62 ll lm lg ld fc2_63]) := hD
                exact mret_z hx hb hr hlocks hS (Nat.le_of_ble_eq_true rfl) (Nat.le_of_ble_eq_true rfl) dX2_readAtom_167 (kd2_58, bg2_59, nx2_60, ft2_61, lz2_62, fc2_63, (0 : Int32)) rfl (by decide) (show (0 ≤ lz2_62.toInt ∧ lz2_62.toInt ≤ 400) ∧ (-1 ≤ ft2_61.toInt) ∧ (0 ≤ nx2_60.toInt ∧ nx2_60.toInt ≤ 400) ∧ (0 ≤ bg2_59.toInt ∧ bg2_59.toInt ≤ 400) ∧ (zKd kd2_58.toInt bg2_59.toInt nx2_60.toInt) ∧ (zTk fb ln.toInt kd2_58.toInt bg2_59.toInt nx2_60.toInt) ∧ (0 = 1 ∧ zAtom fb ln.toInt 0 bg.toInt (.ok bg2_59.toInt) ∧ (-1) = ft2_61 ∧ zAC (fun e9 v9 => zAv fb ln.toInt e9 0 bg.toInt bg2_59.toInt v9) bg.toInt bg2_59.toInt fc fc2_63 lz.toInt lz2_62.toInt ∨ 0 = 0 ∧ zAtom fb ln.toInt 0 bg.toInt (.bad ft2_61.toInt)) from ⟨(by first | assumption | omega | exact Or.inl (by decide) | exact Or.inr (by omega)), (by first | decide | omega), (by first | assumption | omega | exact Or.inl (by decide) | exact Or.inr (by omega)), (by first | assumption | omega | exact Or.inl (by decide) | exact Or.inr (by omega)), (by first | assumption | omega | exact Or.inl (by decide) | exact Or.inr (by omega)), (by assumption), (Or.inr ⟨rfl, zAt_pl (zor_n hq2_k hq9_k) (zPl_all (zor_n hq19_k hq30_k) hq44_k (Or.inl hq48_k) (zMv_mk hq44_5 hq53_3) hq65_k)⟩)⟩) hP hD
            · skip
              refine lv_istore_n (lv' := [(2, .int 0), (0, .ref lt), (1, .int 6)]) hx hb dX2_readAtom_116 rfl hl (by decide) rfl (fun ls hl => ?_)
              refine lv_iload_n hx hb dX2_readAtom_117 rfl (lv_at hl 0 rfl) ?_
              refine lv_if_ne (tgt := 141) hx hb dX2_readAtom_118 (by decide) (fun c73 => absurd (by decide) c73) (fun _ => ?_)
              refine lv_aload_n hx hb dX2_readAtom_121 rfl (lv_at hl 1 rfl) ?_
              refine va_get (D := g.1) (ci := 2) (v := .ref ta) (C := RX2) (T := TX2) (N := 2) hx hb hts izRX2 hown hK hP 0 rfl rfl 0 (by decide) (hts _ k290) (fun x9 h9 => u_same (hts _ k291) x9 h9) rfl dX2_readAtom_122 ?_
              refine lv_bipush (v := 62) hx hb dX2_readAtom_125 (by decide) ?_
              have hL62 : (62 : Int32).toInt = 62 := by decide
              refine mcallV' (g := g) (q0 := 0) (ci := 6) (As := [.int 62]) (rest := []) St hK hT hA hP hD hS hl.1 [2] [0, 1] rfl rfl rfl (c_t_isSignF l g ta ab sz ln kd2_37 bg2_38 nx2_39 (-1) fb 62 hln hq44_2 hq44_3 hq44_4 hq44_5) (cwV 1 hts (zgL (zl4 k305 k288 k289 k277) k285) rfl rfl rfl (by decide +kernel) ⟨Nat.le_of_ble_eq_true rfl, Nat.le_of_ble_eq_true rfl⟩) rfl rfl rfl rfl (Nat.le_of_ble_eq_true rfl) dX2_readAtom_127 ⟨(Nat.le_of_ble_eq_true rfl), (Nat.le_of_ble_eq_true rfl)⟩ (fun q_74 H locs hq75 hP hD hS => ?_)
              replace hq75 : (q_74 = 1 ∧ zisS fb ln.toInt bg2_38.toInt (62 : Int32).toInt ∨ q_74 = 0 ∧ ¬ zisS fb ln.toInt bg2_38.toInt (62 : Int32).toInt) := hq75
              have hP : va_P g.1 vwCl (List.flatten [bLT g lt ta lo, bLaw g lo lc lz2_41 ll lm lg ld fc2_42, bTape g ta ab sz ln kd2_37 bg2_38 nx2_39 (-1) fb]) H := hP
              have hD : va_D A (List.flatten [bLT g lt ta lo, bLaw g lo lc lz2_41 ll lm lg ld fc2_42, bTape g ta ab sz ln kd2_37 bg2_38 nx2_39 (-1) fb]) := hD
              refine W.widen (k := 0) (n := 0) (Nat.le_of_ble_eq_true rfl) (Nat.le_of_ble_eq_true rfl) ?_
              refine W.eq (g2 := F0 m 130 ls [.int q_74]) rfl ?_
              rcases hq75 with ⟨rfl, hq75_k⟩ | ⟨rfl, hq75_k⟩
              · skip
                refine lv_if_ne (tgt := 141) hx hb dX2_readAtom_130 (by decide) (fun _ => ?_) (fun c76 => absurd c76 (by decide))
                refine lv_aload_n hx hb dX2_readAtom_141 rfl (lv_at hl 1 rfl) ?_
                refine va_get (D := g.1) (ci := 2) (v := .ref ta) (C := RX2) (T := TX2) (N := 2) hx hb hts izRX2 hown hK hP 0 rfl rfl 0 (by decide) (hts _ k290) (fun x9 h9 => u_same (hts _ k291) x9 h9) rfl dX2_readAtom_142 ?_
                refine mcallV' (g := g) (q0 := 0) (ci := 6) (As := []) (rest := []) St hK hT hA hP hD hS hl.1 [2] [0, 1] rfl rfl rfl (c_t_stepF l g ta ab sz ln kd2_37 bg2_38 nx2_39 (-1) fb hln hq44_2) (cwV 0 hts (zgL (zl4 k296 k275 k276 k277) k271) rfl rfl rfl (by decide +kernel) ⟨Nat.le_of_ble_eq_true rfl, Nat.le_of_ble_eq_true rfl⟩) rfl rfl rfl rfl (Nat.le_of_ble_eq_true rfl) dX2_readAtom_145 ⟨(Nat.le_of_ble_eq_true rfl), (Nat.le_of_ble_eq_true rfl)⟩ (fun u_ H locs hq80 hP hD hS => ?_)
                obtain ⟨kd2_77, bg2_78, nx2_79⟩ := u_
                replace hq80 : (0 ≤ nx2_79.toInt ∧ nx2_79.toInt ≤ 400) ∧ (0 ≤ bg2_78.toInt ∧ bg2_78.toInt ≤ 400) ∧ (zKd kd2_77.toInt bg2_78.toInt nx2_79.toInt) ∧ (zSk fb ln.toInt nx2_39.toInt bg2_78.toInt) ∧ (zTk fb ln.toInt kd2_77.toInt bg2_78.toInt nx2_79.toInt) := hq80
                have hP : va_P g.1 vwCl (List.flatten [bLT g lt ta lo, bLaw g lo lc lz2_41 ll lm lg ld fc2_42, bTape g ta ab sz ln kd2_77 bg2_78 nx2_79 (-1) fb]) H := hP
                have hD : va_D A (List.flatten [bLT g lt ta lo, bLaw g lo lc lz2_41 ll lm lg ld fc2_42, bTape g ta ab sz ln kd2_77 bg2_78 nx2_79 (-1) fb]) := hD
                refine W.widen (k := 0) (n := 0) (Nat.le_of_ble_eq_true rfl) (Nat.le_of_ble_eq_true rfl) ?_
                refine W.eq (g2 := F0 m 148 ls []) rfl ?_
                obtain ⟨hq80_0, hq80_1, hq80_2, hq80_3, hq80_4⟩ := hq80
                have w81 := zMv_lt (f := fb) (n := ln.toInt) (by omega) (zisS_z hq75_k) (zMv_mk hq44_5 hq80_3)
                refine lv_aload_n hx hb dX2_readAtom_148 rfl (lv_at hl 1 rfl) ?_
                refine va_get (D := g.1) (ci := 2) (v := .ref lo) (C := RX2) (T := TX2) (N := 2) hx hb hts izRX2 hown hK hP 0 rfl rfl 1 (by decide) (hts _ k210) (fun _ h9 => h9) rfl dX2_readAtom_149 ?_
                refine lv_bipush (v := 7) hx hb dX2_readAtom_152 (by decide) ?_
                refine lv_iconst (v := 0) hx hb dX2_readAtom_154 (by decide) ?_
                refine mcallV' (g := g) (q0 := 0) (ci := 1) (As := [.int 7, .int 0]) (rest := []) St hK hT hA hP hD hS hl.1 [1] [0, 2] rfl rfl rfl (c_l_putC l g lo lc lz2_41 ll lm lg ld fc2_42 7 0 hq44_0 (by first | assumption | omega | decide | exact Or.inl (by decide) | exact Or.inr (by decide))) (cwV 2 hts (zgL (zl4 k297 k298 k299 k85) k202) rfl rfl rfl (by decide +kernel) ⟨Nat.le_of_ble_eq_true rfl, Nat.le_of_ble_eq_true rfl⟩) rfl rfl rfl rfl (Nat.le_of_ble_eq_true rfl) dX2_readAtom_155 ⟨(Nat.le_of_ble_eq_true rfl), (Nat.le_of_ble_eq_true rfl)⟩ (fun u_ H locs hq84 hP hD hS => ?_)
                obtain ⟨lz2_82, fc2_83⟩ := u_
                replace hq84 : (0 ≤ lz2_82.toInt ∧ lz2_82.toInt ≤ 400) ∧ (lz2_82.toInt = lz2_41.toInt + 1) ∧ (fc2_83 = upd fc2_42 lz2_41.toInt.toNat (7 + 32 * 0)) := hq84
                have hP : va_P g.1 vwCl (List.flatten [bLT g lt ta lo, bTape g ta ab sz ln kd2_77 bg2_78 nx2_79 (-1) fb, bLaw g lo lc lz2_82 ll lm lg ld fc2_83]) H := hP
                have hD : va_D A (List.flatten [bLT g lt ta lo, bTape g ta ab sz ln kd2_77 bg2_78 nx2_79 (-1) fb, bLaw g lo lc lz2_82 ll lm lg ld fc2_83]) := hD
                refine W.widen (k := 0) (n := 0) (Nat.le_of_ble_eq_true rfl) (Nat.le_of_ble_eq_true rfl) ?_
                refine W.eq (g2 := F0 m 158 ls [.int lz2_41]) rfl ?_
                obtain ⟨hq84_0, hq84_1, hq84_2⟩ := hq84
                refine lv_pop hx hb dX2_readAtom_158 rfl ?_
                refine lv_aload_n hx hb dX2_readAtom_159 rfl (lv_at hl 1 rfl) ?_
                refine mcallV' (g := g) (q0 := 0) (ci := 2) (As := []) (rest := []) St hK hT hA hP hD hS hl.1 [0, 1, 2] [] rfl rfl rfl (c_lt_readSumC l g lt ta lo ab sz ln kd2_77 bg2_78 nx2_79 fb lc lz2_82 ll lm lg ld fc2_83 hq84_0 hln hq80_0 hq80_1 hq80_2 hq80_4 (by first | assumption | omega | decide | exact Or.inl (by decide) | exact Or.inr (by decide))) (cwV 0 hts (zgL (zl4 k313 k314 k315 k309) k304) rfl rfl rfl (by decide +kernel) ⟨Nat.le_of_ble_eq_true rfl, Nat.le_of_ble_eq_true rfl⟩) rfl rfl rfl rfl (Nat.le_of_ble_eq_true rfl) dX2_readAtom_160 ⟨(Nat.le_of_ble_eq_true rfl), (Nat.le_of_ble_eq_true rfl)⟩ (fun u_ H locs hq92 hP hD hS => ?_)
                obtain ⟨kd2_85, bg2_86, nx2_87, ft2_88, lz2_89, fc2_90, q_91⟩ := u_
                replace hq92 : (0 ≤ lz2_89.toInt ∧ lz2_89.toInt ≤ 400) ∧ (-1 ≤ ft2_88.toInt) ∧ (0 ≤ nx2_87.toInt ∧ nx2_87.toInt ≤ 400) ∧ (0 ≤ bg2_86.toInt ∧ bg2_86.toInt ≤ 400) ∧ (zKd kd2_85.toInt bg2_86.toInt nx2_87.toInt) ∧ (zTk fb ln.toInt kd2_85.toInt bg2_86.toInt nx2_87.toInt) ∧ (q_91 = 1 ∧ zSum fb ln.toInt bg2_78.toInt (.ok bg2_86.toInt) ∧ (-1) = ft2_88 ∧ zSC fb ln.toInt bg2_78.toInt bg2_86.toInt fc2_83 fc2_90 lz2_82.toInt lz2_89.toInt ∨ q_91 = 0 ∧ zSum fb ln.toInt bg2_78.toInt (.bad ft2_88.toInt)) := hq92
                have hP : va_P g.1 vwCl (List.flatten [bLT g lt ta lo, bTape g ta ab sz ln kd2_85 bg2_86 nx2_87 ft2_88 fb, bLaw g lo lc lz2_89 ll lm lg ld fc2_90]) H := hP
                have hD : va_D A (List.flatten [bLT g lt ta lo, bTape g ta ab sz ln kd2_85 bg2_86 nx2_87 ft2_88 fb, bLaw g lo lc lz2_89 ll lm lg ld fc2_90]) := hD
                refine W.widen (k := 0) (n := 0) (Nat.le_of_ble_eq_true rfl) (Nat.le_of_ble_eq_true rfl) ?_
                refine W.eq (g2 := F0 m 163 ls [.int q_91]) rfl ?_
                obtain ⟨hq92_0, hq92_1, hq92_2, hq92_3, hq92_4, hq92_5, hq92_6⟩ := hq92
                rcases hq92_6 with ⟨rfl, hq92_k, rfl, hq92_kc⟩ | ⟨rfl, hq92_k⟩
                · skip
                  have w93 := hq92_kc.1
                  refine lv_if_ne (tgt := 168) hx hb dX2_readAtom_163 (by decide) (fun _ => ?_) (fun c94 => absurd c94 (by decide))
                  refine lv_aload_n hx hb dX2_readAtom_168 rfl (lv_at hl 1 rfl) ?_
                  refine va_get (D := g.1) (ci := 2) (v := .ref lo) (C := RX2) (T := TX2) (N := 2) hx hb hts izRX2 hown hK hP 0 rfl rfl 1 (by decide) (hts _ k210) (fun _ h9 => h9) rfl dX2_readAtom_169 ?_
                  refine lv_iload_n hx hb dX2_readAtom_172 rfl (lv_at hl 0 rfl) ?_
                  refine lv_if_eq (tgt := 181) hx hb dX2_readAtom_173 (by decide) (fun _ => ?_) (fun c95 => absurd (by decide) c95)
                  refine lv_bipush (v := 9) hx hb dX2_readAtom_181 (by decide) ?_
                  refine lv_iconst (v := 0) hx hb dX2_readAtom_183 (by decide) ?_
                  refine mcallV' (g := g) (q0 := 0) (ci := 1) (As := [.int 9, .int 0]) (rest := []) St hK hT hA hP hD hS hl.1 [2] [0, 1] rfl rfl rfl (c_l_putC l g lo lc lz2_89 ll lm lg ld fc2_90 9 0 hq92_0 (by first | assumption | omega | decide | exact Or.inl (by decide) | exact Or.inr (by decide))) (cwV 2 hts (zgL (zl4 k297 k298 k299 k85) k202) rfl rfl rfl (by decide +kernel) ⟨Nat.le_of_ble_eq_true rfl, Nat.le_of_ble_eq_true rfl⟩) rfl rfl rfl rfl (Nat.le_of_ble_eq_true rfl) dX2_readAtom_184 ⟨(Nat.le_of_ble_eq_true rfl), (Nat.le_of_ble_eq_true rfl)⟩ (fun u_ H locs hq98 hP hD hS => ?_)
                  obtain ⟨lz2_96, fc2_97⟩ := u_
                  replace hq98 : (0 ≤ lz2_96.toInt ∧ lz2_96.toInt ≤ 400) ∧ (lz2_96.toInt = lz2_89.toInt + 1) ∧ (fc2_97 = upd fc2_90 lz2_89.toInt.toNat (9 + 32 * 0)) := hq98
                  have hP : va_P g.1 vwCl (List.flatten [bLT g lt ta lo, bTape g ta ab sz ln kd2_85 bg2_86 nx2_87 (-1) fb, bLaw g lo lc lz2_96 ll lm lg ld fc2_97]) H := hP
                  have hD : va_D A (List.flatten [bLT g lt ta lo, bTape g ta ab sz ln kd2_85 bg2_86 nx2_87 (-1) fb, bLaw g lo lc lz2_96 ll lm lg ld fc2_97]) := hD
                  refine W.widen (k := 0) (n := 0) (Nat.le_of_ble_eq_true rfl) (Nat.le_of_ble_eq_true rfl) ?_
                  refine W.eq (g2 := F0 m 187 ls [.int lz2_89]) rfl ?_
                  obtain ⟨hq98_0, hq98_1, hq98_2⟩ := hq98
                  refine lv_pop hx hb dX2_readAtom_187 rfl ?_
                  refine lv_iconst (v := 1) hx hb dX2_readAtom_188 (by decide) ?_
                  have hP : va_P g.1 vwCl (List.flatten [bLT g lt ta lo, bTape g ta ab sz ln kd2_85 bg2_86 nx2_87 (-1) fb, bLaw g lo lc lz2_96 ll lm lg ld fc2_97]) H := hP
                  have hD : va_D A (List.flatten [bLT g lt ta lo, bTape g ta ab sz ln kd2_85 bg2_86 nx2_87 (-1) fb, bLaw g lo lc lz2_96 ll lm lg ld fc2_97]) := hD
                  exact mret_z hx hb hr hlocks hS (Nat.le_of_ble_eq_true rfl) (Nat.le_of_ble_eq_true rfl) dX2_readAtom_189 (kd2_85, bg2_86, nx2_87, -1, lz2_96, fc2_97, (1 : Int32)) rfl (by decide) (show (0 ≤ lz2_96.toInt ∧ lz2_96.toInt ≤ 400) ∧ (-1 ≤ ((-1) : Int32).toInt) ∧ (0 ≤ nx2_87.toInt ∧ nx2_87.toInt ≤ 400) ∧ (0 ≤ bg2_86.toInt ∧ bg2_86.toInt ≤ 400) ∧ (zKd kd2_85.toInt bg2_86.toInt nx2_87.toInt) ∧ (zTk fb ln.toInt kd2_85.toInt bg2_86.toInt nx2_87.toInt) ∧ (1 = 1 ∧ zAtom fb ln.toInt 0 bg.toInt (.ok bg2_86.toInt) ∧ (-1) = (-1) ∧ zAC (fun e9 v9 => zAv fb ln.toInt e9 0 bg.toInt bg2_86.toInt v9) bg.toInt bg2_86.toInt fc fc2_97 lz.toInt lz2_96.toInt ∨ 1 = 0 ∧ zAtom fb ln.toInt 0 bg.toInt (.bad ((-1) : Int32).toInt)) from ⟨(by first | assumption | omega | exact Or.inl (by decide) | exact Or.inr (by omega)), (by decide), (by first | assumption | omega | exact Or.inl (by decide) | exact Or.inr (by omega)), (by first | assumption | omega | exact Or.inl (by decide) | exact Or.inr (by omega)), (by first | assumption | omega | exact Or.inl (by decide) | exact Or.inr (by omega)), (by assumption), (Or.inl ⟨rfl, zAt_pl (zor_n hq2_k hq9_k) (zPl_all (zor_n hq19_k hq30_k) hq44_k (Or.inr hq75_k) (zMv_mk hq44_5 hq80_3) hq92_k), rfl, (zAC_less (k := 9) (by omega) (zor_n hq2_k hq9_k) hq19_k hq30_k hq44_kc hq75_k (Or.inr ⟨rfl, by decide⟩) (zMv_mk hq44_5 hq80_3) (by decide) hq84_2 hq84_1 hq92_kc (by decide) hq98_2 hq98_1 w81)⟩)⟩) hP hD
                · skip
                  refine lv_if_ne (tgt := 168) hx hb dX2_readAtom_163 (by decide) (fun c99 => absurd (by decide) c99) (fun _ => ?_)
                  refine lv_iconst (v := 0) hx hb dX2_readAtom_166 (by decide) ?_
                  have hP : va_P g.1 vwCl (List.flatten [bLT g lt ta lo, bTape g ta ab sz ln kd2_85 bg2_86 nx2_87 ft2_88 fb, bLaw g lo lc lz2_89 ll lm lg ld fc2_90]) H := hP
                  have hD : va_D A (List.flatten [bLT g lt ta lo, bTape g ta ab sz ln kd2_85 bg2_86 nx2_87 ft2_88 fb, bLaw g lo lc lz2_89 ll lm lg ld fc2_90]) := hD
                  exact mret_z hx hb hr hlocks hS (Nat.le_of_ble_eq_true rfl) (Nat.le_of_ble_eq_true rfl) dX2_readAtom_167 (kd2_85, bg2_86, nx2_87, ft2_88, lz2_89, fc2_90, (0 : Int32)) rfl (by decide) (show (0 ≤ lz2_89.toInt ∧ lz2_89.toInt ≤ 400) ∧ (-1 ≤ ft2_88.toInt) ∧ (0 ≤ nx2_87.toInt ∧ nx2_87.toInt ≤ 400) ∧ (0 ≤ bg2_86.toInt ∧ bg2_86.toInt ≤ 400) ∧ (zKd kd2_85.toInt bg2_86.toInt nx2_87.toInt) ∧ (zTk fb ln.toInt kd2_85.toInt bg2_86.toInt nx2_87.toInt) ∧ (0 = 1 ∧ zAtom fb ln.toInt 0 bg.toInt (.ok bg2_86.toInt) ∧ (-1) = ft2_88 ∧ zAC (fun e9 v9 => zAv fb ln.toInt e9 0 bg.toInt bg2_86.toInt v9) bg.toInt bg2_86.toInt fc fc2_90 lz.toInt lz2_89.toInt ∨ 0 = 0 ∧ zAtom fb ln.toInt 0 bg.toInt (.bad ft2_88.toInt)) from ⟨(by first | assumption | omega | exact Or.inl (by decide) | exact Or.inr (by omega)), (by first | decide | omega), (by first | assumption | omega | exact Or.inl (by decide) | exact Or.inr (by omega)), (by first | assumption | omega | exact Or.inl (by decide) | exact Or.inr (by omega)), (by first | assumption | omega | exact Or.inl (by decide) | exact Or.inr (by omega)), (by assumption), (Or.inr ⟨rfl, zAt_pl (zor_n hq2_k hq9_k) (zPl_all (zor_n hq19_k hq30_k) hq44_k (Or.inr hq75_k) (zMv_mk hq44_5 hq80_3) hq92_k)⟩)⟩) hP hD
              · skip
                refine lv_if_ne (tgt := 141) hx hb dX2_readAtom_130 (by decide) (fun c100 => absurd (by decide) c100) (fun _ => ?_)
                refine lv_aload_n hx hb dX2_readAtom_133 rfl (lv_at hl 1 rfl) ?_
                refine va_get (D := g.1) (ci := 2) (v := .ref ta) (C := RX2) (T := TX2) (N := 2) hx hb hts izRX2 hown hK hP 0 rfl rfl 0 (by decide) (hts _ k290) (fun x9 h9 => u_same (hts _ k291) x9 h9) rfl dX2_readAtom_134 ?_
                refine mcallV' (g := g) (q0 := 0) (ci := 6) (As := []) (rest := []) St hK hT hA hP hD hS hl.1 [2] [0, 1] rfl rfl rfl (c_t_refuseF l g ta ab sz ln kd2_37 bg2_38 nx2_39 fb ) (cwV 0 hts (zgL (zl4 k303 k279 k280 k277) k269) rfl rfl rfl (by decide +kernel) ⟨Nat.le_of_ble_eq_true rfl, Nat.le_of_ble_eq_true rfl⟩) rfl rfl rfl rfl (Nat.le_of_ble_eq_true rfl) dX2_readAtom_137 ⟨(Nat.le_of_ble_eq_true rfl), (Nat.le_of_ble_eq_true rfl)⟩ (fun _u H locs hq101 hP hD hS => ?_)
                have hP : va_P g.1 vwCl (List.flatten [bLT g lt ta lo, bLaw g lo lc lz2_41 ll lm lg ld fc2_42, bTape g ta ab sz ln kd2_37 bg2_38 nx2_39 bg2_38 fb]) H := hP
                have hD : va_D A (List.flatten [bLT g lt ta lo, bLaw g lo lc lz2_41 ll lm lg ld fc2_42, bTape g ta ab sz ln kd2_37 bg2_38 nx2_39 bg2_38 fb]) := hD
                refine W.widen (k := 0) (n := 0) (Nat.le_of_ble_eq_true rfl) (Nat.le_of_ble_eq_true rfl) ?_
                refine W.eq (g2 := F0 m 140 ls [.int 0]) rfl ?_
                have hP : va_P g.1 vwCl (List.flatten [bLT g lt ta lo, bLaw g lo lc lz2_41 ll lm lg ld fc2_42, bTape g ta ab sz ln kd2_37 bg2_38 nx2_39 bg2_38 fb]) H := hP
                have hD : va_D A (List.flatten [bLT g lt ta lo, bLaw g lo lc lz2_41 ll lm lg ld fc2_42, bTape g ta ab sz ln kd2_37 bg2_38 nx2_39 bg2_38 fb]) := hD
                obtain ⟨hP, hD⟩ := zord (g := g) (Bs' := [bLT g lt ta lo, bTape g ta ab sz ln kd2_37 bg2_38 nx2_39 bg2_38 fb, bLaw g lo lc lz2_41 ll lm lg ld fc2_42]) [0, 2, 1] rfl rfl hP hD
                exact mret_z hx hb hr hlocks hS (Nat.le_of_ble_eq_true rfl) (Nat.le_of_ble_eq_true rfl) dX2_readAtom_140 (kd2_37, bg2_38, nx2_39, bg2_38, lz2_41, fc2_42, (0 : Int32)) rfl (by decide) (show (0 ≤ lz2_41.toInt ∧ lz2_41.toInt ≤ 400) ∧ (-1 ≤ bg2_38.toInt) ∧ (0 ≤ nx2_39.toInt ∧ nx2_39.toInt ≤ 400) ∧ (0 ≤ bg2_38.toInt ∧ bg2_38.toInt ≤ 400) ∧ (zKd kd2_37.toInt bg2_38.toInt nx2_39.toInt) ∧ (zTk fb ln.toInt kd2_37.toInt bg2_38.toInt nx2_39.toInt) ∧ (0 = 1 ∧ zAtom fb ln.toInt 0 bg.toInt (.ok bg2_38.toInt) ∧ (-1) = bg2_38 ∧ zAC (fun e9 v9 => zAv fb ln.toInt e9 0 bg.toInt bg2_38.toInt v9) bg.toInt bg2_38.toInt fc fc2_42 lz.toInt lz2_41.toInt ∨ 0 = 0 ∧ zAtom fb ln.toInt 0 bg.toInt (.bad bg2_38.toInt)) from ⟨(by first | assumption | omega | exact Or.inl (by decide) | exact Or.inr (by omega)), (by first | decide | omega), (by first | assumption | omega | exact Or.inl (by decide) | exact Or.inr (by omega)), (by first | assumption | omega | exact Or.inl (by decide) | exact Or.inr (by omega)), (by first | assumption | omega | exact Or.inl (by decide) | exact Or.inr (by omega)), (by assumption), (Or.inr ⟨rfl, zAt_pl (zor_n hq2_k hq9_k) (.bad2 (zor_n hq19_k hq30_k) hq44_k (zor_n hq48_k hq75_k))⟩)⟩) hP hD
          · skip
            refine lv_if_ne (tgt := 107) hx hb dX2_readAtom_102 (by decide) (fun c102 => absurd (by decide) c102) (fun _ => ?_)
            refine lv_iconst (v := 0) hx hb dX2_readAtom_105 (by decide) ?_
            have hP : va_P g.1 vwCl (List.flatten [bLT g lt ta lo, bTape g ta ab sz ln kd2_37 bg2_38 nx2_39 ft2_40 fb, bLaw g lo lc lz2_41 ll lm lg ld fc2_42]) H := hP
            have hD : va_D A (List.flatten [bLT g lt ta lo, bTape g ta ab sz ln kd2_37 bg2_38 nx2_39 ft2_40 fb, bLaw g lo lc lz2_41 ll lm lg ld fc2_42]) := hD
            exact mret_z hx hb hr hlocks hS (Nat.le_of_ble_eq_true rfl) (Nat.le_of_ble_eq_true rfl) dX2_readAtom_106 (kd2_37, bg2_38, nx2_39, ft2_40, lz2_41, fc2_42, (0 : Int32)) rfl (by decide) (show (0 ≤ lz2_41.toInt ∧ lz2_41.toInt ≤ 400) ∧ (-1 ≤ ft2_40.toInt) ∧ (0 ≤ nx2_39.toInt ∧ nx2_39.toInt ≤ 400) ∧ (0 ≤ bg2_38.toInt ∧ bg2_38.toInt ≤ 400) ∧ (zKd kd2_37.toInt bg2_38.toInt nx2_39.toInt) ∧ (zTk fb ln.toInt kd2_37.toInt bg2_38.toInt nx2_39.toInt) ∧ (0 = 1 ∧ zAtom fb ln.toInt 0 bg.toInt (.ok bg2_38.toInt) ∧ (-1) = ft2_40 ∧ zAC (fun e9 v9 => zAv fb ln.toInt e9 0 bg.toInt bg2_38.toInt v9) bg.toInt bg2_38.toInt fc fc2_42 lz.toInt lz2_41.toInt ∨ 0 = 0 ∧ zAtom fb ln.toInt 0 bg.toInt (.bad ft2_40.toInt)) from ⟨(by first | assumption | omega | exact Or.inl (by decide) | exact Or.inr (by omega)), (by first | decide | omega), (by first | assumption | omega | exact Or.inl (by decide) | exact Or.inr (by omega)), (by first | assumption | omega | exact Or.inl (by decide) | exact Or.inr (by omega)), (by first | assumption | omega | exact Or.inl (by decide) | exact Or.inr (by omega)), (by assumption), (Or.inr ⟨rfl, zAt_pl (zor_n hq2_k hq9_k) (.bad1 (zor_n hq19_k hq30_k) hq44_k)⟩)⟩) hP hD
