/-! THE TOWN'S TEXT: what a line does to a town (people, works, chest, journey, truth, day, rows) -/
abbrev zTst : Type := Int32 × Int32 × Int32 × Int32 × Int32 × Int32 × zRw
def zSR (s t : zTst) : Prop := s.1 = t.1 ∧ s.2.1 = t.2.1 ∧ s.2.2.1 = t.2.2.1 ∧ s.2.2.2.1 = t.2.2.2.1 ∧ s.2.2.2.2.1 = t.2.2.2.2.1 ∧ s.2.2.2.2.2.1 = t.2.2.2.2.2.1 ∧ zEq s.2.2.2.2.2.2 t.2.2.2.2.2.2
theorem zSR_r (s : zTst) : zSR s s := ⟨rfl, rfl, rfl, rfl, rfl, rfl, zEq_r _⟩
theorem zSR_t {a b c : zTst} (h : zSR a b) (k : zSR b c) : zSR a c := ⟨h.1.trans k.1, h.2.1.trans k.2.1, h.2.2.1.trans k.2.2.1, h.2.2.2.1.trans k.2.2.2.1, h.2.2.2.2.1.trans k.2.2.2.2.1, h.2.2.2.2.2.1.trans k.2.2.2.2.2.1, zEq_t h.2.2.2.2.2.2 k.2.2.2.2.2.2⟩
theorem zSR_s {a b : zTst} (h : zSR a b) : zSR b a := ⟨h.1.symm, h.2.1.symm, h.2.2.1.symm, h.2.2.2.1.symm, h.2.2.2.2.1.symm, h.2.2.2.2.2.1.symm, zEq_s h.2.2.2.2.2.2⟩
/-- the model's row so -/
def zSm (fm : Nat → Int32) : zTst := (fm 3, fm 4, fm 5, fm 6, fm 7, fm 8, zV fm)
def zPer (f : zRw) (p : Nat) (b u d : Int32) : zRw := zSet (zSet (zSet (zSet (zSet f 0 p b) 1 p u) 2 p 0) 3 p (-1)) 4 p d
def zWrk (f : zRw) (w : Nat) (c d g : Int32) : zRw := zSet (zSet (zSet (zSet f 6 w c) 7 w d) 8 w g) 9 w 0
def zTrs (tp : Nat → Int32) (x b k : Nat) (f : zRw) : zRw := zu f 5 (fun j => if j / 8 = x ∧ j % 8 < k ∧ ¬ j % 8 = x then tp (b + j % 8) - 48 else f 5 j)
def zTl1 (tp : Nat → Int32) (c : zCm) (s : zTst) : zTst :=
  if c.1 = 0 then (s.1 + 1, s.2.1, s.2.2.1, s.2.2.2.1, s.2.2.2.2.1, s.2.2.2.2.2.1, zPer s.2.2.2.2.2.2 s.1.toInt.toNat (Int32.ofInt c.2.1) (Int32.ofInt c.2.2.1) (Int32.ofInt c.2.2.2))
  else if c.1 = 1 then (s.1, s.2.1 + 1, s.2.2.1, s.2.2.2.1, s.2.2.2.2.1, s.2.2.2.2.2.1, zWrk s.2.2.2.2.2.2 s.2.1.toInt.toNat (Int32.ofInt c.2.1) (Int32.ofInt c.2.2.1) (Int32.ofInt c.2.2.2))
  else if c.1 = 2 then (s.1, s.2.1, s.2.2.1, s.2.2.2.1, s.2.2.2.2.1, s.2.2.2.2.2.1, zTrs tp c.2.1.toNat c.2.2.1.toNat s.1.toInt.toNat s.2.2.2.2.2.2)
  else if c.1 = 3 then (s.1, s.2.1, s.2.2.1, s.2.2.2.1, s.2.2.2.2.1, s.2.2.2.2.2.1, zSet s.2.2.2.2.2.2 2 c.2.1.toNat (Int32.ofInt c.2.2.1))
  else if c.1 = 4 then (s.1, s.2.1, Int32.ofInt c.2.1, s.2.2.2.1, s.2.2.2.2.1, s.2.2.2.2.2.1, s.2.2.2.2.2.2)
  else if c.1 = 5 then (s.1, s.2.1, s.2.2.1, Int32.ofInt c.2.1, s.2.2.2.2.1, s.2.2.2.2.2.1, s.2.2.2.2.2.2)
  else if c.1 = 6 then (s.1, s.2.1, s.2.2.1, s.2.2.2.1, Int32.ofInt c.2.1, s.2.2.2.2.2.1, s.2.2.2.2.2.2)
  else (s.1, s.2.1, s.2.2.1, s.2.2.2.1, s.2.2.2.2.1, Int32.ofInt c.2.1, s.2.2.2.2.2.2)
theorem zTl1_0 {tp : Nat → Int32} {x y z : Int} {pe wo ch jo tr dy : Int32} {f : zRw} : zTl1 tp (0, x, y, z) (pe, wo, ch, jo, tr, dy, f) = (pe + 1, wo, ch, jo, tr, dy, zPer f pe.toInt.toNat (Int32.ofInt x) (Int32.ofInt y) (Int32.ofInt z)) := if_pos rfl
theorem zTl1_1 {tp : Nat → Int32} {x y z : Int} {pe wo ch jo tr dy : Int32} {f : zRw} : zTl1 tp (1, x, y, z) (pe, wo, ch, jo, tr, dy, f) = (pe, wo + 1, ch, jo, tr, dy, zWrk f wo.toInt.toNat (Int32.ofInt x) (Int32.ofInt y) (Int32.ofInt z)) := (if_neg (show ¬ (1 : Int) = 0 by decide)).trans (if_pos rfl)
theorem zTl1_2 {tp : Nat → Int32} {x y z : Int} {pe wo ch jo tr dy : Int32} {f : zRw} : zTl1 tp (2, x, y, z) (pe, wo, ch, jo, tr, dy, f) = (pe, wo, ch, jo, tr, dy, zTrs tp x.toNat y.toNat pe.toInt.toNat f) := (if_neg (show ¬ (2 : Int) = 0 by decide)).trans ((if_neg (show ¬ (2 : Int) = 1 by decide)).trans (if_pos rfl))
theorem zTl1_3 {tp : Nat → Int32} {x y z : Int} {pe wo ch jo tr dy : Int32} {f : zRw} : zTl1 tp (3, x, y, z) (pe, wo, ch, jo, tr, dy, f) = (pe, wo, ch, jo, tr, dy, zSet f 2 x.toNat (Int32.ofInt y)) := (if_neg (show ¬ (3 : Int) = 0 by decide)).trans ((if_neg (show ¬ (3 : Int) = 1 by decide)).trans ((if_neg (show ¬ (3 : Int) = 2 by decide)).trans (if_pos rfl)))
theorem zTl1_4 {tp : Nat → Int32} {x y z : Int} {pe wo ch jo tr dy : Int32} {f : zRw} : zTl1 tp (4, x, y, z) (pe, wo, ch, jo, tr, dy, f) = (pe, wo, Int32.ofInt x, jo, tr, dy, f) := (if_neg (show ¬ (4 : Int) = 0 by decide)).trans ((if_neg (show ¬ (4 : Int) = 1 by decide)).trans ((if_neg (show ¬ (4 : Int) = 2 by decide)).trans ((if_neg (show ¬ (4 : Int) = 3 by decide)).trans (if_pos rfl))))
theorem zTl1_5 {tp : Nat → Int32} {x y z : Int} {pe wo ch jo tr dy : Int32} {f : zRw} : zTl1 tp (5, x, y, z) (pe, wo, ch, jo, tr, dy, f) = (pe, wo, ch, Int32.ofInt x, tr, dy, f) := (if_neg (show ¬ (5 : Int) = 0 by decide)).trans ((if_neg (show ¬ (5 : Int) = 1 by decide)).trans ((if_neg (show ¬ (5 : Int) = 2 by decide)).trans ((if_neg (show ¬ (5 : Int) = 3 by decide)).trans ((if_neg (show ¬ (5 : Int) = 4 by decide)).trans (if_pos rfl)))))
theorem zTl1_6 {tp : Nat → Int32} {x y z : Int} {pe wo ch jo tr dy : Int32} {f : zRw} : zTl1 tp (6, x, y, z) (pe, wo, ch, jo, tr, dy, f) = (pe, wo, ch, jo, Int32.ofInt x, dy, f) := (if_neg (show ¬ (6 : Int) = 0 by decide)).trans ((if_neg (show ¬ (6 : Int) = 1 by decide)).trans ((if_neg (show ¬ (6 : Int) = 2 by decide)).trans ((if_neg (show ¬ (6 : Int) = 3 by decide)).trans ((if_neg (show ¬ (6 : Int) = 4 by decide)).trans ((if_neg (show ¬ (6 : Int) = 5 by decide)).trans (if_pos rfl))))))
theorem zTl1_7 {tp : Nat → Int32} {x y z : Int} {pe wo ch jo tr dy : Int32} {f : zRw} : zTl1 tp (7, x, y, z) (pe, wo, ch, jo, tr, dy, f) = (pe, wo, ch, jo, tr, Int32.ofInt x, f) := (if_neg (show ¬ (7 : Int) = 0 by decide)).trans ((if_neg (show ¬ (7 : Int) = 1 by decide)).trans ((if_neg (show ¬ (7 : Int) = 2 by decide)).trans ((if_neg (show ¬ (7 : Int) = 3 by decide)).trans ((if_neg (show ¬ (7 : Int) = 4 by decide)).trans ((if_neg (show ¬ (7 : Int) = 5 by decide)).trans (if_neg (show ¬ (7 : Int) = 6 by decide)))))))
theorem zTrs_c {tp : Nat → Int32} {x b k : Nat} {f f' : zRw} (h : zEq f f') : zEq (zTrs tp x b k f) (zTrs tp x b k f') := by
  refine ⟨fun q y h1 h2 => ?_, fun y o h1 h2 h3 => ?_, fun q y h1 h2 h3 => ?_⟩
  · show (if q = 5 then _ else f q) y = (if q = 5 then _ else f' q) y
    rw [if_neg (by omega), if_neg (by omega)]; exact h.1 q y h1 h2
  · show (if (8 * y + o) / 8 = x ∧ (8 * y + o) % 8 < k ∧ ¬ (8 * y + o) % 8 = x then tp (b + (8 * y + o) % 8) - 48 else f 5 (8 * y + o)) = (if (8 * y + o) / 8 = x ∧ (8 * y + o) % 8 < k ∧ ¬ (8 * y + o) % 8 = x then tp (b + (8 * y + o) % 8) - 48 else f' 5 (8 * y + o))
    rw [h.2.1 y o h1 h2 h3]
  · show (if q = 5 then _ else f q) y = (if q = 5 then _ else f' q) y
    rw [if_neg (by omega), if_neg (by omega)]; exact h.2.2 q y h1 h2 h3
theorem zPer_c {f f' : zRw} {p : Nat} {b u d : Int32} (h : zEq f f') : zEq (zPer f p b u d) (zPer f' p b u d) := zSet_c (zSet_c (zSet_c (zSet_c (zSet_c h rfl) rfl) rfl) rfl) rfl
theorem zWrk_c {f f' : zRw} {p : Nat} {b u d : Int32} (h : zEq f f') : zEq (zWrk f p b u d) (zWrk f' p b u d) := zSet_c (zSet_c (zSet_c (zSet_c h rfl) rfl) rfl) rfl
theorem zTl1_c {tp : Nat → Int32} {c : zCm} {s t : zTst} (h : zSR s t) : zSR (zTl1 tp c s) (zTl1 tp c t) := by
  obtain ⟨s1, s2, s3, s4, s5, s6, s7⟩ := s
  obtain ⟨t1, t2, t3, t4, t5, t6, t7⟩ := t
  obtain ⟨e1, e2, e3, e4, e5, e6, e7⟩ := h
  have e1' : s1 = t1 := e1
  have e2' : s2 = t2 := e2
  have e3' : s3 = t3 := e3
  have e4' : s4 = t4 := e4
  have e5' : s5 = t5 := e5
  have e6' : s6 = t6 := e6
  have e7' : zEq s7 t7 := e7
  subst e1'; subst e2'; subst e3'; subst e4'; subst e5'; subst e6'
  unfold zTl1
  by_cases c0 : c.1 = 0
  · rw [if_pos c0, if_pos c0]; exact ⟨rfl, rfl, rfl, rfl, rfl, rfl, zPer_c e7'⟩
  rw [if_neg c0, if_neg c0]
  by_cases c1 : c.1 = 1
  · rw [if_pos c1, if_pos c1]; exact ⟨rfl, rfl, rfl, rfl, rfl, rfl, zWrk_c e7'⟩
  rw [if_neg c1, if_neg c1]
  by_cases c2 : c.1 = 2
  · rw [if_pos c2, if_pos c2]; exact ⟨rfl, rfl, rfl, rfl, rfl, rfl, zTrs_c e7'⟩
  rw [if_neg c2, if_neg c2]
  by_cases c3 : c.1 = 3
  · rw [if_pos c3, if_pos c3]; exact ⟨rfl, rfl, rfl, rfl, rfl, rfl, zSet_c e7' rfl⟩
  rw [if_neg c3, if_neg c3]
  by_cases c4 : c.1 = 4
  · rw [if_pos c4, if_pos c4]; exact ⟨rfl, rfl, rfl, rfl, rfl, rfl, e7'⟩
  rw [if_neg c4, if_neg c4]
  by_cases c5 : c.1 = 5
  · rw [if_pos c5, if_pos c5]; exact ⟨rfl, rfl, rfl, rfl, rfl, rfl, e7'⟩
  rw [if_neg c5, if_neg c5]
  by_cases c6 : c.1 = 6
  · rw [if_pos c6, if_pos c6]; exact ⟨rfl, rfl, rfl, rfl, rfl, rfl, e7'⟩
  rw [if_neg c6, if_neg c6]; exact ⟨rfl, rfl, rfl, rfl, rfl, rfl, e7'⟩
/-! lines, so many still allowed -/
def zTLv (f : Nat → Int32) (n : Int) : Nat → zTst → Int → zTst → Prop
  | 0, _, _, _ => False
  | k + 1, s, b, s2 => ∃ b1 c, zTLine f n s.1.toInt s.2.1.toInt b (.ok b1 c) ∧ ((n ≤ b1 ∧ s2 = zTl1 f c s) ∨ (¬ n ≤ b1 ∧ zisS f n b1 59 ∧ zTLv f n k (zTl1 f c s) (znt f n b1) s2))
theorem zTLv_c {f : Nat → Int32} {n : Int} : ∀ (k : Nat) {s t : zTst} {b : Int} {s2 t2 : zTst}, zSR s t → zTLv f n k s b s2 → zTLv f n k t b t2 → zSR s2 t2
  | 0, _, _, _, _, _, _, h, _ => False.elim h
  | k + 1, s, t, b, s2, t2, R, h, h' => by
    obtain ⟨b1, c, a, h2⟩ := (show ∃ b1 c, zTLine f n s.1.toInt s.2.1.toInt b (.ok b1 c) ∧ ((n ≤ b1 ∧ s2 = zTl1 f c s) ∨ (¬ n ≤ b1 ∧ zisS f n b1 59 ∧ zTLv f n k (zTl1 f c s) (znt f n b1) s2)) from h)
    obtain ⟨b1', c', a', h2'⟩ := (show ∃ b1 c, zTLine f n t.1.toInt t.2.1.toInt b (.ok b1 c) ∧ ((n ≤ b1 ∧ t2 = zTl1 f c t) ∨ (¬ n ≤ b1 ∧ zisS f n b1 59 ∧ zTLv f n k (zTl1 f c t) (znt f n b1) t2)) from h')
    rw [← R.1, ← R.2.1] at a'
    obtain ⟨eb, ec⟩ := zTs.okj (zTLine_det a a')
    subst eb; subst ec
    rcases h2 with ⟨q, e⟩ | ⟨q, _, d⟩
    · rcases h2' with ⟨_, e'⟩ | ⟨q', _⟩
      · rw [e, e']; exact zTl1_c R
      · exact absurd q q'
    · rcases h2' with ⟨q', _⟩ | ⟨_, _, d'⟩
      · exact absurd q' q
      · exact zTLv_c k (zTl1_c R) d d'
/-- a line's good end, and what it did -/
def zTQ (R : zTs → Prop) (tp : Nat → Int32) (b2 : Int) (s s2 : zTst) : Prop := ∃ c, R (.ok b2 c) ∧ zSR s2 (zTl1 tp c s)
theorem zTQ_i {R R' : zTs → Prop} {tp : Nat → Int32} {b2 : Int} {s s2 : zTst} (t : zTQ R tp b2 s s2) (h : ∀ c, R (.ok b2 c) → R' (.ok b2 c)) : zTQ R' tp b2 s s2 := by
  obtain ⟨c, a, d⟩ := t
  exact ⟨c, h c a, d⟩
/-- ahead of a line; s0, b0: where it all began -/
def zJv (f : Nat → Int32) (n : Int) (m : Nat) (s0 : zTst) (b0 : Int) (k : Nat) (s : zTst) (b : Int) : Prop := ∃ t, zSR s t ∧ ∀ s2, zTLv f n k t b s2 → zTLv f n m s0 b0 s2
def zEv (f : Nat → Int32) (n : Int) (m : Nat) (s0 : zTst) (b0 : Int) (s : zTst) : Prop := ∃ s2, zSR s s2 ∧ zTLv f n m s0 b0 s2
theorem zJv_0 {f : Nat → Int32} {n : Int} {m k : Nat} {s0 : zTst} {b0 : Int} (h : k = m) : zJv f n m s0 b0 k s0 b0 := by subst h; exact ⟨s0, zSR_r _, fun _ h => h⟩
theorem zJv_k {f : Nat → Int32} {n : Int} {m k k' : Nat} {s0 s : zTst} {b0 b : Int} (J : zJv f n m s0 b0 k s b) (h : k' = k) : zJv f n m s0 b0 k' s b := by subst h; exact J
theorem zJv_s {f : Nat → Int32} {n : Int} {m k k' : Nat} {s0 s s2 : zTst} {b0 b b1 b2 p w : Int} (J : zJv f n m s0 b0 k s b) (hk : k = k' + 1) (hp : p = s.1.toInt) (hw : w = s.2.1.toInt) (h : zTQ (zTLine f n p w b) f b1 s s2) (he : ¬ n ≤ b1) (hs : zisS f n b1 59) (mv : zMv f n b1 b2) : zJv f n m s0 b0 k' s2 b2 := by
  obtain ⟨t, R, J⟩ := J
  obtain ⟨c, a, d⟩ := h
  have e := znt_of mv
  subst e; subst hk; subst hp; subst hw
  rw [R.1, R.2.1] at a
  exact ⟨zTl1 f c t, zSR_t d (zTl1_c R), fun s2 q => J s2 ⟨b1, c, a, Or.inr ⟨he, hs, q⟩⟩⟩
theorem zJv_e {f : Nat → Int32} {n : Int} {m k : Nat} {s0 s s2 : zTst} {b0 b b1 p w : Int} (J : zJv f n m s0 b0 k s b) (hk : 0 < k) (hp : p = s.1.toInt) (hw : w = s.2.1.toInt) (h : zTQ (zTLine f n p w b) f b1 s s2) (he : n ≤ b1) : zEv f n m s0 b0 s2 := by
  obtain ⟨t, R, J⟩ := J
  obtain ⟨c, a, d⟩ := h
  obtain ⟨k', rfl⟩ : ∃ k', k = k' + 1 := ⟨k - 1, by omega⟩
  subst hp; subst hw
  rw [R.1, R.2.1] at a
  exact ⟨zTl1 f c t, zSR_t d (zTl1_c R), J _ ⟨b1, c, a, Or.inl ⟨he, rfl⟩⟩⟩
theorem zEv_d {f : Nat → Int32} {n : Int} {m : Nat} {s0 t0 s t : zTst} {b0 : Int} (R : zSR s0 t0) (h : zEv f n m s0 b0 s) (h' : zEv f n m t0 b0 t) : zSR s t := by
  obtain ⟨s2, a, d⟩ := h
  obtain ⟨t2, a', d'⟩ := h'
  exact zSR_t a (zSR_t (zTLv_c m R d d') (zSR_s a'))
/-! nobody trusts, or is trusted, who is not there -/
def zAb (f : zRw) (pe : Int) : Prop := ∀ x o : Nat, x < 8 → o < 8 → ¬ x = o → (pe ≤ (x : Int) ∨ pe ≤ (o : Int)) → f 5 (8 * x + o) = 0
theorem zAb_c {f g : zRw} {pe : Int} (h : zAb f pe) (e : zEq g f) : zAb g pe := fun x o hx ho hn hp => (e.2.1 x o hx ho hn).trans (h x o hx ho hn hp)
theorem zAb_le {f : zRw} {pe pe2 : Int} (h : zAb f pe) (e : pe ≤ pe2) : zAb f pe2 := fun x o hx ho hn hp => h x o hx ho hn (by omega)
theorem zAb_5 {f g : zRw} {pe : Int} (h : zAb f pe) (e : g 5 = f 5) : zAb g pe := fun x o hx ho hn hp => (congrFun e _).trans (h x o hx ho hn hp)
theorem zPer_5 (f : zRw) (p : Nat) (b u d : Int32) : zPer f p b u d 5 = f 5 := by
  unfold zPer
  rw [zSet_r _ _ _ _ (by decide), zSet_r _ _ _ _ (by decide), zSet_r _ _ _ _ (by decide), zSet_r _ _ _ _ (by decide), zSet_r _ _ _ _ (by decide)]
theorem zWrk_5 (f : zRw) (p : Nat) (b u d : Int32) : zWrk f p b u d 5 = f 5 := by
  unfold zWrk
  rw [zSet_r _ _ _ _ (by decide), zSet_r _ _ _ _ (by decide), zSet_r _ _ _ _ (by decide), zSet_r _ _ _ _ (by decide)]
theorem zTrs_Ab {tp : Nat → Int32} {x b : Nat} {f : zRw} {pe : Int} (hx : (x : Int) < pe) (hp : pe ≤ 8) (h : zAb f pe) : zAb (zTrs tp x b pe.toNat f) pe := fun y o hy ho hn hq => by
  show (if (8 * y + o) / 8 = x ∧ (8 * y + o) % 8 < pe.toNat ∧ ¬ (8 * y + o) % 8 = x then tp (b + (8 * y + o) % 8) - 48 else f 5 (8 * y + o)) = 0
  rw [if_neg (by omega)]; exact h y o hy ho hn hq
/-- trust set to 0 where it is 0 -/
theorem zAb_z {f g : zRw} {pe : Int} {x o : Nat} (h : zAb f pe) (hx : x < 8) (ho : o < 8) (hp : pe ≤ (x : Int) ∨ pe ≤ (o : Int)) (e : zEq g f) : zEq (zSet g 5 (8 * x + o) 0) f := by
  refine ⟨fun q y h1 h2 => ?_, fun y p h1 h2 h3 => ?_, fun q y h1 h2 h3 => ?_⟩
  · rw [zSet_a, if_neg (by omega)]; exact e.1 q y h1 h2
  · rw [zSet_a]
    by_cases c : 8 * y + p = 8 * x + o
    · rw [if_pos ⟨rfl, c⟩]
      have e1 : y = x := by omega
      have e2 : p = o := by omega
      subst e1; subst e2
      exact (h y p h1 h2 h3 hp).symm
    · rw [if_neg (fun q => c q.2)]; exact e.2.1 y p h1 h2 h3
  · rw [zSet_a, if_neg (by omega)]; exact e.2.2 q y h1 h2 h3
/-- the diagonal is nobody's -/
theorem zSet_dg {g : zRw} {x : Nat} {v : Int32} (hx : x < 8) : zEq (zSet g 5 (8 * x + x) v) g := by
  refine ⟨fun q y h1 h2 => ?_, fun y p h1 h2 h3 => ?_, fun q y h1 h2 h3 => ?_⟩
  · rw [zSet_a, if_neg (by omega)]
  · rw [zSet_a, if_neg (by omega)]
  · rw [zSet_a, if_neg (by omega)]
theorem zu_e (f : zRw) {r : Nat} {g h : Nat → Int32} (e : ∀ j, g j = h j) : zu f r g = zu f r h := by rw [show g = h from funext e]
theorem zTrs_0 (tp : Nat → Int32) (x b : Nat) (f : zRw) : zTrs tp x b 0 f = f := by
  funext r j
  show (if r = 5 then (fun j => if j / 8 = x ∧ j % 8 < 0 ∧ ¬ j % 8 = x then tp (b + j % 8) - 48 else f 5 j) else f r) j = f r j
  by_cases q : r = 5
  · rw [if_pos q, q]; exact if_neg (by omega)
  · rw [if_neg q]
theorem zTrs_s {tp : Nat → Int32} {x b k : Nat} {f : zRw} (hk : k < 8) (hx : ¬ k = x) : zSet (zTrs tp x b k f) 5 (8 * x + k) (tp (b + k) - 48) = zTrs tp x b (k + 1) f := by
  funext r j
  rw [zSet_a]
  show _ = (if r = 5 then (fun j => if j / 8 = x ∧ j % 8 < k + 1 ∧ ¬ j % 8 = x then tp (b + j % 8) - 48 else f 5 j) else f r) j
  by_cases q : r = 5
  · rw [if_pos q]
    show _ = if j / 8 = x ∧ j % 8 < k + 1 ∧ ¬ j % 8 = x then tp (b + j % 8) - 48 else f 5 j
    by_cases p : j = 8 * x + k
    · rw [if_pos ⟨q, p⟩, if_pos (by omega), show j % 8 = k by omega]
    · rw [if_neg (fun o => p o.2), q]
      show (if j / 8 = x ∧ j % 8 < k ∧ ¬ j % 8 = x then tp (b + j % 8) - 48 else f 5 j) = _
      by_cases w : j / 8 = x ∧ j % 8 < k ∧ ¬ j % 8 = x
      · rw [if_pos w, if_pos (by omega)]
      · rw [if_neg w, if_neg (by omega)]
  · rw [if_neg (fun o => q o.1), if_neg q]
    show (if r = 5 then _ else f r) j = f r j
    rw [if_neg q]
theorem zTrs_x {tp : Nat → Int32} {x b k : Nat} {f : zRw} (hx : k = x) : zTrs tp x b (k + 1) f = zTrs tp x b k f := by
  refine zu_e f (fun j => ?_)
  by_cases w : j / 8 = x ∧ j % 8 < k ∧ ¬ j % 8 = x
  · rw [if_pos w, if_pos (by omega)]
  · rw [if_neg w, if_neg (by omega)]
theorem zoi (v : Int32) : Int32.ofInt v.toInt = v := Int32.ofInt_toInt v
theorem zN01 {d : Int32} (h : d = 0 ∨ d = 1) : vp_nar .boolean d = d := by
  rcases h with h | h <;> subst h <;> rfl
theorem zSR_0 {tp : Nat → Int32} {x y z : Int} {pe pe2 wo ch jo tr dy b u d : Int32} {f f2 : zRw} (hx : Int32.ofInt x = b) (hy : Int32.ofInt y = u) (hz : Int32.ofInt z = d) (e1 : pe2 = pe + 1) (e7 : zEq f2 (zPer f pe.toInt.toNat b u d)) : zSR (pe2, wo, ch, jo, tr, dy, f2) (zTl1 tp (0, x, y, z) (pe, wo, ch, jo, tr, dy, f)) := by
  rw [zTl1_0, hx, hy, hz]; exact ⟨e1, rfl, rfl, rfl, rfl, rfl, e7⟩
theorem zSR_1 {tp : Nat → Int32} {x y z : Int} {pe wo wo2 ch jo tr dy b u d : Int32} {f f2 : zRw} (hx : Int32.ofInt x = b) (hy : Int32.ofInt y = u) (hz : Int32.ofInt z = d) (e1 : wo2 = wo + 1) (e7 : zEq f2 (zWrk f wo.toInt.toNat b u d)) : zSR (pe, wo2, ch, jo, tr, dy, f2) (zTl1 tp (1, x, y, z) (pe, wo, ch, jo, tr, dy, f)) := by
  rw [zTl1_1, hx, hy, hz]; exact ⟨rfl, e1, rfl, rfl, rfl, rfl, e7⟩
theorem zSR_2 {tp : Nat → Int32} {x y z : Int} {pe wo ch jo tr dy : Int32} {f f2 : zRw} (e7 : zEq f2 (zTrs tp x.toNat y.toNat pe.toInt.toNat f)) : zSR (pe, wo, ch, jo, tr, dy, f2) (zTl1 tp (2, x, y, z) (pe, wo, ch, jo, tr, dy, f)) := by
  rw [zTl1_2]; exact ⟨rfl, rfl, rfl, rfl, rfl, rfl, e7⟩
theorem zSR_3 {tp : Nat → Int32} {x y z : Int} {pe wo ch jo tr dy b : Int32} {f f2 : zRw} (hy : Int32.ofInt y = b) (e7 : zEq f2 (zSet f 2 x.toNat b)) : zSR (pe, wo, ch, jo, tr, dy, f2) (zTl1 tp (3, x, y, z) (pe, wo, ch, jo, tr, dy, f)) := by
  rw [zTl1_3, hy]; exact ⟨rfl, rfl, rfl, rfl, rfl, rfl, e7⟩
theorem zSR_4 {tp : Nat → Int32} {y z : Int} {pe wo ch jo tr dy v : Int32} {f : zRw} : zSR (pe, wo, v, jo, tr, dy, f) (zTl1 tp (4, v.toInt, y, z) (pe, wo, ch, jo, tr, dy, f)) := by rw [zTl1_4, zoi]; exact zSR_r _
theorem zSR_5 {tp : Nat → Int32} {y z : Int} {pe wo ch jo tr dy v : Int32} {f : zRw} : zSR (pe, wo, ch, v, tr, dy, f) (zTl1 tp (5, v.toInt, y, z) (pe, wo, ch, jo, tr, dy, f)) := by rw [zTl1_5, zoi]; exact zSR_r _
theorem zSR_6 {tp : Nat → Int32} {y z : Int} {pe wo ch jo tr dy v : Int32} {f : zRw} : zSR (pe, wo, ch, jo, v, dy, f) (zTl1 tp (6, v.toInt, y, z) (pe, wo, ch, jo, tr, dy, f)) := by rw [zTl1_6, zoi]; exact zSR_r _
theorem zSR_7 {tp : Nat → Int32} {y z : Int} {pe wo ch jo tr dy v : Int32} {f : zRw} : zSR (pe, wo, ch, jo, tr, v, f) (zTl1 tp (7, v.toInt, y, z) (pe, wo, ch, jo, tr, dy, f)) := by rw [zTl1_7, zoi]; exact zSR_r _
theorem zAb_p {f f2 : zRw} {pe pe2 : Int} {p : Nat} {b u d : Int32} (h : zAb f pe) (l : pe ≤ pe2) (e : zEq f2 (zPer f p b u d)) : zAb f2 pe2 := zAb_c (zAb_5 (zAb_le h l) (zPer_5 f p b u d)) e
theorem zAb_w {f f2 : zRw} {pe : Int} {p : Nat} {b u d : Int32} (h : zAb f pe) (e : f2 = zWrk f p b u d) : zAb f2 pe := by rw [e]; exact zAb_5 h (zWrk_5 f p b u d)
theorem zEq_o {f f2 : zRw} (e : f2 = f) : zEq f2 f := by subst e; exact zEq_r _
theorem zpe1 {p : Int32} (h : 0 ≤ p.toInt ∧ p.toInt ≤ 8) : (p + 1).toInt = p.toInt + 1 := zadd (i := p.toInt) (j := 1) rfl (by decide) (by omega)
theorem zTrs_e {f f2 : zRw} {tp : Nat → Int32} {x b : Nat} {k pe : Int} (h : f2 = zTrs tp x b k.toNat f) (e : k = pe) : f2 = zTrs tp x b pe.toNat f := by subst e; exact h
theorem zTrs_i {f : zRw} {tp : Nat → Int32} {x b : Nat} {k : Int} (e : k = 0) : f = zTrs tp x b k.toNat f := by subst e; exact (zTrs_0 tp x b f).symm
theorem zTrs_j {f f1 f2 : zRw} {tp : Nat → Int32} {x b : Nat} {k k' : Int} {v : Int32} (h : f1 = zTrs tp x b k.toNat f) (hk : k' = k + 1) (h0 : 0 ≤ k ∧ k < 8) (hx : ¬ k.toNat = x) (e : f2 = zSet f1 5 (8 * x + k.toNat) v) (hv : v = tp (b + k.toNat) - 48) : f2 = zTrs tp x b k'.toNat f := by
  rw [e, h, hv, show k'.toNat = k.toNat + 1 by omega]; exact zTrs_s (by omega) hx
theorem zTrs_k {f f1 : zRw} {tp : Nat → Int32} {x b : Nat} {k k' : Int} (h : f1 = zTrs tp x b k.toNat f) (hk : k' = k + 1) (h0 : 0 ≤ k) (hx : k.toNat = x) : f1 = zTrs tp x b k'.toNat f := by
  rw [h, show k'.toNat = k.toNat + 1 by omega]; exact (zTrs_x hx).symm
set_option maxRecDepth 100000 in
set_option maxHeartbeats 4000000 in
theorem c_addPersonC (l : Launch) (g : zG) (o : Nat) (a : Nat → Nat) (pe : Int32) (wo : Int32) (tx : Int32) (ch : Int32) (jo : Int32) (tr : Int32) (dy : Int32) (sd : Int32) (f : Nat → Nat → Int32) (be : Int32) (ha : Int32) (di : Int32) (b_pe : 0 ≤ pe.toInt ∧ pe.toInt ≤ 8) (b_wo : 0 ≤ wo.toInt ∧ wo.toInt ≤ 6) (rf : zZ4 f) (hdi : di = 0 ∨ di = 1) (hp7 : pe.toInt ≤ 7) (hab : zAb f pe.toInt) : zM' g l yX9_addPerson (Cond.code yX9_addPerson cX9_addPerson 6 none :: zB) ({ frames := 1, cells := 0, slots := 0, locals := 23 } : Room) [.ref o, .int be, .int ha, .int di] [bTown g o a pe wo tx ch jo tr dy sd f] (fun u : Int32 × (Nat → Nat → Int32) => (fun (pe2 : Int32) (f2 : Nat → Nat → Int32) => none) (u.1) (u.2)) (fun u : Int32 × (Nat → Nat → Int32) => (fun (pe2 : Int32) (f2 : Nat → Nat → Int32) => (0 ≤ pe2.toInt ∧ pe2.toInt ≤ 8) ∧ (zZ4 f2) ∧ (pe2 = pe + 1) ∧ (pe2.toInt = pe.toInt + 1) ∧ (zEq f2 (zPer f pe.toInt.toNat be ha di))) (u.1) (u.2)) (fun u : Int32 × (Nat → Nat → Int32) => (fun (pe2 : Int32) (f2 : Nat → Nat → Int32) => [bTown g o a pe2 wo tx ch jo tr dy sd f2]) (u.1) (u.2)) := by
  refine zM'.of (cc := cX9_addPerson) (maxL := 6) (rt := none) (by decide) rfl (Nat.le_of_ble_eq_true rfl) ?_
  intro p e s m args below meth c A ls St hr hlocks hin hK hT hA hP hD hS hl
  obtain ⟨hx, hb, hml, hown, hts⟩ := id St
  have hl : lv_has ls 6 [(0, .ref o), (1, .int be), (2, .int ha), (3, .int di)] := hl
  refine lv_aload_n hx hb dX9_addPerson_0 rfl (lv_at hl 0 rfl) ?_
  refine va_get (D := g.1) (ci := 7) (v := .int pe) (C := RX9) (T := TX9) (N := 19) hx hb hts izRX9 hown hK hP 0 rfl rfl 0 (by decide) (hts _ k31) (fun _ h9 => h9) rfl dX9_addPerson_1 ?_
  refine lv_istore (lv' := [(4, .int pe), (0, .ref o), (1, .int be), (2, .int ha), (3, .int di)]) hx hb dX9_addPerson_4 hl (by decide) rfl (fun ls hl => ?_)
  refine lv_iload hx hb dX9_addPerson_6 (lv_at hl 0 rfl) ?_
  refine lv_bipush (v := 8) hx hb dX9_addPerson_8 (by decide) ?_
  refine lv_icmp_lt (tgt := 14) hx hb dX9_addPerson_10 (by decide) (fun cb9 => ?_) (fun cb9 => ?_)
  · skip
    have c1 : pe.toInt < 8 := zlti cb9 rfl (by decide)
    refine lv_aload_n hx hb dX9_addPerson_14 rfl (lv_at hl 1 rfl) ?_
    refine lv_dup hx hb dX9_addPerson_15 rfl ?_
    refine va_get (D := g.1) (ci := 7) (v := .int pe) (C := RX9) (T := TX9) (N := 19) hx hb hts izRX9 hown hK hP 0 rfl rfl 0 (by decide) (hts _ k31) (fun _ h9 => h9) rfl dX9_addPerson_16 ?_
    refine lv_iconst (v := 1) hx hb dX9_addPerson_19 (by decide) ?_
    refine lv_iadd hx hb dX9_addPerson_20 ?_
    refine va_put (D := g.1) (ci := 7) (v := .int (pe + 1)) (ty := .int) (C := RX9) (T := TX9) (N := 19) hx hb hts izRX9 tyX9 tyX9_ok nmX9 hown hK hP hD hS 0 rfl rfl 0 (by decide) (hts _ k31) (fun _ h9 => h9) rfl (by decide +kernel) rfl rfl (Nat.le_of_ble_eq_true rfl) dX9_addPerson_21 (fun H locs hP hD hS => ?_)
    have hP : va_P g.1 vwCl (List.flatten [bTown g o a (pe + 1) wo tx ch jo tr dy sd f]) H := hP
    have hD : va_D A (List.flatten [bTown g o a (pe + 1) wo tx ch jo tr dy sd f]) := hD
    refine lv_aload_n hx hb dX9_addPerson_24 rfl (lv_at hl 1 rfl) ?_
    refine va_get (D := g.1) (ci := 7) (v := .ref (a 0)) (C := RX9) (T := TX9) (N := 19) hx hb hts izRX9 hown hK hP 0 rfl rfl 8 (by decide) (hts _ k9) (fun _ h9 => h9) rfl dX9_addPerson_25 ?_
    refine lv_iload hx hb dX9_addPerson_28 (lv_at hl 0 rfl) ?_
    refine lv_iload_n hx hb dX9_addPerson_30 rfl (lv_at hl 2 rfl) ?_
    refine va_iast hx hb hK hP hD hS 1 0 rfl rfl (zinI (by omega) (by omega)) dX9_addPerson_31 (fun H locs hP hD hS => ?_)
    obtain ⟨f2, rf2, ef2, hP, hD⟩ : ∃ f2 : Nat → Nat → Int32, zZ4 f2 ∧ f2 = zSet f 0 pe.toInt.toNat be ∧ va_P g.1 vwCl (List.flatten [bTown g o a (pe + 1) wo tx ch jo tr dy sd f2]) H ∧ va_D A (List.flatten [bTown g o a (pe + 1) wo tx ch jo tr dy sd f2]) := ⟨zu f 0 (upd (f 0) pe.toNatClampNeg be), (zZ4_u rf (by decide)), rfl, hP, hD⟩
    refine lv_aload_n hx hb dX9_addPerson_32 rfl (lv_at hl 1 rfl) ?_
    refine va_get (D := g.1) (ci := 7) (v := .ref (a 1)) (C := RX9) (T := TX9) (N := 19) hx hb hts izRX9 hown hK hP 0 rfl rfl 9 (by decide) (hts _ k10) (fun _ h9 => h9) rfl dX9_addPerson_33 ?_
    refine lv_iload hx hb dX9_addPerson_36 (lv_at hl 0 rfl) ?_
    refine lv_iload_n hx hb dX9_addPerson_38 rfl (lv_at hl 3 rfl) ?_
    refine va_iast hx hb hK hP hD hS 2 0 rfl rfl (zinI (by omega) (by omega)) dX9_addPerson_39 (fun H locs hP hD hS => ?_)
    obtain ⟨f3, rf3, ef3, hP, hD⟩ : ∃ f3 : Nat → Nat → Int32, zZ4 f3 ∧ f3 = zSet f2 1 pe.toInt.toNat ha ∧ va_P g.1 vwCl (List.flatten [bTown g o a (pe + 1) wo tx ch jo tr dy sd f3]) H ∧ va_D A (List.flatten [bTown g o a (pe + 1) wo tx ch jo tr dy sd f3]) := ⟨zu f2 1 (upd (f2 1) pe.toNatClampNeg ha), (zZ4_u rf2 (by decide)), rfl, hP, hD⟩
    refine lv_aload_n hx hb dX9_addPerson_40 rfl (lv_at hl 1 rfl) ?_
    refine va_get (D := g.1) (ci := 7) (v := .ref (a 2)) (C := RX9) (T := TX9) (N := 19) hx hb hts izRX9 hown hK hP 0 rfl rfl 10 (by decide) (hts _ k11) (fun _ h9 => h9) rfl dX9_addPerson_41 ?_
    refine lv_iload hx hb dX9_addPerson_44 (lv_at hl 0 rfl) ?_
    refine lv_iconst (v := 0) hx hb dX9_addPerson_46 (by decide) ?_
    refine va_iast hx hb hK hP hD hS 3 0 rfl rfl (zinI (by omega) (by omega)) dX9_addPerson_47 (fun H locs hP hD hS => ?_)
    obtain ⟨f4, rf4, ef4, hP, hD⟩ : ∃ f4 : Nat → Nat → Int32, zZ4 f4 ∧ f4 = zSet f3 2 pe.toInt.toNat 0 ∧ va_P g.1 vwCl (List.flatten [bTown g o a (pe + 1) wo tx ch jo tr dy sd f4]) H ∧ va_D A (List.flatten [bTown g o a (pe + 1) wo tx ch jo tr dy sd f4]) := ⟨zu f3 2 (upd (f3 2) pe.toNatClampNeg 0), (zZ4_u rf3 (by decide)), rfl, hP, hD⟩
    refine lv_aload_n hx hb dX9_addPerson_48 rfl (lv_at hl 1 rfl) ?_
    refine va_get (D := g.1) (ci := 7) (v := .ref (a 3)) (C := RX9) (T := TX9) (N := 19) hx hb hts izRX9 hown hK hP 0 rfl rfl 11 (by decide) (hts _ k12) (fun _ h9 => h9) rfl dX9_addPerson_49 ?_
    refine lv_iload hx hb dX9_addPerson_52 (lv_at hl 0 rfl) ?_
    refine lv_iconst (v := (-1)) hx hb dX9_addPerson_54 (by decide) ?_
    refine va_iast hx hb hK hP hD hS 4 0 rfl rfl (zinI (by omega) (by omega)) dX9_addPerson_55 (fun H locs hP hD hS => ?_)
    obtain ⟨f5, rf5, ef5, hP, hD⟩ : ∃ f5 : Nat → Nat → Int32, zZ4 f5 ∧ f5 = zSet f4 3 pe.toInt.toNat (-1) ∧ va_P g.1 vwCl (List.flatten [bTown g o a (pe + 1) wo tx ch jo tr dy sd f5]) H ∧ va_D A (List.flatten [bTown g o a (pe + 1) wo tx ch jo tr dy sd f5]) := ⟨zu f4 3 (upd (f4 3) pe.toNatClampNeg (-1)), (zZ4_u rf4 (by decide)), rfl, hP, hD⟩
    refine lv_aload_n hx hb dX9_addPerson_56 rfl (lv_at hl 1 rfl) ?_
    refine va_get (D := g.1) (ci := 7) (v := .ref (a 4)) (C := RX9) (T := TX9) (N := 19) hx hb hts izRX9 hown hK hP 0 rfl rfl 12 (by decide) (hts _ k14) (fun _ h9 => h9) rfl dX9_addPerson_57 ?_
    refine lv_iload hx hb dX9_addPerson_60 (lv_at hl 0 rfl) ?_
    refine lv_iload_n hx hb dX9_addPerson_62 rfl (lv_at hl 4 rfl) ?_
    refine va_zast hx hb hK hP hD hS 5 1 rfl rfl (zinI (by omega) (by omega)) dX9_addPerson_63 (fun H locs hP hD hS => ?_)
    obtain ⟨f6, rf6, ef6, hP, hD⟩ : ∃ f6 : Nat → Nat → Int32, zZ4 f6 ∧ f6 = zSet f5 4 pe.toInt.toNat (vp_nar .boolean di) ∧ va_P g.1 vwCl (List.flatten [bTown g o a (pe + 1) wo tx ch jo tr dy sd f6]) H ∧ va_D A (List.flatten [bTown g o a (pe + 1) wo tx ch jo tr dy sd f6]) := ⟨zu f5 4 (upd (f5 4) pe.toNatClampNeg (vp_nar .boolean di)), (zZ4_s rf5 hdi), rfl, hP, hD⟩
    refine lv_iconst (v := 0) hx hb dX9_addPerson_64 (by decide) ?_
    refine lv_istore (lv' := [(5, .int 0), (4, .int pe), (0, .ref o), (1, .int be), (2, .int ha), (3, .int di)]) hx hb dX9_addPerson_65 hl (by decide) rfl (fun ls hl => ?_)
    have hl := lv_sub (l' := [(0, .ref o), (1, .int be), (2, .int ha), (3, .int di), (4, .int pe), (5, .int 0)]) hl [2, 3, 4, 5, 1, 0] rfl
    have LP67_11 : ∀ (kf : Nat) (x_7 : Int32) (f_8 : Nat → Nat → Int32), (0 ≤ x_7.toInt ∧ x_7.toInt ≤ 8) → (zZ4 f_8) → (zEq f_8 (zPer f pe.toInt.toNat be ha di)) → ∀ (H : Heap) (locs : List Loc) (ls : Array Slot), ((9 - x_7.toInt).toNat) < kf → va_P g.1 vwCl (List.flatten [bTown g o a (pe + 1) wo tx ch jo tr dy sd f_8]) H → va_D A (List.flatten [bTown g o a (pe + 1) wo tx ch jo tr dy sd f_8]) → va_S A s.heap H locs → lv_has ls 6 [(0, .ref o), (1, .int be), (2, .int ha), (3, .int di), (4, .int pe), (5, .int x_7)] → W p l e ({ frames := 1, cells := 0, slots := 0, locals := 23 } : Room) s m args below meth c H locs (0) (0) (zF g (fun u : Int32 × (Nat → Nat → Int32) => (fun (pe2 : Int32) (f2 : Nat → Nat → Int32) => none) (u.1) (u.2)) (fun u : Int32 × (Nat → Nat → Int32) => (fun (pe2 : Int32) (f2 : Nat → Nat → Int32) => (0 ≤ pe2.toInt ∧ pe2.toInt ≤ 8) ∧ (zZ4 f2) ∧ (pe2 = pe + 1) ∧ (pe2.toInt = pe.toInt + 1) ∧ (zEq f2 (zPer f pe.toInt.toNat be ha di))) (u.1) (u.2)) (fun u : Int32 × (Nat → Nat → Int32) => (fun (pe2 : Int32) (f2 : Nat → Nat → Int32) => [bTown g o a pe2 wo tx ch jo tr dy sd f2]) (u.1) (u.2)) ({ frames := 1, cells := 0, slots := 0, locals := 23 } : Room) below args s A) (F0 m 67 ls []) := by
      intro kf
      induction kf with
      | zero => intro x_7 f_8 i9 rf_8 i10 H locs ls hk; exact absurd hk (Nat.not_lt_zero _)
      | succ kf ih67_12 =>
        intro x_7 f_8 i9 rf_8 i10 H locs ls hk67_12 hP hD hS hl
        refine lv_iload hx hb dX9_addPerson_67 (lv_at hl 5 rfl) ?_
        refine lv_bipush (v := 8) hx hb dX9_addPerson_69 (by decide) ?_
        refine lv_icmp_ge (tgt := 98) hx hb dX9_addPerson_71 (by decide) (fun cb9 => ?_) (fun cb9 => ?_)
        · skip
          have c13 : 8 ≤ x_7.toInt := zle cb9 (by decide) rfl
          have n14 : 8 ≤ x_7.toInt := Int.le_trans (Int.le_refl _) c13
          have hP : va_P g.1 vwCl (List.flatten [bTown g o a (pe + 1) wo tx ch jo tr dy sd f_8]) H := hP
          have hD : va_D A (List.flatten [bTown g o a (pe + 1) wo tx ch jo tr dy sd f_8]) := hD
          exact mret_v hx hb hr hlocks hS (Nat.le_of_ble_eq_true rfl) (Nat.le_of_ble_eq_true rfl) dX9_addPerson_98 (pe + 1, f_8) rfl (show (0 ≤ (pe + 1).toInt ∧ (pe + 1).toInt ≤ 8) ∧ (zZ4 f_8) ∧ ((pe + 1) = pe + 1) ∧ ((pe + 1).toInt = pe.toInt + 1) ∧ (zEq f_8 (zPer f pe.toInt.toNat be ha di)) from ⟨(by rw [zpe1 b_pe]; omega), (by assumption), rfl, zpe1 b_pe, i10⟩) hP hD
        · skip
          have c15 : x_7.toInt < 8 := zlti (Int32.not_le.mp cb9) rfl (by decide)
          have n16 : x_7.toInt ≤ 7 := zL1 (b := 8) c15 (Int.le_refl _) (by decide)
          refine lv_aload_n hx hb dX9_addPerson_74 rfl (lv_at hl 0 rfl) ?_
          refine lv_iload hx hb dX9_addPerson_75 (lv_at hl 4 rfl) ?_
          refine lv_iload hx hb dX9_addPerson_77 (lv_at hl 5 rfl) ?_
          refine lv_iconst (v := 0) hx hb dX9_addPerson_79 (by decide) ?_
          refine mcallV' (g := g) (q0 := 0) (ci := 7) (As := [.int pe, .int x_7, .int 0]) (rest := []) St hK hT hA hP hD hS hl.1 [0] [] rfl rfl rfl (c_setTrustF l g o a (pe + 1) wo tx ch jo tr dy sd f_8 pe x_7 0 rf_8 (by first | assumption | omega | decide | exact Or.inl (by decide) | exact Or.inr (by decide)) (⟨i9.1, n16⟩)) (cwV 3 hts (zgL (zl4 k436 k437 k438 k24) k434) rfl rfl rfl (by decide +kernel) ⟨Nat.le_of_ble_eq_true rfl, Nat.le_of_ble_eq_true rfl⟩) rfl rfl rfl rfl (Nat.le_of_ble_eq_true rfl) dX9_addPerson_80 ⟨(Nat.le_of_ble_eq_true rfl), (Nat.le_of_ble_eq_true rfl)⟩ (fun f2_17 H locs hq18 hP hD hS => ?_)
          replace hq18 : (zZ4 f2_17) ∧ (f2_17 = zSet f_8 5 (8 * pe.toInt.toNat + x_7.toInt.toNat) (0)) := hq18
          have hP : va_P g.1 vwCl (List.flatten [bTown g o a (pe + 1) wo tx ch jo tr dy sd f2_17]) H := hP
          have hD : va_D A (List.flatten [bTown g o a (pe + 1) wo tx ch jo tr dy sd f2_17]) := hD
          refine W.widen (k := 0) (n := 0) (Nat.le_of_ble_eq_true rfl) (Nat.le_of_ble_eq_true rfl) ?_
          refine W.eq (g2 := F0 m 83 ls []) rfl ?_
          obtain ⟨rf2_17, hq18_1⟩ := hq18
          refine lv_aload_n hx hb dX9_addPerson_83 rfl (lv_at hl 0 rfl) ?_
          refine lv_iload hx hb dX9_addPerson_84 (lv_at hl 5 rfl) ?_
          refine lv_iload hx hb dX9_addPerson_86 (lv_at hl 4 rfl) ?_
          refine lv_iconst (v := 0) hx hb dX9_addPerson_88 (by decide) ?_
          refine mcallV' (g := g) (q0 := 0) (ci := 7) (As := [.int x_7, .int pe, .int 0]) (rest := []) St hK hT hA hP hD hS hl.1 [0] [] rfl rfl rfl (c_setTrustF l g o a (pe + 1) wo tx ch jo tr dy sd f2_17 x_7 pe 0 rf2_17 (⟨i9.1, n16⟩) (by first | assumption | omega | decide | exact Or.inl (by decide) | exact Or.inr (by decide))) (cwV 3 hts (zgL (zl4 k436 k437 k438 k24) k434) rfl rfl rfl (by decide +kernel) ⟨Nat.le_of_ble_eq_true rfl, Nat.le_of_ble_eq_true rfl⟩) rfl rfl rfl rfl (Nat.le_of_ble_eq_true rfl) dX9_addPerson_89 ⟨(Nat.le_of_ble_eq_true rfl), (Nat.le_of_ble_eq_true rfl)⟩ (fun f2_19 H locs hq20 hP hD hS => ?_)
          replace hq20 : (zZ4 f2_19) ∧ (f2_19 = zSet f2_17 5 (8 * x_7.toInt.toNat + pe.toInt.toNat) (0)) := hq20
          have hP : va_P g.1 vwCl (List.flatten [bTown g o a (pe + 1) wo tx ch jo tr dy sd f2_19]) H := hP
          have hD : va_D A (List.flatten [bTown g o a (pe + 1) wo tx ch jo tr dy sd f2_19]) := hD
          refine W.widen (k := 0) (n := 0) (Nat.le_of_ble_eq_true rfl) (Nat.le_of_ble_eq_true rfl) ?_
          refine W.eq (g2 := F0 m 92 ls []) rfl ?_
          obtain ⟨rf2_19, hq20_1⟩ := hq20
          refine ziinc3 (n' := 1) (a' := 1) (b' := 8) (lv' := fun v9 => [(5, .int v9), (0, .ref o), (1, .int be), (2, .int ha), (3, .int di), (4, .int pe)]) hx hb dX9_addPerson_92 hl (k := 5) rfl (by decide) (fun _ => rfl) (zaddK (i := x_7.toInt) (j := 1) rfl (by decide) i9.1 n16 (Int.le_refl _) (Int.le_refl _) (by decide)) (fun x_21 ls hx_21 hl => ?_)
          refine lv_goto (tgt := 67) hx hb dX9_addPerson_95 (by decide) ?_
          have hl := lv_sub (l' := [(0, .ref o), (1, .int be), (2, .int ha), (3, .int di), (4, .int pe), (5, .int x_21)]) hl [1, 2, 3, 4, 5, 0] rfl
          have hP : va_P g.1 vwCl (List.flatten [bTown g o a (pe + 1) wo tx ch jo tr dy sd f2_19]) H := hP
          have hD : va_D A (List.flatten [bTown g o a (pe + 1) wo tx ch jo tr dy sd f2_19]) := hD
          exact ih67_12 x_21 f2_19 ⟨(Int.le_trans (by decide) hx_21.2.1), hx_21.2.2⟩ rf2_19 (by rw [hq20_1, hq18_1]; exact zAb_z (zAb_5 hab (zPer_5 f pe.toInt.toNat be ha di)) (by omega) (by omega) (Or.inr (by omega)) (zAb_z (zAb_5 hab (zPer_5 f pe.toInt.toNat be ha di)) (by omega) (by omega) (Or.inl (by omega)) i10)) H _ ls (zmK hx_21.1 (by decide) n16 (by decide) hk67_12)  hP hD hS (lv_sub hl [0, 1, 2, 3, 4, 5] rfl)
    have hL0 : (0 : Int32).toInt = 0 := by decide
    have hP : va_P g.1 vwCl (List.flatten [bTown g o a (pe + 1) wo tx ch jo tr dy sd f6]) H := hP
    have hD : va_D A (List.flatten [bTown g o a (pe + 1) wo tx ch jo tr dy sd f6]) := hD
    exact LP67_11 _ 0 f6 (by decide) rf6 (zEq_o (by rw [ef6, zN01 hdi, ef5, ef4, ef3, ef2]; rfl)) H _ ls (Nat.lt_succ_self _)  hP hD hS (lv_sub hl [0, 1, 2, 3, 4, 5] rfl)
  · skip
    exact absurd (show 8 ≤ pe.toInt from zle (Int32.not_lt.mp cb9) (by decide) rfl) (by omega)
set_option maxRecDepth 100000 in
set_option maxHeartbeats 4000000 in
theorem c_addWorkC (l : Launch) (g : zG) (o : Nat) (a : Nat → Nat) (pe : Int32) (wo : Int32) (tx : Int32) (ch : Int32) (jo : Int32) (tr : Int32) (dy : Int32) (sd : Int32) (f : Nat → Nat → Int32) (co : Int32) (ne9 : Int32) (ga : Int32) (b_pe : 0 ≤ pe.toInt ∧ pe.toInt ≤ 8) (b_wo : 0 ≤ wo.toInt ∧ wo.toInt ≤ 6) (rf : zZ4 f) (hp5 : wo.toInt ≤ 5) : zM' g l yX9_addWork (Cond.code yX9_addWork cX9_addWork 5 none :: zB) ({ frames := 0, cells := 0, slots := 0, locals := 0 } : Room) [.ref o, .int co, .int ne9, .int ga] [bTown g o a pe wo tx ch jo tr dy sd f] (fun u : Int32 × (Nat → Nat → Int32) => (fun (wo2 : Int32) (f2 : Nat → Nat → Int32) => none) (u.1) (u.2)) (fun u : Int32 × (Nat → Nat → Int32) => (fun (wo2 : Int32) (f2 : Nat → Nat → Int32) => (0 ≤ wo2.toInt ∧ wo2.toInt ≤ 6) ∧ (zZ4 f2) ∧ (wo2 = wo + 1) ∧ (wo2.toInt = wo.toInt + 1) ∧ (f2 = zWrk f wo.toInt.toNat co ne9 ga)) (u.1) (u.2)) (fun u : Int32 × (Nat → Nat → Int32) => (fun (wo2 : Int32) (f2 : Nat → Nat → Int32) => [bTown g o a pe wo2 tx ch jo tr dy sd f2]) (u.1) (u.2)) := by
  refine zM'.of (cc := cX9_addWork) (maxL := 5) (rt := none) (by decide) rfl (Nat.le_of_ble_eq_true rfl) ?_
  intro p e s m args below meth c A ls St hr hlocks hin hK hT hA hP hD hS hl
  obtain ⟨hx, hb, hml, hown, hts⟩ := id St
  have hl : lv_has ls 5 [(0, .ref o), (1, .int co), (2, .int ne9), (3, .int ga)] := hl
  refine lv_aload_n hx hb dX9_addWork_0 rfl (lv_at hl 0 rfl) ?_
  refine va_get (D := g.1) (ci := 7) (v := .int wo) (C := RX9) (T := TX9) (N := 19) hx hb hts izRX9 hown hK hP 0 rfl rfl 1 (by decide) (hts _ k32) (fun _ h9 => h9) rfl dX9_addWork_1 ?_
  refine lv_istore (lv' := [(4, .int wo), (0, .ref o), (1, .int co), (2, .int ne9), (3, .int ga)]) hx hb dX9_addWork_4 hl (by decide) rfl (fun ls hl => ?_)
  refine lv_iload hx hb dX9_addWork_6 (lv_at hl 0 rfl) ?_
  refine lv_bipush (v := 6) hx hb dX9_addWork_8 (by decide) ?_
  refine lv_icmp_lt (tgt := 14) hx hb dX9_addWork_10 (by decide) (fun cb9 => ?_) (fun cb9 => ?_)
  · skip
    have c1 : wo.toInt < 6 := zlti cb9 rfl (by decide)
    refine lv_aload_n hx hb dX9_addWork_14 rfl (lv_at hl 1 rfl) ?_
    refine lv_dup hx hb dX9_addWork_15 rfl ?_
    refine va_get (D := g.1) (ci := 7) (v := .int wo) (C := RX9) (T := TX9) (N := 19) hx hb hts izRX9 hown hK hP 0 rfl rfl 1 (by decide) (hts _ k32) (fun _ h9 => h9) rfl dX9_addWork_16 ?_
    refine lv_iconst (v := 1) hx hb dX9_addWork_19 (by decide) ?_
    refine lv_iadd hx hb dX9_addWork_20 ?_
    refine va_put (D := g.1) (ci := 7) (v := .int (wo + 1)) (ty := .int) (C := RX9) (T := TX9) (N := 19) hx hb hts izRX9 tyX9 tyX9_ok nmX9 hown hK hP hD hS 0 rfl rfl 1 (by decide) (hts _ k32) (fun _ h9 => h9) rfl (by decide +kernel) rfl rfl (Nat.le_of_ble_eq_true rfl) dX9_addWork_21 (fun H locs hP hD hS => ?_)
    have hP : va_P g.1 vwCl (List.flatten [bTown g o a pe (wo + 1) tx ch jo tr dy sd f]) H := hP
    have hD : va_D A (List.flatten [bTown g o a pe (wo + 1) tx ch jo tr dy sd f]) := hD
    refine lv_aload_n hx hb dX9_addWork_24 rfl (lv_at hl 1 rfl) ?_
    refine va_get (D := g.1) (ci := 7) (v := .ref (a 6)) (C := RX9) (T := TX9) (N := 19) hx hb hts izRX9 hown hK hP 0 rfl rfl 14 (by decide) (hts _ k16) (fun _ h9 => h9) rfl dX9_addWork_25 ?_
    refine lv_iload hx hb dX9_addWork_28 (lv_at hl 0 rfl) ?_
    refine lv_iload_n hx hb dX9_addWork_30 rfl (lv_at hl 2 rfl) ?_
    refine va_iast hx hb hK hP hD hS 7 0 rfl rfl (zinI (by omega) (by omega)) dX9_addWork_31 (fun H locs hP hD hS => ?_)
    obtain ⟨f2, rf2, ef2, hP, hD⟩ : ∃ f2 : Nat → Nat → Int32, zZ4 f2 ∧ f2 = zSet f 6 wo.toInt.toNat co ∧ va_P g.1 vwCl (List.flatten [bTown g o a pe (wo + 1) tx ch jo tr dy sd f2]) H ∧ va_D A (List.flatten [bTown g o a pe (wo + 1) tx ch jo tr dy sd f2]) := ⟨zu f 6 (upd (f 6) wo.toNatClampNeg co), (zZ4_u rf (by decide)), rfl, hP, hD⟩
    refine lv_aload_n hx hb dX9_addWork_32 rfl (lv_at hl 1 rfl) ?_
    refine va_get (D := g.1) (ci := 7) (v := .ref (a 7)) (C := RX9) (T := TX9) (N := 19) hx hb hts izRX9 hown hK hP 0 rfl rfl 15 (by decide) (hts _ k17) (fun _ h9 => h9) rfl dX9_addWork_33 ?_
    refine lv_iload hx hb dX9_addWork_36 (lv_at hl 0 rfl) ?_
    refine lv_iload_n hx hb dX9_addWork_38 rfl (lv_at hl 3 rfl) ?_
    refine va_iast hx hb hK hP hD hS 8 0 rfl rfl (zinI (by omega) (by omega)) dX9_addWork_39 (fun H locs hP hD hS => ?_)
    obtain ⟨f3, rf3, ef3, hP, hD⟩ : ∃ f3 : Nat → Nat → Int32, zZ4 f3 ∧ f3 = zSet f2 7 wo.toInt.toNat ne9 ∧ va_P g.1 vwCl (List.flatten [bTown g o a pe (wo + 1) tx ch jo tr dy sd f3]) H ∧ va_D A (List.flatten [bTown g o a pe (wo + 1) tx ch jo tr dy sd f3]) := ⟨zu f2 7 (upd (f2 7) wo.toNatClampNeg ne9), (zZ4_u rf2 (by decide)), rfl, hP, hD⟩
    refine lv_aload_n hx hb dX9_addWork_40 rfl (lv_at hl 1 rfl) ?_
    refine va_get (D := g.1) (ci := 7) (v := .ref (a 8)) (C := RX9) (T := TX9) (N := 19) hx hb hts izRX9 hown hK hP 0 rfl rfl 16 (by decide) (hts _ k18) (fun _ h9 => h9) rfl dX9_addWork_41 ?_
    refine lv_iload hx hb dX9_addWork_44 (lv_at hl 0 rfl) ?_
    refine lv_iload_n hx hb dX9_addWork_46 rfl (lv_at hl 4 rfl) ?_
    refine va_iast hx hb hK hP hD hS 9 0 rfl rfl (zinI (by omega) (by omega)) dX9_addWork_47 (fun H locs hP hD hS => ?_)
    obtain ⟨f4, rf4, ef4, hP, hD⟩ : ∃ f4 : Nat → Nat → Int32, zZ4 f4 ∧ f4 = zSet f3 8 wo.toInt.toNat ga ∧ va_P g.1 vwCl (List.flatten [bTown g o a pe (wo + 1) tx ch jo tr dy sd f4]) H ∧ va_D A (List.flatten [bTown g o a pe (wo + 1) tx ch jo tr dy sd f4]) := ⟨zu f3 8 (upd (f3 8) wo.toNatClampNeg ga), (zZ4_u rf3 (by decide)), rfl, hP, hD⟩
    refine lv_aload_n hx hb dX9_addWork_48 rfl (lv_at hl 1 rfl) ?_
    refine va_get (D := g.1) (ci := 7) (v := .ref (a 9)) (C := RX9) (T := TX9) (N := 19) hx hb hts izRX9 hown hK hP 0 rfl rfl 17 (by decide) (hts _ k19) (fun _ h9 => h9) rfl dX9_addWork_49 ?_
    refine lv_iload hx hb dX9_addWork_52 (lv_at hl 0 rfl) ?_
    refine lv_iconst (v := 0) hx hb dX9_addWork_54 (by decide) ?_
    refine va_iast hx hb hK hP hD hS 10 0 rfl rfl (zinI (by omega) (by omega)) dX9_addWork_55 (fun H locs hP hD hS => ?_)
    obtain ⟨f5, rf5, ef5, hP, hD⟩ : ∃ f5 : Nat → Nat → Int32, zZ4 f5 ∧ f5 = zSet f4 9 wo.toInt.toNat 0 ∧ va_P g.1 vwCl (List.flatten [bTown g o a pe (wo + 1) tx ch jo tr dy sd f5]) H ∧ va_D A (List.flatten [bTown g o a pe (wo + 1) tx ch jo tr dy sd f5]) := ⟨zu f4 9 (upd (f4 9) wo.toNatClampNeg 0), (zZ4_u rf4 (by decide)), rfl, hP, hD⟩
    have hP : va_P g.1 vwCl (List.flatten [bTown g o a pe (wo + 1) tx ch jo tr dy sd f5]) H := hP
    have hD : va_D A (List.flatten [bTown g o a pe (wo + 1) tx ch jo tr dy sd f5]) := hD
    exact mret_v hx hb hr hlocks hS (Nat.le_of_ble_eq_true rfl) (Nat.le_of_ble_eq_true rfl) dX9_addWork_56 (wo + 1, f5) rfl (show (0 ≤ (wo + 1).toInt ∧ (wo + 1).toInt ≤ 6) ∧ (zZ4 f5) ∧ ((wo + 1) = wo + 1) ∧ ((wo + 1).toInt = wo.toInt + 1) ∧ (f5 = zWrk f wo.toInt.toNat co ne9 ga) from ⟨(by rw [zpe1 (by omega)]; omega), (by assumption), rfl, zpe1 (by omega), (by rw [ef5, ef4, ef3, ef2]; rfl)⟩) hP hD
  · skip
    exact absurd (show 6 ≤ wo.toInt from zle (Int32.not_lt.mp cb9) (by decide) rfl) (by omega)
set_option maxRecDepth 100000 in
set_option maxHeartbeats 4000000 in
theorem c_tt_readPersonC (l : Launch) (g : zG) (tt : Nat) (ta : Nat) (o : Nat) (ab : Nat) (sz : Int32) (ln : Int32) (kd : Int32) (bg : Int32) (nx : Int32) (fb : Nat → Int32) (a : Nat → Nat) (pe : Int32) (wo : Int32) (tx : Int32) (ch : Int32) (jo : Int32) (tr : Int32) (dy : Int32) (sd : Int32) (f : Nat → Nat → Int32) (b_pe : 0 ≤ pe.toInt ∧ pe.toInt ≤ 8) (b_wo : 0 ≤ wo.toInt ∧ wo.toInt ≤ 6) (rf : zZ4 f) (hln : 0 ≤ ln.toInt ∧ ln.toInt ≤ 400) (hnx : 0 ≤ nx.toInt ∧ nx.toInt ≤ 400) (hbg : 0 ≤ bg.toInt ∧ bg.toInt ≤ 400) (hkd : zKd kd.toInt bg.toInt nx.toInt) (hTk : zTk fb ln.toInt kd.toInt bg.toInt nx.toInt) (hab : zAb f pe.toInt) : zM' g l yX10_readPerson (Cond.code yX10_readPerson cX10_readPerson 3 (some .boolean) :: zB) ({ frames := 7, cells := 0, slots := 0, locals := 149 } : Room) [.ref tt] [bTT g tt ta o, bTape g ta ab sz ln kd bg nx (-1) fb, bTown g o a pe wo tx ch jo tr dy sd f] (fun u : Int32 × Int32 × Int32 × Int32 × Int32 × (Nat → Nat → Int32) × Int32 => (fun (kd2 : Int32) (bg2 : Int32) (nx2 : Int32) (ft2 : Int32) (pe2 : Int32) (f2 : Nat → Nat → Int32) (q : Int32) => some (.int q)) (u.1) (u.2.1) (u.2.2.1) (u.2.2.2.1) (u.2.2.2.2.1) (u.2.2.2.2.2.1) (u.2.2.2.2.2.2)) (fun u : Int32 × Int32 × Int32 × Int32 × Int32 × (Nat → Nat → Int32) × Int32 => (fun (kd2 : Int32) (bg2 : Int32) (nx2 : Int32) (ft2 : Int32) (pe2 : Int32) (f2 : Nat → Nat → Int32) (q : Int32) => (0 ≤ pe2.toInt ∧ pe2.toInt ≤ 8) ∧ (zZ4 f2) ∧ (-1 ≤ ft2.toInt) ∧ (0 ≤ nx2.toInt ∧ nx2.toInt ≤ 400) ∧ (0 ≤ bg2.toInt ∧ bg2.toInt ≤ 400) ∧ (zKd kd2.toInt bg2.toInt nx2.toInt) ∧ (zTk fb ln.toInt kd2.toInt bg2.toInt nx2.toInt) ∧ (q = 1 ∧ zTO (zTPerson fb ln.toInt pe.toInt bg.toInt) bg2.toInt pe.toInt pe2.toInt wo.toInt wo.toInt ∧ (-1) = ft2 ∧ (zTQ (zTPerson fb ln.toInt pe.toInt bg.toInt) fb bg2.toInt (pe, wo, ch, jo, tr, dy, f) (pe2, wo, ch, jo, tr, dy, f2) ∧ zAb f2 pe2.toInt) ∨ q = 0 ∧ zTPerson fb ln.toInt pe.toInt bg.toInt (.bad ft2.toInt))) (u.1) (u.2.1) (u.2.2.1) (u.2.2.2.1) (u.2.2.2.2.1) (u.2.2.2.2.2.1) (u.2.2.2.2.2.2)) (fun u : Int32 × Int32 × Int32 × Int32 × Int32 × (Nat → Nat → Int32) × Int32 => (fun (kd2 : Int32) (bg2 : Int32) (nx2 : Int32) (ft2 : Int32) (pe2 : Int32) (f2 : Nat → Nat → Int32) (q : Int32) => [bTT g tt ta o, bTape g ta ab sz ln kd2 bg2 nx2 ft2 fb, bTown g o a pe2 wo tx ch jo tr dy sd f2]) (u.1) (u.2.1) (u.2.2.1) (u.2.2.2.1) (u.2.2.2.2.1) (u.2.2.2.2.2.1) (u.2.2.2.2.2.2)) := by
  refine zM'.of (cc := cX10_readPerson) (maxL := 3) (rt := (some .boolean)) (by decide) rfl (Nat.le_of_ble_eq_true rfl) ?_
  intro p e s m args below meth c A ls St hr hlocks hin hK hT hA hP hD hS hl
  obtain ⟨hx, hb, hml, hown, hts⟩ := id St
  have hl : lv_has ls 3 [(0, .ref tt)] := hl
  refine lv_aload_n hx hb dX10_readPerson_0 rfl (lv_at hl 0 rfl) ?_
  refine va_get (D := g.1) (ci := 8) (v := .ref o) (C := RX10) (T := TX10) (N := 2) hx hb hts izRX10 hown hK hP 0 rfl rfl 1 (by decide) (hts _ k439) (fun _ h9 => h9) rfl dX10_readPerson_1 ?_
  refine va_get (D := g.1) (ci := 7) (v := .int pe) (C := RX9) (T := TX9) (N := 19) hx hb hts izRX9 hown hK hP 3 rfl rfl 0 (by decide) (hts _ k440) (fun _ h9 => h9) rfl dX10_readPerson_4 ?_
  refine lv_bipush (v := 8) hx hb dX10_readPerson_7 (by decide) ?_
  refine lv_icmp_lt (tgt := 20) hx hb dX10_readPerson_9 (by decide) (fun cb9 => ?_) (fun cb9 => ?_)
  · skip
    have c1 : pe.toInt < 8 := zlti cb9 rfl (by decide)
    have n2 : pe.toInt ≤ 7 := zL1 (b := 8) c1 (Int.le_refl _) (by decide)
    refine lv_aload_n hx hb dX10_readPerson_20 rfl (lv_at hl 0 rfl) ?_
    refine va_get (D := g.1) (ci := 8) (v := .ref ta) (C := RX10) (T := TX10) (N := 2) hx hb hts izRX10 hown hK hP 0 rfl rfl 0 (by decide) (hts _ k441) (fun x9 h9 => u_same (hts _ k442) x9 h9) rfl dX10_readPerson_21 ?_
    refine mcallV' (g := g) (q0 := 0) (ci := 6) (As := []) (rest := []) St hK hT hA hP hD hS hl.1 [1] [0, 2] rfl rfl rfl (c_t_stepF l g ta ab sz ln kd bg nx (-1) fb hln hnx) (cwV 0 hts (zgL (zl4 k444 k275 k276 k277) k271) rfl rfl rfl (by decide +kernel) ⟨Nat.le_of_ble_eq_true rfl, Nat.le_of_ble_eq_true rfl⟩) rfl rfl rfl rfl (Nat.le_of_ble_eq_true rfl) dX10_readPerson_24 ⟨(Nat.le_of_ble_eq_true rfl), (Nat.le_of_ble_eq_true rfl)⟩ (fun u_ H locs hq6 hP hD hS => ?_)
    obtain ⟨kd2_3, bg2_4, nx2_5⟩ := u_
    replace hq6 : (0 ≤ nx2_5.toInt ∧ nx2_5.toInt ≤ 400) ∧ (0 ≤ bg2_4.toInt ∧ bg2_4.toInt ≤ 400) ∧ (zKd kd2_3.toInt bg2_4.toInt nx2_5.toInt) ∧ (zSk fb ln.toInt nx.toInt bg2_4.toInt) ∧ (zTk fb ln.toInt kd2_3.toInt bg2_4.toInt nx2_5.toInt) := hq6
    have hP : va_P g.1 vwCl (List.flatten [bTT g tt ta o, bTown g o a pe wo tx ch jo tr dy sd f, bTape g ta ab sz ln kd2_3 bg2_4 nx2_5 (-1) fb]) H := hP
    have hD : va_D A (List.flatten [bTT g tt ta o, bTown g o a pe wo tx ch jo tr dy sd f, bTape g ta ab sz ln kd2_3 bg2_4 nx2_5 (-1) fb]) := hD
    refine W.widen (k := 0) (n := 0) (Nat.le_of_ble_eq_true rfl) (Nat.le_of_ble_eq_true rfl) ?_
    refine W.eq (g2 := F0 m 27 ls []) rfl ?_
    obtain ⟨hq6_0, hq6_1, hq6_2, hq6_3, hq6_4⟩ := hq6
    refine lv_aload_n hx hb dX10_readPerson_27 rfl (lv_at hl 0 rfl) ?_
    refine va_get (D := g.1) (ci := 8) (v := .ref ta) (C := RX10) (T := TX10) (N := 2) hx hb hts izRX10 hown hK hP 0 rfl rfl 0 (by decide) (hts _ k441) (fun x9 h9 => u_same (hts _ k442) x9 h9) rfl dX10_readPerson_28 ?_
    refine lv_iconst (v := 0) hx hb dX10_readPerson_31 (by decide) ?_
    refine lv_bipush (v := 99) hx hb dX10_readPerson_32 (by decide) ?_
    have hL0 : (0 : Int32).toInt = 0 := by decide
    have hL99 : (99 : Int32).toInt = 99 := by decide
    refine mcallV' (g := g) (q0 := 0) (ci := 6) (As := [.int 0, .int 99]) (rest := []) St hK hT hA hP hD hS hl.1 [2] [0, 1] rfl rfl rfl (c_t_numberF l g ta ab sz ln kd2_3 bg2_4 nx2_5 fb 0 99 hln hq6_0 hq6_1 hq6_2 hq6_4) (cwV 2 hts (zgL (zl4 k445 k294 k295 k277) k273) rfl rfl rfl (by decide +kernel) ⟨Nat.le_of_ble_eq_true rfl, Nat.le_of_ble_eq_true rfl⟩) rfl rfl rfl rfl (Nat.le_of_ble_eq_true rfl) dX10_readPerson_34 ⟨(Nat.le_of_ble_eq_true rfl), (Nat.le_of_ble_eq_true rfl)⟩ (fun u_ H locs hq12 hP hD hS => ?_)
    obtain ⟨kd2_7, bg2_8, nx2_9, ft2_10, q_11⟩ := u_
    replace hq12 : (-1 ≤ ft2_10.toInt) ∧ (0 ≤ nx2_9.toInt ∧ nx2_9.toInt ≤ 400) ∧ (0 ≤ bg2_8.toInt ∧ bg2_8.toInt ≤ 400) ∧ (zKd kd2_7.toInt bg2_8.toInt nx2_9.toInt) ∧ (zTk fb ln.toInt kd2_7.toInt bg2_8.toInt nx2_9.toInt) ∧ (zNu fb ln.toInt bg2_4.toInt (0 : Int32).toInt (99 : Int32).toInt q_11 ∧ zMv fb ln.toInt bg2_4.toInt bg2_8.toInt ∧ (-1) = ft2_10 ∨ q_11 = -1 ∧ (¬ ∃ v9, zNu fb ln.toInt bg2_4.toInt (0 : Int32).toInt (99 : Int32).toInt v9) ∧ bg2_4 = ft2_10 ∧ kd2_3 = kd2_7 ∧ bg2_4 = bg2_8 ∧ nx2_5 = nx2_9) := hq12
    have hP : va_P g.1 vwCl (List.flatten [bTT g tt ta o, bTown g o a pe wo tx ch jo tr dy sd f, bTape g ta ab sz ln kd2_7 bg2_8 nx2_9 ft2_10 fb]) H := hP
    have hD : va_D A (List.flatten [bTT g tt ta o, bTown g o a pe wo tx ch jo tr dy sd f, bTape g ta ab sz ln kd2_7 bg2_8 nx2_9 ft2_10 fb]) := hD
    refine W.widen (k := 0) (n := 0) (Nat.le_of_ble_eq_true rfl) (Nat.le_of_ble_eq_true rfl) ?_
    refine W.eq (g2 := F0 m 37 ls [.int q_11]) rfl ?_
    obtain ⟨hq12_0, hq12_1, hq12_2, hq12_3, hq12_4, hq12_5⟩ := hq12
    rcases hq12_5 with ⟨hq12_k, hq12_km, rfl⟩ | ⟨rfl, hq12_k, rfl, rfl, rfl, rfl⟩
    · skip
      have w13 : 0 ≤ q_11.toInt ∧ q_11.toInt ≤ 99 := ⟨(by have h9 := hq12_k.2.2.1; omega), (by have h9 := hq12_k.2.2.2; omega)⟩
      refine lv_istore_n (lv' := [(1, .int q_11), (0, .ref tt)]) hx hb dX10_readPerson_37 rfl hl (by decide) rfl (fun ls hl => ?_)
      refine lv_iload_n hx hb dX10_readPerson_38 rfl (lv_at hl 0 rfl) ?_
      refine lv_iconst (v := (-1)) hx hb dX10_readPerson_39 (by decide) ?_
      refine lv_icmp_eq (tgt := 55) hx hb dX10_readPerson_40 (by decide) (fun cb9 => ?_) (fun cb9 => ?_)
      · skip
        exact absurd (show q_11.toInt = (-1) from zeq cb9 rfl (by decide)) (zDeq2 (a := 0) (b := (-1)) w13.1 (Int.le_refl _) (by decide))
      · skip
        have c15 : ¬ q_11.toInt = (-1) := zne cb9 rfl (by decide)
        refine lv_aload_n hx hb dX10_readPerson_43 rfl (lv_at hl 1 rfl) ?_
        refine va_get (D := g.1) (ci := 8) (v := .ref ta) (C := RX10) (T := TX10) (N := 2) hx hb hts izRX10 hown hK hP 0 rfl rfl 0 (by decide) (hts _ k441) (fun x9 h9 => u_same (hts _ k442) x9 h9) rfl dX10_readPerson_44 ?_
        refine va_ldcS (q := g.2 54) hx hb hown (zra22 hT.2.1) dX10_readPerson_47 ?_
        refine mcallV' (g := g) (q0 := 0) (ci := 6) (As := [.ref (g.2 54)]) (rest := []) St hK hT hA hP hD hS hl.1 [2] [0, 1] rfl rfl rfl (c_t_needWordF l g ta ab sz ln kd2_7 bg2_8 nx2_9 fb (g.2 54) 22 zqa22 hln hq12_1 hq12_2 hq12_3 hq12_4 rfl zla22 zna22 (zlitB zla22)) (cwV 1 hts (zgL (zl4 k446 k447 k448 k277) k431) rfl rfl rfl (by decide +kernel) ⟨Nat.le_of_ble_eq_true rfl, Nat.le_of_ble_eq_true rfl⟩) rfl rfl rfl rfl (Nat.le_of_ble_eq_true rfl) dX10_readPerson_49 ⟨(Nat.le_of_ble_eq_true rfl), (Nat.le_of_ble_eq_true rfl)⟩ (fun u_ H locs hq21 hP hD hS => ?_)
        obtain ⟨kd2_16, bg2_17, nx2_18, ft2_19, r_20⟩ := u_
        replace hq21 : (-1 ≤ ft2_19.toInt) ∧ (0 ≤ nx2_18.toInt ∧ nx2_18.toInt ≤ 400) ∧ (0 ≤ bg2_17.toInt ∧ bg2_17.toInt ≤ 400) ∧ (zKd kd2_16.toInt bg2_17.toInt nx2_18.toInt) ∧ (zTk fb ln.toInt kd2_16.toInt bg2_17.toInt nx2_18.toInt) ∧ (r_20 = 1 ∧ zisW fb ln.toInt bg2_8.toInt zqa22.2.2.2 ∧ zMv fb ln.toInt bg2_8.toInt bg2_17.toInt ∧ (-1) = ft2_19 ∨ r_20 = 0 ∧ ¬ zisW fb ln.toInt bg2_8.toInt zqa22.2.2.2 ∧ bg2_8 = ft2_19 ∧ kd2_7 = kd2_16 ∧ bg2_8 = bg2_17 ∧ nx2_9 = nx2_18) := hq21
        have hP : va_P g.1 vwCl (List.flatten [bTT g tt ta o, bTown g o a pe wo tx ch jo tr dy sd f, bTape g ta ab sz ln kd2_16 bg2_17 nx2_18 ft2_19 fb]) H := hP
        have hD : va_D A (List.flatten [bTT g tt ta o, bTown g o a pe wo tx ch jo tr dy sd f, bTape g ta ab sz ln kd2_16 bg2_17 nx2_18 ft2_19 fb]) := hD
        refine W.widen (k := 0) (n := 0) (Nat.le_of_ble_eq_true rfl) (Nat.le_of_ble_eq_true rfl) ?_
        refine W.eq (g2 := F0 m 52 ls [.int r_20]) rfl ?_
        obtain ⟨hq21_0, hq21_1, hq21_2, hq21_3, hq21_4, hq21_5⟩ := hq21
        rcases hq21_5 with ⟨rfl, hq21_k, hq21_km, rfl⟩ | ⟨rfl, hq21_k, rfl, rfl, rfl, rfl⟩
        · skip
          refine lv_if_ne (tgt := 57) hx hb dX10_readPerson_52 (by decide) (fun _ => ?_) (fun c22 => absurd c22 (by decide))
          refine lv_aload_n hx hb dX10_readPerson_57 rfl (lv_at hl 1 rfl) ?_
          refine va_get (D := g.1) (ci := 8) (v := .ref ta) (C := RX10) (T := TX10) (N := 2) hx hb hts izRX10 hown hK hP 0 rfl rfl 0 (by decide) (hts _ k441) (fun x9 h9 => u_same (hts _ k442) x9 h9) rfl dX10_readPerson_58 ?_
          refine lv_iconst (v := 0) hx hb dX10_readPerson_61 (by decide) ?_
          refine lv_sipush (v := 999) hx hb dX10_readPerson_62 (by decide) ?_
          have hL999 : (999 : Int32).toInt = 999 := by decide
          refine mcallV' (g := g) (q0 := 0) (ci := 6) (As := [.int 0, .int 999]) (rest := []) St hK hT hA hP hD hS hl.1 [2] [0, 1] rfl rfl rfl (c_t_numberF l g ta ab sz ln kd2_16 bg2_17 nx2_18 fb 0 999 hln hq21_1 hq21_2 hq21_3 hq21_4) (cwV 2 hts (zgL (zl4 k445 k294 k295 k277) k273) rfl rfl rfl (by decide +kernel) ⟨Nat.le_of_ble_eq_true rfl, Nat.le_of_ble_eq_true rfl⟩) rfl rfl rfl rfl (Nat.le_of_ble_eq_true rfl) dX10_readPerson_65 ⟨(Nat.le_of_ble_eq_true rfl), (Nat.le_of_ble_eq_true rfl)⟩ (fun u_ H locs hq28 hP hD hS => ?_)
          obtain ⟨kd2_23, bg2_24, nx2_25, ft2_26, q_27⟩ := u_
          replace hq28 : (-1 ≤ ft2_26.toInt) ∧ (0 ≤ nx2_25.toInt ∧ nx2_25.toInt ≤ 400) ∧ (0 ≤ bg2_24.toInt ∧ bg2_24.toInt ≤ 400) ∧ (zKd kd2_23.toInt bg2_24.toInt nx2_25.toInt) ∧ (zTk fb ln.toInt kd2_23.toInt bg2_24.toInt nx2_25.toInt) ∧ (zNu fb ln.toInt bg2_17.toInt (0 : Int32).toInt (999 : Int32).toInt q_27 ∧ zMv fb ln.toInt bg2_17.toInt bg2_24.toInt ∧ (-1) = ft2_26 ∨ q_27 = -1 ∧ (¬ ∃ v9, zNu fb ln.toInt bg2_17.toInt (0 : Int32).toInt (999 : Int32).toInt v9) ∧ bg2_17 = ft2_26 ∧ kd2_16 = kd2_23 ∧ bg2_17 = bg2_24 ∧ nx2_18 = nx2_25) := hq28
          have hP : va_P g.1 vwCl (List.flatten [bTT g tt ta o, bTown g o a pe wo tx ch jo tr dy sd f, bTape g ta ab sz ln kd2_23 bg2_24 nx2_25 ft2_26 fb]) H := hP
          have hD : va_D A (List.flatten [bTT g tt ta o, bTown g o a pe wo tx ch jo tr dy sd f, bTape g ta ab sz ln kd2_23 bg2_24 nx2_25 ft2_26 fb]) := hD
          refine W.widen (k := 0) (n := 0) (Nat.le_of_ble_eq_true rfl) (Nat.le_of_ble_eq_true rfl) ?_
          refine W.eq (g2 := F0 m 68 ls [.int q_27]) rfl ?_
          obtain ⟨hq28_0, hq28_1, hq28_2, hq28_3, hq28_4, hq28_5⟩ := hq28
          rcases hq28_5 with ⟨hq28_k, hq28_km, rfl⟩ | ⟨rfl, hq28_k, rfl, rfl, rfl, rfl⟩
          · skip
            have w29 : 0 ≤ q_27.toInt ∧ q_27.toInt ≤ 999 := ⟨(by have h9 := hq28_k.2.2.1; omega), (by have h9 := hq28_k.2.2.2; omega)⟩
            refine lv_istore_n (lv' := [(2, .int q_27), (1, .int q_11), (0, .ref tt)]) hx hb dX10_readPerson_68 rfl hl (by decide) rfl (fun ls hl => ?_)
            refine lv_iload_n hx hb dX10_readPerson_69 rfl (lv_at hl 0 rfl) ?_
            refine lv_iconst (v := (-1)) hx hb dX10_readPerson_70 (by decide) ?_
            refine lv_icmp_ne (tgt := 76) hx hb dX10_readPerson_71 (by decide) (fun cb9 => ?_) (fun cb9 => ?_)
            · skip
              have c30 : ¬ q_27.toInt = (-1) := zne cb9 rfl (by decide)
              refine lv_aload_n hx hb dX10_readPerson_76 rfl (lv_at hl 2 rfl) ?_
              refine va_get (D := g.1) (ci := 8) (v := .ref o) (C := RX10) (T := TX10) (N := 2) hx hb hts izRX10 hown hK hP 0 rfl rfl 1 (by decide) (hts _ k439) (fun _ h9 => h9) rfl dX10_readPerson_77 ?_
              refine lv_iload_n hx hb dX10_readPerson_80 rfl (lv_at hl 1 rfl) ?_
              refine lv_iload_n hx hb dX10_readPerson_81 rfl (lv_at hl 0 rfl) ?_
              refine lv_aload_n hx hb dX10_readPerson_82 rfl (lv_at hl 2 rfl) ?_
              refine va_get (D := g.1) (ci := 8) (v := .ref ta) (C := RX10) (T := TX10) (N := 2) hx hb hts izRX10 hown hK hP 0 rfl rfl 0 (by decide) (hts _ k441) (fun x9 h9 => u_same (hts _ k442) x9 h9) rfl dX10_readPerson_83 ?_
              refine va_ldcS (q := g.2 56) hx hb hown (zra23 hT.2.1) dX10_readPerson_86 ?_
              refine mcallV' (g := g) (q0 := 0) (ci := 6) (As := [.ref (g.2 56)]) (rest := [.int q_27, .int q_11, .ref o]) St hK hT hA hP hD hS hl.1 [2] [0, 1] rfl rfl rfl (c_t_takeWordF l g ta ab sz ln kd2_23 bg2_24 nx2_25 (-1) fb (g.2 56) 23 zqa23 hln hq28_1 hq28_2 hq28_3 hq28_4 rfl zla23 zna23 (zlitB zla23)) (cwV 1 hts (zgL (zl4 k449 k311 k312 k277) k284) rfl rfl rfl (by decide +kernel) ⟨Nat.le_of_ble_eq_true rfl, Nat.le_of_ble_eq_true rfl⟩) rfl rfl rfl rfl (Nat.le_of_ble_eq_true rfl) dX10_readPerson_88 ⟨(Nat.le_of_ble_eq_true rfl), (Nat.le_of_ble_eq_true rfl)⟩ (fun u_ H locs hq35 hP hD hS => ?_)
              obtain ⟨kd2_31, bg2_32, nx2_33, r_34⟩ := u_
              replace hq35 : (0 ≤ nx2_33.toInt ∧ nx2_33.toInt ≤ 400) ∧ (0 ≤ bg2_32.toInt ∧ bg2_32.toInt ≤ 400) ∧ (zKd kd2_31.toInt bg2_32.toInt nx2_33.toInt) ∧ (zTk fb ln.toInt kd2_31.toInt bg2_32.toInt nx2_33.toInt) ∧ (r_34 = 1 ∧ zisW fb ln.toInt bg2_24.toInt zqa23.2.2.2 ∧ zMv fb ln.toInt bg2_24.toInt bg2_32.toInt ∨ r_34 = 0 ∧ ¬ zisW fb ln.toInt bg2_24.toInt zqa23.2.2.2 ∧ kd2_23 = kd2_31 ∧ bg2_24 = bg2_32 ∧ nx2_25 = nx2_33) := hq35
              have hP : va_P g.1 vwCl (List.flatten [bTT g tt ta o, bTown g o a pe wo tx ch jo tr dy sd f, bTape g ta ab sz ln kd2_31 bg2_32 nx2_33 (-1) fb]) H := hP
              have hD : va_D A (List.flatten [bTT g tt ta o, bTown g o a pe wo tx ch jo tr dy sd f, bTape g ta ab sz ln kd2_31 bg2_32 nx2_33 (-1) fb]) := hD
              refine W.widen (k := 0) (n := 0) (Nat.le_of_ble_eq_true rfl) (Nat.le_of_ble_eq_true rfl) ?_
              refine W.eq (g2 := F0 m 91 ls [.int r_34, .int q_27, .int q_11, .ref o]) rfl ?_
              obtain ⟨hq35_0, hq35_1, hq35_2, hq35_3, hq35_4⟩ := hq35
              rcases hq35_4 with ⟨rfl, hq35_k, hq35_km⟩ | ⟨rfl, hq35_k, rfl, rfl, rfl⟩
              · skip
                refine mcallV' (g := g) (q0 := 0) (ci := 7) (As := [.int q_11, .int q_27, .int 1]) (rest := []) St hK hT hA hP hD hS hl.1 [1] [0, 2] rfl rfl rfl (c_addPersonC l g o a pe wo tx ch jo tr dy sd f q_11 q_27 1 b_pe b_wo rf (by first | assumption | omega | decide | exact Or.inl (by decide) | exact Or.inr (by decide)) (by first | assumption | omega | decide | exact Or.inl (by decide) | exact Or.inr (by decide)) hab) (cwV 3 hts (zgL (zl4 k450 k451 k452 k24) k435) rfl rfl rfl (by decide +kernel) ⟨Nat.le_of_ble_eq_true rfl, Nat.le_of_ble_eq_true rfl⟩) rfl rfl rfl rfl (Nat.le_of_ble_eq_true rfl) dX10_readPerson_91 ⟨(Nat.le_of_ble_eq_true rfl), (Nat.le_of_ble_eq_true rfl)⟩ (fun u_ H locs hq38 hP hD hS => ?_)
                obtain ⟨pe2_36, f2_37⟩ := u_
                replace hq38 : (0 ≤ pe2_36.toInt ∧ pe2_36.toInt ≤ 8) ∧ (zZ4 f2_37) ∧ (pe2_36 = pe + 1) ∧ (pe2_36.toInt = pe.toInt + 1) ∧ (zEq f2_37 (zPer f pe.toInt.toNat q_11 q_27 1)) := hq38
                have hP : va_P g.1 vwCl (List.flatten [bTT g tt ta o, bTape g ta ab sz ln kd2_31 bg2_32 nx2_33 (-1) fb, bTown g o a pe2_36 wo tx ch jo tr dy sd f2_37]) H := hP
                have hD : va_D A (List.flatten [bTT g tt ta o, bTape g ta ab sz ln kd2_31 bg2_32 nx2_33 (-1) fb, bTown g o a pe2_36 wo tx ch jo tr dy sd f2_37]) := hD
                refine W.widen (k := 0) (n := 0) (Nat.le_of_ble_eq_true rfl) (Nat.le_of_ble_eq_true rfl) ?_
                refine W.eq (g2 := F0 m 94 ls []) rfl ?_
                obtain ⟨hq38_0, rf2_37, hq38_2, hq38_3, hq38_4⟩ := hq38
                refine lv_iconst (v := 1) hx hb dX10_readPerson_94 (by decide) ?_
                have hP : va_P g.1 vwCl (List.flatten [bTT g tt ta o, bTape g ta ab sz ln kd2_31 bg2_32 nx2_33 (-1) fb, bTown g o a pe2_36 wo tx ch jo tr dy sd f2_37]) H := hP
                have hD : va_D A (List.flatten [bTT g tt ta o, bTape g ta ab sz ln kd2_31 bg2_32 nx2_33 (-1) fb, bTown g o a pe2_36 wo tx ch jo tr dy sd f2_37]) := hD
                exact mret_z hx hb hr hlocks hS (Nat.le_of_ble_eq_true rfl) (Nat.le_of_ble_eq_true rfl) dX10_readPerson_95 (kd2_31, bg2_32, nx2_33, -1, pe2_36, f2_37, (1 : Int32)) rfl (by decide) (show (0 ≤ pe2_36.toInt ∧ pe2_36.toInt ≤ 8) ∧ (zZ4 f2_37) ∧ (-1 ≤ ((-1) : Int32).toInt) ∧ (0 ≤ nx2_33.toInt ∧ nx2_33.toInt ≤ 400) ∧ (0 ≤ bg2_32.toInt ∧ bg2_32.toInt ≤ 400) ∧ (zKd kd2_31.toInt bg2_32.toInt nx2_33.toInt) ∧ (zTk fb ln.toInt kd2_31.toInt bg2_32.toInt nx2_33.toInt) ∧ (1 = 1 ∧ zTO (zTPerson fb ln.toInt pe.toInt bg.toInt) bg2_32.toInt pe.toInt pe2_36.toInt wo.toInt wo.toInt ∧ (-1) = (-1) ∧ (zTQ (zTPerson fb ln.toInt pe.toInt bg.toInt) fb bg2_32.toInt (pe, wo, ch, jo, tr, dy, f) (pe2_36, wo, ch, jo, tr, dy, f2_37) ∧ zAb f2_37 pe2_36.toInt) ∨ 1 = 0 ∧ zTPerson fb ln.toInt pe.toInt bg.toInt (.bad ((-1) : Int32).toInt)) from ⟨(by first | assumption | omega | exact Or.inl (by decide) | exact Or.inr (by omega) | decide), (by first | assumption | omega | exact Or.inl (by decide) | exact Or.inr (by omega) | decide), (by first | assumption | omega | exact Or.inl (by decide) | exact Or.inr (by omega) | decide), (by first | assumption | omega | exact Or.inl (by decide) | exact Or.inr (by omega) | decide), (by first | assumption | omega | exact Or.inl (by decide) | exact Or.inr (by omega) | decide), (by first | assumption | omega | exact Or.inl (by decide) | exact Or.inr (by omega) | decide), (by first | assumption | omega | exact Or.inl (by decide) | exact Or.inr (by omega) | decide), (Or.inl ⟨rfl, ⟨_, zTP_i (by omega) (zMv_mk hTk hq6_3) (zNN_y (by decide) (by decide) hq12_k hq12_km (zW1_y hq21_k hq21_km (zNN_y (by decide) (by decide) hq28_k hq28_km (zKp3_y hq35_k hq35_km)))), zcp_y (by omega), zcw_n (by decide) rfl⟩, rfl, ⟨⟨_, zTP_i (by omega) (zMv_mk hTk hq6_3) (zNN_y (by decide) (by decide) hq12_k hq12_km (zW1_y hq21_k hq21_km (zNN_y (by decide) (by decide) hq28_k hq28_km (zKp3_y hq35_k hq35_km)))), zSR_0 (zoi _) (zoi _) (by decide) hq38_2 hq38_4⟩, zAb_p hab (by omega) hq38_4⟩⟩)⟩) hP hD
              · skip
                refine mcallV' (g := g) (q0 := 0) (ci := 7) (As := [.int q_11, .int q_27, .int 0]) (rest := []) St hK hT hA hP hD hS hl.1 [1] [0, 2] rfl rfl rfl (c_addPersonC l g o a pe wo tx ch jo tr dy sd f q_11 q_27 0 b_pe b_wo rf (by first | assumption | omega | decide | exact Or.inl (by decide) | exact Or.inr (by decide)) (by first | assumption | omega | decide | exact Or.inl (by decide) | exact Or.inr (by decide)) hab) (cwV 3 hts (zgL (zl4 k450 k451 k452 k24) k435) rfl rfl rfl (by decide +kernel) ⟨Nat.le_of_ble_eq_true rfl, Nat.le_of_ble_eq_true rfl⟩) rfl rfl rfl rfl (Nat.le_of_ble_eq_true rfl) dX10_readPerson_91 ⟨(Nat.le_of_ble_eq_true rfl), (Nat.le_of_ble_eq_true rfl)⟩ (fun u_ H locs hq41 hP hD hS => ?_)
                obtain ⟨pe2_39, f2_40⟩ := u_
                replace hq41 : (0 ≤ pe2_39.toInt ∧ pe2_39.toInt ≤ 8) ∧ (zZ4 f2_40) ∧ (pe2_39 = pe + 1) ∧ (pe2_39.toInt = pe.toInt + 1) ∧ (zEq f2_40 (zPer f pe.toInt.toNat q_11 q_27 0)) := hq41
                have hP : va_P g.1 vwCl (List.flatten [bTT g tt ta o, bTape g ta ab sz ln kd2_23 bg2_24 nx2_25 (-1) fb, bTown g o a pe2_39 wo tx ch jo tr dy sd f2_40]) H := hP
                have hD : va_D A (List.flatten [bTT g tt ta o, bTape g ta ab sz ln kd2_23 bg2_24 nx2_25 (-1) fb, bTown g o a pe2_39 wo tx ch jo tr dy sd f2_40]) := hD
                refine W.widen (k := 0) (n := 0) (Nat.le_of_ble_eq_true rfl) (Nat.le_of_ble_eq_true rfl) ?_
                refine W.eq (g2 := F0 m 94 ls []) rfl ?_
                obtain ⟨hq41_0, rf2_40, hq41_2, hq41_3, hq41_4⟩ := hq41
                refine lv_iconst (v := 1) hx hb dX10_readPerson_94 (by decide) ?_
                have hP : va_P g.1 vwCl (List.flatten [bTT g tt ta o, bTape g ta ab sz ln kd2_23 bg2_24 nx2_25 (-1) fb, bTown g o a pe2_39 wo tx ch jo tr dy sd f2_40]) H := hP
                have hD : va_D A (List.flatten [bTT g tt ta o, bTape g ta ab sz ln kd2_23 bg2_24 nx2_25 (-1) fb, bTown g o a pe2_39 wo tx ch jo tr dy sd f2_40]) := hD
                exact mret_z hx hb hr hlocks hS (Nat.le_of_ble_eq_true rfl) (Nat.le_of_ble_eq_true rfl) dX10_readPerson_95 (kd2_23, bg2_24, nx2_25, -1, pe2_39, f2_40, (1 : Int32)) rfl (by decide) (show (0 ≤ pe2_39.toInt ∧ pe2_39.toInt ≤ 8) ∧ (zZ4 f2_40) ∧ (-1 ≤ ((-1) : Int32).toInt) ∧ (0 ≤ nx2_25.toInt ∧ nx2_25.toInt ≤ 400) ∧ (0 ≤ bg2_24.toInt ∧ bg2_24.toInt ≤ 400) ∧ (zKd kd2_23.toInt bg2_24.toInt nx2_25.toInt) ∧ (zTk fb ln.toInt kd2_23.toInt bg2_24.toInt nx2_25.toInt) ∧ (1 = 1 ∧ zTO (zTPerson fb ln.toInt pe.toInt bg.toInt) bg2_24.toInt pe.toInt pe2_39.toInt wo.toInt wo.toInt ∧ (-1) = (-1) ∧ (zTQ (zTPerson fb ln.toInt pe.toInt bg.toInt) fb bg2_24.toInt (pe, wo, ch, jo, tr, dy, f) (pe2_39, wo, ch, jo, tr, dy, f2_40) ∧ zAb f2_40 pe2_39.toInt) ∨ 1 = 0 ∧ zTPerson fb ln.toInt pe.toInt bg.toInt (.bad ((-1) : Int32).toInt)) from ⟨(by first | assumption | omega | exact Or.inl (by decide) | exact Or.inr (by omega) | decide), (by first | assumption | omega | exact Or.inl (by decide) | exact Or.inr (by omega) | decide), (by first | assumption | omega | exact Or.inl (by decide) | exact Or.inr (by omega) | decide), (by first | assumption | omega | exact Or.inl (by decide) | exact Or.inr (by omega) | decide), (by first | assumption | omega | exact Or.inl (by decide) | exact Or.inr (by omega) | decide), (by first | assumption | omega | exact Or.inl (by decide) | exact Or.inr (by omega) | decide), (by first | assumption | omega | exact Or.inl (by decide) | exact Or.inr (by omega) | decide), (Or.inl ⟨rfl, ⟨_, zTP_i (by omega) (zMv_mk hTk hq6_3) (zNN_y (by decide) (by decide) hq12_k hq12_km (zW1_y hq21_k hq21_km (zNN_y (by decide) (by decide) hq28_k hq28_km (zKp3_n hq35_k)))), zcp_y (by omega), zcw_n (by decide) rfl⟩, rfl, ⟨⟨_, zTP_i (by omega) (zMv_mk hTk hq6_3) (zNN_y (by decide) (by decide) hq12_k hq12_km (zW1_y hq21_k hq21_km (zNN_y (by decide) (by decide) hq28_k hq28_km (zKp3_n hq35_k)))), zSR_0 (zoi _) (zoi _) (by decide) hq41_2 hq41_4⟩, zAb_p hab (by omega) hq41_4⟩⟩)⟩) hP hD
            · skip
              exact absurd (show q_27.toInt = (-1) from zeq cb9 rfl (by decide)) (zDeq2 (a := 0) (b := (-1)) w29.1 (Int.le_refl _) (by decide))
          · skip
            refine lv_istore_n (lv' := [(2, .int (-1)), (1, .int q_11), (0, .ref tt)]) hx hb dX10_readPerson_68 rfl hl (by decide) rfl (fun ls hl => ?_)
            refine lv_iload_n hx hb dX10_readPerson_69 rfl (lv_at hl 0 rfl) ?_
            refine lv_iconst (v := (-1)) hx hb dX10_readPerson_70 (by decide) ?_
            refine lv_icmp_ne (tgt := 76) hx hb dX10_readPerson_71 (by decide) (fun c43 => absurd (by decide) c43) (fun _ => ?_)
            refine lv_iconst (v := 0) hx hb dX10_readPerson_74 (by decide) ?_
            have hP : va_P g.1 vwCl (List.flatten [bTT g tt ta o, bTown g o a pe wo tx ch jo tr dy sd f, bTape g ta ab sz ln kd2_16 bg2_17 nx2_18 bg2_17 fb]) H := hP
            have hD : va_D A (List.flatten [bTT g tt ta o, bTown g o a pe wo tx ch jo tr dy sd f, bTape g ta ab sz ln kd2_16 bg2_17 nx2_18 bg2_17 fb]) := hD
            obtain ⟨hP, hD⟩ := zord (g := g) (Bs' := [bTT g tt ta o, bTape g ta ab sz ln kd2_16 bg2_17 nx2_18 bg2_17 fb, bTown g o a pe wo tx ch jo tr dy sd f]) [0, 2, 1] rfl rfl hP hD
            exact mret_z hx hb hr hlocks hS (Nat.le_of_ble_eq_true rfl) (Nat.le_of_ble_eq_true rfl) dX10_readPerson_75 (kd2_16, bg2_17, nx2_18, bg2_17, pe, f, (0 : Int32)) rfl (by decide) (show (0 ≤ pe.toInt ∧ pe.toInt ≤ 8) ∧ (zZ4 f) ∧ (-1 ≤ bg2_17.toInt) ∧ (0 ≤ nx2_18.toInt ∧ nx2_18.toInt ≤ 400) ∧ (0 ≤ bg2_17.toInt ∧ bg2_17.toInt ≤ 400) ∧ (zKd kd2_16.toInt bg2_17.toInt nx2_18.toInt) ∧ (zTk fb ln.toInt kd2_16.toInt bg2_17.toInt nx2_18.toInt) ∧ (0 = 1 ∧ zTO (zTPerson fb ln.toInt pe.toInt bg.toInt) bg2_17.toInt pe.toInt pe.toInt wo.toInt wo.toInt ∧ (-1) = bg2_17 ∧ (zTQ (zTPerson fb ln.toInt pe.toInt bg.toInt) fb bg2_17.toInt (pe, wo, ch, jo, tr, dy, f) (pe, wo, ch, jo, tr, dy, f) ∧ zAb f pe.toInt) ∨ 0 = 0 ∧ zTPerson fb ln.toInt pe.toInt bg.toInt (.bad bg2_17.toInt)) from ⟨(by first | assumption | omega | exact Or.inl (by decide) | exact Or.inr (by omega) | decide), (by first | assumption | omega | exact Or.inl (by decide) | exact Or.inr (by omega) | decide), (by first | assumption | omega | exact Or.inl (by decide) | exact Or.inr (by omega) | decide), (by first | assumption | omega | exact Or.inl (by decide) | exact Or.inr (by omega) | decide), (by first | assumption | omega | exact Or.inl (by decide) | exact Or.inr (by omega) | decide), (by first | assumption | omega | exact Or.inl (by decide) | exact Or.inr (by omega) | decide), (by first | assumption | omega | exact Or.inl (by decide) | exact Or.inr (by omega) | decide), (Or.inr ⟨rfl, zTP_i (by omega) (zMv_mk hTk hq6_3) (zNN_y (by decide) (by decide) hq12_k hq12_km (zW1_y hq21_k hq21_km (zNN_n (by decide) (by decide) rfl hq28_k)))⟩)⟩) hP hD
        · skip
          refine lv_if_ne (tgt := 57) hx hb dX10_readPerson_52 (by decide) (fun c44 => absurd (by decide) c44) (fun _ => ?_)
          refine lv_iconst (v := 0) hx hb dX10_readPerson_55 (by decide) ?_
          have hP : va_P g.1 vwCl (List.flatten [bTT g tt ta o, bTown g o a pe wo tx ch jo tr dy sd f, bTape g ta ab sz ln kd2_7 bg2_8 nx2_9 bg2_8 fb]) H := hP
          have hD : va_D A (List.flatten [bTT g tt ta o, bTown g o a pe wo tx ch jo tr dy sd f, bTape g ta ab sz ln kd2_7 bg2_8 nx2_9 bg2_8 fb]) := hD
          obtain ⟨hP, hD⟩ := zord (g := g) (Bs' := [bTT g tt ta o, bTape g ta ab sz ln kd2_7 bg2_8 nx2_9 bg2_8 fb, bTown g o a pe wo tx ch jo tr dy sd f]) [0, 2, 1] rfl rfl hP hD
          exact mret_z hx hb hr hlocks hS (Nat.le_of_ble_eq_true rfl) (Nat.le_of_ble_eq_true rfl) dX10_readPerson_56 (kd2_7, bg2_8, nx2_9, bg2_8, pe, f, (0 : Int32)) rfl (by decide) (show (0 ≤ pe.toInt ∧ pe.toInt ≤ 8) ∧ (zZ4 f) ∧ (-1 ≤ bg2_8.toInt) ∧ (0 ≤ nx2_9.toInt ∧ nx2_9.toInt ≤ 400) ∧ (0 ≤ bg2_8.toInt ∧ bg2_8.toInt ≤ 400) ∧ (zKd kd2_7.toInt bg2_8.toInt nx2_9.toInt) ∧ (zTk fb ln.toInt kd2_7.toInt bg2_8.toInt nx2_9.toInt) ∧ (0 = 1 ∧ zTO (zTPerson fb ln.toInt pe.toInt bg.toInt) bg2_8.toInt pe.toInt pe.toInt wo.toInt wo.toInt ∧ (-1) = bg2_8 ∧ (zTQ (zTPerson fb ln.toInt pe.toInt bg.toInt) fb bg2_8.toInt (pe, wo, ch, jo, tr, dy, f) (pe, wo, ch, jo, tr, dy, f) ∧ zAb f pe.toInt) ∨ 0 = 0 ∧ zTPerson fb ln.toInt pe.toInt bg.toInt (.bad bg2_8.toInt)) from ⟨(by first | assumption | omega | exact Or.inl (by decide) | exact Or.inr (by omega) | decide), (by first | assumption | omega | exact Or.inl (by decide) | exact Or.inr (by omega) | decide), (by first | assumption | omega | exact Or.inl (by decide) | exact Or.inr (by omega) | decide), (by first | assumption | omega | exact Or.inl (by decide) | exact Or.inr (by omega) | decide), (by first | assumption | omega | exact Or.inl (by decide) | exact Or.inr (by omega) | decide), (by first | assumption | omega | exact Or.inl (by decide) | exact Or.inr (by omega) | decide), (by first | assumption | omega | exact Or.inl (by decide) | exact Or.inr (by omega) | decide), (Or.inr ⟨rfl, zTP_i (by omega) (zMv_mk hTk hq6_3) (zNN_y (by decide) (by decide) hq12_k hq12_km (zW1_n rfl hq21_k))⟩)⟩) hP hD
    · skip
      refine lv_istore_n (lv' := [(1, .int (-1)), (0, .ref tt)]) hx hb dX10_readPerson_37 rfl hl (by decide) rfl (fun ls hl => ?_)
      refine lv_iload_n hx hb dX10_readPerson_38 rfl (lv_at hl 0 rfl) ?_
      refine lv_iconst (v := (-1)) hx hb dX10_readPerson_39 (by decide) ?_
      refine lv_icmp_eq (tgt := 55) hx hb dX10_readPerson_40 (by decide) (fun _ => ?_) (fun c45 => absurd (by decide) c45)
      refine lv_iconst (v := 0) hx hb dX10_readPerson_55 (by decide) ?_
      have hP : va_P g.1 vwCl (List.flatten [bTT g tt ta o, bTown g o a pe wo tx ch jo tr dy sd f, bTape g ta ab sz ln kd2_3 bg2_4 nx2_5 bg2_4 fb]) H := hP
      have hD : va_D A (List.flatten [bTT g tt ta o, bTown g o a pe wo tx ch jo tr dy sd f, bTape g ta ab sz ln kd2_3 bg2_4 nx2_5 bg2_4 fb]) := hD
      obtain ⟨hP, hD⟩ := zord (g := g) (Bs' := [bTT g tt ta o, bTape g ta ab sz ln kd2_3 bg2_4 nx2_5 bg2_4 fb, bTown g o a pe wo tx ch jo tr dy sd f]) [0, 2, 1] rfl rfl hP hD
      exact mret_z hx hb hr hlocks hS (Nat.le_of_ble_eq_true rfl) (Nat.le_of_ble_eq_true rfl) dX10_readPerson_56 (kd2_3, bg2_4, nx2_5, bg2_4, pe, f, (0 : Int32)) rfl (by decide) (show (0 ≤ pe.toInt ∧ pe.toInt ≤ 8) ∧ (zZ4 f) ∧ (-1 ≤ bg2_4.toInt) ∧ (0 ≤ nx2_5.toInt ∧ nx2_5.toInt ≤ 400) ∧ (0 ≤ bg2_4.toInt ∧ bg2_4.toInt ≤ 400) ∧ (zKd kd2_3.toInt bg2_4.toInt nx2_5.toInt) ∧ (zTk fb ln.toInt kd2_3.toInt bg2_4.toInt nx2_5.toInt) ∧ (0 = 1 ∧ zTO (zTPerson fb ln.toInt pe.toInt bg.toInt) bg2_4.toInt pe.toInt pe.toInt wo.toInt wo.toInt ∧ (-1) = bg2_4 ∧ (zTQ (zTPerson fb ln.toInt pe.toInt bg.toInt) fb bg2_4.toInt (pe, wo, ch, jo, tr, dy, f) (pe, wo, ch, jo, tr, dy, f) ∧ zAb f pe.toInt) ∨ 0 = 0 ∧ zTPerson fb ln.toInt pe.toInt bg.toInt (.bad bg2_4.toInt)) from ⟨(by first | assumption | omega | exact Or.inl (by decide) | exact Or.inr (by omega) | decide), (by first | assumption | omega | exact Or.inl (by decide) | exact Or.inr (by omega) | decide), (by first | assumption | omega | exact Or.inl (by decide) | exact Or.inr (by omega) | decide), (by first | assumption | omega | exact Or.inl (by decide) | exact Or.inr (by omega) | decide), (by first | assumption | omega | exact Or.inl (by decide) | exact Or.inr (by omega) | decide), (by first | assumption | omega | exact Or.inl (by decide) | exact Or.inr (by omega) | decide), (by first | assumption | omega | exact Or.inl (by decide) | exact Or.inr (by omega) | decide), (Or.inr ⟨rfl, zTP_i (by omega) (zMv_mk hTk hq6_3) (zNN_n (by decide) (by decide) rfl hq12_k)⟩)⟩) hP hD
  · skip
    have c46 : 8 ≤ pe.toInt := zle (Int32.not_lt.mp cb9) (by decide) rfl
    have n47 : 8 ≤ pe.toInt := Int.le_trans (Int.le_refl _) c46
    refine lv_aload_n hx hb dX10_readPerson_12 rfl (lv_at hl 0 rfl) ?_
    refine va_get (D := g.1) (ci := 8) (v := .ref ta) (C := RX10) (T := TX10) (N := 2) hx hb hts izRX10 hown hK hP 0 rfl rfl 0 (by decide) (hts _ k441) (fun x9 h9 => u_same (hts _ k442) x9 h9) rfl dX10_readPerson_13 ?_
    refine mcallV' (g := g) (q0 := 0) (ci := 6) (As := []) (rest := []) St hK hT hA hP hD hS hl.1 [1] [0, 2] rfl rfl rfl (c_t_refuseF l g ta ab sz ln kd bg nx fb ) (cwV 0 hts (zgL (zl4 k443 k279 k280 k277) k269) rfl rfl rfl (by decide +kernel) ⟨Nat.le_of_ble_eq_true rfl, Nat.le_of_ble_eq_true rfl⟩) rfl rfl rfl rfl (Nat.le_of_ble_eq_true rfl) dX10_readPerson_16 ⟨(Nat.le_of_ble_eq_true rfl), (Nat.le_of_ble_eq_true rfl)⟩ (fun _u H locs hq48 hP hD hS => ?_)
    have hP : va_P g.1 vwCl (List.flatten [bTT g tt ta o, bTown g o a pe wo tx ch jo tr dy sd f, bTape g ta ab sz ln kd bg nx bg fb]) H := hP
    have hD : va_D A (List.flatten [bTT g tt ta o, bTown g o a pe wo tx ch jo tr dy sd f, bTape g ta ab sz ln kd bg nx bg fb]) := hD
    refine W.widen (k := 0) (n := 0) (Nat.le_of_ble_eq_true rfl) (Nat.le_of_ble_eq_true rfl) ?_
    refine W.eq (g2 := F0 m 19 ls [.int 0]) rfl ?_
    have hP : va_P g.1 vwCl (List.flatten [bTT g tt ta o, bTown g o a pe wo tx ch jo tr dy sd f, bTape g ta ab sz ln kd bg nx bg fb]) H := hP
    have hD : va_D A (List.flatten [bTT g tt ta o, bTown g o a pe wo tx ch jo tr dy sd f, bTape g ta ab sz ln kd bg nx bg fb]) := hD
    obtain ⟨hP, hD⟩ := zord (g := g) (Bs' := [bTT g tt ta o, bTape g ta ab sz ln kd bg nx bg fb, bTown g o a pe wo tx ch jo tr dy sd f]) [0, 2, 1] rfl rfl hP hD
    exact mret_z hx hb hr hlocks hS (Nat.le_of_ble_eq_true rfl) (Nat.le_of_ble_eq_true rfl) dX10_readPerson_19 (kd, bg, nx, bg, pe, f, (0 : Int32)) rfl (by decide) (show (0 ≤ pe.toInt ∧ pe.toInt ≤ 8) ∧ (zZ4 f) ∧ (-1 ≤ bg.toInt) ∧ (0 ≤ nx.toInt ∧ nx.toInt ≤ 400) ∧ (0 ≤ bg.toInt ∧ bg.toInt ≤ 400) ∧ (zKd kd.toInt bg.toInt nx.toInt) ∧ (zTk fb ln.toInt kd.toInt bg.toInt nx.toInt) ∧ (0 = 1 ∧ zTO (zTPerson fb ln.toInt pe.toInt bg.toInt) bg.toInt pe.toInt pe.toInt wo.toInt wo.toInt ∧ (-1) = bg ∧ (zTQ (zTPerson fb ln.toInt pe.toInt bg.toInt) fb bg.toInt (pe, wo, ch, jo, tr, dy, f) (pe, wo, ch, jo, tr, dy, f) ∧ zAb f pe.toInt) ∨ 0 = 0 ∧ zTPerson fb ln.toInt pe.toInt bg.toInt (.bad bg.toInt)) from ⟨(by first | assumption | omega | exact Or.inl (by decide) | exact Or.inr (by omega) | decide), (by first | assumption | omega | exact Or.inl (by decide) | exact Or.inr (by omega) | decide), (by first | assumption | omega | exact Or.inl (by decide) | exact Or.inr (by omega) | decide), (by first | assumption | omega | exact Or.inl (by decide) | exact Or.inr (by omega) | decide), (by first | assumption | omega | exact Or.inl (by decide) | exact Or.inr (by omega) | decide), (by first | assumption | omega | exact Or.inl (by decide) | exact Or.inr (by omega) | decide), (by first | assumption | omega | exact Or.inl (by decide) | exact Or.inr (by omega) | decide), (Or.inr ⟨rfl, zTP_f (by omega) rfl⟩)⟩) hP hD
set_option maxRecDepth 100000 in
set_option maxHeartbeats 4000000 in
theorem c_tt_readWorkC (l : Launch) (g : zG) (tt : Nat) (ta : Nat) (o : Nat) (ab : Nat) (sz : Int32) (ln : Int32) (kd : Int32) (bg : Int32) (nx : Int32) (fb : Nat → Int32) (a : Nat → Nat) (pe : Int32) (wo : Int32) (tx : Int32) (ch : Int32) (jo : Int32) (tr : Int32) (dy : Int32) (sd : Int32) (f : Nat → Nat → Int32) (b_pe : 0 ≤ pe.toInt ∧ pe.toInt ≤ 8) (b_wo : 0 ≤ wo.toInt ∧ wo.toInt ≤ 6) (rf : zZ4 f) (hln : 0 ≤ ln.toInt ∧ ln.toInt ≤ 400) (hnx : 0 ≤ nx.toInt ∧ nx.toInt ≤ 400) (hbg : 0 ≤ bg.toInt ∧ bg.toInt ≤ 400) (hkd : zKd kd.toInt bg.toInt nx.toInt) (hTk : zTk fb ln.toInt kd.toInt bg.toInt nx.toInt) (hab : zAb f pe.toInt) : zM' g l yX10_readWork (Cond.code yX10_readWork cX10_readWork 4 (some .boolean) :: zB) ({ frames := 7, cells := 0, slots := 0, locals := 149 } : Room) [.ref tt] [bTT g tt ta o, bTape g ta ab sz ln kd bg nx (-1) fb, bTown g o a pe wo tx ch jo tr dy sd f] (fun u : Int32 × Int32 × Int32 × Int32 × Int32 × (Nat → Nat → Int32) × Int32 => (fun (kd2 : Int32) (bg2 : Int32) (nx2 : Int32) (ft2 : Int32) (wo2 : Int32) (f2 : Nat → Nat → Int32) (q : Int32) => some (.int q)) (u.1) (u.2.1) (u.2.2.1) (u.2.2.2.1) (u.2.2.2.2.1) (u.2.2.2.2.2.1) (u.2.2.2.2.2.2)) (fun u : Int32 × Int32 × Int32 × Int32 × Int32 × (Nat → Nat → Int32) × Int32 => (fun (kd2 : Int32) (bg2 : Int32) (nx2 : Int32) (ft2 : Int32) (wo2 : Int32) (f2 : Nat → Nat → Int32) (q : Int32) => (0 ≤ wo2.toInt ∧ wo2.toInt ≤ 6) ∧ (zZ4 f2) ∧ (-1 ≤ ft2.toInt) ∧ (0 ≤ nx2.toInt ∧ nx2.toInt ≤ 400) ∧ (0 ≤ bg2.toInt ∧ bg2.toInt ≤ 400) ∧ (zKd kd2.toInt bg2.toInt nx2.toInt) ∧ (zTk fb ln.toInt kd2.toInt bg2.toInt nx2.toInt) ∧ (q = 1 ∧ zTO (zTWork fb ln.toInt wo.toInt bg.toInt) bg2.toInt pe.toInt pe.toInt wo.toInt wo2.toInt ∧ (-1) = ft2 ∧ (zTQ (zTWork fb ln.toInt wo.toInt bg.toInt) fb bg2.toInt (pe, wo, ch, jo, tr, dy, f) (pe, wo2, ch, jo, tr, dy, f2) ∧ zAb f2 pe.toInt) ∨ q = 0 ∧ zTWork fb ln.toInt wo.toInt bg.toInt (.bad ft2.toInt))) (u.1) (u.2.1) (u.2.2.1) (u.2.2.2.1) (u.2.2.2.2.1) (u.2.2.2.2.2.1) (u.2.2.2.2.2.2)) (fun u : Int32 × Int32 × Int32 × Int32 × Int32 × (Nat → Nat → Int32) × Int32 => (fun (kd2 : Int32) (bg2 : Int32) (nx2 : Int32) (ft2 : Int32) (wo2 : Int32) (f2 : Nat → Nat → Int32) (q : Int32) => [bTT g tt ta o, bTape g ta ab sz ln kd2 bg2 nx2 ft2 fb, bTown g o a pe wo2 tx ch jo tr dy sd f2]) (u.1) (u.2.1) (u.2.2.1) (u.2.2.2.1) (u.2.2.2.2.1) (u.2.2.2.2.2.1) (u.2.2.2.2.2.2)) := by
  refine zM'.of (cc := cX10_readWork) (maxL := 4) (rt := (some .boolean)) (by decide) rfl (Nat.le_of_ble_eq_true rfl) ?_
  intro p e s m args below meth c A ls St hr hlocks hin hK hT hA hP hD hS hl
  obtain ⟨hx, hb, hml, hown, hts⟩ := id St
  have hl : lv_has ls 4 [(0, .ref tt)] := hl
  refine lv_aload_n hx hb dX10_readWork_0 rfl (lv_at hl 0 rfl) ?_
  refine va_get (D := g.1) (ci := 8) (v := .ref o) (C := RX10) (T := TX10) (N := 2) hx hb hts izRX10 hown hK hP 0 rfl rfl 1 (by decide) (hts _ k439) (fun _ h9 => h9) rfl dX10_readWork_1 ?_
  refine va_get (D := g.1) (ci := 7) (v := .int wo) (C := RX9) (T := TX9) (N := 19) hx hb hts izRX9 hown hK hP 3 rfl rfl 1 (by decide) (hts _ k455) (fun _ h9 => h9) rfl dX10_readWork_4 ?_
  refine lv_bipush (v := 6) hx hb dX10_readWork_7 (by decide) ?_
  refine lv_icmp_lt (tgt := 20) hx hb dX10_readWork_9 (by decide) (fun cb9 => ?_) (fun cb9 => ?_)
  · skip
    have c1 : wo.toInt < 6 := zlti cb9 rfl (by decide)
    have n2 : wo.toInt ≤ 5 := zL1 (b := 6) c1 (Int.le_refl _) (by decide)
    refine lv_aload_n hx hb dX10_readWork_20 rfl (lv_at hl 0 rfl) ?_
    refine va_get (D := g.1) (ci := 8) (v := .ref ta) (C := RX10) (T := TX10) (N := 2) hx hb hts izRX10 hown hK hP 0 rfl rfl 0 (by decide) (hts _ k441) (fun x9 h9 => u_same (hts _ k442) x9 h9) rfl dX10_readWork_21 ?_
    refine mcallV' (g := g) (q0 := 0) (ci := 6) (As := []) (rest := []) St hK hT hA hP hD hS hl.1 [1] [0, 2] rfl rfl rfl (c_t_stepF l g ta ab sz ln kd bg nx (-1) fb hln hnx) (cwV 0 hts (zgL (zl4 k444 k275 k276 k277) k271) rfl rfl rfl (by decide +kernel) ⟨Nat.le_of_ble_eq_true rfl, Nat.le_of_ble_eq_true rfl⟩) rfl rfl rfl rfl (Nat.le_of_ble_eq_true rfl) dX10_readWork_24 ⟨(Nat.le_of_ble_eq_true rfl), (Nat.le_of_ble_eq_true rfl)⟩ (fun u_ H locs hq6 hP hD hS => ?_)
    obtain ⟨kd2_3, bg2_4, nx2_5⟩ := u_
    replace hq6 : (0 ≤ nx2_5.toInt ∧ nx2_5.toInt ≤ 400) ∧ (0 ≤ bg2_4.toInt ∧ bg2_4.toInt ≤ 400) ∧ (zKd kd2_3.toInt bg2_4.toInt nx2_5.toInt) ∧ (zSk fb ln.toInt nx.toInt bg2_4.toInt) ∧ (zTk fb ln.toInt kd2_3.toInt bg2_4.toInt nx2_5.toInt) := hq6
    have hP : va_P g.1 vwCl (List.flatten [bTT g tt ta o, bTown g o a pe wo tx ch jo tr dy sd f, bTape g ta ab sz ln kd2_3 bg2_4 nx2_5 (-1) fb]) H := hP
    have hD : va_D A (List.flatten [bTT g tt ta o, bTown g o a pe wo tx ch jo tr dy sd f, bTape g ta ab sz ln kd2_3 bg2_4 nx2_5 (-1) fb]) := hD
    refine W.widen (k := 0) (n := 0) (Nat.le_of_ble_eq_true rfl) (Nat.le_of_ble_eq_true rfl) ?_
    refine W.eq (g2 := F0 m 27 ls []) rfl ?_
    obtain ⟨hq6_0, hq6_1, hq6_2, hq6_3, hq6_4⟩ := hq6
    refine lv_aload_n hx hb dX10_readWork_27 rfl (lv_at hl 0 rfl) ?_
    refine va_get (D := g.1) (ci := 8) (v := .ref ta) (C := RX10) (T := TX10) (N := 2) hx hb hts izRX10 hown hK hP 0 rfl rfl 0 (by decide) (hts _ k441) (fun x9 h9 => u_same (hts _ k442) x9 h9) rfl dX10_readWork_28 ?_
    refine lv_iconst (v := 1) hx hb dX10_readWork_31 (by decide) ?_
    refine lv_bipush (v := 99) hx hb dX10_readWork_32 (by decide) ?_
    have hL1 : (1 : Int32).toInt = 1 := by decide
    have hL99 : (99 : Int32).toInt = 99 := by decide
    refine mcallV' (g := g) (q0 := 0) (ci := 6) (As := [.int 1, .int 99]) (rest := []) St hK hT hA hP hD hS hl.1 [2] [0, 1] rfl rfl rfl (c_t_numberF l g ta ab sz ln kd2_3 bg2_4 nx2_5 fb 1 99 hln hq6_0 hq6_1 hq6_2 hq6_4) (cwV 2 hts (zgL (zl4 k445 k294 k295 k277) k273) rfl rfl rfl (by decide +kernel) ⟨Nat.le_of_ble_eq_true rfl, Nat.le_of_ble_eq_true rfl⟩) rfl rfl rfl rfl (Nat.le_of_ble_eq_true rfl) dX10_readWork_34 ⟨(Nat.le_of_ble_eq_true rfl), (Nat.le_of_ble_eq_true rfl)⟩ (fun u_ H locs hq12 hP hD hS => ?_)
    obtain ⟨kd2_7, bg2_8, nx2_9, ft2_10, q_11⟩ := u_
    replace hq12 : (-1 ≤ ft2_10.toInt) ∧ (0 ≤ nx2_9.toInt ∧ nx2_9.toInt ≤ 400) ∧ (0 ≤ bg2_8.toInt ∧ bg2_8.toInt ≤ 400) ∧ (zKd kd2_7.toInt bg2_8.toInt nx2_9.toInt) ∧ (zTk fb ln.toInt kd2_7.toInt bg2_8.toInt nx2_9.toInt) ∧ (zNu fb ln.toInt bg2_4.toInt (1 : Int32).toInt (99 : Int32).toInt q_11 ∧ zMv fb ln.toInt bg2_4.toInt bg2_8.toInt ∧ (-1) = ft2_10 ∨ q_11 = -1 ∧ (¬ ∃ v9, zNu fb ln.toInt bg2_4.toInt (1 : Int32).toInt (99 : Int32).toInt v9) ∧ bg2_4 = ft2_10 ∧ kd2_3 = kd2_7 ∧ bg2_4 = bg2_8 ∧ nx2_5 = nx2_9) := hq12
    have hP : va_P g.1 vwCl (List.flatten [bTT g tt ta o, bTown g o a pe wo tx ch jo tr dy sd f, bTape g ta ab sz ln kd2_7 bg2_8 nx2_9 ft2_10 fb]) H := hP
    have hD : va_D A (List.flatten [bTT g tt ta o, bTown g o a pe wo tx ch jo tr dy sd f, bTape g ta ab sz ln kd2_7 bg2_8 nx2_9 ft2_10 fb]) := hD
    refine W.widen (k := 0) (n := 0) (Nat.le_of_ble_eq_true rfl) (Nat.le_of_ble_eq_true rfl) ?_
    refine W.eq (g2 := F0 m 37 ls [.int q_11]) rfl ?_
    obtain ⟨hq12_0, hq12_1, hq12_2, hq12_3, hq12_4, hq12_5⟩ := hq12
    rcases hq12_5 with ⟨hq12_k, hq12_km, rfl⟩ | ⟨rfl, hq12_k, rfl, rfl, rfl, rfl⟩
    · skip
      have w13 : 1 ≤ q_11.toInt ∧ q_11.toInt ≤ 99 := ⟨(by have h9 := hq12_k.2.2.1; omega), (by have h9 := hq12_k.2.2.2; omega)⟩
      refine lv_istore_n (lv' := [(1, .int q_11), (0, .ref tt)]) hx hb dX10_readWork_37 rfl hl (by decide) rfl (fun ls hl => ?_)
      refine lv_iload_n hx hb dX10_readWork_38 rfl (lv_at hl 0 rfl) ?_
      refine lv_iconst (v := (-1)) hx hb dX10_readWork_39 (by decide) ?_
      refine lv_icmp_eq (tgt := 55) hx hb dX10_readWork_40 (by decide) (fun cb9 => ?_) (fun cb9 => ?_)
      · skip
        exact absurd (show q_11.toInt = (-1) from zeq cb9 rfl (by decide)) (zDeq2 (a := 1) (b := (-1)) w13.1 (Int.le_refl _) (by decide))
      · skip
        have c15 : ¬ q_11.toInt = (-1) := zne cb9 rfl (by decide)
        refine lv_aload_n hx hb dX10_readWork_43 rfl (lv_at hl 1 rfl) ?_
        refine va_get (D := g.1) (ci := 8) (v := .ref ta) (C := RX10) (T := TX10) (N := 2) hx hb hts izRX10 hown hK hP 0 rfl rfl 0 (by decide) (hts _ k441) (fun x9 h9 => u_same (hts _ k442) x9 h9) rfl dX10_readWork_44 ?_
        refine va_ldcS (q := g.2 58) hx hb hown (zra24 hT.2.1) dX10_readWork_47 ?_
        refine mcallV' (g := g) (q0 := 0) (ci := 6) (As := [.ref (g.2 58)]) (rest := []) St hK hT hA hP hD hS hl.1 [2] [0, 1] rfl rfl rfl (c_t_needWordF l g ta ab sz ln kd2_7 bg2_8 nx2_9 fb (g.2 58) 24 zqa24 hln hq12_1 hq12_2 hq12_3 hq12_4 rfl zla24 zna24 (zlitB zla24)) (cwV 1 hts (zgL (zl4 k446 k447 k448 k277) k431) rfl rfl rfl (by decide +kernel) ⟨Nat.le_of_ble_eq_true rfl, Nat.le_of_ble_eq_true rfl⟩) rfl rfl rfl rfl (Nat.le_of_ble_eq_true rfl) dX10_readWork_49 ⟨(Nat.le_of_ble_eq_true rfl), (Nat.le_of_ble_eq_true rfl)⟩ (fun u_ H locs hq21 hP hD hS => ?_)
        obtain ⟨kd2_16, bg2_17, nx2_18, ft2_19, r_20⟩ := u_
        replace hq21 : (-1 ≤ ft2_19.toInt) ∧ (0 ≤ nx2_18.toInt ∧ nx2_18.toInt ≤ 400) ∧ (0 ≤ bg2_17.toInt ∧ bg2_17.toInt ≤ 400) ∧ (zKd kd2_16.toInt bg2_17.toInt nx2_18.toInt) ∧ (zTk fb ln.toInt kd2_16.toInt bg2_17.toInt nx2_18.toInt) ∧ (r_20 = 1 ∧ zisW fb ln.toInt bg2_8.toInt zqa24.2.2.2 ∧ zMv fb ln.toInt bg2_8.toInt bg2_17.toInt ∧ (-1) = ft2_19 ∨ r_20 = 0 ∧ ¬ zisW fb ln.toInt bg2_8.toInt zqa24.2.2.2 ∧ bg2_8 = ft2_19 ∧ kd2_7 = kd2_16 ∧ bg2_8 = bg2_17 ∧ nx2_9 = nx2_18) := hq21
        have hP : va_P g.1 vwCl (List.flatten [bTT g tt ta o, bTown g o a pe wo tx ch jo tr dy sd f, bTape g ta ab sz ln kd2_16 bg2_17 nx2_18 ft2_19 fb]) H := hP
        have hD : va_D A (List.flatten [bTT g tt ta o, bTown g o a pe wo tx ch jo tr dy sd f, bTape g ta ab sz ln kd2_16 bg2_17 nx2_18 ft2_19 fb]) := hD
        refine W.widen (k := 0) (n := 0) (Nat.le_of_ble_eq_true rfl) (Nat.le_of_ble_eq_true rfl) ?_
        refine W.eq (g2 := F0 m 52 ls [.int r_20]) rfl ?_
        obtain ⟨hq21_0, hq21_1, hq21_2, hq21_3, hq21_4, hq21_5⟩ := hq21
        rcases hq21_5 with ⟨rfl, hq21_k, hq21_km, rfl⟩ | ⟨rfl, hq21_k, rfl, rfl, rfl, rfl⟩
        · skip
          refine lv_if_ne (tgt := 57) hx hb dX10_readWork_52 (by decide) (fun _ => ?_) (fun c22 => absurd c22 (by decide))
          refine lv_aload_n hx hb dX10_readWork_57 rfl (lv_at hl 1 rfl) ?_
          refine va_get (D := g.1) (ci := 8) (v := .ref ta) (C := RX10) (T := TX10) (N := 2) hx hb hts izRX10 hown hK hP 0 rfl rfl 0 (by decide) (hts _ k441) (fun x9 h9 => u_same (hts _ k442) x9 h9) rfl dX10_readWork_58 ?_
          refine lv_iconst (v := 0) hx hb dX10_readWork_61 (by decide) ?_
          refine lv_sipush (v := 799) hx hb dX10_readWork_62 (by decide) ?_
          have hL0 : (0 : Int32).toInt = 0 := by decide
          have hL799 : (799 : Int32).toInt = 799 := by decide
          refine mcallV' (g := g) (q0 := 0) (ci := 6) (As := [.int 0, .int 799]) (rest := []) St hK hT hA hP hD hS hl.1 [2] [0, 1] rfl rfl rfl (c_t_numberF l g ta ab sz ln kd2_16 bg2_17 nx2_18 fb 0 799 hln hq21_1 hq21_2 hq21_3 hq21_4) (cwV 2 hts (zgL (zl4 k445 k294 k295 k277) k273) rfl rfl rfl (by decide +kernel) ⟨Nat.le_of_ble_eq_true rfl, Nat.le_of_ble_eq_true rfl⟩) rfl rfl rfl rfl (Nat.le_of_ble_eq_true rfl) dX10_readWork_65 ⟨(Nat.le_of_ble_eq_true rfl), (Nat.le_of_ble_eq_true rfl)⟩ (fun u_ H locs hq28 hP hD hS => ?_)
          obtain ⟨kd2_23, bg2_24, nx2_25, ft2_26, q_27⟩ := u_
          replace hq28 : (-1 ≤ ft2_26.toInt) ∧ (0 ≤ nx2_25.toInt ∧ nx2_25.toInt ≤ 400) ∧ (0 ≤ bg2_24.toInt ∧ bg2_24.toInt ≤ 400) ∧ (zKd kd2_23.toInt bg2_24.toInt nx2_25.toInt) ∧ (zTk fb ln.toInt kd2_23.toInt bg2_24.toInt nx2_25.toInt) ∧ (zNu fb ln.toInt bg2_17.toInt (0 : Int32).toInt (799 : Int32).toInt q_27 ∧ zMv fb ln.toInt bg2_17.toInt bg2_24.toInt ∧ (-1) = ft2_26 ∨ q_27 = -1 ∧ (¬ ∃ v9, zNu fb ln.toInt bg2_17.toInt (0 : Int32).toInt (799 : Int32).toInt v9) ∧ bg2_17 = ft2_26 ∧ kd2_16 = kd2_23 ∧ bg2_17 = bg2_24 ∧ nx2_18 = nx2_25) := hq28
          have hP : va_P g.1 vwCl (List.flatten [bTT g tt ta o, bTown g o a pe wo tx ch jo tr dy sd f, bTape g ta ab sz ln kd2_23 bg2_24 nx2_25 ft2_26 fb]) H := hP
          have hD : va_D A (List.flatten [bTT g tt ta o, bTown g o a pe wo tx ch jo tr dy sd f, bTape g ta ab sz ln kd2_23 bg2_24 nx2_25 ft2_26 fb]) := hD
          refine W.widen (k := 0) (n := 0) (Nat.le_of_ble_eq_true rfl) (Nat.le_of_ble_eq_true rfl) ?_
          refine W.eq (g2 := F0 m 68 ls [.int q_27]) rfl ?_
          obtain ⟨hq28_0, hq28_1, hq28_2, hq28_3, hq28_4, hq28_5⟩ := hq28
          rcases hq28_5 with ⟨hq28_k, hq28_km, rfl⟩ | ⟨rfl, hq28_k, rfl, rfl, rfl, rfl⟩
          · skip
            have w29 : 0 ≤ q_27.toInt ∧ q_27.toInt ≤ 799 := ⟨(by have h9 := hq28_k.2.2.1; omega), (by have h9 := hq28_k.2.2.2; omega)⟩
            refine lv_istore_n (lv' := [(2, .int q_27), (1, .int q_11), (0, .ref tt)]) hx hb dX10_readWork_68 rfl hl (by decide) rfl (fun ls hl => ?_)
            refine lv_iload_n hx hb dX10_readWork_69 rfl (lv_at hl 0 rfl) ?_
            refine lv_iconst (v := (-1)) hx hb dX10_readWork_70 (by decide) ?_
            refine lv_icmp_eq (tgt := 86) hx hb dX10_readWork_71 (by decide) (fun cb9 => ?_) (fun cb9 => ?_)
            · skip
              exact absurd (show q_27.toInt = (-1) from zeq cb9 rfl (by decide)) (zDeq2 (a := 0) (b := (-1)) w29.1 (Int.le_refl _) (by decide))
            · skip
              have c31 : ¬ q_27.toInt = (-1) := zne cb9 rfl (by decide)
              refine lv_aload_n hx hb dX10_readWork_74 rfl (lv_at hl 2 rfl) ?_
              refine va_get (D := g.1) (ci := 8) (v := .ref ta) (C := RX10) (T := TX10) (N := 2) hx hb hts izRX10 hown hK hP 0 rfl rfl 0 (by decide) (hts _ k441) (fun x9 h9 => u_same (hts _ k442) x9 h9) rfl dX10_readWork_75 ?_
              refine va_ldcS (q := g.2 60) hx hb hown (zra25 hT.2.1) dX10_readWork_78 ?_
              refine mcallV' (g := g) (q0 := 0) (ci := 6) (As := [.ref (g.2 60)]) (rest := []) St hK hT hA hP hD hS hl.1 [2] [0, 1] rfl rfl rfl (c_t_needWordF l g ta ab sz ln kd2_23 bg2_24 nx2_25 fb (g.2 60) 25 zqa25 hln hq28_1 hq28_2 hq28_3 hq28_4 rfl zla25 zna25 (zlitB zla25)) (cwV 1 hts (zgL (zl4 k446 k447 k448 k277) k431) rfl rfl rfl (by decide +kernel) ⟨Nat.le_of_ble_eq_true rfl, Nat.le_of_ble_eq_true rfl⟩) rfl rfl rfl rfl (Nat.le_of_ble_eq_true rfl) dX10_readWork_80 ⟨(Nat.le_of_ble_eq_true rfl), (Nat.le_of_ble_eq_true rfl)⟩ (fun u_ H locs hq37 hP hD hS => ?_)
              obtain ⟨kd2_32, bg2_33, nx2_34, ft2_35, r_36⟩ := u_
              replace hq37 : (-1 ≤ ft2_35.toInt) ∧ (0 ≤ nx2_34.toInt ∧ nx2_34.toInt ≤ 400) ∧ (0 ≤ bg2_33.toInt ∧ bg2_33.toInt ≤ 400) ∧ (zKd kd2_32.toInt bg2_33.toInt nx2_34.toInt) ∧ (zTk fb ln.toInt kd2_32.toInt bg2_33.toInt nx2_34.toInt) ∧ (r_36 = 1 ∧ zisW fb ln.toInt bg2_24.toInt zqa25.2.2.2 ∧ zMv fb ln.toInt bg2_24.toInt bg2_33.toInt ∧ (-1) = ft2_35 ∨ r_36 = 0 ∧ ¬ zisW fb ln.toInt bg2_24.toInt zqa25.2.2.2 ∧ bg2_24 = ft2_35 ∧ kd2_23 = kd2_32 ∧ bg2_24 = bg2_33 ∧ nx2_25 = nx2_34) := hq37
              have hP : va_P g.1 vwCl (List.flatten [bTT g tt ta o, bTown g o a pe wo tx ch jo tr dy sd f, bTape g ta ab sz ln kd2_32 bg2_33 nx2_34 ft2_35 fb]) H := hP
              have hD : va_D A (List.flatten [bTT g tt ta o, bTown g o a pe wo tx ch jo tr dy sd f, bTape g ta ab sz ln kd2_32 bg2_33 nx2_34 ft2_35 fb]) := hD
              refine W.widen (k := 0) (n := 0) (Nat.le_of_ble_eq_true rfl) (Nat.le_of_ble_eq_true rfl) ?_
              refine W.eq (g2 := F0 m 83 ls [.int r_36]) rfl ?_
              obtain ⟨hq37_0, hq37_1, hq37_2, hq37_3, hq37_4, hq37_5⟩ := hq37
              rcases hq37_5 with ⟨rfl, hq37_k, hq37_km, rfl⟩ | ⟨rfl, hq37_k, rfl, rfl, rfl, rfl⟩
              · skip
                refine lv_if_ne (tgt := 88) hx hb dX10_readWork_83 (by decide) (fun _ => ?_) (fun c38 => absurd c38 (by decide))
                refine lv_aload_n hx hb dX10_readWork_88 rfl (lv_at hl 2 rfl) ?_
                refine va_get (D := g.1) (ci := 8) (v := .ref ta) (C := RX10) (T := TX10) (N := 2) hx hb hts izRX10 hown hK hP 0 rfl rfl 0 (by decide) (hts _ k441) (fun x9 h9 => u_same (hts _ k442) x9 h9) rfl dX10_readWork_89 ?_
                refine lv_iconst (v := 0) hx hb dX10_readWork_92 (by decide) ?_
                refine lv_bipush (v := 20) hx hb dX10_readWork_93 (by decide) ?_
                have hL20 : (20 : Int32).toInt = 20 := by decide
                refine mcallV' (g := g) (q0 := 0) (ci := 6) (As := [.int 0, .int 20]) (rest := []) St hK hT hA hP hD hS hl.1 [2] [0, 1] rfl rfl rfl (c_t_numberF l g ta ab sz ln kd2_32 bg2_33 nx2_34 fb 0 20 hln hq37_1 hq37_2 hq37_3 hq37_4) (cwV 2 hts (zgL (zl4 k445 k294 k295 k277) k273) rfl rfl rfl (by decide +kernel) ⟨Nat.le_of_ble_eq_true rfl, Nat.le_of_ble_eq_true rfl⟩) rfl rfl rfl rfl (Nat.le_of_ble_eq_true rfl) dX10_readWork_95 ⟨(Nat.le_of_ble_eq_true rfl), (Nat.le_of_ble_eq_true rfl)⟩ (fun u_ H locs hq44 hP hD hS => ?_)
                obtain ⟨kd2_39, bg2_40, nx2_41, ft2_42, q_43⟩ := u_
                replace hq44 : (-1 ≤ ft2_42.toInt) ∧ (0 ≤ nx2_41.toInt ∧ nx2_41.toInt ≤ 400) ∧ (0 ≤ bg2_40.toInt ∧ bg2_40.toInt ≤ 400) ∧ (zKd kd2_39.toInt bg2_40.toInt nx2_41.toInt) ∧ (zTk fb ln.toInt kd2_39.toInt bg2_40.toInt nx2_41.toInt) ∧ (zNu fb ln.toInt bg2_33.toInt (0 : Int32).toInt (20 : Int32).toInt q_43 ∧ zMv fb ln.toInt bg2_33.toInt bg2_40.toInt ∧ (-1) = ft2_42 ∨ q_43 = -1 ∧ (¬ ∃ v9, zNu fb ln.toInt bg2_33.toInt (0 : Int32).toInt (20 : Int32).toInt v9) ∧ bg2_33 = ft2_42 ∧ kd2_32 = kd2_39 ∧ bg2_33 = bg2_40 ∧ nx2_34 = nx2_41) := hq44
                have hP : va_P g.1 vwCl (List.flatten [bTT g tt ta o, bTown g o a pe wo tx ch jo tr dy sd f, bTape g ta ab sz ln kd2_39 bg2_40 nx2_41 ft2_42 fb]) H := hP
                have hD : va_D A (List.flatten [bTT g tt ta o, bTown g o a pe wo tx ch jo tr dy sd f, bTape g ta ab sz ln kd2_39 bg2_40 nx2_41 ft2_42 fb]) := hD
                refine W.widen (k := 0) (n := 0) (Nat.le_of_ble_eq_true rfl) (Nat.le_of_ble_eq_true rfl) ?_
                refine W.eq (g2 := F0 m 98 ls [.int q_43]) rfl ?_
                obtain ⟨hq44_0, hq44_1, hq44_2, hq44_3, hq44_4, hq44_5⟩ := hq44
                rcases hq44_5 with ⟨hq44_k, hq44_km, rfl⟩ | ⟨rfl, hq44_k, rfl, rfl, rfl, rfl⟩
                · skip
                  have w45 : 0 ≤ q_43.toInt ∧ q_43.toInt ≤ 20 := ⟨(by have h9 := hq44_k.2.2.1; omega), (by have h9 := hq44_k.2.2.2; omega)⟩
                  refine lv_istore_n (lv' := [(3, .int q_43), (2, .int q_27), (1, .int q_11), (0, .ref tt)]) hx hb dX10_readWork_98 rfl hl (by decide) rfl (fun ls hl => ?_)
                  refine lv_iload_n hx hb dX10_readWork_99 rfl (lv_at hl 0 rfl) ?_
                  refine lv_iconst (v := (-1)) hx hb dX10_readWork_100 (by decide) ?_
                  refine lv_icmp_ne (tgt := 106) hx hb dX10_readWork_101 (by decide) (fun cb9 => ?_) (fun cb9 => ?_)
                  · skip
                    have c46 : ¬ q_43.toInt = (-1) := zne cb9 rfl (by decide)
                    refine lv_aload_n hx hb dX10_readWork_106 rfl (lv_at hl 3 rfl) ?_
                    refine va_get (D := g.1) (ci := 8) (v := .ref o) (C := RX10) (T := TX10) (N := 2) hx hb hts izRX10 hown hK hP 0 rfl rfl 1 (by decide) (hts _ k439) (fun _ h9 => h9) rfl dX10_readWork_107 ?_
                    refine lv_iload_n hx hb dX10_readWork_110 rfl (lv_at hl 2 rfl) ?_
                    refine lv_iload_n hx hb dX10_readWork_111 rfl (lv_at hl 1 rfl) ?_
                    refine lv_iload_n hx hb dX10_readWork_112 rfl (lv_at hl 0 rfl) ?_
                    refine mcallV' (g := g) (q0 := 0) (ci := 7) (As := [.int q_11, .int q_27, .int q_43]) (rest := []) St hK hT hA hP hD hS hl.1 [1] [0, 2] rfl rfl rfl (c_addWorkC l g o a pe wo tx ch jo tr dy sd f q_11 q_27 q_43 b_pe b_wo rf (by first | assumption | omega | decide | exact Or.inl (by decide) | exact Or.inr (by decide))) (cwV 3 hts (zgL (zl4 k456 k457 k458 k24) k454) rfl rfl rfl (by decide +kernel) ⟨Nat.le_of_ble_eq_true rfl, Nat.le_of_ble_eq_true rfl⟩) rfl rfl rfl rfl (Nat.le_of_ble_eq_true rfl) dX10_readWork_113 ⟨(Nat.le_of_ble_eq_true rfl), (Nat.le_of_ble_eq_true rfl)⟩ (fun u_ H locs hq49 hP hD hS => ?_)
                    obtain ⟨wo2_47, f2_48⟩ := u_
                    replace hq49 : (0 ≤ wo2_47.toInt ∧ wo2_47.toInt ≤ 6) ∧ (zZ4 f2_48) ∧ (wo2_47 = wo + 1) ∧ (wo2_47.toInt = wo.toInt + 1) ∧ (f2_48 = zWrk f wo.toInt.toNat q_11 q_27 q_43) := hq49
                    have hP : va_P g.1 vwCl (List.flatten [bTT g tt ta o, bTape g ta ab sz ln kd2_39 bg2_40 nx2_41 (-1) fb, bTown g o a pe wo2_47 tx ch jo tr dy sd f2_48]) H := hP
                    have hD : va_D A (List.flatten [bTT g tt ta o, bTape g ta ab sz ln kd2_39 bg2_40 nx2_41 (-1) fb, bTown g o a pe wo2_47 tx ch jo tr dy sd f2_48]) := hD
                    refine W.widen (k := 0) (n := 0) (Nat.le_of_ble_eq_true rfl) (Nat.le_of_ble_eq_true rfl) ?_
                    refine W.eq (g2 := F0 m 116 ls []) rfl ?_
                    obtain ⟨hq49_0, rf2_48, hq49_2, hq49_3, hq49_4⟩ := hq49
                    refine lv_iconst (v := 1) hx hb dX10_readWork_116 (by decide) ?_
                    have hP : va_P g.1 vwCl (List.flatten [bTT g tt ta o, bTape g ta ab sz ln kd2_39 bg2_40 nx2_41 (-1) fb, bTown g o a pe wo2_47 tx ch jo tr dy sd f2_48]) H := hP
                    have hD : va_D A (List.flatten [bTT g tt ta o, bTape g ta ab sz ln kd2_39 bg2_40 nx2_41 (-1) fb, bTown g o a pe wo2_47 tx ch jo tr dy sd f2_48]) := hD
                    exact mret_z hx hb hr hlocks hS (Nat.le_of_ble_eq_true rfl) (Nat.le_of_ble_eq_true rfl) dX10_readWork_117 (kd2_39, bg2_40, nx2_41, -1, wo2_47, f2_48, (1 : Int32)) rfl (by decide) (show (0 ≤ wo2_47.toInt ∧ wo2_47.toInt ≤ 6) ∧ (zZ4 f2_48) ∧ (-1 ≤ ((-1) : Int32).toInt) ∧ (0 ≤ nx2_41.toInt ∧ nx2_41.toInt ≤ 400) ∧ (0 ≤ bg2_40.toInt ∧ bg2_40.toInt ≤ 400) ∧ (zKd kd2_39.toInt bg2_40.toInt nx2_41.toInt) ∧ (zTk fb ln.toInt kd2_39.toInt bg2_40.toInt nx2_41.toInt) ∧ (1 = 1 ∧ zTO (zTWork fb ln.toInt wo.toInt bg.toInt) bg2_40.toInt pe.toInt pe.toInt wo.toInt wo2_47.toInt ∧ (-1) = (-1) ∧ (zTQ (zTWork fb ln.toInt wo.toInt bg.toInt) fb bg2_40.toInt (pe, wo, ch, jo, tr, dy, f) (pe, wo2_47, ch, jo, tr, dy, f2_48) ∧ zAb f2_48 pe.toInt) ∨ 1 = 0 ∧ zTWork fb ln.toInt wo.toInt bg.toInt (.bad ((-1) : Int32).toInt)) from ⟨(by first | assumption | omega | exact Or.inl (by decide) | exact Or.inr (by omega) | decide), (by first | assumption | omega | exact Or.inl (by decide) | exact Or.inr (by omega) | decide), (by first | assumption | omega | exact Or.inl (by decide) | exact Or.inr (by omega) | decide), (by first | assumption | omega | exact Or.inl (by decide) | exact Or.inr (by omega) | decide), (by first | assumption | omega | exact Or.inl (by decide) | exact Or.inr (by omega) | decide), (by first | assumption | omega | exact Or.inl (by decide) | exact Or.inr (by omega) | decide), (by first | assumption | omega | exact Or.inl (by decide) | exact Or.inr (by omega) | decide), (Or.inl ⟨rfl, ⟨(1, q_11.toInt, q_27.toInt, q_43.toInt), zTW_i (by omega) (zMv_mk hTk hq6_3) (zNN_y (by decide) (by decide) hq12_k hq12_km (zW1_y hq21_k hq21_km (zNN_y (by decide) (by decide) hq28_k hq28_km (zW1_y hq37_k hq37_km (zNN_y (by decide) (by decide) hq44_k hq44_km rfl))))), zcp_n (by decide) rfl, zcw_y (by omega)⟩, rfl, ⟨⟨(1, q_11.toInt, q_27.toInt, q_43.toInt), zTW_i (by omega) (zMv_mk hTk hq6_3) (zNN_y (by decide) (by decide) hq12_k hq12_km (zW1_y hq21_k hq21_km (zNN_y (by decide) (by decide) hq28_k hq28_km (zW1_y hq37_k hq37_km (zNN_y (by decide) (by decide) hq44_k hq44_km rfl))))), zSR_1 (zoi _) (zoi _) (zoi _) hq49_2 (zEq_o hq49_4)⟩, zAb_w hab hq49_4⟩⟩)⟩) hP hD
                  · skip
                    exact absurd (show q_43.toInt = (-1) from zeq cb9 rfl (by decide)) (zDeq2 (a := 0) (b := (-1)) w45.1 (Int.le_refl _) (by decide))
                · skip
                  refine lv_istore_n (lv' := [(3, .int (-1)), (2, .int q_27), (1, .int q_11), (0, .ref tt)]) hx hb dX10_readWork_98 rfl hl (by decide) rfl (fun ls hl => ?_)
                  refine lv_iload_n hx hb dX10_readWork_99 rfl (lv_at hl 0 rfl) ?_
                  refine lv_iconst (v := (-1)) hx hb dX10_readWork_100 (by decide) ?_
                  refine lv_icmp_ne (tgt := 106) hx hb dX10_readWork_101 (by decide) (fun c51 => absurd (by decide) c51) (fun _ => ?_)
                  refine lv_iconst (v := 0) hx hb dX10_readWork_104 (by decide) ?_
                  have hP : va_P g.1 vwCl (List.flatten [bTT g tt ta o, bTown g o a pe wo tx ch jo tr dy sd f, bTape g ta ab sz ln kd2_32 bg2_33 nx2_34 bg2_33 fb]) H := hP
                  have hD : va_D A (List.flatten [bTT g tt ta o, bTown g o a pe wo tx ch jo tr dy sd f, bTape g ta ab sz ln kd2_32 bg2_33 nx2_34 bg2_33 fb]) := hD
                  obtain ⟨hP, hD⟩ := zord (g := g) (Bs' := [bTT g tt ta o, bTape g ta ab sz ln kd2_32 bg2_33 nx2_34 bg2_33 fb, bTown g o a pe wo tx ch jo tr dy sd f]) [0, 2, 1] rfl rfl hP hD
                  exact mret_z hx hb hr hlocks hS (Nat.le_of_ble_eq_true rfl) (Nat.le_of_ble_eq_true rfl) dX10_readWork_105 (kd2_32, bg2_33, nx2_34, bg2_33, wo, f, (0 : Int32)) rfl (by decide) (show (0 ≤ wo.toInt ∧ wo.toInt ≤ 6) ∧ (zZ4 f) ∧ (-1 ≤ bg2_33.toInt) ∧ (0 ≤ nx2_34.toInt ∧ nx2_34.toInt ≤ 400) ∧ (0 ≤ bg2_33.toInt ∧ bg2_33.toInt ≤ 400) ∧ (zKd kd2_32.toInt bg2_33.toInt nx2_34.toInt) ∧ (zTk fb ln.toInt kd2_32.toInt bg2_33.toInt nx2_34.toInt) ∧ (0 = 1 ∧ zTO (zTWork fb ln.toInt wo.toInt bg.toInt) bg2_33.toInt pe.toInt pe.toInt wo.toInt wo.toInt ∧ (-1) = bg2_33 ∧ (zTQ (zTWork fb ln.toInt wo.toInt bg.toInt) fb bg2_33.toInt (pe, wo, ch, jo, tr, dy, f) (pe, wo, ch, jo, tr, dy, f) ∧ zAb f pe.toInt) ∨ 0 = 0 ∧ zTWork fb ln.toInt wo.toInt bg.toInt (.bad bg2_33.toInt)) from ⟨(by first | assumption | omega | exact Or.inl (by decide) | exact Or.inr (by omega) | decide), (by first | assumption | omega | exact Or.inl (by decide) | exact Or.inr (by omega) | decide), (by first | assumption | omega | exact Or.inl (by decide) | exact Or.inr (by omega) | decide), (by first | assumption | omega | exact Or.inl (by decide) | exact Or.inr (by omega) | decide), (by first | assumption | omega | exact Or.inl (by decide) | exact Or.inr (by omega) | decide), (by first | assumption | omega | exact Or.inl (by decide) | exact Or.inr (by omega) | decide), (by first | assumption | omega | exact Or.inl (by decide) | exact Or.inr (by omega) | decide), (Or.inr ⟨rfl, zTW_i (by omega) (zMv_mk hTk hq6_3) (zNN_y (by decide) (by decide) hq12_k hq12_km (zW1_y hq21_k hq21_km (zNN_y (by decide) (by decide) hq28_k hq28_km (zW1_y hq37_k hq37_km (zNN_n (by decide) (by decide) rfl hq44_k)))))⟩)⟩) hP hD
              · skip
                refine lv_if_ne (tgt := 88) hx hb dX10_readWork_83 (by decide) (fun c52 => absurd (by decide) c52) (fun _ => ?_)
                refine lv_iconst (v := 0) hx hb dX10_readWork_86 (by decide) ?_
                have hP : va_P g.1 vwCl (List.flatten [bTT g tt ta o, bTown g o a pe wo tx ch jo tr dy sd f, bTape g ta ab sz ln kd2_23 bg2_24 nx2_25 bg2_24 fb]) H := hP
                have hD : va_D A (List.flatten [bTT g tt ta o, bTown g o a pe wo tx ch jo tr dy sd f, bTape g ta ab sz ln kd2_23 bg2_24 nx2_25 bg2_24 fb]) := hD
                obtain ⟨hP, hD⟩ := zord (g := g) (Bs' := [bTT g tt ta o, bTape g ta ab sz ln kd2_23 bg2_24 nx2_25 bg2_24 fb, bTown g o a pe wo tx ch jo tr dy sd f]) [0, 2, 1] rfl rfl hP hD
                exact mret_z hx hb hr hlocks hS (Nat.le_of_ble_eq_true rfl) (Nat.le_of_ble_eq_true rfl) dX10_readWork_87 (kd2_23, bg2_24, nx2_25, bg2_24, wo, f, (0 : Int32)) rfl (by decide) (show (0 ≤ wo.toInt ∧ wo.toInt ≤ 6) ∧ (zZ4 f) ∧ (-1 ≤ bg2_24.toInt) ∧ (0 ≤ nx2_25.toInt ∧ nx2_25.toInt ≤ 400) ∧ (0 ≤ bg2_24.toInt ∧ bg2_24.toInt ≤ 400) ∧ (zKd kd2_23.toInt bg2_24.toInt nx2_25.toInt) ∧ (zTk fb ln.toInt kd2_23.toInt bg2_24.toInt nx2_25.toInt) ∧ (0 = 1 ∧ zTO (zTWork fb ln.toInt wo.toInt bg.toInt) bg2_24.toInt pe.toInt pe.toInt wo.toInt wo.toInt ∧ (-1) = bg2_24 ∧ (zTQ (zTWork fb ln.toInt wo.toInt bg.toInt) fb bg2_24.toInt (pe, wo, ch, jo, tr, dy, f) (pe, wo, ch, jo, tr, dy, f) ∧ zAb f pe.toInt) ∨ 0 = 0 ∧ zTWork fb ln.toInt wo.toInt bg.toInt (.bad bg2_24.toInt)) from ⟨(by first | assumption | omega | exact Or.inl (by decide) | exact Or.inr (by omega) | decide), (by first | assumption | omega | exact Or.inl (by decide) | exact Or.inr (by omega) | decide), (by first | assumption | omega | exact Or.inl (by decide) | exact Or.inr (by omega) | decide), (by first | assumption | omega | exact Or.inl (by decide) | exact Or.inr (by omega) | decide), (by first | assumption | omega | exact Or.inl (by decide) | exact Or.inr (by omega) | decide), (by first | assumption | omega | exact Or.inl (by decide) | exact Or.inr (by omega) | decide), (by first | assumption | omega | exact Or.inl (by decide) | exact Or.inr (by omega) | decide), (Or.inr ⟨rfl, zTW_i (by omega) (zMv_mk hTk hq6_3) (zNN_y (by decide) (by decide) hq12_k hq12_km (zW1_y hq21_k hq21_km (zNN_y (by decide) (by decide) hq28_k hq28_km (zW1_n rfl hq37_k))))⟩)⟩) hP hD
          · skip
            refine lv_istore_n (lv' := [(2, .int (-1)), (1, .int q_11), (0, .ref tt)]) hx hb dX10_readWork_68 rfl hl (by decide) rfl (fun ls hl => ?_)
            refine lv_iload_n hx hb dX10_readWork_69 rfl (lv_at hl 0 rfl) ?_
            refine lv_iconst (v := (-1)) hx hb dX10_readWork_70 (by decide) ?_
            refine lv_icmp_eq (tgt := 86) hx hb dX10_readWork_71 (by decide) (fun _ => ?_) (fun c53 => absurd (by decide) c53)
            refine lv_iconst (v := 0) hx hb dX10_readWork_86 (by decide) ?_
            have hP : va_P g.1 vwCl (List.flatten [bTT g tt ta o, bTown g o a pe wo tx ch jo tr dy sd f, bTape g ta ab sz ln kd2_16 bg2_17 nx2_18 bg2_17 fb]) H := hP
            have hD : va_D A (List.flatten [bTT g tt ta o, bTown g o a pe wo tx ch jo tr dy sd f, bTape g ta ab sz ln kd2_16 bg2_17 nx2_18 bg2_17 fb]) := hD
            obtain ⟨hP, hD⟩ := zord (g := g) (Bs' := [bTT g tt ta o, bTape g ta ab sz ln kd2_16 bg2_17 nx2_18 bg2_17 fb, bTown g o a pe wo tx ch jo tr dy sd f]) [0, 2, 1] rfl rfl hP hD
            exact mret_z hx hb hr hlocks hS (Nat.le_of_ble_eq_true rfl) (Nat.le_of_ble_eq_true rfl) dX10_readWork_87 (kd2_16, bg2_17, nx2_18, bg2_17, wo, f, (0 : Int32)) rfl (by decide) (show (0 ≤ wo.toInt ∧ wo.toInt ≤ 6) ∧ (zZ4 f) ∧ (-1 ≤ bg2_17.toInt) ∧ (0 ≤ nx2_18.toInt ∧ nx2_18.toInt ≤ 400) ∧ (0 ≤ bg2_17.toInt ∧ bg2_17.toInt ≤ 400) ∧ (zKd kd2_16.toInt bg2_17.toInt nx2_18.toInt) ∧ (zTk fb ln.toInt kd2_16.toInt bg2_17.toInt nx2_18.toInt) ∧ (0 = 1 ∧ zTO (zTWork fb ln.toInt wo.toInt bg.toInt) bg2_17.toInt pe.toInt pe.toInt wo.toInt wo.toInt ∧ (-1) = bg2_17 ∧ (zTQ (zTWork fb ln.toInt wo.toInt bg.toInt) fb bg2_17.toInt (pe, wo, ch, jo, tr, dy, f) (pe, wo, ch, jo, tr, dy, f) ∧ zAb f pe.toInt) ∨ 0 = 0 ∧ zTWork fb ln.toInt wo.toInt bg.toInt (.bad bg2_17.toInt)) from ⟨(by first | assumption | omega | exact Or.inl (by decide) | exact Or.inr (by omega) | decide), (by first | assumption | omega | exact Or.inl (by decide) | exact Or.inr (by omega) | decide), (by first | assumption | omega | exact Or.inl (by decide) | exact Or.inr (by omega) | decide), (by first | assumption | omega | exact Or.inl (by decide) | exact Or.inr (by omega) | decide), (by first | assumption | omega | exact Or.inl (by decide) | exact Or.inr (by omega) | decide), (by first | assumption | omega | exact Or.inl (by decide) | exact Or.inr (by omega) | decide), (by first | assumption | omega | exact Or.inl (by decide) | exact Or.inr (by omega) | decide), (Or.inr ⟨rfl, zTW_i (by omega) (zMv_mk hTk hq6_3) (zNN_y (by decide) (by decide) hq12_k hq12_km (zW1_y hq21_k hq21_km (zNN_n (by decide) (by decide) rfl hq28_k)))⟩)⟩) hP hD
        · skip
          refine lv_if_ne (tgt := 57) hx hb dX10_readWork_52 (by decide) (fun c54 => absurd (by decide) c54) (fun _ => ?_)
          refine lv_iconst (v := 0) hx hb dX10_readWork_55 (by decide) ?_
          have hP : va_P g.1 vwCl (List.flatten [bTT g tt ta o, bTown g o a pe wo tx ch jo tr dy sd f, bTape g ta ab sz ln kd2_7 bg2_8 nx2_9 bg2_8 fb]) H := hP
          have hD : va_D A (List.flatten [bTT g tt ta o, bTown g o a pe wo tx ch jo tr dy sd f, bTape g ta ab sz ln kd2_7 bg2_8 nx2_9 bg2_8 fb]) := hD
          obtain ⟨hP, hD⟩ := zord (g := g) (Bs' := [bTT g tt ta o, bTape g ta ab sz ln kd2_7 bg2_8 nx2_9 bg2_8 fb, bTown g o a pe wo tx ch jo tr dy sd f]) [0, 2, 1] rfl rfl hP hD
          exact mret_z hx hb hr hlocks hS (Nat.le_of_ble_eq_true rfl) (Nat.le_of_ble_eq_true rfl) dX10_readWork_56 (kd2_7, bg2_8, nx2_9, bg2_8, wo, f, (0 : Int32)) rfl (by decide) (show (0 ≤ wo.toInt ∧ wo.toInt ≤ 6) ∧ (zZ4 f) ∧ (-1 ≤ bg2_8.toInt) ∧ (0 ≤ nx2_9.toInt ∧ nx2_9.toInt ≤ 400) ∧ (0 ≤ bg2_8.toInt ∧ bg2_8.toInt ≤ 400) ∧ (zKd kd2_7.toInt bg2_8.toInt nx2_9.toInt) ∧ (zTk fb ln.toInt kd2_7.toInt bg2_8.toInt nx2_9.toInt) ∧ (0 = 1 ∧ zTO (zTWork fb ln.toInt wo.toInt bg.toInt) bg2_8.toInt pe.toInt pe.toInt wo.toInt wo.toInt ∧ (-1) = bg2_8 ∧ (zTQ (zTWork fb ln.toInt wo.toInt bg.toInt) fb bg2_8.toInt (pe, wo, ch, jo, tr, dy, f) (pe, wo, ch, jo, tr, dy, f) ∧ zAb f pe.toInt) ∨ 0 = 0 ∧ zTWork fb ln.toInt wo.toInt bg.toInt (.bad bg2_8.toInt)) from ⟨(by first | assumption | omega | exact Or.inl (by decide) | exact Or.inr (by omega) | decide), (by first | assumption | omega | exact Or.inl (by decide) | exact Or.inr (by omega) | decide), (by first | assumption | omega | exact Or.inl (by decide) | exact Or.inr (by omega) | decide), (by first | assumption | omega | exact Or.inl (by decide) | exact Or.inr (by omega) | decide), (by first | assumption | omega | exact Or.inl (by decide) | exact Or.inr (by omega) | decide), (by first | assumption | omega | exact Or.inl (by decide) | exact Or.inr (by omega) | decide), (by first | assumption | omega | exact Or.inl (by decide) | exact Or.inr (by omega) | decide), (Or.inr ⟨rfl, zTW_i (by omega) (zMv_mk hTk hq6_3) (zNN_y (by decide) (by decide) hq12_k hq12_km (zW1_n rfl hq21_k))⟩)⟩) hP hD
    · skip
      refine lv_istore_n (lv' := [(1, .int (-1)), (0, .ref tt)]) hx hb dX10_readWork_37 rfl hl (by decide) rfl (fun ls hl => ?_)
      refine lv_iload_n hx hb dX10_readWork_38 rfl (lv_at hl 0 rfl) ?_
      refine lv_iconst (v := (-1)) hx hb dX10_readWork_39 (by decide) ?_
      refine lv_icmp_eq (tgt := 55) hx hb dX10_readWork_40 (by decide) (fun _ => ?_) (fun c55 => absurd (by decide) c55)
      refine lv_iconst (v := 0) hx hb dX10_readWork_55 (by decide) ?_
      have hP : va_P g.1 vwCl (List.flatten [bTT g tt ta o, bTown g o a pe wo tx ch jo tr dy sd f, bTape g ta ab sz ln kd2_3 bg2_4 nx2_5 bg2_4 fb]) H := hP
      have hD : va_D A (List.flatten [bTT g tt ta o, bTown g o a pe wo tx ch jo tr dy sd f, bTape g ta ab sz ln kd2_3 bg2_4 nx2_5 bg2_4 fb]) := hD
      obtain ⟨hP, hD⟩ := zord (g := g) (Bs' := [bTT g tt ta o, bTape g ta ab sz ln kd2_3 bg2_4 nx2_5 bg2_4 fb, bTown g o a pe wo tx ch jo tr dy sd f]) [0, 2, 1] rfl rfl hP hD
      exact mret_z hx hb hr hlocks hS (Nat.le_of_ble_eq_true rfl) (Nat.le_of_ble_eq_true rfl) dX10_readWork_56 (kd2_3, bg2_4, nx2_5, bg2_4, wo, f, (0 : Int32)) rfl (by decide) (show (0 ≤ wo.toInt ∧ wo.toInt ≤ 6) ∧ (zZ4 f) ∧ (-1 ≤ bg2_4.toInt) ∧ (0 ≤ nx2_5.toInt ∧ nx2_5.toInt ≤ 400) ∧ (0 ≤ bg2_4.toInt ∧ bg2_4.toInt ≤ 400) ∧ (zKd kd2_3.toInt bg2_4.toInt nx2_5.toInt) ∧ (zTk fb ln.toInt kd2_3.toInt bg2_4.toInt nx2_5.toInt) ∧ (0 = 1 ∧ zTO (zTWork fb ln.toInt wo.toInt bg.toInt) bg2_4.toInt pe.toInt pe.toInt wo.toInt wo.toInt ∧ (-1) = bg2_4 ∧ (zTQ (zTWork fb ln.toInt wo.toInt bg.toInt) fb bg2_4.toInt (pe, wo, ch, jo, tr, dy, f) (pe, wo, ch, jo, tr, dy, f) ∧ zAb f pe.toInt) ∨ 0 = 0 ∧ zTWork fb ln.toInt wo.toInt bg.toInt (.bad bg2_4.toInt)) from ⟨(by first | assumption | omega | exact Or.inl (by decide) | exact Or.inr (by omega) | decide), (by first | assumption | omega | exact Or.inl (by decide) | exact Or.inr (by omega) | decide), (by first | assumption | omega | exact Or.inl (by decide) | exact Or.inr (by omega) | decide), (by first | assumption | omega | exact Or.inl (by decide) | exact Or.inr (by omega) | decide), (by first | assumption | omega | exact Or.inl (by decide) | exact Or.inr (by omega) | decide), (by first | assumption | omega | exact Or.inl (by decide) | exact Or.inr (by omega) | decide), (by first | assumption | omega | exact Or.inl (by decide) | exact Or.inr (by omega) | decide), (Or.inr ⟨rfl, zTW_i (by omega) (zMv_mk hTk hq6_3) (zNN_n (by decide) (by decide) rfl hq12_k)⟩)⟩) hP hD
  · skip
    have c56 : 6 ≤ wo.toInt := zle (Int32.not_lt.mp cb9) (by decide) rfl
    have n57 : 6 ≤ wo.toInt := Int.le_trans (Int.le_refl _) c56
    refine lv_aload_n hx hb dX10_readWork_12 rfl (lv_at hl 0 rfl) ?_
    refine va_get (D := g.1) (ci := 8) (v := .ref ta) (C := RX10) (T := TX10) (N := 2) hx hb hts izRX10 hown hK hP 0 rfl rfl 0 (by decide) (hts _ k441) (fun x9 h9 => u_same (hts _ k442) x9 h9) rfl dX10_readWork_13 ?_
    refine mcallV' (g := g) (q0 := 0) (ci := 6) (As := []) (rest := []) St hK hT hA hP hD hS hl.1 [1] [0, 2] rfl rfl rfl (c_t_refuseF l g ta ab sz ln kd bg nx fb ) (cwV 0 hts (zgL (zl4 k443 k279 k280 k277) k269) rfl rfl rfl (by decide +kernel) ⟨Nat.le_of_ble_eq_true rfl, Nat.le_of_ble_eq_true rfl⟩) rfl rfl rfl rfl (Nat.le_of_ble_eq_true rfl) dX10_readWork_16 ⟨(Nat.le_of_ble_eq_true rfl), (Nat.le_of_ble_eq_true rfl)⟩ (fun _u H locs hq58 hP hD hS => ?_)
    have hP : va_P g.1 vwCl (List.flatten [bTT g tt ta o, bTown g o a pe wo tx ch jo tr dy sd f, bTape g ta ab sz ln kd bg nx bg fb]) H := hP
    have hD : va_D A (List.flatten [bTT g tt ta o, bTown g o a pe wo tx ch jo tr dy sd f, bTape g ta ab sz ln kd bg nx bg fb]) := hD
    refine W.widen (k := 0) (n := 0) (Nat.le_of_ble_eq_true rfl) (Nat.le_of_ble_eq_true rfl) ?_
    refine W.eq (g2 := F0 m 19 ls [.int 0]) rfl ?_
    have hP : va_P g.1 vwCl (List.flatten [bTT g tt ta o, bTown g o a pe wo tx ch jo tr dy sd f, bTape g ta ab sz ln kd bg nx bg fb]) H := hP
    have hD : va_D A (List.flatten [bTT g tt ta o, bTown g o a pe wo tx ch jo tr dy sd f, bTape g ta ab sz ln kd bg nx bg fb]) := hD
    obtain ⟨hP, hD⟩ := zord (g := g) (Bs' := [bTT g tt ta o, bTape g ta ab sz ln kd bg nx bg fb, bTown g o a pe wo tx ch jo tr dy sd f]) [0, 2, 1] rfl rfl hP hD
    exact mret_z hx hb hr hlocks hS (Nat.le_of_ble_eq_true rfl) (Nat.le_of_ble_eq_true rfl) dX10_readWork_19 (kd, bg, nx, bg, wo, f, (0 : Int32)) rfl (by decide) (show (0 ≤ wo.toInt ∧ wo.toInt ≤ 6) ∧ (zZ4 f) ∧ (-1 ≤ bg.toInt) ∧ (0 ≤ nx.toInt ∧ nx.toInt ≤ 400) ∧ (0 ≤ bg.toInt ∧ bg.toInt ≤ 400) ∧ (zKd kd.toInt bg.toInt nx.toInt) ∧ (zTk fb ln.toInt kd.toInt bg.toInt nx.toInt) ∧ (0 = 1 ∧ zTO (zTWork fb ln.toInt wo.toInt bg.toInt) bg.toInt pe.toInt pe.toInt wo.toInt wo.toInt ∧ (-1) = bg ∧ (zTQ (zTWork fb ln.toInt wo.toInt bg.toInt) fb bg.toInt (pe, wo, ch, jo, tr, dy, f) (pe, wo, ch, jo, tr, dy, f) ∧ zAb f pe.toInt) ∨ 0 = 0 ∧ zTWork fb ln.toInt wo.toInt bg.toInt (.bad bg.toInt)) from ⟨(by first | assumption | omega | exact Or.inl (by decide) | exact Or.inr (by omega) | decide), (by first | assumption | omega | exact Or.inl (by decide) | exact Or.inr (by omega) | decide), (by first | assumption | omega | exact Or.inl (by decide) | exact Or.inr (by omega) | decide), (by first | assumption | omega | exact Or.inl (by decide) | exact Or.inr (by omega) | decide), (by first | assumption | omega | exact Or.inl (by decide) | exact Or.inr (by omega) | decide), (by first | assumption | omega | exact Or.inl (by decide) | exact Or.inr (by omega) | decide), (by first | assumption | omega | exact Or.inl (by decide) | exact Or.inr (by omega) | decide), (Or.inr ⟨rfl, zTW_f (by omega) rfl⟩)⟩) hP hD
set_option maxRecDepth 100000 in
set_option maxHeartbeats 4000000 in
theorem c_tt_readTrustsC (l : Launch) (g : zG) (tt : Nat) (ta : Nat) (o : Nat) (ab : Nat) (sz : Int32) (ln : Int32) (kd : Int32) (bg : Int32) (nx : Int32) (fb : Nat → Int32) (a : Nat → Nat) (pe : Int32) (wo : Int32) (tx : Int32) (ch : Int32) (jo : Int32) (tr : Int32) (dy : Int32) (sd : Int32) (f : Nat → Nat → Int32) (b_pe : 0 ≤ pe.toInt ∧ pe.toInt ≤ 8) (b_wo : 0 ≤ wo.toInt ∧ wo.toInt ≤ 6) (rf : zZ4 f) (hln : 0 ≤ ln.toInt ∧ ln.toInt ≤ 400) (hnx : 0 ≤ nx.toInt ∧ nx.toInt ≤ 400) (hbg : 0 ≤ bg.toInt ∧ bg.toInt ≤ 400) (hkd : zKd kd.toInt bg.toInt nx.toInt) (hTk : zTk fb ln.toInt kd.toInt bg.toInt nx.toInt) (hab : zAb f pe.toInt) : zM' g l yX10_readTrusts (Cond.code yX10_readTrusts cX10_readTrusts 3 (some .boolean) :: zB) ({ frames := 2, cells := 0, slots := 0, locals := 45 } : Room) [.ref tt] [bTT g tt ta o, bTape g ta ab sz ln kd bg nx (-1) fb, bTown g o a pe wo tx ch jo tr dy sd f] (fun u : Int32 × Int32 × Int32 × Int32 × (Nat → Nat → Int32) × Int32 => (fun (kd2 : Int32) (bg2 : Int32) (nx2 : Int32) (ft2 : Int32) (f2 : Nat → Nat → Int32) (q : Int32) => some (.int q)) (u.1) (u.2.1) (u.2.2.1) (u.2.2.2.1) (u.2.2.2.2.1) (u.2.2.2.2.2)) (fun u : Int32 × Int32 × Int32 × Int32 × (Nat → Nat → Int32) × Int32 => (fun (kd2 : Int32) (bg2 : Int32) (nx2 : Int32) (ft2 : Int32) (f2 : Nat → Nat → Int32) (q : Int32) => (zZ4 f2) ∧ (-1 ≤ ft2.toInt) ∧ (0 ≤ nx2.toInt ∧ nx2.toInt ≤ 400) ∧ (0 ≤ bg2.toInt ∧ bg2.toInt ≤ 400) ∧ (zKd kd2.toInt bg2.toInt nx2.toInt) ∧ (zTk fb ln.toInt kd2.toInt bg2.toInt nx2.toInt) ∧ (q = 1 ∧ zTO (zKtr fb ln.toInt pe.toInt bg.toInt) bg2.toInt pe.toInt pe.toInt wo.toInt wo.toInt ∧ (-1) = ft2 ∧ (zTQ (zKtr fb ln.toInt pe.toInt bg.toInt) fb bg2.toInt (pe, wo, ch, jo, tr, dy, f) (pe, wo, ch, jo, tr, dy, f2) ∧ zAb f2 pe.toInt) ∨ q = 0 ∧ zKtr fb ln.toInt pe.toInt bg.toInt (.bad ft2.toInt))) (u.1) (u.2.1) (u.2.2.1) (u.2.2.2.1) (u.2.2.2.2.1) (u.2.2.2.2.2)) (fun u : Int32 × Int32 × Int32 × Int32 × (Nat → Nat → Int32) × Int32 => (fun (kd2 : Int32) (bg2 : Int32) (nx2 : Int32) (ft2 : Int32) (f2 : Nat → Nat → Int32) (q : Int32) => [bTT g tt ta o, bTape g ta ab sz ln kd2 bg2 nx2 ft2 fb, bTown g o a pe wo tx ch jo tr dy sd f2]) (u.1) (u.2.1) (u.2.2.1) (u.2.2.2.1) (u.2.2.2.2.1) (u.2.2.2.2.2)) := by
  refine zM'.of (cc := cX10_readTrusts) (maxL := 3) (rt := (some .boolean)) (by decide) rfl (Nat.le_of_ble_eq_true rfl) ?_
  intro p e s m args below meth c A ls St hr hlocks hin hK hT hA hP hD hS hl
  obtain ⟨hx, hb, hml, hown, hts⟩ := id St
  have hl : lv_has ls 3 [(0, .ref tt)] := hl
  refine lv_aload_n hx hb dX10_readTrusts_0 rfl (lv_at hl 0 rfl) ?_
  refine va_get (D := g.1) (ci := 8) (v := .ref ta) (C := RX10) (T := TX10) (N := 2) hx hb hts izRX10 hown hK hP 0 rfl rfl 0 (by decide) (hts _ k441) (fun x9 h9 => u_same (hts _ k442) x9 h9) rfl dX10_readTrusts_1 ?_
  refine lv_iconst (v := 0) hx hb dX10_readTrusts_4 (by decide) ?_
  refine lv_aload_n hx hb dX10_readTrusts_5 rfl (lv_at hl 0 rfl) ?_
  refine va_get (D := g.1) (ci := 8) (v := .ref o) (C := RX10) (T := TX10) (N := 2) hx hb hts izRX10 hown hK hP 0 rfl rfl 1 (by decide) (hts _ k439) (fun _ h9 => h9) rfl dX10_readTrusts_6 ?_
  refine va_get (D := g.1) (ci := 7) (v := .int pe) (C := RX9) (T := TX9) (N := 19) hx hb hts izRX9 hown hK hP 3 rfl rfl 0 (by decide) (hts _ k440) (fun _ h9 => h9) rfl dX10_readTrusts_9 ?_
  refine lv_iconst (v := 1) hx hb dX10_readTrusts_12 (by decide) ?_
  refine lv_isub hx hb dX10_readTrusts_13 ?_
  refine zg3 (zsubK (i := pe.toInt) (j := 1) (a' := (-1)) (b' := 7) rfl (by decide) b_pe.1 b_pe.2 (Int.le_refl _) (Int.le_refl _) (by decide)) (fun x_1 hx_1 => ?_)
  have hL0 : (0 : Int32).toInt = 0 := by decide
  refine mcallV' (g := g) (q0 := 0) (ci := 6) (As := [.int 0, .int x_1]) (rest := []) St hK hT hA hP hD hS hl.1 [1] [0, 2] rfl rfl rfl (c_t_numberF l g ta ab sz ln kd bg nx fb 0 x_1 hln hnx hbg hkd hTk) (cwV 2 hts (zgL (zl4 k445 k294 k295 k277) k273) rfl rfl rfl (by decide +kernel) ⟨Nat.le_of_ble_eq_true rfl, Nat.le_of_ble_eq_true rfl⟩) rfl rfl rfl rfl (Nat.le_of_ble_eq_true rfl) dX10_readTrusts_14 ⟨(Nat.le_of_ble_eq_true rfl), (Nat.le_of_ble_eq_true rfl)⟩ (fun u_ H locs hq7 hP hD hS => ?_)
  obtain ⟨kd2_2, bg2_3, nx2_4, ft2_5, q_6⟩ := u_
  replace hq7 : (-1 ≤ ft2_5.toInt) ∧ (0 ≤ nx2_4.toInt ∧ nx2_4.toInt ≤ 400) ∧ (0 ≤ bg2_3.toInt ∧ bg2_3.toInt ≤ 400) ∧ (zKd kd2_2.toInt bg2_3.toInt nx2_4.toInt) ∧ (zTk fb ln.toInt kd2_2.toInt bg2_3.toInt nx2_4.toInt) ∧ (zNu fb ln.toInt bg.toInt (0 : Int32).toInt x_1.toInt q_6 ∧ zMv fb ln.toInt bg.toInt bg2_3.toInt ∧ (-1) = ft2_5 ∨ q_6 = -1 ∧ (¬ ∃ v9, zNu fb ln.toInt bg.toInt (0 : Int32).toInt x_1.toInt v9) ∧ bg = ft2_5 ∧ kd = kd2_2 ∧ bg = bg2_3 ∧ nx = nx2_4) := hq7
  have hP : va_P g.1 vwCl (List.flatten [bTT g tt ta o, bTown g o a pe wo tx ch jo tr dy sd f, bTape g ta ab sz ln kd2_2 bg2_3 nx2_4 ft2_5 fb]) H := hP
  have hD : va_D A (List.flatten [bTT g tt ta o, bTown g o a pe wo tx ch jo tr dy sd f, bTape g ta ab sz ln kd2_2 bg2_3 nx2_4 ft2_5 fb]) := hD
  refine W.widen (k := 0) (n := 0) (Nat.le_of_ble_eq_true rfl) (Nat.le_of_ble_eq_true rfl) ?_
  refine W.eq (g2 := F0 m 17 ls [.int q_6]) rfl ?_
  obtain ⟨hq7_0, hq7_1, hq7_2, hq7_3, hq7_4, hq7_5⟩ := hq7
  rcases hq7_5 with ⟨hq7_k, hq7_km, rfl⟩ | ⟨rfl, hq7_k, rfl, rfl, rfl, rfl⟩
  · skip
    have w8 : 0 ≤ q_6.toInt ∧ q_6.toInt ≤ 7 := ⟨(by have h9 := hq7_k.2.2.1; omega), (by have h9 := hq7_k.2.2.2; omega)⟩
    refine lv_istore_n (lv' := [(1, .int q_6), (0, .ref tt)]) hx hb dX10_readTrusts_17 rfl hl (by decide) rfl (fun ls hl => ?_)
    refine lv_iload_n hx hb dX10_readTrusts_18 rfl (lv_at hl 0 rfl) ?_
    refine lv_iconst (v := (-1)) hx hb dX10_readTrusts_19 (by decide) ?_
    refine lv_icmp_ne (tgt := 25) hx hb dX10_readTrusts_20 (by decide) (fun cb9 => ?_) (fun cb9 => ?_)
    · skip
      have c9 : ¬ q_6.toInt = (-1) := zne cb9 rfl (by decide)
      refine lv_aload_n hx hb dX10_readTrusts_25 rfl (lv_at hl 1 rfl) ?_
      refine va_get (D := g.1) (ci := 8) (v := .ref ta) (C := RX10) (T := TX10) (N := 2) hx hb hts izRX10 hown hK hP 0 rfl rfl 0 (by decide) (hts _ k441) (fun x9 h9 => u_same (hts _ k442) x9 h9) rfl dX10_readTrusts_26 ?_
      refine va_get (D := g.1) (ci := 6) (v := .int kd2_2) (C := RX6) (T := TX6) (N := 7) hx hb hts izRX6 hown hK hP 13 rfl rfl 3 (by decide) (hts _ k460) (fun _ h9 => h9) rfl dX10_readTrusts_29 ?_
      refine lv_iconst (v := 2) hx hb dX10_readTrusts_32 (by decide) ?_
      refine lv_icmp_ne (tgt := 61) hx hb dX10_readTrusts_33 (by decide) (fun cb9 => ?_) (fun cb9 => ?_)
      · skip
        have c10 : ¬ kd2_2.toInt = 2 := zne cb9 rfl (by decide)
        refine lv_aload_n hx hb dX10_readTrusts_61 rfl (lv_at hl 1 rfl) ?_
        refine va_get (D := g.1) (ci := 8) (v := .ref ta) (C := RX10) (T := TX10) (N := 2) hx hb hts izRX10 hown hK hP 0 rfl rfl 0 (by decide) (hts _ k441) (fun x9 h9 => u_same (hts _ k442) x9 h9) rfl dX10_readTrusts_62 ?_
        refine mcallV' (g := g) (q0 := 0) (ci := 6) (As := []) (rest := []) St hK hT hA hP hD hS hl.1 [2] [0, 1] rfl rfl rfl (c_t_refuseF l g ta ab sz ln kd2_2 bg2_3 nx2_4 fb ) (cwV 0 hts (zgL (zl4 k443 k279 k280 k277) k269) rfl rfl rfl (by decide +kernel) ⟨Nat.le_of_ble_eq_true rfl, Nat.le_of_ble_eq_true rfl⟩) rfl rfl rfl rfl (Nat.le_of_ble_eq_true rfl) dX10_readTrusts_65 ⟨(Nat.le_of_ble_eq_true rfl), (Nat.le_of_ble_eq_true rfl)⟩ (fun _u H locs hq11 hP hD hS => ?_)
        have hP : va_P g.1 vwCl (List.flatten [bTT g tt ta o, bTown g o a pe wo tx ch jo tr dy sd f, bTape g ta ab sz ln kd2_2 bg2_3 nx2_4 bg2_3 fb]) H := hP
        have hD : va_D A (List.flatten [bTT g tt ta o, bTown g o a pe wo tx ch jo tr dy sd f, bTape g ta ab sz ln kd2_2 bg2_3 nx2_4 bg2_3 fb]) := hD
        refine W.widen (k := 0) (n := 0) (Nat.le_of_ble_eq_true rfl) (Nat.le_of_ble_eq_true rfl) ?_
        refine W.eq (g2 := F0 m 68 ls [.int 0]) rfl ?_
        have hP : va_P g.1 vwCl (List.flatten [bTT g tt ta o, bTown g o a pe wo tx ch jo tr dy sd f, bTape g ta ab sz ln kd2_2 bg2_3 nx2_4 bg2_3 fb]) H := hP
        have hD : va_D A (List.flatten [bTT g tt ta o, bTown g o a pe wo tx ch jo tr dy sd f, bTape g ta ab sz ln kd2_2 bg2_3 nx2_4 bg2_3 fb]) := hD
        obtain ⟨hP, hD⟩ := zord (g := g) (Bs' := [bTT g tt ta o, bTape g ta ab sz ln kd2_2 bg2_3 nx2_4 bg2_3 fb, bTown g o a pe wo tx ch jo tr dy sd f]) [0, 2, 1] rfl rfl hP hD
        exact mret_z hx hb hr hlocks hS (Nat.le_of_ble_eq_true rfl) (Nat.le_of_ble_eq_true rfl) dX10_readTrusts_68 (kd2_2, bg2_3, nx2_4, bg2_3, f, (0 : Int32)) rfl (by decide) (show (zZ4 f) ∧ (-1 ≤ bg2_3.toInt) ∧ (0 ≤ nx2_4.toInt ∧ nx2_4.toInt ≤ 400) ∧ (0 ≤ bg2_3.toInt ∧ bg2_3.toInt ≤ 400) ∧ (zKd kd2_2.toInt bg2_3.toInt nx2_4.toInt) ∧ (zTk fb ln.toInt kd2_2.toInt bg2_3.toInt nx2_4.toInt) ∧ (0 = 1 ∧ zTO (zKtr fb ln.toInt pe.toInt bg.toInt) bg2_3.toInt pe.toInt pe.toInt wo.toInt wo.toInt ∧ (-1) = bg2_3 ∧ (zTQ (zKtr fb ln.toInt pe.toInt bg.toInt) fb bg2_3.toInt (pe, wo, ch, jo, tr, dy, f) (pe, wo, ch, jo, tr, dy, f) ∧ zAb f pe.toInt) ∨ 0 = 0 ∧ zKtr fb ln.toInt pe.toInt bg.toInt (.bad bg2_3.toInt)) from ⟨(by first | assumption | omega | exact Or.inl (by decide) | exact Or.inr (by omega) | decide), (by first | assumption | omega | exact Or.inl (by decide) | exact Or.inr (by omega) | decide), (by first | assumption | omega | exact Or.inl (by decide) | exact Or.inr (by omega) | decide), (by first | assumption | omega | exact Or.inl (by decide) | exact Or.inr (by omega) | decide), (by first | assumption | omega | exact Or.inl (by decide) | exact Or.inr (by omega) | decide), (by first | assumption | omega | exact Or.inl (by decide) | exact Or.inr (by omega) | decide), (Or.inr ⟨rfl, zNN_y (by decide) (by omega) hq7_k hq7_km (zKt2_n hq7_4 (by omega) rfl)⟩)⟩) hP hD
      · skip
        have c12 : kd2_2.toInt = 2 := zeq cb9 rfl (by decide)
        have n13 : 2 ≤ kd2_2.toInt := Int.le_trans (Int.le_refl _) (Int.le_of_eq c12.symm)
        have n14 : kd2_2.toInt ≤ 2 := Int.le_trans (Int.le_of_eq c12) (Int.le_refl _)
        refine lv_aload_n hx hb dX10_readTrusts_36 rfl (lv_at hl 1 rfl) ?_
        refine va_get (D := g.1) (ci := 8) (v := .ref ta) (C := RX10) (T := TX10) (N := 2) hx hb hts izRX10 hown hK hP 0 rfl rfl 0 (by decide) (hts _ k441) (fun x9 h9 => u_same (hts _ k442) x9 h9) rfl dX10_readTrusts_37 ?_
        refine va_get (D := g.1) (ci := 6) (v := .int nx2_4) (C := RX6) (T := TX6) (N := 7) hx hb hts izRX6 hown hK hP 13 rfl rfl 5 (by decide) (hts _ k461) (fun _ h9 => h9) rfl dX10_readTrusts_40 ?_
        refine lv_aload_n hx hb dX10_readTrusts_43 rfl (lv_at hl 1 rfl) ?_
        refine va_get (D := g.1) (ci := 8) (v := .ref ta) (C := RX10) (T := TX10) (N := 2) hx hb hts izRX10 hown hK hP 0 rfl rfl 0 (by decide) (hts _ k441) (fun x9 h9 => u_same (hts _ k442) x9 h9) rfl dX10_readTrusts_44 ?_
        refine va_get (D := g.1) (ci := 6) (v := .int bg2_3) (C := RX6) (T := TX6) (N := 7) hx hb hts izRX6 hown hK hP 13 rfl rfl 4 (by decide) (hts _ k462) (fun _ h9 => h9) rfl dX10_readTrusts_47 ?_
        refine lv_isub hx hb dX10_readTrusts_50 ?_
        refine zg3 (zsubK (i := nx2_4.toInt) (j := bg2_3.toInt) (a' := (-400)) (b' := 400) rfl rfl hq7_1.1 hq7_1.2 hq7_2.1 hq7_2.2 (by decide)) (fun x_15 hx_15 => ?_)
        refine lv_aload_n hx hb dX10_readTrusts_51 rfl (lv_at hl 1 rfl) ?_
        refine va_get (D := g.1) (ci := 8) (v := .ref o) (C := RX10) (T := TX10) (N := 2) hx hb hts izRX10 hown hK hP 0 rfl rfl 1 (by decide) (hts _ k439) (fun _ h9 => h9) rfl dX10_readTrusts_52 ?_
        refine va_get (D := g.1) (ci := 7) (v := .int pe) (C := RX9) (T := TX9) (N := 19) hx hb hts izRX9 hown hK hP 1 rfl rfl 0 (by decide) (hts _ k440) (fun _ h9 => h9) rfl dX10_readTrusts_55 ?_
        refine lv_icmp_eq (tgt := 69) hx hb dX10_readTrusts_58 (by decide) (fun cb9 => ?_) (fun cb9 => ?_)
        · skip
          have c16 : x_15.toInt = pe.toInt := zeq cb9 rfl rfl
          have n17 : 0 ≤ x_15.toInt := Int.le_trans b_pe.1 (Int.le_of_eq c16.symm)
          have n18 : x_15.toInt ≤ 8 := Int.le_trans (Int.le_of_eq c16) b_pe.2
          refine lv_iconst (v := 0) hx hb dX10_readTrusts_69 (by decide) ?_
          refine lv_istore_n (lv' := [(2, .int 0), (1, .int q_6), (0, .ref tt)]) hx hb dX10_readTrusts_70 rfl hl (by decide) rfl (fun ls hl => ?_)
          have hl := lv_sub (l' := [(0, .ref tt), (1, .int q_6), (2, .int 0)]) hl [2, 1, 0] rfl
          have LP71_24 : ∀ (kf : Nat) (x_19 : Int32) (f_20 : Nat → Nat → Int32), (0 ≤ x_19.toInt ∧ x_19.toInt ≤ 8) → (zZ4 f_20) → (x_19.toInt ≤ pe.toInt) → (f_20 = zTrs fb q_6.toInt.toNat bg2_3.toInt.toNat x_19.toInt.toNat f) → ∀ (H : Heap) (locs : List Loc) (ls : Array Slot), ((9 - x_19.toInt).toNat) < kf → va_P g.1 vwCl (List.flatten [bTT g tt ta o, bTown g o a pe wo tx ch jo tr dy sd f_20, bTape g ta ab sz ln kd2_2 bg2_3 nx2_4 (-1) fb]) H → va_D A (List.flatten [bTT g tt ta o, bTown g o a pe wo tx ch jo tr dy sd f_20, bTape g ta ab sz ln kd2_2 bg2_3 nx2_4 (-1) fb]) → va_S A s.heap H locs → lv_has ls 3 [(0, .ref tt), (1, .int q_6), (2, .int x_19)] → W p l e ({ frames := 2, cells := 0, slots := 0, locals := 45 } : Room) s m args below meth c H locs (0) (0) (zF g (fun u : Int32 × Int32 × Int32 × Int32 × (Nat → Nat → Int32) × Int32 => (fun (kd2 : Int32) (bg2 : Int32) (nx2 : Int32) (ft2 : Int32) (f2 : Nat → Nat → Int32) (q : Int32) => some (.int q)) (u.1) (u.2.1) (u.2.2.1) (u.2.2.2.1) (u.2.2.2.2.1) (u.2.2.2.2.2)) (fun u : Int32 × Int32 × Int32 × Int32 × (Nat → Nat → Int32) × Int32 => (fun (kd2 : Int32) (bg2 : Int32) (nx2 : Int32) (ft2 : Int32) (f2 : Nat → Nat → Int32) (q : Int32) => (zZ4 f2) ∧ (-1 ≤ ft2.toInt) ∧ (0 ≤ nx2.toInt ∧ nx2.toInt ≤ 400) ∧ (0 ≤ bg2.toInt ∧ bg2.toInt ≤ 400) ∧ (zKd kd2.toInt bg2.toInt nx2.toInt) ∧ (zTk fb ln.toInt kd2.toInt bg2.toInt nx2.toInt) ∧ (q = 1 ∧ zTO (zKtr fb ln.toInt pe.toInt bg.toInt) bg2.toInt pe.toInt pe.toInt wo.toInt wo.toInt ∧ (-1) = ft2 ∧ (zTQ (zKtr fb ln.toInt pe.toInt bg.toInt) fb bg2.toInt (pe, wo, ch, jo, tr, dy, f) (pe, wo, ch, jo, tr, dy, f2) ∧ zAb f2 pe.toInt) ∨ q = 0 ∧ zKtr fb ln.toInt pe.toInt bg.toInt (.bad ft2.toInt))) (u.1) (u.2.1) (u.2.2.1) (u.2.2.2.1) (u.2.2.2.2.1) (u.2.2.2.2.2)) (fun u : Int32 × Int32 × Int32 × Int32 × (Nat → Nat → Int32) × Int32 => (fun (kd2 : Int32) (bg2 : Int32) (nx2 : Int32) (ft2 : Int32) (f2 : Nat → Nat → Int32) (q : Int32) => [bTT g tt ta o, bTape g ta ab sz ln kd2 bg2 nx2 ft2 fb, bTown g o a pe wo tx ch jo tr dy sd f2]) (u.1) (u.2.1) (u.2.2.1) (u.2.2.2.1) (u.2.2.2.2.1) (u.2.2.2.2.2)) ({ frames := 2, cells := 0, slots := 0, locals := 45 } : Room) below args s A) (F0 m 71 ls []) := by
            intro kf
            induction kf with
            | zero => intro x_19 f_20 i21 rf_20 i22 i23 H locs ls hk; exact absurd hk (Nat.not_lt_zero _)
            | succ kf ih71_25 =>
              intro x_19 f_20 i21 rf_20 i22 i23 H locs ls hk71_25 hP hD hS hl
              refine lv_iload_n hx hb dX10_readTrusts_71 rfl (lv_at hl 2 rfl) ?_
              refine lv_aload_n hx hb dX10_readTrusts_72 rfl (lv_at hl 0 rfl) ?_
              refine va_get (D := g.1) (ci := 8) (v := .ref o) (C := RX10) (T := TX10) (N := 2) hx hb hts izRX10 hown hK hP 0 rfl rfl 1 (by decide) (hts _ k439) (fun _ h9 => h9) rfl dX10_readTrusts_73 ?_
              refine va_get (D := g.1) (ci := 7) (v := .int pe) (C := RX9) (T := TX9) (N := 19) hx hb hts izRX9 hown hK hP 1 rfl rfl 0 (by decide) (hts _ k440) (fun _ h9 => h9) rfl dX10_readTrusts_76 ?_
              refine lv_icmp_ge (tgt := 122) hx hb dX10_readTrusts_79 (by decide) (fun cb9 => ?_) (fun cb9 => ?_)
              · skip
                have c26 : pe.toInt ≤ x_19.toInt := zle cb9 rfl rfl
                refine lv_aload_n hx hb dX10_readTrusts_122 rfl (lv_at hl 0 rfl) ?_
                refine va_get (D := g.1) (ci := 8) (v := .ref ta) (C := RX10) (T := TX10) (N := 2) hx hb hts izRX10 hown hK hP 0 rfl rfl 0 (by decide) (hts _ k441) (fun x9 h9 => u_same (hts _ k442) x9 h9) rfl dX10_readTrusts_123 ?_
                refine mcallV' (g := g) (q0 := 0) (ci := 6) (As := []) (rest := []) St hK hT hA hP hD hS hl.1 [2] [0, 1] rfl rfl rfl (c_t_stepF l g ta ab sz ln kd2_2 bg2_3 nx2_4 (-1) fb hln hq7_1) (cwV 0 hts (zgL (zl4 k444 k275 k276 k277) k271) rfl rfl rfl (by decide +kernel) ⟨Nat.le_of_ble_eq_true rfl, Nat.le_of_ble_eq_true rfl⟩) rfl rfl rfl rfl (Nat.le_of_ble_eq_true rfl) dX10_readTrusts_126 ⟨(Nat.le_of_ble_eq_true rfl), (Nat.le_of_ble_eq_true rfl)⟩ (fun u_ H locs hq30 hP hD hS => ?_)
                obtain ⟨kd2_27, bg2_28, nx2_29⟩ := u_
                replace hq30 : (0 ≤ nx2_29.toInt ∧ nx2_29.toInt ≤ 400) ∧ (0 ≤ bg2_28.toInt ∧ bg2_28.toInt ≤ 400) ∧ (zKd kd2_27.toInt bg2_28.toInt nx2_29.toInt) ∧ (zSk fb ln.toInt nx2_4.toInt bg2_28.toInt) ∧ (zTk fb ln.toInt kd2_27.toInt bg2_28.toInt nx2_29.toInt) := hq30
                have hP : va_P g.1 vwCl (List.flatten [bTT g tt ta o, bTown g o a pe wo tx ch jo tr dy sd f_20, bTape g ta ab sz ln kd2_27 bg2_28 nx2_29 (-1) fb]) H := hP
                have hD : va_D A (List.flatten [bTT g tt ta o, bTown g o a pe wo tx ch jo tr dy sd f_20, bTape g ta ab sz ln kd2_27 bg2_28 nx2_29 (-1) fb]) := hD
                refine W.widen (k := 0) (n := 0) (Nat.le_of_ble_eq_true rfl) (Nat.le_of_ble_eq_true rfl) ?_
                refine W.eq (g2 := F0 m 129 ls []) rfl ?_
                obtain ⟨hq30_0, hq30_1, hq30_2, hq30_3, hq30_4⟩ := hq30
                refine lv_iconst (v := 1) hx hb dX10_readTrusts_129 (by decide) ?_
                have hP : va_P g.1 vwCl (List.flatten [bTT g tt ta o, bTown g o a pe wo tx ch jo tr dy sd f_20, bTape g ta ab sz ln kd2_27 bg2_28 nx2_29 (-1) fb]) H := hP
                have hD : va_D A (List.flatten [bTT g tt ta o, bTown g o a pe wo tx ch jo tr dy sd f_20, bTape g ta ab sz ln kd2_27 bg2_28 nx2_29 (-1) fb]) := hD
                obtain ⟨hP, hD⟩ := zord (g := g) (Bs' := [bTT g tt ta o, bTape g ta ab sz ln kd2_27 bg2_28 nx2_29 (-1) fb, bTown g o a pe wo tx ch jo tr dy sd f_20]) [0, 2, 1] rfl rfl hP hD
                exact mret_z hx hb hr hlocks hS (Nat.le_of_ble_eq_true rfl) (Nat.le_of_ble_eq_true rfl) dX10_readTrusts_130 (kd2_27, bg2_28, nx2_29, -1, f_20, (1 : Int32)) rfl (by decide) (show (zZ4 f_20) ∧ (-1 ≤ ((-1) : Int32).toInt) ∧ (0 ≤ nx2_29.toInt ∧ nx2_29.toInt ≤ 400) ∧ (0 ≤ bg2_28.toInt ∧ bg2_28.toInt ≤ 400) ∧ (zKd kd2_27.toInt bg2_28.toInt nx2_29.toInt) ∧ (zTk fb ln.toInt kd2_27.toInt bg2_28.toInt nx2_29.toInt) ∧ (1 = 1 ∧ zTO (zKtr fb ln.toInt pe.toInt bg.toInt) bg2_28.toInt pe.toInt pe.toInt wo.toInt wo.toInt ∧ (-1) = (-1) ∧ (zTQ (zKtr fb ln.toInt pe.toInt bg.toInt) fb bg2_28.toInt (pe, wo, ch, jo, tr, dy, f) (pe, wo, ch, jo, tr, dy, f_20) ∧ zAb f_20 pe.toInt) ∨ 1 = 0 ∧ zKtr fb ln.toInt pe.toInt bg.toInt (.bad ((-1) : Int32).toInt)) from ⟨(by first | assumption | omega | exact Or.inl (by decide) | exact Or.inr (by omega) | decide), (by first | assumption | omega | exact Or.inl (by decide) | exact Or.inr (by omega) | decide), (by first | assumption | omega | exact Or.inl (by decide) | exact Or.inr (by omega) | decide), (by first | assumption | omega | exact Or.inl (by decide) | exact Or.inr (by omega) | decide), (by first | assumption | omega | exact Or.inl (by decide) | exact Or.inr (by omega) | decide), (by first | assumption | omega | exact Or.inl (by decide) | exact Or.inr (by omega) | decide), (Or.inl ⟨rfl, ⟨(2, q_6.toInt, _, 0), zNN_y (by decide) (by omega) hq7_k hq7_km (zKt2_y hq7_4 (by omega) (by omega) (zMv_mk hq7_4 hq30_3)), zcp_n (by decide) rfl, zcw_n (by decide) rfl⟩, rfl, ⟨⟨(2, q_6.toInt, _, 0), zNN_y (by decide) (by omega) hq7_k hq7_km (zKt2_y hq7_4 (by omega) (by omega) (zMv_mk hq7_4 hq30_3)), zSR_2 (zEq_o (zTrs_e i23 (by omega)))⟩, (by rw [zTrs_e (pe := pe.toInt) i23 (by omega)]; exact zTrs_Ab (by have h9 := hq7_k.2.2.2; omega) (by omega) hab)⟩⟩)⟩) hP hD
              · skip
                have c31 : x_19.toInt < pe.toInt := zlti (Int32.not_le.mp cb9) rfl rfl
                have n32 : x_19.toInt ≤ 7 := zL1 (b := 8) c31 b_pe.2 (by decide)
                have n33 : 1 ≤ pe.toInt := zL2 (a := 0) c31 i21.1 (by decide)
                refine lv_iload_n hx hb dX10_readTrusts_82 rfl (lv_at hl 2 rfl) ?_
                refine lv_iload_n hx hb dX10_readTrusts_83 rfl (lv_at hl 1 rfl) ?_
                refine lv_icmp_eq (tgt := 116) hx hb dX10_readTrusts_84 (by decide) (fun cb9 => ?_) (fun cb9 => ?_)
                · skip
                  have c34 : x_19.toInt = q_6.toInt := zeq cb9 rfl rfl
                  refine ziinc3 (n' := 1) (a' := 1) (b' := 8) (lv' := fun v9 => [(2, .int v9), (0, .ref tt), (1, .int q_6)]) hx hb dX10_readTrusts_116 hl (k := 2) rfl (by decide) (fun _ => rfl) (zaddK (i := x_19.toInt) (j := 1) rfl (by decide) i21.1 n32 (Int.le_refl _) (Int.le_refl _) (by decide)) (fun x_35 ls hx_35 hl => ?_)
                  refine lv_goto (tgt := 71) hx hb dX10_readTrusts_119 (by decide) ?_
                  have hl := lv_sub (l' := [(0, .ref tt), (1, .int q_6), (2, .int x_35)]) hl [1, 2, 0] rfl
                  have hP : va_P g.1 vwCl (List.flatten [bTT g tt ta o, bTown g o a pe wo tx ch jo tr dy sd f_20, bTape g ta ab sz ln kd2_2 bg2_3 nx2_4 (-1) fb]) H := hP
                  have hD : va_D A (List.flatten [bTT g tt ta o, bTown g o a pe wo tx ch jo tr dy sd f_20, bTape g ta ab sz ln kd2_2 bg2_3 nx2_4 (-1) fb]) := hD
                  exact ih71_25 x_35 f_20 ⟨(Int.le_trans (by decide) hx_35.2.1), hx_35.2.2⟩ rf_20 (by first | omega | assumption | decide) (zTrs_k i23 hx_35.1 (by omega) (by omega)) H _ ls (zmK hx_35.1 (by decide) n32 (by decide) hk71_25)  hP hD hS (lv_sub hl [0, 1, 2] rfl)
                · skip
                  have c36 : ¬ x_19.toInt = q_6.toInt := zne cb9 rfl rfl
                  refine lv_aload_n hx hb dX10_readTrusts_87 rfl (lv_at hl 0 rfl) ?_
                  refine va_get (D := g.1) (ci := 8) (v := .ref o) (C := RX10) (T := TX10) (N := 2) hx hb hts izRX10 hown hK hP 0 rfl rfl 1 (by decide) (hts _ k439) (fun _ h9 => h9) rfl dX10_readTrusts_88 ?_
                  refine lv_iload_n hx hb dX10_readTrusts_91 rfl (lv_at hl 1 rfl) ?_
                  refine lv_iload_n hx hb dX10_readTrusts_92 rfl (lv_at hl 2 rfl) ?_
                  refine lv_aload_n hx hb dX10_readTrusts_93 rfl (lv_at hl 0 rfl) ?_
                  refine va_get (D := g.1) (ci := 8) (v := .ref ta) (C := RX10) (T := TX10) (N := 2) hx hb hts izRX10 hown hK hP 0 rfl rfl 0 (by decide) (hts _ k441) (fun x9 h9 => u_same (hts _ k442) x9 h9) rfl dX10_readTrusts_94 ?_
                  refine va_get (D := g.1) (ci := 6) (v := .ref ab) (C := RX6) (T := TX6) (N := 7) hx hb hts izRX6 hown hK hP 13 rfl rfl 0 (by decide) (hts _ k463) (fun _ h9 => h9) rfl dX10_readTrusts_97 ?_
                  refine lv_aload_n hx hb dX10_readTrusts_100 rfl (lv_at hl 0 rfl) ?_
                  refine va_get (D := g.1) (ci := 8) (v := .ref ta) (C := RX10) (T := TX10) (N := 2) hx hb hts izRX10 hown hK hP 0 rfl rfl 0 (by decide) (hts _ k441) (fun x9 h9 => u_same (hts _ k442) x9 h9) rfl dX10_readTrusts_101 ?_
                  refine va_get (D := g.1) (ci := 6) (v := .int bg2_3) (C := RX6) (T := TX6) (N := 7) hx hb hts izRX6 hown hK hP 13 rfl rfl 4 (by decide) (hts _ k462) (fun _ h9 => h9) rfl dX10_readTrusts_104 ?_
                  refine lv_iload_n hx hb dX10_readTrusts_107 rfl (lv_at hl 2 rfl) ?_
                  refine lv_iadd hx hb dX10_readTrusts_108 ?_
                  refine zg3 (zaddK (i := bg2_3.toInt) (j := x_19.toInt) (a' := 0) (b' := 407) rfl rfl hq7_2.1 hq7_2.2 i21.1 n32 (by decide)) (fun x_37 hx_37 => ?_)
                  refine va_iald hx hb hK hP 14 0 rfl rfl (zinI (by omega) (by omega)) dX10_readTrusts_109 ?_
                  refine ztop (r := (fb x_37.toInt.toNat)) rfl ?_
                  refine lv_bipush (v := 48) hx hb dX10_readTrusts_110 (by decide) ?_
                  refine lv_isub hx hb dX10_readTrusts_112 ?_
                  refine mcallV' (g := g) (q0 := 0) (ci := 7) (As := [.int q_6, .int x_19, .int ((fb x_37.toInt.toNat) - 48)]) (rest := []) St hK hT hA hP hD hS hl.1 [1] [0, 2] rfl rfl rfl (c_setTrustF l g o a pe wo tx ch jo tr dy sd f_20 q_6 x_19 ((fb x_37.toInt.toNat) - 48) rf_20 (⟨w8.1, w8.2⟩) (⟨i21.1, n32⟩)) (cwV 3 hts (zgL (zl4 k464 k437 k438 k24) k434) rfl rfl rfl (by decide +kernel) ⟨Nat.le_of_ble_eq_true rfl, Nat.le_of_ble_eq_true rfl⟩) rfl rfl rfl rfl (Nat.le_of_ble_eq_true rfl) dX10_readTrusts_113 ⟨(Nat.le_of_ble_eq_true rfl), (Nat.le_of_ble_eq_true rfl)⟩ (fun f2_38 H locs hq39 hP hD hS => ?_)
                  replace hq39 : (zZ4 f2_38) ∧ (f2_38 = zSet f_20 5 (8 * q_6.toInt.toNat + x_19.toInt.toNat) (((fb x_37.toInt.toNat) - 48))) := hq39
                  have hP : va_P g.1 vwCl (List.flatten [bTT g tt ta o, bTape g ta ab sz ln kd2_2 bg2_3 nx2_4 (-1) fb, bTown g o a pe wo tx ch jo tr dy sd f2_38]) H := hP
                  have hD : va_D A (List.flatten [bTT g tt ta o, bTape g ta ab sz ln kd2_2 bg2_3 nx2_4 (-1) fb, bTown g o a pe wo tx ch jo tr dy sd f2_38]) := hD
                  refine W.widen (k := 0) (n := 0) (Nat.le_of_ble_eq_true rfl) (Nat.le_of_ble_eq_true rfl) ?_
                  refine W.eq (g2 := F0 m 116 ls []) rfl ?_
                  obtain ⟨rf2_38, hq39_1⟩ := hq39
                  refine ziinc3 (n' := 1) (a' := 1) (b' := 8) (lv' := fun v9 => [(2, .int v9), (0, .ref tt), (1, .int q_6)]) hx hb dX10_readTrusts_116 hl (k := 2) rfl (by decide) (fun _ => rfl) (zaddK (i := x_19.toInt) (j := 1) rfl (by decide) i21.1 n32 (Int.le_refl _) (Int.le_refl _) (by decide)) (fun x_40 ls hx_40 hl => ?_)
                  refine lv_goto (tgt := 71) hx hb dX10_readTrusts_119 (by decide) ?_
                  have hl := lv_sub (l' := [(0, .ref tt), (1, .int q_6), (2, .int x_40)]) hl [1, 2, 0] rfl
                  have hP : va_P g.1 vwCl (List.flatten [bTT g tt ta o, bTape g ta ab sz ln kd2_2 bg2_3 nx2_4 (-1) fb, bTown g o a pe wo tx ch jo tr dy sd f2_38]) H := hP
                  have hD : va_D A (List.flatten [bTT g tt ta o, bTape g ta ab sz ln kd2_2 bg2_3 nx2_4 (-1) fb, bTown g o a pe wo tx ch jo tr dy sd f2_38]) := hD
                  obtain ⟨hP, hD⟩ := zord (g := g) (Bs' := [bTT g tt ta o, bTown g o a pe wo tx ch jo tr dy sd f2_38, bTape g ta ab sz ln kd2_2 bg2_3 nx2_4 (-1) fb]) [0, 2, 1] rfl rfl hP hD
                  have hP : va_P g.1 vwCl (List.flatten [bTT g tt ta o, bTown g o a pe wo tx ch jo tr dy sd f2_38, bTape g ta ab sz ln kd2_2 bg2_3 nx2_4 (-1) fb]) H := hP
                  have hD : va_D A (List.flatten [bTT g tt ta o, bTown g o a pe wo tx ch jo tr dy sd f2_38, bTape g ta ab sz ln kd2_2 bg2_3 nx2_4 (-1) fb]) := hD
                  exact ih71_25 x_40 f2_38 ⟨(Int.le_trans (by decide) hx_40.2.1), hx_40.2.2⟩ rf2_38 (by first | omega | assumption | decide) (zTrs_j i23 hx_40.1 (by omega) (by omega) hq39_1 (congrArg (fun q => fb q - 48) (by omega))) H _ ls (zmK hx_40.1 (by decide) n32 (by decide) hk71_25)  hP hD hS (lv_sub hl [0, 1, 2] rfl)
          have hP : va_P g.1 vwCl (List.flatten [bTT g tt ta o, bTown g o a pe wo tx ch jo tr dy sd f, bTape g ta ab sz ln kd2_2 bg2_3 nx2_4 (-1) fb]) H := hP
          have hD : va_D A (List.flatten [bTT g tt ta o, bTown g o a pe wo tx ch jo tr dy sd f, bTape g ta ab sz ln kd2_2 bg2_3 nx2_4 (-1) fb]) := hD
          exact LP71_24 _ 0 f (by decide) rf (by first | omega | assumption | decide) (zTrs_i (by decide)) H _ ls (Nat.lt_succ_self _)  hP hD hS (lv_sub hl [0, 1, 2] rfl)
        · skip
          have c41 : ¬ x_15.toInt = pe.toInt := zne cb9 rfl rfl
          refine lv_aload_n hx hb dX10_readTrusts_61 rfl (lv_at hl 1 rfl) ?_
          refine va_get (D := g.1) (ci := 8) (v := .ref ta) (C := RX10) (T := TX10) (N := 2) hx hb hts izRX10 hown hK hP 0 rfl rfl 0 (by decide) (hts _ k441) (fun x9 h9 => u_same (hts _ k442) x9 h9) rfl dX10_readTrusts_62 ?_
          refine mcallV' (g := g) (q0 := 0) (ci := 6) (As := []) (rest := []) St hK hT hA hP hD hS hl.1 [2] [0, 1] rfl rfl rfl (c_t_refuseF l g ta ab sz ln kd2_2 bg2_3 nx2_4 fb ) (cwV 0 hts (zgL (zl4 k443 k279 k280 k277) k269) rfl rfl rfl (by decide +kernel) ⟨Nat.le_of_ble_eq_true rfl, Nat.le_of_ble_eq_true rfl⟩) rfl rfl rfl rfl (Nat.le_of_ble_eq_true rfl) dX10_readTrusts_65 ⟨(Nat.le_of_ble_eq_true rfl), (Nat.le_of_ble_eq_true rfl)⟩ (fun _u H locs hq42 hP hD hS => ?_)
          have hP : va_P g.1 vwCl (List.flatten [bTT g tt ta o, bTown g o a pe wo tx ch jo tr dy sd f, bTape g ta ab sz ln kd2_2 bg2_3 nx2_4 bg2_3 fb]) H := hP
          have hD : va_D A (List.flatten [bTT g tt ta o, bTown g o a pe wo tx ch jo tr dy sd f, bTape g ta ab sz ln kd2_2 bg2_3 nx2_4 bg2_3 fb]) := hD
          refine W.widen (k := 0) (n := 0) (Nat.le_of_ble_eq_true rfl) (Nat.le_of_ble_eq_true rfl) ?_
          refine W.eq (g2 := F0 m 68 ls [.int 0]) rfl ?_
          have hP : va_P g.1 vwCl (List.flatten [bTT g tt ta o, bTown g o a pe wo tx ch jo tr dy sd f, bTape g ta ab sz ln kd2_2 bg2_3 nx2_4 bg2_3 fb]) H := hP
          have hD : va_D A (List.flatten [bTT g tt ta o, bTown g o a pe wo tx ch jo tr dy sd f, bTape g ta ab sz ln kd2_2 bg2_3 nx2_4 bg2_3 fb]) := hD
          obtain ⟨hP, hD⟩ := zord (g := g) (Bs' := [bTT g tt ta o, bTape g ta ab sz ln kd2_2 bg2_3 nx2_4 bg2_3 fb, bTown g o a pe wo tx ch jo tr dy sd f]) [0, 2, 1] rfl rfl hP hD
          exact mret_z hx hb hr hlocks hS (Nat.le_of_ble_eq_true rfl) (Nat.le_of_ble_eq_true rfl) dX10_readTrusts_68 (kd2_2, bg2_3, nx2_4, bg2_3, f, (0 : Int32)) rfl (by decide) (show (zZ4 f) ∧ (-1 ≤ bg2_3.toInt) ∧ (0 ≤ nx2_4.toInt ∧ nx2_4.toInt ≤ 400) ∧ (0 ≤ bg2_3.toInt ∧ bg2_3.toInt ≤ 400) ∧ (zKd kd2_2.toInt bg2_3.toInt nx2_4.toInt) ∧ (zTk fb ln.toInt kd2_2.toInt bg2_3.toInt nx2_4.toInt) ∧ (0 = 1 ∧ zTO (zKtr fb ln.toInt pe.toInt bg.toInt) bg2_3.toInt pe.toInt pe.toInt wo.toInt wo.toInt ∧ (-1) = bg2_3 ∧ (zTQ (zKtr fb ln.toInt pe.toInt bg.toInt) fb bg2_3.toInt (pe, wo, ch, jo, tr, dy, f) (pe, wo, ch, jo, tr, dy, f) ∧ zAb f pe.toInt) ∨ 0 = 0 ∧ zKtr fb ln.toInt pe.toInt bg.toInt (.bad bg2_3.toInt)) from ⟨(by first | assumption | omega | exact Or.inl (by decide) | exact Or.inr (by omega) | decide), (by first | assumption | omega | exact Or.inl (by decide) | exact Or.inr (by omega) | decide), (by first | assumption | omega | exact Or.inl (by decide) | exact Or.inr (by omega) | decide), (by first | assumption | omega | exact Or.inl (by decide) | exact Or.inr (by omega) | decide), (by first | assumption | omega | exact Or.inl (by decide) | exact Or.inr (by omega) | decide), (by first | assumption | omega | exact Or.inl (by decide) | exact Or.inr (by omega) | decide), (Or.inr ⟨rfl, zNN_y (by decide) (by omega) hq7_k hq7_km (zKt2_n hq7_4 (by omega) rfl)⟩)⟩) hP hD
    · skip
      exact absurd (show q_6.toInt = (-1) from zeq cb9 rfl (by decide)) (zDeq2 (a := 0) (b := (-1)) w8.1 (Int.le_refl _) (by decide))
  · skip
    refine lv_istore_n (lv' := [(1, .int (-1)), (0, .ref tt)]) hx hb dX10_readTrusts_17 rfl hl (by decide) rfl (fun ls hl => ?_)
    refine lv_iload_n hx hb dX10_readTrusts_18 rfl (lv_at hl 0 rfl) ?_
    refine lv_iconst (v := (-1)) hx hb dX10_readTrusts_19 (by decide) ?_
    refine lv_icmp_ne (tgt := 25) hx hb dX10_readTrusts_20 (by decide) (fun c44 => absurd (by decide) c44) (fun _ => ?_)
    refine lv_iconst (v := 0) hx hb dX10_readTrusts_23 (by decide) ?_
    have hP : va_P g.1 vwCl (List.flatten [bTT g tt ta o, bTown g o a pe wo tx ch jo tr dy sd f, bTape g ta ab sz ln kd bg nx bg fb]) H := hP
    have hD : va_D A (List.flatten [bTT g tt ta o, bTown g o a pe wo tx ch jo tr dy sd f, bTape g ta ab sz ln kd bg nx bg fb]) := hD
    obtain ⟨hP, hD⟩ := zord (g := g) (Bs' := [bTT g tt ta o, bTape g ta ab sz ln kd bg nx bg fb, bTown g o a pe wo tx ch jo tr dy sd f]) [0, 2, 1] rfl rfl hP hD
    exact mret_z hx hb hr hlocks hS (Nat.le_of_ble_eq_true rfl) (Nat.le_of_ble_eq_true rfl) dX10_readTrusts_24 (kd, bg, nx, bg, f, (0 : Int32)) rfl (by decide) (show (zZ4 f) ∧ (-1 ≤ bg.toInt) ∧ (0 ≤ nx.toInt ∧ nx.toInt ≤ 400) ∧ (0 ≤ bg.toInt ∧ bg.toInt ≤ 400) ∧ (zKd kd.toInt bg.toInt nx.toInt) ∧ (zTk fb ln.toInt kd.toInt bg.toInt nx.toInt) ∧ (0 = 1 ∧ zTO (zKtr fb ln.toInt pe.toInt bg.toInt) bg.toInt pe.toInt pe.toInt wo.toInt wo.toInt ∧ (-1) = bg ∧ (zTQ (zKtr fb ln.toInt pe.toInt bg.toInt) fb bg.toInt (pe, wo, ch, jo, tr, dy, f) (pe, wo, ch, jo, tr, dy, f) ∧ zAb f pe.toInt) ∨ 0 = 0 ∧ zKtr fb ln.toInt pe.toInt bg.toInt (.bad bg.toInt)) from ⟨(by first | assumption | omega | exact Or.inl (by decide) | exact Or.inr (by omega) | decide), (by first | assumption | omega | exact Or.inl (by decide) | exact Or.inr (by omega) | decide), (by first | assumption | omega | exact Or.inl (by decide) | exact Or.inr (by omega) | decide), (by first | assumption | omega | exact Or.inl (by decide) | exact Or.inr (by omega) | decide), (by first | assumption | omega | exact Or.inl (by decide) | exact Or.inr (by omega) | decide), (by first | assumption | omega | exact Or.inl (by decide) | exact Or.inr (by omega) | decide), (Or.inr ⟨rfl, zNN_n (by decide) (by omega) rfl hq7_k⟩)⟩) hP hD
set_option maxRecDepth 100000 in
set_option maxHeartbeats 4000000 in
theorem c_tt_readSharesC (l : Launch) (g : zG) (tt : Nat) (ta : Nat) (o : Nat) (ab : Nat) (sz : Int32) (ln : Int32) (kd : Int32) (bg : Int32) (nx : Int32) (fb : Nat → Int32) (a : Nat → Nat) (pe : Int32) (wo : Int32) (tx : Int32) (ch : Int32) (jo : Int32) (tr : Int32) (dy : Int32) (sd : Int32) (f : Nat → Nat → Int32) (b_pe : 0 ≤ pe.toInt ∧ pe.toInt ≤ 8) (b_wo : 0 ≤ wo.toInt ∧ wo.toInt ≤ 6) (rf : zZ4 f) (hln : 0 ≤ ln.toInt ∧ ln.toInt ≤ 400) (hnx : 0 ≤ nx.toInt ∧ nx.toInt ≤ 400) (hbg : 0 ≤ bg.toInt ∧ bg.toInt ≤ 400) (hkd : zKd kd.toInt bg.toInt nx.toInt) (hTk : zTk fb ln.toInt kd.toInt bg.toInt nx.toInt) (hab : zAb f pe.toInt) : zM' g l yX10_readShares (Cond.code yX10_readShares cX10_readShares 3 (some .boolean) :: zB) ({ frames := 2, cells := 0, slots := 0, locals := 45 } : Room) [.ref tt] [bTT g tt ta o, bTape g ta ab sz ln kd bg nx (-1) fb, bTown g o a pe wo tx ch jo tr dy sd f] (fun u : Int32 × Int32 × Int32 × Int32 × (Nat → Nat → Int32) × Int32 => (fun (kd2 : Int32) (bg2 : Int32) (nx2 : Int32) (ft2 : Int32) (f2 : Nat → Nat → Int32) (q : Int32) => some (.int q)) (u.1) (u.2.1) (u.2.2.1) (u.2.2.2.1) (u.2.2.2.2.1) (u.2.2.2.2.2)) (fun u : Int32 × Int32 × Int32 × Int32 × (Nat → Nat → Int32) × Int32 => (fun (kd2 : Int32) (bg2 : Int32) (nx2 : Int32) (ft2 : Int32) (f2 : Nat → Nat → Int32) (q : Int32) => (zZ4 f2) ∧ (-1 ≤ ft2.toInt) ∧ (0 ≤ nx2.toInt ∧ nx2.toInt ≤ 400) ∧ (0 ≤ bg2.toInt ∧ bg2.toInt ≤ 400) ∧ (zKd kd2.toInt bg2.toInt nx2.toInt) ∧ (zTk fb ln.toInt kd2.toInt bg2.toInt nx2.toInt) ∧ (q = 1 ∧ zTO (zKsh fb ln.toInt pe.toInt bg.toInt) bg2.toInt pe.toInt pe.toInt wo.toInt wo.toInt ∧ (-1) = ft2 ∧ (zTQ (zKsh fb ln.toInt pe.toInt bg.toInt) fb bg2.toInt (pe, wo, ch, jo, tr, dy, f) (pe, wo, ch, jo, tr, dy, f2) ∧ zAb f2 pe.toInt) ∨ q = 0 ∧ zKsh fb ln.toInt pe.toInt bg.toInt (.bad ft2.toInt))) (u.1) (u.2.1) (u.2.2.1) (u.2.2.2.1) (u.2.2.2.2.1) (u.2.2.2.2.2)) (fun u : Int32 × Int32 × Int32 × Int32 × (Nat → Nat → Int32) × Int32 => (fun (kd2 : Int32) (bg2 : Int32) (nx2 : Int32) (ft2 : Int32) (f2 : Nat → Nat → Int32) (q : Int32) => [bTT g tt ta o, bTape g ta ab sz ln kd2 bg2 nx2 ft2 fb, bTown g o a pe wo tx ch jo tr dy sd f2]) (u.1) (u.2.1) (u.2.2.1) (u.2.2.2.1) (u.2.2.2.2.1) (u.2.2.2.2.2)) := by
  refine zM'.of (cc := cX10_readShares) (maxL := 3) (rt := (some .boolean)) (by decide) rfl (Nat.le_of_ble_eq_true rfl) ?_
  intro p e s m args below meth c A ls St hr hlocks hin hK hT hA hP hD hS hl
  obtain ⟨hx, hb, hml, hown, hts⟩ := id St
  have hl : lv_has ls 3 [(0, .ref tt)] := hl
  refine lv_aload_n hx hb dX10_readShares_0 rfl (lv_at hl 0 rfl) ?_
  refine va_get (D := g.1) (ci := 8) (v := .ref ta) (C := RX10) (T := TX10) (N := 2) hx hb hts izRX10 hown hK hP 0 rfl rfl 0 (by decide) (hts _ k441) (fun x9 h9 => u_same (hts _ k442) x9 h9) rfl dX10_readShares_1 ?_
  refine lv_iconst (v := 0) hx hb dX10_readShares_4 (by decide) ?_
  refine lv_aload_n hx hb dX10_readShares_5 rfl (lv_at hl 0 rfl) ?_
  refine va_get (D := g.1) (ci := 8) (v := .ref o) (C := RX10) (T := TX10) (N := 2) hx hb hts izRX10 hown hK hP 0 rfl rfl 1 (by decide) (hts _ k439) (fun _ h9 => h9) rfl dX10_readShares_6 ?_
  refine va_get (D := g.1) (ci := 7) (v := .int pe) (C := RX9) (T := TX9) (N := 19) hx hb hts izRX9 hown hK hP 3 rfl rfl 0 (by decide) (hts _ k440) (fun _ h9 => h9) rfl dX10_readShares_9 ?_
  refine lv_iconst (v := 1) hx hb dX10_readShares_12 (by decide) ?_
  refine lv_isub hx hb dX10_readShares_13 ?_
  refine zg3 (zsubK (i := pe.toInt) (j := 1) (a' := (-1)) (b' := 7) rfl (by decide) b_pe.1 b_pe.2 (Int.le_refl _) (Int.le_refl _) (by decide)) (fun x_1 hx_1 => ?_)
  have hL0 : (0 : Int32).toInt = 0 := by decide
  refine mcallV' (g := g) (q0 := 0) (ci := 6) (As := [.int 0, .int x_1]) (rest := []) St hK hT hA hP hD hS hl.1 [1] [0, 2] rfl rfl rfl (c_t_numberF l g ta ab sz ln kd bg nx fb 0 x_1 hln hnx hbg hkd hTk) (cwV 2 hts (zgL (zl4 k445 k294 k295 k277) k273) rfl rfl rfl (by decide +kernel) ⟨Nat.le_of_ble_eq_true rfl, Nat.le_of_ble_eq_true rfl⟩) rfl rfl rfl rfl (Nat.le_of_ble_eq_true rfl) dX10_readShares_14 ⟨(Nat.le_of_ble_eq_true rfl), (Nat.le_of_ble_eq_true rfl)⟩ (fun u_ H locs hq7 hP hD hS => ?_)
  obtain ⟨kd2_2, bg2_3, nx2_4, ft2_5, q_6⟩ := u_
  replace hq7 : (-1 ≤ ft2_5.toInt) ∧ (0 ≤ nx2_4.toInt ∧ nx2_4.toInt ≤ 400) ∧ (0 ≤ bg2_3.toInt ∧ bg2_3.toInt ≤ 400) ∧ (zKd kd2_2.toInt bg2_3.toInt nx2_4.toInt) ∧ (zTk fb ln.toInt kd2_2.toInt bg2_3.toInt nx2_4.toInt) ∧ (zNu fb ln.toInt bg.toInt (0 : Int32).toInt x_1.toInt q_6 ∧ zMv fb ln.toInt bg.toInt bg2_3.toInt ∧ (-1) = ft2_5 ∨ q_6 = -1 ∧ (¬ ∃ v9, zNu fb ln.toInt bg.toInt (0 : Int32).toInt x_1.toInt v9) ∧ bg = ft2_5 ∧ kd = kd2_2 ∧ bg = bg2_3 ∧ nx = nx2_4) := hq7
  have hP : va_P g.1 vwCl (List.flatten [bTT g tt ta o, bTown g o a pe wo tx ch jo tr dy sd f, bTape g ta ab sz ln kd2_2 bg2_3 nx2_4 ft2_5 fb]) H := hP
  have hD : va_D A (List.flatten [bTT g tt ta o, bTown g o a pe wo tx ch jo tr dy sd f, bTape g ta ab sz ln kd2_2 bg2_3 nx2_4 ft2_5 fb]) := hD
  refine W.widen (k := 0) (n := 0) (Nat.le_of_ble_eq_true rfl) (Nat.le_of_ble_eq_true rfl) ?_
  refine W.eq (g2 := F0 m 17 ls [.int q_6]) rfl ?_
  obtain ⟨hq7_0, hq7_1, hq7_2, hq7_3, hq7_4, hq7_5⟩ := hq7
  rcases hq7_5 with ⟨hq7_k, hq7_km, rfl⟩ | ⟨rfl, hq7_k, rfl, rfl, rfl, rfl⟩
  · skip
    have w8 : 0 ≤ q_6.toInt ∧ q_6.toInt ≤ 7 := ⟨(by have h9 := hq7_k.2.2.1; omega), (by have h9 := hq7_k.2.2.2; omega)⟩
    refine lv_istore_n (lv' := [(1, .int q_6), (0, .ref tt)]) hx hb dX10_readShares_17 rfl hl (by decide) rfl (fun ls hl => ?_)
    refine lv_iload_n hx hb dX10_readShares_18 rfl (lv_at hl 0 rfl) ?_
    refine lv_iconst (v := (-1)) hx hb dX10_readShares_19 (by decide) ?_
    refine lv_icmp_ne (tgt := 25) hx hb dX10_readShares_20 (by decide) (fun cb9 => ?_) (fun cb9 => ?_)
    · skip
      have c9 : ¬ q_6.toInt = (-1) := zne cb9 rfl (by decide)
      refine lv_aload_n hx hb dX10_readShares_25 rfl (lv_at hl 1 rfl) ?_
      refine va_get (D := g.1) (ci := 8) (v := .ref ta) (C := RX10) (T := TX10) (N := 2) hx hb hts izRX10 hown hK hP 0 rfl rfl 0 (by decide) (hts _ k441) (fun x9 h9 => u_same (hts _ k442) x9 h9) rfl dX10_readShares_26 ?_
      refine lv_iconst (v := 0) hx hb dX10_readShares_29 (by decide) ?_
      refine lv_bipush (v := 99) hx hb dX10_readShares_30 (by decide) ?_
      have hL99 : (99 : Int32).toInt = 99 := by decide
      refine mcallV' (g := g) (q0 := 0) (ci := 6) (As := [.int 0, .int 99]) (rest := []) St hK hT hA hP hD hS hl.1 [2] [0, 1] rfl rfl rfl (c_t_numberF l g ta ab sz ln kd2_2 bg2_3 nx2_4 fb 0 99 hln hq7_1 hq7_2 hq7_3 hq7_4) (cwV 2 hts (zgL (zl4 k445 k294 k295 k277) k273) rfl rfl rfl (by decide +kernel) ⟨Nat.le_of_ble_eq_true rfl, Nat.le_of_ble_eq_true rfl⟩) rfl rfl rfl rfl (Nat.le_of_ble_eq_true rfl) dX10_readShares_32 ⟨(Nat.le_of_ble_eq_true rfl), (Nat.le_of_ble_eq_true rfl)⟩ (fun u_ H locs hq15 hP hD hS => ?_)
      obtain ⟨kd2_10, bg2_11, nx2_12, ft2_13, q_14⟩ := u_
      replace hq15 : (-1 ≤ ft2_13.toInt) ∧ (0 ≤ nx2_12.toInt ∧ nx2_12.toInt ≤ 400) ∧ (0 ≤ bg2_11.toInt ∧ bg2_11.toInt ≤ 400) ∧ (zKd kd2_10.toInt bg2_11.toInt nx2_12.toInt) ∧ (zTk fb ln.toInt kd2_10.toInt bg2_11.toInt nx2_12.toInt) ∧ (zNu fb ln.toInt bg2_3.toInt (0 : Int32).toInt (99 : Int32).toInt q_14 ∧ zMv fb ln.toInt bg2_3.toInt bg2_11.toInt ∧ (-1) = ft2_13 ∨ q_14 = -1 ∧ (¬ ∃ v9, zNu fb ln.toInt bg2_3.toInt (0 : Int32).toInt (99 : Int32).toInt v9) ∧ bg2_3 = ft2_13 ∧ kd2_2 = kd2_10 ∧ bg2_3 = bg2_11 ∧ nx2_4 = nx2_12) := hq15
      have hP : va_P g.1 vwCl (List.flatten [bTT g tt ta o, bTown g o a pe wo tx ch jo tr dy sd f, bTape g ta ab sz ln kd2_10 bg2_11 nx2_12 ft2_13 fb]) H := hP
      have hD : va_D A (List.flatten [bTT g tt ta o, bTown g o a pe wo tx ch jo tr dy sd f, bTape g ta ab sz ln kd2_10 bg2_11 nx2_12 ft2_13 fb]) := hD
      refine W.widen (k := 0) (n := 0) (Nat.le_of_ble_eq_true rfl) (Nat.le_of_ble_eq_true rfl) ?_
      refine W.eq (g2 := F0 m 35 ls [.int q_14]) rfl ?_
      obtain ⟨hq15_0, hq15_1, hq15_2, hq15_3, hq15_4, hq15_5⟩ := hq15
      rcases hq15_5 with ⟨hq15_k, hq15_km, rfl⟩ | ⟨rfl, hq15_k, rfl, rfl, rfl, rfl⟩
      · skip
        have w16 : 0 ≤ q_14.toInt ∧ q_14.toInt ≤ 99 := ⟨(by have h9 := hq15_k.2.2.1; omega), (by have h9 := hq15_k.2.2.2; omega)⟩
        refine lv_istore_n (lv' := [(2, .int q_14), (1, .int q_6), (0, .ref tt)]) hx hb dX10_readShares_35 rfl hl (by decide) rfl (fun ls hl => ?_)
        refine lv_iload_n hx hb dX10_readShares_36 rfl (lv_at hl 0 rfl) ?_
        refine lv_iconst (v := (-1)) hx hb dX10_readShares_37 (by decide) ?_
        refine lv_icmp_ne (tgt := 43) hx hb dX10_readShares_38 (by decide) (fun cb9 => ?_) (fun cb9 => ?_)
        · skip
          have c17 : ¬ q_14.toInt = (-1) := zne cb9 rfl (by decide)
          refine lv_aload_n hx hb dX10_readShares_43 rfl (lv_at hl 2 rfl) ?_
          refine va_get (D := g.1) (ci := 8) (v := .ref o) (C := RX10) (T := TX10) (N := 2) hx hb hts izRX10 hown hK hP 0 rfl rfl 1 (by decide) (hts _ k439) (fun _ h9 => h9) rfl dX10_readShares_44 ?_
          refine va_get (D := g.1) (ci := 7) (v := .ref (a 2)) (C := RX9) (T := TX9) (N := 19) hx hb hts izRX9 hown hK hP 1 rfl rfl 10 (by decide) (hts _ k467) (fun _ h9 => h9) rfl dX10_readShares_47 ?_
          refine lv_iload_n hx hb dX10_readShares_50 rfl (lv_at hl 1 rfl) ?_
          refine lv_iload_n hx hb dX10_readShares_51 rfl (lv_at hl 0 rfl) ?_
          refine va_iast hx hb hK hP hD hS 4 0 rfl rfl (zinK (a := 0) (b := 7) w8.1 w8.2 (by decide)) dX10_readShares_52 (fun H locs hP hD hS => ?_)
          obtain ⟨f18, rf18, ef18, hP, hD⟩ : ∃ f18 : Nat → Nat → Int32, zZ4 f18 ∧ f18 = zSet f 2 q_6.toInt.toNat q_14 ∧ va_P g.1 vwCl (List.flatten [bTT g tt ta o, bTown g o a pe wo tx ch jo tr dy sd f18, bTape g ta ab sz ln kd2_10 bg2_11 nx2_12 (-1) fb]) H ∧ va_D A (List.flatten [bTT g tt ta o, bTown g o a pe wo tx ch jo tr dy sd f18, bTape g ta ab sz ln kd2_10 bg2_11 nx2_12 (-1) fb]) := ⟨zu f 2 (upd (f 2) q_6.toNatClampNeg q_14), (zZ4_u rf (by decide)), rfl, hP, hD⟩
          refine lv_iconst (v := 1) hx hb dX10_readShares_53 (by decide) ?_
          have hP : va_P g.1 vwCl (List.flatten [bTT g tt ta o, bTown g o a pe wo tx ch jo tr dy sd f18, bTape g ta ab sz ln kd2_10 bg2_11 nx2_12 (-1) fb]) H := hP
          have hD : va_D A (List.flatten [bTT g tt ta o, bTown g o a pe wo tx ch jo tr dy sd f18, bTape g ta ab sz ln kd2_10 bg2_11 nx2_12 (-1) fb]) := hD
          obtain ⟨hP, hD⟩ := zord (g := g) (Bs' := [bTT g tt ta o, bTape g ta ab sz ln kd2_10 bg2_11 nx2_12 (-1) fb, bTown g o a pe wo tx ch jo tr dy sd f18]) [0, 2, 1] rfl rfl hP hD
          exact mret_z hx hb hr hlocks hS (Nat.le_of_ble_eq_true rfl) (Nat.le_of_ble_eq_true rfl) dX10_readShares_54 (kd2_10, bg2_11, nx2_12, -1, f18, (1 : Int32)) rfl (by decide) (show (zZ4 f18) ∧ (-1 ≤ ((-1) : Int32).toInt) ∧ (0 ≤ nx2_12.toInt ∧ nx2_12.toInt ≤ 400) ∧ (0 ≤ bg2_11.toInt ∧ bg2_11.toInt ≤ 400) ∧ (zKd kd2_10.toInt bg2_11.toInt nx2_12.toInt) ∧ (zTk fb ln.toInt kd2_10.toInt bg2_11.toInt nx2_12.toInt) ∧ (1 = 1 ∧ zTO (zKsh fb ln.toInt pe.toInt bg.toInt) bg2_11.toInt pe.toInt pe.toInt wo.toInt wo.toInt ∧ (-1) = (-1) ∧ (zTQ (zKsh fb ln.toInt pe.toInt bg.toInt) fb bg2_11.toInt (pe, wo, ch, jo, tr, dy, f) (pe, wo, ch, jo, tr, dy, f18) ∧ zAb f18 pe.toInt) ∨ 1 = 0 ∧ zKsh fb ln.toInt pe.toInt bg.toInt (.bad ((-1) : Int32).toInt)) from ⟨(by first | assumption | omega | exact Or.inl (by decide) | exact Or.inr (by omega) | decide), (by first | assumption | omega | exact Or.inl (by decide) | exact Or.inr (by omega) | decide), (by first | assumption | omega | exact Or.inl (by decide) | exact Or.inr (by omega) | decide), (by first | assumption | omega | exact Or.inl (by decide) | exact Or.inr (by omega) | decide), (by first | assumption | omega | exact Or.inl (by decide) | exact Or.inr (by omega) | decide), (by first | assumption | omega | exact Or.inl (by decide) | exact Or.inr (by omega) | decide), (Or.inl ⟨rfl, ⟨(3, q_6.toInt, q_14.toInt, 0), zNN_y (by decide) (by omega) hq7_k hq7_km (zNN_y (by decide) (by decide) hq15_k hq15_km rfl), zcp_n (by decide) rfl, zcw_n (by decide) rfl⟩, rfl, ⟨⟨(3, q_6.toInt, q_14.toInt, 0), zNN_y (by decide) (by omega) hq7_k hq7_km (zNN_y (by decide) (by decide) hq15_k hq15_km rfl), zSR_3 (zoi _) (zEq_o ef18)⟩, (by rw [ef18]; exact zAb_5 hab (zSet_r _ _ _ _ (by decide)))⟩⟩)⟩) hP hD
        · skip
          exact absurd (show q_14.toInt = (-1) from zeq cb9 rfl (by decide)) (zDeq2 (a := 0) (b := (-1)) w16.1 (Int.le_refl _) (by decide))
      · skip
        refine lv_istore_n (lv' := [(2, .int (-1)), (1, .int q_6), (0, .ref tt)]) hx hb dX10_readShares_35 rfl hl (by decide) rfl (fun ls hl => ?_)
        refine lv_iload_n hx hb dX10_readShares_36 rfl (lv_at hl 0 rfl) ?_
        refine lv_iconst (v := (-1)) hx hb dX10_readShares_37 (by decide) ?_
        refine lv_icmp_ne (tgt := 43) hx hb dX10_readShares_38 (by decide) (fun c20 => absurd (by decide) c20) (fun _ => ?_)
        refine lv_iconst (v := 0) hx hb dX10_readShares_41 (by decide) ?_
        have hP : va_P g.1 vwCl (List.flatten [bTT g tt ta o, bTown g o a pe wo tx ch jo tr dy sd f, bTape g ta ab sz ln kd2_2 bg2_3 nx2_4 bg2_3 fb]) H := hP
        have hD : va_D A (List.flatten [bTT g tt ta o, bTown g o a pe wo tx ch jo tr dy sd f, bTape g ta ab sz ln kd2_2 bg2_3 nx2_4 bg2_3 fb]) := hD
        obtain ⟨hP, hD⟩ := zord (g := g) (Bs' := [bTT g tt ta o, bTape g ta ab sz ln kd2_2 bg2_3 nx2_4 bg2_3 fb, bTown g o a pe wo tx ch jo tr dy sd f]) [0, 2, 1] rfl rfl hP hD
        exact mret_z hx hb hr hlocks hS (Nat.le_of_ble_eq_true rfl) (Nat.le_of_ble_eq_true rfl) dX10_readShares_42 (kd2_2, bg2_3, nx2_4, bg2_3, f, (0 : Int32)) rfl (by decide) (show (zZ4 f) ∧ (-1 ≤ bg2_3.toInt) ∧ (0 ≤ nx2_4.toInt ∧ nx2_4.toInt ≤ 400) ∧ (0 ≤ bg2_3.toInt ∧ bg2_3.toInt ≤ 400) ∧ (zKd kd2_2.toInt bg2_3.toInt nx2_4.toInt) ∧ (zTk fb ln.toInt kd2_2.toInt bg2_3.toInt nx2_4.toInt) ∧ (0 = 1 ∧ zTO (zKsh fb ln.toInt pe.toInt bg.toInt) bg2_3.toInt pe.toInt pe.toInt wo.toInt wo.toInt ∧ (-1) = bg2_3 ∧ (zTQ (zKsh fb ln.toInt pe.toInt bg.toInt) fb bg2_3.toInt (pe, wo, ch, jo, tr, dy, f) (pe, wo, ch, jo, tr, dy, f) ∧ zAb f pe.toInt) ∨ 0 = 0 ∧ zKsh fb ln.toInt pe.toInt bg.toInt (.bad bg2_3.toInt)) from ⟨(by first | assumption | omega | exact Or.inl (by decide) | exact Or.inr (by omega) | decide), (by first | assumption | omega | exact Or.inl (by decide) | exact Or.inr (by omega) | decide), (by first | assumption | omega | exact Or.inl (by decide) | exact Or.inr (by omega) | decide), (by first | assumption | omega | exact Or.inl (by decide) | exact Or.inr (by omega) | decide), (by first | assumption | omega | exact Or.inl (by decide) | exact Or.inr (by omega) | decide), (by first | assumption | omega | exact Or.inl (by decide) | exact Or.inr (by omega) | decide), (Or.inr ⟨rfl, zNN_y (by decide) (by omega) hq7_k hq7_km (zNN_n (by decide) (by decide) rfl hq15_k)⟩)⟩) hP hD
    · skip
      exact absurd (show q_6.toInt = (-1) from zeq cb9 rfl (by decide)) (zDeq2 (a := 0) (b := (-1)) w8.1 (Int.le_refl _) (by decide))
  · skip
    refine lv_istore_n (lv' := [(1, .int (-1)), (0, .ref tt)]) hx hb dX10_readShares_17 rfl hl (by decide) rfl (fun ls hl => ?_)
    refine lv_iload_n hx hb dX10_readShares_18 rfl (lv_at hl 0 rfl) ?_
    refine lv_iconst (v := (-1)) hx hb dX10_readShares_19 (by decide) ?_
    refine lv_icmp_ne (tgt := 25) hx hb dX10_readShares_20 (by decide) (fun c22 => absurd (by decide) c22) (fun _ => ?_)
    refine lv_iconst (v := 0) hx hb dX10_readShares_23 (by decide) ?_
    have hP : va_P g.1 vwCl (List.flatten [bTT g tt ta o, bTown g o a pe wo tx ch jo tr dy sd f, bTape g ta ab sz ln kd bg nx bg fb]) H := hP
    have hD : va_D A (List.flatten [bTT g tt ta o, bTown g o a pe wo tx ch jo tr dy sd f, bTape g ta ab sz ln kd bg nx bg fb]) := hD
    obtain ⟨hP, hD⟩ := zord (g := g) (Bs' := [bTT g tt ta o, bTape g ta ab sz ln kd bg nx bg fb, bTown g o a pe wo tx ch jo tr dy sd f]) [0, 2, 1] rfl rfl hP hD
    exact mret_z hx hb hr hlocks hS (Nat.le_of_ble_eq_true rfl) (Nat.le_of_ble_eq_true rfl) dX10_readShares_24 (kd, bg, nx, bg, f, (0 : Int32)) rfl (by decide) (show (zZ4 f) ∧ (-1 ≤ bg.toInt) ∧ (0 ≤ nx.toInt ∧ nx.toInt ≤ 400) ∧ (0 ≤ bg.toInt ∧ bg.toInt ≤ 400) ∧ (zKd kd.toInt bg.toInt nx.toInt) ∧ (zTk fb ln.toInt kd.toInt bg.toInt nx.toInt) ∧ (0 = 1 ∧ zTO (zKsh fb ln.toInt pe.toInt bg.toInt) bg.toInt pe.toInt pe.toInt wo.toInt wo.toInt ∧ (-1) = bg ∧ (zTQ (zKsh fb ln.toInt pe.toInt bg.toInt) fb bg.toInt (pe, wo, ch, jo, tr, dy, f) (pe, wo, ch, jo, tr, dy, f) ∧ zAb f pe.toInt) ∨ 0 = 0 ∧ zKsh fb ln.toInt pe.toInt bg.toInt (.bad bg.toInt)) from ⟨(by first | assumption | omega | exact Or.inl (by decide) | exact Or.inr (by omega) | decide), (by first | assumption | omega | exact Or.inl (by decide) | exact Or.inr (by omega) | decide), (by first | assumption | omega | exact Or.inl (by decide) | exact Or.inr (by omega) | decide), (by first | assumption | omega | exact Or.inl (by decide) | exact Or.inr (by omega) | decide), (by first | assumption | omega | exact Or.inl (by decide) | exact Or.inr (by omega) | decide), (by first | assumption | omega | exact Or.inl (by decide) | exact Or.inr (by omega) | decide), (Or.inr ⟨rfl, zNN_n (by decide) (by omega) rfl hq7_k⟩)⟩) hP hD
set_option maxRecDepth 100000 in
set_option maxHeartbeats 4000000 in
theorem c_tt_readLineC (l : Launch) (g : zG) (tt : Nat) (ta : Nat) (o : Nat) (ab : Nat) (sz : Int32) (ln : Int32) (kd : Int32) (bg : Int32) (nx : Int32) (fb : Nat → Int32) (a : Nat → Nat) (pe : Int32) (wo : Int32) (tx : Int32) (ch : Int32) (jo : Int32) (tr : Int32) (dy : Int32) (sd : Int32) (f : Nat → Nat → Int32) (b_pe : 0 ≤ pe.toInt ∧ pe.toInt ≤ 8) (b_wo : 0 ≤ wo.toInt ∧ wo.toInt ≤ 6) (rf : zZ4 f) (hln : 0 ≤ ln.toInt ∧ ln.toInt ≤ 400) (hnx : 0 ≤ nx.toInt ∧ nx.toInt ≤ 400) (hbg : 0 ≤ bg.toInt ∧ bg.toInt ≤ 400) (hkd : zKd kd.toInt bg.toInt nx.toInt) (hTk : zTk fb ln.toInt kd.toInt bg.toInt nx.toInt) (hab : zAb f pe.toInt) : zM' g l yX10_readLine (Cond.code yX10_readLine cX10_readLine 2 (some .boolean) :: zB) ({ frames := 8, cells := 0, slots := 0, locals := 172 } : Room) [.ref tt] [bTT g tt ta o, bTape g ta ab sz ln kd bg nx (-1) fb, bTown g o a pe wo tx ch jo tr dy sd f] (fun u : Int32 × Int32 × Int32 × Int32 × Int32 × Int32 × Int32 × Int32 × Int32 × Int32 × (Nat → Nat → Int32) × Int32 => (fun (kd2 : Int32) (bg2 : Int32) (nx2 : Int32) (ft2 : Int32) (pe2 : Int32) (wo2 : Int32) (ch2 : Int32) (jo2 : Int32) (tr2 : Int32) (dy2 : Int32) (f2 : Nat → Nat → Int32) (q : Int32) => some (.int q)) (u.1) (u.2.1) (u.2.2.1) (u.2.2.2.1) (u.2.2.2.2.1) (u.2.2.2.2.2.1) (u.2.2.2.2.2.2.1) (u.2.2.2.2.2.2.2.1) (u.2.2.2.2.2.2.2.2.1) (u.2.2.2.2.2.2.2.2.2.1) (u.2.2.2.2.2.2.2.2.2.2.1) (u.2.2.2.2.2.2.2.2.2.2.2)) (fun u : Int32 × Int32 × Int32 × Int32 × Int32 × Int32 × Int32 × Int32 × Int32 × Int32 × (Nat → Nat → Int32) × Int32 => (fun (kd2 : Int32) (bg2 : Int32) (nx2 : Int32) (ft2 : Int32) (pe2 : Int32) (wo2 : Int32) (ch2 : Int32) (jo2 : Int32) (tr2 : Int32) (dy2 : Int32) (f2 : Nat → Nat → Int32) (q : Int32) => (0 ≤ pe2.toInt ∧ pe2.toInt ≤ 8) ∧ (0 ≤ wo2.toInt ∧ wo2.toInt ≤ 6) ∧ (zZ4 f2) ∧ (-1 ≤ ft2.toInt) ∧ (0 ≤ nx2.toInt ∧ nx2.toInt ≤ 400) ∧ (0 ≤ bg2.toInt ∧ bg2.toInt ≤ 400) ∧ (zKd kd2.toInt bg2.toInt nx2.toInt) ∧ (zTk fb ln.toInt kd2.toInt bg2.toInt nx2.toInt) ∧ (q = 1 ∧ zTO (zTLine fb ln.toInt pe.toInt wo.toInt bg.toInt) bg2.toInt pe.toInt pe2.toInt wo.toInt wo2.toInt ∧ (-1) = ft2 ∧ (zTQ (zTLine fb ln.toInt pe.toInt wo.toInt bg.toInt) fb bg2.toInt (pe, wo, ch, jo, tr, dy, f) (pe2, wo2, ch2, jo2, tr2, dy2, f2) ∧ zAb f2 pe2.toInt) ∨ q = 0 ∧ zTLine fb ln.toInt pe.toInt wo.toInt bg.toInt (.bad ft2.toInt))) (u.1) (u.2.1) (u.2.2.1) (u.2.2.2.1) (u.2.2.2.2.1) (u.2.2.2.2.2.1) (u.2.2.2.2.2.2.1) (u.2.2.2.2.2.2.2.1) (u.2.2.2.2.2.2.2.2.1) (u.2.2.2.2.2.2.2.2.2.1) (u.2.2.2.2.2.2.2.2.2.2.1) (u.2.2.2.2.2.2.2.2.2.2.2)) (fun u : Int32 × Int32 × Int32 × Int32 × Int32 × Int32 × Int32 × Int32 × Int32 × Int32 × (Nat → Nat → Int32) × Int32 => (fun (kd2 : Int32) (bg2 : Int32) (nx2 : Int32) (ft2 : Int32) (pe2 : Int32) (wo2 : Int32) (ch2 : Int32) (jo2 : Int32) (tr2 : Int32) (dy2 : Int32) (f2 : Nat → Nat → Int32) (q : Int32) => [bTT g tt ta o, bTape g ta ab sz ln kd2 bg2 nx2 ft2 fb, bTown g o a pe2 wo2 tx ch2 jo2 tr2 dy2 sd f2]) (u.1) (u.2.1) (u.2.2.1) (u.2.2.2.1) (u.2.2.2.2.1) (u.2.2.2.2.2.1) (u.2.2.2.2.2.2.1) (u.2.2.2.2.2.2.2.1) (u.2.2.2.2.2.2.2.2.1) (u.2.2.2.2.2.2.2.2.2.1) (u.2.2.2.2.2.2.2.2.2.2.1) (u.2.2.2.2.2.2.2.2.2.2.2)) := by
  refine zM'.of (cc := cX10_readLine) (maxL := 2) (rt := (some .boolean)) (by decide) rfl (Nat.le_of_ble_eq_true rfl) ?_
  intro p e s m args below meth c A ls St hr hlocks hin hK hT hA hP hD hS hl
  obtain ⟨hx, hb, hml, hown, hts⟩ := id St
  have hl : lv_has ls 2 [(0, .ref tt)] := hl
  refine lv_aload_n hx hb dX10_readLine_0 rfl (lv_at hl 0 rfl) ?_
  refine va_get (D := g.1) (ci := 8) (v := .ref ta) (C := RX10) (T := TX10) (N := 2) hx hb hts izRX10 hown hK hP 0 rfl rfl 0 (by decide) (hts _ k441) (fun x9 h9 => u_same (hts _ k442) x9 h9) rfl dX10_readLine_1 ?_
  refine va_ldcS (q := g.2 38) hx hb hown (zra14 hT.2.1) dX10_readLine_4 ?_
  refine mcallV' (g := g) (q0 := 0) (ci := 6) (As := [.ref (g.2 38)]) (rest := []) St hK hT hA hP hD hS hl.1 [1] [0, 2] rfl rfl rfl (c_t_isWordF l g ta ab sz ln kd bg nx (-1) fb (g.2 38) 14 zqa14 hln hnx hbg hkd hTk rfl zla14 zna14 (zlitB zla14)) (cwV 1 hts (zgL (zl4 k472 k282 k283 k277) k268) rfl rfl rfl (by decide +kernel) ⟨Nat.le_of_ble_eq_true rfl, Nat.le_of_ble_eq_true rfl⟩) rfl rfl rfl rfl (Nat.le_of_ble_eq_true rfl) dX10_readLine_6 ⟨(Nat.le_of_ble_eq_true rfl), (Nat.le_of_ble_eq_true rfl)⟩ (fun r_1 H locs hq2 hP hD hS => ?_)
  replace hq2 : (r_1 = 1 ∧ zisW fb ln.toInt bg.toInt zqa14.2.2.2 ∨ r_1 = 0 ∧ ¬ zisW fb ln.toInt bg.toInt zqa14.2.2.2) := hq2
  replace hP : va_P g.1 vwCl (List.flatten [bTT g tt ta o, bTown g o a pe wo tx ch jo tr dy sd f, bTape g ta ab sz ln kd bg nx (-1) fb]) H := hP
  replace hD : va_D A (List.flatten [bTT g tt ta o, bTown g o a pe wo tx ch jo tr dy sd f, bTape g ta ab sz ln kd bg nx (-1) fb]) := hD
  refine W.widen (k := 0) (n := 0) (Nat.le_of_ble_eq_true rfl) (Nat.le_of_ble_eq_true rfl) ?_
  refine W.eq (g2 := F0 m 9 ls [.int r_1]) rfl ?_
  rcases hq2 with ⟨rfl, hq2_k⟩ | ⟨rfl, hq2_k⟩
  · skip
    refine lv_if_eq (tgt := 17) hx hb dX10_readLine_9 (by decide) (fun c3 => absurd c3 (by decide)) (fun _ => ?_)
    refine lv_aload_n hx hb dX10_readLine_12 rfl (lv_at hl 0 rfl) ?_
    refine mcallV' (g := g) (q0 := 0) (ci := 8) (As := []) (rest := []) St hK hT hA hP hD hS hl.1 [0, 2, 1] [] rfl rfl rfl (c_tt_readPersonC l g tt ta o ab sz ln kd bg nx fb a pe wo tx ch jo tr dy sd f b_pe b_wo rf hln hnx hbg hkd hTk hab) (cwV 0 hts (zgL (zl4 k473 k474 k475 k476) k453) rfl rfl rfl (by decide +kernel) ⟨Nat.le_of_ble_eq_true rfl, Nat.le_of_ble_eq_true rfl⟩) rfl rfl rfl rfl (Nat.le_of_ble_eq_true rfl) dX10_readLine_13 ⟨(Nat.le_of_ble_eq_true rfl), (Nat.le_of_ble_eq_true rfl)⟩ (fun u_ H locs hq11 hP hD hS => ?_)
    obtain ⟨kd2_4, bg2_5, nx2_6, ft2_7, pe2_8, f2_9, q_10⟩ := u_
    replace hq11 : (0 ≤ pe2_8.toInt ∧ pe2_8.toInt ≤ 8) ∧ (zZ4 f2_9) ∧ (-1 ≤ ft2_7.toInt) ∧ (0 ≤ nx2_6.toInt ∧ nx2_6.toInt ≤ 400) ∧ (0 ≤ bg2_5.toInt ∧ bg2_5.toInt ≤ 400) ∧ (zKd kd2_4.toInt bg2_5.toInt nx2_6.toInt) ∧ (zTk fb ln.toInt kd2_4.toInt bg2_5.toInt nx2_6.toInt) ∧ (q_10 = 1 ∧ zTO (zTPerson fb ln.toInt pe.toInt bg.toInt) bg2_5.toInt pe.toInt pe2_8.toInt wo.toInt wo.toInt ∧ (-1) = ft2_7 ∧ (zTQ (zTPerson fb ln.toInt pe.toInt bg.toInt) fb bg2_5.toInt (pe, wo, ch, jo, tr, dy, f) (pe2_8, wo, ch, jo, tr, dy, f2_9) ∧ zAb f2_9 pe2_8.toInt) ∨ q_10 = 0 ∧ zTPerson fb ln.toInt pe.toInt bg.toInt (.bad ft2_7.toInt)) := hq11
    replace hP : va_P g.1 vwCl (List.flatten [bTT g tt ta o, bTape g ta ab sz ln kd2_4 bg2_5 nx2_6 ft2_7 fb, bTown g o a pe2_8 wo tx ch jo tr dy sd f2_9]) H := hP
    replace hD : va_D A (List.flatten [bTT g tt ta o, bTape g ta ab sz ln kd2_4 bg2_5 nx2_6 ft2_7 fb, bTown g o a pe2_8 wo tx ch jo tr dy sd f2_9]) := hD
    refine W.widen (k := 0) (n := 0) (Nat.le_of_ble_eq_true rfl) (Nat.le_of_ble_eq_true rfl) ?_
    refine W.eq (g2 := F0 m 16 ls [.int q_10]) rfl ?_
    obtain ⟨hq11_0, rf2_9, hq11_2, hq11_3, hq11_4, hq11_5, hq11_6, hq11_7⟩ := hq11
    rcases hq11_7 with ⟨rfl, hq11_k, rfl, hq11_kc⟩ | ⟨rfl, hq11_k⟩
    · skip
      replace hP : va_P g.1 vwCl (List.flatten [bTT g tt ta o, bTape g ta ab sz ln kd2_4 bg2_5 nx2_6 (-1) fb, bTown g o a pe2_8 wo tx ch jo tr dy sd f2_9]) H := hP
      replace hD : va_D A (List.flatten [bTT g tt ta o, bTape g ta ab sz ln kd2_4 bg2_5 nx2_6 (-1) fb, bTown g o a pe2_8 wo tx ch jo tr dy sd f2_9]) := hD
      exact mret_z hx hb hr hlocks hS (Nat.le_of_ble_eq_true rfl) (Nat.le_of_ble_eq_true rfl) dX10_readLine_16 (kd2_4, bg2_5, nx2_6, -1, pe2_8, wo, ch, jo, tr, dy, f2_9, (1 : Int32)) rfl (by decide) (show (0 ≤ pe2_8.toInt ∧ pe2_8.toInt ≤ 8) ∧ (0 ≤ wo.toInt ∧ wo.toInt ≤ 6) ∧ (zZ4 f2_9) ∧ (-1 ≤ ((-1) : Int32).toInt) ∧ (0 ≤ nx2_6.toInt ∧ nx2_6.toInt ≤ 400) ∧ (0 ≤ bg2_5.toInt ∧ bg2_5.toInt ≤ 400) ∧ (zKd kd2_4.toInt bg2_5.toInt nx2_6.toInt) ∧ (zTk fb ln.toInt kd2_4.toInt bg2_5.toInt nx2_6.toInt) ∧ (1 = 1 ∧ zTO (zTLine fb ln.toInt pe.toInt wo.toInt bg.toInt) bg2_5.toInt pe.toInt pe2_8.toInt wo.toInt wo.toInt ∧ (-1) = (-1) ∧ (zTQ (zTLine fb ln.toInt pe.toInt wo.toInt bg.toInt) fb bg2_5.toInt (pe, wo, ch, jo, tr, dy, f) (pe2_8, wo, ch, jo, tr, dy, f2_9) ∧ zAb f2_9 pe2_8.toInt) ∨ 1 = 0 ∧ zTLine fb ln.toInt pe.toInt wo.toInt bg.toInt (.bad ((-1) : Int32).toInt)) from ⟨(by first | assumption | omega | exact Or.inl (by decide) | exact Or.inr (by omega) | decide), (by first | assumption | omega | exact Or.inl (by decide) | exact Or.inr (by omega) | decide), (by first | assumption | omega | exact Or.inl (by decide) | exact Or.inr (by omega) | decide), (by first | assumption | omega | exact Or.inl (by decide) | exact Or.inr (by omega) | decide), (by first | assumption | omega | exact Or.inl (by decide) | exact Or.inr (by omega) | decide), (by first | assumption | omega | exact Or.inl (by decide) | exact Or.inr (by omega) | decide), (by first | assumption | omega | exact Or.inl (by decide) | exact Or.inr (by omega) | decide), (by first | assumption | omega | exact Or.inl (by decide) | exact Or.inr (by omega) | decide), (Or.inl ⟨rfl, zTO_i hq11_k (fun _ h9 => zTL_k (k := 0) (by decide) hq2_k h9), rfl, ⟨zTQ_i hq11_kc.1 (fun _ h9 => zTL_k (k := 0) (by decide) hq2_k h9), hq11_kc.2⟩⟩)⟩) hP hD
    · skip
      replace hP : va_P g.1 vwCl (List.flatten [bTT g tt ta o, bTape g ta ab sz ln kd2_4 bg2_5 nx2_6 ft2_7 fb, bTown g o a pe2_8 wo tx ch jo tr dy sd f2_9]) H := hP
      replace hD : va_D A (List.flatten [bTT g tt ta o, bTape g ta ab sz ln kd2_4 bg2_5 nx2_6 ft2_7 fb, bTown g o a pe2_8 wo tx ch jo tr dy sd f2_9]) := hD
      exact mret_z hx hb hr hlocks hS (Nat.le_of_ble_eq_true rfl) (Nat.le_of_ble_eq_true rfl) dX10_readLine_16 (kd2_4, bg2_5, nx2_6, ft2_7, pe2_8, wo, ch, jo, tr, dy, f2_9, (0 : Int32)) rfl (by decide) (show (0 ≤ pe2_8.toInt ∧ pe2_8.toInt ≤ 8) ∧ (0 ≤ wo.toInt ∧ wo.toInt ≤ 6) ∧ (zZ4 f2_9) ∧ (-1 ≤ ft2_7.toInt) ∧ (0 ≤ nx2_6.toInt ∧ nx2_6.toInt ≤ 400) ∧ (0 ≤ bg2_5.toInt ∧ bg2_5.toInt ≤ 400) ∧ (zKd kd2_4.toInt bg2_5.toInt nx2_6.toInt) ∧ (zTk fb ln.toInt kd2_4.toInt bg2_5.toInt nx2_6.toInt) ∧ (0 = 1 ∧ zTO (zTLine fb ln.toInt pe.toInt wo.toInt bg.toInt) bg2_5.toInt pe.toInt pe2_8.toInt wo.toInt wo.toInt ∧ (-1) = ft2_7 ∧ (zTQ (zTLine fb ln.toInt pe.toInt wo.toInt bg.toInt) fb bg2_5.toInt (pe, wo, ch, jo, tr, dy, f) (pe2_8, wo, ch, jo, tr, dy, f2_9) ∧ zAb f2_9 pe2_8.toInt) ∨ 0 = 0 ∧ zTLine fb ln.toInt pe.toInt wo.toInt bg.toInt (.bad ft2_7.toInt)) from ⟨(by first | assumption | omega | exact Or.inl (by decide) | exact Or.inr (by omega) | decide), (by first | assumption | omega | exact Or.inl (by decide) | exact Or.inr (by omega) | decide), (by first | assumption | omega | exact Or.inl (by decide) | exact Or.inr (by omega) | decide), (by first | assumption | omega | exact Or.inl (by decide) | exact Or.inr (by omega) | decide), (by first | assumption | omega | exact Or.inl (by decide) | exact Or.inr (by omega) | decide), (by first | assumption | omega | exact Or.inl (by decide) | exact Or.inr (by omega) | decide), (by first | assumption | omega | exact Or.inl (by decide) | exact Or.inr (by omega) | decide), (by first | assumption | omega | exact Or.inl (by decide) | exact Or.inr (by omega) | decide), (Or.inr ⟨rfl, zTL_k (k := 0) (by decide) hq2_k hq11_k⟩)⟩) hP hD
  · skip
    refine lv_if_eq (tgt := 17) hx hb dX10_readLine_9 (by decide) (fun _ => ?_) (fun c12 => absurd (by decide) c12)
    refine lv_aload_n hx hb dX10_readLine_17 rfl (lv_at hl 0 rfl) ?_
    refine va_get (D := g.1) (ci := 8) (v := .ref ta) (C := RX10) (T := TX10) (N := 2) hx hb hts izRX10 hown hK hP 0 rfl rfl 0 (by decide) (hts _ k441) (fun x9 h9 => u_same (hts _ k442) x9 h9) rfl dX10_readLine_18 ?_
    refine va_ldcS (q := g.2 40) hx hb hown (zra15 hT.2.1) dX10_readLine_21 ?_
    refine mcallV' (g := g) (q0 := 0) (ci := 6) (As := [.ref (g.2 40)]) (rest := []) St hK hT hA hP hD hS hl.1 [2] [0, 1] rfl rfl rfl (c_t_isWordF l g ta ab sz ln kd bg nx (-1) fb (g.2 40) 15 zqa15 hln hnx hbg hkd hTk rfl zla15 zna15 (zlitB zla15)) (cwV 1 hts (zgL (zl4 k472 k282 k283 k277) k268) rfl rfl rfl (by decide +kernel) ⟨Nat.le_of_ble_eq_true rfl, Nat.le_of_ble_eq_true rfl⟩) rfl rfl rfl rfl (Nat.le_of_ble_eq_true rfl) dX10_readLine_23 ⟨(Nat.le_of_ble_eq_true rfl), (Nat.le_of_ble_eq_true rfl)⟩ (fun r_13 H locs hq14 hP hD hS => ?_)
    replace hq14 : (r_13 = 1 ∧ zisW fb ln.toInt bg.toInt zqa15.2.2.2 ∨ r_13 = 0 ∧ ¬ zisW fb ln.toInt bg.toInt zqa15.2.2.2) := hq14
    replace hP : va_P g.1 vwCl (List.flatten [bTT g tt ta o, bTown g o a pe wo tx ch jo tr dy sd f, bTape g ta ab sz ln kd bg nx (-1) fb]) H := hP
    replace hD : va_D A (List.flatten [bTT g tt ta o, bTown g o a pe wo tx ch jo tr dy sd f, bTape g ta ab sz ln kd bg nx (-1) fb]) := hD
    refine W.widen (k := 0) (n := 0) (Nat.le_of_ble_eq_true rfl) (Nat.le_of_ble_eq_true rfl) ?_
    refine W.eq (g2 := F0 m 26 ls [.int r_13]) rfl ?_
    rcases hq14 with ⟨rfl, hq14_k⟩ | ⟨rfl, hq14_k⟩
    · skip
      refine lv_if_eq (tgt := 34) hx hb dX10_readLine_26 (by decide) (fun c15 => absurd c15 (by decide)) (fun _ => ?_)
      refine lv_aload_n hx hb dX10_readLine_29 rfl (lv_at hl 0 rfl) ?_
      refine mcallV' (g := g) (q0 := 0) (ci := 8) (As := []) (rest := []) St hK hT hA hP hD hS hl.1 [0, 2, 1] [] rfl rfl rfl (c_tt_readWorkC l g tt ta o ab sz ln kd bg nx fb a pe wo tx ch jo tr dy sd f b_pe b_wo rf hln hnx hbg hkd hTk hab) (cwV 0 hts (zgL (zl4 k477 k478 k479 k476) k459) rfl rfl rfl (by decide +kernel) ⟨Nat.le_of_ble_eq_true rfl, Nat.le_of_ble_eq_true rfl⟩) rfl rfl rfl rfl (Nat.le_of_ble_eq_true rfl) dX10_readLine_30 ⟨(Nat.le_of_ble_eq_true rfl), (Nat.le_of_ble_eq_true rfl)⟩ (fun u_ H locs hq23 hP hD hS => ?_)
      obtain ⟨kd2_16, bg2_17, nx2_18, ft2_19, wo2_20, f2_21, q_22⟩ := u_
      replace hq23 : (0 ≤ wo2_20.toInt ∧ wo2_20.toInt ≤ 6) ∧ (zZ4 f2_21) ∧ (-1 ≤ ft2_19.toInt) ∧ (0 ≤ nx2_18.toInt ∧ nx2_18.toInt ≤ 400) ∧ (0 ≤ bg2_17.toInt ∧ bg2_17.toInt ≤ 400) ∧ (zKd kd2_16.toInt bg2_17.toInt nx2_18.toInt) ∧ (zTk fb ln.toInt kd2_16.toInt bg2_17.toInt nx2_18.toInt) ∧ (q_22 = 1 ∧ zTO (zTWork fb ln.toInt wo.toInt bg.toInt) bg2_17.toInt pe.toInt pe.toInt wo.toInt wo2_20.toInt ∧ (-1) = ft2_19 ∧ (zTQ (zTWork fb ln.toInt wo.toInt bg.toInt) fb bg2_17.toInt (pe, wo, ch, jo, tr, dy, f) (pe, wo2_20, ch, jo, tr, dy, f2_21) ∧ zAb f2_21 pe.toInt) ∨ q_22 = 0 ∧ zTWork fb ln.toInt wo.toInt bg.toInt (.bad ft2_19.toInt)) := hq23
      replace hP : va_P g.1 vwCl (List.flatten [bTT g tt ta o, bTape g ta ab sz ln kd2_16 bg2_17 nx2_18 ft2_19 fb, bTown g o a pe wo2_20 tx ch jo tr dy sd f2_21]) H := hP
      replace hD : va_D A (List.flatten [bTT g tt ta o, bTape g ta ab sz ln kd2_16 bg2_17 nx2_18 ft2_19 fb, bTown g o a pe wo2_20 tx ch jo tr dy sd f2_21]) := hD
      refine W.widen (k := 0) (n := 0) (Nat.le_of_ble_eq_true rfl) (Nat.le_of_ble_eq_true rfl) ?_
      refine W.eq (g2 := F0 m 33 ls [.int q_22]) rfl ?_
      obtain ⟨hq23_0, rf2_21, hq23_2, hq23_3, hq23_4, hq23_5, hq23_6, hq23_7⟩ := hq23
      rcases hq23_7 with ⟨rfl, hq23_k, rfl, hq23_kc⟩ | ⟨rfl, hq23_k⟩
      · skip
        replace hP : va_P g.1 vwCl (List.flatten [bTT g tt ta o, bTape g ta ab sz ln kd2_16 bg2_17 nx2_18 (-1) fb, bTown g o a pe wo2_20 tx ch jo tr dy sd f2_21]) H := hP
        replace hD : va_D A (List.flatten [bTT g tt ta o, bTape g ta ab sz ln kd2_16 bg2_17 nx2_18 (-1) fb, bTown g o a pe wo2_20 tx ch jo tr dy sd f2_21]) := hD
        exact mret_z hx hb hr hlocks hS (Nat.le_of_ble_eq_true rfl) (Nat.le_of_ble_eq_true rfl) dX10_readLine_33 (kd2_16, bg2_17, nx2_18, -1, pe, wo2_20, ch, jo, tr, dy, f2_21, (1 : Int32)) rfl (by decide) (show (0 ≤ pe.toInt ∧ pe.toInt ≤ 8) ∧ (0 ≤ wo2_20.toInt ∧ wo2_20.toInt ≤ 6) ∧ (zZ4 f2_21) ∧ (-1 ≤ ((-1) : Int32).toInt) ∧ (0 ≤ nx2_18.toInt ∧ nx2_18.toInt ≤ 400) ∧ (0 ≤ bg2_17.toInt ∧ bg2_17.toInt ≤ 400) ∧ (zKd kd2_16.toInt bg2_17.toInt nx2_18.toInt) ∧ (zTk fb ln.toInt kd2_16.toInt bg2_17.toInt nx2_18.toInt) ∧ (1 = 1 ∧ zTO (zTLine fb ln.toInt pe.toInt wo.toInt bg.toInt) bg2_17.toInt pe.toInt pe.toInt wo.toInt wo2_20.toInt ∧ (-1) = (-1) ∧ (zTQ (zTLine fb ln.toInt pe.toInt wo.toInt bg.toInt) fb bg2_17.toInt (pe, wo, ch, jo, tr, dy, f) (pe, wo2_20, ch, jo, tr, dy, f2_21) ∧ zAb f2_21 pe.toInt) ∨ 1 = 0 ∧ zTLine fb ln.toInt pe.toInt wo.toInt bg.toInt (.bad ((-1) : Int32).toInt)) from ⟨(by first | assumption | omega | exact Or.inl (by decide) | exact Or.inr (by omega) | decide), (by first | assumption | omega | exact Or.inl (by decide) | exact Or.inr (by omega) | decide), (by first | assumption | omega | exact Or.inl (by decide) | exact Or.inr (by omega) | decide), (by first | assumption | omega | exact Or.inl (by decide) | exact Or.inr (by omega) | decide), (by first | assumption | omega | exact Or.inl (by decide) | exact Or.inr (by omega) | decide), (by first | assumption | omega | exact Or.inl (by decide) | exact Or.inr (by omega) | decide), (by first | assumption | omega | exact Or.inl (by decide) | exact Or.inr (by omega) | decide), (by first | assumption | omega | exact Or.inl (by decide) | exact Or.inr (by omega) | decide), (Or.inl ⟨rfl, zTO_i hq23_k (fun _ h9 => zTL_k (k := 1) (by decide) hq14_k h9), rfl, ⟨zTQ_i hq23_kc.1 (fun _ h9 => zTL_k (k := 1) (by decide) hq14_k h9), hq23_kc.2⟩⟩)⟩) hP hD
      · skip
        replace hP : va_P g.1 vwCl (List.flatten [bTT g tt ta o, bTape g ta ab sz ln kd2_16 bg2_17 nx2_18 ft2_19 fb, bTown g o a pe wo2_20 tx ch jo tr dy sd f2_21]) H := hP
        replace hD : va_D A (List.flatten [bTT g tt ta o, bTape g ta ab sz ln kd2_16 bg2_17 nx2_18 ft2_19 fb, bTown g o a pe wo2_20 tx ch jo tr dy sd f2_21]) := hD
        exact mret_z hx hb hr hlocks hS (Nat.le_of_ble_eq_true rfl) (Nat.le_of_ble_eq_true rfl) dX10_readLine_33 (kd2_16, bg2_17, nx2_18, ft2_19, pe, wo2_20, ch, jo, tr, dy, f2_21, (0 : Int32)) rfl (by decide) (show (0 ≤ pe.toInt ∧ pe.toInt ≤ 8) ∧ (0 ≤ wo2_20.toInt ∧ wo2_20.toInt ≤ 6) ∧ (zZ4 f2_21) ∧ (-1 ≤ ft2_19.toInt) ∧ (0 ≤ nx2_18.toInt ∧ nx2_18.toInt ≤ 400) ∧ (0 ≤ bg2_17.toInt ∧ bg2_17.toInt ≤ 400) ∧ (zKd kd2_16.toInt bg2_17.toInt nx2_18.toInt) ∧ (zTk fb ln.toInt kd2_16.toInt bg2_17.toInt nx2_18.toInt) ∧ (0 = 1 ∧ zTO (zTLine fb ln.toInt pe.toInt wo.toInt bg.toInt) bg2_17.toInt pe.toInt pe.toInt wo.toInt wo2_20.toInt ∧ (-1) = ft2_19 ∧ (zTQ (zTLine fb ln.toInt pe.toInt wo.toInt bg.toInt) fb bg2_17.toInt (pe, wo, ch, jo, tr, dy, f) (pe, wo2_20, ch, jo, tr, dy, f2_21) ∧ zAb f2_21 pe.toInt) ∨ 0 = 0 ∧ zTLine fb ln.toInt pe.toInt wo.toInt bg.toInt (.bad ft2_19.toInt)) from ⟨(by first | assumption | omega | exact Or.inl (by decide) | exact Or.inr (by omega) | decide), (by first | assumption | omega | exact Or.inl (by decide) | exact Or.inr (by omega) | decide), (by first | assumption | omega | exact Or.inl (by decide) | exact Or.inr (by omega) | decide), (by first | assumption | omega | exact Or.inl (by decide) | exact Or.inr (by omega) | decide), (by first | assumption | omega | exact Or.inl (by decide) | exact Or.inr (by omega) | decide), (by first | assumption | omega | exact Or.inl (by decide) | exact Or.inr (by omega) | decide), (by first | assumption | omega | exact Or.inl (by decide) | exact Or.inr (by omega) | decide), (by first | assumption | omega | exact Or.inl (by decide) | exact Or.inr (by omega) | decide), (Or.inr ⟨rfl, zTL_k (k := 1) (by decide) hq14_k hq23_k⟩)⟩) hP hD
    · skip
      refine lv_if_eq (tgt := 34) hx hb dX10_readLine_26 (by decide) (fun _ => ?_) (fun c24 => absurd (by decide) c24)
      refine lv_aload_n hx hb dX10_readLine_34 rfl (lv_at hl 0 rfl) ?_
      refine va_get (D := g.1) (ci := 8) (v := .ref ta) (C := RX10) (T := TX10) (N := 2) hx hb hts izRX10 hown hK hP 0 rfl rfl 0 (by decide) (hts _ k441) (fun x9 h9 => u_same (hts _ k442) x9 h9) rfl dX10_readLine_35 ?_
      refine va_ldcS (q := g.2 42) hx hb hown (zra16 hT.2.1) dX10_readLine_38 ?_
      refine mcallV' (g := g) (q0 := 0) (ci := 6) (As := [.ref (g.2 42)]) (rest := []) St hK hT hA hP hD hS hl.1 [2] [0, 1] rfl rfl rfl (c_t_takeWordF l g ta ab sz ln kd bg nx (-1) fb (g.2 42) 16 zqa16 hln hnx hbg hkd hTk rfl zla16 zna16 (zlitB zla16)) (cwV 1 hts (zgL (zl4 k449 k311 k312 k277) k284) rfl rfl rfl (by decide +kernel) ⟨Nat.le_of_ble_eq_true rfl, Nat.le_of_ble_eq_true rfl⟩) rfl rfl rfl rfl (Nat.le_of_ble_eq_true rfl) dX10_readLine_40 ⟨(Nat.le_of_ble_eq_true rfl), (Nat.le_of_ble_eq_true rfl)⟩ (fun u_ H locs hq29 hP hD hS => ?_)
      obtain ⟨kd2_25, bg2_26, nx2_27, r_28⟩ := u_
      replace hq29 : (0 ≤ nx2_27.toInt ∧ nx2_27.toInt ≤ 400) ∧ (0 ≤ bg2_26.toInt ∧ bg2_26.toInt ≤ 400) ∧ (zKd kd2_25.toInt bg2_26.toInt nx2_27.toInt) ∧ (zTk fb ln.toInt kd2_25.toInt bg2_26.toInt nx2_27.toInt) ∧ (r_28 = 1 ∧ zisW fb ln.toInt bg.toInt zqa16.2.2.2 ∧ zMv fb ln.toInt bg.toInt bg2_26.toInt ∨ r_28 = 0 ∧ ¬ zisW fb ln.toInt bg.toInt zqa16.2.2.2 ∧ kd = kd2_25 ∧ bg = bg2_26 ∧ nx = nx2_27) := hq29
      replace hP : va_P g.1 vwCl (List.flatten [bTT g tt ta o, bTown g o a pe wo tx ch jo tr dy sd f, bTape g ta ab sz ln kd2_25 bg2_26 nx2_27 (-1) fb]) H := hP
      replace hD : va_D A (List.flatten [bTT g tt ta o, bTown g o a pe wo tx ch jo tr dy sd f, bTape g ta ab sz ln kd2_25 bg2_26 nx2_27 (-1) fb]) := hD
      refine W.widen (k := 0) (n := 0) (Nat.le_of_ble_eq_true rfl) (Nat.le_of_ble_eq_true rfl) ?_
      refine W.eq (g2 := F0 m 43 ls [.int r_28]) rfl ?_
      obtain ⟨hq29_0, hq29_1, hq29_2, hq29_3, hq29_4⟩ := hq29
      rcases hq29_4 with ⟨rfl, hq29_k, hq29_km⟩ | ⟨rfl, hq29_k, rfl, rfl, rfl⟩
      · skip
        refine lv_if_eq (tgt := 51) hx hb dX10_readLine_43 (by decide) (fun c30 => absurd c30 (by decide)) (fun _ => ?_)
        refine lv_aload_n hx hb dX10_readLine_46 rfl (lv_at hl 0 rfl) ?_
        refine mcallV' (g := g) (q0 := 0) (ci := 8) (As := []) (rest := []) St hK hT hA hP hD hS hl.1 [0, 2, 1] [] rfl rfl rfl (c_tt_readTrustsC l g tt ta o ab sz ln kd2_25 bg2_26 nx2_27 fb a pe wo tx ch jo tr dy sd f b_pe b_wo rf hln hq29_0 hq29_1 hq29_2 hq29_3 hab) (cwV 0 hts (zgL (zl4 k480 k481 k482 k476) k465) rfl rfl rfl (by decide +kernel) ⟨Nat.le_of_ble_eq_true rfl, Nat.le_of_ble_eq_true rfl⟩) rfl rfl rfl rfl (Nat.le_of_ble_eq_true rfl) dX10_readLine_47 ⟨(Nat.le_of_ble_eq_true rfl), (Nat.le_of_ble_eq_true rfl)⟩ (fun u_ H locs hq37 hP hD hS => ?_)
        obtain ⟨kd2_31, bg2_32, nx2_33, ft2_34, f2_35, q_36⟩ := u_
        replace hq37 : (zZ4 f2_35) ∧ (-1 ≤ ft2_34.toInt) ∧ (0 ≤ nx2_33.toInt ∧ nx2_33.toInt ≤ 400) ∧ (0 ≤ bg2_32.toInt ∧ bg2_32.toInt ≤ 400) ∧ (zKd kd2_31.toInt bg2_32.toInt nx2_33.toInt) ∧ (zTk fb ln.toInt kd2_31.toInt bg2_32.toInt nx2_33.toInt) ∧ (q_36 = 1 ∧ zTO (zKtr fb ln.toInt pe.toInt bg2_26.toInt) bg2_32.toInt pe.toInt pe.toInt wo.toInt wo.toInt ∧ (-1) = ft2_34 ∧ (zTQ (zKtr fb ln.toInt pe.toInt bg2_26.toInt) fb bg2_32.toInt (pe, wo, ch, jo, tr, dy, f) (pe, wo, ch, jo, tr, dy, f2_35) ∧ zAb f2_35 pe.toInt) ∨ q_36 = 0 ∧ zKtr fb ln.toInt pe.toInt bg2_26.toInt (.bad ft2_34.toInt)) := hq37
        replace hP : va_P g.1 vwCl (List.flatten [bTT g tt ta o, bTape g ta ab sz ln kd2_31 bg2_32 nx2_33 ft2_34 fb, bTown g o a pe wo tx ch jo tr dy sd f2_35]) H := hP
        replace hD : va_D A (List.flatten [bTT g tt ta o, bTape g ta ab sz ln kd2_31 bg2_32 nx2_33 ft2_34 fb, bTown g o a pe wo tx ch jo tr dy sd f2_35]) := hD
        refine W.widen (k := 0) (n := 0) (Nat.le_of_ble_eq_true rfl) (Nat.le_of_ble_eq_true rfl) ?_
        refine W.eq (g2 := F0 m 50 ls [.int q_36]) rfl ?_
        obtain ⟨rf2_35, hq37_1, hq37_2, hq37_3, hq37_4, hq37_5, hq37_6⟩ := hq37
        rcases hq37_6 with ⟨rfl, hq37_k, rfl, hq37_kc⟩ | ⟨rfl, hq37_k⟩
        · skip
          replace hP : va_P g.1 vwCl (List.flatten [bTT g tt ta o, bTape g ta ab sz ln kd2_31 bg2_32 nx2_33 (-1) fb, bTown g o a pe wo tx ch jo tr dy sd f2_35]) H := hP
          replace hD : va_D A (List.flatten [bTT g tt ta o, bTape g ta ab sz ln kd2_31 bg2_32 nx2_33 (-1) fb, bTown g o a pe wo tx ch jo tr dy sd f2_35]) := hD
          exact mret_z hx hb hr hlocks hS (Nat.le_of_ble_eq_true rfl) (Nat.le_of_ble_eq_true rfl) dX10_readLine_50 (kd2_31, bg2_32, nx2_33, -1, pe, wo, ch, jo, tr, dy, f2_35, (1 : Int32)) rfl (by decide) (show (0 ≤ pe.toInt ∧ pe.toInt ≤ 8) ∧ (0 ≤ wo.toInt ∧ wo.toInt ≤ 6) ∧ (zZ4 f2_35) ∧ (-1 ≤ ((-1) : Int32).toInt) ∧ (0 ≤ nx2_33.toInt ∧ nx2_33.toInt ≤ 400) ∧ (0 ≤ bg2_32.toInt ∧ bg2_32.toInt ≤ 400) ∧ (zKd kd2_31.toInt bg2_32.toInt nx2_33.toInt) ∧ (zTk fb ln.toInt kd2_31.toInt bg2_32.toInt nx2_33.toInt) ∧ (1 = 1 ∧ zTO (zTLine fb ln.toInt pe.toInt wo.toInt bg.toInt) bg2_32.toInt pe.toInt pe.toInt wo.toInt wo.toInt ∧ (-1) = (-1) ∧ (zTQ (zTLine fb ln.toInt pe.toInt wo.toInt bg.toInt) fb bg2_32.toInt (pe, wo, ch, jo, tr, dy, f) (pe, wo, ch, jo, tr, dy, f2_35) ∧ zAb f2_35 pe.toInt) ∨ 1 = 0 ∧ zTLine fb ln.toInt pe.toInt wo.toInt bg.toInt (.bad ((-1) : Int32).toInt)) from ⟨(by first | assumption | omega | exact Or.inl (by decide) | exact Or.inr (by omega) | decide), (by first | assumption | omega | exact Or.inl (by decide) | exact Or.inr (by omega) | decide), (by first | assumption | omega | exact Or.inl (by decide) | exact Or.inr (by omega) | decide), (by first | assumption | omega | exact Or.inl (by decide) | exact Or.inr (by omega) | decide), (by first | assumption | omega | exact Or.inl (by decide) | exact Or.inr (by omega) | decide), (by first | assumption | omega | exact Or.inl (by decide) | exact Or.inr (by omega) | decide), (by first | assumption | omega | exact Or.inl (by decide) | exact Or.inr (by omega) | decide), (by first | assumption | omega | exact Or.inl (by decide) | exact Or.inr (by omega) | decide), (Or.inl ⟨rfl, zTO_i hq37_k (fun _ h9 => zTL_m 0 (by decide) hq29_k hq29_km h9), rfl, ⟨zTQ_i hq37_kc.1 (fun _ h9 => zTL_m 0 (by decide) hq29_k hq29_km h9), hq37_kc.2⟩⟩)⟩) hP hD
        · skip
          replace hP : va_P g.1 vwCl (List.flatten [bTT g tt ta o, bTape g ta ab sz ln kd2_31 bg2_32 nx2_33 ft2_34 fb, bTown g o a pe wo tx ch jo tr dy sd f2_35]) H := hP
          replace hD : va_D A (List.flatten [bTT g tt ta o, bTape g ta ab sz ln kd2_31 bg2_32 nx2_33 ft2_34 fb, bTown g o a pe wo tx ch jo tr dy sd f2_35]) := hD
          exact mret_z hx hb hr hlocks hS (Nat.le_of_ble_eq_true rfl) (Nat.le_of_ble_eq_true rfl) dX10_readLine_50 (kd2_31, bg2_32, nx2_33, ft2_34, pe, wo, ch, jo, tr, dy, f2_35, (0 : Int32)) rfl (by decide) (show (0 ≤ pe.toInt ∧ pe.toInt ≤ 8) ∧ (0 ≤ wo.toInt ∧ wo.toInt ≤ 6) ∧ (zZ4 f2_35) ∧ (-1 ≤ ft2_34.toInt) ∧ (0 ≤ nx2_33.toInt ∧ nx2_33.toInt ≤ 400) ∧ (0 ≤ bg2_32.toInt ∧ bg2_32.toInt ≤ 400) ∧ (zKd kd2_31.toInt bg2_32.toInt nx2_33.toInt) ∧ (zTk fb ln.toInt kd2_31.toInt bg2_32.toInt nx2_33.toInt) ∧ (0 = 1 ∧ zTO (zTLine fb ln.toInt pe.toInt wo.toInt bg.toInt) bg2_32.toInt pe.toInt pe.toInt wo.toInt wo.toInt ∧ (-1) = ft2_34 ∧ (zTQ (zTLine fb ln.toInt pe.toInt wo.toInt bg.toInt) fb bg2_32.toInt (pe, wo, ch, jo, tr, dy, f) (pe, wo, ch, jo, tr, dy, f2_35) ∧ zAb f2_35 pe.toInt) ∨ 0 = 0 ∧ zTLine fb ln.toInt pe.toInt wo.toInt bg.toInt (.bad ft2_34.toInt)) from ⟨(by first | assumption | omega | exact Or.inl (by decide) | exact Or.inr (by omega) | decide), (by first | assumption | omega | exact Or.inl (by decide) | exact Or.inr (by omega) | decide), (by first | assumption | omega | exact Or.inl (by decide) | exact Or.inr (by omega) | decide), (by first | assumption | omega | exact Or.inl (by decide) | exact Or.inr (by omega) | decide), (by first | assumption | omega | exact Or.inl (by decide) | exact Or.inr (by omega) | decide), (by first | assumption | omega | exact Or.inl (by decide) | exact Or.inr (by omega) | decide), (by first | assumption | omega | exact Or.inl (by decide) | exact Or.inr (by omega) | decide), (by first | assumption | omega | exact Or.inl (by decide) | exact Or.inr (by omega) | decide), (Or.inr ⟨rfl, zTL_m 0 (by decide) hq29_k hq29_km hq37_k⟩)⟩) hP hD
      · skip
        refine lv_if_eq (tgt := 51) hx hb dX10_readLine_43 (by decide) (fun _ => ?_) (fun c38 => absurd (by decide) c38)
        refine lv_aload_n hx hb dX10_readLine_51 rfl (lv_at hl 0 rfl) ?_
        refine va_get (D := g.1) (ci := 8) (v := .ref ta) (C := RX10) (T := TX10) (N := 2) hx hb hts izRX10 hown hK hP 0 rfl rfl 0 (by decide) (hts _ k441) (fun x9 h9 => u_same (hts _ k442) x9 h9) rfl dX10_readLine_52 ?_
        refine va_ldcS (q := g.2 44) hx hb hown (zra17 hT.2.1) dX10_readLine_55 ?_
        refine mcallV' (g := g) (q0 := 0) (ci := 6) (As := [.ref (g.2 44)]) (rest := []) St hK hT hA hP hD hS hl.1 [2] [0, 1] rfl rfl rfl (c_t_takeWordF l g ta ab sz ln kd bg nx (-1) fb (g.2 44) 17 zqa17 hln hnx hbg hkd hTk rfl zla17 zna17 (zlitB zla17)) (cwV 1 hts (zgL (zl4 k449 k311 k312 k277) k284) rfl rfl rfl (by decide +kernel) ⟨Nat.le_of_ble_eq_true rfl, Nat.le_of_ble_eq_true rfl⟩) rfl rfl rfl rfl (Nat.le_of_ble_eq_true rfl) dX10_readLine_57 ⟨(Nat.le_of_ble_eq_true rfl), (Nat.le_of_ble_eq_true rfl)⟩ (fun u_ H locs hq43 hP hD hS => ?_)
        obtain ⟨kd2_39, bg2_40, nx2_41, r_42⟩ := u_
        replace hq43 : (0 ≤ nx2_41.toInt ∧ nx2_41.toInt ≤ 400) ∧ (0 ≤ bg2_40.toInt ∧ bg2_40.toInt ≤ 400) ∧ (zKd kd2_39.toInt bg2_40.toInt nx2_41.toInt) ∧ (zTk fb ln.toInt kd2_39.toInt bg2_40.toInt nx2_41.toInt) ∧ (r_42 = 1 ∧ zisW fb ln.toInt bg.toInt zqa17.2.2.2 ∧ zMv fb ln.toInt bg.toInt bg2_40.toInt ∨ r_42 = 0 ∧ ¬ zisW fb ln.toInt bg.toInt zqa17.2.2.2 ∧ kd = kd2_39 ∧ bg = bg2_40 ∧ nx = nx2_41) := hq43
        replace hP : va_P g.1 vwCl (List.flatten [bTT g tt ta o, bTown g o a pe wo tx ch jo tr dy sd f, bTape g ta ab sz ln kd2_39 bg2_40 nx2_41 (-1) fb]) H := hP
        replace hD : va_D A (List.flatten [bTT g tt ta o, bTown g o a pe wo tx ch jo tr dy sd f, bTape g ta ab sz ln kd2_39 bg2_40 nx2_41 (-1) fb]) := hD
        refine W.widen (k := 0) (n := 0) (Nat.le_of_ble_eq_true rfl) (Nat.le_of_ble_eq_true rfl) ?_
        refine W.eq (g2 := F0 m 60 ls [.int r_42]) rfl ?_
        obtain ⟨hq43_0, hq43_1, hq43_2, hq43_3, hq43_4⟩ := hq43
        rcases hq43_4 with ⟨rfl, hq43_k, hq43_km⟩ | ⟨rfl, hq43_k, rfl, rfl, rfl⟩
        · skip
          refine lv_if_eq (tgt := 68) hx hb dX10_readLine_60 (by decide) (fun c44 => absurd c44 (by decide)) (fun _ => ?_)
          refine lv_aload_n hx hb dX10_readLine_63 rfl (lv_at hl 0 rfl) ?_
          refine mcallV' (g := g) (q0 := 0) (ci := 8) (As := []) (rest := []) St hK hT hA hP hD hS hl.1 [0, 2, 1] [] rfl rfl rfl (c_tt_readSharesC l g tt ta o ab sz ln kd2_39 bg2_40 nx2_41 fb a pe wo tx ch jo tr dy sd f b_pe b_wo rf hln hq43_0 hq43_1 hq43_2 hq43_3 hab) (cwV 0 hts (zgL (zl4 k483 k484 k485 k476) k466) rfl rfl rfl (by decide +kernel) ⟨Nat.le_of_ble_eq_true rfl, Nat.le_of_ble_eq_true rfl⟩) rfl rfl rfl rfl (Nat.le_of_ble_eq_true rfl) dX10_readLine_64 ⟨(Nat.le_of_ble_eq_true rfl), (Nat.le_of_ble_eq_true rfl)⟩ (fun u_ H locs hq51 hP hD hS => ?_)
          obtain ⟨kd2_45, bg2_46, nx2_47, ft2_48, f2_49, q_50⟩ := u_
          replace hq51 : (zZ4 f2_49) ∧ (-1 ≤ ft2_48.toInt) ∧ (0 ≤ nx2_47.toInt ∧ nx2_47.toInt ≤ 400) ∧ (0 ≤ bg2_46.toInt ∧ bg2_46.toInt ≤ 400) ∧ (zKd kd2_45.toInt bg2_46.toInt nx2_47.toInt) ∧ (zTk fb ln.toInt kd2_45.toInt bg2_46.toInt nx2_47.toInt) ∧ (q_50 = 1 ∧ zTO (zKsh fb ln.toInt pe.toInt bg2_40.toInt) bg2_46.toInt pe.toInt pe.toInt wo.toInt wo.toInt ∧ (-1) = ft2_48 ∧ (zTQ (zKsh fb ln.toInt pe.toInt bg2_40.toInt) fb bg2_46.toInt (pe, wo, ch, jo, tr, dy, f) (pe, wo, ch, jo, tr, dy, f2_49) ∧ zAb f2_49 pe.toInt) ∨ q_50 = 0 ∧ zKsh fb ln.toInt pe.toInt bg2_40.toInt (.bad ft2_48.toInt)) := hq51
          replace hP : va_P g.1 vwCl (List.flatten [bTT g tt ta o, bTape g ta ab sz ln kd2_45 bg2_46 nx2_47 ft2_48 fb, bTown g o a pe wo tx ch jo tr dy sd f2_49]) H := hP
          replace hD : va_D A (List.flatten [bTT g tt ta o, bTape g ta ab sz ln kd2_45 bg2_46 nx2_47 ft2_48 fb, bTown g o a pe wo tx ch jo tr dy sd f2_49]) := hD
          refine W.widen (k := 0) (n := 0) (Nat.le_of_ble_eq_true rfl) (Nat.le_of_ble_eq_true rfl) ?_
          refine W.eq (g2 := F0 m 67 ls [.int q_50]) rfl ?_
          obtain ⟨rf2_49, hq51_1, hq51_2, hq51_3, hq51_4, hq51_5, hq51_6⟩ := hq51
          rcases hq51_6 with ⟨rfl, hq51_k, rfl, hq51_kc⟩ | ⟨rfl, hq51_k⟩
          · skip
            replace hP : va_P g.1 vwCl (List.flatten [bTT g tt ta o, bTape g ta ab sz ln kd2_45 bg2_46 nx2_47 (-1) fb, bTown g o a pe wo tx ch jo tr dy sd f2_49]) H := hP
            replace hD : va_D A (List.flatten [bTT g tt ta o, bTape g ta ab sz ln kd2_45 bg2_46 nx2_47 (-1) fb, bTown g o a pe wo tx ch jo tr dy sd f2_49]) := hD
            exact mret_z hx hb hr hlocks hS (Nat.le_of_ble_eq_true rfl) (Nat.le_of_ble_eq_true rfl) dX10_readLine_67 (kd2_45, bg2_46, nx2_47, -1, pe, wo, ch, jo, tr, dy, f2_49, (1 : Int32)) rfl (by decide) (show (0 ≤ pe.toInt ∧ pe.toInt ≤ 8) ∧ (0 ≤ wo.toInt ∧ wo.toInt ≤ 6) ∧ (zZ4 f2_49) ∧ (-1 ≤ ((-1) : Int32).toInt) ∧ (0 ≤ nx2_47.toInt ∧ nx2_47.toInt ≤ 400) ∧ (0 ≤ bg2_46.toInt ∧ bg2_46.toInt ≤ 400) ∧ (zKd kd2_45.toInt bg2_46.toInt nx2_47.toInt) ∧ (zTk fb ln.toInt kd2_45.toInt bg2_46.toInt nx2_47.toInt) ∧ (1 = 1 ∧ zTO (zTLine fb ln.toInt pe.toInt wo.toInt bg.toInt) bg2_46.toInt pe.toInt pe.toInt wo.toInt wo.toInt ∧ (-1) = (-1) ∧ (zTQ (zTLine fb ln.toInt pe.toInt wo.toInt bg.toInt) fb bg2_46.toInt (pe, wo, ch, jo, tr, dy, f) (pe, wo, ch, jo, tr, dy, f2_49) ∧ zAb f2_49 pe.toInt) ∨ 1 = 0 ∧ zTLine fb ln.toInt pe.toInt wo.toInt bg.toInt (.bad ((-1) : Int32).toInt)) from ⟨(by first | assumption | omega | exact Or.inl (by decide) | exact Or.inr (by omega) | decide), (by first | assumption | omega | exact Or.inl (by decide) | exact Or.inr (by omega) | decide), (by first | assumption | omega | exact Or.inl (by decide) | exact Or.inr (by omega) | decide), (by first | assumption | omega | exact Or.inl (by decide) | exact Or.inr (by omega) | decide), (by first | assumption | omega | exact Or.inl (by decide) | exact Or.inr (by omega) | decide), (by first | assumption | omega | exact Or.inl (by decide) | exact Or.inr (by omega) | decide), (by first | assumption | omega | exact Or.inl (by decide) | exact Or.inr (by omega) | decide), (by first | assumption | omega | exact Or.inl (by decide) | exact Or.inr (by omega) | decide), (Or.inl ⟨rfl, zTO_i hq51_k (fun _ h9 => zTL_m 1 (by decide) hq43_k hq43_km h9), rfl, ⟨zTQ_i hq51_kc.1 (fun _ h9 => zTL_m 1 (by decide) hq43_k hq43_km h9), hq51_kc.2⟩⟩)⟩) hP hD
          · skip
            replace hP : va_P g.1 vwCl (List.flatten [bTT g tt ta o, bTape g ta ab sz ln kd2_45 bg2_46 nx2_47 ft2_48 fb, bTown g o a pe wo tx ch jo tr dy sd f2_49]) H := hP
            replace hD : va_D A (List.flatten [bTT g tt ta o, bTape g ta ab sz ln kd2_45 bg2_46 nx2_47 ft2_48 fb, bTown g o a pe wo tx ch jo tr dy sd f2_49]) := hD
            exact mret_z hx hb hr hlocks hS (Nat.le_of_ble_eq_true rfl) (Nat.le_of_ble_eq_true rfl) dX10_readLine_67 (kd2_45, bg2_46, nx2_47, ft2_48, pe, wo, ch, jo, tr, dy, f2_49, (0 : Int32)) rfl (by decide) (show (0 ≤ pe.toInt ∧ pe.toInt ≤ 8) ∧ (0 ≤ wo.toInt ∧ wo.toInt ≤ 6) ∧ (zZ4 f2_49) ∧ (-1 ≤ ft2_48.toInt) ∧ (0 ≤ nx2_47.toInt ∧ nx2_47.toInt ≤ 400) ∧ (0 ≤ bg2_46.toInt ∧ bg2_46.toInt ≤ 400) ∧ (zKd kd2_45.toInt bg2_46.toInt nx2_47.toInt) ∧ (zTk fb ln.toInt kd2_45.toInt bg2_46.toInt nx2_47.toInt) ∧ (0 = 1 ∧ zTO (zTLine fb ln.toInt pe.toInt wo.toInt bg.toInt) bg2_46.toInt pe.toInt pe.toInt wo.toInt wo.toInt ∧ (-1) = ft2_48 ∧ (zTQ (zTLine fb ln.toInt pe.toInt wo.toInt bg.toInt) fb bg2_46.toInt (pe, wo, ch, jo, tr, dy, f) (pe, wo, ch, jo, tr, dy, f2_49) ∧ zAb f2_49 pe.toInt) ∨ 0 = 0 ∧ zTLine fb ln.toInt pe.toInt wo.toInt bg.toInt (.bad ft2_48.toInt)) from ⟨(by first | assumption | omega | exact Or.inl (by decide) | exact Or.inr (by omega) | decide), (by first | assumption | omega | exact Or.inl (by decide) | exact Or.inr (by omega) | decide), (by first | assumption | omega | exact Or.inl (by decide) | exact Or.inr (by omega) | decide), (by first | assumption | omega | exact Or.inl (by decide) | exact Or.inr (by omega) | decide), (by first | assumption | omega | exact Or.inl (by decide) | exact Or.inr (by omega) | decide), (by first | assumption | omega | exact Or.inl (by decide) | exact Or.inr (by omega) | decide), (by first | assumption | omega | exact Or.inl (by decide) | exact Or.inr (by omega) | decide), (by first | assumption | omega | exact Or.inl (by decide) | exact Or.inr (by omega) | decide), (Or.inr ⟨rfl, zTL_m 1 (by decide) hq43_k hq43_km hq51_k⟩)⟩) hP hD
        · skip
          refine lv_if_eq (tgt := 68) hx hb dX10_readLine_60 (by decide) (fun _ => ?_) (fun c52 => absurd (by decide) c52)
          refine lv_aload_n hx hb dX10_readLine_68 rfl (lv_at hl 0 rfl) ?_
          refine va_get (D := g.1) (ci := 8) (v := .ref ta) (C := RX10) (T := TX10) (N := 2) hx hb hts izRX10 hown hK hP 0 rfl rfl 0 (by decide) (hts _ k441) (fun x9 h9 => u_same (hts _ k442) x9 h9) rfl dX10_readLine_69 ?_
          refine va_ldcS (q := g.2 46) hx hb hown (zra18 hT.2.1) dX10_readLine_72 ?_
          refine mcallV' (g := g) (q0 := 0) (ci := 6) (As := [.ref (g.2 46)]) (rest := []) St hK hT hA hP hD hS hl.1 [2] [0, 1] rfl rfl rfl (c_t_takeWordF l g ta ab sz ln kd bg nx (-1) fb (g.2 46) 18 zqa18 hln hnx hbg hkd hTk rfl zla18 zna18 (zlitB zla18)) (cwV 1 hts (zgL (zl4 k449 k311 k312 k277) k284) rfl rfl rfl (by decide +kernel) ⟨Nat.le_of_ble_eq_true rfl, Nat.le_of_ble_eq_true rfl⟩) rfl rfl rfl rfl (Nat.le_of_ble_eq_true rfl) dX10_readLine_74 ⟨(Nat.le_of_ble_eq_true rfl), (Nat.le_of_ble_eq_true rfl)⟩ (fun u_ H locs hq57 hP hD hS => ?_)
          obtain ⟨kd2_53, bg2_54, nx2_55, r_56⟩ := u_
          replace hq57 : (0 ≤ nx2_55.toInt ∧ nx2_55.toInt ≤ 400) ∧ (0 ≤ bg2_54.toInt ∧ bg2_54.toInt ≤ 400) ∧ (zKd kd2_53.toInt bg2_54.toInt nx2_55.toInt) ∧ (zTk fb ln.toInt kd2_53.toInt bg2_54.toInt nx2_55.toInt) ∧ (r_56 = 1 ∧ zisW fb ln.toInt bg.toInt zqa18.2.2.2 ∧ zMv fb ln.toInt bg.toInt bg2_54.toInt ∨ r_56 = 0 ∧ ¬ zisW fb ln.toInt bg.toInt zqa18.2.2.2 ∧ kd = kd2_53 ∧ bg = bg2_54 ∧ nx = nx2_55) := hq57
          replace hP : va_P g.1 vwCl (List.flatten [bTT g tt ta o, bTown g o a pe wo tx ch jo tr dy sd f, bTape g ta ab sz ln kd2_53 bg2_54 nx2_55 (-1) fb]) H := hP
          replace hD : va_D A (List.flatten [bTT g tt ta o, bTown g o a pe wo tx ch jo tr dy sd f, bTape g ta ab sz ln kd2_53 bg2_54 nx2_55 (-1) fb]) := hD
          refine W.widen (k := 0) (n := 0) (Nat.le_of_ble_eq_true rfl) (Nat.le_of_ble_eq_true rfl) ?_
          refine W.eq (g2 := F0 m 77 ls [.int r_56]) rfl ?_
          obtain ⟨hq57_0, hq57_1, hq57_2, hq57_3, hq57_4⟩ := hq57
          rcases hq57_4 with ⟨rfl, hq57_k, hq57_km⟩ | ⟨rfl, hq57_k, rfl, rfl, rfl⟩
          · skip
            refine lv_if_eq (tgt := 111) hx hb dX10_readLine_77 (by decide) (fun c58 => absurd c58 (by decide)) (fun _ => ?_)
            refine lv_aload_n hx hb dX10_readLine_80 rfl (lv_at hl 0 rfl) ?_
            refine va_get (D := g.1) (ci := 8) (v := .ref ta) (C := RX10) (T := TX10) (N := 2) hx hb hts izRX10 hown hK hP 0 rfl rfl 0 (by decide) (hts _ k441) (fun x9 h9 => u_same (hts _ k442) x9 h9) rfl dX10_readLine_81 ?_
            refine lv_iconst (v := 0) hx hb dX10_readLine_84 (by decide) ?_
            refine lv_sipush (v := 999) hx hb dX10_readLine_85 (by decide) ?_
            have hL0 : (0 : Int32).toInt = 0 := by decide
            have hL999 : (999 : Int32).toInt = 999 := by decide
            refine mcallV' (g := g) (q0 := 0) (ci := 6) (As := [.int 0, .int 999]) (rest := []) St hK hT hA hP hD hS hl.1 [2] [0, 1] rfl rfl rfl (c_t_numberF l g ta ab sz ln kd2_53 bg2_54 nx2_55 fb 0 999 hln hq57_0 hq57_1 hq57_2 hq57_3) (cwV 2 hts (zgL (zl4 k445 k294 k295 k277) k273) rfl rfl rfl (by decide +kernel) ⟨Nat.le_of_ble_eq_true rfl, Nat.le_of_ble_eq_true rfl⟩) rfl rfl rfl rfl (Nat.le_of_ble_eq_true rfl) dX10_readLine_88 ⟨(Nat.le_of_ble_eq_true rfl), (Nat.le_of_ble_eq_true rfl)⟩ (fun u_ H locs hq64 hP hD hS => ?_)
            obtain ⟨kd2_59, bg2_60, nx2_61, ft2_62, q_63⟩ := u_
            replace hq64 : (-1 ≤ ft2_62.toInt) ∧ (0 ≤ nx2_61.toInt ∧ nx2_61.toInt ≤ 400) ∧ (0 ≤ bg2_60.toInt ∧ bg2_60.toInt ≤ 400) ∧ (zKd kd2_59.toInt bg2_60.toInt nx2_61.toInt) ∧ (zTk fb ln.toInt kd2_59.toInt bg2_60.toInt nx2_61.toInt) ∧ (zNu fb ln.toInt bg2_54.toInt (0 : Int32).toInt (999 : Int32).toInt q_63 ∧ zMv fb ln.toInt bg2_54.toInt bg2_60.toInt ∧ (-1) = ft2_62 ∨ q_63 = -1 ∧ (¬ ∃ v9, zNu fb ln.toInt bg2_54.toInt (0 : Int32).toInt (999 : Int32).toInt v9) ∧ bg2_54 = ft2_62 ∧ kd2_53 = kd2_59 ∧ bg2_54 = bg2_60 ∧ nx2_55 = nx2_61) := hq64
            replace hP : va_P g.1 vwCl (List.flatten [bTT g tt ta o, bTown g o a pe wo tx ch jo tr dy sd f, bTape g ta ab sz ln kd2_59 bg2_60 nx2_61 ft2_62 fb]) H := hP
            replace hD : va_D A (List.flatten [bTT g tt ta o, bTown g o a pe wo tx ch jo tr dy sd f, bTape g ta ab sz ln kd2_59 bg2_60 nx2_61 ft2_62 fb]) := hD
            refine W.widen (k := 0) (n := 0) (Nat.le_of_ble_eq_true rfl) (Nat.le_of_ble_eq_true rfl) ?_
            refine W.eq (g2 := F0 m 91 ls [.int q_63]) rfl ?_
            obtain ⟨hq64_0, hq64_1, hq64_2, hq64_3, hq64_4, hq64_5⟩ := hq64
            rcases hq64_5 with ⟨hq64_k, hq64_km, rfl⟩ | ⟨rfl, hq64_k, rfl, rfl, rfl, rfl⟩
            · skip
              have w65 : 0 ≤ q_63.toInt ∧ q_63.toInt ≤ 999 := ⟨(by have h9 := hq64_k.2.2.1; omega), (by have h9 := hq64_k.2.2.2; omega)⟩
              refine lv_istore_n (lv' := [(1, .int q_63), (0, .ref tt)]) hx hb dX10_readLine_91 rfl hl (by decide) rfl (fun ls hl => ?_)
              refine lv_aload_n hx hb dX10_readLine_92 rfl (lv_at hl 1 rfl) ?_
              refine va_get (D := g.1) (ci := 8) (v := .ref o) (C := RX10) (T := TX10) (N := 2) hx hb hts izRX10 hown hK hP 0 rfl rfl 1 (by decide) (hts _ k439) (fun _ h9 => h9) rfl dX10_readLine_93 ?_
              refine lv_iload_n hx hb dX10_readLine_96 rfl (lv_at hl 0 rfl) ?_
              refine va_put (D := g.1) (ci := 7) (v := .int q_63) (ty := .int) (C := RX9) (T := TX9) (N := 19) hx hb hts izRX9 tyX9 tyX9_ok nmX9 hown hK hP hD hS 1 rfl rfl 3 (by decide) (hts _ k468) (fun _ h9 => h9) rfl (by decide +kernel) rfl rfl (Nat.le_of_ble_eq_true rfl) dX10_readLine_97 (fun H locs hP hD hS => ?_)
              replace hP : va_P g.1 vwCl (List.flatten [bTT g tt ta o, bTown g o a pe wo tx q_63 jo tr dy sd f, bTape g ta ab sz ln kd2_59 bg2_60 nx2_61 (-1) fb]) H := hP
              replace hD : va_D A (List.flatten [bTT g tt ta o, bTown g o a pe wo tx q_63 jo tr dy sd f, bTape g ta ab sz ln kd2_59 bg2_60 nx2_61 (-1) fb]) := hD
              refine lv_iload_n hx hb dX10_readLine_100 rfl (lv_at hl 0 rfl) ?_
              refine lv_iconst (v := (-1)) hx hb dX10_readLine_101 (by decide) ?_
              refine lv_icmp_eq (tgt := 109) hx hb dX10_readLine_102 (by decide) (fun cb9 => ?_) (fun cb9 => ?_)
              · skip
                exact absurd (show q_63.toInt = (-1) from zeq cb9 rfl (by decide)) (zDeq2 (a := 0) (b := (-1)) w65.1 (Int.le_refl _) (by decide))
              · skip
                have c67 : ¬ q_63.toInt = (-1) := zne cb9 rfl (by decide)
                refine lv_iconst (v := 1) hx hb dX10_readLine_105 (by decide) ?_
                refine lv_goto (tgt := 110) hx hb dX10_readLine_106 (by decide) ?_
                replace hP : va_P g.1 vwCl (List.flatten [bTT g tt ta o, bTown g o a pe wo tx q_63 jo tr dy sd f, bTape g ta ab sz ln kd2_59 bg2_60 nx2_61 (-1) fb]) H := hP
                replace hD : va_D A (List.flatten [bTT g tt ta o, bTown g o a pe wo tx q_63 jo tr dy sd f, bTape g ta ab sz ln kd2_59 bg2_60 nx2_61 (-1) fb]) := hD
                obtain ⟨hP, hD⟩ := zord (g := g) (Bs' := [bTT g tt ta o, bTape g ta ab sz ln kd2_59 bg2_60 nx2_61 (-1) fb, bTown g o a pe wo tx q_63 jo tr dy sd f]) [0, 2, 1] rfl rfl hP hD
                exact mret_z hx hb hr hlocks hS (Nat.le_of_ble_eq_true rfl) (Nat.le_of_ble_eq_true rfl) dX10_readLine_110 (kd2_59, bg2_60, nx2_61, -1, pe, wo, q_63, jo, tr, dy, f, (1 : Int32)) rfl (by decide) (show (0 ≤ pe.toInt ∧ pe.toInt ≤ 8) ∧ (0 ≤ wo.toInt ∧ wo.toInt ≤ 6) ∧ (zZ4 f) ∧ (-1 ≤ ((-1) : Int32).toInt) ∧ (0 ≤ nx2_61.toInt ∧ nx2_61.toInt ≤ 400) ∧ (0 ≤ bg2_60.toInt ∧ bg2_60.toInt ≤ 400) ∧ (zKd kd2_59.toInt bg2_60.toInt nx2_61.toInt) ∧ (zTk fb ln.toInt kd2_59.toInt bg2_60.toInt nx2_61.toInt) ∧ (1 = 1 ∧ zTO (zTLine fb ln.toInt pe.toInt wo.toInt bg.toInt) bg2_60.toInt pe.toInt pe.toInt wo.toInt wo.toInt ∧ (-1) = (-1) ∧ (zTQ (zTLine fb ln.toInt pe.toInt wo.toInt bg.toInt) fb bg2_60.toInt (pe, wo, ch, jo, tr, dy, f) (pe, wo, q_63, jo, tr, dy, f) ∧ zAb f pe.toInt) ∨ 1 = 0 ∧ zTLine fb ln.toInt pe.toInt wo.toInt bg.toInt (.bad ((-1) : Int32).toInt)) from ⟨(by first | assumption | omega | exact Or.inl (by decide) | exact Or.inr (by omega) | decide), (by first | assumption | omega | exact Or.inl (by decide) | exact Or.inr (by omega) | decide), (by first | assumption | omega | exact Or.inl (by decide) | exact Or.inr (by omega) | decide), (by first | assumption | omega | exact Or.inl (by decide) | exact Or.inr (by omega) | decide), (by first | assumption | omega | exact Or.inl (by decide) | exact Or.inr (by omega) | decide), (by first | assumption | omega | exact Or.inl (by decide) | exact Or.inr (by omega) | decide), (by first | assumption | omega | exact Or.inl (by decide) | exact Or.inr (by omega) | decide), (by first | assumption | omega | exact Or.inl (by decide) | exact Or.inr (by omega) | decide), (Or.inl ⟨rfl, ⟨(4, q_63.toInt, 0, 0), zTL_m 2 (by decide) hq57_k hq57_km (show zTX _ _ _ 4 _ _ from zNN_y (by decide) (by decide) hq64_k hq64_km rfl), zcp_n (by decide) rfl, zcw_n (by decide) rfl⟩, rfl, ⟨⟨(4, q_63.toInt, 0, 0), zTL_m 2 (by decide) hq57_k hq57_km (show zTX _ _ _ 4 _ _ from zNN_y (by decide) (by decide) hq64_k hq64_km rfl), zSR_4⟩, hab⟩⟩)⟩) hP hD
            · skip
              refine lv_istore_n (lv' := [(1, .int (-1)), (0, .ref tt)]) hx hb dX10_readLine_91 rfl hl (by decide) rfl (fun ls hl => ?_)
              refine lv_aload_n hx hb dX10_readLine_92 rfl (lv_at hl 1 rfl) ?_
              refine va_get (D := g.1) (ci := 8) (v := .ref o) (C := RX10) (T := TX10) (N := 2) hx hb hts izRX10 hown hK hP 0 rfl rfl 1 (by decide) (hts _ k439) (fun _ h9 => h9) rfl dX10_readLine_93 ?_
              refine lv_iload_n hx hb dX10_readLine_96 rfl (lv_at hl 0 rfl) ?_
              refine va_put (D := g.1) (ci := 7) (v := .int (-1)) (ty := .int) (C := RX9) (T := TX9) (N := 19) hx hb hts izRX9 tyX9 tyX9_ok nmX9 hown hK hP hD hS 1 rfl rfl 3 (by decide) (hts _ k468) (fun _ h9 => h9) rfl (by decide +kernel) rfl rfl (Nat.le_of_ble_eq_true rfl) dX10_readLine_97 (fun H locs hP hD hS => ?_)
              replace hP : va_P g.1 vwCl (List.flatten [bTT g tt ta o, bTown g o a pe wo tx (-1) jo tr dy sd f, bTape g ta ab sz ln kd2_53 bg2_54 nx2_55 bg2_54 fb]) H := hP
              replace hD : va_D A (List.flatten [bTT g tt ta o, bTown g o a pe wo tx (-1) jo tr dy sd f, bTape g ta ab sz ln kd2_53 bg2_54 nx2_55 bg2_54 fb]) := hD
              refine lv_iload_n hx hb dX10_readLine_100 rfl (lv_at hl 0 rfl) ?_
              refine lv_iconst (v := (-1)) hx hb dX10_readLine_101 (by decide) ?_
              refine lv_icmp_eq (tgt := 109) hx hb dX10_readLine_102 (by decide) (fun _ => ?_) (fun c68 => absurd (by decide) c68)
              refine lv_iconst (v := 0) hx hb dX10_readLine_109 (by decide) ?_
              replace hP : va_P g.1 vwCl (List.flatten [bTT g tt ta o, bTown g o a pe wo tx (-1) jo tr dy sd f, bTape g ta ab sz ln kd2_53 bg2_54 nx2_55 bg2_54 fb]) H := hP
              replace hD : va_D A (List.flatten [bTT g tt ta o, bTown g o a pe wo tx (-1) jo tr dy sd f, bTape g ta ab sz ln kd2_53 bg2_54 nx2_55 bg2_54 fb]) := hD
              obtain ⟨hP, hD⟩ := zord (g := g) (Bs' := [bTT g tt ta o, bTape g ta ab sz ln kd2_53 bg2_54 nx2_55 bg2_54 fb, bTown g o a pe wo tx (-1) jo tr dy sd f]) [0, 2, 1] rfl rfl hP hD
              exact mret_z hx hb hr hlocks hS (Nat.le_of_ble_eq_true rfl) (Nat.le_of_ble_eq_true rfl) dX10_readLine_110 (kd2_53, bg2_54, nx2_55, bg2_54, pe, wo, -1, jo, tr, dy, f, (0 : Int32)) rfl (by decide) (show (0 ≤ pe.toInt ∧ pe.toInt ≤ 8) ∧ (0 ≤ wo.toInt ∧ wo.toInt ≤ 6) ∧ (zZ4 f) ∧ (-1 ≤ bg2_54.toInt) ∧ (0 ≤ nx2_55.toInt ∧ nx2_55.toInt ≤ 400) ∧ (0 ≤ bg2_54.toInt ∧ bg2_54.toInt ≤ 400) ∧ (zKd kd2_53.toInt bg2_54.toInt nx2_55.toInt) ∧ (zTk fb ln.toInt kd2_53.toInt bg2_54.toInt nx2_55.toInt) ∧ (0 = 1 ∧ zTO (zTLine fb ln.toInt pe.toInt wo.toInt bg.toInt) bg2_54.toInt pe.toInt pe.toInt wo.toInt wo.toInt ∧ (-1) = bg2_54 ∧ (zTQ (zTLine fb ln.toInt pe.toInt wo.toInt bg.toInt) fb bg2_54.toInt (pe, wo, ch, jo, tr, dy, f) (pe, wo, (-1), jo, tr, dy, f) ∧ zAb f pe.toInt) ∨ 0 = 0 ∧ zTLine fb ln.toInt pe.toInt wo.toInt bg.toInt (.bad bg2_54.toInt)) from ⟨(by first | assumption | omega | exact Or.inl (by decide) | exact Or.inr (by omega) | decide), (by first | assumption | omega | exact Or.inl (by decide) | exact Or.inr (by omega) | decide), (by first | assumption | omega | exact Or.inl (by decide) | exact Or.inr (by omega) | decide), (by first | assumption | omega | exact Or.inl (by decide) | exact Or.inr (by omega) | decide), (by first | assumption | omega | exact Or.inl (by decide) | exact Or.inr (by omega) | decide), (by first | assumption | omega | exact Or.inl (by decide) | exact Or.inr (by omega) | decide), (by first | assumption | omega | exact Or.inl (by decide) | exact Or.inr (by omega) | decide), (by first | assumption | omega | exact Or.inl (by decide) | exact Or.inr (by omega) | decide), (Or.inr ⟨rfl, zTL_m 2 (by decide) hq57_k hq57_km (show zTX _ _ _ 4 _ _ from zNN_n (by decide) (by decide) rfl hq64_k)⟩)⟩) hP hD
          · skip
            refine lv_if_eq (tgt := 111) hx hb dX10_readLine_77 (by decide) (fun _ => ?_) (fun c69 => absurd (by decide) c69)
            refine lv_aload_n hx hb dX10_readLine_111 rfl (lv_at hl 0 rfl) ?_
            refine va_get (D := g.1) (ci := 8) (v := .ref ta) (C := RX10) (T := TX10) (N := 2) hx hb hts izRX10 hown hK hP 0 rfl rfl 0 (by decide) (hts _ k441) (fun x9 h9 => u_same (hts _ k442) x9 h9) rfl dX10_readLine_112 ?_
            refine va_ldcS (q := g.2 48) hx hb hown (zra19 hT.2.1) dX10_readLine_115 ?_
            refine mcallV' (g := g) (q0 := 0) (ci := 6) (As := [.ref (g.2 48)]) (rest := []) St hK hT hA hP hD hS hl.1 [2] [0, 1] rfl rfl rfl (c_t_takeWordF l g ta ab sz ln kd bg nx (-1) fb (g.2 48) 19 zqa19 hln hnx hbg hkd hTk rfl zla19 zna19 (zlitB zla19)) (cwV 1 hts (zgL (zl4 k449 k311 k312 k277) k284) rfl rfl rfl (by decide +kernel) ⟨Nat.le_of_ble_eq_true rfl, Nat.le_of_ble_eq_true rfl⟩) rfl rfl rfl rfl (Nat.le_of_ble_eq_true rfl) dX10_readLine_117 ⟨(Nat.le_of_ble_eq_true rfl), (Nat.le_of_ble_eq_true rfl)⟩ (fun u_ H locs hq74 hP hD hS => ?_)
            obtain ⟨kd2_70, bg2_71, nx2_72, r_73⟩ := u_
            replace hq74 : (0 ≤ nx2_72.toInt ∧ nx2_72.toInt ≤ 400) ∧ (0 ≤ bg2_71.toInt ∧ bg2_71.toInt ≤ 400) ∧ (zKd kd2_70.toInt bg2_71.toInt nx2_72.toInt) ∧ (zTk fb ln.toInt kd2_70.toInt bg2_71.toInt nx2_72.toInt) ∧ (r_73 = 1 ∧ zisW fb ln.toInt bg.toInt zqa19.2.2.2 ∧ zMv fb ln.toInt bg.toInt bg2_71.toInt ∨ r_73 = 0 ∧ ¬ zisW fb ln.toInt bg.toInt zqa19.2.2.2 ∧ kd = kd2_70 ∧ bg = bg2_71 ∧ nx = nx2_72) := hq74
            replace hP : va_P g.1 vwCl (List.flatten [bTT g tt ta o, bTown g o a pe wo tx ch jo tr dy sd f, bTape g ta ab sz ln kd2_70 bg2_71 nx2_72 (-1) fb]) H := hP
            replace hD : va_D A (List.flatten [bTT g tt ta o, bTown g o a pe wo tx ch jo tr dy sd f, bTape g ta ab sz ln kd2_70 bg2_71 nx2_72 (-1) fb]) := hD
            refine W.widen (k := 0) (n := 0) (Nat.le_of_ble_eq_true rfl) (Nat.le_of_ble_eq_true rfl) ?_
            refine W.eq (g2 := F0 m 120 ls [.int r_73]) rfl ?_
            obtain ⟨hq74_0, hq74_1, hq74_2, hq74_3, hq74_4⟩ := hq74
            rcases hq74_4 with ⟨rfl, hq74_k, hq74_km⟩ | ⟨rfl, hq74_k, rfl, rfl, rfl⟩
            · skip
              refine lv_if_eq (tgt := 153) hx hb dX10_readLine_120 (by decide) (fun c75 => absurd c75 (by decide)) (fun _ => ?_)
              refine lv_aload_n hx hb dX10_readLine_123 rfl (lv_at hl 0 rfl) ?_
              refine va_get (D := g.1) (ci := 8) (v := .ref ta) (C := RX10) (T := TX10) (N := 2) hx hb hts izRX10 hown hK hP 0 rfl rfl 0 (by decide) (hts _ k441) (fun x9 h9 => u_same (hts _ k442) x9 h9) rfl dX10_readLine_124 ?_
              refine lv_iconst (v := 1) hx hb dX10_readLine_127 (by decide) ?_
              refine lv_bipush (v := 30) hx hb dX10_readLine_128 (by decide) ?_
              have hL1 : (1 : Int32).toInt = 1 := by decide
              have hL30 : (30 : Int32).toInt = 30 := by decide
              refine mcallV' (g := g) (q0 := 0) (ci := 6) (As := [.int 1, .int 30]) (rest := []) St hK hT hA hP hD hS hl.1 [2] [0, 1] rfl rfl rfl (c_t_numberF l g ta ab sz ln kd2_70 bg2_71 nx2_72 fb 1 30 hln hq74_0 hq74_1 hq74_2 hq74_3) (cwV 2 hts (zgL (zl4 k445 k294 k295 k277) k273) rfl rfl rfl (by decide +kernel) ⟨Nat.le_of_ble_eq_true rfl, Nat.le_of_ble_eq_true rfl⟩) rfl rfl rfl rfl (Nat.le_of_ble_eq_true rfl) dX10_readLine_130 ⟨(Nat.le_of_ble_eq_true rfl), (Nat.le_of_ble_eq_true rfl)⟩ (fun u_ H locs hq81 hP hD hS => ?_)
              obtain ⟨kd2_76, bg2_77, nx2_78, ft2_79, q_80⟩ := u_
              replace hq81 : (-1 ≤ ft2_79.toInt) ∧ (0 ≤ nx2_78.toInt ∧ nx2_78.toInt ≤ 400) ∧ (0 ≤ bg2_77.toInt ∧ bg2_77.toInt ≤ 400) ∧ (zKd kd2_76.toInt bg2_77.toInt nx2_78.toInt) ∧ (zTk fb ln.toInt kd2_76.toInt bg2_77.toInt nx2_78.toInt) ∧ (zNu fb ln.toInt bg2_71.toInt (1 : Int32).toInt (30 : Int32).toInt q_80 ∧ zMv fb ln.toInt bg2_71.toInt bg2_77.toInt ∧ (-1) = ft2_79 ∨ q_80 = -1 ∧ (¬ ∃ v9, zNu fb ln.toInt bg2_71.toInt (1 : Int32).toInt (30 : Int32).toInt v9) ∧ bg2_71 = ft2_79 ∧ kd2_70 = kd2_76 ∧ bg2_71 = bg2_77 ∧ nx2_72 = nx2_78) := hq81
              replace hP : va_P g.1 vwCl (List.flatten [bTT g tt ta o, bTown g o a pe wo tx ch jo tr dy sd f, bTape g ta ab sz ln kd2_76 bg2_77 nx2_78 ft2_79 fb]) H := hP
              replace hD : va_D A (List.flatten [bTT g tt ta o, bTown g o a pe wo tx ch jo tr dy sd f, bTape g ta ab sz ln kd2_76 bg2_77 nx2_78 ft2_79 fb]) := hD
              refine W.widen (k := 0) (n := 0) (Nat.le_of_ble_eq_true rfl) (Nat.le_of_ble_eq_true rfl) ?_
              refine W.eq (g2 := F0 m 133 ls [.int q_80]) rfl ?_
              obtain ⟨hq81_0, hq81_1, hq81_2, hq81_3, hq81_4, hq81_5⟩ := hq81
              rcases hq81_5 with ⟨hq81_k, hq81_km, rfl⟩ | ⟨rfl, hq81_k, rfl, rfl, rfl, rfl⟩
              · skip
                have w82 : 1 ≤ q_80.toInt ∧ q_80.toInt ≤ 30 := ⟨(by have h9 := hq81_k.2.2.1; omega), (by have h9 := hq81_k.2.2.2; omega)⟩
                refine lv_istore_n (lv' := [(1, .int q_80), (0, .ref tt)]) hx hb dX10_readLine_133 rfl hl (by decide) rfl (fun ls hl => ?_)
                refine lv_aload_n hx hb dX10_readLine_134 rfl (lv_at hl 1 rfl) ?_
                refine va_get (D := g.1) (ci := 8) (v := .ref o) (C := RX10) (T := TX10) (N := 2) hx hb hts izRX10 hown hK hP 0 rfl rfl 1 (by decide) (hts _ k439) (fun _ h9 => h9) rfl dX10_readLine_135 ?_
                refine lv_iload_n hx hb dX10_readLine_138 rfl (lv_at hl 0 rfl) ?_
                refine va_put (D := g.1) (ci := 7) (v := .int q_80) (ty := .int) (C := RX9) (T := TX9) (N := 19) hx hb hts izRX9 tyX9 tyX9_ok nmX9 hown hK hP hD hS 1 rfl rfl 4 (by decide) (hts _ k469) (fun _ h9 => h9) rfl (by decide +kernel) rfl rfl (Nat.le_of_ble_eq_true rfl) dX10_readLine_139 (fun H locs hP hD hS => ?_)
                replace hP : va_P g.1 vwCl (List.flatten [bTT g tt ta o, bTown g o a pe wo tx ch q_80 tr dy sd f, bTape g ta ab sz ln kd2_76 bg2_77 nx2_78 (-1) fb]) H := hP
                replace hD : va_D A (List.flatten [bTT g tt ta o, bTown g o a pe wo tx ch q_80 tr dy sd f, bTape g ta ab sz ln kd2_76 bg2_77 nx2_78 (-1) fb]) := hD
                refine lv_iload_n hx hb dX10_readLine_142 rfl (lv_at hl 0 rfl) ?_
                refine lv_iconst (v := (-1)) hx hb dX10_readLine_143 (by decide) ?_
                refine lv_icmp_eq (tgt := 151) hx hb dX10_readLine_144 (by decide) (fun cb9 => ?_) (fun cb9 => ?_)
                · skip
                  exact absurd (show q_80.toInt = (-1) from zeq cb9 rfl (by decide)) (zDeq2 (a := 1) (b := (-1)) w82.1 (Int.le_refl _) (by decide))
                · skip
                  have c84 : ¬ q_80.toInt = (-1) := zne cb9 rfl (by decide)
                  refine lv_iconst (v := 1) hx hb dX10_readLine_147 (by decide) ?_
                  refine lv_goto (tgt := 152) hx hb dX10_readLine_148 (by decide) ?_
                  replace hP : va_P g.1 vwCl (List.flatten [bTT g tt ta o, bTown g o a pe wo tx ch q_80 tr dy sd f, bTape g ta ab sz ln kd2_76 bg2_77 nx2_78 (-1) fb]) H := hP
                  replace hD : va_D A (List.flatten [bTT g tt ta o, bTown g o a pe wo tx ch q_80 tr dy sd f, bTape g ta ab sz ln kd2_76 bg2_77 nx2_78 (-1) fb]) := hD
                  obtain ⟨hP, hD⟩ := zord (g := g) (Bs' := [bTT g tt ta o, bTape g ta ab sz ln kd2_76 bg2_77 nx2_78 (-1) fb, bTown g o a pe wo tx ch q_80 tr dy sd f]) [0, 2, 1] rfl rfl hP hD
                  exact mret_z hx hb hr hlocks hS (Nat.le_of_ble_eq_true rfl) (Nat.le_of_ble_eq_true rfl) dX10_readLine_152 (kd2_76, bg2_77, nx2_78, -1, pe, wo, ch, q_80, tr, dy, f, (1 : Int32)) rfl (by decide) (show (0 ≤ pe.toInt ∧ pe.toInt ≤ 8) ∧ (0 ≤ wo.toInt ∧ wo.toInt ≤ 6) ∧ (zZ4 f) ∧ (-1 ≤ ((-1) : Int32).toInt) ∧ (0 ≤ nx2_78.toInt ∧ nx2_78.toInt ≤ 400) ∧ (0 ≤ bg2_77.toInt ∧ bg2_77.toInt ≤ 400) ∧ (zKd kd2_76.toInt bg2_77.toInt nx2_78.toInt) ∧ (zTk fb ln.toInt kd2_76.toInt bg2_77.toInt nx2_78.toInt) ∧ (1 = 1 ∧ zTO (zTLine fb ln.toInt pe.toInt wo.toInt bg.toInt) bg2_77.toInt pe.toInt pe.toInt wo.toInt wo.toInt ∧ (-1) = (-1) ∧ (zTQ (zTLine fb ln.toInt pe.toInt wo.toInt bg.toInt) fb bg2_77.toInt (pe, wo, ch, jo, tr, dy, f) (pe, wo, ch, q_80, tr, dy, f) ∧ zAb f pe.toInt) ∨ 1 = 0 ∧ zTLine fb ln.toInt pe.toInt wo.toInt bg.toInt (.bad ((-1) : Int32).toInt)) from ⟨(by first | assumption | omega | exact Or.inl (by decide) | exact Or.inr (by omega) | decide), (by first | assumption | omega | exact Or.inl (by decide) | exact Or.inr (by omega) | decide), (by first | assumption | omega | exact Or.inl (by decide) | exact Or.inr (by omega) | decide), (by first | assumption | omega | exact Or.inl (by decide) | exact Or.inr (by omega) | decide), (by first | assumption | omega | exact Or.inl (by decide) | exact Or.inr (by omega) | decide), (by first | assumption | omega | exact Or.inl (by decide) | exact Or.inr (by omega) | decide), (by first | assumption | omega | exact Or.inl (by decide) | exact Or.inr (by omega) | decide), (by first | assumption | omega | exact Or.inl (by decide) | exact Or.inr (by omega) | decide), (Or.inl ⟨rfl, ⟨(5, q_80.toInt, 0, 0), zTL_m 3 (by decide) hq74_k hq74_km (show zTX _ _ _ 5 _ _ from zNN_y (by decide) (by decide) hq81_k hq81_km rfl), zcp_n (by decide) rfl, zcw_n (by decide) rfl⟩, rfl, ⟨⟨(5, q_80.toInt, 0, 0), zTL_m 3 (by decide) hq74_k hq74_km (show zTX _ _ _ 5 _ _ from zNN_y (by decide) (by decide) hq81_k hq81_km rfl), zSR_5⟩, hab⟩⟩)⟩) hP hD
              · skip
                refine lv_istore_n (lv' := [(1, .int (-1)), (0, .ref tt)]) hx hb dX10_readLine_133 rfl hl (by decide) rfl (fun ls hl => ?_)
                refine lv_aload_n hx hb dX10_readLine_134 rfl (lv_at hl 1 rfl) ?_
                refine va_get (D := g.1) (ci := 8) (v := .ref o) (C := RX10) (T := TX10) (N := 2) hx hb hts izRX10 hown hK hP 0 rfl rfl 1 (by decide) (hts _ k439) (fun _ h9 => h9) rfl dX10_readLine_135 ?_
                refine lv_iload_n hx hb dX10_readLine_138 rfl (lv_at hl 0 rfl) ?_
                refine va_put (D := g.1) (ci := 7) (v := .int (-1)) (ty := .int) (C := RX9) (T := TX9) (N := 19) hx hb hts izRX9 tyX9 tyX9_ok nmX9 hown hK hP hD hS 1 rfl rfl 4 (by decide) (hts _ k469) (fun _ h9 => h9) rfl (by decide +kernel) rfl rfl (Nat.le_of_ble_eq_true rfl) dX10_readLine_139 (fun H locs hP hD hS => ?_)
                replace hP : va_P g.1 vwCl (List.flatten [bTT g tt ta o, bTown g o a pe wo tx ch (-1) tr dy sd f, bTape g ta ab sz ln kd2_70 bg2_71 nx2_72 bg2_71 fb]) H := hP
                replace hD : va_D A (List.flatten [bTT g tt ta o, bTown g o a pe wo tx ch (-1) tr dy sd f, bTape g ta ab sz ln kd2_70 bg2_71 nx2_72 bg2_71 fb]) := hD
                refine lv_iload_n hx hb dX10_readLine_142 rfl (lv_at hl 0 rfl) ?_
                refine lv_iconst (v := (-1)) hx hb dX10_readLine_143 (by decide) ?_
                refine lv_icmp_eq (tgt := 151) hx hb dX10_readLine_144 (by decide) (fun _ => ?_) (fun c85 => absurd (by decide) c85)
                refine lv_iconst (v := 0) hx hb dX10_readLine_151 (by decide) ?_
                replace hP : va_P g.1 vwCl (List.flatten [bTT g tt ta o, bTown g o a pe wo tx ch (-1) tr dy sd f, bTape g ta ab sz ln kd2_70 bg2_71 nx2_72 bg2_71 fb]) H := hP
                replace hD : va_D A (List.flatten [bTT g tt ta o, bTown g o a pe wo tx ch (-1) tr dy sd f, bTape g ta ab sz ln kd2_70 bg2_71 nx2_72 bg2_71 fb]) := hD
                obtain ⟨hP, hD⟩ := zord (g := g) (Bs' := [bTT g tt ta o, bTape g ta ab sz ln kd2_70 bg2_71 nx2_72 bg2_71 fb, bTown g o a pe wo tx ch (-1) tr dy sd f]) [0, 2, 1] rfl rfl hP hD
                exact mret_z hx hb hr hlocks hS (Nat.le_of_ble_eq_true rfl) (Nat.le_of_ble_eq_true rfl) dX10_readLine_152 (kd2_70, bg2_71, nx2_72, bg2_71, pe, wo, ch, -1, tr, dy, f, (0 : Int32)) rfl (by decide) (show (0 ≤ pe.toInt ∧ pe.toInt ≤ 8) ∧ (0 ≤ wo.toInt ∧ wo.toInt ≤ 6) ∧ (zZ4 f) ∧ (-1 ≤ bg2_71.toInt) ∧ (0 ≤ nx2_72.toInt ∧ nx2_72.toInt ≤ 400) ∧ (0 ≤ bg2_71.toInt ∧ bg2_71.toInt ≤ 400) ∧ (zKd kd2_70.toInt bg2_71.toInt nx2_72.toInt) ∧ (zTk fb ln.toInt kd2_70.toInt bg2_71.toInt nx2_72.toInt) ∧ (0 = 1 ∧ zTO (zTLine fb ln.toInt pe.toInt wo.toInt bg.toInt) bg2_71.toInt pe.toInt pe.toInt wo.toInt wo.toInt ∧ (-1) = bg2_71 ∧ (zTQ (zTLine fb ln.toInt pe.toInt wo.toInt bg.toInt) fb bg2_71.toInt (pe, wo, ch, jo, tr, dy, f) (pe, wo, ch, (-1), tr, dy, f) ∧ zAb f pe.toInt) ∨ 0 = 0 ∧ zTLine fb ln.toInt pe.toInt wo.toInt bg.toInt (.bad bg2_71.toInt)) from ⟨(by first | assumption | omega | exact Or.inl (by decide) | exact Or.inr (by omega) | decide), (by first | assumption | omega | exact Or.inl (by decide) | exact Or.inr (by omega) | decide), (by first | assumption | omega | exact Or.inl (by decide) | exact Or.inr (by omega) | decide), (by first | assumption | omega | exact Or.inl (by decide) | exact Or.inr (by omega) | decide), (by first | assumption | omega | exact Or.inl (by decide) | exact Or.inr (by omega) | decide), (by first | assumption | omega | exact Or.inl (by decide) | exact Or.inr (by omega) | decide), (by first | assumption | omega | exact Or.inl (by decide) | exact Or.inr (by omega) | decide), (by first | assumption | omega | exact Or.inl (by decide) | exact Or.inr (by omega) | decide), (Or.inr ⟨rfl, zTL_m 3 (by decide) hq74_k hq74_km (show zTX _ _ _ 5 _ _ from zNN_n (by decide) (by decide) rfl hq81_k)⟩)⟩) hP hD
            · skip
              refine lv_if_eq (tgt := 153) hx hb dX10_readLine_120 (by decide) (fun _ => ?_) (fun c86 => absurd (by decide) c86)
              refine lv_aload_n hx hb dX10_readLine_153 rfl (lv_at hl 0 rfl) ?_
              refine va_get (D := g.1) (ci := 8) (v := .ref ta) (C := RX10) (T := TX10) (N := 2) hx hb hts izRX10 hown hK hP 0 rfl rfl 0 (by decide) (hts _ k441) (fun x9 h9 => u_same (hts _ k442) x9 h9) rfl dX10_readLine_154 ?_
              refine va_ldcS (q := g.2 50) hx hb hown (zra20 hT.2.1) dX10_readLine_157 ?_
              refine mcallV' (g := g) (q0 := 0) (ci := 6) (As := [.ref (g.2 50)]) (rest := []) St hK hT hA hP hD hS hl.1 [2] [0, 1] rfl rfl rfl (c_t_takeWordF l g ta ab sz ln kd bg nx (-1) fb (g.2 50) 20 zqa20 hln hnx hbg hkd hTk rfl zla20 zna20 (zlitB zla20)) (cwV 1 hts (zgL (zl4 k449 k311 k312 k277) k284) rfl rfl rfl (by decide +kernel) ⟨Nat.le_of_ble_eq_true rfl, Nat.le_of_ble_eq_true rfl⟩) rfl rfl rfl rfl (Nat.le_of_ble_eq_true rfl) dX10_readLine_159 ⟨(Nat.le_of_ble_eq_true rfl), (Nat.le_of_ble_eq_true rfl)⟩ (fun u_ H locs hq91 hP hD hS => ?_)
              obtain ⟨kd2_87, bg2_88, nx2_89, r_90⟩ := u_
              replace hq91 : (0 ≤ nx2_89.toInt ∧ nx2_89.toInt ≤ 400) ∧ (0 ≤ bg2_88.toInt ∧ bg2_88.toInt ≤ 400) ∧ (zKd kd2_87.toInt bg2_88.toInt nx2_89.toInt) ∧ (zTk fb ln.toInt kd2_87.toInt bg2_88.toInt nx2_89.toInt) ∧ (r_90 = 1 ∧ zisW fb ln.toInt bg.toInt zqa20.2.2.2 ∧ zMv fb ln.toInt bg.toInt bg2_88.toInt ∨ r_90 = 0 ∧ ¬ zisW fb ln.toInt bg.toInt zqa20.2.2.2 ∧ kd = kd2_87 ∧ bg = bg2_88 ∧ nx = nx2_89) := hq91
              replace hP : va_P g.1 vwCl (List.flatten [bTT g tt ta o, bTown g o a pe wo tx ch jo tr dy sd f, bTape g ta ab sz ln kd2_87 bg2_88 nx2_89 (-1) fb]) H := hP
              replace hD : va_D A (List.flatten [bTT g tt ta o, bTown g o a pe wo tx ch jo tr dy sd f, bTape g ta ab sz ln kd2_87 bg2_88 nx2_89 (-1) fb]) := hD
              refine W.widen (k := 0) (n := 0) (Nat.le_of_ble_eq_true rfl) (Nat.le_of_ble_eq_true rfl) ?_
              refine W.eq (g2 := F0 m 162 ls [.int r_90]) rfl ?_
              obtain ⟨hq91_0, hq91_1, hq91_2, hq91_3, hq91_4⟩ := hq91
              rcases hq91_4 with ⟨rfl, hq91_k, hq91_km⟩ | ⟨rfl, hq91_k, rfl, rfl, rfl⟩
              · skip
                refine lv_if_eq (tgt := 195) hx hb dX10_readLine_162 (by decide) (fun c92 => absurd c92 (by decide)) (fun _ => ?_)
                refine lv_aload_n hx hb dX10_readLine_165 rfl (lv_at hl 0 rfl) ?_
                refine va_get (D := g.1) (ci := 8) (v := .ref ta) (C := RX10) (T := TX10) (N := 2) hx hb hts izRX10 hown hK hP 0 rfl rfl 0 (by decide) (hts _ k441) (fun x9 h9 => u_same (hts _ k442) x9 h9) rfl dX10_readLine_166 ?_
                refine lv_iconst (v := 0) hx hb dX10_readLine_169 (by decide) ?_
                refine lv_bipush (v := 100) hx hb dX10_readLine_170 (by decide) ?_
                have hL0 : (0 : Int32).toInt = 0 := by decide
                have hL100 : (100 : Int32).toInt = 100 := by decide
                refine mcallV' (g := g) (q0 := 0) (ci := 6) (As := [.int 0, .int 100]) (rest := []) St hK hT hA hP hD hS hl.1 [2] [0, 1] rfl rfl rfl (c_t_numberF l g ta ab sz ln kd2_87 bg2_88 nx2_89 fb 0 100 hln hq91_0 hq91_1 hq91_2 hq91_3) (cwV 2 hts (zgL (zl4 k445 k294 k295 k277) k273) rfl rfl rfl (by decide +kernel) ⟨Nat.le_of_ble_eq_true rfl, Nat.le_of_ble_eq_true rfl⟩) rfl rfl rfl rfl (Nat.le_of_ble_eq_true rfl) dX10_readLine_172 ⟨(Nat.le_of_ble_eq_true rfl), (Nat.le_of_ble_eq_true rfl)⟩ (fun u_ H locs hq98 hP hD hS => ?_)
                obtain ⟨kd2_93, bg2_94, nx2_95, ft2_96, q_97⟩ := u_
                replace hq98 : (-1 ≤ ft2_96.toInt) ∧ (0 ≤ nx2_95.toInt ∧ nx2_95.toInt ≤ 400) ∧ (0 ≤ bg2_94.toInt ∧ bg2_94.toInt ≤ 400) ∧ (zKd kd2_93.toInt bg2_94.toInt nx2_95.toInt) ∧ (zTk fb ln.toInt kd2_93.toInt bg2_94.toInt nx2_95.toInt) ∧ (zNu fb ln.toInt bg2_88.toInt (0 : Int32).toInt (100 : Int32).toInt q_97 ∧ zMv fb ln.toInt bg2_88.toInt bg2_94.toInt ∧ (-1) = ft2_96 ∨ q_97 = -1 ∧ (¬ ∃ v9, zNu fb ln.toInt bg2_88.toInt (0 : Int32).toInt (100 : Int32).toInt v9) ∧ bg2_88 = ft2_96 ∧ kd2_87 = kd2_93 ∧ bg2_88 = bg2_94 ∧ nx2_89 = nx2_95) := hq98
                replace hP : va_P g.1 vwCl (List.flatten [bTT g tt ta o, bTown g o a pe wo tx ch jo tr dy sd f, bTape g ta ab sz ln kd2_93 bg2_94 nx2_95 ft2_96 fb]) H := hP
                replace hD : va_D A (List.flatten [bTT g tt ta o, bTown g o a pe wo tx ch jo tr dy sd f, bTape g ta ab sz ln kd2_93 bg2_94 nx2_95 ft2_96 fb]) := hD
                refine W.widen (k := 0) (n := 0) (Nat.le_of_ble_eq_true rfl) (Nat.le_of_ble_eq_true rfl) ?_
                refine W.eq (g2 := F0 m 175 ls [.int q_97]) rfl ?_
                obtain ⟨hq98_0, hq98_1, hq98_2, hq98_3, hq98_4, hq98_5⟩ := hq98
                rcases hq98_5 with ⟨hq98_k, hq98_km, rfl⟩ | ⟨rfl, hq98_k, rfl, rfl, rfl, rfl⟩
                · skip
                  have w99 : 0 ≤ q_97.toInt ∧ q_97.toInt ≤ 100 := ⟨(by have h9 := hq98_k.2.2.1; omega), (by have h9 := hq98_k.2.2.2; omega)⟩
                  refine lv_istore_n (lv' := [(1, .int q_97), (0, .ref tt)]) hx hb dX10_readLine_175 rfl hl (by decide) rfl (fun ls hl => ?_)
                  refine lv_aload_n hx hb dX10_readLine_176 rfl (lv_at hl 1 rfl) ?_
                  refine va_get (D := g.1) (ci := 8) (v := .ref o) (C := RX10) (T := TX10) (N := 2) hx hb hts izRX10 hown hK hP 0 rfl rfl 1 (by decide) (hts _ k439) (fun _ h9 => h9) rfl dX10_readLine_177 ?_
                  refine lv_iload_n hx hb dX10_readLine_180 rfl (lv_at hl 0 rfl) ?_
                  refine va_put (D := g.1) (ci := 7) (v := .int q_97) (ty := .int) (C := RX9) (T := TX9) (N := 19) hx hb hts izRX9 tyX9 tyX9_ok nmX9 hown hK hP hD hS 1 rfl rfl 5 (by decide) (hts _ k470) (fun _ h9 => h9) rfl (by decide +kernel) rfl rfl (Nat.le_of_ble_eq_true rfl) dX10_readLine_181 (fun H locs hP hD hS => ?_)
                  replace hP : va_P g.1 vwCl (List.flatten [bTT g tt ta o, bTown g o a pe wo tx ch jo q_97 dy sd f, bTape g ta ab sz ln kd2_93 bg2_94 nx2_95 (-1) fb]) H := hP
                  replace hD : va_D A (List.flatten [bTT g tt ta o, bTown g o a pe wo tx ch jo q_97 dy sd f, bTape g ta ab sz ln kd2_93 bg2_94 nx2_95 (-1) fb]) := hD
                  refine lv_iload_n hx hb dX10_readLine_184 rfl (lv_at hl 0 rfl) ?_
                  refine lv_iconst (v := (-1)) hx hb dX10_readLine_185 (by decide) ?_
                  refine lv_icmp_eq (tgt := 193) hx hb dX10_readLine_186 (by decide) (fun cb9 => ?_) (fun cb9 => ?_)
                  · skip
                    exact absurd (show q_97.toInt = (-1) from zeq cb9 rfl (by decide)) (zDeq2 (a := 0) (b := (-1)) w99.1 (Int.le_refl _) (by decide))
                  · skip
                    have c101 : ¬ q_97.toInt = (-1) := zne cb9 rfl (by decide)
                    refine lv_iconst (v := 1) hx hb dX10_readLine_189 (by decide) ?_
                    refine lv_goto (tgt := 194) hx hb dX10_readLine_190 (by decide) ?_
                    replace hP : va_P g.1 vwCl (List.flatten [bTT g tt ta o, bTown g o a pe wo tx ch jo q_97 dy sd f, bTape g ta ab sz ln kd2_93 bg2_94 nx2_95 (-1) fb]) H := hP
                    replace hD : va_D A (List.flatten [bTT g tt ta o, bTown g o a pe wo tx ch jo q_97 dy sd f, bTape g ta ab sz ln kd2_93 bg2_94 nx2_95 (-1) fb]) := hD
                    obtain ⟨hP, hD⟩ := zord (g := g) (Bs' := [bTT g tt ta o, bTape g ta ab sz ln kd2_93 bg2_94 nx2_95 (-1) fb, bTown g o a pe wo tx ch jo q_97 dy sd f]) [0, 2, 1] rfl rfl hP hD
                    exact mret_z hx hb hr hlocks hS (Nat.le_of_ble_eq_true rfl) (Nat.le_of_ble_eq_true rfl) dX10_readLine_194 (kd2_93, bg2_94, nx2_95, -1, pe, wo, ch, jo, q_97, dy, f, (1 : Int32)) rfl (by decide) (show (0 ≤ pe.toInt ∧ pe.toInt ≤ 8) ∧ (0 ≤ wo.toInt ∧ wo.toInt ≤ 6) ∧ (zZ4 f) ∧ (-1 ≤ ((-1) : Int32).toInt) ∧ (0 ≤ nx2_95.toInt ∧ nx2_95.toInt ≤ 400) ∧ (0 ≤ bg2_94.toInt ∧ bg2_94.toInt ≤ 400) ∧ (zKd kd2_93.toInt bg2_94.toInt nx2_95.toInt) ∧ (zTk fb ln.toInt kd2_93.toInt bg2_94.toInt nx2_95.toInt) ∧ (1 = 1 ∧ zTO (zTLine fb ln.toInt pe.toInt wo.toInt bg.toInt) bg2_94.toInt pe.toInt pe.toInt wo.toInt wo.toInt ∧ (-1) = (-1) ∧ (zTQ (zTLine fb ln.toInt pe.toInt wo.toInt bg.toInt) fb bg2_94.toInt (pe, wo, ch, jo, tr, dy, f) (pe, wo, ch, jo, q_97, dy, f) ∧ zAb f pe.toInt) ∨ 1 = 0 ∧ zTLine fb ln.toInt pe.toInt wo.toInt bg.toInt (.bad ((-1) : Int32).toInt)) from ⟨(by first | assumption | omega | exact Or.inl (by decide) | exact Or.inr (by omega) | decide), (by first | assumption | omega | exact Or.inl (by decide) | exact Or.inr (by omega) | decide), (by first | assumption | omega | exact Or.inl (by decide) | exact Or.inr (by omega) | decide), (by first | assumption | omega | exact Or.inl (by decide) | exact Or.inr (by omega) | decide), (by first | assumption | omega | exact Or.inl (by decide) | exact Or.inr (by omega) | decide), (by first | assumption | omega | exact Or.inl (by decide) | exact Or.inr (by omega) | decide), (by first | assumption | omega | exact Or.inl (by decide) | exact Or.inr (by omega) | decide), (by first | assumption | omega | exact Or.inl (by decide) | exact Or.inr (by omega) | decide), (Or.inl ⟨rfl, ⟨(6, q_97.toInt, 0, 0), zTL_m 4 (by decide) hq91_k hq91_km (show zTX _ _ _ 6 _ _ from zNN_y (by decide) (by decide) hq98_k hq98_km rfl), zcp_n (by decide) rfl, zcw_n (by decide) rfl⟩, rfl, ⟨⟨(6, q_97.toInt, 0, 0), zTL_m 4 (by decide) hq91_k hq91_km (show zTX _ _ _ 6 _ _ from zNN_y (by decide) (by decide) hq98_k hq98_km rfl), zSR_6⟩, hab⟩⟩)⟩) hP hD
                · skip
                  refine lv_istore_n (lv' := [(1, .int (-1)), (0, .ref tt)]) hx hb dX10_readLine_175 rfl hl (by decide) rfl (fun ls hl => ?_)
                  refine lv_aload_n hx hb dX10_readLine_176 rfl (lv_at hl 1 rfl) ?_
                  refine va_get (D := g.1) (ci := 8) (v := .ref o) (C := RX10) (T := TX10) (N := 2) hx hb hts izRX10 hown hK hP 0 rfl rfl 1 (by decide) (hts _ k439) (fun _ h9 => h9) rfl dX10_readLine_177 ?_
                  refine lv_iload_n hx hb dX10_readLine_180 rfl (lv_at hl 0 rfl) ?_
                  refine va_put (D := g.1) (ci := 7) (v := .int (-1)) (ty := .int) (C := RX9) (T := TX9) (N := 19) hx hb hts izRX9 tyX9 tyX9_ok nmX9 hown hK hP hD hS 1 rfl rfl 5 (by decide) (hts _ k470) (fun _ h9 => h9) rfl (by decide +kernel) rfl rfl (Nat.le_of_ble_eq_true rfl) dX10_readLine_181 (fun H locs hP hD hS => ?_)
                  replace hP : va_P g.1 vwCl (List.flatten [bTT g tt ta o, bTown g o a pe wo tx ch jo (-1) dy sd f, bTape g ta ab sz ln kd2_87 bg2_88 nx2_89 bg2_88 fb]) H := hP
                  replace hD : va_D A (List.flatten [bTT g tt ta o, bTown g o a pe wo tx ch jo (-1) dy sd f, bTape g ta ab sz ln kd2_87 bg2_88 nx2_89 bg2_88 fb]) := hD
                  refine lv_iload_n hx hb dX10_readLine_184 rfl (lv_at hl 0 rfl) ?_
                  refine lv_iconst (v := (-1)) hx hb dX10_readLine_185 (by decide) ?_
                  refine lv_icmp_eq (tgt := 193) hx hb dX10_readLine_186 (by decide) (fun _ => ?_) (fun c102 => absurd (by decide) c102)
                  refine lv_iconst (v := 0) hx hb dX10_readLine_193 (by decide) ?_
                  replace hP : va_P g.1 vwCl (List.flatten [bTT g tt ta o, bTown g o a pe wo tx ch jo (-1) dy sd f, bTape g ta ab sz ln kd2_87 bg2_88 nx2_89 bg2_88 fb]) H := hP
                  replace hD : va_D A (List.flatten [bTT g tt ta o, bTown g o a pe wo tx ch jo (-1) dy sd f, bTape g ta ab sz ln kd2_87 bg2_88 nx2_89 bg2_88 fb]) := hD
                  obtain ⟨hP, hD⟩ := zord (g := g) (Bs' := [bTT g tt ta o, bTape g ta ab sz ln kd2_87 bg2_88 nx2_89 bg2_88 fb, bTown g o a pe wo tx ch jo (-1) dy sd f]) [0, 2, 1] rfl rfl hP hD
                  exact mret_z hx hb hr hlocks hS (Nat.le_of_ble_eq_true rfl) (Nat.le_of_ble_eq_true rfl) dX10_readLine_194 (kd2_87, bg2_88, nx2_89, bg2_88, pe, wo, ch, jo, -1, dy, f, (0 : Int32)) rfl (by decide) (show (0 ≤ pe.toInt ∧ pe.toInt ≤ 8) ∧ (0 ≤ wo.toInt ∧ wo.toInt ≤ 6) ∧ (zZ4 f) ∧ (-1 ≤ bg2_88.toInt) ∧ (0 ≤ nx2_89.toInt ∧ nx2_89.toInt ≤ 400) ∧ (0 ≤ bg2_88.toInt ∧ bg2_88.toInt ≤ 400) ∧ (zKd kd2_87.toInt bg2_88.toInt nx2_89.toInt) ∧ (zTk fb ln.toInt kd2_87.toInt bg2_88.toInt nx2_89.toInt) ∧ (0 = 1 ∧ zTO (zTLine fb ln.toInt pe.toInt wo.toInt bg.toInt) bg2_88.toInt pe.toInt pe.toInt wo.toInt wo.toInt ∧ (-1) = bg2_88 ∧ (zTQ (zTLine fb ln.toInt pe.toInt wo.toInt bg.toInt) fb bg2_88.toInt (pe, wo, ch, jo, tr, dy, f) (pe, wo, ch, jo, (-1), dy, f) ∧ zAb f pe.toInt) ∨ 0 = 0 ∧ zTLine fb ln.toInt pe.toInt wo.toInt bg.toInt (.bad bg2_88.toInt)) from ⟨(by first | assumption | omega | exact Or.inl (by decide) | exact Or.inr (by omega) | decide), (by first | assumption | omega | exact Or.inl (by decide) | exact Or.inr (by omega) | decide), (by first | assumption | omega | exact Or.inl (by decide) | exact Or.inr (by omega) | decide), (by first | assumption | omega | exact Or.inl (by decide) | exact Or.inr (by omega) | decide), (by first | assumption | omega | exact Or.inl (by decide) | exact Or.inr (by omega) | decide), (by first | assumption | omega | exact Or.inl (by decide) | exact Or.inr (by omega) | decide), (by first | assumption | omega | exact Or.inl (by decide) | exact Or.inr (by omega) | decide), (by first | assumption | omega | exact Or.inl (by decide) | exact Or.inr (by omega) | decide), (Or.inr ⟨rfl, zTL_m 4 (by decide) hq91_k hq91_km (show zTX _ _ _ 6 _ _ from zNN_n (by decide) (by decide) rfl hq98_k)⟩)⟩) hP hD
              · skip
                refine lv_if_eq (tgt := 195) hx hb dX10_readLine_162 (by decide) (fun _ => ?_) (fun c103 => absurd (by decide) c103)
                refine lv_aload_n hx hb dX10_readLine_195 rfl (lv_at hl 0 rfl) ?_
                refine va_get (D := g.1) (ci := 8) (v := .ref ta) (C := RX10) (T := TX10) (N := 2) hx hb hts izRX10 hown hK hP 0 rfl rfl 0 (by decide) (hts _ k441) (fun x9 h9 => u_same (hts _ k442) x9 h9) rfl dX10_readLine_196 ?_
                refine va_ldcS (q := g.2 52) hx hb hown (zra21 hT.2.1) dX10_readLine_199 ?_
                refine mcallV' (g := g) (q0 := 0) (ci := 6) (As := [.ref (g.2 52)]) (rest := []) St hK hT hA hP hD hS hl.1 [2] [0, 1] rfl rfl rfl (c_t_takeWordF l g ta ab sz ln kd bg nx (-1) fb (g.2 52) 21 zqa21 hln hnx hbg hkd hTk rfl zla21 zna21 (zlitB zla21)) (cwV 1 hts (zgL (zl4 k449 k311 k312 k277) k284) rfl rfl rfl (by decide +kernel) ⟨Nat.le_of_ble_eq_true rfl, Nat.le_of_ble_eq_true rfl⟩) rfl rfl rfl rfl (Nat.le_of_ble_eq_true rfl) dX10_readLine_201 ⟨(Nat.le_of_ble_eq_true rfl), (Nat.le_of_ble_eq_true rfl)⟩ (fun u_ H locs hq108 hP hD hS => ?_)
                obtain ⟨kd2_104, bg2_105, nx2_106, r_107⟩ := u_
                replace hq108 : (0 ≤ nx2_106.toInt ∧ nx2_106.toInt ≤ 400) ∧ (0 ≤ bg2_105.toInt ∧ bg2_105.toInt ≤ 400) ∧ (zKd kd2_104.toInt bg2_105.toInt nx2_106.toInt) ∧ (zTk fb ln.toInt kd2_104.toInt bg2_105.toInt nx2_106.toInt) ∧ (r_107 = 1 ∧ zisW fb ln.toInt bg.toInt zqa21.2.2.2 ∧ zMv fb ln.toInt bg.toInt bg2_105.toInt ∨ r_107 = 0 ∧ ¬ zisW fb ln.toInt bg.toInt zqa21.2.2.2 ∧ kd = kd2_104 ∧ bg = bg2_105 ∧ nx = nx2_106) := hq108
                replace hP : va_P g.1 vwCl (List.flatten [bTT g tt ta o, bTown g o a pe wo tx ch jo tr dy sd f, bTape g ta ab sz ln kd2_104 bg2_105 nx2_106 (-1) fb]) H := hP
                replace hD : va_D A (List.flatten [bTT g tt ta o, bTown g o a pe wo tx ch jo tr dy sd f, bTape g ta ab sz ln kd2_104 bg2_105 nx2_106 (-1) fb]) := hD
                refine W.widen (k := 0) (n := 0) (Nat.le_of_ble_eq_true rfl) (Nat.le_of_ble_eq_true rfl) ?_
                refine W.eq (g2 := F0 m 204 ls [.int r_107]) rfl ?_
                obtain ⟨hq108_0, hq108_1, hq108_2, hq108_3, hq108_4⟩ := hq108
                rcases hq108_4 with ⟨rfl, hq108_k, hq108_km⟩ | ⟨rfl, hq108_k, rfl, rfl, rfl⟩
                · skip
                  refine lv_if_eq (tgt := 238) hx hb dX10_readLine_204 (by decide) (fun c109 => absurd c109 (by decide)) (fun _ => ?_)
                  refine lv_aload_n hx hb dX10_readLine_207 rfl (lv_at hl 0 rfl) ?_
                  refine va_get (D := g.1) (ci := 8) (v := .ref ta) (C := RX10) (T := TX10) (N := 2) hx hb hts izRX10 hown hK hP 0 rfl rfl 0 (by decide) (hts _ k441) (fun x9 h9 => u_same (hts _ k442) x9 h9) rfl dX10_readLine_208 ?_
                  refine lv_iconst (v := 0) hx hb dX10_readLine_211 (by decide) ?_
                  refine lv_sipush (v := 999) hx hb dX10_readLine_212 (by decide) ?_
                  have hL0 : (0 : Int32).toInt = 0 := by decide
                  have hL999 : (999 : Int32).toInt = 999 := by decide
                  refine mcallV' (g := g) (q0 := 0) (ci := 6) (As := [.int 0, .int 999]) (rest := []) St hK hT hA hP hD hS hl.1 [2] [0, 1] rfl rfl rfl (c_t_numberF l g ta ab sz ln kd2_104 bg2_105 nx2_106 fb 0 999 hln hq108_0 hq108_1 hq108_2 hq108_3) (cwV 2 hts (zgL (zl4 k445 k294 k295 k277) k273) rfl rfl rfl (by decide +kernel) ⟨Nat.le_of_ble_eq_true rfl, Nat.le_of_ble_eq_true rfl⟩) rfl rfl rfl rfl (Nat.le_of_ble_eq_true rfl) dX10_readLine_215 ⟨(Nat.le_of_ble_eq_true rfl), (Nat.le_of_ble_eq_true rfl)⟩ (fun u_ H locs hq115 hP hD hS => ?_)
                  obtain ⟨kd2_110, bg2_111, nx2_112, ft2_113, q_114⟩ := u_
                  replace hq115 : (-1 ≤ ft2_113.toInt) ∧ (0 ≤ nx2_112.toInt ∧ nx2_112.toInt ≤ 400) ∧ (0 ≤ bg2_111.toInt ∧ bg2_111.toInt ≤ 400) ∧ (zKd kd2_110.toInt bg2_111.toInt nx2_112.toInt) ∧ (zTk fb ln.toInt kd2_110.toInt bg2_111.toInt nx2_112.toInt) ∧ (zNu fb ln.toInt bg2_105.toInt (0 : Int32).toInt (999 : Int32).toInt q_114 ∧ zMv fb ln.toInt bg2_105.toInt bg2_111.toInt ∧ (-1) = ft2_113 ∨ q_114 = -1 ∧ (¬ ∃ v9, zNu fb ln.toInt bg2_105.toInt (0 : Int32).toInt (999 : Int32).toInt v9) ∧ bg2_105 = ft2_113 ∧ kd2_104 = kd2_110 ∧ bg2_105 = bg2_111 ∧ nx2_106 = nx2_112) := hq115
                  replace hP : va_P g.1 vwCl (List.flatten [bTT g tt ta o, bTown g o a pe wo tx ch jo tr dy sd f, bTape g ta ab sz ln kd2_110 bg2_111 nx2_112 ft2_113 fb]) H := hP
                  replace hD : va_D A (List.flatten [bTT g tt ta o, bTown g o a pe wo tx ch jo tr dy sd f, bTape g ta ab sz ln kd2_110 bg2_111 nx2_112 ft2_113 fb]) := hD
                  refine W.widen (k := 0) (n := 0) (Nat.le_of_ble_eq_true rfl) (Nat.le_of_ble_eq_true rfl) ?_
                  refine W.eq (g2 := F0 m 218 ls [.int q_114]) rfl ?_
                  obtain ⟨hq115_0, hq115_1, hq115_2, hq115_3, hq115_4, hq115_5⟩ := hq115
                  rcases hq115_5 with ⟨hq115_k, hq115_km, rfl⟩ | ⟨rfl, hq115_k, rfl, rfl, rfl, rfl⟩
                  · skip
                    have w116 : 0 ≤ q_114.toInt ∧ q_114.toInt ≤ 999 := ⟨(by have h9 := hq115_k.2.2.1; omega), (by have h9 := hq115_k.2.2.2; omega)⟩
                    refine lv_istore_n (lv' := [(1, .int q_114), (0, .ref tt)]) hx hb dX10_readLine_218 rfl hl (by decide) rfl (fun ls hl => ?_)
                    refine lv_aload_n hx hb dX10_readLine_219 rfl (lv_at hl 1 rfl) ?_
                    refine va_get (D := g.1) (ci := 8) (v := .ref o) (C := RX10) (T := TX10) (N := 2) hx hb hts izRX10 hown hK hP 0 rfl rfl 1 (by decide) (hts _ k439) (fun _ h9 => h9) rfl dX10_readLine_220 ?_
                    refine lv_iload_n hx hb dX10_readLine_223 rfl (lv_at hl 0 rfl) ?_
                    refine va_put (D := g.1) (ci := 7) (v := .int q_114) (ty := .int) (C := RX9) (T := TX9) (N := 19) hx hb hts izRX9 tyX9 tyX9_ok nmX9 hown hK hP hD hS 1 rfl rfl 6 (by decide) (hts _ k471) (fun _ h9 => h9) rfl (by decide +kernel) rfl rfl (Nat.le_of_ble_eq_true rfl) dX10_readLine_224 (fun H locs hP hD hS => ?_)
                    replace hP : va_P g.1 vwCl (List.flatten [bTT g tt ta o, bTown g o a pe wo tx ch jo tr q_114 sd f, bTape g ta ab sz ln kd2_110 bg2_111 nx2_112 (-1) fb]) H := hP
                    replace hD : va_D A (List.flatten [bTT g tt ta o, bTown g o a pe wo tx ch jo tr q_114 sd f, bTape g ta ab sz ln kd2_110 bg2_111 nx2_112 (-1) fb]) := hD
                    refine lv_iload_n hx hb dX10_readLine_227 rfl (lv_at hl 0 rfl) ?_
                    refine lv_iconst (v := (-1)) hx hb dX10_readLine_228 (by decide) ?_
                    refine lv_icmp_eq (tgt := 236) hx hb dX10_readLine_229 (by decide) (fun cb9 => ?_) (fun cb9 => ?_)
                    · skip
                      exact absurd (show q_114.toInt = (-1) from zeq cb9 rfl (by decide)) (zDeq2 (a := 0) (b := (-1)) w116.1 (Int.le_refl _) (by decide))
                    · skip
                      have c118 : ¬ q_114.toInt = (-1) := zne cb9 rfl (by decide)
                      refine lv_iconst (v := 1) hx hb dX10_readLine_232 (by decide) ?_
                      refine lv_goto (tgt := 237) hx hb dX10_readLine_233 (by decide) ?_
                      replace hP : va_P g.1 vwCl (List.flatten [bTT g tt ta o, bTown g o a pe wo tx ch jo tr q_114 sd f, bTape g ta ab sz ln kd2_110 bg2_111 nx2_112 (-1) fb]) H := hP
                      replace hD : va_D A (List.flatten [bTT g tt ta o, bTown g o a pe wo tx ch jo tr q_114 sd f, bTape g ta ab sz ln kd2_110 bg2_111 nx2_112 (-1) fb]) := hD
                      obtain ⟨hP, hD⟩ := zord (g := g) (Bs' := [bTT g tt ta o, bTape g ta ab sz ln kd2_110 bg2_111 nx2_112 (-1) fb, bTown g o a pe wo tx ch jo tr q_114 sd f]) [0, 2, 1] rfl rfl hP hD
                      exact mret_z hx hb hr hlocks hS (Nat.le_of_ble_eq_true rfl) (Nat.le_of_ble_eq_true rfl) dX10_readLine_237 (kd2_110, bg2_111, nx2_112, -1, pe, wo, ch, jo, tr, q_114, f, (1 : Int32)) rfl (by decide) (show (0 ≤ pe.toInt ∧ pe.toInt ≤ 8) ∧ (0 ≤ wo.toInt ∧ wo.toInt ≤ 6) ∧ (zZ4 f) ∧ (-1 ≤ ((-1) : Int32).toInt) ∧ (0 ≤ nx2_112.toInt ∧ nx2_112.toInt ≤ 400) ∧ (0 ≤ bg2_111.toInt ∧ bg2_111.toInt ≤ 400) ∧ (zKd kd2_110.toInt bg2_111.toInt nx2_112.toInt) ∧ (zTk fb ln.toInt kd2_110.toInt bg2_111.toInt nx2_112.toInt) ∧ (1 = 1 ∧ zTO (zTLine fb ln.toInt pe.toInt wo.toInt bg.toInt) bg2_111.toInt pe.toInt pe.toInt wo.toInt wo.toInt ∧ (-1) = (-1) ∧ (zTQ (zTLine fb ln.toInt pe.toInt wo.toInt bg.toInt) fb bg2_111.toInt (pe, wo, ch, jo, tr, dy, f) (pe, wo, ch, jo, tr, q_114, f) ∧ zAb f pe.toInt) ∨ 1 = 0 ∧ zTLine fb ln.toInt pe.toInt wo.toInt bg.toInt (.bad ((-1) : Int32).toInt)) from ⟨(by first | assumption | omega | exact Or.inl (by decide) | exact Or.inr (by omega) | decide), (by first | assumption | omega | exact Or.inl (by decide) | exact Or.inr (by omega) | decide), (by first | assumption | omega | exact Or.inl (by decide) | exact Or.inr (by omega) | decide), (by first | assumption | omega | exact Or.inl (by decide) | exact Or.inr (by omega) | decide), (by first | assumption | omega | exact Or.inl (by decide) | exact Or.inr (by omega) | decide), (by first | assumption | omega | exact Or.inl (by decide) | exact Or.inr (by omega) | decide), (by first | assumption | omega | exact Or.inl (by decide) | exact Or.inr (by omega) | decide), (by first | assumption | omega | exact Or.inl (by decide) | exact Or.inr (by omega) | decide), (Or.inl ⟨rfl, ⟨(7, q_114.toInt, 0, 0), zTL_m 5 (by decide) hq108_k hq108_km (show zTX _ _ _ 7 _ _ from zNN_y (by decide) (by decide) hq115_k hq115_km rfl), zcp_n (by decide) rfl, zcw_n (by decide) rfl⟩, rfl, ⟨⟨(7, q_114.toInt, 0, 0), zTL_m 5 (by decide) hq108_k hq108_km (show zTX _ _ _ 7 _ _ from zNN_y (by decide) (by decide) hq115_k hq115_km rfl), zSR_7⟩, hab⟩⟩)⟩) hP hD
                  · skip
                    refine lv_istore_n (lv' := [(1, .int (-1)), (0, .ref tt)]) hx hb dX10_readLine_218 rfl hl (by decide) rfl (fun ls hl => ?_)
                    refine lv_aload_n hx hb dX10_readLine_219 rfl (lv_at hl 1 rfl) ?_
                    refine va_get (D := g.1) (ci := 8) (v := .ref o) (C := RX10) (T := TX10) (N := 2) hx hb hts izRX10 hown hK hP 0 rfl rfl 1 (by decide) (hts _ k439) (fun _ h9 => h9) rfl dX10_readLine_220 ?_
                    refine lv_iload_n hx hb dX10_readLine_223 rfl (lv_at hl 0 rfl) ?_
                    refine va_put (D := g.1) (ci := 7) (v := .int (-1)) (ty := .int) (C := RX9) (T := TX9) (N := 19) hx hb hts izRX9 tyX9 tyX9_ok nmX9 hown hK hP hD hS 1 rfl rfl 6 (by decide) (hts _ k471) (fun _ h9 => h9) rfl (by decide +kernel) rfl rfl (Nat.le_of_ble_eq_true rfl) dX10_readLine_224 (fun H locs hP hD hS => ?_)
                    replace hP : va_P g.1 vwCl (List.flatten [bTT g tt ta o, bTown g o a pe wo tx ch jo tr (-1) sd f, bTape g ta ab sz ln kd2_104 bg2_105 nx2_106 bg2_105 fb]) H := hP
                    replace hD : va_D A (List.flatten [bTT g tt ta o, bTown g o a pe wo tx ch jo tr (-1) sd f, bTape g ta ab sz ln kd2_104 bg2_105 nx2_106 bg2_105 fb]) := hD
                    refine lv_iload_n hx hb dX10_readLine_227 rfl (lv_at hl 0 rfl) ?_
                    refine lv_iconst (v := (-1)) hx hb dX10_readLine_228 (by decide) ?_
                    refine lv_icmp_eq (tgt := 236) hx hb dX10_readLine_229 (by decide) (fun _ => ?_) (fun c119 => absurd (by decide) c119)
                    refine lv_iconst (v := 0) hx hb dX10_readLine_236 (by decide) ?_
                    replace hP : va_P g.1 vwCl (List.flatten [bTT g tt ta o, bTown g o a pe wo tx ch jo tr (-1) sd f, bTape g ta ab sz ln kd2_104 bg2_105 nx2_106 bg2_105 fb]) H := hP
                    replace hD : va_D A (List.flatten [bTT g tt ta o, bTown g o a pe wo tx ch jo tr (-1) sd f, bTape g ta ab sz ln kd2_104 bg2_105 nx2_106 bg2_105 fb]) := hD
                    obtain ⟨hP, hD⟩ := zord (g := g) (Bs' := [bTT g tt ta o, bTape g ta ab sz ln kd2_104 bg2_105 nx2_106 bg2_105 fb, bTown g o a pe wo tx ch jo tr (-1) sd f]) [0, 2, 1] rfl rfl hP hD
                    exact mret_z hx hb hr hlocks hS (Nat.le_of_ble_eq_true rfl) (Nat.le_of_ble_eq_true rfl) dX10_readLine_237 (kd2_104, bg2_105, nx2_106, bg2_105, pe, wo, ch, jo, tr, -1, f, (0 : Int32)) rfl (by decide) (show (0 ≤ pe.toInt ∧ pe.toInt ≤ 8) ∧ (0 ≤ wo.toInt ∧ wo.toInt ≤ 6) ∧ (zZ4 f) ∧ (-1 ≤ bg2_105.toInt) ∧ (0 ≤ nx2_106.toInt ∧ nx2_106.toInt ≤ 400) ∧ (0 ≤ bg2_105.toInt ∧ bg2_105.toInt ≤ 400) ∧ (zKd kd2_104.toInt bg2_105.toInt nx2_106.toInt) ∧ (zTk fb ln.toInt kd2_104.toInt bg2_105.toInt nx2_106.toInt) ∧ (0 = 1 ∧ zTO (zTLine fb ln.toInt pe.toInt wo.toInt bg.toInt) bg2_105.toInt pe.toInt pe.toInt wo.toInt wo.toInt ∧ (-1) = bg2_105 ∧ (zTQ (zTLine fb ln.toInt pe.toInt wo.toInt bg.toInt) fb bg2_105.toInt (pe, wo, ch, jo, tr, dy, f) (pe, wo, ch, jo, tr, (-1), f) ∧ zAb f pe.toInt) ∨ 0 = 0 ∧ zTLine fb ln.toInt pe.toInt wo.toInt bg.toInt (.bad bg2_105.toInt)) from ⟨(by first | assumption | omega | exact Or.inl (by decide) | exact Or.inr (by omega) | decide), (by first | assumption | omega | exact Or.inl (by decide) | exact Or.inr (by omega) | decide), (by first | assumption | omega | exact Or.inl (by decide) | exact Or.inr (by omega) | decide), (by first | assumption | omega | exact Or.inl (by decide) | exact Or.inr (by omega) | decide), (by first | assumption | omega | exact Or.inl (by decide) | exact Or.inr (by omega) | decide), (by first | assumption | omega | exact Or.inl (by decide) | exact Or.inr (by omega) | decide), (by first | assumption | omega | exact Or.inl (by decide) | exact Or.inr (by omega) | decide), (by first | assumption | omega | exact Or.inl (by decide) | exact Or.inr (by omega) | decide), (Or.inr ⟨rfl, zTL_m 5 (by decide) hq108_k hq108_km (show zTX _ _ _ 7 _ _ from zNN_n (by decide) (by decide) rfl hq115_k)⟩)⟩) hP hD
                · skip
                  refine lv_if_eq (tgt := 238) hx hb dX10_readLine_204 (by decide) (fun _ => ?_) (fun c120 => absurd (by decide) c120)
                  refine lv_aload_n hx hb dX10_readLine_238 rfl (lv_at hl 0 rfl) ?_
                  refine va_get (D := g.1) (ci := 8) (v := .ref ta) (C := RX10) (T := TX10) (N := 2) hx hb hts izRX10 hown hK hP 0 rfl rfl 0 (by decide) (hts _ k441) (fun x9 h9 => u_same (hts _ k442) x9 h9) rfl dX10_readLine_239 ?_
                  refine mcallV' (g := g) (q0 := 0) (ci := 6) (As := []) (rest := []) St hK hT hA hP hD hS hl.1 [2] [0, 1] rfl rfl rfl (c_t_refuseF l g ta ab sz ln kd bg nx fb ) (cwV 0 hts (zgL (zl4 k443 k279 k280 k277) k269) rfl rfl rfl (by decide +kernel) ⟨Nat.le_of_ble_eq_true rfl, Nat.le_of_ble_eq_true rfl⟩) rfl rfl rfl rfl (Nat.le_of_ble_eq_true rfl) dX10_readLine_242 ⟨(Nat.le_of_ble_eq_true rfl), (Nat.le_of_ble_eq_true rfl)⟩ (fun _u H locs hq121 hP hD hS => ?_)
                  replace hP : va_P g.1 vwCl (List.flatten [bTT g tt ta o, bTown g o a pe wo tx ch jo tr dy sd f, bTape g ta ab sz ln kd bg nx bg fb]) H := hP
                  replace hD : va_D A (List.flatten [bTT g tt ta o, bTown g o a pe wo tx ch jo tr dy sd f, bTape g ta ab sz ln kd bg nx bg fb]) := hD
                  refine W.widen (k := 0) (n := 0) (Nat.le_of_ble_eq_true rfl) (Nat.le_of_ble_eq_true rfl) ?_
                  refine W.eq (g2 := F0 m 245 ls [.int 0]) rfl ?_
                  replace hP : va_P g.1 vwCl (List.flatten [bTT g tt ta o, bTown g o a pe wo tx ch jo tr dy sd f, bTape g ta ab sz ln kd bg nx bg fb]) H := hP
                  replace hD : va_D A (List.flatten [bTT g tt ta o, bTown g o a pe wo tx ch jo tr dy sd f, bTape g ta ab sz ln kd bg nx bg fb]) := hD
                  obtain ⟨hP, hD⟩ := zord (g := g) (Bs' := [bTT g tt ta o, bTape g ta ab sz ln kd bg nx bg fb, bTown g o a pe wo tx ch jo tr dy sd f]) [0, 2, 1] rfl rfl hP hD
                  exact mret_z hx hb hr hlocks hS (Nat.le_of_ble_eq_true rfl) (Nat.le_of_ble_eq_true rfl) dX10_readLine_245 (kd, bg, nx, bg, pe, wo, ch, jo, tr, dy, f, (0 : Int32)) rfl (by decide) (show (0 ≤ pe.toInt ∧ pe.toInt ≤ 8) ∧ (0 ≤ wo.toInt ∧ wo.toInt ≤ 6) ∧ (zZ4 f) ∧ (-1 ≤ bg.toInt) ∧ (0 ≤ nx.toInt ∧ nx.toInt ≤ 400) ∧ (0 ≤ bg.toInt ∧ bg.toInt ≤ 400) ∧ (zKd kd.toInt bg.toInt nx.toInt) ∧ (zTk fb ln.toInt kd.toInt bg.toInt nx.toInt) ∧ (0 = 1 ∧ zTO (zTLine fb ln.toInt pe.toInt wo.toInt bg.toInt) bg.toInt pe.toInt pe.toInt wo.toInt wo.toInt ∧ (-1) = bg ∧ (zTQ (zTLine fb ln.toInt pe.toInt wo.toInt bg.toInt) fb bg.toInt (pe, wo, ch, jo, tr, dy, f) (pe, wo, ch, jo, tr, dy, f) ∧ zAb f pe.toInt) ∨ 0 = 0 ∧ zTLine fb ln.toInt pe.toInt wo.toInt bg.toInt (.bad bg.toInt)) from ⟨(by first | assumption | omega | exact Or.inl (by decide) | exact Or.inr (by omega) | decide), (by first | assumption | omega | exact Or.inl (by decide) | exact Or.inr (by omega) | decide), (by first | assumption | omega | exact Or.inl (by decide) | exact Or.inr (by omega) | decide), (by first | assumption | omega | exact Or.inl (by decide) | exact Or.inr (by omega) | decide), (by first | assumption | omega | exact Or.inl (by decide) | exact Or.inr (by omega) | decide), (by first | assumption | omega | exact Or.inl (by decide) | exact Or.inr (by omega) | decide), (by first | assumption | omega | exact Or.inl (by decide) | exact Or.inr (by omega) | decide), (by first | assumption | omega | exact Or.inl (by decide) | exact Or.inr (by omega) | decide), (Or.inr ⟨rfl, zTL_no rfl hq2_k hq14_k hq29_k hq43_k hq57_k hq74_k hq91_k hq108_k⟩)⟩) hP hD
