/-! WHAT A TEXT OF THE LAW IS WORTH: e tells the eight facts -/
def zBi (v : Bool) : Int32 := if v = true then 1 else 0
theorem zBi_t : zBi true = 1 := rfl
theorem zBi_f : zBi false = 0 := rfl
theorem zBi_01 (v : Bool) : 0 ≤ (zBi v).toInt ∧ (zBi v).toInt ≤ 1 := by cases v <;> decide
def zPtV (f : Nat → Int32) (n : Int) (e : Nat → Int32) (b : Int) (v : Int32) : Prop :=
  (zisW f n b zwWho ∧ v = e 0) ∨ (zisW f n b zwBelief ∧ v = e 1) ∨ (zisW f n b zwMean ∧ v = e 2) ∨ (zisW f n b zwWorks ∧ v = e 3) ∨ (zisW f n b zwTies ∧ v = e 4) ∨ (zisW f n b zwDay ∧ v = e 5) ∨ zNu f n b 0 999 v
/-- two words at one place are one -/
theorem zisW_ne {f : Nat → Int32} {n b : Int} {bs bs' : List Int32} (h : zisW f n b bs) (h' : zisW f n b bs') (hl : 0 < bs.length ∧ 0 < bs'.length) (d : ¬ (bs.length = bs'.length ∧ bs.getD 0 0 = bs'.getD 0 0)) : False := by
  refine d ⟨by have a := h.2.1; have a' := h'.2.1; omega, ?_⟩
  rw [← h.2.2 0 (by omega), ← h'.2.2 0 (by omega)]
theorem zNu_w {f : Nat → Int32} {n b lo hi : Int} {v : Int32} {bs : List Int32} (h : zNu f n b lo hi v) (h' : zisW f n b bs) : False := absurd (h.1.1.symm.trans h'.1) (by decide)
theorem zPtV_0 {f : Nat → Int32} {n b : Int} {e : Nat → Int32} {v : Int32} (h : zPtV f n e b v) (k : zisW f n b zwWho) : e 0 = v := by
  rcases h with ⟨a, c⟩ | ⟨a, c⟩ | ⟨a, c⟩ | ⟨a, c⟩ | ⟨a, c⟩ | ⟨a, c⟩ | a
  · exact c.symm
  · exact (zisW_ne a k (by decide) (by decide)).elim
  · exact (zisW_ne a k (by decide) (by decide)).elim
  · exact (zisW_ne a k (by decide) (by decide)).elim
  · exact (zisW_ne a k (by decide) (by decide)).elim
  · exact (zisW_ne a k (by decide) (by decide)).elim
  · exact (zNu_w a k).elim
theorem zPtV_1 {f : Nat → Int32} {n b : Int} {e : Nat → Int32} {v : Int32} (h : zPtV f n e b v) (k : zisW f n b zwBelief) : e 1 = v := by
  rcases h with ⟨a, c⟩ | ⟨a, c⟩ | ⟨a, c⟩ | ⟨a, c⟩ | ⟨a, c⟩ | ⟨a, c⟩ | a
  · exact (zisW_ne a k (by decide) (by decide)).elim
  · exact c.symm
  · exact (zisW_ne a k (by decide) (by decide)).elim
  · exact (zisW_ne a k (by decide) (by decide)).elim
  · exact (zisW_ne a k (by decide) (by decide)).elim
  · exact (zisW_ne a k (by decide) (by decide)).elim
  · exact (zNu_w a k).elim
theorem zPtV_2 {f : Nat → Int32} {n b : Int} {e : Nat → Int32} {v : Int32} (h : zPtV f n e b v) (k : zisW f n b zwMean) : e 2 = v := by
  rcases h with ⟨a, c⟩ | ⟨a, c⟩ | ⟨a, c⟩ | ⟨a, c⟩ | ⟨a, c⟩ | ⟨a, c⟩ | a
  · exact (zisW_ne a k (by decide) (by decide)).elim
  · exact (zisW_ne a k (by decide) (by decide)).elim
  · exact c.symm
  · exact (zisW_ne a k (by decide) (by decide)).elim
  · exact (zisW_ne a k (by decide) (by decide)).elim
  · exact (zisW_ne a k (by decide) (by decide)).elim
  · exact (zNu_w a k).elim
theorem zPtV_3 {f : Nat → Int32} {n b : Int} {e : Nat → Int32} {v : Int32} (h : zPtV f n e b v) (k : zisW f n b zwWorks) : e 3 = v := by
  rcases h with ⟨a, c⟩ | ⟨a, c⟩ | ⟨a, c⟩ | ⟨a, c⟩ | ⟨a, c⟩ | ⟨a, c⟩ | a
  · exact (zisW_ne a k (by decide) (by decide)).elim
  · exact (zisW_ne a k (by decide) (by decide)).elim
  · exact (zisW_ne a k (by decide) (by decide)).elim
  · exact c.symm
  · exact (zisW_ne a k (by decide) (by decide)).elim
  · exact (zisW_ne a k (by decide) (by decide)).elim
  · exact (zNu_w a k).elim
theorem zPtV_4 {f : Nat → Int32} {n b : Int} {e : Nat → Int32} {v : Int32} (h : zPtV f n e b v) (k : zisW f n b zwTies) : e 4 = v := by
  rcases h with ⟨a, c⟩ | ⟨a, c⟩ | ⟨a, c⟩ | ⟨a, c⟩ | ⟨a, c⟩ | ⟨a, c⟩ | a
  · exact (zisW_ne a k (by decide) (by decide)).elim
  · exact (zisW_ne a k (by decide) (by decide)).elim
  · exact (zisW_ne a k (by decide) (by decide)).elim
  · exact (zisW_ne a k (by decide) (by decide)).elim
  · exact c.symm
  · exact (zisW_ne a k (by decide) (by decide)).elim
  · exact (zNu_w a k).elim
theorem zPtV_5 {f : Nat → Int32} {n b : Int} {e : Nat → Int32} {v : Int32} (h : zPtV f n e b v) (k : zisW f n b zwDay) : e 5 = v := by
  rcases h with ⟨a, c⟩ | ⟨a, c⟩ | ⟨a, c⟩ | ⟨a, c⟩ | ⟨a, c⟩ | ⟨a, c⟩ | a
  · exact (zisW_ne a k (by decide) (by decide)).elim
  · exact (zisW_ne a k (by decide) (by decide)).elim
  · exact (zisW_ne a k (by decide) (by decide)).elim
  · exact (zisW_ne a k (by decide) (by decide)).elim
  · exact (zisW_ne a k (by decide) (by decide)).elim
  · exact c.symm
  · exact (zNu_w a k).elim
theorem zPtV_n {f : Nat → Int32} {n b : Int} {e : Nat → Int32} {v w : Int32} (h : zPtV f n e b v) (k : zNu f n b 0 999 w) : w = v := by
  rcases h with ⟨a, _⟩ | ⟨a, _⟩ | ⟨a, _⟩ | ⟨a, _⟩ | ⟨a, _⟩ | ⟨a, _⟩ | a
  · exact (zNu_w k a).elim
  · exact (zNu_w k a).elim
  · exact (zNu_w k a).elim
  · exact (zNu_w k a).elim
  · exact (zNu_w k a).elim
  · exact (zNu_w k a).elim
  · exact zNu_u k a
theorem zPtV_x {f : Nat → Int32} {n b : Int} {e : Nat → Int32} {v : Int32} (h : zPtV f n e b v) (h1 : ¬ zisW f n b zwWho) (h2 : ¬ zisW f n b zwBelief) (h3 : ¬ zisW f n b zwMean) (h4 : ¬ zisW f n b zwWorks) (h5 : ¬ zisW f n b zwTies) (h6 : ¬ zisW f n b zwDay) (h7 : ¬ ∃ v, zNu f n b 0 999 v) : False := by
  rcases h with ⟨a, _⟩ | ⟨a, _⟩ | ⟨a, _⟩ | ⟨a, _⟩ | ⟨a, _⟩ | ⟨a, _⟩ | a
  · exact h1 a
  · exact h2 a
  · exact h3 a
  · exact h4 a
  · exact h5 a
  · exact h6 a
  · exact h7 ⟨_, a⟩
theorem zPtV_pt {f : Nat → Int32} {n b : Int} {e : Nat → Int32} {v : Int32} (h : zPtV f n e b v) : ¬ zkd f n b = 0 := by
  rcases h with ⟨a, _⟩ | ⟨a, _⟩ | ⟨a, _⟩ | ⟨a, _⟩ | ⟨a, _⟩ | ⟨a, _⟩ | a
  · exact zisW_z a
  · exact zisW_z a
  · exact zisW_z a
  · exact zisW_z a
  · exact zisW_z a
  · exact zisW_z a
  · exact zNu_z a
/-! a sum: from b on, with so much by now -/
def zSvN (f : Nat → Int32) (n : Int) (e : Nat → Int32) : Nat → Int → Int32 → Int → Int32 → Prop
  | 0, _, _, _, _ => False
  | k + 1, b, a, b1, v => ∃ w, zPtV f n e b w ∧ ((¬ zisS f n (znt f n b) 43 ∧ b1 = znt f n b ∧ v = a + w) ∨ (zisS f n (znt f n b) 43 ∧ zSvN f n e k (znt f n (znt f n b)) (a + w) b1 v))
def zSv (f : Nat → Int32) (n : Int) (e : Nat → Int32) (b : Int) (a : Int32) (b1 : Int) (v : Int32) : Prop := ∃ k, zSvN f n e k b a b1 v
/-- behind a part -/
def zSvT (f : Nat → Int32) (n : Int) (e : Nat → Int32) (b : Int) (a : Int32) (b1 : Int) (v : Int32) : Prop := (¬ zisS f n b 43 ∧ b1 = b ∧ v = a) ∨ (zisS f n b 43 ∧ zSv f n e (znt f n b) a b1 v)
theorem zSv_i {f : Nat → Int32} {n : Int} {e : Nat → Int32} {b b1 : Int} {a v : Int32} (h : zSv f n e b a b1 v) : ∃ w, zPtV f n e b w ∧ zSvT f n e (znt f n b) (a + w) b1 v := by
  obtain ⟨k, h⟩ := h
  cases k with
  | zero => exact False.elim h
  | succ k =>
    obtain ⟨w, p, q⟩ := (show ∃ w, zPtV f n e b w ∧ ((¬ zisS f n (znt f n b) 43 ∧ b1 = znt f n b ∧ v = a + w) ∨ (zisS f n (znt f n b) 43 ∧ zSvN f n e k (znt f n (znt f n b)) (a + w) b1 v)) from h)
    refine ⟨w, p, ?_⟩
    rcases q with q | ⟨q, r⟩
    · exact Or.inl q
    · exact Or.inr ⟨q, k, r⟩
theorem zSv_m {f : Nat → Int32} {n : Int} {e : Nat → Int32} {b b1 : Int} {a v w : Int32} (p : zPtV f n e b w) (h : zSvT f n e (znt f n b) (a + w) b1 v) : zSv f n e b a b1 v := by
  rcases h with q | ⟨q, k, r⟩
  · exact ⟨0 + 1, (show ∃ w, zPtV f n e b w ∧ ((¬ zisS f n (znt f n b) 43 ∧ b1 = znt f n b ∧ v = a + w) ∨ (zisS f n (znt f n b) 43 ∧ zSvN f n e 0 (znt f n (znt f n b)) (a + w) b1 v)) from ⟨w, p, Or.inl q⟩)⟩
  · exact ⟨k + 1, (show ∃ w, zPtV f n e b w ∧ ((¬ zisS f n (znt f n b) 43 ∧ b1 = znt f n b ∧ v = a + w) ∨ (zisS f n (znt f n b) 43 ∧ zSvN f n e k (znt f n (znt f n b)) (a + w) b1 v)) from ⟨w, p, Or.inr ⟨q, r⟩⟩)⟩
theorem zSv_a {f : Nat → Int32} {n : Int} {e : Nat → Int32} {b b' b1 : Int} {a a' v : Int32} (h : zSvT f n e b a b1 v) (eb : b' = b) (ea : a' = a) : zSvT f n e b' a' b1 v := by subst eb; subst ea; exact h
/-! a comparison, dry, owner -/
def zNz (x : Int32) : Bool := !decide (x.toInt = 0)
def zPlV (f : Nat → Int32) (n : Int) (e : Nat → Int32) (b b1 : Int) (v : Bool) : Prop :=
  (zisW f n b zwDry ∧ b1 = znt f n b ∧ v = zNz (e 6)) ∨ (zisW f n b zwOwner ∧ b1 = znt f n b ∧ v = zNz (e 7)) ∨
  (¬ zisW f n b zwDry ∧ ¬ zisW f n b zwOwner ∧ ∃ p x y, zSv f n e b 0 p x ∧ ((zisS f n p 60 ∧ v = decide (x.toInt < y.toInt)) ∨ (zisS f n p 62 ∧ v = decide (y.toInt < x.toInt))) ∧ zSv f n e (znt f n p) 0 b1 y)
/-! atoms joined by and, or: o: one by now held; a: these by now hold -/
def zCvS (f : Nat → Int32) (n : Int) (A : Int → Int → Bool → Prop) (S : Bool → Bool → Int → Int → Bool → Prop) (o a : Bool) (b b1 : Int) (v : Bool) : Prop :=
  ∃ p w, A b p w ∧ ((zisW f n p zwAnd ∧ S o (a && w) (znt f n p) b1 v) ∨ (¬ zisW f n p zwAnd ∧ zisW f n p zwOr ∧ S (o || (a && w)) true (znt f n p) b1 v) ∨ (¬ zisW f n p zwAnd ∧ ¬ zisW f n p zwOr ∧ b1 = p ∧ v = (o || (a && w))))
def zCvN (f : Nat → Int32) (n : Int) (A : Int → Int → Bool → Prop) : Nat → Bool → Bool → Int → Int → Bool → Prop
  | 0 => fun _ _ _ _ _ => False
  | k + 1 => zCvS f n A (zCvN f n A k)
def zCv (f : Nat → Int32) (n : Int) (A : Int → Int → Bool → Prop) (o a : Bool) (b b1 : Int) (v : Bool) : Prop := ∃ k, zCvN f n A k o a b b1 v
theorem zCv_i {f : Nat → Int32} {n : Int} {A : Int → Int → Bool → Prop} {o a : Bool} {b b1 : Int} {v : Bool} (h : zCv f n A o a b b1 v) : zCvS f n A (zCv f n A) o a b b1 v := by
  obtain ⟨k, h⟩ := h
  cases k with
  | zero => exact False.elim h
  | succ k =>
    obtain ⟨p, w, h1, h2⟩ := (show zCvS f n A (zCvN f n A k) o a b b1 v from h)
    refine ⟨p, w, h1, ?_⟩
    rcases h2 with ⟨c, d⟩ | ⟨c, c', d⟩ | d
    · exact Or.inl ⟨c, k, d⟩
    · exact Or.inr (Or.inl ⟨c, c', k, d⟩)
    · exact Or.inr (Or.inr d)
theorem zCv_m {f : Nat → Int32} {n : Int} {A : Int → Int → Bool → Prop} {o a : Bool} {b b1 : Int} {v : Bool} (h : zCvS f n A (zCv f n A) o a b b1 v) : zCv f n A o a b b1 v := by
  obtain ⟨p, w, h1, h2⟩ := h
  rcases h2 with ⟨c, k, d⟩ | ⟨c, c', k, d⟩ | d
  · exact ⟨k + 1, (show zCvS f n A (zCvN f n A k) o a b b1 v from ⟨p, w, h1, Or.inl ⟨c, d⟩⟩)⟩
  · exact ⟨k + 1, (show zCvS f n A (zCvN f n A k) o a b b1 v from ⟨p, w, h1, Or.inr (Or.inl ⟨c, c', d⟩)⟩)⟩
  · exact ⟨0 + 1, (show zCvS f n A (zCvN f n A 0) o a b b1 v from ⟨p, w, h1, Or.inr (Or.inr d)⟩)⟩
def zAv (f : Nat → Int32) (n : Int) (e : Nat → Int32) : Nat → Int → Int → Bool → Prop
  | 0, b, b1, v => ¬ zDeep f n b ∧ zPlV f n e b b1 v
  | k + 1, b, b1, v => (zisW f n b zwNot ∧ zAv f n e k (znt f n b) b1 (!v)) ∨ (zisS f n b 40 ∧ ∃ p, zCv f n (zAv f n e k) false true (znt f n b) p v ∧ zisS f n p 41 ∧ b1 = znt f n p) ∨ (¬ zDeep f n b ∧ zPlV f n e b b1 v)
/-! a line: what one turned by ahead of it, behind it -/
def zLvt (f : Nat → Int32) (n : Int) (e : Nat → Int32) (b b1 : Int) (t t1 : Int32) : Prop :=
  ∃ (w : Int32) (is : Bool), zNu f n (znt f n b) 0 30 w ∧ ((zisW f n b zwRaise ∧ t1 = t + (if is = true then w else 0)) ∨ (¬ zisW f n b zwRaise ∧ zisW f n b zwLower ∧ t1 = t - (if is = true then w else 0))) ∧
    ((¬ zisW f n (znt f n (znt f n b)) zwIf ∧ b1 = znt f n (znt f n b) ∧ is = true) ∨ (zisW f n (znt f n (znt f n b)) zwIf ∧ zCv f n (zAv f n e 6) false true (znt f n (znt f n (znt f n b))) b1 is))
def zLsN (f : Nat → Int32) (n : Int) (e : Nat → Int32) : Nat → Int → Int32 → Int32 → Prop
  | 0, _, _, _ => False
  | k + 1, b, t, v => ∃ p t1, zLvt f n e b p t t1 ∧ ((n ≤ p ∧ v = t1) ∨ (¬ n ≤ p ∧ zisS f n p 59 ∧ zLsN f n e k (znt f n p) t1 v))
def zLwV (f : Nat → Int32) (n : Int) (e : Nat → Int32) (v : Int32) : Prop := (n ≤ zbg f n 0 ∧ v = 0) ∨ (¬ n ≤ zbg f n 0 ∧ zLsN f n e 12 (zbg f n 0) 0 v)
/-! where a text of worth ends lies behind its begin, and within the text -/
theorem zSvN_gt {f : Nat → Int32} {n : Int} {e : Nat → Int32} : ∀ (k : Nat) (b : Int) (a : Int32) (b1 : Int) (v : Int32), 0 ≤ b → zSvN f n e k b a b1 v → b < b1 ∧ b1 ≤ n
  | 0, _, _, _, _, _, h => False.elim h
  | k + 1, b, a, b1, v, h0, h => by
    obtain ⟨w, p, q⟩ := (show ∃ w, zPtV f n e b w ∧ ((¬ zisS f n (znt f n b) 43 ∧ b1 = znt f n b ∧ v = a + w) ∨ (zisS f n (znt f n b) 43 ∧ zSvN f n e k (znt f n (znt f n b)) (a + w) b1 v)) from h)
    have l : b < znt f n b := zMv_lt h0 (zPtV_pt p) rfl
    have l2 : znt f n b ≤ n := zMv_le h0 (zPtV_pt p) rfl
    rcases q with ⟨_, q, _⟩ | ⟨q, r⟩
    · rw [q]; exact ⟨l, l2⟩
    · have l3 : znt f n b < znt f n (znt f n b) := zMv_lt (by omega) (zisS_z q) rfl
      have := zSvN_gt k _ _ _ _ (by omega) r
      omega
theorem zSv_gt {f : Nat → Int32} {n : Int} {e : Nat → Int32} {b b1 : Int} {a v : Int32} (h0 : 0 ≤ b) (h : zSv f n e b a b1 v) : b < b1 ∧ b1 ≤ n := by
  obtain ⟨k, h⟩ := h
  exact zSvN_gt k _ _ _ _ h0 h
theorem zbt {f : Nat → Int32} {n a b : Int} (e : a = znx f n b) : zbg f n a = znt f n b := by subst e; rfl
theorem zbz {f : Nat → Int32} {n p t : Int} (e : p = zbg f n t) : zbg f n p = zbg f n t := by rw [e, zbg_idem]
theorem zbs {f : Nat → Int32} {n p t : Int} (h : zSk f n p t) : zbg f n t = zbg f n p := zbz h
theorem zb1 {f : Nat → Int32} {n a0 a1 a2 c : Int} (sk : zSk f n a0 a1) (hs : zisS f n a1 c) (e : a2 = a1 + 1) : zbg f n a2 = znt f n (zbg f n a0) := by
  have e1 : a1 = zbg f n a0 := sk
  rw [← e1]; unfold znt; rw [zisS_nx hs, ← e]
theorem zisS_b {f : Nat → Int32} {n a0 a1 c d : Int} (sk : zSk f n a0 a1) (hs : zisS f n a1 c) (e : c = d) : zisS f n (zbg f n a0) d := by
  have e1 : a1 = zbg f n a0 := sk
  rw [← e1, ← e]; exact hs
theorem zisS_bn {f : Nat → Int32} {n a0 a1 c d : Int} (sk : zSk f n a0 a1) (hs : ¬ zisS f n a1 c) (e : c = d) : ¬ zisS f n (zbg f n a0) d := by
  have e1 : a1 = zbg f n a0 := sk
  rw [← e1, ← e]; exact hs
theorem zSvP {f : Nat → Int32} {n a0 a1 a2 b1 c : Int} {e : Nat → Int32} {x v : Int32} (J : zSvT f n e (zbg f n a0) x b1 v) (sk : zSk f n a0 a1) (hs : zisS f n a1 c) (hc : c = 43) (e2 : a2 = a1 + 1) : zSv f n e (zbg f n a2) x b1 v := by
  rcases J with ⟨a, _⟩ | ⟨_, d⟩
  · exact absurd (zisS_b sk hs hc) a
  · rw [zb1 sk hs e2]; exact d
theorem zSvX {f : Nat → Int32} {n a0 a1 b1 c : Int} {e : Nat → Int32} {x v : Int32} (J : zSvT f n e (zbg f n a0) x b1 v) (sk : zSk f n a0 a1) (hs : ¬ zisS f n a1 c) (hc : c = 43) : zbg f n a1 = b1 ∧ x = v := by
  rcases J with ⟨_, a, d⟩ | ⟨d, _⟩
  · exact ⟨(zbs sk).trans a.symm, d.symm⟩
  · exact absurd d (zisS_bn sk hs hc)
theorem zPlV_d {f : Nat → Int32} {n b b1 : Int} {e : Nat → Int32} {v : Bool} (h : zPlV f n e b b1 v) (w : zisW f n b zwDry) : b1 = znt f n b ∧ v = zNz (e 6) := by
  rcases h with ⟨_, a⟩ | ⟨a, _⟩ | ⟨a, _⟩
  · exact a
  · exact (zisW_ne a w (by decide) (by decide)).elim
  · exact absurd w a
theorem zPlV_o {f : Nat → Int32} {n b b1 : Int} {e : Nat → Int32} {v : Bool} (h : zPlV f n e b b1 v) (w : zisW f n b zwOwner) : b1 = znt f n b ∧ v = zNz (e 7) := by
  rcases h with ⟨a, _⟩ | ⟨_, a⟩ | ⟨_, a, _⟩
  · exact (zisW_ne a w (by decide) (by decide)).elim
  · exact a
  · exact absurd w a
theorem zPlV_s {f : Nat → Int32} {n b b1 : Int} {e : Nat → Int32} {v : Bool} (h : zPlV f n e b b1 v) (nd : ¬ zisW f n b zwDry) (no : ¬ zisW f n b zwOwner) : ∃ p x y, zSv f n e b 0 p x ∧ ((zisS f n p 60 ∧ v = decide (x.toInt < y.toInt)) ∨ (zisS f n p 62 ∧ v = decide (y.toInt < x.toInt))) ∧ zSv f n e (znt f n p) 0 b1 y := by
  rcases h with ⟨a, _⟩ | ⟨a, _⟩ | ⟨_, _, a⟩
  · exact absurd a nd
  · exact absurd a no
  · exact a
theorem zLs60 {f : Nat → Int32} {n p : Int} {P Q : Prop} (h : (zisS f n p 60 ∧ P) ∨ (zisS f n p 62 ∧ Q)) (k : zisS f n p 60) : P := by
  rcases h with h | h
  · exact h.2
  · exact absurd (k.2.symm.trans h.1.2) (by decide)
theorem zLs62 {f : Nat → Int32} {n p : Int} {P Q : Prop} (h : (zisS f n p 60 ∧ P) ∨ (zisS f n p 62 ∧ Q)) (k : zisS f n p 62) : Q := by
  rcases h with h | h
  · exact absurd (k.2.symm.trans h.1.2) (by decide)
  · exact h.2
theorem zBd_t {v : Bool} {P : Prop} [d : Decidable P] (e : v = decide P) (h : P) : 1 = zBi v := by rw [e, decide_eq_true h]; rfl
theorem zBd_f {v : Bool} {P : Prop} [d : Decidable P] (e : v = decide P) (h : ¬ P) : 0 = zBi v := by rw [e, decide_eq_false h]; rfl
theorem zBn0 {v : Bool} (h : ¬ (zBi (!v)).toInt = 0) : 0 = zBi v := by
  cases v
  · rfl
  · exact absurd (by decide) h
theorem zBn1 {v : Bool} (h : (zBi (!v)).toInt = 0) : 1 = zBi v := by
  cases v
  · exact absurd h (by decide)
  · rfl
theorem zBiA {a w : Bool} (h : ¬ (zBi a).toInt = 0) (k : ¬ (zBi w).toInt = 0) : 1 = zBi (a && w) := by
  cases a
  · exact absurd (by decide) h
  · cases w
    · exact absurd (by decide) k
    · rfl
theorem zBiA0 {a w : Bool} (h : (zBi a).toInt = 0) : 0 = zBi (a && w) := by
  cases a
  · rfl
  · exact absurd h (by decide)
theorem zBiA1 {a w : Bool} (k : (zBi w).toInt = 0) : 0 = zBi (a && w) := by
  cases w
  · cases a <;> rfl
  · exact absurd k (by decide)
theorem zBo1 {a w : Bool} (h : ¬ (zBi a).toInt = 0) : 1 = zBi (a || w) := by
  cases a
  · exact absurd (by decide) h
  · rfl
theorem zBo2 {a w : Bool} (k : ¬ (zBi w).toInt = 0) : 1 = zBi (a || w) := by
  cases w
  · exact absurd (by decide) k
  · cases a <;> rfl
theorem zBo0 {a w : Bool} (h : (zBi a).toInt = 0) (k : (zBi w).toInt = 0) : 0 = zBi (a || w) := by
  cases a
  · cases w
    · rfl
    · exact absurd k (by decide)
  · exact absurd h (by decide)
/-! atoms, conditions: told by their worth -/
theorem zAv_p {f : Nat → Int32} {n b b1 : Int} {e : Nat → Int32} {v : Bool} : ∀ {k : Nat}, zAv f n e k b b1 v → ¬ zDeep f n b → zPlV f n e b b1 v
  | 0, h, _ => h.2
  | _ + 1, h, nd => by
    rcases h with ⟨a, _⟩ | ⟨a, _⟩ | ⟨_, a⟩
    · exact absurd (Or.inl a) nd
    · exact absurd (Or.inr a) nd
    · exact a
theorem zAv_0 {f : Nat → Int32} {n b b1 : Int} {e : Nat → Int32} {v : Bool} (h : zAv f n e 0 b b1 v) (d : zDeep f n b) : False := h.1 d
theorem zisWS {f : Nat → Int32} {n b c : Int} {bs : List Int32} (h : zisW f n b bs) (k : zisS f n b c) : False := absurd (h.1.symm.trans k.1) (by decide)
theorem zAv_n {f : Nat → Int32} {n b b1 : Int} {e : Nat → Int32} {v : Bool} {k : Nat} (h : zAv f n e (k + 1) b b1 v) (w : zisW f n b zwNot) : zAv f n e k (znt f n b) b1 (!v) := by
  rcases h with ⟨_, a⟩ | ⟨a, _⟩ | ⟨a, _⟩
  · exact a
  · exact (zisWS w a).elim
  · exact absurd (Or.inl w) a
theorem zAv_q {f : Nat → Int32} {n b b1 : Int} {e : Nat → Int32} {v : Bool} {k : Nat} (h : zAv f n e (k + 1) b b1 v) (w : zisS f n b 40) : ∃ p, zCv f n (zAv f n e k) false true (znt f n b) p v ∧ zisS f n p 41 ∧ b1 = znt f n p := by
  rcases h with ⟨a, _⟩ | ⟨_, a⟩ | ⟨a, _⟩
  · exact (zisWS a w).elim
  · exact a
  · exact absurd (Or.inr w) a
def zCvE (f : Nat → Int32) (n : Int) (A : Int → Int → Bool → Prop) (o a : Bool) (p b1 : Int) (v : Bool) : Prop := ¬ zisW f n p zwAnd ∧ ((zisW f n p zwOr ∧ zCv f n A (o || a) true (znt f n p) b1 v) ∨ (¬ zisW f n p zwOr ∧ b1 = p ∧ v = (o || a)))
def zCvM (f : Nat → Int32) (n : Int) (A : Int → Int → Bool → Prop) (o a : Bool) (p b1 : Int) (v : Bool) : Prop := (zisW f n p zwAnd ∧ zCv f n A o a (znt f n p) b1 v) ∨ zCvE f n A o a p b1 v
def zCvO (f : Nat → Int32) (n : Int) (A : Int → Int → Bool → Prop) (o : Bool) (p b1 : Int) (v : Bool) : Prop := (zisW f n p zwOr ∧ zCv f n A o true (znt f n p) b1 v) ∨ (¬ zisW f n p zwOr ∧ b1 = p ∧ v = o)
theorem zCv_a {f : Nat → Int32} {n b b1 : Int} {A : Int → Int → Bool → Prop} {o a v : Bool} (h : zCv f n A o a b b1 v) : ∃ p w, A b p w ∧ zCvM f n A o (a && w) p b1 v := by
  obtain ⟨p, w, h1, h2⟩ := zCv_i h
  refine ⟨p, w, h1, ?_⟩
  rcases h2 with h2 | ⟨c, d, e⟩ | ⟨c, d, e⟩
  · exact Or.inl h2
  · exact Or.inr ⟨c, Or.inl ⟨d, e⟩⟩
  · exact Or.inr ⟨c, Or.inr ⟨d, e⟩⟩
theorem zCvM_y {f : Nat → Int32} {n p b1 : Int} {A : Int → Int → Bool → Prop} {o a v : Bool} (h : zCvM f n A o a p b1 v) (w : zisW f n p zwAnd) : zCv f n A o a (znt f n p) b1 v := by
  rcases h with ⟨_, h⟩ | ⟨h, _⟩
  · exact h
  · exact absurd w h
theorem zCvM_n {f : Nat → Int32} {n p b1 : Int} {A : Int → Int → Bool → Prop} {o a v : Bool} (h : zCvM f n A o a p b1 v) (w : ¬ zisW f n p zwAnd) : zCvE f n A o a p b1 v := by
  rcases h with ⟨h, _⟩ | h
  · exact absurd h w
  · exact h
theorem zCvE_o {f : Nat → Int32} {n p b1 : Int} {A : Int → Int → Bool → Prop} {o a v : Bool} (h : zCvE f n A o a p b1 v) : zCvO f n A (o || a) p b1 v := h.2
theorem zCvO_y {f : Nat → Int32} {n p b1 : Int} {A : Int → Int → Bool → Prop} {o v : Bool} (h : zCvO f n A o p b1 v) (w : zisW f n p zwOr) : zCv f n A o true (znt f n p) b1 v := by
  rcases h with ⟨_, h⟩ | ⟨h, _⟩
  · exact h
  · exact absurd w h
theorem zCvO_n {f : Nat → Int32} {n p b1 : Int} {A : Int → Int → Bool → Prop} {o v : Bool} (h : zCvO f n A o p b1 v) (w : ¬ zisW f n p zwOr) : b1 = p ∧ v = o := by
  rcases h with ⟨h, _⟩ | ⟨_, h⟩
  · exact absurd h w
  · exact h
theorem zCvM_w {f : Nat → Int32} {n p b1 : Int} {A : Int → Int → Bool → Prop} {o v : Bool} {w : Bool} (h : zCvM f n A o (true && w) p b1 v) : zCvM f n A o w p b1 v := by
  rw [Bool.true_and] at h; exact h
theorem zCvO_w {f : Nat → Int32} {n p b1 : Int} {A : Int → Int → Bool → Prop} {v w : Bool} (h : zCvO f n A (false || w) p b1 v) : zCvO f n A w p b1 v := by
  rw [Bool.false_or] at h; exact h
theorem zAt_b {f : Nat → Int32} {n b b' b1 : Int} {A : Int → Int → Bool → Prop} {w : Bool} (h : A b b1 w) (e : b' = b) : A b' b1 w := by subst e; exact h
theorem zCM_b {f : Nat → Int32} {n p p' b1 : Int} {A : Int → Int → Bool → Prop} {o a v : Bool} (h : zCvM f n A o a p b1 v) (e : p' = p) : zCvM f n A o a p' b1 v := by subst e; exact h
theorem zCO_b {f : Nat → Int32} {n p p' b1 : Int} {A : Int → Int → Bool → Prop} {o v : Bool} (h : zCvO f n A o p b1 v) (e : p' = p) : zCvO f n A o p' b1 v := by subst e; exact h
theorem zCE_b {f : Nat → Int32} {n p p' b1 : Int} {A : Int → Int → Bool → Prop} {o a v : Bool} (h : zCvE f n A o a p b1 v) (e : p' = p) : zCvE f n A o a p' b1 v := by subst e; exact h
theorem zCv_b {f : Nat → Int32} {n b b' b1 : Int} {A : Int → Int → Bool → Prop} {o a v : Bool} (h : zCv f n A o a b b1 v) (e : b' = b) : zCv f n A o a b' b1 v := by subst e; exact h
theorem zAv_b {f : Nat → Int32} {n b b' b1 : Int} {e : Nat → Int32} {k : Nat} {v : Bool} (h : zAv f n e k b b1 v) (eb : b' = b) : zAv f n e k b' b1 v := by subst eb; exact h
theorem zPlV_b {f : Nat → Int32} {n b b' b1 : Int} {e : Nat → Int32} {v : Bool} (h : zPlV f n e b b1 v) (eb : b' = b) : zPlV f n e b' b1 v := by subst eb; exact h
theorem zBi_tr {v : Bool} (h : ¬ (zBi v).toInt = 0) : v = true := by
  cases v
  · exact absurd (by decide) h
  · rfl
theorem zBi_fa {v : Bool} (h : (zBi v).toInt = 0) : v = false := by
  cases v
  · rfl
  · exact absurd h (by decide)
theorem zLv_r {R L P Q : Prop} (h : (R ∧ P) ∨ (¬ R ∧ L ∧ Q)) (r : R) : P := by
  rcases h with h | h
  · exact h.2
  · exact absurd r h.1
theorem zLv_l {R L P Q : Prop} (h : (R ∧ P) ∨ (¬ R ∧ L ∧ Q)) (r : ¬ R) : L ∧ Q := by
  rcases h with h | h
  · exact absurd h.1 r
  · exact h.2
theorem zLv_n {I P Q : Prop} (h : (¬ I ∧ P) ∨ (I ∧ Q)) (r : ¬ I) : P := by
  rcases h with h | h
  · exact h.2
  · exact absurd h.1 r
theorem zLv_y {I P Q : Prop} (h : (¬ I ∧ P) ∨ (I ∧ Q)) (r : I) : Q := by
  rcases h with h | h
  · exact absurd r h.1
  · exact h.2
theorem zsubN (a b : Int32) : a + -b = a - b := (Int32.sub_eq_add_neg a b).symm
theorem zLs_i {f : Nat → Int32} {n b : Int} {e : Nat → Int32} {t v : Int32} {m : Nat} (h : zLsN f n e m b t v) : ∃ k p t1, m = k + 1 ∧ zLvt f n e b p t t1 ∧ ((n ≤ p ∧ v = t1) ∨ (¬ n ≤ p ∧ zisS f n p 59 ∧ zLsN f n e k (znt f n p) t1 v)) := by
  cases m with
  | zero => exact False.elim h
  | succ k =>
    obtain ⟨p, t1, h1, h2⟩ := (show ∃ p t1, zLvt f n e b p t t1 ∧ ((n ≤ p ∧ v = t1) ∨ (¬ n ≤ p ∧ zisS f n p 59 ∧ zLsN f n e k (znt f n p) t1 v)) from h)
    exact ⟨k, p, t1, rfl, h1, h2⟩
theorem zLs_b {f : Nat → Int32} {n b b' : Int} {e : Nat → Int32} {t v : Int32} {m m' : Nat} (h : zLsN f n e m b t v) (eb : b' = b) (em : m' = m) : zLsN f n e m' b' t v := by subst eb; subst em; exact h
theorem zLvt_b {f : Nat → Int32} {n b b' b1 : Int} {e : Nat → Int32} {t t1 : Int32} (h : zLvt f n e b b1 t t1) (eb : b' = b) : zLvt f n e b' b1 t t1 := by subst eb; exact h
theorem zPlV_le {f : Nat → Int32} {n b b1 : Int} {e : Nat → Int32} {v : Bool} (h0 : 0 ≤ b) (h : zPlV f n e b b1 v) : 0 ≤ b1 ∧ b1 ≤ n := by
  rcases h with ⟨w, q, _⟩ | ⟨w, q, _⟩ | ⟨_, _, p, x, y, _, _, h⟩
  · rw [q]; exact ⟨zbg_0 f n _, zMv_le h0 (zisW_z w) rfl⟩
  · rw [q]; exact ⟨zbg_0 f n _, zMv_le h0 (zisW_z w) rfl⟩
  · have g := zbg_0 f n (znx f n p)
    have k := zSv_gt (zbg_0 f n (znx f n p)) h
    have k1 : zbg f n (znx f n p) < b1 := k.1
    exact ⟨by omega, k.2⟩
theorem zCvN_le {f : Nat → Int32} {n : Int} {A : Int → Int → Bool → Prop} (H : ∀ b b1 v, 0 ≤ b → A b b1 v → 0 ≤ b1 ∧ b1 ≤ n) : ∀ (k : Nat) (o a : Bool) (b b1 : Int) (v : Bool), 0 ≤ b → zCvN f n A k o a b b1 v → 0 ≤ b1 ∧ b1 ≤ n
  | 0, _, _, _, _, _, _, h => False.elim h
  | k + 1, o, a, b, b1, v, h0, h => by
    obtain ⟨p, w, h1, h2⟩ := (show zCvS f n A (zCvN f n A k) o a b b1 v from h)
    rcases h2 with ⟨_, d⟩ | ⟨_, _, d⟩ | ⟨_, _, d, _⟩
    · exact zCvN_le H k _ _ _ _ _ (zbg_0 f n _) d
    · exact zCvN_le H k _ _ _ _ _ (zbg_0 f n _) d
    · rw [d]; exact H _ _ _ h0 h1
theorem zAv_le {f : Nat → Int32} {n : Int} {e : Nat → Int32} : ∀ (k : Nat) (b b1 : Int) (v : Bool), 0 ≤ b → zAv f n e k b b1 v → 0 ≤ b1 ∧ b1 ≤ n
  | 0, b, b1, v, h0, h => zPlV_le h0 h.2
  | k + 1, b, b1, v, h0, h => by
    rcases h with ⟨_, h⟩ | ⟨_, p, ⟨j, c⟩, w, q⟩ | ⟨_, h⟩
    · exact zAv_le k _ _ _ (zbg_0 f n _) h
    · have g := zCvN_le (fun b b1 v h0 h => zAv_le k b b1 v h0 h) j _ _ _ _ _ (zbg_0 f n _) c
      rw [q]; exact ⟨zbg_0 f n _, zMv_le g.1 (zisS_z w) rfl⟩
    · exact zPlV_le h0 h
theorem zLvt_le {f : Nat → Int32} {n b b1 : Int} {e : Nat → Int32} {t t1 : Int32} (h : zLvt f n e b b1 t t1) : b1 ≤ n := by
  obtain ⟨w, is, hn, _, h2⟩ := h
  rcases h2 with ⟨_, q, _⟩ | ⟨_, k, h⟩
  · rw [q]; exact zMv_le (zbg_0 f n _) (zNu_z hn) rfl
  · exact (zCvN_le (fun b b1 v h0 h => zAv_le 6 b b1 v h0 h) k _ _ _ _ _ (zbg_0 f n _) h).2
/-- between two lines: g: go on; c lines are read -/
def zRv (f : Nat → Int32) (n : Int) (e : Nat → Int32) (g c a : Int) (t v : Int32) : Prop := (g = 0 ∧ t = v) ∨ (g = 1 ∧ 0 ≤ c ∧ zLsN f n e (12 - c).toNat (zbg f n a) t v)
theorem zRv_1 {f : Nat → Int32} {n : Int} {e : Nat → Int32} {g c a : Int} {t v : Int32} (h : zRv f n e g c a t v) (hg : ¬ g = 0) : 0 ≤ c ∧ zLsN f n e (12 - c).toNat (zbg f n a) t v := by
  rcases h with h | h
  · exact absurd h.1 hg
  · exact h.2
theorem zRv_0 {f : Nat → Int32} {n : Int} {e : Nat → Int32} {g c a : Int} {t v : Int32} (h : zRv f n e g c a t v) (hg : g = 0) : t = v := by
  rcases h with h | h
  · exact h.2
  · omega
theorem zRv_e1 {f : Nat → Int32} {n t0 a : Int} {e : Nat → Int32} {t v : Int32} (h : (n ≤ zbg f n t0 ∧ v = t) ∨ (¬ n ≤ zbg f n t0 ∧ zLsN f n e 12 (zbg f n t0) t v)) (sk : zSk f n t0 a) (l : a < n) : zRv f n e (1 : Int32).toInt (0 : Int32).toInt a t v := by
  have ea : a = zbg f n t0 := sk
  rcases h with h | h
  · omega
  · exact Or.inr ⟨by decide, by decide, zLs_b h.2 (zbs sk) (by decide)⟩
theorem zRv_e0 {f : Nat → Int32} {n t0 a : Int} {e : Nat → Int32} {t v : Int32} {c : Int} (h : (n ≤ zbg f n t0 ∧ v = t) ∨ (¬ n ≤ zbg f n t0 ∧ zLsN f n e 12 (zbg f n t0) t v)) (sk : zSk f n t0 a) (l : n ≤ a) : zRv f n e (0 : Int32).toInt c a t v := by
  have ea : a = zbg f n t0 := sk
  rcases h with h | h
  · exact Or.inl ⟨by decide, h.2.symm⟩
  · omega
theorem zRv_stop {f : Nat → Int32} {n : Int} {e : Nat → Int32} {p t1 v : Int32} {k : Nat} {P c a : Int} (h : (n ≤ P ∧ v = t1) ∨ (¬ n ≤ P ∧ zisS f n P 59 ∧ zLsN f n e k (znt f n P) t1 v)) (l : n ≤ P) : zRv f n e (0 : Int32).toInt c a t1 v := by
  rcases h with h | h
  · exact Or.inl ⟨by decide, h.2.symm⟩
  · exact absurd l h.1
theorem zRv_go {f : Nat → Int32} {n : Int} {e : Nat → Int32} {t1 v : Int32} {k m : Nat} {P c c' a0 a1 a2 s g : Int} (hg : g = 1) (h : (n ≤ P ∧ v = t1) ∨ (¬ n ≤ P ∧ zisS f n P 59 ∧ zLsN f n e k (znt f n P) t1 v)) (l : ¬ n ≤ P) (hm : m = k + 1) (em : m = (12 - c).toNat) (hc : c' = c + 1) (h0 : 0 ≤ c) (eP : zbg f n a0 = P) (sk : zSk f n a0 a1) (hs : zisS f n a1 s) (e2 : a2 = a1 + 1) : zRv f n e g c' a2 t1 v := by
  rcases h with h | h
  · exact absurd h.1 l
  · refine Or.inr ⟨hg, by omega, zLs_b h.2.2 ?_ (by omega)⟩
    rw [zb1 sk hs e2, eP]
theorem zRv_sep {f : Nat → Int32} {n : Int} {e : Nat → Int32} {t1 v : Int32} {k : Nat} {P a0 a1 s : Int} (h : (n ≤ P ∧ v = t1) ∨ (¬ n ≤ P ∧ zisS f n P 59 ∧ zLsN f n e k (znt f n P) t1 v)) (l : ¬ n ≤ P) (eP : zbg f n a0 = P) (sk : zSk f n a0 a1) (hs : ¬ zisS f n a1 s) (hc : s = 59) : False := by
  rcases h with h | h
  · exact l h.1
  · exact zisS_bn sk hs hc (by rw [eP]; exact h.2.1)
set_option maxRecDepth 100000 in
set_option maxHeartbeats 4000000 in
theorem m_partV (l : Launch) (g : zG) (o : Nat) (a : Nat → Nat) (th : Int32) (hi : Int32) (ac : Int32) (tp : Int32) (en : Int32) (tA : Int32) (de : Int32) (iD : Int32) (iO : Int32) (tU : Int32) (fm : Nat → Int32) (fk : Nat → Int32) (fa : Nat → Int32) (fc : Nat → Int32) (ft : Nat → Int32) (ff : Nat → Int32) (fb : Nat → Int32) (fi : Nat → Int32) (tx : Nat → Int32) (ev : Nat → Int32) (pv : Int32) (hen : 0 ≤ en.toInt ∧ en.toInt ≤ 400) (htA : 0 ≤ tA.toInt ∧ tA.toInt ≤ en.toInt + 7 - de.toInt) (hde : 0 ≤ de.toInt ∧ de.toInt ≤ 6) (hff : ∀ k9 : Nat, k9 < 6 → ff k9 = ev k9) (hp : zPtV tx en.toInt ev (zbg tx en.toInt tA.toInt) pv) (htx : ∀ k9 : Nat, (k9 : Int) < en.toInt → fm (379 + k9) = tx k9) : zM' g l yX12_part (Cond.code yX12_part cX12_part 2 (some .int) :: zB) ({ frames := 5, cells := 0, slots := 0, locals := 108 } : Room) [.ref o] [bMo g o a th hi ac tp 379 en tA (-1) de iD iO tU fm fk fa fc ft ff fb fi] (fun (at2 : Int32) => some (.int pv)) (fun (at2 : Int32) => (0 ≤ at2.toInt ∧ at2.toInt ≤ en.toInt + 7 - de.toInt) ∧ (tA.toInt ≤ at2.toInt) ∧ (at2.toInt = znx tx en.toInt (zbg tx en.toInt tA.toInt))) (fun (at2 : Int32) => [bMo g o a th hi ac tp 379 en at2 (-1) de iD iO tU fm fk fa fc ft ff fb fi]) := by
  refine zM'.of (cc := cX12_part) (maxL := 2) (rt := (some .int)) (by decide) rfl (Nat.le_of_ble_eq_true rfl) ?_
  intro p e s m args below meth c A ls St hr hlocks hin hK hT hA hP hD hS hl
  obtain ⟨hx, hb, hml, hown, hts⟩ := id St
  have hl : lv_has ls 2 [(0, .ref o)] := hl
  refine lv_aload_n hx hb dX12_part_0 rfl (lv_at hl 0 rfl) ?_
  refine va_get (D := g.1) (ci := 10) (v := .int (-1)) (C := RX12) (T := TX12) (N := 20) hx hb hts izRX12 hown hK hP 0 rfl rfl 12 (by decide) (hts _ k820) (fun _ h9 => h9) rfl dX12_part_1 ?_
  refine lv_iconst (v := (-1)) hx hb dX12_part_4 (by decide) ?_
  refine lv_icmp_eq (tgt := 10) hx hb dX12_part_5 (by decide) (fun _ => ?_) (fun c1 => absurd (by decide) c1)
  refine lv_aload_n hx hb dX12_part_10 rfl (lv_at hl 0 rfl) ?_
  refine mcallV' (g := g) (q0 := 0) (ci := 10) (As := []) (rest := []) St hK hT hA hP hD hS hl.1 [0] [] rfl rfl rfl (m_skipH l g o a th hi ac tp en tA (-1) de iD iO tU fm fk fa fc ft ff fb fi tx hen htA hde htx) (cwV 0 hts (zgL (zl4 k884 k885 k886 k839) k877) rfl rfl rfl (by decide +kernel) ⟨Nat.le_of_ble_eq_true rfl, Nat.le_of_ble_eq_true rfl⟩) rfl rfl rfl rfl (Nat.le_of_ble_eq_true rfl) dX12_part_11 ⟨(Nat.le_of_ble_eq_true rfl), (Nat.le_of_ble_eq_true rfl)⟩ (fun at2_2 H locs hq3 hP hD hS => ?_)
  replace hq3 : (0 ≤ at2_2.toInt ∧ at2_2.toInt ≤ en.toInt + 7 - de.toInt) ∧ (tA.toInt ≤ at2_2.toInt) ∧ (zSk tx en.toInt tA.toInt at2_2.toInt) := hq3
  have hP : va_P g.1 vwCl (List.flatten [bMo g o a th hi ac tp 379 en at2_2 (-1) de iD iO tU fm fk fa fc ft ff fb fi]) H := hP
  have hD : va_D A (List.flatten [bMo g o a th hi ac tp 379 en at2_2 (-1) de iD iO tU fm fk fa fc ft ff fb fi]) := hD
  refine W.widen (k := 0) (n := 0) (Nat.le_of_ble_eq_true rfl) (Nat.le_of_ble_eq_true rfl) ?_
  refine W.eq (g2 := F0 m 14 ls []) rfl ?_
  obtain ⟨hq3_0, hq3_1, hq3_2⟩ := hq3
  refine lv_aload_n hx hb dX12_part_14 rfl (lv_at hl 0 rfl) ?_
  refine va_get (D := g.1) (ci := 10) (v := .int at2_2) (C := RX12) (T := TX12) (N := 20) hx hb hts izRX12 hown hK hP 0 rfl rfl 11 (by decide) (hts _ k878) (fun _ h9 => h9) rfl dX12_part_15 ?_
  refine lv_aload_n hx hb dX12_part_18 rfl (lv_at hl 0 rfl) ?_
  refine va_get (D := g.1) (ci := 10) (v := .int en) (C := RX12) (T := TX12) (N := 20) hx hb hts izRX12 hown hK hP 0 rfl rfl 10 (by decide) (hts _ k879) (fun _ h9 => h9) rfl dX12_part_19 ?_
  refine lv_icmp_ge (tgt := 52) hx hb dX12_part_22 (by decide) (fun cb9 => ?_) (fun cb9 => ?_)
  · skip
    have c4 : en.toInt ≤ at2_2.toInt := zle cb9 rfl rfl
    refine lv_aload_n hx hb dX12_part_52 rfl (lv_at hl 0 rfl) ?_
    refine va_ldcS (q := g.2 86) hx hb hown (zra38 hT.2.1) dX12_part_53 ?_
    refine mcallV' (g := g) (q0 := 0) (ci := 10) (As := [.ref (g.2 86)]) (rest := []) St hK hT hA hP hD hS hl.1 [0] [] rfl rfl rfl (m_hasH l g o a th hi ac tp en at2_2 (-1) de iD iO tU fm fk fa fc ft ff fb fi tx (g.2 86) 38 zqa38 hen hq3_0 hde htx rfl zla38 zna38 (zlitB zla38)) (cwV 1 hts (zgL (zl4 k899 k900 k901 k839) k889) rfl rfl rfl (by decide +kernel) ⟨Nat.le_of_ble_eq_true rfl, Nat.le_of_ble_eq_true rfl⟩) rfl rfl rfl rfl (Nat.le_of_ble_eq_true rfl) dX12_part_55 ⟨(Nat.le_of_ble_eq_true rfl), (Nat.le_of_ble_eq_true rfl)⟩ (fun u_ H locs hq7 hP hD hS => ?_)
    obtain ⟨at2_5, r_6⟩ := u_
    replace hq7 : (0 ≤ at2_5.toInt ∧ at2_5.toInt ≤ en.toInt + 7 - de.toInt) ∧ (at2_2.toInt ≤ at2_5.toInt) ∧ (r_6 = 1 ∧ zisW tx en.toInt (zbg tx en.toInt at2_2.toInt) zqa38.2.2.2 ∧ at2_5.toInt = znx tx en.toInt (zbg tx en.toInt at2_2.toInt) ∧ at2_2.toInt < at2_5.toInt ∧ at2_5.toInt ≤ en.toInt ∨ r_6 = 0 ∧ ¬ zisW tx en.toInt (zbg tx en.toInt at2_2.toInt) zqa38.2.2.2 ∧ at2_5.toInt = zbg tx en.toInt at2_2.toInt) := hq7
    have hP : va_P g.1 vwCl (List.flatten [bMo g o a th hi ac tp 379 en at2_5 (-1) de iD iO tU fm fk fa fc ft ff fb fi]) H := hP
    have hD : va_D A (List.flatten [bMo g o a th hi ac tp 379 en at2_5 (-1) de iD iO tU fm fk fa fc ft ff fb fi]) := hD
    refine W.widen (k := 0) (n := 0) (Nat.le_of_ble_eq_true rfl) (Nat.le_of_ble_eq_true rfl) ?_
    refine W.eq (g2 := F0 m 58 ls [.int r_6]) rfl ?_
    obtain ⟨hq7_0, hq7_1, hq7_2⟩ := hq7
    rcases hq7_2 with ⟨rfl, hq7_k, hq7_km⟩ | ⟨rfl, hq7_k, hq7_km⟩
    · skip
      refine lv_if_eq (tgt := 65) hx hb dX12_part_58 (by decide) (fun c8 => absurd c8 (by decide)) (fun _ => ?_)
      refine lv_iconst (v := 0) hx hb dX12_part_61 (by decide) ?_
      refine lv_goto (tgt := 131) hx hb dX12_part_62 (by decide) ?_
      refine lv_istore_n (lv' := [(1, .int 0), (0, .ref o)]) hx hb dX12_part_131 rfl hl (by decide) rfl (fun ls hl => ?_)
      refine lv_iload_n hx hb dX12_part_132 rfl (lv_at hl 0 rfl) ?_
      refine lv_iconst (v := (-1)) hx hb dX12_part_133 (by decide) ?_
      refine lv_icmp_ne (tgt := 147) hx hb dX12_part_134 (by decide) (fun _ => ?_) (fun c9 => absurd c9 (by decide))
      refine lv_aload_n hx hb dX12_part_147 rfl (lv_at hl 1 rfl) ?_
      refine va_get (D := g.1) (ci := 10) (v := .ref (a 5)) (C := RX12) (T := TX12) (N := 20) hx hb hts izRX12 hown hK hP 0 rfl rfl 14 (by decide) (hts _ k821) (fun _ h9 => h9) rfl dX12_part_148 ?_
      refine lv_iload_n hx hb dX12_part_151 rfl (lv_at hl 0 rfl) ?_
      refine va_iald hx hb hK hP 6 0 rfl rfl (zin rfl) dX12_part_152 ?_
      refine ztop (r := (ff 0)) rfl ?_
      refine ztop (r := pv) (by rw [hff 0 (by decide)]; exact zPtV_0 hp (zBy (show _ = zbg tx en.toInt tA.toInt from hq3_2) hq7_k)) ?_
      have hP : va_P g.1 vwCl (List.flatten [bMo g o a th hi ac tp 379 en at2_5 (-1) de iD iO tU fm fk fa fc ft ff fb fi]) H := hP
      have hD : va_D A (List.flatten [bMo g o a th hi ac tp 379 en at2_5 (-1) de iD iO tU fm fk fa fc ft ff fb fi]) := hD
      exact mret_i hx hb hr hlocks hS (Nat.le_of_ble_eq_true rfl) (Nat.le_of_ble_eq_true rfl) dX12_part_153 (at2_5) rfl (show (0 ≤ at2_5.toInt ∧ at2_5.toInt ≤ en.toInt + 7 - de.toInt) ∧ (tA.toInt ≤ at2_5.toInt) ∧ (at2_5.toInt = znx tx en.toInt (zbg tx en.toInt tA.toInt)) from ⟨(by first | assumption | omega | decide), (by first | assumption | omega | decide), (zBx (show _ = zbg tx en.toInt tA.toInt from hq3_2) hq7_km.1)⟩) hP hD
    · skip
      refine lv_if_eq (tgt := 65) hx hb dX12_part_58 (by decide) (fun _ => ?_) (fun c10 => absurd (by decide) c10)
      refine lv_aload_n hx hb dX12_part_65 rfl (lv_at hl 0 rfl) ?_
      refine va_ldcS (q := g.2 88) hx hb hown (zra39 hT.2.1) dX12_part_66 ?_
      refine mcallV' (g := g) (q0 := 0) (ci := 10) (As := [.ref (g.2 88)]) (rest := []) St hK hT hA hP hD hS hl.1 [0] [] rfl rfl rfl (m_hasH l g o a th hi ac tp en at2_5 (-1) de iD iO tU fm fk fa fc ft ff fb fi tx (g.2 88) 39 zqa39 hen hq7_0 hde htx rfl zla39 zna39 (zlitB zla39)) (cwV 1 hts (zgL (zl4 k899 k900 k901 k839) k889) rfl rfl rfl (by decide +kernel) ⟨Nat.le_of_ble_eq_true rfl, Nat.le_of_ble_eq_true rfl⟩) rfl rfl rfl rfl (Nat.le_of_ble_eq_true rfl) dX12_part_68 ⟨(Nat.le_of_ble_eq_true rfl), (Nat.le_of_ble_eq_true rfl)⟩ (fun u_ H locs hq13 hP hD hS => ?_)
      obtain ⟨at2_11, r_12⟩ := u_
      replace hq13 : (0 ≤ at2_11.toInt ∧ at2_11.toInt ≤ en.toInt + 7 - de.toInt) ∧ (at2_5.toInt ≤ at2_11.toInt) ∧ (r_12 = 1 ∧ zisW tx en.toInt (zbg tx en.toInt at2_5.toInt) zqa39.2.2.2 ∧ at2_11.toInt = znx tx en.toInt (zbg tx en.toInt at2_5.toInt) ∧ at2_5.toInt < at2_11.toInt ∧ at2_11.toInt ≤ en.toInt ∨ r_12 = 0 ∧ ¬ zisW tx en.toInt (zbg tx en.toInt at2_5.toInt) zqa39.2.2.2 ∧ at2_11.toInt = zbg tx en.toInt at2_5.toInt) := hq13
      have hP : va_P g.1 vwCl (List.flatten [bMo g o a th hi ac tp 379 en at2_11 (-1) de iD iO tU fm fk fa fc ft ff fb fi]) H := hP
      have hD : va_D A (List.flatten [bMo g o a th hi ac tp 379 en at2_11 (-1) de iD iO tU fm fk fa fc ft ff fb fi]) := hD
      refine W.widen (k := 0) (n := 0) (Nat.le_of_ble_eq_true rfl) (Nat.le_of_ble_eq_true rfl) ?_
      refine W.eq (g2 := F0 m 71 ls [.int r_12]) rfl ?_
      obtain ⟨hq13_0, hq13_1, hq13_2⟩ := hq13
      rcases hq13_2 with ⟨rfl, hq13_k, hq13_km⟩ | ⟨rfl, hq13_k, hq13_km⟩
      · skip
        refine lv_if_eq (tgt := 78) hx hb dX12_part_71 (by decide) (fun c14 => absurd c14 (by decide)) (fun _ => ?_)
        refine lv_iconst (v := 1) hx hb dX12_part_74 (by decide) ?_
        refine lv_goto (tgt := 131) hx hb dX12_part_75 (by decide) ?_
        refine lv_istore_n (lv' := [(1, .int 1), (0, .ref o)]) hx hb dX12_part_131 rfl hl (by decide) rfl (fun ls hl => ?_)
        refine lv_iload_n hx hb dX12_part_132 rfl (lv_at hl 0 rfl) ?_
        refine lv_iconst (v := (-1)) hx hb dX12_part_133 (by decide) ?_
        refine lv_icmp_ne (tgt := 147) hx hb dX12_part_134 (by decide) (fun _ => ?_) (fun c15 => absurd c15 (by decide))
        refine lv_aload_n hx hb dX12_part_147 rfl (lv_at hl 1 rfl) ?_
        refine va_get (D := g.1) (ci := 10) (v := .ref (a 5)) (C := RX12) (T := TX12) (N := 20) hx hb hts izRX12 hown hK hP 0 rfl rfl 14 (by decide) (hts _ k821) (fun _ h9 => h9) rfl dX12_part_148 ?_
        refine lv_iload_n hx hb dX12_part_151 rfl (lv_at hl 0 rfl) ?_
        refine va_iald hx hb hK hP 6 0 rfl rfl (zin rfl) dX12_part_152 ?_
        refine ztop (r := (ff 1)) rfl ?_
        refine ztop (r := pv) (by rw [hff 1 (by decide)]; exact zPtV_1 hp (zBy (zBe (show _ = zbg tx en.toInt tA.toInt from hq3_2) hq7_km) hq13_k)) ?_
        have hP : va_P g.1 vwCl (List.flatten [bMo g o a th hi ac tp 379 en at2_11 (-1) de iD iO tU fm fk fa fc ft ff fb fi]) H := hP
        have hD : va_D A (List.flatten [bMo g o a th hi ac tp 379 en at2_11 (-1) de iD iO tU fm fk fa fc ft ff fb fi]) := hD
        exact mret_i hx hb hr hlocks hS (Nat.le_of_ble_eq_true rfl) (Nat.le_of_ble_eq_true rfl) dX12_part_153 (at2_11) rfl (show (0 ≤ at2_11.toInt ∧ at2_11.toInt ≤ en.toInt + 7 - de.toInt) ∧ (tA.toInt ≤ at2_11.toInt) ∧ (at2_11.toInt = znx tx en.toInt (zbg tx en.toInt tA.toInt)) from ⟨(by first | assumption | omega | decide), (by first | assumption | omega | decide), (zBx (zBe (show _ = zbg tx en.toInt tA.toInt from hq3_2) hq7_km) hq13_km.1)⟩) hP hD
      · skip
        refine lv_if_eq (tgt := 78) hx hb dX12_part_71 (by decide) (fun _ => ?_) (fun c16 => absurd (by decide) c16)
        refine lv_aload_n hx hb dX12_part_78 rfl (lv_at hl 0 rfl) ?_
        refine va_ldcS (q := g.2 90) hx hb hown (zra40 hT.2.1) dX12_part_79 ?_
        refine mcallV' (g := g) (q0 := 0) (ci := 10) (As := [.ref (g.2 90)]) (rest := []) St hK hT hA hP hD hS hl.1 [0] [] rfl rfl rfl (m_hasH l g o a th hi ac tp en at2_11 (-1) de iD iO tU fm fk fa fc ft ff fb fi tx (g.2 90) 40 zqa40 hen hq13_0 hde htx rfl zla40 zna40 (zlitB zla40)) (cwV 1 hts (zgL (zl4 k899 k900 k901 k839) k889) rfl rfl rfl (by decide +kernel) ⟨Nat.le_of_ble_eq_true rfl, Nat.le_of_ble_eq_true rfl⟩) rfl rfl rfl rfl (Nat.le_of_ble_eq_true rfl) dX12_part_81 ⟨(Nat.le_of_ble_eq_true rfl), (Nat.le_of_ble_eq_true rfl)⟩ (fun u_ H locs hq19 hP hD hS => ?_)
        obtain ⟨at2_17, r_18⟩ := u_
        replace hq19 : (0 ≤ at2_17.toInt ∧ at2_17.toInt ≤ en.toInt + 7 - de.toInt) ∧ (at2_11.toInt ≤ at2_17.toInt) ∧ (r_18 = 1 ∧ zisW tx en.toInt (zbg tx en.toInt at2_11.toInt) zqa40.2.2.2 ∧ at2_17.toInt = znx tx en.toInt (zbg tx en.toInt at2_11.toInt) ∧ at2_11.toInt < at2_17.toInt ∧ at2_17.toInt ≤ en.toInt ∨ r_18 = 0 ∧ ¬ zisW tx en.toInt (zbg tx en.toInt at2_11.toInt) zqa40.2.2.2 ∧ at2_17.toInt = zbg tx en.toInt at2_11.toInt) := hq19
        have hP : va_P g.1 vwCl (List.flatten [bMo g o a th hi ac tp 379 en at2_17 (-1) de iD iO tU fm fk fa fc ft ff fb fi]) H := hP
        have hD : va_D A (List.flatten [bMo g o a th hi ac tp 379 en at2_17 (-1) de iD iO tU fm fk fa fc ft ff fb fi]) := hD
        refine W.widen (k := 0) (n := 0) (Nat.le_of_ble_eq_true rfl) (Nat.le_of_ble_eq_true rfl) ?_
        refine W.eq (g2 := F0 m 84 ls [.int r_18]) rfl ?_
        obtain ⟨hq19_0, hq19_1, hq19_2⟩ := hq19
        rcases hq19_2 with ⟨rfl, hq19_k, hq19_km⟩ | ⟨rfl, hq19_k, hq19_km⟩
        · skip
          refine lv_if_eq (tgt := 91) hx hb dX12_part_84 (by decide) (fun c20 => absurd c20 (by decide)) (fun _ => ?_)
          refine lv_iconst (v := 2) hx hb dX12_part_87 (by decide) ?_
          refine lv_goto (tgt := 131) hx hb dX12_part_88 (by decide) ?_
          refine lv_istore_n (lv' := [(1, .int 2), (0, .ref o)]) hx hb dX12_part_131 rfl hl (by decide) rfl (fun ls hl => ?_)
          refine lv_iload_n hx hb dX12_part_132 rfl (lv_at hl 0 rfl) ?_
          refine lv_iconst (v := (-1)) hx hb dX12_part_133 (by decide) ?_
          refine lv_icmp_ne (tgt := 147) hx hb dX12_part_134 (by decide) (fun _ => ?_) (fun c21 => absurd c21 (by decide))
          refine lv_aload_n hx hb dX12_part_147 rfl (lv_at hl 1 rfl) ?_
          refine va_get (D := g.1) (ci := 10) (v := .ref (a 5)) (C := RX12) (T := TX12) (N := 20) hx hb hts izRX12 hown hK hP 0 rfl rfl 14 (by decide) (hts _ k821) (fun _ h9 => h9) rfl dX12_part_148 ?_
          refine lv_iload_n hx hb dX12_part_151 rfl (lv_at hl 0 rfl) ?_
          refine va_iald hx hb hK hP 6 0 rfl rfl (zin rfl) dX12_part_152 ?_
          refine ztop (r := (ff 2)) rfl ?_
          refine ztop (r := pv) (by rw [hff 2 (by decide)]; exact zPtV_2 hp (zBy (zBe (zBe (show _ = zbg tx en.toInt tA.toInt from hq3_2) hq7_km) hq13_km) hq19_k)) ?_
          have hP : va_P g.1 vwCl (List.flatten [bMo g o a th hi ac tp 379 en at2_17 (-1) de iD iO tU fm fk fa fc ft ff fb fi]) H := hP
          have hD : va_D A (List.flatten [bMo g o a th hi ac tp 379 en at2_17 (-1) de iD iO tU fm fk fa fc ft ff fb fi]) := hD
          exact mret_i hx hb hr hlocks hS (Nat.le_of_ble_eq_true rfl) (Nat.le_of_ble_eq_true rfl) dX12_part_153 (at2_17) rfl (show (0 ≤ at2_17.toInt ∧ at2_17.toInt ≤ en.toInt + 7 - de.toInt) ∧ (tA.toInt ≤ at2_17.toInt) ∧ (at2_17.toInt = znx tx en.toInt (zbg tx en.toInt tA.toInt)) from ⟨(by first | assumption | omega | decide), (by first | assumption | omega | decide), (zBx (zBe (zBe (show _ = zbg tx en.toInt tA.toInt from hq3_2) hq7_km) hq13_km) hq19_km.1)⟩) hP hD
        · skip
          refine lv_if_eq (tgt := 91) hx hb dX12_part_84 (by decide) (fun _ => ?_) (fun c22 => absurd (by decide) c22)
          refine lv_aload_n hx hb dX12_part_91 rfl (lv_at hl 0 rfl) ?_
          refine va_ldcS (q := g.2 92) hx hb hown (zra41 hT.2.1) dX12_part_92 ?_
          refine mcallV' (g := g) (q0 := 0) (ci := 10) (As := [.ref (g.2 92)]) (rest := []) St hK hT hA hP hD hS hl.1 [0] [] rfl rfl rfl (m_hasH l g o a th hi ac tp en at2_17 (-1) de iD iO tU fm fk fa fc ft ff fb fi tx (g.2 92) 41 zqa41 hen hq19_0 hde htx rfl zla41 zna41 (zlitB zla41)) (cwV 1 hts (zgL (zl4 k899 k900 k901 k839) k889) rfl rfl rfl (by decide +kernel) ⟨Nat.le_of_ble_eq_true rfl, Nat.le_of_ble_eq_true rfl⟩) rfl rfl rfl rfl (Nat.le_of_ble_eq_true rfl) dX12_part_94 ⟨(Nat.le_of_ble_eq_true rfl), (Nat.le_of_ble_eq_true rfl)⟩ (fun u_ H locs hq25 hP hD hS => ?_)
          obtain ⟨at2_23, r_24⟩ := u_
          replace hq25 : (0 ≤ at2_23.toInt ∧ at2_23.toInt ≤ en.toInt + 7 - de.toInt) ∧ (at2_17.toInt ≤ at2_23.toInt) ∧ (r_24 = 1 ∧ zisW tx en.toInt (zbg tx en.toInt at2_17.toInt) zqa41.2.2.2 ∧ at2_23.toInt = znx tx en.toInt (zbg tx en.toInt at2_17.toInt) ∧ at2_17.toInt < at2_23.toInt ∧ at2_23.toInt ≤ en.toInt ∨ r_24 = 0 ∧ ¬ zisW tx en.toInt (zbg tx en.toInt at2_17.toInt) zqa41.2.2.2 ∧ at2_23.toInt = zbg tx en.toInt at2_17.toInt) := hq25
          have hP : va_P g.1 vwCl (List.flatten [bMo g o a th hi ac tp 379 en at2_23 (-1) de iD iO tU fm fk fa fc ft ff fb fi]) H := hP
          have hD : va_D A (List.flatten [bMo g o a th hi ac tp 379 en at2_23 (-1) de iD iO tU fm fk fa fc ft ff fb fi]) := hD
          refine W.widen (k := 0) (n := 0) (Nat.le_of_ble_eq_true rfl) (Nat.le_of_ble_eq_true rfl) ?_
          refine W.eq (g2 := F0 m 97 ls [.int r_24]) rfl ?_
          obtain ⟨hq25_0, hq25_1, hq25_2⟩ := hq25
          rcases hq25_2 with ⟨rfl, hq25_k, hq25_km⟩ | ⟨rfl, hq25_k, hq25_km⟩
          · skip
            refine lv_if_eq (tgt := 104) hx hb dX12_part_97 (by decide) (fun c26 => absurd c26 (by decide)) (fun _ => ?_)
            refine lv_iconst (v := 3) hx hb dX12_part_100 (by decide) ?_
            refine lv_goto (tgt := 131) hx hb dX12_part_101 (by decide) ?_
            refine lv_istore_n (lv' := [(1, .int 3), (0, .ref o)]) hx hb dX12_part_131 rfl hl (by decide) rfl (fun ls hl => ?_)
            refine lv_iload_n hx hb dX12_part_132 rfl (lv_at hl 0 rfl) ?_
            refine lv_iconst (v := (-1)) hx hb dX12_part_133 (by decide) ?_
            refine lv_icmp_ne (tgt := 147) hx hb dX12_part_134 (by decide) (fun _ => ?_) (fun c27 => absurd c27 (by decide))
            refine lv_aload_n hx hb dX12_part_147 rfl (lv_at hl 1 rfl) ?_
            refine va_get (D := g.1) (ci := 10) (v := .ref (a 5)) (C := RX12) (T := TX12) (N := 20) hx hb hts izRX12 hown hK hP 0 rfl rfl 14 (by decide) (hts _ k821) (fun _ h9 => h9) rfl dX12_part_148 ?_
            refine lv_iload_n hx hb dX12_part_151 rfl (lv_at hl 0 rfl) ?_
            refine va_iald hx hb hK hP 6 0 rfl rfl (zin rfl) dX12_part_152 ?_
            refine ztop (r := (ff 3)) rfl ?_
            refine ztop (r := pv) (by rw [hff 3 (by decide)]; exact zPtV_3 hp (zBy (zBe (zBe (zBe (show _ = zbg tx en.toInt tA.toInt from hq3_2) hq7_km) hq13_km) hq19_km) hq25_k)) ?_
            have hP : va_P g.1 vwCl (List.flatten [bMo g o a th hi ac tp 379 en at2_23 (-1) de iD iO tU fm fk fa fc ft ff fb fi]) H := hP
            have hD : va_D A (List.flatten [bMo g o a th hi ac tp 379 en at2_23 (-1) de iD iO tU fm fk fa fc ft ff fb fi]) := hD
            exact mret_i hx hb hr hlocks hS (Nat.le_of_ble_eq_true rfl) (Nat.le_of_ble_eq_true rfl) dX12_part_153 (at2_23) rfl (show (0 ≤ at2_23.toInt ∧ at2_23.toInt ≤ en.toInt + 7 - de.toInt) ∧ (tA.toInt ≤ at2_23.toInt) ∧ (at2_23.toInt = znx tx en.toInt (zbg tx en.toInt tA.toInt)) from ⟨(by first | assumption | omega | decide), (by first | assumption | omega | decide), (zBx (zBe (zBe (zBe (show _ = zbg tx en.toInt tA.toInt from hq3_2) hq7_km) hq13_km) hq19_km) hq25_km.1)⟩) hP hD
          · skip
            refine lv_if_eq (tgt := 104) hx hb dX12_part_97 (by decide) (fun _ => ?_) (fun c28 => absurd (by decide) c28)
            refine lv_aload_n hx hb dX12_part_104 rfl (lv_at hl 0 rfl) ?_
            refine va_ldcS (q := g.2 94) hx hb hown (zra42 hT.2.1) dX12_part_105 ?_
            refine mcallV' (g := g) (q0 := 0) (ci := 10) (As := [.ref (g.2 94)]) (rest := []) St hK hT hA hP hD hS hl.1 [0] [] rfl rfl rfl (m_hasH l g o a th hi ac tp en at2_23 (-1) de iD iO tU fm fk fa fc ft ff fb fi tx (g.2 94) 42 zqa42 hen hq25_0 hde htx rfl zla42 zna42 (zlitB zla42)) (cwV 1 hts (zgL (zl4 k899 k900 k901 k839) k889) rfl rfl rfl (by decide +kernel) ⟨Nat.le_of_ble_eq_true rfl, Nat.le_of_ble_eq_true rfl⟩) rfl rfl rfl rfl (Nat.le_of_ble_eq_true rfl) dX12_part_107 ⟨(Nat.le_of_ble_eq_true rfl), (Nat.le_of_ble_eq_true rfl)⟩ (fun u_ H locs hq31 hP hD hS => ?_)
            obtain ⟨at2_29, r_30⟩ := u_
            replace hq31 : (0 ≤ at2_29.toInt ∧ at2_29.toInt ≤ en.toInt + 7 - de.toInt) ∧ (at2_23.toInt ≤ at2_29.toInt) ∧ (r_30 = 1 ∧ zisW tx en.toInt (zbg tx en.toInt at2_23.toInt) zqa42.2.2.2 ∧ at2_29.toInt = znx tx en.toInt (zbg tx en.toInt at2_23.toInt) ∧ at2_23.toInt < at2_29.toInt ∧ at2_29.toInt ≤ en.toInt ∨ r_30 = 0 ∧ ¬ zisW tx en.toInt (zbg tx en.toInt at2_23.toInt) zqa42.2.2.2 ∧ at2_29.toInt = zbg tx en.toInt at2_23.toInt) := hq31
            have hP : va_P g.1 vwCl (List.flatten [bMo g o a th hi ac tp 379 en at2_29 (-1) de iD iO tU fm fk fa fc ft ff fb fi]) H := hP
            have hD : va_D A (List.flatten [bMo g o a th hi ac tp 379 en at2_29 (-1) de iD iO tU fm fk fa fc ft ff fb fi]) := hD
            refine W.widen (k := 0) (n := 0) (Nat.le_of_ble_eq_true rfl) (Nat.le_of_ble_eq_true rfl) ?_
            refine W.eq (g2 := F0 m 110 ls [.int r_30]) rfl ?_
            obtain ⟨hq31_0, hq31_1, hq31_2⟩ := hq31
            rcases hq31_2 with ⟨rfl, hq31_k, hq31_km⟩ | ⟨rfl, hq31_k, hq31_km⟩
            · skip
              refine lv_if_eq (tgt := 117) hx hb dX12_part_110 (by decide) (fun c32 => absurd c32 (by decide)) (fun _ => ?_)
              refine lv_iconst (v := 4) hx hb dX12_part_113 (by decide) ?_
              refine lv_goto (tgt := 131) hx hb dX12_part_114 (by decide) ?_
              refine lv_istore_n (lv' := [(1, .int 4), (0, .ref o)]) hx hb dX12_part_131 rfl hl (by decide) rfl (fun ls hl => ?_)
              refine lv_iload_n hx hb dX12_part_132 rfl (lv_at hl 0 rfl) ?_
              refine lv_iconst (v := (-1)) hx hb dX12_part_133 (by decide) ?_
              refine lv_icmp_ne (tgt := 147) hx hb dX12_part_134 (by decide) (fun _ => ?_) (fun c33 => absurd c33 (by decide))
              refine lv_aload_n hx hb dX12_part_147 rfl (lv_at hl 1 rfl) ?_
              refine va_get (D := g.1) (ci := 10) (v := .ref (a 5)) (C := RX12) (T := TX12) (N := 20) hx hb hts izRX12 hown hK hP 0 rfl rfl 14 (by decide) (hts _ k821) (fun _ h9 => h9) rfl dX12_part_148 ?_
              refine lv_iload_n hx hb dX12_part_151 rfl (lv_at hl 0 rfl) ?_
              refine va_iald hx hb hK hP 6 0 rfl rfl (zin rfl) dX12_part_152 ?_
              refine ztop (r := (ff 4)) rfl ?_
              refine ztop (r := pv) (by rw [hff 4 (by decide)]; exact zPtV_4 hp (zBy (zBe (zBe (zBe (zBe (show _ = zbg tx en.toInt tA.toInt from hq3_2) hq7_km) hq13_km) hq19_km) hq25_km) hq31_k)) ?_
              have hP : va_P g.1 vwCl (List.flatten [bMo g o a th hi ac tp 379 en at2_29 (-1) de iD iO tU fm fk fa fc ft ff fb fi]) H := hP
              have hD : va_D A (List.flatten [bMo g o a th hi ac tp 379 en at2_29 (-1) de iD iO tU fm fk fa fc ft ff fb fi]) := hD
              exact mret_i hx hb hr hlocks hS (Nat.le_of_ble_eq_true rfl) (Nat.le_of_ble_eq_true rfl) dX12_part_153 (at2_29) rfl (show (0 ≤ at2_29.toInt ∧ at2_29.toInt ≤ en.toInt + 7 - de.toInt) ∧ (tA.toInt ≤ at2_29.toInt) ∧ (at2_29.toInt = znx tx en.toInt (zbg tx en.toInt tA.toInt)) from ⟨(by first | assumption | omega | decide), (by first | assumption | omega | decide), (zBx (zBe (zBe (zBe (zBe (show _ = zbg tx en.toInt tA.toInt from hq3_2) hq7_km) hq13_km) hq19_km) hq25_km) hq31_km.1)⟩) hP hD
            · skip
              refine lv_if_eq (tgt := 117) hx hb dX12_part_110 (by decide) (fun _ => ?_) (fun c34 => absurd (by decide) c34)
              refine lv_aload_n hx hb dX12_part_117 rfl (lv_at hl 0 rfl) ?_
              refine va_ldcS (q := g.2 84) hx hb hown (zra37 hT.2.1) dX12_part_118 ?_
              refine mcallV' (g := g) (q0 := 0) (ci := 10) (As := [.ref (g.2 84)]) (rest := []) St hK hT hA hP hD hS hl.1 [0] [] rfl rfl rfl (m_hasH l g o a th hi ac tp en at2_29 (-1) de iD iO tU fm fk fa fc ft ff fb fi tx (g.2 84) 37 zqa37 hen hq31_0 hde htx rfl zla37 zna37 (zlitB zla37)) (cwV 1 hts (zgL (zl4 k899 k900 k901 k839) k889) rfl rfl rfl (by decide +kernel) ⟨Nat.le_of_ble_eq_true rfl, Nat.le_of_ble_eq_true rfl⟩) rfl rfl rfl rfl (Nat.le_of_ble_eq_true rfl) dX12_part_120 ⟨(Nat.le_of_ble_eq_true rfl), (Nat.le_of_ble_eq_true rfl)⟩ (fun u_ H locs hq37 hP hD hS => ?_)
              obtain ⟨at2_35, r_36⟩ := u_
              replace hq37 : (0 ≤ at2_35.toInt ∧ at2_35.toInt ≤ en.toInt + 7 - de.toInt) ∧ (at2_29.toInt ≤ at2_35.toInt) ∧ (r_36 = 1 ∧ zisW tx en.toInt (zbg tx en.toInt at2_29.toInt) zqa37.2.2.2 ∧ at2_35.toInt = znx tx en.toInt (zbg tx en.toInt at2_29.toInt) ∧ at2_29.toInt < at2_35.toInt ∧ at2_35.toInt ≤ en.toInt ∨ r_36 = 0 ∧ ¬ zisW tx en.toInt (zbg tx en.toInt at2_29.toInt) zqa37.2.2.2 ∧ at2_35.toInt = zbg tx en.toInt at2_29.toInt) := hq37
              have hP : va_P g.1 vwCl (List.flatten [bMo g o a th hi ac tp 379 en at2_35 (-1) de iD iO tU fm fk fa fc ft ff fb fi]) H := hP
              have hD : va_D A (List.flatten [bMo g o a th hi ac tp 379 en at2_35 (-1) de iD iO tU fm fk fa fc ft ff fb fi]) := hD
              refine W.widen (k := 0) (n := 0) (Nat.le_of_ble_eq_true rfl) (Nat.le_of_ble_eq_true rfl) ?_
              refine W.eq (g2 := F0 m 123 ls [.int r_36]) rfl ?_
              obtain ⟨hq37_0, hq37_1, hq37_2⟩ := hq37
              rcases hq37_2 with ⟨rfl, hq37_k, hq37_km⟩ | ⟨rfl, hq37_k, hq37_km⟩
              · skip
                refine lv_if_eq (tgt := 130) hx hb dX12_part_123 (by decide) (fun c38 => absurd c38 (by decide)) (fun _ => ?_)
                refine lv_iconst (v := 5) hx hb dX12_part_126 (by decide) ?_
                refine lv_goto (tgt := 131) hx hb dX12_part_127 (by decide) ?_
                refine lv_istore_n (lv' := [(1, .int 5), (0, .ref o)]) hx hb dX12_part_131 rfl hl (by decide) rfl (fun ls hl => ?_)
                refine lv_iload_n hx hb dX12_part_132 rfl (lv_at hl 0 rfl) ?_
                refine lv_iconst (v := (-1)) hx hb dX12_part_133 (by decide) ?_
                refine lv_icmp_ne (tgt := 147) hx hb dX12_part_134 (by decide) (fun _ => ?_) (fun c39 => absurd c39 (by decide))
                refine lv_aload_n hx hb dX12_part_147 rfl (lv_at hl 1 rfl) ?_
                refine va_get (D := g.1) (ci := 10) (v := .ref (a 5)) (C := RX12) (T := TX12) (N := 20) hx hb hts izRX12 hown hK hP 0 rfl rfl 14 (by decide) (hts _ k821) (fun _ h9 => h9) rfl dX12_part_148 ?_
                refine lv_iload_n hx hb dX12_part_151 rfl (lv_at hl 0 rfl) ?_
                refine va_iald hx hb hK hP 6 0 rfl rfl (zin rfl) dX12_part_152 ?_
                refine ztop (r := (ff 5)) rfl ?_
                refine ztop (r := pv) (by rw [hff 5 (by decide)]; exact zPtV_5 hp (zBy (zBe (zBe (zBe (zBe (zBe (show _ = zbg tx en.toInt tA.toInt from hq3_2) hq7_km) hq13_km) hq19_km) hq25_km) hq31_km) hq37_k)) ?_
                have hP : va_P g.1 vwCl (List.flatten [bMo g o a th hi ac tp 379 en at2_35 (-1) de iD iO tU fm fk fa fc ft ff fb fi]) H := hP
                have hD : va_D A (List.flatten [bMo g o a th hi ac tp 379 en at2_35 (-1) de iD iO tU fm fk fa fc ft ff fb fi]) := hD
                exact mret_i hx hb hr hlocks hS (Nat.le_of_ble_eq_true rfl) (Nat.le_of_ble_eq_true rfl) dX12_part_153 (at2_35) rfl (show (0 ≤ at2_35.toInt ∧ at2_35.toInt ≤ en.toInt + 7 - de.toInt) ∧ (tA.toInt ≤ at2_35.toInt) ∧ (at2_35.toInt = znx tx en.toInt (zbg tx en.toInt tA.toInt)) from ⟨(by first | assumption | omega | decide), (by first | assumption | omega | decide), (zBx (zBe (zBe (zBe (zBe (zBe (show _ = zbg tx en.toInt tA.toInt from hq3_2) hq7_km) hq13_km) hq19_km) hq25_km) hq31_km) hq37_km.1)⟩) hP hD
              · skip
                refine lv_if_eq (tgt := 130) hx hb dX12_part_123 (by decide) (fun _ => ?_) (fun c40 => absurd (by decide) c40)
                exact (zPtV_x hp (zBw (show _ = zbg tx en.toInt tA.toInt from hq3_2) hq7_k) (zBw (zBe (show _ = zbg tx en.toInt tA.toInt from hq3_2) hq7_km) hq13_k) (zBw (zBe (zBe (show _ = zbg tx en.toInt tA.toInt from hq3_2) hq7_km) hq13_km) hq19_k) (zBw (zBe (zBe (zBe (show _ = zbg tx en.toInt tA.toInt from hq3_2) hq7_km) hq13_km) hq19_km) hq25_k) (zBw (zBe (zBe (zBe (zBe (show _ = zbg tx en.toInt tA.toInt from hq3_2) hq7_km) hq13_km) hq19_km) hq25_km) hq31_k) (zBw (zBe (zBe (zBe (zBe (zBe (show _ = zbg tx en.toInt tA.toInt from hq3_2) hq7_km) hq13_km) hq19_km) hq25_km) hq31_km) hq37_k) (by rw [← (show at2_2.toInt = zbg tx en.toInt tA.toInt from hq3_2)]; exact zNu_e (by omega))).elim
  · skip
    have c41 : at2_2.toInt < en.toInt := zlti (Int32.not_le.mp cb9) rfl rfl
    have n42 : at2_2.toInt ≤ 399 := zL1 (b := 400) c41 hen.2 (by decide)
    refine lv_aload_n hx hb dX12_part_25 rfl (lv_at hl 0 rfl) ?_
    refine lv_aload_n hx hb dX12_part_26 rfl (lv_at hl 0 rfl) ?_
    refine va_get (D := g.1) (ci := 10) (v := .int at2_2) (C := RX12) (T := TX12) (N := 20) hx hb hts izRX12 hown hK hP 0 rfl rfl 11 (by decide) (hts _ k878) (fun _ h9 => h9) rfl dX12_part_27 ?_
    refine mcallV' (g := g) (q0 := 0) (ci := 10) (As := [.int at2_2]) (rest := []) St hK hT hA hP hD hS hl.1 [0] [] rfl rfl rfl (m_letterH l g o a th hi ac tp en at2_2 (-1) de iD iO tU fm fk fa fc ft ff fb fi at2_2 tx (by first | assumption | omega | decide | exact Or.inl (by decide) | exact Or.inr (by decide)) hen htx (by first | assumption | omega | decide | exact Or.inl (by decide) | exact Or.inr (by decide))) (cwV 1 hts (zgL (zl4 k880 k881 k882 k839) k875) rfl rfl rfl (by decide +kernel) ⟨Nat.le_of_ble_eq_true rfl, Nat.le_of_ble_eq_true rfl⟩) rfl rfl rfl rfl (Nat.le_of_ble_eq_true rfl) dX12_part_30 ⟨(Nat.le_of_ble_eq_true rfl), (Nat.le_of_ble_eq_true rfl)⟩ (fun _u H locs hq43 hP hD hS => ?_)
    have hP : va_P g.1 vwCl (List.flatten [bMo g o a th hi ac tp 379 en at2_2 (-1) de iD iO tU fm fk fa fc ft ff fb fi]) H := hP
    have hD : va_D A (List.flatten [bMo g o a th hi ac tp 379 en at2_2 (-1) de iD iO tU fm fk fa fc ft ff fb fi]) := hD
    refine W.widen (k := 0) (n := 0) (Nat.le_of_ble_eq_true rfl) (Nat.le_of_ble_eq_true rfl) ?_
    refine W.eq (g2 := F0 m 33 ls [.int (tx at2_2.toNatClampNeg)]) rfl ?_
    refine lv_bipush (v := 48) hx hb dX12_part_33 (by decide) ?_
    refine lv_bipush (v := 57) hx hb dX12_part_35 (by decide) ?_
    have hL48 : (48 : Int32).toInt = 48 := by decide
    have hL57 : (57 : Int32).toInt = 57 := by decide
    refine mcallS' (g := g) (As := [.int (tx at2_2.toNatClampNeg), .int 48, .int 57]) (rest := []) St hK hT hA hP hD hS hl.1 [] [0] rfl rfl rfl (m_isIn l g (tx at2_2.toNatClampNeg) 48 57 ) (va_cwS 3 hts (zgL (zl3 k837 k838 k839) k826) rfl rfl rfl (by decide +kernel) ⟨Nat.le_of_ble_eq_true rfl, Nat.le_of_ble_eq_true rfl⟩) rfl rfl (Nat.le_of_ble_eq_true rfl) dX12_part_37 ⟨(Nat.le_of_ble_eq_true rfl), (Nat.le_of_ble_eq_true rfl)⟩ (fun q_44 H locs hq45 hP hD hS => ?_)
    replace hq45 : (q_44 = 1 ∧ (48 : Int32).toInt ≤ (tx at2_2.toNatClampNeg).toInt ∧ (tx at2_2.toNatClampNeg).toInt ≤ (57 : Int32).toInt ∨ q_44 = 0 ∧ ((tx at2_2.toNatClampNeg).toInt < (48 : Int32).toInt ∨ (57 : Int32).toInt < (tx at2_2.toNatClampNeg).toInt)) := hq45
    have hP : va_P g.1 vwCl (List.flatten [bMo g o a th hi ac tp 379 en at2_2 (-1) de iD iO tU fm fk fa fc ft ff fb fi]) H := hP
    have hD : va_D A (List.flatten [bMo g o a th hi ac tp 379 en at2_2 (-1) de iD iO tU fm fk fa fc ft ff fb fi]) := hD
    refine W.widen (k := 0) (n := 0) (Nat.le_of_ble_eq_true rfl) (Nat.le_of_ble_eq_true rfl) ?_
    refine W.eq (g2 := F0 m 40 ls [.int q_44]) rfl ?_
    rcases hq45 with ⟨rfl, hq45_k⟩ | ⟨rfl, hq45_k⟩
    · skip
      refine lv_if_eq (tgt := 52) hx hb dX12_part_40 (by decide) (fun c46 => absurd c46 (by decide)) (fun _ => ?_)
      refine lv_aload_n hx hb dX12_part_43 rfl (lv_at hl 0 rfl) ?_
      refine lv_iconst (v := 0) hx hb dX12_part_44 (by decide) ?_
      refine lv_sipush (v := 999) hx hb dX12_part_45 (by decide) ?_
      have hL0 : (0 : Int32).toInt = 0 := by decide
      have hL999 : (999 : Int32).toInt = 999 := by decide
      refine mcallV' (g := g) (q0 := 0) (ci := 10) (As := [.int 0, .int 999]) (rest := []) St hK hT hA hP hD hS hl.1 [0] [] rfl rfl rfl (m_figuresH l g o a th hi ac tp en at2_2 de iD iO tU fm fk fa fc ft ff fb fi 0 999 tx hen hq3_0 hde htx) (cwV 2 hts (zgL (zl4 k902 k903 k904 k839) k898) rfl rfl rfl (by decide +kernel) ⟨Nat.le_of_ble_eq_true rfl, Nat.le_of_ble_eq_true rfl⟩) rfl rfl rfl rfl (Nat.le_of_ble_eq_true rfl) dX12_part_48 ⟨(Nat.le_of_ble_eq_true rfl), (Nat.le_of_ble_eq_true rfl)⟩ (fun u_ H locs hq50 hP hD hS => ?_)
      obtain ⟨at2_47, fl2_48, r_49⟩ := u_
      replace hq50 : (0 ≤ at2_47.toInt ∧ at2_47.toInt ≤ en.toInt + 7 - de.toInt) ∧ (at2_2.toInt ≤ at2_47.toInt) ∧ (zNu tx en.toInt (zbg tx en.toInt at2_2.toInt) (0 : Int32).toInt (999 : Int32).toInt r_49 ∧ at2_47.toInt = znx tx en.toInt (zbg tx en.toInt at2_2.toInt) ∧ (-1) = fl2_48 ∨ fl2_48.toInt = zbg tx en.toInt at2_2.toInt ∧ ¬ ∃ v9, zNu tx en.toInt (zbg tx en.toInt at2_2.toInt) (0 : Int32).toInt (999 : Int32).toInt v9) := hq50
      have hP : va_P g.1 vwCl (List.flatten [bMo g o a th hi ac tp 379 en at2_47 fl2_48 de iD iO tU fm fk fa fc ft ff fb fi]) H := hP
      have hD : va_D A (List.flatten [bMo g o a th hi ac tp 379 en at2_47 fl2_48 de iD iO tU fm fk fa fc ft ff fb fi]) := hD
      refine W.widen (k := 0) (n := 0) (Nat.le_of_ble_eq_true rfl) (Nat.le_of_ble_eq_true rfl) ?_
      refine W.eq (g2 := F0 m 51 ls [.int r_49]) rfl ?_
      obtain ⟨hq50_0, hq50_1, hq50_2⟩ := hq50
      rcases hq50_2 with ⟨hq50_k, hq50_km, rfl⟩ | ⟨hq50_k, hq50_km⟩
      · skip
        have w51 : 0 ≤ r_49.toInt ∧ r_49.toInt ≤ 999 := ⟨(by have h9 := hq50_k.2.2.1; omega), (by have h9 := hq50_k.2.2.2; omega)⟩
        refine ztop (r := pv) (zPtV_n hp (zBv (show _ = zbg tx en.toInt tA.toInt from hq3_2) hq50_k)) ?_
        have hP : va_P g.1 vwCl (List.flatten [bMo g o a th hi ac tp 379 en at2_47 (-1) de iD iO tU fm fk fa fc ft ff fb fi]) H := hP
        have hD : va_D A (List.flatten [bMo g o a th hi ac tp 379 en at2_47 (-1) de iD iO tU fm fk fa fc ft ff fb fi]) := hD
        exact mret_i hx hb hr hlocks hS (Nat.le_of_ble_eq_true rfl) (Nat.le_of_ble_eq_true rfl) dX12_part_51 (at2_47) rfl (show (0 ≤ at2_47.toInt ∧ at2_47.toInt ≤ en.toInt + 7 - de.toInt) ∧ (tA.toInt ≤ at2_47.toInt) ∧ (at2_47.toInt = znx tx en.toInt (zbg tx en.toInt tA.toInt)) from ⟨(by first | assumption | omega | decide), (by first | assumption | omega | decide), (zBx (show _ = zbg tx en.toInt tA.toInt from hq3_2) hq50_km)⟩) hP hD
      · skip
        exact (zPtV_x hp (by rw [← (show at2_2.toInt = zbg tx en.toInt tA.toInt from hq3_2)]; exact zkd_figW hq45_k) (by rw [← (show at2_2.toInt = zbg tx en.toInt tA.toInt from hq3_2)]; exact zkd_figW hq45_k) (by rw [← (show at2_2.toInt = zbg tx en.toInt tA.toInt from hq3_2)]; exact zkd_figW hq45_k) (by rw [← (show at2_2.toInt = zbg tx en.toInt tA.toInt from hq3_2)]; exact zkd_figW hq45_k) (by rw [← (show at2_2.toInt = zbg tx en.toInt tA.toInt from hq3_2)]; exact zkd_figW hq45_k) (by rw [← (show at2_2.toInt = zbg tx en.toInt tA.toInt from hq3_2)]; exact zkd_figW hq45_k) (zBn (show _ = zbg tx en.toInt tA.toInt from hq3_2) hq50_km)).elim
    · skip
      refine lv_if_eq (tgt := 52) hx hb dX12_part_40 (by decide) (fun _ => ?_) (fun c52 => absurd (by decide) c52)
      refine lv_aload_n hx hb dX12_part_52 rfl (lv_at hl 0 rfl) ?_
      refine va_ldcS (q := g.2 86) hx hb hown (zra38 hT.2.1) dX12_part_53 ?_
      refine mcallV' (g := g) (q0 := 0) (ci := 10) (As := [.ref (g.2 86)]) (rest := []) St hK hT hA hP hD hS hl.1 [0] [] rfl rfl rfl (m_hasH l g o a th hi ac tp en at2_2 (-1) de iD iO tU fm fk fa fc ft ff fb fi tx (g.2 86) 38 zqa38 hen hq3_0 hde htx rfl zla38 zna38 (zlitB zla38)) (cwV 1 hts (zgL (zl4 k899 k900 k901 k839) k889) rfl rfl rfl (by decide +kernel) ⟨Nat.le_of_ble_eq_true rfl, Nat.le_of_ble_eq_true rfl⟩) rfl rfl rfl rfl (Nat.le_of_ble_eq_true rfl) dX12_part_55 ⟨(Nat.le_of_ble_eq_true rfl), (Nat.le_of_ble_eq_true rfl)⟩ (fun u_ H locs hq55 hP hD hS => ?_)
      obtain ⟨at2_53, r_54⟩ := u_
      replace hq55 : (0 ≤ at2_53.toInt ∧ at2_53.toInt ≤ en.toInt + 7 - de.toInt) ∧ (at2_2.toInt ≤ at2_53.toInt) ∧ (r_54 = 1 ∧ zisW tx en.toInt (zbg tx en.toInt at2_2.toInt) zqa38.2.2.2 ∧ at2_53.toInt = znx tx en.toInt (zbg tx en.toInt at2_2.toInt) ∧ at2_2.toInt < at2_53.toInt ∧ at2_53.toInt ≤ en.toInt ∨ r_54 = 0 ∧ ¬ zisW tx en.toInt (zbg tx en.toInt at2_2.toInt) zqa38.2.2.2 ∧ at2_53.toInt = zbg tx en.toInt at2_2.toInt) := hq55
      have hP : va_P g.1 vwCl (List.flatten [bMo g o a th hi ac tp 379 en at2_53 (-1) de iD iO tU fm fk fa fc ft ff fb fi]) H := hP
      have hD : va_D A (List.flatten [bMo g o a th hi ac tp 379 en at2_53 (-1) de iD iO tU fm fk fa fc ft ff fb fi]) := hD
      refine W.widen (k := 0) (n := 0) (Nat.le_of_ble_eq_true rfl) (Nat.le_of_ble_eq_true rfl) ?_
      refine W.eq (g2 := F0 m 58 ls [.int r_54]) rfl ?_
      obtain ⟨hq55_0, hq55_1, hq55_2⟩ := hq55
      rcases hq55_2 with ⟨rfl, hq55_k, hq55_km⟩ | ⟨rfl, hq55_k, hq55_km⟩
      · skip
        refine lv_if_eq (tgt := 65) hx hb dX12_part_58 (by decide) (fun c56 => absurd c56 (by decide)) (fun _ => ?_)
        refine lv_iconst (v := 0) hx hb dX12_part_61 (by decide) ?_
        refine lv_goto (tgt := 131) hx hb dX12_part_62 (by decide) ?_
        refine lv_istore_n (lv' := [(1, .int 0), (0, .ref o)]) hx hb dX12_part_131 rfl hl (by decide) rfl (fun ls hl => ?_)
        refine lv_iload_n hx hb dX12_part_132 rfl (lv_at hl 0 rfl) ?_
        refine lv_iconst (v := (-1)) hx hb dX12_part_133 (by decide) ?_
        refine lv_icmp_ne (tgt := 147) hx hb dX12_part_134 (by decide) (fun _ => ?_) (fun c57 => absurd c57 (by decide))
        refine lv_aload_n hx hb dX12_part_147 rfl (lv_at hl 1 rfl) ?_
        refine va_get (D := g.1) (ci := 10) (v := .ref (a 5)) (C := RX12) (T := TX12) (N := 20) hx hb hts izRX12 hown hK hP 0 rfl rfl 14 (by decide) (hts _ k821) (fun _ h9 => h9) rfl dX12_part_148 ?_
        refine lv_iload_n hx hb dX12_part_151 rfl (lv_at hl 0 rfl) ?_
        refine va_iald hx hb hK hP 6 0 rfl rfl (zin rfl) dX12_part_152 ?_
        refine ztop (r := (ff 0)) rfl ?_
        refine ztop (r := pv) (by rw [hff 0 (by decide)]; exact zPtV_0 hp (zBy (show _ = zbg tx en.toInt tA.toInt from hq3_2) hq55_k)) ?_
        have hP : va_P g.1 vwCl (List.flatten [bMo g o a th hi ac tp 379 en at2_53 (-1) de iD iO tU fm fk fa fc ft ff fb fi]) H := hP
        have hD : va_D A (List.flatten [bMo g o a th hi ac tp 379 en at2_53 (-1) de iD iO tU fm fk fa fc ft ff fb fi]) := hD
        exact mret_i hx hb hr hlocks hS (Nat.le_of_ble_eq_true rfl) (Nat.le_of_ble_eq_true rfl) dX12_part_153 (at2_53) rfl (show (0 ≤ at2_53.toInt ∧ at2_53.toInt ≤ en.toInt + 7 - de.toInt) ∧ (tA.toInt ≤ at2_53.toInt) ∧ (at2_53.toInt = znx tx en.toInt (zbg tx en.toInt tA.toInt)) from ⟨(by first | assumption | omega | decide), (by first | assumption | omega | decide), (zBx (show _ = zbg tx en.toInt tA.toInt from hq3_2) hq55_km.1)⟩) hP hD
      · skip
        refine lv_if_eq (tgt := 65) hx hb dX12_part_58 (by decide) (fun _ => ?_) (fun c58 => absurd (by decide) c58)
        refine lv_aload_n hx hb dX12_part_65 rfl (lv_at hl 0 rfl) ?_
        refine va_ldcS (q := g.2 88) hx hb hown (zra39 hT.2.1) dX12_part_66 ?_
        refine mcallV' (g := g) (q0 := 0) (ci := 10) (As := [.ref (g.2 88)]) (rest := []) St hK hT hA hP hD hS hl.1 [0] [] rfl rfl rfl (m_hasH l g o a th hi ac tp en at2_53 (-1) de iD iO tU fm fk fa fc ft ff fb fi tx (g.2 88) 39 zqa39 hen hq55_0 hde htx rfl zla39 zna39 (zlitB zla39)) (cwV 1 hts (zgL (zl4 k899 k900 k901 k839) k889) rfl rfl rfl (by decide +kernel) ⟨Nat.le_of_ble_eq_true rfl, Nat.le_of_ble_eq_true rfl⟩) rfl rfl rfl rfl (Nat.le_of_ble_eq_true rfl) dX12_part_68 ⟨(Nat.le_of_ble_eq_true rfl), (Nat.le_of_ble_eq_true rfl)⟩ (fun u_ H locs hq61 hP hD hS => ?_)
        obtain ⟨at2_59, r_60⟩ := u_
        replace hq61 : (0 ≤ at2_59.toInt ∧ at2_59.toInt ≤ en.toInt + 7 - de.toInt) ∧ (at2_53.toInt ≤ at2_59.toInt) ∧ (r_60 = 1 ∧ zisW tx en.toInt (zbg tx en.toInt at2_53.toInt) zqa39.2.2.2 ∧ at2_59.toInt = znx tx en.toInt (zbg tx en.toInt at2_53.toInt) ∧ at2_53.toInt < at2_59.toInt ∧ at2_59.toInt ≤ en.toInt ∨ r_60 = 0 ∧ ¬ zisW tx en.toInt (zbg tx en.toInt at2_53.toInt) zqa39.2.2.2 ∧ at2_59.toInt = zbg tx en.toInt at2_53.toInt) := hq61
        have hP : va_P g.1 vwCl (List.flatten [bMo g o a th hi ac tp 379 en at2_59 (-1) de iD iO tU fm fk fa fc ft ff fb fi]) H := hP
        have hD : va_D A (List.flatten [bMo g o a th hi ac tp 379 en at2_59 (-1) de iD iO tU fm fk fa fc ft ff fb fi]) := hD
        refine W.widen (k := 0) (n := 0) (Nat.le_of_ble_eq_true rfl) (Nat.le_of_ble_eq_true rfl) ?_
        refine W.eq (g2 := F0 m 71 ls [.int r_60]) rfl ?_
        obtain ⟨hq61_0, hq61_1, hq61_2⟩ := hq61
        rcases hq61_2 with ⟨rfl, hq61_k, hq61_km⟩ | ⟨rfl, hq61_k, hq61_km⟩
        · skip
          refine lv_if_eq (tgt := 78) hx hb dX12_part_71 (by decide) (fun c62 => absurd c62 (by decide)) (fun _ => ?_)
          refine lv_iconst (v := 1) hx hb dX12_part_74 (by decide) ?_
          refine lv_goto (tgt := 131) hx hb dX12_part_75 (by decide) ?_
          refine lv_istore_n (lv' := [(1, .int 1), (0, .ref o)]) hx hb dX12_part_131 rfl hl (by decide) rfl (fun ls hl => ?_)
          refine lv_iload_n hx hb dX12_part_132 rfl (lv_at hl 0 rfl) ?_
          refine lv_iconst (v := (-1)) hx hb dX12_part_133 (by decide) ?_
          refine lv_icmp_ne (tgt := 147) hx hb dX12_part_134 (by decide) (fun _ => ?_) (fun c63 => absurd c63 (by decide))
          refine lv_aload_n hx hb dX12_part_147 rfl (lv_at hl 1 rfl) ?_
          refine va_get (D := g.1) (ci := 10) (v := .ref (a 5)) (C := RX12) (T := TX12) (N := 20) hx hb hts izRX12 hown hK hP 0 rfl rfl 14 (by decide) (hts _ k821) (fun _ h9 => h9) rfl dX12_part_148 ?_
          refine lv_iload_n hx hb dX12_part_151 rfl (lv_at hl 0 rfl) ?_
          refine va_iald hx hb hK hP 6 0 rfl rfl (zin rfl) dX12_part_152 ?_
          refine ztop (r := (ff 1)) rfl ?_
          refine ztop (r := pv) (by rw [hff 1 (by decide)]; exact zPtV_1 hp (zBy (zBe (show _ = zbg tx en.toInt tA.toInt from hq3_2) hq55_km) hq61_k)) ?_
          have hP : va_P g.1 vwCl (List.flatten [bMo g o a th hi ac tp 379 en at2_59 (-1) de iD iO tU fm fk fa fc ft ff fb fi]) H := hP
          have hD : va_D A (List.flatten [bMo g o a th hi ac tp 379 en at2_59 (-1) de iD iO tU fm fk fa fc ft ff fb fi]) := hD
          exact mret_i hx hb hr hlocks hS (Nat.le_of_ble_eq_true rfl) (Nat.le_of_ble_eq_true rfl) dX12_part_153 (at2_59) rfl (show (0 ≤ at2_59.toInt ∧ at2_59.toInt ≤ en.toInt + 7 - de.toInt) ∧ (tA.toInt ≤ at2_59.toInt) ∧ (at2_59.toInt = znx tx en.toInt (zbg tx en.toInt tA.toInt)) from ⟨(by first | assumption | omega | decide), (by first | assumption | omega | decide), (zBx (zBe (show _ = zbg tx en.toInt tA.toInt from hq3_2) hq55_km) hq61_km.1)⟩) hP hD
        · skip
          refine lv_if_eq (tgt := 78) hx hb dX12_part_71 (by decide) (fun _ => ?_) (fun c64 => absurd (by decide) c64)
          refine lv_aload_n hx hb dX12_part_78 rfl (lv_at hl 0 rfl) ?_
          refine va_ldcS (q := g.2 90) hx hb hown (zra40 hT.2.1) dX12_part_79 ?_
          refine mcallV' (g := g) (q0 := 0) (ci := 10) (As := [.ref (g.2 90)]) (rest := []) St hK hT hA hP hD hS hl.1 [0] [] rfl rfl rfl (m_hasH l g o a th hi ac tp en at2_59 (-1) de iD iO tU fm fk fa fc ft ff fb fi tx (g.2 90) 40 zqa40 hen hq61_0 hde htx rfl zla40 zna40 (zlitB zla40)) (cwV 1 hts (zgL (zl4 k899 k900 k901 k839) k889) rfl rfl rfl (by decide +kernel) ⟨Nat.le_of_ble_eq_true rfl, Nat.le_of_ble_eq_true rfl⟩) rfl rfl rfl rfl (Nat.le_of_ble_eq_true rfl) dX12_part_81 ⟨(Nat.le_of_ble_eq_true rfl), (Nat.le_of_ble_eq_true rfl)⟩ (fun u_ H locs hq67 hP hD hS => ?_)
          obtain ⟨at2_65, r_66⟩ := u_
          replace hq67 : (0 ≤ at2_65.toInt ∧ at2_65.toInt ≤ en.toInt + 7 - de.toInt) ∧ (at2_59.toInt ≤ at2_65.toInt) ∧ (r_66 = 1 ∧ zisW tx en.toInt (zbg tx en.toInt at2_59.toInt) zqa40.2.2.2 ∧ at2_65.toInt = znx tx en.toInt (zbg tx en.toInt at2_59.toInt) ∧ at2_59.toInt < at2_65.toInt ∧ at2_65.toInt ≤ en.toInt ∨ r_66 = 0 ∧ ¬ zisW tx en.toInt (zbg tx en.toInt at2_59.toInt) zqa40.2.2.2 ∧ at2_65.toInt = zbg tx en.toInt at2_59.toInt) := hq67
          have hP : va_P g.1 vwCl (List.flatten [bMo g o a th hi ac tp 379 en at2_65 (-1) de iD iO tU fm fk fa fc ft ff fb fi]) H := hP
          have hD : va_D A (List.flatten [bMo g o a th hi ac tp 379 en at2_65 (-1) de iD iO tU fm fk fa fc ft ff fb fi]) := hD
          refine W.widen (k := 0) (n := 0) (Nat.le_of_ble_eq_true rfl) (Nat.le_of_ble_eq_true rfl) ?_
          refine W.eq (g2 := F0 m 84 ls [.int r_66]) rfl ?_
          obtain ⟨hq67_0, hq67_1, hq67_2⟩ := hq67
          rcases hq67_2 with ⟨rfl, hq67_k, hq67_km⟩ | ⟨rfl, hq67_k, hq67_km⟩
          · skip
            refine lv_if_eq (tgt := 91) hx hb dX12_part_84 (by decide) (fun c68 => absurd c68 (by decide)) (fun _ => ?_)
            refine lv_iconst (v := 2) hx hb dX12_part_87 (by decide) ?_
            refine lv_goto (tgt := 131) hx hb dX12_part_88 (by decide) ?_
            refine lv_istore_n (lv' := [(1, .int 2), (0, .ref o)]) hx hb dX12_part_131 rfl hl (by decide) rfl (fun ls hl => ?_)
            refine lv_iload_n hx hb dX12_part_132 rfl (lv_at hl 0 rfl) ?_
            refine lv_iconst (v := (-1)) hx hb dX12_part_133 (by decide) ?_
            refine lv_icmp_ne (tgt := 147) hx hb dX12_part_134 (by decide) (fun _ => ?_) (fun c69 => absurd c69 (by decide))
            refine lv_aload_n hx hb dX12_part_147 rfl (lv_at hl 1 rfl) ?_
            refine va_get (D := g.1) (ci := 10) (v := .ref (a 5)) (C := RX12) (T := TX12) (N := 20) hx hb hts izRX12 hown hK hP 0 rfl rfl 14 (by decide) (hts _ k821) (fun _ h9 => h9) rfl dX12_part_148 ?_
            refine lv_iload_n hx hb dX12_part_151 rfl (lv_at hl 0 rfl) ?_
            refine va_iald hx hb hK hP 6 0 rfl rfl (zin rfl) dX12_part_152 ?_
            refine ztop (r := (ff 2)) rfl ?_
            refine ztop (r := pv) (by rw [hff 2 (by decide)]; exact zPtV_2 hp (zBy (zBe (zBe (show _ = zbg tx en.toInt tA.toInt from hq3_2) hq55_km) hq61_km) hq67_k)) ?_
            have hP : va_P g.1 vwCl (List.flatten [bMo g o a th hi ac tp 379 en at2_65 (-1) de iD iO tU fm fk fa fc ft ff fb fi]) H := hP
            have hD : va_D A (List.flatten [bMo g o a th hi ac tp 379 en at2_65 (-1) de iD iO tU fm fk fa fc ft ff fb fi]) := hD
            exact mret_i hx hb hr hlocks hS (Nat.le_of_ble_eq_true rfl) (Nat.le_of_ble_eq_true rfl) dX12_part_153 (at2_65) rfl (show (0 ≤ at2_65.toInt ∧ at2_65.toInt ≤ en.toInt + 7 - de.toInt) ∧ (tA.toInt ≤ at2_65.toInt) ∧ (at2_65.toInt = znx tx en.toInt (zbg tx en.toInt tA.toInt)) from ⟨(by first | assumption | omega | decide), (by first | assumption | omega | decide), (zBx (zBe (zBe (show _ = zbg tx en.toInt tA.toInt from hq3_2) hq55_km) hq61_km) hq67_km.1)⟩) hP hD
          · skip
            refine lv_if_eq (tgt := 91) hx hb dX12_part_84 (by decide) (fun _ => ?_) (fun c70 => absurd (by decide) c70)
            refine lv_aload_n hx hb dX12_part_91 rfl (lv_at hl 0 rfl) ?_
            refine va_ldcS (q := g.2 92) hx hb hown (zra41 hT.2.1) dX12_part_92 ?_
            refine mcallV' (g := g) (q0 := 0) (ci := 10) (As := [.ref (g.2 92)]) (rest := []) St hK hT hA hP hD hS hl.1 [0] [] rfl rfl rfl (m_hasH l g o a th hi ac tp en at2_65 (-1) de iD iO tU fm fk fa fc ft ff fb fi tx (g.2 92) 41 zqa41 hen hq67_0 hde htx rfl zla41 zna41 (zlitB zla41)) (cwV 1 hts (zgL (zl4 k899 k900 k901 k839) k889) rfl rfl rfl (by decide +kernel) ⟨Nat.le_of_ble_eq_true rfl, Nat.le_of_ble_eq_true rfl⟩) rfl rfl rfl rfl (Nat.le_of_ble_eq_true rfl) dX12_part_94 ⟨(Nat.le_of_ble_eq_true rfl), (Nat.le_of_ble_eq_true rfl)⟩ (fun u_ H locs hq73 hP hD hS => ?_)
            obtain ⟨at2_71, r_72⟩ := u_
            replace hq73 : (0 ≤ at2_71.toInt ∧ at2_71.toInt ≤ en.toInt + 7 - de.toInt) ∧ (at2_65.toInt ≤ at2_71.toInt) ∧ (r_72 = 1 ∧ zisW tx en.toInt (zbg tx en.toInt at2_65.toInt) zqa41.2.2.2 ∧ at2_71.toInt = znx tx en.toInt (zbg tx en.toInt at2_65.toInt) ∧ at2_65.toInt < at2_71.toInt ∧ at2_71.toInt ≤ en.toInt ∨ r_72 = 0 ∧ ¬ zisW tx en.toInt (zbg tx en.toInt at2_65.toInt) zqa41.2.2.2 ∧ at2_71.toInt = zbg tx en.toInt at2_65.toInt) := hq73
            have hP : va_P g.1 vwCl (List.flatten [bMo g o a th hi ac tp 379 en at2_71 (-1) de iD iO tU fm fk fa fc ft ff fb fi]) H := hP
            have hD : va_D A (List.flatten [bMo g o a th hi ac tp 379 en at2_71 (-1) de iD iO tU fm fk fa fc ft ff fb fi]) := hD
            refine W.widen (k := 0) (n := 0) (Nat.le_of_ble_eq_true rfl) (Nat.le_of_ble_eq_true rfl) ?_
            refine W.eq (g2 := F0 m 97 ls [.int r_72]) rfl ?_
            obtain ⟨hq73_0, hq73_1, hq73_2⟩ := hq73
            rcases hq73_2 with ⟨rfl, hq73_k, hq73_km⟩ | ⟨rfl, hq73_k, hq73_km⟩
            · skip
              refine lv_if_eq (tgt := 104) hx hb dX12_part_97 (by decide) (fun c74 => absurd c74 (by decide)) (fun _ => ?_)
              refine lv_iconst (v := 3) hx hb dX12_part_100 (by decide) ?_
              refine lv_goto (tgt := 131) hx hb dX12_part_101 (by decide) ?_
              refine lv_istore_n (lv' := [(1, .int 3), (0, .ref o)]) hx hb dX12_part_131 rfl hl (by decide) rfl (fun ls hl => ?_)
              refine lv_iload_n hx hb dX12_part_132 rfl (lv_at hl 0 rfl) ?_
              refine lv_iconst (v := (-1)) hx hb dX12_part_133 (by decide) ?_
              refine lv_icmp_ne (tgt := 147) hx hb dX12_part_134 (by decide) (fun _ => ?_) (fun c75 => absurd c75 (by decide))
              refine lv_aload_n hx hb dX12_part_147 rfl (lv_at hl 1 rfl) ?_
              refine va_get (D := g.1) (ci := 10) (v := .ref (a 5)) (C := RX12) (T := TX12) (N := 20) hx hb hts izRX12 hown hK hP 0 rfl rfl 14 (by decide) (hts _ k821) (fun _ h9 => h9) rfl dX12_part_148 ?_
              refine lv_iload_n hx hb dX12_part_151 rfl (lv_at hl 0 rfl) ?_
              refine va_iald hx hb hK hP 6 0 rfl rfl (zin rfl) dX12_part_152 ?_
              refine ztop (r := (ff 3)) rfl ?_
              refine ztop (r := pv) (by rw [hff 3 (by decide)]; exact zPtV_3 hp (zBy (zBe (zBe (zBe (show _ = zbg tx en.toInt tA.toInt from hq3_2) hq55_km) hq61_km) hq67_km) hq73_k)) ?_
              have hP : va_P g.1 vwCl (List.flatten [bMo g o a th hi ac tp 379 en at2_71 (-1) de iD iO tU fm fk fa fc ft ff fb fi]) H := hP
              have hD : va_D A (List.flatten [bMo g o a th hi ac tp 379 en at2_71 (-1) de iD iO tU fm fk fa fc ft ff fb fi]) := hD
              exact mret_i hx hb hr hlocks hS (Nat.le_of_ble_eq_true rfl) (Nat.le_of_ble_eq_true rfl) dX12_part_153 (at2_71) rfl (show (0 ≤ at2_71.toInt ∧ at2_71.toInt ≤ en.toInt + 7 - de.toInt) ∧ (tA.toInt ≤ at2_71.toInt) ∧ (at2_71.toInt = znx tx en.toInt (zbg tx en.toInt tA.toInt)) from ⟨(by first | assumption | omega | decide), (by first | assumption | omega | decide), (zBx (zBe (zBe (zBe (show _ = zbg tx en.toInt tA.toInt from hq3_2) hq55_km) hq61_km) hq67_km) hq73_km.1)⟩) hP hD
            · skip
              refine lv_if_eq (tgt := 104) hx hb dX12_part_97 (by decide) (fun _ => ?_) (fun c76 => absurd (by decide) c76)
              refine lv_aload_n hx hb dX12_part_104 rfl (lv_at hl 0 rfl) ?_
              refine va_ldcS (q := g.2 94) hx hb hown (zra42 hT.2.1) dX12_part_105 ?_
              refine mcallV' (g := g) (q0 := 0) (ci := 10) (As := [.ref (g.2 94)]) (rest := []) St hK hT hA hP hD hS hl.1 [0] [] rfl rfl rfl (m_hasH l g o a th hi ac tp en at2_71 (-1) de iD iO tU fm fk fa fc ft ff fb fi tx (g.2 94) 42 zqa42 hen hq73_0 hde htx rfl zla42 zna42 (zlitB zla42)) (cwV 1 hts (zgL (zl4 k899 k900 k901 k839) k889) rfl rfl rfl (by decide +kernel) ⟨Nat.le_of_ble_eq_true rfl, Nat.le_of_ble_eq_true rfl⟩) rfl rfl rfl rfl (Nat.le_of_ble_eq_true rfl) dX12_part_107 ⟨(Nat.le_of_ble_eq_true rfl), (Nat.le_of_ble_eq_true rfl)⟩ (fun u_ H locs hq79 hP hD hS => ?_)
              obtain ⟨at2_77, r_78⟩ := u_
              replace hq79 : (0 ≤ at2_77.toInt ∧ at2_77.toInt ≤ en.toInt + 7 - de.toInt) ∧ (at2_71.toInt ≤ at2_77.toInt) ∧ (r_78 = 1 ∧ zisW tx en.toInt (zbg tx en.toInt at2_71.toInt) zqa42.2.2.2 ∧ at2_77.toInt = znx tx en.toInt (zbg tx en.toInt at2_71.toInt) ∧ at2_71.toInt < at2_77.toInt ∧ at2_77.toInt ≤ en.toInt ∨ r_78 = 0 ∧ ¬ zisW tx en.toInt (zbg tx en.toInt at2_71.toInt) zqa42.2.2.2 ∧ at2_77.toInt = zbg tx en.toInt at2_71.toInt) := hq79
              have hP : va_P g.1 vwCl (List.flatten [bMo g o a th hi ac tp 379 en at2_77 (-1) de iD iO tU fm fk fa fc ft ff fb fi]) H := hP
              have hD : va_D A (List.flatten [bMo g o a th hi ac tp 379 en at2_77 (-1) de iD iO tU fm fk fa fc ft ff fb fi]) := hD
              refine W.widen (k := 0) (n := 0) (Nat.le_of_ble_eq_true rfl) (Nat.le_of_ble_eq_true rfl) ?_
              refine W.eq (g2 := F0 m 110 ls [.int r_78]) rfl ?_
              obtain ⟨hq79_0, hq79_1, hq79_2⟩ := hq79
              rcases hq79_2 with ⟨rfl, hq79_k, hq79_km⟩ | ⟨rfl, hq79_k, hq79_km⟩
              · skip
                refine lv_if_eq (tgt := 117) hx hb dX12_part_110 (by decide) (fun c80 => absurd c80 (by decide)) (fun _ => ?_)
                refine lv_iconst (v := 4) hx hb dX12_part_113 (by decide) ?_
                refine lv_goto (tgt := 131) hx hb dX12_part_114 (by decide) ?_
                refine lv_istore_n (lv' := [(1, .int 4), (0, .ref o)]) hx hb dX12_part_131 rfl hl (by decide) rfl (fun ls hl => ?_)
                refine lv_iload_n hx hb dX12_part_132 rfl (lv_at hl 0 rfl) ?_
                refine lv_iconst (v := (-1)) hx hb dX12_part_133 (by decide) ?_
                refine lv_icmp_ne (tgt := 147) hx hb dX12_part_134 (by decide) (fun _ => ?_) (fun c81 => absurd c81 (by decide))
                refine lv_aload_n hx hb dX12_part_147 rfl (lv_at hl 1 rfl) ?_
                refine va_get (D := g.1) (ci := 10) (v := .ref (a 5)) (C := RX12) (T := TX12) (N := 20) hx hb hts izRX12 hown hK hP 0 rfl rfl 14 (by decide) (hts _ k821) (fun _ h9 => h9) rfl dX12_part_148 ?_
                refine lv_iload_n hx hb dX12_part_151 rfl (lv_at hl 0 rfl) ?_
                refine va_iald hx hb hK hP 6 0 rfl rfl (zin rfl) dX12_part_152 ?_
                refine ztop (r := (ff 4)) rfl ?_
                refine ztop (r := pv) (by rw [hff 4 (by decide)]; exact zPtV_4 hp (zBy (zBe (zBe (zBe (zBe (show _ = zbg tx en.toInt tA.toInt from hq3_2) hq55_km) hq61_km) hq67_km) hq73_km) hq79_k)) ?_
                have hP : va_P g.1 vwCl (List.flatten [bMo g o a th hi ac tp 379 en at2_77 (-1) de iD iO tU fm fk fa fc ft ff fb fi]) H := hP
                have hD : va_D A (List.flatten [bMo g o a th hi ac tp 379 en at2_77 (-1) de iD iO tU fm fk fa fc ft ff fb fi]) := hD
                exact mret_i hx hb hr hlocks hS (Nat.le_of_ble_eq_true rfl) (Nat.le_of_ble_eq_true rfl) dX12_part_153 (at2_77) rfl (show (0 ≤ at2_77.toInt ∧ at2_77.toInt ≤ en.toInt + 7 - de.toInt) ∧ (tA.toInt ≤ at2_77.toInt) ∧ (at2_77.toInt = znx tx en.toInt (zbg tx en.toInt tA.toInt)) from ⟨(by first | assumption | omega | decide), (by first | assumption | omega | decide), (zBx (zBe (zBe (zBe (zBe (show _ = zbg tx en.toInt tA.toInt from hq3_2) hq55_km) hq61_km) hq67_km) hq73_km) hq79_km.1)⟩) hP hD
              · skip
                refine lv_if_eq (tgt := 117) hx hb dX12_part_110 (by decide) (fun _ => ?_) (fun c82 => absurd (by decide) c82)
                refine lv_aload_n hx hb dX12_part_117 rfl (lv_at hl 0 rfl) ?_
                refine va_ldcS (q := g.2 84) hx hb hown (zra37 hT.2.1) dX12_part_118 ?_
                refine mcallV' (g := g) (q0 := 0) (ci := 10) (As := [.ref (g.2 84)]) (rest := []) St hK hT hA hP hD hS hl.1 [0] [] rfl rfl rfl (m_hasH l g o a th hi ac tp en at2_77 (-1) de iD iO tU fm fk fa fc ft ff fb fi tx (g.2 84) 37 zqa37 hen hq79_0 hde htx rfl zla37 zna37 (zlitB zla37)) (cwV 1 hts (zgL (zl4 k899 k900 k901 k839) k889) rfl rfl rfl (by decide +kernel) ⟨Nat.le_of_ble_eq_true rfl, Nat.le_of_ble_eq_true rfl⟩) rfl rfl rfl rfl (Nat.le_of_ble_eq_true rfl) dX12_part_120 ⟨(Nat.le_of_ble_eq_true rfl), (Nat.le_of_ble_eq_true rfl)⟩ (fun u_ H locs hq85 hP hD hS => ?_)
                obtain ⟨at2_83, r_84⟩ := u_
                replace hq85 : (0 ≤ at2_83.toInt ∧ at2_83.toInt ≤ en.toInt + 7 - de.toInt) ∧ (at2_77.toInt ≤ at2_83.toInt) ∧ (r_84 = 1 ∧ zisW tx en.toInt (zbg tx en.toInt at2_77.toInt) zqa37.2.2.2 ∧ at2_83.toInt = znx tx en.toInt (zbg tx en.toInt at2_77.toInt) ∧ at2_77.toInt < at2_83.toInt ∧ at2_83.toInt ≤ en.toInt ∨ r_84 = 0 ∧ ¬ zisW tx en.toInt (zbg tx en.toInt at2_77.toInt) zqa37.2.2.2 ∧ at2_83.toInt = zbg tx en.toInt at2_77.toInt) := hq85
                have hP : va_P g.1 vwCl (List.flatten [bMo g o a th hi ac tp 379 en at2_83 (-1) de iD iO tU fm fk fa fc ft ff fb fi]) H := hP
                have hD : va_D A (List.flatten [bMo g o a th hi ac tp 379 en at2_83 (-1) de iD iO tU fm fk fa fc ft ff fb fi]) := hD
                refine W.widen (k := 0) (n := 0) (Nat.le_of_ble_eq_true rfl) (Nat.le_of_ble_eq_true rfl) ?_
                refine W.eq (g2 := F0 m 123 ls [.int r_84]) rfl ?_
                obtain ⟨hq85_0, hq85_1, hq85_2⟩ := hq85
                rcases hq85_2 with ⟨rfl, hq85_k, hq85_km⟩ | ⟨rfl, hq85_k, hq85_km⟩
                · skip
                  refine lv_if_eq (tgt := 130) hx hb dX12_part_123 (by decide) (fun c86 => absurd c86 (by decide)) (fun _ => ?_)
                  refine lv_iconst (v := 5) hx hb dX12_part_126 (by decide) ?_
                  refine lv_goto (tgt := 131) hx hb dX12_part_127 (by decide) ?_
                  refine lv_istore_n (lv' := [(1, .int 5), (0, .ref o)]) hx hb dX12_part_131 rfl hl (by decide) rfl (fun ls hl => ?_)
                  refine lv_iload_n hx hb dX12_part_132 rfl (lv_at hl 0 rfl) ?_
                  refine lv_iconst (v := (-1)) hx hb dX12_part_133 (by decide) ?_
                  refine lv_icmp_ne (tgt := 147) hx hb dX12_part_134 (by decide) (fun _ => ?_) (fun c87 => absurd c87 (by decide))
                  refine lv_aload_n hx hb dX12_part_147 rfl (lv_at hl 1 rfl) ?_
                  refine va_get (D := g.1) (ci := 10) (v := .ref (a 5)) (C := RX12) (T := TX12) (N := 20) hx hb hts izRX12 hown hK hP 0 rfl rfl 14 (by decide) (hts _ k821) (fun _ h9 => h9) rfl dX12_part_148 ?_
                  refine lv_iload_n hx hb dX12_part_151 rfl (lv_at hl 0 rfl) ?_
                  refine va_iald hx hb hK hP 6 0 rfl rfl (zin rfl) dX12_part_152 ?_
                  refine ztop (r := (ff 5)) rfl ?_
                  refine ztop (r := pv) (by rw [hff 5 (by decide)]; exact zPtV_5 hp (zBy (zBe (zBe (zBe (zBe (zBe (show _ = zbg tx en.toInt tA.toInt from hq3_2) hq55_km) hq61_km) hq67_km) hq73_km) hq79_km) hq85_k)) ?_
                  have hP : va_P g.1 vwCl (List.flatten [bMo g o a th hi ac tp 379 en at2_83 (-1) de iD iO tU fm fk fa fc ft ff fb fi]) H := hP
                  have hD : va_D A (List.flatten [bMo g o a th hi ac tp 379 en at2_83 (-1) de iD iO tU fm fk fa fc ft ff fb fi]) := hD
                  exact mret_i hx hb hr hlocks hS (Nat.le_of_ble_eq_true rfl) (Nat.le_of_ble_eq_true rfl) dX12_part_153 (at2_83) rfl (show (0 ≤ at2_83.toInt ∧ at2_83.toInt ≤ en.toInt + 7 - de.toInt) ∧ (tA.toInt ≤ at2_83.toInt) ∧ (at2_83.toInt = znx tx en.toInt (zbg tx en.toInt tA.toInt)) from ⟨(by first | assumption | omega | decide), (by first | assumption | omega | decide), (zBx (zBe (zBe (zBe (zBe (zBe (show _ = zbg tx en.toInt tA.toInt from hq3_2) hq55_km) hq61_km) hq67_km) hq73_km) hq79_km) hq85_km.1)⟩) hP hD
                · skip
                  refine lv_if_eq (tgt := 130) hx hb dX12_part_123 (by decide) (fun _ => ?_) (fun c88 => absurd (by decide) c88)
                  exact (zPtV_x hp (zBw (show _ = zbg tx en.toInt tA.toInt from hq3_2) hq55_k) (zBw (zBe (show _ = zbg tx en.toInt tA.toInt from hq3_2) hq55_km) hq61_k) (zBw (zBe (zBe (show _ = zbg tx en.toInt tA.toInt from hq3_2) hq55_km) hq61_km) hq67_k) (zBw (zBe (zBe (zBe (show _ = zbg tx en.toInt tA.toInt from hq3_2) hq55_km) hq61_km) hq67_km) hq73_k) (zBw (zBe (zBe (zBe (zBe (show _ = zbg tx en.toInt tA.toInt from hq3_2) hq55_km) hq61_km) hq67_km) hq73_km) hq79_k) (zBw (zBe (zBe (zBe (zBe (zBe (show _ = zbg tx en.toInt tA.toInt from hq3_2) hq55_km) hq61_km) hq67_km) hq73_km) hq79_km) hq85_k) (by rw [← (show at2_2.toInt = zbg tx en.toInt tA.toInt from hq3_2)]; exact zkd_figN hq45_k)).elim
set_option maxRecDepth 100000 in
set_option maxHeartbeats 4000000 in
theorem m_sumV (l : Launch) (g : zG) (o : Nat) (a : Nat → Nat) (th : Int32) (hi : Int32) (ac : Int32) (tp : Int32) (en : Int32) (tA : Int32) (de : Int32) (iD : Int32) (iO : Int32) (tU : Int32) (fm : Nat → Int32) (fk : Nat → Int32) (fa : Nat → Int32) (fc : Nat → Int32) (ft : Nat → Int32) (ff : Nat → Int32) (fb : Nat → Int32) (fi : Nat → Int32) (tx : Nat → Int32) (ev : Nat → Int32) (b1 : Int) (sv : Int32) (hen : 0 ≤ en.toInt ∧ en.toInt ≤ 400) (htA : 0 ≤ tA.toInt ∧ tA.toInt ≤ en.toInt + 7 - de.toInt) (hde : 0 ≤ de.toInt ∧ de.toInt ≤ 6) (hff : ∀ k9 : Nat, k9 < 6 → ff k9 = ev k9) (hs : zSv tx en.toInt ev (zbg tx en.toInt tA.toInt) 0 b1 sv) (htx : ∀ k9 : Nat, (k9 : Int) < en.toInt → fm (379 + k9) = tx k9) : zM' g l yX12_sum (Cond.code yX12_sum cX12_sum 2 (some .int) :: zB) ({ frames := 6, cells := 0, slots := 0, locals := 129 } : Room) [.ref o] [bMo g o a th hi ac tp 379 en tA (-1) de iD iO tU fm fk fa fc ft ff fb fi] (fun (at2 : Int32) => some (.int sv)) (fun (at2 : Int32) => (0 ≤ at2.toInt ∧ at2.toInt ≤ en.toInt + 7 - de.toInt) ∧ (tA.toInt ≤ at2.toInt) ∧ (zbg tx en.toInt at2.toInt = b1)) (fun (at2 : Int32) => [bMo g o a th hi ac tp 379 en at2 (-1) de iD iO tU fm fk fa fc ft ff fb fi]) := by
  refine zM'.of (cc := cX12_sum) (maxL := 2) (rt := (some .int)) (by decide) rfl (Nat.le_of_ble_eq_true rfl) ?_
  intro p e s m args below meth c A ls St hr hlocks hin hK hT hA hP hD hS hl
  obtain ⟨hx, hb, hml, hown, hts⟩ := id St
  have hl : lv_has ls 2 [(0, .ref o)] := hl
  obtain ⟨w0, hp0, ht0⟩ := zSv_i hs
  refine lv_aload_n hx hb dX12_sum_0 rfl (lv_at hl 0 rfl) ?_
  refine mcallV' (g := g) (q0 := 0) (ci := 10) (As := []) (rest := []) St hK hT hA hP hD hS hl.1 [0] [] rfl rfl rfl (m_partV l g o a th hi ac tp en tA de iD iO tU fm fk fa fc ft ff fb fi tx ev w0 hen htA hde hff (by first | assumption | omega | decide | exact Or.inl (by decide) | exact Or.inr (by decide)) htx) (cwV 0 hts (zgL (zl4 k935 k936 k937 k839) k934) rfl rfl rfl (by decide +kernel) ⟨Nat.le_of_ble_eq_true rfl, Nat.le_of_ble_eq_true rfl⟩) rfl rfl rfl rfl (Nat.le_of_ble_eq_true rfl) dX12_sum_1 ⟨(Nat.le_of_ble_eq_true rfl), (Nat.le_of_ble_eq_true rfl)⟩ (fun at2_1 H locs hq2 hP hD hS => ?_)
  replace hq2 : (0 ≤ at2_1.toInt ∧ at2_1.toInt ≤ en.toInt + 7 - de.toInt) ∧ (tA.toInt ≤ at2_1.toInt) ∧ (at2_1.toInt = znx tx en.toInt (zbg tx en.toInt tA.toInt)) := hq2
  have hP : va_P g.1 vwCl (List.flatten [bMo g o a th hi ac tp 379 en at2_1 (-1) de iD iO tU fm fk fa fc ft ff fb fi]) H := hP
  have hD : va_D A (List.flatten [bMo g o a th hi ac tp 379 en at2_1 (-1) de iD iO tU fm fk fa fc ft ff fb fi]) := hD
  refine W.widen (k := 0) (n := 0) (Nat.le_of_ble_eq_true rfl) (Nat.le_of_ble_eq_true rfl) ?_
  refine W.eq (g2 := F0 m 4 ls [.int w0]) rfl ?_
  obtain ⟨hq2_0, hq2_1, hq2_2⟩ := hq2
  refine lv_istore_n (lv' := [(1, .int w0), (0, .ref o)]) hx hb dX12_sum_4 rfl hl (by decide) rfl (fun ls hl => ?_)
  have hl := lv_sub (l' := [(0, .ref o), (1, .int w0)]) hl [1, 0] rfl
  have LP5_9 : ∀ (kf : Nat) (x_3 : Int32) (x_4 : Int32), (0 ≤ x_4.toInt ∧ x_4.toInt ≤ 407) → (tA.toInt ≤ x_4.toInt) → (x_4.toInt ≤ en.toInt + 7 - de.toInt) → (zSvT tx en.toInt ev (zbg tx en.toInt x_4.toInt) x_3 b1 sv) → ∀ (H : Heap) (locs : List Loc) (ls : Array Slot), ((en.toInt + 8 - x_4.toInt).toNat) < kf → va_P g.1 vwCl (List.flatten [bMo g o a th hi ac tp 379 en x_4 (-1) de iD iO tU fm fk fa fc ft ff fb fi]) H → va_D A (List.flatten [bMo g o a th hi ac tp 379 en x_4 (-1) de iD iO tU fm fk fa fc ft ff fb fi]) → va_S A s.heap H locs → lv_has ls 2 [(0, .ref o), (1, .int x_3)] → W p l e ({ frames := 6, cells := 0, slots := 0, locals := 129 } : Room) s m args below meth c H locs (0) (0) (zF g (fun (at2 : Int32) => some (.int sv)) (fun (at2 : Int32) => (0 ≤ at2.toInt ∧ at2.toInt ≤ en.toInt + 7 - de.toInt) ∧ (tA.toInt ≤ at2.toInt) ∧ (zbg tx en.toInt at2.toInt = b1)) (fun (at2 : Int32) => [bMo g o a th hi ac tp 379 en at2 (-1) de iD iO tU fm fk fa fc ft ff fb fi]) ({ frames := 6, cells := 0, slots := 0, locals := 129 } : Room) below args s A) (F0 m 5 ls []) := by
    intro kf
    induction kf with
    | zero => intro x_3 x_4 i5 i6 i7 i8 H locs ls hk; exact absurd hk (Nat.not_lt_zero _)
    | succ kf ih5_10 =>
      intro x_3 x_4 i5 i6 i7 i8 H locs ls hk5_10 hP hD hS hl
      refine lv_aload_n hx hb dX12_sum_5 rfl (lv_at hl 0 rfl) ?_
      refine va_get (D := g.1) (ci := 10) (v := .int (-1)) (C := RX12) (T := TX12) (N := 20) hx hb hts izRX12 hown hK hP 0 rfl rfl 12 (by decide) (hts _ k820) (fun _ h9 => h9) rfl dX12_sum_6 ?_
      refine lv_iconst (v := (-1)) hx hb dX12_sum_9 (by decide) ?_
      refine lv_icmp_ne (tgt := 42) hx hb dX12_sum_10 (by decide) (fun c11 => absurd (by decide) c11) (fun _ => ?_)
      refine lv_aload_n hx hb dX12_sum_13 rfl (lv_at hl 0 rfl) ?_
      refine lv_bipush (v := 43) hx hb dX12_sum_14 (by decide) ?_
      have hL43 : (43 : Int32).toInt = 43 := by decide
      refine mcallV' (g := g) (q0 := 0) (ci := 10) (As := [.int 43]) (rest := []) St hK hT hA hP hD hS hl.1 [0] [] rfl rfl rfl (m_isSignH l g o a th hi ac tp en x_4 (-1) de iD iO tU fm fk fa fc ft ff fb fi 43 tx hen (by first | assumption | omega | decide | exact Or.inl (by decide) | exact Or.inr (by decide)) hde (by first | assumption | omega | decide | exact Or.inl (by decide) | exact Or.inr (by decide)) htx) (cwV 1 hts (zgL (zl4 k938 k939 k940 k839) k883) rfl rfl rfl (by decide +kernel) ⟨Nat.le_of_ble_eq_true rfl, Nat.le_of_ble_eq_true rfl⟩) rfl rfl rfl rfl (Nat.le_of_ble_eq_true rfl) dX12_sum_16 ⟨(Nat.le_of_ble_eq_true rfl), (Nat.le_of_ble_eq_true rfl)⟩ (fun u_ H locs hq14 hP hD hS => ?_)
      obtain ⟨at2_12, q_13⟩ := u_
      replace hq14 : (0 ≤ at2_12.toInt ∧ at2_12.toInt ≤ en.toInt + 7 - de.toInt) ∧ (x_4.toInt ≤ at2_12.toInt) ∧ (zSk tx en.toInt x_4.toInt at2_12.toInt) ∧ (q_13 = 1 ∧ zisS tx en.toInt at2_12.toInt (43 : Int32).toInt ∧ at2_12.toInt < en.toInt ∨ q_13 = 0 ∧ ¬ zisS tx en.toInt at2_12.toInt (43 : Int32).toInt) := hq14
      have hP : va_P g.1 vwCl (List.flatten [bMo g o a th hi ac tp 379 en at2_12 (-1) de iD iO tU fm fk fa fc ft ff fb fi]) H := hP
      have hD : va_D A (List.flatten [bMo g o a th hi ac tp 379 en at2_12 (-1) de iD iO tU fm fk fa fc ft ff fb fi]) := hD
      refine W.widen (k := 0) (n := 0) (Nat.le_of_ble_eq_true rfl) (Nat.le_of_ble_eq_true rfl) ?_
      refine W.eq (g2 := F0 m 19 ls [.int q_13]) rfl ?_
      obtain ⟨hq14_0, hq14_1, hq14_2, hq14_3⟩ := hq14
      rcases hq14_3 with ⟨rfl, hq14_k⟩ | ⟨rfl, hq14_k⟩
      · skip
        refine lv_if_eq (tgt := 42) hx hb dX12_sum_19 (by decide) (fun c15 => absurd c15 (by decide)) (fun _ => ?_)
        refine lv_aload_n hx hb dX12_sum_22 rfl (lv_at hl 0 rfl) ?_
        refine lv_dup hx hb dX12_sum_23 rfl ?_
        refine va_get (D := g.1) (ci := 10) (v := .int at2_12) (C := RX12) (T := TX12) (N := 20) hx hb hts izRX12 hown hK hP 0 rfl rfl 11 (by decide) (hts _ k878) (fun _ h9 => h9) rfl dX12_sum_24 ?_
        refine lv_iconst (v := 1) hx hb dX12_sum_27 (by decide) ?_
        refine lv_iadd hx hb dX12_sum_28 ?_
        refine zgv (zadd (i := at2_12.toInt) (j := 1) rfl (by decide) (by omega)) (fun x_16 hx_16 => ?_)
        refine va_put (D := g.1) (ci := 10) (v := .int x_16) (ty := .int) (C := RX12) (T := TX12) (N := 20) hx hb hts izRX12 tyX12 tyX12_ok nmX12 hown hK hP hD hS 0 rfl rfl 11 (by decide) (hts _ k878) (fun _ h9 => h9) rfl (by decide +kernel) rfl rfl (Nat.le_of_ble_eq_true rfl) dX12_sum_29 (fun H locs hP hD hS => ?_)
        have hP : va_P g.1 vwCl (List.flatten [bMo g o a th hi ac tp 379 en x_16 (-1) de iD iO tU fm fk fa fc ft ff fb fi]) H := hP
        have hD : va_D A (List.flatten [bMo g o a th hi ac tp 379 en x_16 (-1) de iD iO tU fm fk fa fc ft ff fb fi]) := hD
        refine lv_iload_n hx hb dX12_sum_32 rfl (lv_at hl 1 rfl) ?_
        refine lv_aload_n hx hb dX12_sum_33 rfl (lv_at hl 0 rfl) ?_
        obtain ⟨w17, hp18, ht19⟩ := zSv_i (zSvP i8 hq14_2 hq14_k.1 (by decide) (by omega))
        refine mcallV' (g := g) (q0 := 0) (ci := 10) (As := []) (rest := [.int x_3]) St hK hT hA hP hD hS hl.1 [0] [] rfl rfl rfl (m_partV l g o a th hi ac tp en x_16 de iD iO tU fm fk fa fc ft ff fb fi tx ev w17 hen (by first | assumption | omega | decide | exact Or.inl (by decide) | exact Or.inr (by decide)) hde hff (by first | assumption | omega | decide | exact Or.inl (by decide) | exact Or.inr (by decide)) htx) (cwV 0 hts (zgL (zl4 k935 k936 k937 k839) k934) rfl rfl rfl (by decide +kernel) ⟨Nat.le_of_ble_eq_true rfl, Nat.le_of_ble_eq_true rfl⟩) rfl rfl rfl rfl (Nat.le_of_ble_eq_true rfl) dX12_sum_34 ⟨(Nat.le_of_ble_eq_true rfl), (Nat.le_of_ble_eq_true rfl)⟩ (fun at2_20 H locs hq21 hP hD hS => ?_)
        replace hq21 : (0 ≤ at2_20.toInt ∧ at2_20.toInt ≤ en.toInt + 7 - de.toInt) ∧ (x_16.toInt ≤ at2_20.toInt) ∧ (at2_20.toInt = znx tx en.toInt (zbg tx en.toInt x_16.toInt)) := hq21
        have hP : va_P g.1 vwCl (List.flatten [bMo g o a th hi ac tp 379 en at2_20 (-1) de iD iO tU fm fk fa fc ft ff fb fi]) H := hP
        have hD : va_D A (List.flatten [bMo g o a th hi ac tp 379 en at2_20 (-1) de iD iO tU fm fk fa fc ft ff fb fi]) := hD
        refine W.widen (k := 0) (n := 0) (Nat.le_of_ble_eq_true rfl) (Nat.le_of_ble_eq_true rfl) ?_
        refine W.eq (g2 := F0 m 37 ls [.int w17, .int x_3]) rfl ?_
        obtain ⟨hq21_0, hq21_1, hq21_2⟩ := hq21
        refine lv_iadd hx hb dX12_sum_37 ?_
        refine lv_istore_n (lv' := [(1, .int (x_3 + w17)), (0, .ref o)]) hx hb dX12_sum_38 rfl hl (by decide) rfl (fun ls hl => ?_)
        refine lv_goto (tgt := 5) hx hb dX12_sum_39 (by decide) ?_
        have hl := lv_sub (l' := [(0, .ref o), (1, .int (x_3 + w17))]) hl [1, 0] rfl
        have hP : va_P g.1 vwCl (List.flatten [bMo g o a th hi ac tp 379 en at2_20 (-1) de iD iO tU fm fk fa fc ft ff fb fi]) H := hP
        have hD : va_D A (List.flatten [bMo g o a th hi ac tp 379 en at2_20 (-1) de iD iO tU fm fk fa fc ft ff fb fi]) := hD
        exact ih5_10 (x_3 + w17) at2_20 (by first | omega | assumption | decide) (by first | omega | assumption | decide) (by first | omega | assumption | decide) (zSv_a ht19 (zbt hq21_2) rfl) H _ ls (by omega)  hP hD hS (lv_sub hl [0, 1] rfl)
      · skip
        refine lv_if_eq (tgt := 42) hx hb dX12_sum_19 (by decide) (fun _ => ?_) (fun c22 => absurd (by decide) c22)
        refine lv_iload_n hx hb dX12_sum_42 rfl (lv_at hl 1 rfl) ?_
        refine ztop (r := sv) ((zSvX i8 hq14_2 hq14_k (by decide)).2) ?_
        have hP : va_P g.1 vwCl (List.flatten [bMo g o a th hi ac tp 379 en at2_12 (-1) de iD iO tU fm fk fa fc ft ff fb fi]) H := hP
        have hD : va_D A (List.flatten [bMo g o a th hi ac tp 379 en at2_12 (-1) de iD iO tU fm fk fa fc ft ff fb fi]) := hD
        exact mret_i hx hb hr hlocks hS (Nat.le_of_ble_eq_true rfl) (Nat.le_of_ble_eq_true rfl) dX12_sum_43 (at2_12) rfl (show (0 ≤ at2_12.toInt ∧ at2_12.toInt ≤ en.toInt + 7 - de.toInt) ∧ (tA.toInt ≤ at2_12.toInt) ∧ (zbg tx en.toInt at2_12.toInt = b1) from ⟨(by first | assumption | omega | decide), (by first | assumption | omega | decide), (zSvX i8 hq14_2 hq14_k (by decide)).1⟩) hP hD
  have hP : va_P g.1 vwCl (List.flatten [bMo g o a th hi ac tp 379 en at2_1 (-1) de iD iO tU fm fk fa fc ft ff fb fi]) H := hP
  have hD : va_D A (List.flatten [bMo g o a th hi ac tp 379 en at2_1 (-1) de iD iO tU fm fk fa fc ft ff fb fi]) := hD
  exact LP5_9 _ w0 at2_1 (by first | omega | assumption | decide) hq2_1 (by first | omega | assumption | decide) (zSv_a ht0 (zbt hq2_2) (Int32.zero_add _).symm) H _ ls (Nat.lt_succ_self _)  hP hD hS (lv_sub hl [0, 1] rfl)
set_option maxRecDepth 100000 in
set_option maxHeartbeats 4000000 in
theorem m_plainV (l : Launch) (g : zG) (o : Nat) (a : Nat → Nat) (th : Int32) (hi : Int32) (ac : Int32) (tp : Int32) (en : Int32) (tA : Int32) (de : Int32) (iD : Int32) (iO : Int32) (tU : Int32) (fm : Nat → Int32) (fk : Nat → Int32) (fa : Nat → Int32) (fc : Nat → Int32) (ft : Nat → Int32) (ff : Nat → Int32) (fb : Nat → Int32) (fi : Nat → Int32) (tx : Nat → Int32) (ev : Nat → Int32) (b1 : Int) (bv : Bool) (hen : 0 ≤ en.toInt ∧ en.toInt ≤ 400) (htA : 0 ≤ tA.toInt ∧ tA.toInt ≤ en.toInt + 7 - de.toInt) (hde : 0 ≤ de.toInt ∧ de.toInt ≤ 6) (hff : ∀ k9 : Nat, k9 < 6 → ff k9 = ev k9) (hdr : iD = zBi (zNz (ev 6))) (how : iO = zBi (zNz (ev 7))) (hpl : zPlV tx en.toInt ev (zbg tx en.toInt tA.toInt) b1 bv) (htx : ∀ k9 : Nat, (k9 : Int) < en.toInt → fm (379 + k9) = tx k9) : zM' g l yX12_plain (Cond.code yX12_plain cX12_plain 4 (some .boolean) :: zB) ({ frames := 7, cells := 0, slots := 0, locals := 150 } : Room) [.ref o] [bMo g o a th hi ac tp 379 en tA (-1) de iD iO tU fm fk fa fc ft ff fb fi] (fun (at2 : Int32) => some (.int (zBi bv))) (fun (at2 : Int32) => (0 ≤ at2.toInt ∧ at2.toInt ≤ en.toInt + 7 - de.toInt) ∧ (tA.toInt ≤ at2.toInt) ∧ (zbg tx en.toInt at2.toInt = b1)) (fun (at2 : Int32) => [bMo g o a th hi ac tp 379 en at2 (-1) de iD iO tU fm fk fa fc ft ff fb fi]) := by
  refine zM'.of (cc := cX12_plain) (maxL := 4) (rt := (some .boolean)) (by decide) rfl (Nat.le_of_ble_eq_true rfl) ?_
  intro p e s m args below meth c A ls St hr hlocks hin hK hT hA hP hD hS hl
  obtain ⟨hx, hb, hml, hown, hts⟩ := id St
  have hl : lv_has ls 4 [(0, .ref o)] := hl
  refine lv_aload_n hx hb dX12_plain_0 rfl (lv_at hl 0 rfl) ?_
  refine va_ldcS (q := g.2 64) hx hb hown (zra27 hT.2.1) dX12_plain_1 ?_
  refine mcallV' (g := g) (q0 := 0) (ci := 10) (As := [.ref (g.2 64)]) (rest := []) St hK hT hA hP hD hS hl.1 [0] [] rfl rfl rfl (m_hasH l g o a th hi ac tp en tA (-1) de iD iO tU fm fk fa fc ft ff fb fi tx (g.2 64) 27 zqa27 hen htA hde htx rfl zla27 zna27 (zlitB zla27)) (cwV 1 hts (zgL (zl4 k899 k900 k901 k839) k889) rfl rfl rfl (by decide +kernel) ⟨Nat.le_of_ble_eq_true rfl, Nat.le_of_ble_eq_true rfl⟩) rfl rfl rfl rfl (Nat.le_of_ble_eq_true rfl) dX12_plain_3 ⟨(Nat.le_of_ble_eq_true rfl), (Nat.le_of_ble_eq_true rfl)⟩ (fun u_ H locs hq3 hP hD hS => ?_)
  obtain ⟨at2_1, r_2⟩ := u_
  replace hq3 : (0 ≤ at2_1.toInt ∧ at2_1.toInt ≤ en.toInt + 7 - de.toInt) ∧ (tA.toInt ≤ at2_1.toInt) ∧ (r_2 = 1 ∧ zisW tx en.toInt (zbg tx en.toInt tA.toInt) zqa27.2.2.2 ∧ at2_1.toInt = znx tx en.toInt (zbg tx en.toInt tA.toInt) ∧ tA.toInt < at2_1.toInt ∧ at2_1.toInt ≤ en.toInt ∨ r_2 = 0 ∧ ¬ zisW tx en.toInt (zbg tx en.toInt tA.toInt) zqa27.2.2.2 ∧ at2_1.toInt = zbg tx en.toInt tA.toInt) := hq3
  have hP : va_P g.1 vwCl (List.flatten [bMo g o a th hi ac tp 379 en at2_1 (-1) de iD iO tU fm fk fa fc ft ff fb fi]) H := hP
  have hD : va_D A (List.flatten [bMo g o a th hi ac tp 379 en at2_1 (-1) de iD iO tU fm fk fa fc ft ff fb fi]) := hD
  refine W.widen (k := 0) (n := 0) (Nat.le_of_ble_eq_true rfl) (Nat.le_of_ble_eq_true rfl) ?_
  refine W.eq (g2 := F0 m 6 ls [.int r_2]) rfl ?_
  obtain ⟨hq3_0, hq3_1, hq3_2⟩ := hq3
  rcases hq3_2 with ⟨rfl, hq3_k, hq3_km⟩ | ⟨rfl, hq3_k, hq3_km⟩
  · skip
    refine lv_if_eq (tgt := 14) hx hb dX12_plain_6 (by decide) (fun c4 => absurd c4 (by decide)) (fun _ => ?_)
    refine lv_aload_n hx hb dX12_plain_9 rfl (lv_at hl 0 rfl) ?_
    refine va_get (D := g.1) (ci := 10) (v := .int iD) (C := RX12) (T := TX12) (N := 20) hx hb hts izRX12 hown hK hP 0 rfl rfl 15 (by decide) (hts _ k942) (fun _ h9 => h9) rfl dX12_plain_10 ?_
    refine ztop (r := (zBi bv)) (by rw [(zPlV_d hpl hq3_k).2]; exact hdr) ?_
    have hP : va_P g.1 vwCl (List.flatten [bMo g o a th hi ac tp 379 en at2_1 (-1) de iD iO tU fm fk fa fc ft ff fb fi]) H := hP
    have hD : va_D A (List.flatten [bMo g o a th hi ac tp 379 en at2_1 (-1) de iD iO tU fm fk fa fc ft ff fb fi]) := hD
    exact mret_z hx hb hr hlocks hS (Nat.le_of_ble_eq_true rfl) (Nat.le_of_ble_eq_true rfl) dX12_plain_13 (at2_1) rfl (zb01 (zBi_01 _)) (show (0 ≤ at2_1.toInt ∧ at2_1.toInt ≤ en.toInt + 7 - de.toInt) ∧ (tA.toInt ≤ at2_1.toInt) ∧ (zbg tx en.toInt at2_1.toInt = b1) from ⟨(by first | assumption | omega | decide), (by first | assumption | omega | decide), (by rw [(zPlV_d hpl hq3_k).1]; exact zbt hq3_km.1)⟩) hP hD
  · skip
    refine lv_if_eq (tgt := 14) hx hb dX12_plain_6 (by decide) (fun _ => ?_) (fun c5 => absurd (by decide) c5)
    refine lv_aload_n hx hb dX12_plain_14 rfl (lv_at hl 0 rfl) ?_
    refine va_ldcS (q := g.2 96) hx hb hown (zra43 hT.2.1) dX12_plain_15 ?_
    refine mcallV' (g := g) (q0 := 0) (ci := 10) (As := [.ref (g.2 96)]) (rest := []) St hK hT hA hP hD hS hl.1 [0] [] rfl rfl rfl (m_hasH l g o a th hi ac tp en at2_1 (-1) de iD iO tU fm fk fa fc ft ff fb fi tx (g.2 96) 43 zqa43 hen hq3_0 hde htx rfl zla43 zna43 (zlitB zla43)) (cwV 1 hts (zgL (zl4 k899 k900 k901 k839) k889) rfl rfl rfl (by decide +kernel) ⟨Nat.le_of_ble_eq_true rfl, Nat.le_of_ble_eq_true rfl⟩) rfl rfl rfl rfl (Nat.le_of_ble_eq_true rfl) dX12_plain_17 ⟨(Nat.le_of_ble_eq_true rfl), (Nat.le_of_ble_eq_true rfl)⟩ (fun u_ H locs hq8 hP hD hS => ?_)
    obtain ⟨at2_6, r_7⟩ := u_
    replace hq8 : (0 ≤ at2_6.toInt ∧ at2_6.toInt ≤ en.toInt + 7 - de.toInt) ∧ (at2_1.toInt ≤ at2_6.toInt) ∧ (r_7 = 1 ∧ zisW tx en.toInt (zbg tx en.toInt at2_1.toInt) zqa43.2.2.2 ∧ at2_6.toInt = znx tx en.toInt (zbg tx en.toInt at2_1.toInt) ∧ at2_1.toInt < at2_6.toInt ∧ at2_6.toInt ≤ en.toInt ∨ r_7 = 0 ∧ ¬ zisW tx en.toInt (zbg tx en.toInt at2_1.toInt) zqa43.2.2.2 ∧ at2_6.toInt = zbg tx en.toInt at2_1.toInt) := hq8
    have hP : va_P g.1 vwCl (List.flatten [bMo g o a th hi ac tp 379 en at2_6 (-1) de iD iO tU fm fk fa fc ft ff fb fi]) H := hP
    have hD : va_D A (List.flatten [bMo g o a th hi ac tp 379 en at2_6 (-1) de iD iO tU fm fk fa fc ft ff fb fi]) := hD
    refine W.widen (k := 0) (n := 0) (Nat.le_of_ble_eq_true rfl) (Nat.le_of_ble_eq_true rfl) ?_
    refine W.eq (g2 := F0 m 20 ls [.int r_7]) rfl ?_
    obtain ⟨hq8_0, hq8_1, hq8_2⟩ := hq8
    rcases hq8_2 with ⟨rfl, hq8_k, hq8_km⟩ | ⟨rfl, hq8_k, hq8_km⟩
    · skip
      refine lv_if_eq (tgt := 28) hx hb dX12_plain_20 (by decide) (fun c9 => absurd c9 (by decide)) (fun _ => ?_)
      refine lv_aload_n hx hb dX12_plain_23 rfl (lv_at hl 0 rfl) ?_
      refine va_get (D := g.1) (ci := 10) (v := .int iO) (C := RX12) (T := TX12) (N := 20) hx hb hts izRX12 hown hK hP 0 rfl rfl 16 (by decide) (hts _ k943) (fun _ h9 => h9) rfl dX12_plain_24 ?_
      refine ztop (r := (zBi bv)) (by rw [(zPlV_o hpl (zBy hq3_km hq8_k)).2]; exact how) ?_
      have hP : va_P g.1 vwCl (List.flatten [bMo g o a th hi ac tp 379 en at2_6 (-1) de iD iO tU fm fk fa fc ft ff fb fi]) H := hP
      have hD : va_D A (List.flatten [bMo g o a th hi ac tp 379 en at2_6 (-1) de iD iO tU fm fk fa fc ft ff fb fi]) := hD
      exact mret_z hx hb hr hlocks hS (Nat.le_of_ble_eq_true rfl) (Nat.le_of_ble_eq_true rfl) dX12_plain_27 (at2_6) rfl (zb01 (zBi_01 _)) (show (0 ≤ at2_6.toInt ∧ at2_6.toInt ≤ en.toInt + 7 - de.toInt) ∧ (tA.toInt ≤ at2_6.toInt) ∧ (zbg tx en.toInt at2_6.toInt = b1) from ⟨(by first | assumption | omega | decide), (by first | assumption | omega | decide), (by rw [(zPlV_o hpl (zBy hq3_km hq8_k)).1]; exact zbt (zBx hq3_km hq8_km.1))⟩) hP hD
    · skip
      refine lv_if_eq (tgt := 28) hx hb dX12_plain_20 (by decide) (fun _ => ?_) (fun c10 => absurd (by decide) c10)
      obtain ⟨p0, x0, y0, hs0, hc0, hs1⟩ := zPlV_s hpl hq3_k (zBw hq3_km hq8_k)
      have hs0b : zSv tx en.toInt ev (zbg tx en.toInt at2_6.toInt) 0 p0 x0 := by rw [zbz (zBe hq3_km hq8_km)]; exact hs0
      refine lv_aload_n hx hb dX12_plain_28 rfl (lv_at hl 0 rfl) ?_
      refine mcallV' (g := g) (q0 := 0) (ci := 10) (As := []) (rest := []) St hK hT hA hP hD hS hl.1 [0] [] rfl rfl rfl (m_sumV l g o a th hi ac tp en at2_6 de iD iO tU fm fk fa fc ft ff fb fi tx ev p0 x0 hen hq8_0 hde hff (by first | assumption | omega | decide | exact Or.inl (by decide) | exact Or.inr (by decide)) htx) (cwV 0 hts (zgL (zl4 k944 k945 k946 k839) k941) rfl rfl rfl (by decide +kernel) ⟨Nat.le_of_ble_eq_true rfl, Nat.le_of_ble_eq_true rfl⟩) rfl rfl rfl rfl (Nat.le_of_ble_eq_true rfl) dX12_plain_29 ⟨(Nat.le_of_ble_eq_true rfl), (Nat.le_of_ble_eq_true rfl)⟩ (fun at2_11 H locs hq12 hP hD hS => ?_)
      replace hq12 : (0 ≤ at2_11.toInt ∧ at2_11.toInt ≤ en.toInt + 7 - de.toInt) ∧ (at2_6.toInt ≤ at2_11.toInt) ∧ (zbg tx en.toInt at2_11.toInt = p0) := hq12
      have hP : va_P g.1 vwCl (List.flatten [bMo g o a th hi ac tp 379 en at2_11 (-1) de iD iO tU fm fk fa fc ft ff fb fi]) H := hP
      have hD : va_D A (List.flatten [bMo g o a th hi ac tp 379 en at2_11 (-1) de iD iO tU fm fk fa fc ft ff fb fi]) := hD
      refine W.widen (k := 0) (n := 0) (Nat.le_of_ble_eq_true rfl) (Nat.le_of_ble_eq_true rfl) ?_
      refine W.eq (g2 := F0 m 32 ls [.int x0]) rfl ?_
      obtain ⟨hq12_0, hq12_1, hq12_2⟩ := hq12
      refine lv_istore_n (lv' := [(1, .int x0), (0, .ref o)]) hx hb dX12_plain_32 rfl hl (by decide) rfl (fun ls hl => ?_)
      refine lv_aload_n hx hb dX12_plain_33 rfl (lv_at hl 1 rfl) ?_
      refine va_get (D := g.1) (ci := 10) (v := .int (-1)) (C := RX12) (T := TX12) (N := 20) hx hb hts izRX12 hown hK hP 0 rfl rfl 12 (by decide) (hts _ k820) (fun _ h9 => h9) rfl dX12_plain_34 ?_
      refine lv_iconst (v := (-1)) hx hb dX12_plain_37 (by decide) ?_
      refine lv_icmp_eq (tgt := 43) hx hb dX12_plain_38 (by decide) (fun _ => ?_) (fun c13 => absurd (by decide) c13)
      refine lv_aload_n hx hb dX12_plain_43 rfl (lv_at hl 1 rfl) ?_
      refine lv_bipush (v := 60) hx hb dX12_plain_44 (by decide) ?_
      have hL60 : (60 : Int32).toInt = 60 := by decide
      refine mcallV' (g := g) (q0 := 0) (ci := 10) (As := [.int 60]) (rest := []) St hK hT hA hP hD hS hl.1 [0] [] rfl rfl rfl (m_isSignH l g o a th hi ac tp en at2_11 (-1) de iD iO tU fm fk fa fc ft ff fb fi 60 tx hen hq12_0 hde (by first | assumption | omega | decide | exact Or.inl (by decide) | exact Or.inr (by decide)) htx) (cwV 1 hts (zgL (zl4 k938 k939 k940 k839) k883) rfl rfl rfl (by decide +kernel) ⟨Nat.le_of_ble_eq_true rfl, Nat.le_of_ble_eq_true rfl⟩) rfl rfl rfl rfl (Nat.le_of_ble_eq_true rfl) dX12_plain_46 ⟨(Nat.le_of_ble_eq_true rfl), (Nat.le_of_ble_eq_true rfl)⟩ (fun u_ H locs hq16 hP hD hS => ?_)
      obtain ⟨at2_14, q_15⟩ := u_
      replace hq16 : (0 ≤ at2_14.toInt ∧ at2_14.toInt ≤ en.toInt + 7 - de.toInt) ∧ (at2_11.toInt ≤ at2_14.toInt) ∧ (zSk tx en.toInt at2_11.toInt at2_14.toInt) ∧ (q_15 = 1 ∧ zisS tx en.toInt at2_14.toInt (60 : Int32).toInt ∧ at2_14.toInt < en.toInt ∨ q_15 = 0 ∧ ¬ zisS tx en.toInt at2_14.toInt (60 : Int32).toInt) := hq16
      have hP : va_P g.1 vwCl (List.flatten [bMo g o a th hi ac tp 379 en at2_14 (-1) de iD iO tU fm fk fa fc ft ff fb fi]) H := hP
      have hD : va_D A (List.flatten [bMo g o a th hi ac tp 379 en at2_14 (-1) de iD iO tU fm fk fa fc ft ff fb fi]) := hD
      refine W.widen (k := 0) (n := 0) (Nat.le_of_ble_eq_true rfl) (Nat.le_of_ble_eq_true rfl) ?_
      refine W.eq (g2 := F0 m 49 ls [.int q_15]) rfl ?_
      obtain ⟨hq16_0, hq16_1, hq16_2, hq16_3⟩ := hq16
      rcases hq16_3 with ⟨rfl, hq16_k⟩ | ⟨rfl, hq16_k⟩
      · skip
        refine lv_istore_n (lv' := [(2, .int 1), (1, .int x0), (0, .ref o)]) hx hb dX12_plain_49 rfl hl (by decide) rfl (fun ls hl => ?_)
        refine lv_iload_n hx hb dX12_plain_50 rfl (lv_at hl 0 rfl) ?_
        refine lv_if_ne (tgt := 73) hx hb dX12_plain_51 (by decide) (fun _ => ?_) (fun c17 => absurd c17 (by decide))
        refine lv_aload_n hx hb dX12_plain_73 rfl (lv_at hl 2 rfl) ?_
        refine lv_dup hx hb dX12_plain_74 rfl ?_
        refine va_get (D := g.1) (ci := 10) (v := .int at2_14) (C := RX12) (T := TX12) (N := 20) hx hb hts izRX12 hown hK hP 0 rfl rfl 11 (by decide) (hts _ k878) (fun _ h9 => h9) rfl dX12_plain_75 ?_
        refine lv_iconst (v := 1) hx hb dX12_plain_78 (by decide) ?_
        refine lv_iadd hx hb dX12_plain_79 ?_
        refine zgv (zadd (i := at2_14.toInt) (j := 1) rfl (by decide) (by omega)) (fun x_18 hx_18 => ?_)
        refine va_put (D := g.1) (ci := 10) (v := .int x_18) (ty := .int) (C := RX12) (T := TX12) (N := 20) hx hb hts izRX12 tyX12 tyX12_ok nmX12 hown hK hP hD hS 0 rfl rfl 11 (by decide) (hts _ k878) (fun _ h9 => h9) rfl (by decide +kernel) rfl rfl (Nat.le_of_ble_eq_true rfl) dX12_plain_80 (fun H locs hP hD hS => ?_)
        have hP : va_P g.1 vwCl (List.flatten [bMo g o a th hi ac tp 379 en x_18 (-1) de iD iO tU fm fk fa fc ft ff fb fi]) H := hP
        have hD : va_D A (List.flatten [bMo g o a th hi ac tp 379 en x_18 (-1) de iD iO tU fm fk fa fc ft ff fb fi]) := hD
        have hb0 : zisS tx en.toInt p0 60 := hq12_2 ▸ (zisS_b hq16_2 hq16_k.1 (by decide))
        have hv0 := zLs60 hc0 hb0
        have hs1b : zSv tx en.toInt ev (zbg tx en.toInt x_18.toInt) 0 b1 y0 := by rw [zb1 hq16_2 hq16_k.1 (by omega), hq12_2]; exact hs1
        refine lv_aload_n hx hb dX12_plain_83 rfl (lv_at hl 2 rfl) ?_
        refine mcallV' (g := g) (q0 := 0) (ci := 10) (As := []) (rest := []) St hK hT hA hP hD hS hl.1 [0] [] rfl rfl rfl (m_sumV l g o a th hi ac tp en x_18 de iD iO tU fm fk fa fc ft ff fb fi tx ev b1 y0 hen (by first | assumption | omega | decide | exact Or.inl (by decide) | exact Or.inr (by decide)) hde hff (by first | assumption | omega | decide | exact Or.inl (by decide) | exact Or.inr (by decide)) htx) (cwV 0 hts (zgL (zl4 k944 k945 k946 k839) k941) rfl rfl rfl (by decide +kernel) ⟨Nat.le_of_ble_eq_true rfl, Nat.le_of_ble_eq_true rfl⟩) rfl rfl rfl rfl (Nat.le_of_ble_eq_true rfl) dX12_plain_84 ⟨(Nat.le_of_ble_eq_true rfl), (Nat.le_of_ble_eq_true rfl)⟩ (fun at2_19 H locs hq20 hP hD hS => ?_)
        replace hq20 : (0 ≤ at2_19.toInt ∧ at2_19.toInt ≤ en.toInt + 7 - de.toInt) ∧ (x_18.toInt ≤ at2_19.toInt) ∧ (zbg tx en.toInt at2_19.toInt = b1) := hq20
        have hP : va_P g.1 vwCl (List.flatten [bMo g o a th hi ac tp 379 en at2_19 (-1) de iD iO tU fm fk fa fc ft ff fb fi]) H := hP
        have hD : va_D A (List.flatten [bMo g o a th hi ac tp 379 en at2_19 (-1) de iD iO tU fm fk fa fc ft ff fb fi]) := hD
        refine W.widen (k := 0) (n := 0) (Nat.le_of_ble_eq_true rfl) (Nat.le_of_ble_eq_true rfl) ?_
        refine W.eq (g2 := F0 m 87 ls [.int y0]) rfl ?_
        obtain ⟨hq20_0, hq20_1, hq20_2⟩ := hq20
        refine lv_istore_n (lv' := [(3, .int y0), (2, .int 1), (1, .int x0), (0, .ref o)]) hx hb dX12_plain_87 rfl hl (by decide) rfl (fun ls hl => ?_)
        refine lv_iload_n hx hb dX12_plain_88 rfl (lv_at hl 1 rfl) ?_
        refine lv_if_eq (tgt := 105) hx hb dX12_plain_89 (by decide) (fun c21 => absurd c21 (by decide)) (fun _ => ?_)
        refine lv_iload_n hx hb dX12_plain_92 rfl (lv_at hl 2 rfl) ?_
        refine lv_iload_n hx hb dX12_plain_93 rfl (lv_at hl 0 rfl) ?_
        refine lv_icmp_ge (tgt := 101) hx hb dX12_plain_94 (by decide) (fun cb9 => ?_) (fun cb9 => ?_)
        · skip
          have c22 : y0.toInt ≤ x0.toInt := zle cb9 rfl rfl
          refine lv_iconst (v := 0) hx hb dX12_plain_101 (by decide) ?_
          refine lv_goto (tgt := 115) hx hb dX12_plain_102 (by decide) ?_
          refine ztop (r := (zBi bv)) (zBd_f hv0 (by omega)) ?_
          have hP : va_P g.1 vwCl (List.flatten [bMo g o a th hi ac tp 379 en at2_19 (-1) de iD iO tU fm fk fa fc ft ff fb fi]) H := hP
          have hD : va_D A (List.flatten [bMo g o a th hi ac tp 379 en at2_19 (-1) de iD iO tU fm fk fa fc ft ff fb fi]) := hD
          exact mret_z hx hb hr hlocks hS (Nat.le_of_ble_eq_true rfl) (Nat.le_of_ble_eq_true rfl) dX12_plain_115 (at2_19) rfl (zb01 (zBi_01 _)) (show (0 ≤ at2_19.toInt ∧ at2_19.toInt ≤ en.toInt + 7 - de.toInt) ∧ (tA.toInt ≤ at2_19.toInt) ∧ (zbg tx en.toInt at2_19.toInt = b1) from ⟨(by first | assumption | omega | decide), (by first | assumption | omega | decide), hq20_2⟩) hP hD
        · skip
          have c23 : x0.toInt < y0.toInt := zlti (Int32.not_le.mp cb9) rfl rfl
          refine lv_iconst (v := 1) hx hb dX12_plain_97 (by decide) ?_
          refine lv_goto (tgt := 115) hx hb dX12_plain_98 (by decide) ?_
          refine ztop (r := (zBi bv)) (zBd_t hv0 (by omega)) ?_
          have hP : va_P g.1 vwCl (List.flatten [bMo g o a th hi ac tp 379 en at2_19 (-1) de iD iO tU fm fk fa fc ft ff fb fi]) H := hP
          have hD : va_D A (List.flatten [bMo g o a th hi ac tp 379 en at2_19 (-1) de iD iO tU fm fk fa fc ft ff fb fi]) := hD
          exact mret_z hx hb hr hlocks hS (Nat.le_of_ble_eq_true rfl) (Nat.le_of_ble_eq_true rfl) dX12_plain_115 (at2_19) rfl (zb01 (zBi_01 _)) (show (0 ≤ at2_19.toInt ∧ at2_19.toInt ≤ en.toInt + 7 - de.toInt) ∧ (tA.toInt ≤ at2_19.toInt) ∧ (zbg tx en.toInt at2_19.toInt = b1) from ⟨(by first | assumption | omega | decide), (by first | assumption | omega | decide), hq20_2⟩) hP hD
      · skip
        refine lv_istore_n (lv' := [(2, .int 0), (1, .int x0), (0, .ref o)]) hx hb dX12_plain_49 rfl hl (by decide) rfl (fun ls hl => ?_)
        refine lv_iload_n hx hb dX12_plain_50 rfl (lv_at hl 0 rfl) ?_
        refine lv_if_ne (tgt := 73) hx hb dX12_plain_51 (by decide) (fun c24 => absurd (by decide) c24) (fun _ => ?_)
        refine lv_aload_n hx hb dX12_plain_54 rfl (lv_at hl 2 rfl) ?_
        refine lv_bipush (v := 62) hx hb dX12_plain_55 (by decide) ?_
        have hL62 : (62 : Int32).toInt = 62 := by decide
        refine mcallV' (g := g) (q0 := 0) (ci := 10) (As := [.int 62]) (rest := []) St hK hT hA hP hD hS hl.1 [0] [] rfl rfl rfl (m_isSignH l g o a th hi ac tp en at2_14 (-1) de iD iO tU fm fk fa fc ft ff fb fi 62 tx hen hq16_0 hde (by first | assumption | omega | decide | exact Or.inl (by decide) | exact Or.inr (by decide)) htx) (cwV 1 hts (zgL (zl4 k938 k939 k940 k839) k883) rfl rfl rfl (by decide +kernel) ⟨Nat.le_of_ble_eq_true rfl, Nat.le_of_ble_eq_true rfl⟩) rfl rfl rfl rfl (Nat.le_of_ble_eq_true rfl) dX12_plain_57 ⟨(Nat.le_of_ble_eq_true rfl), (Nat.le_of_ble_eq_true rfl)⟩ (fun u_ H locs hq27 hP hD hS => ?_)
        obtain ⟨at2_25, q_26⟩ := u_
        replace hq27 : (0 ≤ at2_25.toInt ∧ at2_25.toInt ≤ en.toInt + 7 - de.toInt) ∧ (at2_14.toInt ≤ at2_25.toInt) ∧ (zSk tx en.toInt at2_14.toInt at2_25.toInt) ∧ (q_26 = 1 ∧ zisS tx en.toInt at2_25.toInt (62 : Int32).toInt ∧ at2_25.toInt < en.toInt ∨ q_26 = 0 ∧ ¬ zisS tx en.toInt at2_25.toInt (62 : Int32).toInt) := hq27
        have hP : va_P g.1 vwCl (List.flatten [bMo g o a th hi ac tp 379 en at2_25 (-1) de iD iO tU fm fk fa fc ft ff fb fi]) H := hP
        have hD : va_D A (List.flatten [bMo g o a th hi ac tp 379 en at2_25 (-1) de iD iO tU fm fk fa fc ft ff fb fi]) := hD
        refine W.widen (k := 0) (n := 0) (Nat.le_of_ble_eq_true rfl) (Nat.le_of_ble_eq_true rfl) ?_
        refine W.eq (g2 := F0 m 60 ls [.int q_26]) rfl ?_
        obtain ⟨hq27_0, hq27_1, hq27_2, hq27_3⟩ := hq27
        rcases hq27_3 with ⟨rfl, hq27_k⟩ | ⟨rfl, hq27_k⟩
        · skip
          refine lv_if_ne (tgt := 73) hx hb dX12_plain_60 (by decide) (fun _ => ?_) (fun c28 => absurd c28 (by decide))
          refine lv_aload_n hx hb dX12_plain_73 rfl (lv_at hl 2 rfl) ?_
          refine lv_dup hx hb dX12_plain_74 rfl ?_
          refine va_get (D := g.1) (ci := 10) (v := .int at2_25) (C := RX12) (T := TX12) (N := 20) hx hb hts izRX12 hown hK hP 0 rfl rfl 11 (by decide) (hts _ k878) (fun _ h9 => h9) rfl dX12_plain_75 ?_
          refine lv_iconst (v := 1) hx hb dX12_plain_78 (by decide) ?_
          refine lv_iadd hx hb dX12_plain_79 ?_
          refine zgv (zadd (i := at2_25.toInt) (j := 1) rfl (by decide) (by omega)) (fun x_29 hx_29 => ?_)
          refine va_put (D := g.1) (ci := 10) (v := .int x_29) (ty := .int) (C := RX12) (T := TX12) (N := 20) hx hb hts izRX12 tyX12 tyX12_ok nmX12 hown hK hP hD hS 0 rfl rfl 11 (by decide) (hts _ k878) (fun _ h9 => h9) rfl (by decide +kernel) rfl rfl (Nat.le_of_ble_eq_true rfl) dX12_plain_80 (fun H locs hP hD hS => ?_)
          have hP : va_P g.1 vwCl (List.flatten [bMo g o a th hi ac tp 379 en x_29 (-1) de iD iO tU fm fk fa fc ft ff fb fi]) H := hP
          have hD : va_D A (List.flatten [bMo g o a th hi ac tp 379 en x_29 (-1) de iD iO tU fm fk fa fc ft ff fb fi]) := hD
          have hb0 : zisS tx en.toInt p0 62 := ((zbs hq16_2).trans hq12_2) ▸ (zisS_b hq27_2 hq27_k.1 (by decide))
          have hv0 := zLs62 hc0 hb0
          have hs1b : zSv tx en.toInt ev (zbg tx en.toInt x_29.toInt) 0 b1 y0 := by rw [zb1 hq27_2 hq27_k.1 (by omega), ((zbs hq16_2).trans hq12_2)]; exact hs1
          refine lv_aload_n hx hb dX12_plain_83 rfl (lv_at hl 2 rfl) ?_
          refine mcallV' (g := g) (q0 := 0) (ci := 10) (As := []) (rest := []) St hK hT hA hP hD hS hl.1 [0] [] rfl rfl rfl (m_sumV l g o a th hi ac tp en x_29 de iD iO tU fm fk fa fc ft ff fb fi tx ev b1 y0 hen (by first | assumption | omega | decide | exact Or.inl (by decide) | exact Or.inr (by decide)) hde hff (by first | assumption | omega | decide | exact Or.inl (by decide) | exact Or.inr (by decide)) htx) (cwV 0 hts (zgL (zl4 k944 k945 k946 k839) k941) rfl rfl rfl (by decide +kernel) ⟨Nat.le_of_ble_eq_true rfl, Nat.le_of_ble_eq_true rfl⟩) rfl rfl rfl rfl (Nat.le_of_ble_eq_true rfl) dX12_plain_84 ⟨(Nat.le_of_ble_eq_true rfl), (Nat.le_of_ble_eq_true rfl)⟩ (fun at2_30 H locs hq31 hP hD hS => ?_)
          replace hq31 : (0 ≤ at2_30.toInt ∧ at2_30.toInt ≤ en.toInt + 7 - de.toInt) ∧ (x_29.toInt ≤ at2_30.toInt) ∧ (zbg tx en.toInt at2_30.toInt = b1) := hq31
          have hP : va_P g.1 vwCl (List.flatten [bMo g o a th hi ac tp 379 en at2_30 (-1) de iD iO tU fm fk fa fc ft ff fb fi]) H := hP
          have hD : va_D A (List.flatten [bMo g o a th hi ac tp 379 en at2_30 (-1) de iD iO tU fm fk fa fc ft ff fb fi]) := hD
          refine W.widen (k := 0) (n := 0) (Nat.le_of_ble_eq_true rfl) (Nat.le_of_ble_eq_true rfl) ?_
          refine W.eq (g2 := F0 m 87 ls [.int y0]) rfl ?_
          obtain ⟨hq31_0, hq31_1, hq31_2⟩ := hq31
          refine lv_istore_n (lv' := [(3, .int y0), (2, .int 0), (1, .int x0), (0, .ref o)]) hx hb dX12_plain_87 rfl hl (by decide) rfl (fun ls hl => ?_)
          refine lv_iload_n hx hb dX12_plain_88 rfl (lv_at hl 1 rfl) ?_
          refine lv_if_eq (tgt := 105) hx hb dX12_plain_89 (by decide) (fun _ => ?_) (fun c32 => absurd (by decide) c32)
          refine lv_iload_n hx hb dX12_plain_105 rfl (lv_at hl 2 rfl) ?_
          refine lv_iload_n hx hb dX12_plain_106 rfl (lv_at hl 0 rfl) ?_
          refine lv_icmp_le (tgt := 114) hx hb dX12_plain_107 (by decide) (fun cb9 => ?_) (fun cb9 => ?_)
          · skip
            have c33 : x0.toInt ≤ y0.toInt := zle cb9 rfl rfl
            refine lv_iconst (v := 0) hx hb dX12_plain_114 (by decide) ?_
            refine ztop (r := (zBi bv)) (zBd_f hv0 (by omega)) ?_
            have hP : va_P g.1 vwCl (List.flatten [bMo g o a th hi ac tp 379 en at2_30 (-1) de iD iO tU fm fk fa fc ft ff fb fi]) H := hP
            have hD : va_D A (List.flatten [bMo g o a th hi ac tp 379 en at2_30 (-1) de iD iO tU fm fk fa fc ft ff fb fi]) := hD
            exact mret_z hx hb hr hlocks hS (Nat.le_of_ble_eq_true rfl) (Nat.le_of_ble_eq_true rfl) dX12_plain_115 (at2_30) rfl (zb01 (zBi_01 _)) (show (0 ≤ at2_30.toInt ∧ at2_30.toInt ≤ en.toInt + 7 - de.toInt) ∧ (tA.toInt ≤ at2_30.toInt) ∧ (zbg tx en.toInt at2_30.toInt = b1) from ⟨(by first | assumption | omega | decide), (by first | assumption | omega | decide), hq31_2⟩) hP hD
          · skip
            have c34 : y0.toInt < x0.toInt := zlti (Int32.not_le.mp cb9) rfl rfl
            refine lv_iconst (v := 1) hx hb dX12_plain_110 (by decide) ?_
            refine lv_goto (tgt := 115) hx hb dX12_plain_111 (by decide) ?_
            refine ztop (r := (zBi bv)) (zBd_t hv0 (by omega)) ?_
            have hP : va_P g.1 vwCl (List.flatten [bMo g o a th hi ac tp 379 en at2_30 (-1) de iD iO tU fm fk fa fc ft ff fb fi]) H := hP
            have hD : va_D A (List.flatten [bMo g o a th hi ac tp 379 en at2_30 (-1) de iD iO tU fm fk fa fc ft ff fb fi]) := hD
            exact mret_z hx hb hr hlocks hS (Nat.le_of_ble_eq_true rfl) (Nat.le_of_ble_eq_true rfl) dX12_plain_115 (at2_30) rfl (zb01 (zBi_01 _)) (show (0 ≤ at2_30.toInt ∧ at2_30.toInt ≤ en.toInt + 7 - de.toInt) ∧ (tA.toInt ≤ at2_30.toInt) ∧ (zbg tx en.toInt at2_30.toInt = b1) from ⟨(by first | assumption | omega | decide), (by first | assumption | omega | decide), hq31_2⟩) hP hD
        · skip
          refine lv_if_ne (tgt := 73) hx hb dX12_plain_60 (by decide) (fun c35 => absurd (by decide) c35) (fun _ => ?_)
          exact (hc0.elim (fun q9 => (zisS_bn (d := 60) hq16_2 hq16_k (by decide)) (by rw [hq12_2]; exact q9.1)) (fun q9 => (zisS_bn (d := 62) hq27_2 hq27_k (by decide)) (by rw [zbs hq16_2, hq12_2]; exact q9.1))).elim
set_option maxRecDepth 100000 in
set_option maxHeartbeats 4000000 in
theorem m_atomV6 (l : Launch) (g : zG) (o : Nat) (a : Nat → Nat) (th : Int32) (hi : Int32) (ac : Int32) (tp : Int32) (en : Int32) (tA : Int32) (iD : Int32) (iO : Int32) (tU : Int32) (fm : Nat → Int32) (fk : Nat → Int32) (fa : Nat → Int32) (fc : Nat → Int32) (ft : Nat → Int32) (ff : Nat → Int32) (fb : Nat → Int32) (fi : Nat → Int32) (tx : Nat → Int32) (ev : Nat → Int32) (b1 : Int) (bv : Bool) (hen : 0 ≤ en.toInt ∧ en.toInt ≤ 400) (htA : 0 ≤ tA.toInt ∧ tA.toInt ≤ en.toInt + 7 - 6) (hde : 0 ≤ 6 ∧ 6 ≤ 6) (hff : ∀ k9 : Nat, k9 < 6 → ff k9 = ev k9) (hdr : iD = zBi (zNz (ev 6))) (how : iO = zBi (zNz (ev 7))) (ha : zAv tx en.toInt ev 0 (zbg tx en.toInt tA.toInt) b1 bv) (htx : ∀ k9 : Nat, (k9 : Int) < en.toInt → fm (379 + k9) = tx k9) : zM' g l yX12_atom (Cond.code yX12_atom cX12_atom 4 (some .boolean) :: zB) ({ frames := 8, cells := 0, slots := 0, locals := 173 } : Room) [.ref o] [bMo g o a th hi ac tp 379 en tA (-1) 6 iD iO tU fm fk fa fc ft ff fb fi] (fun (at2 : Int32) => some (.int (zBi bv))) (fun (at2 : Int32) => (0 ≤ at2.toInt ∧ at2.toInt ≤ en.toInt + 7 - 6) ∧ (tA.toInt ≤ at2.toInt) ∧ (zbg tx en.toInt at2.toInt = b1)) (fun (at2 : Int32) => [bMo g o a th hi ac tp 379 en at2 (-1) 6 iD iO tU fm fk fa fc ft ff fb fi]) := by
  refine zM'.of (cc := cX12_atom) (maxL := 4) (rt := (some .boolean)) (by decide) rfl (Nat.le_of_ble_eq_true rfl) ?_
  intro p e s m args below meth c A ls St hr hlocks hin hK hT hA hP hD hS hl
  obtain ⟨hx, hb, hml, hown, hts⟩ := id St
  have hl : lv_has ls 4 [(0, .ref o)] := hl
  refine lv_aload_n hx hb dX12_atom_0 rfl (lv_at hl 0 rfl) ?_
  refine va_get (D := g.1) (ci := 10) (v := .int (-1)) (C := RX12) (T := TX12) (N := 20) hx hb hts izRX12 hown hK hP 0 rfl rfl 12 (by decide) (hts _ k820) (fun _ h9 => h9) rfl dX12_atom_1 ?_
  refine lv_iconst (v := (-1)) hx hb dX12_atom_4 (by decide) ?_
  refine lv_icmp_eq (tgt := 10) hx hb dX12_atom_5 (by decide) (fun _ => ?_) (fun c1 => absurd (by decide) c1)
  refine lv_aload_n hx hb dX12_atom_10 rfl (lv_at hl 0 rfl) ?_
  have hL6 : (6 : Int32).toInt = 6 := by decide
  refine mcallV' (g := g) (q0 := 0) (ci := 10) (As := []) (rest := []) St hK hT hA hP hD hS hl.1 [0] [] rfl rfl rfl (m_hereH l g o a th hi ac tp en tA (-1) 6 iD iO tU fm fk fa fc ft ff fb fi tx hen (by first | assumption | omega | decide | exact Or.inl (by decide) | exact Or.inr (by decide)) (by decide) htx) (cwV 0 hts (zgL (zl4 k892 k893 k894 k839) k891) rfl rfl rfl (by decide +kernel) ⟨Nat.le_of_ble_eq_true rfl, Nat.le_of_ble_eq_true rfl⟩) rfl rfl rfl rfl (Nat.le_of_ble_eq_true rfl) dX12_atom_11 ⟨(Nat.le_of_ble_eq_true rfl), (Nat.le_of_ble_eq_true rfl)⟩ (fun at2_2 H locs hq3 hP hD hS => ?_)
  replace hq3 : (0 ≤ at2_2.toInt ∧ at2_2.toInt ≤ en.toInt + 7 - (6 : Int32).toInt) ∧ (tA.toInt ≤ at2_2.toInt) ∧ (zSk tx en.toInt tA.toInt at2_2.toInt) := hq3
  have hP : va_P g.1 vwCl (List.flatten [bMo g o a th hi ac tp 379 en at2_2 (-1) 6 iD iO tU fm fk fa fc ft ff fb fi]) H := hP
  have hD : va_D A (List.flatten [bMo g o a th hi ac tp 379 en at2_2 (-1) 6 iD iO tU fm fk fa fc ft ff fb fi]) := hD
  refine W.widen (k := 0) (n := 0) (Nat.le_of_ble_eq_true rfl) (Nat.le_of_ble_eq_true rfl) ?_
  refine W.eq (g2 := F0 m 14 ls [.int at2_2]) rfl ?_
  obtain ⟨hq3_0, hq3_1, hq3_2⟩ := hq3
  refine lv_istore_n (lv' := [(1, .int at2_2), (0, .ref o)]) hx hb dX12_atom_14 rfl hl (by decide) rfl (fun ls hl => ?_)
  refine lv_aload_n hx hb dX12_atom_15 rfl (lv_at hl 1 rfl) ?_
  refine va_ldcS (q := g.2 98) hx hb hown (zra44 hT.2.1) dX12_atom_16 ?_
  refine mcallV' (g := g) (q0 := 0) (ci := 10) (As := [.ref (g.2 98)]) (rest := []) St hK hT hA hP hD hS hl.1 [0] [] rfl rfl rfl (m_hasH l g o a th hi ac tp en at2_2 (-1) 6 iD iO tU fm fk fa fc ft ff fb fi tx (g.2 98) 44 zqa44 hen hq3_0 (by decide) htx rfl zla44 zna44 (zlitB zla44)) (cwV 1 hts (zgL (zl4 k899 k900 k901 k839) k889) rfl rfl rfl (by decide +kernel) ⟨Nat.le_of_ble_eq_true rfl, Nat.le_of_ble_eq_true rfl⟩) rfl rfl rfl rfl (Nat.le_of_ble_eq_true rfl) dX12_atom_18 ⟨(Nat.le_of_ble_eq_true rfl), (Nat.le_of_ble_eq_true rfl)⟩ (fun u_ H locs hq6 hP hD hS => ?_)
  obtain ⟨at2_4, r_5⟩ := u_
  replace hq6 : (0 ≤ at2_4.toInt ∧ at2_4.toInt ≤ en.toInt + 7 - (6 : Int32).toInt) ∧ (at2_2.toInt ≤ at2_4.toInt) ∧ (r_5 = 1 ∧ zisW tx en.toInt (zbg tx en.toInt at2_2.toInt) zqa44.2.2.2 ∧ at2_4.toInt = znx tx en.toInt (zbg tx en.toInt at2_2.toInt) ∧ at2_2.toInt < at2_4.toInt ∧ at2_4.toInt ≤ en.toInt ∨ r_5 = 0 ∧ ¬ zisW tx en.toInt (zbg tx en.toInt at2_2.toInt) zqa44.2.2.2 ∧ at2_4.toInt = zbg tx en.toInt at2_2.toInt) := hq6
  have hP : va_P g.1 vwCl (List.flatten [bMo g o a th hi ac tp 379 en at2_4 (-1) 6 iD iO tU fm fk fa fc ft ff fb fi]) H := hP
  have hD : va_D A (List.flatten [bMo g o a th hi ac tp 379 en at2_4 (-1) 6 iD iO tU fm fk fa fc ft ff fb fi]) := hD
  refine W.widen (k := 0) (n := 0) (Nat.le_of_ble_eq_true rfl) (Nat.le_of_ble_eq_true rfl) ?_
  refine W.eq (g2 := F0 m 21 ls [.int r_5]) rfl ?_
  obtain ⟨hq6_0, hq6_1, hq6_2⟩ := hq6
  rcases hq6_2 with ⟨rfl, hq6_k, hq6_km⟩ | ⟨rfl, hq6_k, hq6_km⟩
  · skip
    refine lv_istore_n (lv' := [(2, .int 1), (1, .int at2_2), (0, .ref o)]) hx hb dX12_atom_21 rfl hl (by decide) rfl (fun ls hl => ?_)
    refine lv_iload_n hx hb dX12_atom_22 rfl (lv_at hl 0 rfl) ?_
    refine lv_if_ne (tgt := 40) hx hb dX12_atom_23 (by decide) (fun _ => ?_) (fun c7 => absurd c7 (by decide))
    refine lv_aload_n hx hb dX12_atom_40 rfl (lv_at hl 2 rfl) ?_
    refine va_get (D := g.1) (ci := 10) (v := .int 6) (C := RX12) (T := TX12) (N := 20) hx hb hts izRX12 hown hK hP 0 rfl rfl 13 (by decide) (hts _ k933) (fun _ h9 => h9) rfl dX12_atom_41 ?_
    refine lv_bipush (v := 6) hx hb dX12_atom_44 (by decide) ?_
    refine lv_icmp_ne (tgt := 56) hx hb dX12_atom_46 (by decide) (fun c8 => absurd (by decide) c8) (fun _ => ?_)
    exact (zAv_0 ha (Or.inl (zBy (show _ = zbg tx en.toInt tA.toInt from hq3_2) hq6_k))).elim
  · skip
    refine lv_istore_n (lv' := [(2, .int 0), (1, .int at2_2), (0, .ref o)]) hx hb dX12_atom_21 rfl hl (by decide) rfl (fun ls hl => ?_)
    refine lv_iload_n hx hb dX12_atom_22 rfl (lv_at hl 0 rfl) ?_
    refine lv_if_ne (tgt := 40) hx hb dX12_atom_23 (by decide) (fun c9 => absurd (by decide) c9) (fun _ => ?_)
    refine lv_aload_n hx hb dX12_atom_26 rfl (lv_at hl 2 rfl) ?_
    refine lv_bipush (v := 40) hx hb dX12_atom_27 (by decide) ?_
    have hL40 : (40 : Int32).toInt = 40 := by decide
    refine mcallV' (g := g) (q0 := 0) (ci := 10) (As := [.int 40]) (rest := []) St hK hT hA hP hD hS hl.1 [0] [] rfl rfl rfl (m_isSignH l g o a th hi ac tp en at2_4 (-1) 6 iD iO tU fm fk fa fc ft ff fb fi 40 tx hen hq6_0 (by decide) (by first | assumption | omega | decide | exact Or.inl (by decide) | exact Or.inr (by decide)) htx) (cwV 1 hts (zgL (zl4 k938 k939 k940 k839) k883) rfl rfl rfl (by decide +kernel) ⟨Nat.le_of_ble_eq_true rfl, Nat.le_of_ble_eq_true rfl⟩) rfl rfl rfl rfl (Nat.le_of_ble_eq_true rfl) dX12_atom_29 ⟨(Nat.le_of_ble_eq_true rfl), (Nat.le_of_ble_eq_true rfl)⟩ (fun u_ H locs hq12 hP hD hS => ?_)
    obtain ⟨at2_10, q_11⟩ := u_
    replace hq12 : (0 ≤ at2_10.toInt ∧ at2_10.toInt ≤ en.toInt + 7 - (6 : Int32).toInt) ∧ (at2_4.toInt ≤ at2_10.toInt) ∧ (zSk tx en.toInt at2_4.toInt at2_10.toInt) ∧ (q_11 = 1 ∧ zisS tx en.toInt at2_10.toInt (40 : Int32).toInt ∧ at2_10.toInt < en.toInt ∨ q_11 = 0 ∧ ¬ zisS tx en.toInt at2_10.toInt (40 : Int32).toInt) := hq12
    have hP : va_P g.1 vwCl (List.flatten [bMo g o a th hi ac tp 379 en at2_10 (-1) 6 iD iO tU fm fk fa fc ft ff fb fi]) H := hP
    have hD : va_D A (List.flatten [bMo g o a th hi ac tp 379 en at2_10 (-1) 6 iD iO tU fm fk fa fc ft ff fb fi]) := hD
    refine W.widen (k := 0) (n := 0) (Nat.le_of_ble_eq_true rfl) (Nat.le_of_ble_eq_true rfl) ?_
    refine W.eq (g2 := F0 m 32 ls [.int q_11]) rfl ?_
    obtain ⟨hq12_0, hq12_1, hq12_2, hq12_3⟩ := hq12
    rcases hq12_3 with ⟨rfl, hq12_k⟩ | ⟨rfl, hq12_k⟩
    · skip
      refine lv_if_ne (tgt := 40) hx hb dX12_atom_32 (by decide) (fun _ => ?_) (fun c13 => absurd c13 (by decide))
      refine lv_aload_n hx hb dX12_atom_40 rfl (lv_at hl 2 rfl) ?_
      refine va_get (D := g.1) (ci := 10) (v := .int 6) (C := RX12) (T := TX12) (N := 20) hx hb hts izRX12 hown hK hP 0 rfl rfl 13 (by decide) (hts _ k933) (fun _ h9 => h9) rfl dX12_atom_41 ?_
      refine lv_bipush (v := 6) hx hb dX12_atom_44 (by decide) ?_
      refine lv_icmp_ne (tgt := 56) hx hb dX12_atom_46 (by decide) (fun c14 => absurd (by decide) c14) (fun _ => ?_)
      exact (zAv_0 ha (Or.inr (by rw [← zbz (zBe (show _ = zbg tx en.toInt tA.toInt from hq3_2) hq6_km)]; exact zisS_b (d := 40) hq12_2 hq12_k.1 (by decide)))).elim
    · skip
      refine lv_if_ne (tgt := 40) hx hb dX12_atom_32 (by decide) (fun c15 => absurd (by decide) c15) (fun _ => ?_)
      have hnd : ¬ zDeep tx en.toInt (zbg tx en.toInt tA.toInt) := zor_n (zBw (show _ = zbg tx en.toInt tA.toInt from hq3_2) hq6_k) (by rw [← zbz (zBe (show _ = zbg tx en.toInt tA.toInt from hq3_2) hq6_km)]; exact zisS_bn (d := 40) hq12_2 hq12_k (by decide))
      have hpl9 : zPlV tx en.toInt ev (zbg tx en.toInt at2_10.toInt) b1 bv := zPlV_b (zAv_p ha hnd) ((zbs hq12_2).trans (zbz (zBe (show _ = zbg tx en.toInt tA.toInt from hq3_2) hq6_km)))
      refine lv_aload_n hx hb dX12_atom_35 rfl (lv_at hl 2 rfl) ?_
      refine mcallV' (g := g) (q0 := 0) (ci := 10) (As := []) (rest := []) St hK hT hA hP hD hS hl.1 [0] [] rfl rfl rfl (m_plainV l g o a th hi ac tp en at2_10 6 iD iO tU fm fk fa fc ft ff fb fi tx ev b1 bv hen hq12_0 (by decide) hff hdr how (by first | assumption | omega | decide | exact Or.inl (by decide) | exact Or.inr (by decide)) htx) (cwV 0 hts (zgL (zl4 k948 k949 k950 k839) k947) rfl rfl rfl (by decide +kernel) ⟨Nat.le_of_ble_eq_true rfl, Nat.le_of_ble_eq_true rfl⟩) rfl rfl rfl rfl (Nat.le_of_ble_eq_true rfl) dX12_atom_36 ⟨(Nat.le_of_ble_eq_true rfl), (Nat.le_of_ble_eq_true rfl)⟩ (fun at2_16 H locs hq17 hP hD hS => ?_)
      replace hq17 : (0 ≤ at2_16.toInt ∧ at2_16.toInt ≤ en.toInt + 7 - (6 : Int32).toInt) ∧ (at2_10.toInt ≤ at2_16.toInt) ∧ (zbg tx en.toInt at2_16.toInt = b1) := hq17
      have hP : va_P g.1 vwCl (List.flatten [bMo g o a th hi ac tp 379 en at2_16 (-1) 6 iD iO tU fm fk fa fc ft ff fb fi]) H := hP
      have hD : va_D A (List.flatten [bMo g o a th hi ac tp 379 en at2_16 (-1) 6 iD iO tU fm fk fa fc ft ff fb fi]) := hD
      refine W.widen (k := 0) (n := 0) (Nat.le_of_ble_eq_true rfl) (Nat.le_of_ble_eq_true rfl) ?_
      refine W.eq (g2 := F0 m 39 ls [.int (zBi bv)]) rfl ?_
      obtain ⟨hq17_0, hq17_1, hq17_2⟩ := hq17
      have hP : va_P g.1 vwCl (List.flatten [bMo g o a th hi ac tp 379 en at2_16 (-1) 6 iD iO tU fm fk fa fc ft ff fb fi]) H := hP
      have hD : va_D A (List.flatten [bMo g o a th hi ac tp 379 en at2_16 (-1) 6 iD iO tU fm fk fa fc ft ff fb fi]) := hD
      exact mret_z hx hb hr hlocks hS (Nat.le_of_ble_eq_true rfl) (Nat.le_of_ble_eq_true rfl) dX12_atom_39 (at2_16) rfl (zb01 (zBi_01 _)) (show (0 ≤ at2_16.toInt ∧ at2_16.toInt ≤ en.toInt + 7 - 6) ∧ (tA.toInt ≤ at2_16.toInt) ∧ (zbg tx en.toInt at2_16.toInt = b1) from ⟨(by first | assumption | omega | decide), (by first | assumption | omega | decide), hq17_2⟩) hP hD
set_option maxRecDepth 100000 in
set_option maxHeartbeats 4000000 in
theorem m_everyV6 (l : Launch) (g : zG) (o : Nat) (a : Nat → Nat) (th : Int32) (hi : Int32) (ac : Int32) (tp : Int32) (en : Int32) (tA : Int32) (iD : Int32) (iO : Int32) (tU : Int32) (fm : Nat → Int32) (fk : Nat → Int32) (fa : Nat → Int32) (fc : Nat → Int32) (ft : Nat → Int32) (ff : Nat → Int32) (fb : Nat → Int32) (fi : Nat → Int32) (tx : Nat → Int32) (ev : Nat → Int32) (b1 : Int) (bv : Bool) (o9 : Bool) (hen : 0 ≤ en.toInt ∧ en.toInt ≤ 400) (htA : 0 ≤ tA.toInt ∧ tA.toInt ≤ en.toInt + 7 - 6) (hde : 0 ≤ 6 ∧ 6 ≤ 6) (hff : ∀ k9 : Nat, k9 < 6 → ff k9 = ev k9) (hdr : iD = zBi (zNz (ev 6))) (how : iO = zBi (zNz (ev 7))) (hc : zCv tx en.toInt (zAv tx en.toInt ev 0) o9 true (zbg tx en.toInt tA.toInt) b1 bv) (htx : ∀ k9 : Nat, (k9 : Int) < en.toInt → fm (379 + k9) = tx k9) : zM' g l yX12_every (Cond.code yX12_every cX12_every 3 (some .boolean) :: zB) ({ frames := 9, cells := 0, slots := 0, locals := 196 } : Room) [.ref o] [bMo g o a th hi ac tp 379 en tA (-1) 6 iD iO tU fm fk fa fc ft ff fb fi] (fun u : Int32 × Int32 × Bool => (fun (at2 : Int32) (q : Int32) (w9 : Bool) => some (.int q)) (u.1) (u.2.1) (u.2.2)) (fun u : Int32 × Int32 × Bool => (fun (at2 : Int32) (q : Int32) (w9 : Bool) => (0 ≤ at2.toInt ∧ at2.toInt ≤ en.toInt + 7 - 6) ∧ (tA.toInt ≤ at2.toInt) ∧ (q = zBi w9) ∧ (zCvE tx en.toInt (zAv tx en.toInt ev 0) o9 w9 (zbg tx en.toInt at2.toInt) b1 bv)) (u.1) (u.2.1) (u.2.2)) (fun u : Int32 × Int32 × Bool => (fun (at2 : Int32) (q : Int32) (w9 : Bool) => [bMo g o a th hi ac tp 379 en at2 (-1) 6 iD iO tU fm fk fa fc ft ff fb fi]) (u.1) (u.2.1) (u.2.2)) := by
  refine zM'.of (cc := cX12_every) (maxL := 3) (rt := (some .boolean)) (by decide) rfl (Nat.le_of_ble_eq_true rfl) ?_
  intro p e s m args below meth c A ls St hr hlocks hin hK hT hA hP hD hS hl
  obtain ⟨hx, hb, hml, hown, hts⟩ := id St
  have hl : lv_has ls 3 [(0, .ref o)] := hl
  obtain ⟨p0, w0, ha0, hm0⟩ := zCv_a hc
  refine lv_aload_n hx hb dX12_every_0 rfl (lv_at hl 0 rfl) ?_
  refine mcallV' (g := g) (q0 := 0) (ci := 10) (As := []) (rest := []) St hK hT hA hP hD hS hl.1 [0] [] rfl rfl rfl (m_atomV6 l g o a th hi ac tp en tA iD iO tU fm fk fa fc ft ff fb fi tx ev p0 w0 hen htA hde hff hdr how (by first | assumption | omega | decide | exact Or.inl (by decide) | exact Or.inr (by decide)) htx) (cwV 0 hts (zgL (zl4 k951 k952 k953 k839) k962) rfl rfl rfl (by decide +kernel) ⟨Nat.le_of_ble_eq_true rfl, Nat.le_of_ble_eq_true rfl⟩) rfl rfl rfl rfl (Nat.le_of_ble_eq_true rfl) dX12_every_1 ⟨(Nat.le_of_ble_eq_true rfl), (Nat.le_of_ble_eq_true rfl)⟩ (fun at2_1 H locs hq2 hP hD hS => ?_)
  replace hq2 : (0 ≤ at2_1.toInt ∧ at2_1.toInt ≤ en.toInt + 7 - 6) ∧ (tA.toInt ≤ at2_1.toInt) ∧ (zbg tx en.toInt at2_1.toInt = p0) := hq2
  have hP : va_P g.1 vwCl (List.flatten [bMo g o a th hi ac tp 379 en at2_1 (-1) 6 iD iO tU fm fk fa fc ft ff fb fi]) H := hP
  have hD : va_D A (List.flatten [bMo g o a th hi ac tp 379 en at2_1 (-1) 6 iD iO tU fm fk fa fc ft ff fb fi]) := hD
  refine W.widen (k := 0) (n := 0) (Nat.le_of_ble_eq_true rfl) (Nat.le_of_ble_eq_true rfl) ?_
  refine W.eq (g2 := F0 m 4 ls [.int (zBi w0)]) rfl ?_
  obtain ⟨hq2_0, hq2_1, hq2_2⟩ := hq2
  refine lv_istore_n (lv' := [(1, .int (zBi w0)), (0, .ref o)]) hx hb dX12_every_4 rfl hl (by decide) rfl (fun ls hl => ?_)
  have hl := lv_sub (l' := [(0, .ref o), (1, .int (zBi w0))]) hl [1, 0] rfl
  have LP5_9 : ∀ (kf : Nat) (x_3 : Int32) (x_4 : Int32), (0 ≤ x_4.toInt ∧ x_4.toInt ≤ 407) → (tA.toInt ≤ x_4.toInt) → (x_4.toInt ≤ en.toInt + 7 - 6) → (∃ a9, x_3 = zBi a9 ∧ zCvM tx en.toInt (zAv tx en.toInt ev 0) o9 a9 (zbg tx en.toInt x_4.toInt) b1 bv) → ∀ (H : Heap) (locs : List Loc) (ls : Array Slot), ((en.toInt + 8 - x_4.toInt).toNat) < kf → va_P g.1 vwCl (List.flatten [bMo g o a th hi ac tp 379 en x_4 (-1) 6 iD iO tU fm fk fa fc ft ff fb fi]) H → va_D A (List.flatten [bMo g o a th hi ac tp 379 en x_4 (-1) 6 iD iO tU fm fk fa fc ft ff fb fi]) → va_S A s.heap H locs → lv_has ls 3 [(0, .ref o), (1, .int x_3)] → W p l e ({ frames := 9, cells := 0, slots := 0, locals := 196 } : Room) s m args below meth c H locs (0) (0) (zF g (fun u : Int32 × Int32 × Bool => (fun (at2 : Int32) (q : Int32) (w9 : Bool) => some (.int q)) (u.1) (u.2.1) (u.2.2)) (fun u : Int32 × Int32 × Bool => (fun (at2 : Int32) (q : Int32) (w9 : Bool) => (0 ≤ at2.toInt ∧ at2.toInt ≤ en.toInt + 7 - 6) ∧ (tA.toInt ≤ at2.toInt) ∧ (q = zBi w9) ∧ (zCvE tx en.toInt (zAv tx en.toInt ev 0) o9 w9 (zbg tx en.toInt at2.toInt) b1 bv)) (u.1) (u.2.1) (u.2.2)) (fun u : Int32 × Int32 × Bool => (fun (at2 : Int32) (q : Int32) (w9 : Bool) => [bMo g o a th hi ac tp 379 en at2 (-1) 6 iD iO tU fm fk fa fc ft ff fb fi]) (u.1) (u.2.1) (u.2.2)) ({ frames := 9, cells := 0, slots := 0, locals := 196 } : Room) below args s A) (F0 m 5 ls []) := by
    intro kf
    induction kf with
    | zero => intro x_3 x_4 i5 i6 i7 i8 H locs ls hk; exact absurd hk (Nat.not_lt_zero _)
    | succ kf ih5_10 =>
      intro x_3 x_4 i5 i6 i7 i8 H locs ls hk5_10 hP hD hS hl
      refine lv_aload_n hx hb dX12_every_5 rfl (lv_at hl 0 rfl) ?_
      refine va_get (D := g.1) (ci := 10) (v := .int (-1)) (C := RX12) (T := TX12) (N := 20) hx hb hts izRX12 hown hK hP 0 rfl rfl 12 (by decide) (hts _ k820) (fun _ h9 => h9) rfl dX12_every_6 ?_
      refine lv_iconst (v := (-1)) hx hb dX12_every_9 (by decide) ?_
      refine lv_icmp_ne (tgt := 44) hx hb dX12_every_10 (by decide) (fun c11 => absurd (by decide) c11) (fun _ => ?_)
      obtain ⟨a12, e13, h14⟩ := i8
      refine lv_aload_n hx hb dX12_every_13 rfl (lv_at hl 0 rfl) ?_
      refine va_ldcS (q := g.2 100) hx hb hown (zra45 hT.2.1) dX12_every_14 ?_
      have hL6 : (6 : Int32).toInt = 6 := by decide
      refine mcallV' (g := g) (q0 := 0) (ci := 10) (As := [.ref (g.2 100)]) (rest := []) St hK hT hA hP hD hS hl.1 [0] [] rfl rfl rfl (m_hasH l g o a th hi ac tp en x_4 (-1) 6 iD iO tU fm fk fa fc ft ff fb fi tx (g.2 100) 45 zqa45 hen (by first | assumption | omega | decide | exact Or.inl (by decide) | exact Or.inr (by decide)) (by decide) htx rfl zla45 zna45 (zlitB zla45)) (cwV 1 hts (zgL (zl4 k899 k900 k901 k839) k889) rfl rfl rfl (by decide +kernel) ⟨Nat.le_of_ble_eq_true rfl, Nat.le_of_ble_eq_true rfl⟩) rfl rfl rfl rfl (Nat.le_of_ble_eq_true rfl) dX12_every_16 ⟨(Nat.le_of_ble_eq_true rfl), (Nat.le_of_ble_eq_true rfl)⟩ (fun u_ H locs hq17 hP hD hS => ?_)
      obtain ⟨at2_15, r_16⟩ := u_
      replace hq17 : (0 ≤ at2_15.toInt ∧ at2_15.toInt ≤ en.toInt + 7 - (6 : Int32).toInt) ∧ (x_4.toInt ≤ at2_15.toInt) ∧ (r_16 = 1 ∧ zisW tx en.toInt (zbg tx en.toInt x_4.toInt) zqa45.2.2.2 ∧ at2_15.toInt = znx tx en.toInt (zbg tx en.toInt x_4.toInt) ∧ x_4.toInt < at2_15.toInt ∧ at2_15.toInt ≤ en.toInt ∨ r_16 = 0 ∧ ¬ zisW tx en.toInt (zbg tx en.toInt x_4.toInt) zqa45.2.2.2 ∧ at2_15.toInt = zbg tx en.toInt x_4.toInt) := hq17
      have hP : va_P g.1 vwCl (List.flatten [bMo g o a th hi ac tp 379 en at2_15 (-1) 6 iD iO tU fm fk fa fc ft ff fb fi]) H := hP
      have hD : va_D A (List.flatten [bMo g o a th hi ac tp 379 en at2_15 (-1) 6 iD iO tU fm fk fa fc ft ff fb fi]) := hD
      refine W.widen (k := 0) (n := 0) (Nat.le_of_ble_eq_true rfl) (Nat.le_of_ble_eq_true rfl) ?_
      refine W.eq (g2 := F0 m 19 ls [.int r_16]) rfl ?_
      obtain ⟨hq17_0, hq17_1, hq17_2⟩ := hq17
      rcases hq17_2 with ⟨rfl, hq17_k, hq17_km⟩ | ⟨rfl, hq17_k, hq17_km⟩
      · skip
        refine lv_if_eq (tgt := 44) hx hb dX12_every_19 (by decide) (fun c18 => absurd c18 (by decide)) (fun _ => ?_)
        obtain ⟨p19, w20, h21, m22⟩ := zCv_a (zCvM_y h14 hq17_k)
        have h21 := zAv_b h21 (show zbg tx en.toInt at2_15.toInt = _ from zbt hq17_km.1)
        refine lv_aload_n hx hb dX12_every_22 rfl (lv_at hl 0 rfl) ?_
        refine mcallV' (g := g) (q0 := 0) (ci := 10) (As := []) (rest := []) St hK hT hA hP hD hS hl.1 [0] [] rfl rfl rfl (m_atomV6 l g o a th hi ac tp en at2_15 iD iO tU fm fk fa fc ft ff fb fi tx ev p19 w20 hen (by first | assumption | omega | decide | exact Or.inl (by decide) | exact Or.inr (by decide)) hde hff hdr how (by first | assumption | omega | decide | exact Or.inl (by decide) | exact Or.inr (by decide)) htx) (cwV 0 hts (zgL (zl4 k951 k952 k953 k839) k962) rfl rfl rfl (by decide +kernel) ⟨Nat.le_of_ble_eq_true rfl, Nat.le_of_ble_eq_true rfl⟩) rfl rfl rfl rfl (Nat.le_of_ble_eq_true rfl) dX12_every_23 ⟨(Nat.le_of_ble_eq_true rfl), (Nat.le_of_ble_eq_true rfl)⟩ (fun at2_23 H locs hq24 hP hD hS => ?_)
        replace hq24 : (0 ≤ at2_23.toInt ∧ at2_23.toInt ≤ en.toInt + 7 - 6) ∧ (at2_15.toInt ≤ at2_23.toInt) ∧ (zbg tx en.toInt at2_23.toInt = p19) := hq24
        have hP : va_P g.1 vwCl (List.flatten [bMo g o a th hi ac tp 379 en at2_23 (-1) 6 iD iO tU fm fk fa fc ft ff fb fi]) H := hP
        have hD : va_D A (List.flatten [bMo g o a th hi ac tp 379 en at2_23 (-1) 6 iD iO tU fm fk fa fc ft ff fb fi]) := hD
        refine W.widen (k := 0) (n := 0) (Nat.le_of_ble_eq_true rfl) (Nat.le_of_ble_eq_true rfl) ?_
        refine W.eq (g2 := F0 m 26 ls [.int (zBi w20)]) rfl ?_
        obtain ⟨hq24_0, hq24_1, hq24_2⟩ := hq24
        refine lv_istore_n (lv' := [(2, .int (zBi w20)), (0, .ref o), (1, .int x_3)]) hx hb dX12_every_26 rfl hl (by decide) rfl (fun ls hl => ?_)
        refine lv_iload_n hx hb dX12_every_27 rfl (lv_at hl 2 rfl) ?_
        refine lv_if_eq (tgt := 39) hx hb dX12_every_28 (by decide) (fun cb9 => ?_) (fun cb9 => ?_)
        · skip
          have c25 : x_3.toInt = 0 := zeq cb9 rfl (by decide)
          have n26 : 0 ≤ x_3.toInt := Int.le_trans (Int.le_refl _) (Int.le_of_eq c25.symm)
          have n27 : x_3.toInt ≤ 0 := Int.le_trans (Int.le_of_eq c25) (Int.le_refl _)
          refine lv_iconst (v := 0) hx hb dX12_every_39 (by decide) ?_
          refine lv_istore_n (lv' := [(1, .int 0), (2, .int (zBi w20)), (0, .ref o)]) hx hb dX12_every_40 rfl hl (by decide) rfl (fun ls hl => ?_)
          refine lv_goto (tgt := 5) hx hb dX12_every_41 (by decide) ?_
          have hl := lv_sub (l' := [(0, .ref o), (1, .int 0), (2, .int (zBi w20))]) hl [2, 0, 1] rfl
          have hL0 : (0 : Int32).toInt = 0 := by decide
          have hP : va_P g.1 vwCl (List.flatten [bMo g o a th hi ac tp 379 en at2_23 (-1) 6 iD iO tU fm fk fa fc ft ff fb fi]) H := hP
          have hD : va_D A (List.flatten [bMo g o a th hi ac tp 379 en at2_23 (-1) 6 iD iO tU fm fk fa fc ft ff fb fi]) := hD
          exact ih5_10 0 at2_23 (by first | omega | assumption | decide) (by first | omega | assumption | decide) (by first | omega | assumption | decide) ⟨(a12 && w20), (zBiA0 (by rw [← e13]; omega)), zCM_b m22 hq24_2⟩ H _ ls (by omega)  hP hD hS (lv_sub hl [0, 1] rfl)
        · skip
          have c28 : ¬ x_3.toInt = 0 := zne cb9 rfl (by decide)
          refine lv_iload_n hx hb dX12_every_31 rfl (lv_at hl 0 rfl) ?_
          refine lv_if_eq (tgt := 39) hx hb dX12_every_32 (by decide) (fun cb9 => ?_) (fun cb9 => ?_)
          · skip
            have c29 : (zBi w20).toInt = 0 := zeq cb9 rfl (by decide)
            have n30 : 0 ≤ (zBi w20).toInt := Int.le_trans (Int.le_refl _) (Int.le_of_eq c29.symm)
            have n31 : (zBi w20).toInt ≤ 0 := Int.le_trans (Int.le_of_eq c29) (Int.le_refl _)
            refine lv_iconst (v := 0) hx hb dX12_every_39 (by decide) ?_
            refine lv_istore_n (lv' := [(1, .int 0), (2, .int (zBi w20)), (0, .ref o)]) hx hb dX12_every_40 rfl hl (by decide) rfl (fun ls hl => ?_)
            refine lv_goto (tgt := 5) hx hb dX12_every_41 (by decide) ?_
            have hl := lv_sub (l' := [(0, .ref o), (1, .int 0), (2, .int (zBi w20))]) hl [2, 0, 1] rfl
            have hL0 : (0 : Int32).toInt = 0 := by decide
            have hP : va_P g.1 vwCl (List.flatten [bMo g o a th hi ac tp 379 en at2_23 (-1) 6 iD iO tU fm fk fa fc ft ff fb fi]) H := hP
            have hD : va_D A (List.flatten [bMo g o a th hi ac tp 379 en at2_23 (-1) 6 iD iO tU fm fk fa fc ft ff fb fi]) := hD
            exact ih5_10 0 at2_23 (by first | omega | assumption | decide) (by first | omega | assumption | decide) (by first | omega | assumption | decide) ⟨(a12 && w20), (zBiA1 (by omega)), zCM_b m22 hq24_2⟩ H _ ls (by omega)  hP hD hS (lv_sub hl [0, 1] rfl)
          · skip
            have c32 : ¬ (zBi w20).toInt = 0 := zne cb9 rfl (by decide)
            refine lv_iconst (v := 1) hx hb dX12_every_35 (by decide) ?_
            refine lv_goto (tgt := 40) hx hb dX12_every_36 (by decide) ?_
            refine lv_istore_n (lv' := [(1, .int 1), (2, .int (zBi w20)), (0, .ref o)]) hx hb dX12_every_40 rfl hl (by decide) rfl (fun ls hl => ?_)
            refine lv_goto (tgt := 5) hx hb dX12_every_41 (by decide) ?_
            have hl := lv_sub (l' := [(0, .ref o), (1, .int 1), (2, .int (zBi w20))]) hl [2, 0, 1] rfl
            have hL1 : (1 : Int32).toInt = 1 := by decide
            have hP : va_P g.1 vwCl (List.flatten [bMo g o a th hi ac tp 379 en at2_23 (-1) 6 iD iO tU fm fk fa fc ft ff fb fi]) H := hP
            have hD : va_D A (List.flatten [bMo g o a th hi ac tp 379 en at2_23 (-1) 6 iD iO tU fm fk fa fc ft ff fb fi]) := hD
            exact ih5_10 1 at2_23 (by first | omega | assumption | decide) (by first | omega | assumption | decide) (by first | omega | assumption | decide) ⟨(a12 && w20), (zBiA (by rw [← e13]; omega) (by omega)), zCM_b m22 hq24_2⟩ H _ ls (by omega)  hP hD hS (lv_sub hl [0, 1] rfl)
      · skip
        refine lv_if_eq (tgt := 44) hx hb dX12_every_19 (by decide) (fun _ => ?_) (fun c33 => absurd (by decide) c33)
        refine lv_iload_n hx hb dX12_every_44 rfl (lv_at hl 1 rfl) ?_
        have hP : va_P g.1 vwCl (List.flatten [bMo g o a th hi ac tp 379 en at2_15 (-1) 6 iD iO tU fm fk fa fc ft ff fb fi]) H := hP
        have hD : va_D A (List.flatten [bMo g o a th hi ac tp 379 en at2_15 (-1) 6 iD iO tU fm fk fa fc ft ff fb fi]) := hD
        exact mret_z hx hb hr hlocks hS (Nat.le_of_ble_eq_true rfl) (Nat.le_of_ble_eq_true rfl) dX12_every_45 (at2_15, x_3, a12) rfl (zb01 (by rw [e13]; exact zBi_01 _)) (show (0 ≤ at2_15.toInt ∧ at2_15.toInt ≤ en.toInt + 7 - 6) ∧ (tA.toInt ≤ at2_15.toInt) ∧ (x_3 = zBi a12) ∧ (zCvE tx en.toInt (zAv tx en.toInt ev 0) o9 a12 (zbg tx en.toInt at2_15.toInt) b1 bv) from ⟨(by first | assumption | omega | decide), (by first | assumption | omega | decide), e13, zCE_b (zCvM_n h14 hq17_k) (zbz hq17_km)⟩) hP hD
  have hP : va_P g.1 vwCl (List.flatten [bMo g o a th hi ac tp 379 en at2_1 (-1) 6 iD iO tU fm fk fa fc ft ff fb fi]) H := hP
  have hD : va_D A (List.flatten [bMo g o a th hi ac tp 379 en at2_1 (-1) 6 iD iO tU fm fk fa fc ft ff fb fi]) := hD
  exact LP5_9 _ (zBi w0) at2_1 (by first | omega | assumption | decide) hq2_1 (by first | omega | assumption | decide) ⟨w0, rfl, zCvM_w (zCM_b hm0 hq2_2)⟩ H _ ls (Nat.lt_succ_self _)  hP hD hS (lv_sub hl [0, 1] rfl)
set_option maxRecDepth 100000 in
set_option maxHeartbeats 4000000 in
theorem m_someV6 (l : Launch) (g : zG) (o : Nat) (a : Nat → Nat) (th : Int32) (hi : Int32) (ac : Int32) (tp : Int32) (en : Int32) (tA : Int32) (iD : Int32) (iO : Int32) (tU : Int32) (fm : Nat → Int32) (fk : Nat → Int32) (fa : Nat → Int32) (fc : Nat → Int32) (ft : Nat → Int32) (ff : Nat → Int32) (fb : Nat → Int32) (fi : Nat → Int32) (tx : Nat → Int32) (ev : Nat → Int32) (b1 : Int) (bv : Bool) (hen : 0 ≤ en.toInt ∧ en.toInt ≤ 400) (htA : 0 ≤ tA.toInt ∧ tA.toInt ≤ en.toInt + 7 - 6) (hde : 0 ≤ 6 ∧ 6 ≤ 6) (hff : ∀ k9 : Nat, k9 < 6 → ff k9 = ev k9) (hdr : iD = zBi (zNz (ev 6))) (how : iO = zBi (zNz (ev 7))) (hc : zCv tx en.toInt (zAv tx en.toInt ev 0) false true (zbg tx en.toInt tA.toInt) b1 bv) (htx : ∀ k9 : Nat, (k9 : Int) < en.toInt → fm (379 + k9) = tx k9) : zM' g l yX12_some (Cond.code yX12_some cX12_some 3 (some .boolean) :: zB) ({ frames := 10, cells := 0, slots := 0, locals := 218 } : Room) [.ref o] [bMo g o a th hi ac tp 379 en tA (-1) 6 iD iO tU fm fk fa fc ft ff fb fi] (fun (at2 : Int32) => some (.int (zBi bv))) (fun (at2 : Int32) => (0 ≤ at2.toInt ∧ at2.toInt ≤ en.toInt + 7 - 6) ∧ (tA.toInt ≤ at2.toInt) ∧ (zbg tx en.toInt at2.toInt = b1)) (fun (at2 : Int32) => [bMo g o a th hi ac tp 379 en at2 (-1) 6 iD iO tU fm fk fa fc ft ff fb fi]) := by
  refine zM'.of (cc := cX12_some) (maxL := 3) (rt := (some .boolean)) (by decide) rfl (Nat.le_of_ble_eq_true rfl) ?_
  intro p e s m args below meth c A ls St hr hlocks hin hK hT hA hP hD hS hl
  obtain ⟨hx, hb, hml, hown, hts⟩ := id St
  have hl : lv_has ls 3 [(0, .ref o)] := hl
  refine lv_aload_n hx hb dX12_some_0 rfl (lv_at hl 0 rfl) ?_
  refine mcallV' (g := g) (q0 := 0) (ci := 10) (As := []) (rest := []) St hK hT hA hP hD hS hl.1 [0] [] rfl rfl rfl (m_everyV6 l g o a th hi ac tp en tA iD iO tU fm fk fa fc ft ff fb fi tx ev b1 bv false hen htA hde hff hdr how hc htx) (cwV 0 hts (zgL (zl4 k959 k960 k961 k839) k957) rfl rfl rfl (by decide +kernel) ⟨Nat.le_of_ble_eq_true rfl, Nat.le_of_ble_eq_true rfl⟩) rfl rfl rfl rfl (Nat.le_of_ble_eq_true rfl) dX12_some_1 ⟨(Nat.le_of_ble_eq_true rfl), (Nat.le_of_ble_eq_true rfl)⟩ (fun u_ H locs hq4 hP hD hS => ?_)
  obtain ⟨at2_1, q_2, w9_3⟩ := u_
  replace hq4 : (0 ≤ at2_1.toInt ∧ at2_1.toInt ≤ en.toInt + 7 - 6) ∧ (tA.toInt ≤ at2_1.toInt) ∧ (q_2 = zBi w9_3) ∧ (zCvE tx en.toInt (zAv tx en.toInt ev 0) false w9_3 (zbg tx en.toInt at2_1.toInt) b1 bv) := hq4
  have hP : va_P g.1 vwCl (List.flatten [bMo g o a th hi ac tp 379 en at2_1 (-1) 6 iD iO tU fm fk fa fc ft ff fb fi]) H := hP
  have hD : va_D A (List.flatten [bMo g o a th hi ac tp 379 en at2_1 (-1) 6 iD iO tU fm fk fa fc ft ff fb fi]) := hD
  refine W.widen (k := 0) (n := 0) (Nat.le_of_ble_eq_true rfl) (Nat.le_of_ble_eq_true rfl) ?_
  refine W.eq (g2 := F0 m 4 ls [.int q_2]) rfl ?_
  obtain ⟨hq4_0, hq4_1, hq4_2, hq4_3⟩ := hq4
  refine lv_istore_n (lv' := [(1, .int q_2), (0, .ref o)]) hx hb dX12_some_4 rfl hl (by decide) rfl (fun ls hl => ?_)
  have hl := lv_sub (l' := [(0, .ref o), (1, .int q_2)]) hl [1, 0] rfl
  have LP5_11 : ∀ (kf : Nat) (x_5 : Int32) (x_6 : Int32), (0 ≤ x_6.toInt ∧ x_6.toInt ≤ 407) → (tA.toInt ≤ x_6.toInt) → (x_6.toInt ≤ en.toInt + 7 - 6) → (∃ a9, x_5 = zBi a9 ∧ zCvO tx en.toInt (zAv tx en.toInt ev 0) a9 (zbg tx en.toInt x_6.toInt) b1 bv) → ∀ (H : Heap) (locs : List Loc) (ls : Array Slot), ((en.toInt + 8 - x_6.toInt).toNat) < kf → va_P g.1 vwCl (List.flatten [bMo g o a th hi ac tp 379 en x_6 (-1) 6 iD iO tU fm fk fa fc ft ff fb fi]) H → va_D A (List.flatten [bMo g o a th hi ac tp 379 en x_6 (-1) 6 iD iO tU fm fk fa fc ft ff fb fi]) → va_S A s.heap H locs → lv_has ls 3 [(0, .ref o), (1, .int x_5)] → W p l e ({ frames := 10, cells := 0, slots := 0, locals := 218 } : Room) s m args below meth c H locs (0) (0) (zF g (fun (at2 : Int32) => some (.int (zBi bv))) (fun (at2 : Int32) => (0 ≤ at2.toInt ∧ at2.toInt ≤ en.toInt + 7 - 6) ∧ (tA.toInt ≤ at2.toInt) ∧ (zbg tx en.toInt at2.toInt = b1)) (fun (at2 : Int32) => [bMo g o a th hi ac tp 379 en at2 (-1) 6 iD iO tU fm fk fa fc ft ff fb fi]) ({ frames := 10, cells := 0, slots := 0, locals := 218 } : Room) below args s A) (F0 m 5 ls []) := by
    intro kf
    induction kf with
    | zero => intro x_5 x_6 i7 i8 i9 i10 H locs ls hk; exact absurd hk (Nat.not_lt_zero _)
    | succ kf ih5_12 =>
      intro x_5 x_6 i7 i8 i9 i10 H locs ls hk5_12 hP hD hS hl
      refine lv_aload_n hx hb dX12_some_5 rfl (lv_at hl 0 rfl) ?_
      refine va_get (D := g.1) (ci := 10) (v := .int (-1)) (C := RX12) (T := TX12) (N := 20) hx hb hts izRX12 hown hK hP 0 rfl rfl 12 (by decide) (hts _ k820) (fun _ h9 => h9) rfl dX12_some_6 ?_
      refine lv_iconst (v := (-1)) hx hb dX12_some_9 (by decide) ?_
      refine lv_icmp_ne (tgt := 44) hx hb dX12_some_10 (by decide) (fun c13 => absurd (by decide) c13) (fun _ => ?_)
      obtain ⟨a14, e15, h16⟩ := i10
      refine lv_aload_n hx hb dX12_some_13 rfl (lv_at hl 0 rfl) ?_
      refine va_ldcS (q := g.2 102) hx hb hown (zra46 hT.2.1) dX12_some_14 ?_
      have hL6 : (6 : Int32).toInt = 6 := by decide
      refine mcallV' (g := g) (q0 := 0) (ci := 10) (As := [.ref (g.2 102)]) (rest := []) St hK hT hA hP hD hS hl.1 [0] [] rfl rfl rfl (m_hasH l g o a th hi ac tp en x_6 (-1) 6 iD iO tU fm fk fa fc ft ff fb fi tx (g.2 102) 46 zqa46 hen (by first | assumption | omega | decide | exact Or.inl (by decide) | exact Or.inr (by decide)) (by decide) htx rfl zla46 zna46 (zlitB zla46)) (cwV 1 hts (zgL (zl4 k899 k900 k901 k839) k889) rfl rfl rfl (by decide +kernel) ⟨Nat.le_of_ble_eq_true rfl, Nat.le_of_ble_eq_true rfl⟩) rfl rfl rfl rfl (Nat.le_of_ble_eq_true rfl) dX12_some_16 ⟨(Nat.le_of_ble_eq_true rfl), (Nat.le_of_ble_eq_true rfl)⟩ (fun u_ H locs hq19 hP hD hS => ?_)
      obtain ⟨at2_17, r_18⟩ := u_
      replace hq19 : (0 ≤ at2_17.toInt ∧ at2_17.toInt ≤ en.toInt + 7 - (6 : Int32).toInt) ∧ (x_6.toInt ≤ at2_17.toInt) ∧ (r_18 = 1 ∧ zisW tx en.toInt (zbg tx en.toInt x_6.toInt) zqa46.2.2.2 ∧ at2_17.toInt = znx tx en.toInt (zbg tx en.toInt x_6.toInt) ∧ x_6.toInt < at2_17.toInt ∧ at2_17.toInt ≤ en.toInt ∨ r_18 = 0 ∧ ¬ zisW tx en.toInt (zbg tx en.toInt x_6.toInt) zqa46.2.2.2 ∧ at2_17.toInt = zbg tx en.toInt x_6.toInt) := hq19
      have hP : va_P g.1 vwCl (List.flatten [bMo g o a th hi ac tp 379 en at2_17 (-1) 6 iD iO tU fm fk fa fc ft ff fb fi]) H := hP
      have hD : va_D A (List.flatten [bMo g o a th hi ac tp 379 en at2_17 (-1) 6 iD iO tU fm fk fa fc ft ff fb fi]) := hD
      refine W.widen (k := 0) (n := 0) (Nat.le_of_ble_eq_true rfl) (Nat.le_of_ble_eq_true rfl) ?_
      refine W.eq (g2 := F0 m 19 ls [.int r_18]) rfl ?_
      obtain ⟨hq19_0, hq19_1, hq19_2⟩ := hq19
      rcases hq19_2 with ⟨rfl, hq19_k, hq19_km⟩ | ⟨rfl, hq19_k, hq19_km⟩
      · skip
        refine lv_if_eq (tgt := 44) hx hb dX12_some_19 (by decide) (fun c20 => absurd c20 (by decide)) (fun _ => ?_)
        have h21 := zCv_b (zCvO_y h16 hq19_k) (show zbg tx en.toInt at2_17.toInt = _ from zbt hq19_km.1)
        refine lv_aload_n hx hb dX12_some_22 rfl (lv_at hl 0 rfl) ?_
        refine mcallV' (g := g) (q0 := 0) (ci := 10) (As := []) (rest := []) St hK hT hA hP hD hS hl.1 [0] [] rfl rfl rfl (m_everyV6 l g o a th hi ac tp en at2_17 iD iO tU fm fk fa fc ft ff fb fi tx ev b1 bv a14 hen (by first | assumption | omega | decide | exact Or.inl (by decide) | exact Or.inr (by decide)) hde hff hdr how (by first | assumption | omega | decide | exact Or.inl (by decide) | exact Or.inr (by decide)) htx) (cwV 0 hts (zgL (zl4 k959 k960 k961 k839) k957) rfl rfl rfl (by decide +kernel) ⟨Nat.le_of_ble_eq_true rfl, Nat.le_of_ble_eq_true rfl⟩) rfl rfl rfl rfl (Nat.le_of_ble_eq_true rfl) dX12_some_23 ⟨(Nat.le_of_ble_eq_true rfl), (Nat.le_of_ble_eq_true rfl)⟩ (fun u_ H locs hq25 hP hD hS => ?_)
        obtain ⟨at2_22, q_23, w9_24⟩ := u_
        replace hq25 : (0 ≤ at2_22.toInt ∧ at2_22.toInt ≤ en.toInt + 7 - 6) ∧ (at2_17.toInt ≤ at2_22.toInt) ∧ (q_23 = zBi w9_24) ∧ (zCvE tx en.toInt (zAv tx en.toInt ev 0) a14 w9_24 (zbg tx en.toInt at2_22.toInt) b1 bv) := hq25
        have hP : va_P g.1 vwCl (List.flatten [bMo g o a th hi ac tp 379 en at2_22 (-1) 6 iD iO tU fm fk fa fc ft ff fb fi]) H := hP
        have hD : va_D A (List.flatten [bMo g o a th hi ac tp 379 en at2_22 (-1) 6 iD iO tU fm fk fa fc ft ff fb fi]) := hD
        refine W.widen (k := 0) (n := 0) (Nat.le_of_ble_eq_true rfl) (Nat.le_of_ble_eq_true rfl) ?_
        refine W.eq (g2 := F0 m 26 ls [.int q_23]) rfl ?_
        obtain ⟨hq25_0, hq25_1, hq25_2, hq25_3⟩ := hq25
        refine lv_istore_n (lv' := [(2, .int q_23), (0, .ref o), (1, .int x_5)]) hx hb dX12_some_26 rfl hl (by decide) rfl (fun ls hl => ?_)
        refine lv_iload_n hx hb dX12_some_27 rfl (lv_at hl 2 rfl) ?_
        refine lv_if_ne (tgt := 35) hx hb dX12_some_28 (by decide) (fun cb9 => ?_) (fun cb9 => ?_)
        · skip
          have c26 : ¬ x_5.toInt = 0 := zne cb9 rfl (by decide)
          refine lv_iconst (v := 1) hx hb dX12_some_35 (by decide) ?_
          refine lv_goto (tgt := 40) hx hb dX12_some_36 (by decide) ?_
          refine lv_istore_n (lv' := [(1, .int 1), (2, .int q_23), (0, .ref o)]) hx hb dX12_some_40 rfl hl (by decide) rfl (fun ls hl => ?_)
          refine lv_goto (tgt := 5) hx hb dX12_some_41 (by decide) ?_
          have hl := lv_sub (l' := [(0, .ref o), (1, .int 1), (2, .int q_23)]) hl [2, 0, 1] rfl
          have hL1 : (1 : Int32).toInt = 1 := by decide
          have hP : va_P g.1 vwCl (List.flatten [bMo g o a th hi ac tp 379 en at2_22 (-1) 6 iD iO tU fm fk fa fc ft ff fb fi]) H := hP
          have hD : va_D A (List.flatten [bMo g o a th hi ac tp 379 en at2_22 (-1) 6 iD iO tU fm fk fa fc ft ff fb fi]) := hD
          exact ih5_12 1 at2_22 (by first | omega | assumption | decide) (by first | omega | assumption | decide) (by first | omega | assumption | decide) ⟨_, (zBo1 (by rw [← e15]; omega)), zCvE_o hq25_3⟩ H _ ls (by omega)  hP hD hS (lv_sub hl [0, 1] rfl)
        · skip
          have c27 : x_5.toInt = 0 := zeq cb9 rfl (by decide)
          have n28 : 0 ≤ x_5.toInt := Int.le_trans (Int.le_refl _) (Int.le_of_eq c27.symm)
          have n29 : x_5.toInt ≤ 0 := Int.le_trans (Int.le_of_eq c27) (Int.le_refl _)
          refine lv_iload_n hx hb dX12_some_31 rfl (lv_at hl 0 rfl) ?_
          refine lv_if_eq (tgt := 39) hx hb dX12_some_32 (by decide) (fun cb9 => ?_) (fun cb9 => ?_)
          · skip
            have c30 : q_23.toInt = 0 := zeq cb9 rfl (by decide)
            have n31 : 0 ≤ q_23.toInt := Int.le_trans (Int.le_refl _) (Int.le_of_eq c30.symm)
            have n32 : q_23.toInt ≤ 0 := Int.le_trans (Int.le_of_eq c30) (Int.le_refl _)
            refine lv_iconst (v := 0) hx hb dX12_some_39 (by decide) ?_
            refine lv_istore_n (lv' := [(1, .int 0), (2, .int q_23), (0, .ref o)]) hx hb dX12_some_40 rfl hl (by decide) rfl (fun ls hl => ?_)
            refine lv_goto (tgt := 5) hx hb dX12_some_41 (by decide) ?_
            have hl := lv_sub (l' := [(0, .ref o), (1, .int 0), (2, .int q_23)]) hl [2, 0, 1] rfl
            have hL0 : (0 : Int32).toInt = 0 := by decide
            have hP : va_P g.1 vwCl (List.flatten [bMo g o a th hi ac tp 379 en at2_22 (-1) 6 iD iO tU fm fk fa fc ft ff fb fi]) H := hP
            have hD : va_D A (List.flatten [bMo g o a th hi ac tp 379 en at2_22 (-1) 6 iD iO tU fm fk fa fc ft ff fb fi]) := hD
            exact ih5_12 0 at2_22 (by first | omega | assumption | decide) (by first | omega | assumption | decide) (by first | omega | assumption | decide) ⟨_, (zBo0 (by rw [← e15]; omega) (by rw [← hq25_2]; omega)), zCvE_o hq25_3⟩ H _ ls (by omega)  hP hD hS (lv_sub hl [0, 1] rfl)
          · skip
            have c33 : ¬ q_23.toInt = 0 := zne cb9 rfl (by decide)
            refine lv_iconst (v := 1) hx hb dX12_some_35 (by decide) ?_
            refine lv_goto (tgt := 40) hx hb dX12_some_36 (by decide) ?_
            refine lv_istore_n (lv' := [(1, .int 1), (2, .int q_23), (0, .ref o)]) hx hb dX12_some_40 rfl hl (by decide) rfl (fun ls hl => ?_)
            refine lv_goto (tgt := 5) hx hb dX12_some_41 (by decide) ?_
            have hl := lv_sub (l' := [(0, .ref o), (1, .int 1), (2, .int q_23)]) hl [2, 0, 1] rfl
            have hL1 : (1 : Int32).toInt = 1 := by decide
            have hP : va_P g.1 vwCl (List.flatten [bMo g o a th hi ac tp 379 en at2_22 (-1) 6 iD iO tU fm fk fa fc ft ff fb fi]) H := hP
            have hD : va_D A (List.flatten [bMo g o a th hi ac tp 379 en at2_22 (-1) 6 iD iO tU fm fk fa fc ft ff fb fi]) := hD
            exact ih5_12 1 at2_22 (by first | omega | assumption | decide) (by first | omega | assumption | decide) (by first | omega | assumption | decide) ⟨_, (zBo2 (by rw [← hq25_2]; omega)), zCvE_o hq25_3⟩ H _ ls (by omega)  hP hD hS (lv_sub hl [0, 1] rfl)
      · skip
        refine lv_if_eq (tgt := 44) hx hb dX12_some_19 (by decide) (fun _ => ?_) (fun c34 => absurd (by decide) c34)
        refine lv_iload_n hx hb dX12_some_44 rfl (lv_at hl 1 rfl) ?_
        refine ztop (r := (zBi bv)) (by rw [(zCvO_n h16 hq19_k).2]; exact e15) ?_
        have hP : va_P g.1 vwCl (List.flatten [bMo g o a th hi ac tp 379 en at2_17 (-1) 6 iD iO tU fm fk fa fc ft ff fb fi]) H := hP
        have hD : va_D A (List.flatten [bMo g o a th hi ac tp 379 en at2_17 (-1) 6 iD iO tU fm fk fa fc ft ff fb fi]) := hD
        exact mret_z hx hb hr hlocks hS (Nat.le_of_ble_eq_true rfl) (Nat.le_of_ble_eq_true rfl) dX12_some_45 (at2_17) rfl (zb01 (zBi_01 _)) (show (0 ≤ at2_17.toInt ∧ at2_17.toInt ≤ en.toInt + 7 - 6) ∧ (tA.toInt ≤ at2_17.toInt) ∧ (zbg tx en.toInt at2_17.toInt = b1) from ⟨(by first | assumption | omega | decide), (by first | assumption | omega | decide), ((zbz hq19_km).trans (zCvO_n h16 hq19_k).1.symm)⟩) hP hD
  have hP : va_P g.1 vwCl (List.flatten [bMo g o a th hi ac tp 379 en at2_1 (-1) 6 iD iO tU fm fk fa fc ft ff fb fi]) H := hP
  have hD : va_D A (List.flatten [bMo g o a th hi ac tp 379 en at2_1 (-1) 6 iD iO tU fm fk fa fc ft ff fb fi]) := hD
  exact LP5_11 _ q_2 at2_1 (by first | omega | assumption | decide) hq4_1 (by first | omega | assumption | decide) ⟨_, hq4_2, zCvO_w (zCvE_o hq4_3)⟩ H _ ls (Nat.lt_succ_self _)  hP hD hS (lv_sub hl [0, 1] rfl)
