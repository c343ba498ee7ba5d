/-! THE LANGUAGE OF THE LAW: what stands from b on, and where it ends or where it's wrong -/
def zRes : Type := Sum Int Int
def zRes.ok (b : Int) : zRes := Sum.inl b
def zRes.bad (b : Int) : zRes := Sum.inr b
theorem zRes.okj {a b : Int} (h : zRes.ok a = zRes.ok b) : a = b := by
  have h' : (Sum.inl a : Sum Int Int) = Sum.inl b := h
  exact Sum.inl.inj h'
theorem zRes.badj {a b : Int} (h : zRes.bad a = zRes.bad b) : a = b := by
  have h' : (Sum.inr a : Sum Int Int) = Sum.inr b := h
  exact Sum.inr.inj h'
theorem zRes.ob {a b : Int} {P : Prop} (h : zRes.ok a = zRes.bad b) : P := by
  have h' : (Sum.inl a : Sum Int Int) = Sum.inr b := h
  cases h'
theorem zRes.bo {a b : Int} {P : Prop} (h : zRes.bad b = zRes.ok a) : P := zRes.ob h.symm
def znt (f : Nat → Int32) (n b : Int) : Int := zbg f n (znx f n b)
theorem znt_of {f : Nat → Int32} {n b b2 : Int} (h : zMv f n b b2) : b2 = znt f n b := h
def zwWho : List Int32 := [119, 104, 111]
def zwBelief : List Int32 := [98, 101, 108, 105, 101, 102]
def zwMean : List Int32 := [109, 101, 97, 110]
def zwWorks : List Int32 := [119, 111, 114, 107, 115]
def zwTies : List Int32 := [116, 105, 101, 115]
def zwDay : List Int32 := [100, 97, 121]
def zwNot : List Int32 := [110, 111, 116]
def zwDry : List Int32 := [100, 114, 121]
def zwOwner : List Int32 := [111, 119, 110, 101, 114]
def zwAnd : List Int32 := [97, 110, 100]
def zwOr : List Int32 := [111, 114]
def zwRaise : List Int32 := [114, 97, 105, 115, 101]
def zwLower : List Int32 := [108, 111, 119, 101, 114]
def zwIf : List Int32 := [105, 102]
def zSix (f : Nat → Int32) (n b : Int) : Prop := zisW f n b zwWho ∨ zisW f n b zwBelief ∨ zisW f n b zwMean ∨ zisW f n b zwWorks ∨ zisW f n b zwTies ∨ zisW f n b zwDay
def zPt (f : Nat → Int32) (n b : Int) : Prop := zSix f n b ∨ ∃ v, zNu f n b 0 999 v
def zDet (A : Int → zRes → Prop) : Prop := ∀ b r r', A b r → A b r' → r = r'
/-! a sum: parts joined by + -/
def zSumS (f : Nat → Int32) (n : Int) (S : Int → zRes → Prop) (b : Int) (r : zRes) : Prop :=
  (¬ zPt f n b ∧ r = .bad b) ∨ (zPt f n b ∧ ¬ zisS f n (znt f n b) 43 ∧ r = .ok (znt f n b)) ∨ (zPt f n b ∧ zisS f n (znt f n b) 43 ∧ S (znt f n (znt f n b)) r)
def zSumN (f : Nat → Int32) (n : Int) : Nat → Int → zRes → Prop
  | 0 => fun _ _ => False
  | k + 1 => zSumS f n (zSumN f n k)
def zSum (f : Nat → Int32) (n b : Int) (r : zRes) : Prop := ∃ k, zSumN f n k b r
theorem zSum.wrong {f : Nat → Int32} {n b : Int} (h : ¬ zPt f n b) : zSum f n b (.bad b) := ⟨0 + 1, (show zSumS f n (zSumN f n 0) b (.bad b) from Or.inl ⟨h, rfl⟩)⟩
theorem zSum.one {f : Nat → Int32} {n b : Int} (h : zPt f n b) (hs : ¬ zisS f n (znt f n b) 43) : zSum f n b (.ok (znt f n b)) := ⟨0 + 1, (show zSumS f n (zSumN f n 0) b (.ok (znt f n b)) from Or.inr (Or.inl ⟨h, hs, rfl⟩))⟩
theorem zSum.more {f : Nat → Int32} {n b : Int} {r : zRes} (h : zPt f n b) (hs : zisS f n (znt f n b) 43) (k : zSum f n (znt f n (znt f n b)) r) : zSum f n b r := by
  obtain ⟨j, hj⟩ := k
  exact ⟨j + 1, (show zSumS f n (zSumN f n j) b r from Or.inr (Or.inr ⟨h, hs, hj⟩))⟩
theorem zSum_indN {f : Nat → Int32} {n : Int} {P : Int → zRes → Prop} (h1 : ∀ b, ¬ zPt f n b → P b (.bad b)) (h2 : ∀ b, zPt f n b → ¬ zisS f n (znt f n b) 43 → P b (.ok (znt f n b))) (h3 : ∀ b r, zPt f n b → zisS f n (znt f n b) 43 → P (znt f n (znt f n b)) r → P b r) : ∀ (k : Nat) (b : Int) (r : zRes), zSumN f n k b r → P b r
  | 0, _, _, h => False.elim h
  | k + 1, b, r, h => by
    rcases (show zSumS f n (zSumN f n k) b r from h) with ⟨a, e⟩ | ⟨a, c, e⟩ | ⟨a, c, d⟩
    · rw [e]; exact h1 b a
    · rw [e]; exact h2 b a c
    · exact h3 b r a c (zSum_indN h1 h2 h3 k _ _ d)
theorem zSum.ind {f : Nat → Int32} {n : Int} {P : Int → zRes → Prop} (h1 : ∀ b, ¬ zPt f n b → P b (.bad b)) (h2 : ∀ b, zPt f n b → ¬ zisS f n (znt f n b) 43 → P b (.ok (znt f n b))) (h3 : ∀ b r, zPt f n b → zisS f n (znt f n b) 43 → P (znt f n (znt f n b)) r → P b r) {b : Int} {r : zRes} (h : zSum f n b r) : P b r := by
  obtain ⟨k, hk⟩ := h
  exact zSum_indN h1 h2 h3 k b r hk
theorem zSum.inv {f : Nat → Int32} {n b : Int} {r : zRes} (h : zSum f n b r) : zSumS f n (zSum f n) b r := by
  obtain ⟨k, h⟩ := h
  cases k with
  | zero => exact False.elim h
  | succ k =>
    rcases (show zSumS f n (zSumN f n k) b r from h) with h | h | ⟨a, c, d⟩
    · exact Or.inl h
    · exact Or.inr (Or.inl h)
    · exact Or.inr (Or.inr ⟨a, c, ⟨k, d⟩⟩)
theorem zSum_det (f : Nat → Int32) (n : Int) : zDet (zSum f n) := by
  intro b r r' h
  revert r'
  refine zSum.ind (P := fun b r => ∀ r', zSum f n b r' → r = r') ?_ ?_ ?_ h
  · intro b hb r' h'
    rcases h'.inv with ⟨_, e⟩ | ⟨a, _⟩ | ⟨a, _⟩
    · exact e.symm
    · exact absurd a hb
    · exact absurd a hb
  · intro b hb hs r' h'
    rcases h'.inv with ⟨a, _⟩ | ⟨_, _, e⟩ | ⟨_, c, _⟩
    · exact absurd hb a
    · exact e.symm
    · exact absurd c hs
  · intro b r hb hs ih r' h'
    rcases h'.inv with ⟨a, _⟩ | ⟨_, c, _⟩ | ⟨_, _, d⟩
    · exact absurd hb a
    · exact absurd hs c
    · exact ih r' d
def zLG (f : Nat → Int32) (n b : Int) : Prop := zisS f n b 60 ∨ zisS f n b 62
/-! a comparison, dry, owner -/
def zPlain (f : Nat → Int32) (n b : Int) (r : zRes) : Prop :=
  ((zisW f n b zwDry ∨ zisW f n b zwOwner) ∧ r = .ok (znt f n b)) ∨ (¬ (zisW f n b zwDry ∨ zisW f n b zwOwner) ∧ ((∃ q, zSum f n b (.bad q) ∧ r = .bad q) ∨ ∃ b1, zSum f n b (.ok b1) ∧ ((¬ zLG f n b1 ∧ r = .bad b1) ∨ (zLG f n b1 ∧ zSum f n (znt f n b1) r))))
theorem zPlain.word {f : Nat → Int32} {n b : Int} (h : zisW f n b zwDry ∨ zisW f n b zwOwner) : zPlain f n b (.ok (znt f n b)) := Or.inl ⟨h, rfl⟩
theorem zPlain.bad1 {f : Nat → Int32} {n b q : Int} (h : ¬ (zisW f n b zwDry ∨ zisW f n b zwOwner)) (h1 : zSum f n b (.bad q)) : zPlain f n b (.bad q) := Or.inr ⟨h, Or.inl ⟨q, h1, rfl⟩⟩
theorem zPlain.bad2 {f : Nat → Int32} {n b b1 : Int} (h : ¬ (zisW f n b zwDry ∨ zisW f n b zwOwner)) (h1 : zSum f n b (.ok b1)) (h2 : ¬ zLG f n b1) : zPlain f n b (.bad b1) := Or.inr ⟨h, Or.inr ⟨b1, h1, Or.inl ⟨h2, rfl⟩⟩⟩
theorem zPlain.all {f : Nat → Int32} {n b b1 : Int} {r : zRes} (h : ¬ (zisW f n b zwDry ∨ zisW f n b zwOwner)) (h1 : zSum f n b (.ok b1)) (h2 : zLG f n b1) (h3 : zSum f n (znt f n b1) r) : zPlain f n b r := Or.inr ⟨h, Or.inr ⟨b1, h1, Or.inr ⟨h2, h3⟩⟩⟩
theorem zPlain_det (f : Nat → Int32) (n : Int) : zDet (zPlain f n) := by
  have D := zSum_det f n
  intro b r r' h h'
  rcases h with ⟨h, e⟩ | ⟨h, ⟨q, h1, e⟩ | ⟨b1, h1, h2⟩⟩
  · rcases h' with ⟨_, e'⟩ | ⟨k, _⟩
    · rw [e, e']
    · exact absurd h k
  · rcases h' with ⟨k, _⟩ | ⟨_, ⟨q', k1, e'⟩ | ⟨b1', k1, _⟩⟩
    · exact absurd k h
    · rw [e, e']; exact D _ _ _ h1 k1
    · exact zRes.bo (D _ _ _ h1 k1)
  · rcases h' with ⟨k, _⟩ | ⟨_, ⟨q', k1, e'⟩ | ⟨b1', k1, k2⟩⟩
    · exact absurd k h
    · exact zRes.ob (D _ _ _ h1 k1)
    · have eb := zRes.okj (D _ _ _ h1 k1)
      subst eb
      rcases h2 with ⟨h2, e⟩ | ⟨h2, h3⟩
      · rcases k2 with ⟨k2, e'⟩ | ⟨k2, k3⟩
        · rw [e, e']
        · exact absurd k2 h2
      · rcases k2 with ⟨k2, e'⟩ | ⟨k2, k3⟩
        · exact absurd h2 k2
        · exact D _ _ _ h3 k3
/-! atoms joined by and, or -/
def zCondS (f : Nat → Int32) (n : Int) (A S : Int → zRes → Prop) (b : Int) (r : zRes) : Prop :=
  (∃ q, A b (.bad q) ∧ r = .bad q) ∨ ∃ b1, A b (.ok b1) ∧ ((¬ (zisW f n b1 zwAnd ∨ zisW f n b1 zwOr) ∧ r = .ok b1) ∨ ((zisW f n b1 zwAnd ∨ zisW f n b1 zwOr) ∧ S (znt f n b1) r))
def zCondN (f : Nat → Int32) (n : Int) (A : Int → zRes → Prop) : Nat → Int → zRes → Prop
  | 0 => fun _ _ => False
  | k + 1 => zCondS f n A (zCondN f n A k)
def zCond (f : Nat → Int32) (n : Int) (A : Int → zRes → Prop) (b : Int) (r : zRes) : Prop := ∃ k, zCondN f n A k b r
theorem zCond.wrong {f : Nat → Int32} {n b q : Int} {A : Int → zRes → Prop} (h : A b (.bad q)) : zCond f n A b (.bad q) := ⟨0 + 1, (show zCondS f n A (zCondN f n A 0) b (.bad q) from Or.inl ⟨q, h, rfl⟩)⟩
theorem zCond.one {f : Nat → Int32} {n b b1 : Int} {A : Int → zRes → Prop} (h : A b (.ok b1)) (hs : ¬ (zisW f n b1 zwAnd ∨ zisW f n b1 zwOr)) : zCond f n A b (.ok b1) := ⟨0 + 1, (show zCondS f n A (zCondN f n A 0) b (.ok b1) from Or.inr ⟨b1, h, Or.inl ⟨hs, rfl⟩⟩)⟩
theorem zCond.more {f : Nat → Int32} {n b b1 : Int} {A : Int → zRes → Prop} {r : zRes} (h : A b (.ok b1)) (hs : zisW f n b1 zwAnd ∨ zisW f n b1 zwOr) (k : zCond f n A (znt f n b1) r) : zCond f n A b r := by
  obtain ⟨j, hj⟩ := k
  exact ⟨j + 1, (show zCondS f n A (zCondN f n A j) b r from Or.inr ⟨b1, h, Or.inr ⟨hs, hj⟩⟩)⟩
theorem zCond_indN {f : Nat → Int32} {n : Int} {A P : Int → zRes → Prop} (h1 : ∀ b q, A b (.bad q) → P b (.bad q)) (h2 : ∀ b b1, A b (.ok b1) → ¬ (zisW f n b1 zwAnd ∨ zisW f n b1 zwOr) → P b (.ok b1)) (h3 : ∀ b b1 r, A b (.ok b1) → (zisW f n b1 zwAnd ∨ zisW f n b1 zwOr) → P (znt f n b1) r → P b r) : ∀ (k : Nat) (b : Int) (r : zRes), zCondN f n A k b r → P b r
  | 0, _, _, h => False.elim h
  | k + 1, b, r, h => by
    rcases (show zCondS f n A (zCondN f n A k) b r from h) with ⟨q, a, e⟩ | ⟨b1, a, ⟨c, e⟩ | ⟨c, d⟩⟩
    · rw [e]; exact h1 b q a
    · rw [e]; exact h2 b b1 a c
    · exact h3 b b1 r a c (zCond_indN h1 h2 h3 k _ _ d)
theorem zCond.ind {f : Nat → Int32} {n : Int} {A P : Int → zRes → Prop} (h1 : ∀ b q, A b (.bad q) → P b (.bad q)) (h2 : ∀ b b1, A b (.ok b1) → ¬ (zisW f n b1 zwAnd ∨ zisW f n b1 zwOr) → P b (.ok b1)) (h3 : ∀ b b1 r, A b (.ok b1) → (zisW f n b1 zwAnd ∨ zisW f n b1 zwOr) → P (znt f n b1) r → P b r) {b : Int} {r : zRes} (h : zCond f n A b r) : P b r := by
  obtain ⟨k, hk⟩ := h
  exact zCond_indN h1 h2 h3 k b r hk
theorem zCond.inv {f : Nat → Int32} {n b : Int} {A : Int → zRes → Prop} {r : zRes} (h : zCond f n A b r) : zCondS f n A (zCond f n A) b r := by
  obtain ⟨k, h⟩ := h
  cases k with
  | zero => exact False.elim h
  | succ k =>
    rcases (show zCondS f n A (zCondN f n A k) b r from h) with h | ⟨b1, a, c | ⟨c, d⟩⟩
    · exact Or.inl h
    · exact Or.inr ⟨b1, a, Or.inl c⟩
    · exact Or.inr ⟨b1, a, Or.inr ⟨c, ⟨k, d⟩⟩⟩
theorem zCond_det (f : Nat → Int32) (n : Int) {A : Int → zRes → Prop} (D : zDet A) : zDet (zCond f n A) := by
  intro b r r' h
  revert r'
  refine zCond.ind (P := fun b r => ∀ r', zCond f n A b r' → r = r') ?_ ?_ ?_ h
  · intro b q h r' h'
    rcases h'.inv with ⟨q', k, e⟩ | ⟨b1, k, _⟩
    · rw [e]; exact D _ _ _ h k
    · exact zRes.bo (D _ _ _ h k)
  · intro b b1 h hs r' h'
    rcases h'.inv with ⟨q', k, e⟩ | ⟨b1', k, c⟩
    · exact zRes.ob (D _ _ _ h k)
    · have eb := zRes.okj (D _ _ _ h k)
      subst eb
      rcases c with ⟨_, e⟩ | ⟨c, _⟩
      · exact e.symm
      · exact absurd c hs
  · intro b b1 r h hs ih r' h'
    rcases h'.inv with ⟨q', k, e⟩ | ⟨b1', k, c⟩
    · exact zRes.ob (D _ _ _ h k)
    · have eb := zRes.okj (D _ _ _ h k)
      subst eb
      rcases c with ⟨c, _⟩ | ⟨_, c⟩
      · exact absurd hs c
      · exact ih r' c
def zPar (f : Nat → Int32) (n : Int) (C : Int → zRes → Prop) (b : Int) (r : zRes) : Prop :=
  (∃ q, C b (.bad q) ∧ r = .bad q) ∨ ∃ b1, C b (.ok b1) ∧ ((zisS f n b1 41 ∧ r = .ok (znt f n b1)) ∨ (¬ zisS f n b1 41 ∧ r = .bad b1))
theorem zPar.wrong {f : Nat → Int32} {n b q : Int} {C : Int → zRes → Prop} (h : C b (.bad q)) : zPar f n C b (.bad q) := Or.inl ⟨q, h, rfl⟩
theorem zPar.shut {f : Nat → Int32} {n b b1 : Int} {C : Int → zRes → Prop} (h : C b (.ok b1)) (hs : zisS f n b1 41) : zPar f n C b (.ok (znt f n b1)) := Or.inr ⟨b1, h, Or.inl ⟨hs, rfl⟩⟩
theorem zPar.open_ {f : Nat → Int32} {n b b1 : Int} {C : Int → zRes → Prop} (h : C b (.ok b1)) (hs : ¬ zisS f n b1 41) : zPar f n C b (.bad b1) := Or.inr ⟨b1, h, Or.inr ⟨hs, rfl⟩⟩
theorem zPar_det (f : Nat → Int32) (n : Int) {C : Int → zRes → Prop} (D : zDet C) : zDet (zPar f n C) := by
  intro b r r' h h'
  rcases h with ⟨q, h, e⟩ | ⟨b1, h, h2⟩
  · rcases h' with ⟨q', k, e'⟩ | ⟨b1', k, _⟩
    · rw [e, e']; exact D _ _ _ h k
    · exact zRes.bo (D _ _ _ h k)
  · rcases h' with ⟨q', k, e'⟩ | ⟨b1', k, k2⟩
    · exact zRes.ob (D _ _ _ h k)
    · have eb := zRes.okj (D _ _ _ h k)
      subst eb
      rcases h2 with ⟨h2, e⟩ | ⟨h2, e⟩
      · rcases k2 with ⟨k2, e'⟩ | ⟨k2, e'⟩
        · rw [e, e']
        · exact absurd h2 k2
      · rcases k2 with ⟨k2, e'⟩ | ⟨k2, e'⟩
        · exact absurd k2 h2
        · rw [e, e']
def zDeep (f : Nat → Int32) (n b : Int) : Prop := zisW f n b zwNot ∨ zisS f n b 40
def zAtom (f : Nat → Int32) (n : Int) : Nat → Int → zRes → Prop
  | 0, b, r => (zDeep f n b ∧ r = .bad b) ∨ (¬ zDeep f n b ∧ zPlain f n b r)
  | k + 1, b, r => (zisW f n b zwNot ∧ zAtom f n k (znt f n b) r) ∨ (¬ zisW f n b zwNot ∧ zisS f n b 40 ∧ zPar f n (zCond f n (zAtom f n k)) (znt f n b) r) ∨ (¬ zDeep f n b ∧ zPlain f n b r)
theorem zAtom_det (f : Nat → Int32) (n : Int) : ∀ k, zDet (zAtom f n k)
  | 0 => by
    intro b r r' h h'
    rcases h with ⟨h1, h2⟩ | ⟨h1, h2⟩ <;> rcases h' with ⟨k1, k2⟩ | ⟨k1, k2⟩
    · rw [h2, k2]
    · exact absurd h1 k1
    · exact absurd k1 h1
    · exact zPlain_det f n _ _ _ h2 k2
  | k + 1 => by
    have D := zAtom_det f n k
    intro b r r' h h'
    rcases h with ⟨h1, h2⟩ | ⟨h1, h2, h3⟩ | ⟨h1, h2⟩ <;> rcases h' with ⟨k1, k2⟩ | ⟨k1, k2, k3⟩ | ⟨k1, k2⟩
    · exact D _ _ _ h2 k2
    · exact absurd h1 k1
    · exact absurd (Or.inl h1) k1
    · exact absurd k1 h1
    · exact zPar_det f n (zCond_det f n D) _ _ _ h3 k3
    · exact absurd (Or.inr h2) k1
    · exact absurd (Or.inl k1) h1
    · exact absurd (Or.inr k2) h1
    · exact zPlain_det f n _ _ _ h2 k2
/-! a line -/
def zLLine (f : Nat → Int32) (n b : Int) (r : zRes) : Prop :=
  (¬ (zisW f n b zwRaise ∨ zisW f n b zwLower) ∧ r = .bad b) ∨ ((zisW f n b zwRaise ∨ zisW f n b zwLower) ∧ (((¬ ∃ v, zNu f n (znt f n b) 0 30 v) ∧ r = .bad (znt f n b)) ∨ ((∃ v, zNu f n (znt f n b) 0 30 v) ∧ ((¬ zisW f n (znt f n (znt f n b)) zwIf ∧ r = .ok (znt f n (znt f n b))) ∨ (zisW f n (znt f n (znt f n b)) zwIf ∧ zCond f n (zAtom f n 6) (znt f n (znt f n (znt f n b))) r)))))
theorem zLLine.bad1 {f : Nat → Int32} {n b : Int} (h : ¬ (zisW f n b zwRaise ∨ zisW f n b zwLower)) : zLLine f n b (.bad b) := Or.inl ⟨h, rfl⟩
theorem zLLine.bad2 {f : Nat → Int32} {n b : Int} (h : zisW f n b zwRaise ∨ zisW f n b zwLower) (hn : ¬ ∃ v, zNu f n (znt f n b) 0 30 v) : zLLine f n b (.bad (znt f n b)) := Or.inr ⟨h, Or.inl ⟨hn, rfl⟩⟩
theorem zLLine.plain {f : Nat → Int32} {n b : Int} (h : zisW f n b zwRaise ∨ zisW f n b zwLower) (hn : ∃ v, zNu f n (znt f n b) 0 30 v) (hi : ¬ zisW f n (znt f n (znt f n b)) zwIf) : zLLine f n b (.ok (znt f n (znt f n b))) := Or.inr ⟨h, Or.inr ⟨hn, Or.inl ⟨hi, rfl⟩⟩⟩
theorem zLLine.cond {f : Nat → Int32} {n b : Int} {r : zRes} (h : zisW f n b zwRaise ∨ zisW f n b zwLower) (hn : ∃ v, zNu f n (znt f n b) 0 30 v) (hi : zisW f n (znt f n (znt f n b)) zwIf) (hc : zCond f n (zAtom f n 6) (znt f n (znt f n (znt f n b))) r) : zLLine f n b r := Or.inr ⟨h, Or.inr ⟨hn, Or.inr ⟨hi, hc⟩⟩⟩
theorem zLLine_det (f : Nat → Int32) (n : Int) : zDet (zLLine f n) := by
  intro b r r' h h'
  rcases h with ⟨h, e⟩ | ⟨h, ⟨hn, e⟩ | ⟨hn, ⟨hi, e⟩ | ⟨hi, hc⟩⟩⟩
  · rcases h' with ⟨k, e'⟩ | ⟨k, _⟩
    · rw [e, e']
    · exact absurd k h
  · rcases h' with ⟨k, e'⟩ | ⟨k, ⟨kn, e'⟩ | ⟨kn, _⟩⟩
    · exact absurd h k
    · rw [e, e']
    · exact absurd kn hn
  · rcases h' with ⟨k, e'⟩ | ⟨k, ⟨kn, e'⟩ | ⟨kn, ⟨ki, e'⟩ | ⟨ki, kc⟩⟩⟩
    · exact absurd h k
    · exact absurd hn kn
    · rw [e, e']
    · exact absurd ki hi
  · rcases h' with ⟨k, e'⟩ | ⟨k, ⟨kn, e'⟩ | ⟨kn, ⟨ki, e'⟩ | ⟨ki, kc⟩⟩⟩
    · exact absurd h k
    · exact absurd hn kn
    · exact absurd hi ki
    · exact zCond_det f n (zAtom_det f n 6) _ _ _ hc kc
/-! lines, so many still allowed: ok m: all is read, m lines were left -/
def zLines (f : Nat → Int32) (n : Int) (L : Int → zRes → Prop) : Nat → Int → zRes → Prop
  | 0, b, r => r = .bad b
  | k + 1, b, r => (∃ q, L b (.bad q) ∧ r = .bad q) ∨ ∃ b1, L b (.ok b1) ∧ ((n ≤ b1 ∧ r = .ok (k : Int)) ∨ (¬ n ≤ b1 ∧ ((¬ zisS f n b1 59 ∧ r = .bad b1) ∨ (zisS f n b1 59 ∧ zLines f n L k (znt f n b1) r))))
theorem zLines.none {f : Nat → Int32} {n b : Int} {L : Int → zRes → Prop} : zLines f n L 0 b (.bad b) := (show zRes.bad b = zRes.bad b from rfl)
theorem zLines.wrong {f : Nat → Int32} {n b q : Int} {L : Int → zRes → Prop} {k : Nat} (h : L b (.bad q)) : zLines f n L (k + 1) b (.bad q) := Or.inl ⟨q, h, rfl⟩
theorem zLines.last {f : Nat → Int32} {n b b1 : Int} {L : Int → zRes → Prop} {k : Nat} (h : L b (.ok b1)) (he : n ≤ b1) : zLines f n L (k + 1) b (.ok (k : Int)) := Or.inr ⟨b1, h, Or.inl ⟨he, rfl⟩⟩
theorem zLines.nosep {f : Nat → Int32} {n b b1 : Int} {L : Int → zRes → Prop} {k : Nat} (h : L b (.ok b1)) (he : ¬ n ≤ b1) (hs : ¬ zisS f n b1 59) : zLines f n L (k + 1) b (.bad b1) := Or.inr ⟨b1, h, Or.inr ⟨he, Or.inl ⟨hs, rfl⟩⟩⟩
theorem zLines.more {f : Nat → Int32} {n b b1 : Int} {L : Int → zRes → Prop} {k : Nat} {r : zRes} (h : L b (.ok b1)) (he : ¬ n ≤ b1) (hs : zisS f n b1 59) (m : zLines f n L k (znt f n b1) r) : zLines f n L (k + 1) b r := Or.inr ⟨b1, h, Or.inr ⟨he, Or.inr ⟨hs, m⟩⟩⟩
theorem zLines_det (f : Nat → Int32) (n : Int) {L : Int → zRes → Prop} (D : zDet L) : ∀ k, zDet (zLines f n L k)
  | 0 => fun b r r' h h' => (show r = .bad b from h).trans (show r' = .bad b from h').symm
  | k + 1 => by
    have I := zLines_det f n D k
    intro b r r' h h'
    rcases h with ⟨q, h, e⟩ | ⟨b1, h, h2⟩
    · rcases h' with ⟨q', k1, e'⟩ | ⟨b1', k1, _⟩
      · rw [e, e']; exact D _ _ _ h k1
      · exact zRes.bo (D _ _ _ h k1)
    · rcases h' with ⟨q', k1, e'⟩ | ⟨b1', k1, k2⟩
      · exact zRes.ob (D _ _ _ h k1)
      · have eb := zRes.okj (D _ _ _ h k1)
        subst eb
        rcases h2 with ⟨a, e⟩ | ⟨a, ⟨c, e⟩ | ⟨c, d⟩⟩
        · rcases k2 with ⟨_, e'⟩ | ⟨a', _⟩
          · rw [e, e']
          · exact absurd a a'
        · rcases k2 with ⟨a', _⟩ | ⟨_, ⟨_, e'⟩ | ⟨c', _⟩⟩
          · exact absurd a' a
          · rw [e, e']
          · exact absurd c' c
        · rcases k2 with ⟨a', _⟩ | ⟨_, ⟨c', _⟩ | ⟨_, d'⟩⟩
          · exact absurd a' a
          · exact absurd c c'
          · exact I _ _ _ d d'
theorem zMv_lt {f : Nat → Int32} {n b b2 : Int} (h0 : 0 ≤ b) (hk : ¬ zkd f n b = 0) (m : zMv f n b b2) : b < b2 := by
  have h' : ¬ n ≤ b := fun q => hk (by unfold zkd; rw [if_pos q])
  unfold zMv zSk at m
  have g := zw_ge (c := zcS) (f := f) (e := n.toNat) (p := (znx f n b).toNat)
  have : b < znx f n b := by
    unfold znx
    rw [if_neg h']
    by_cases r : zcL (f b.toNat).toInt = true
    · rw [if_pos r]; have := zw_ge (c := zcL) (f := f) (e := n.toNat) (p := b.toNat + 1); omega
    · rw [if_neg r]
      by_cases t : zcD (f b.toNat).toInt = true
      · rw [if_pos t]; have := zw_ge (c := zcD) (f := f) (e := n.toNat) (p := b.toNat + 1); omega
      · rw [if_neg t]; omega
  omega
theorem zkd_e {f : Nat → Int32} {n b : Int} (h : n ≤ b) : zkd f n b = 0 := by unfold zkd; rw [if_pos h]
theorem zisW_e {f : Nat → Int32} {n b : Int} {bs : List Int32} (h : n ≤ b) : ¬ zisW f n b bs := fun q => absurd (q.1.symm.trans (zkd_e h)) (by decide)
theorem zisS_e {f : Nat → Int32} {n b c : Int} (h : n ≤ b) : ¬ zisS f n b c := fun q => absurd (q.1.symm.trans (zkd_e h)) (by decide)
theorem zNu_e {f : Nat → Int32} {n b lo hi : Int} (h : n ≤ b) : ¬ ∃ v, zNu f n b lo hi v := fun ⟨_, q, _⟩ => absurd (q.1.symm.trans (zkd_e h)) (by decide)
theorem zisW_z {f : Nat → Int32} {n b : Int} {bs : List Int32} (h : zisW f n b bs) : ¬ zkd f n b = 0 := fun q => absurd (h.1.symm.trans q) (by decide)
theorem zisS_z {f : Nat → Int32} {n b c : Int} (h : zisS f n b c) : ¬ zkd f n b = 0 := fun q => absurd (h.1.symm.trans q) (by decide)
theorem zNu_z {f : Nat → Int32} {n b lo hi : Int} {v : Int32} (h : zNu f n b lo hi v) : ¬ zkd f n b = 0 := fun q => absurd (h.1.1.symm.trans q) (by decide)
theorem zPt_z {f : Nat → Int32} {n b : Int} (h : zPt f n b) : ¬ zkd f n b = 0 := by
  rcases h with (h | h | h | h | h | h) | ⟨v, h⟩
  all_goals first | exact zisW_z h | exact zNu_z h
theorem zPt_n {f : Nat → Int32} {n b : Int} (h1 : ¬ zisW f n b zwWho) (h2 : ¬ zisW f n b zwBelief) (h3 : ¬ zisW f n b zwMean) (h4 : ¬ zisW f n b zwWorks) (h5 : ¬ zisW f n b zwTies) (h6 : ¬ zisW f n b zwDay) (h7 : ¬ ∃ v, zNu f n b 0 999 v) : ¬ zPt f n b := by
  rintro ((h | h | h | h | h | h) | h)
  · exact h1 h
  · exact h2 h
  · exact h3 h
  · exact h4 h
  · exact h5 h
  · exact h6 h
  · exact h7 h
theorem zPt_e {f : Nat → Int32} {n b : Int} (h : n ≤ b) : ¬ zPt f n b := fun q => zPt_z q (zkd_e h)
theorem zSum_one {f : Nat → Int32} {n b b2 c : Int} (hc : c = 43) (h : zPt f n b) (m : zMv f n b b2) (hs : ¬ zisS f n b2 c) : zSum f n b (.ok b2) := by
  subst hc; have e := znt_of m; subst e; exact .one h hs
theorem zSum_more {f : Nat → Int32} {n b b2 b3 c : Int} {r : zRes} (hc : c = 43) (h : zPt f n b) (m : zMv f n b b2) (hs : zisS f n b2 c) (m2 : zMv f n b2 b3) (k : zSum f n b3 r) : zSum f n b r := by
  subst hc; have e := znt_of m; subst e; have e := znt_of m2; subst e; exact .more h hs k
/-- a sum's end lies behind its begin -/
theorem zSum_lt {f : Nat → Int32} {n b : Int} {r : zRes} (h : zSum f n b r) (h0 : 0 ≤ b) : (∃ q, r = .bad q ∧ b ≤ q) ∨ ∃ q, r = .ok q ∧ b < q := by
  revert h0
  refine zSum.ind (P := fun b r => 0 ≤ b → (∃ q, r = .bad q ∧ b ≤ q) ∨ ∃ q, r = .ok q ∧ b < q) ?_ ?_ ?_ h
  · intro b _ _; exact .inl ⟨b, rfl, Int.le_refl _⟩
  · intro b h _ h0; exact .inr ⟨_, rfl, zMv_lt h0 (zPt_z h) rfl⟩
  · intro b r h hs ih h0
    have l1 : b < znt f n b := zMv_lt h0 (zPt_z h) rfl
    have l2 : znt f n b < znt f n (znt f n b) := zMv_lt (by omega) (zisS_z hs) rfl
    rcases ih (by omega) with ⟨q, e, l⟩ | ⟨q, e, l⟩
    · exact .inl ⟨q, e, by omega⟩
    · exact .inr ⟨q, e, by omega⟩
theorem zPl_word {f : Nat → Int32} {n b b2 : Int} (h : zisW f n b zwDry ∨ zisW f n b zwOwner) (m : zMv f n b b2) : zPlain f n b (.ok b2) := by
  have e := znt_of m; subst e; exact .word h
theorem zPl_all {f : Nat → Int32} {n b b1 b2 : Int} {r : zRes} (h : ¬ (zisW f n b zwDry ∨ zisW f n b zwOwner)) (h1 : zSum f n b (.ok b1)) (h2 : zLG f n b1) (m : zMv f n b1 b2) (h3 : zSum f n b2 r) : zPlain f n b r := by
  have e := znt_of m; subst e; exact .all h h1 h2 h3
theorem zor_n {p q : Prop} (h : ¬ p) (k : ¬ q) : ¬ (p ∨ q) := fun o => o.elim h k
theorem zAt_pl {f : Nat → Int32} {n b : Int} {r : zRes} : ∀ {k : Nat}, ¬ zDeep f n b → zPlain f n b r → zAtom f n k b r
  | 0, h, p => Or.inr ⟨h, p⟩
  | _ + 1, h, p => Or.inr (Or.inr ⟨h, p⟩)
theorem zAt_0 {f : Nat → Int32} {n b : Int} (h : zDeep f n b) : zAtom f n 0 b (.bad b) := Or.inl ⟨h, rfl⟩
/-- one deeper: in brackets or behind not -/
def zDpr (f : Nat → Int32) (n : Int) (k : Nat) (b : Int) (r : zRes) : Prop := (zisS f n b 40 ∧ zPar f n (zCond f n (zAtom f n k)) (znt f n b) r) ∨ (¬ zisS f n b 40 ∧ zAtom f n k (znt f n b) r)
theorem zDp_p {f : Nat → Int32} {n b b2 : Int} {k : Nat} {r : zRes} (h : zisS f n b 40) (m : zMv f n b b2) (p : zPar f n (zCond f n (zAtom f n k)) b2 r) : zDpr f n k b r := by
  have e := znt_of m; subst e; exact .inl ⟨h, p⟩
theorem zDp_n {f : Nat → Int32} {n b b2 : Int} {k : Nat} {r : zRes} (h : ¬ zisS f n b 40) (m : zMv f n b b2) (p : zAtom f n k b2 r) : zDpr f n k b r := by
  have e := znt_of m; subst e; exact .inr ⟨h, p⟩
theorem zPar_shut {f : Nat → Int32} {n b b1 b2 : Int} {C : Int → zRes → Prop} (h : C b (.ok b1)) (hs : zisS f n b1 41) (m : zMv f n b1 b2) : zPar f n C b (.ok b2) := by
  have e := znt_of m; subst e; exact .shut h hs
theorem zAt_s {f : Nat → Int32} {n b : Int} {k : Nat} {r : zRes} (h : zDeep f n b) (d : zDpr f n k b r) : zAtom f n (k + 1) b r := by
  rcases d with ⟨h1, h2⟩ | ⟨h1, h2⟩
  · exact Or.inr (Or.inl ⟨fun q => absurd (q.1.symm.trans h1.1) (by decide), h1, h2⟩)
  · exact Or.inl ⟨h.resolve_right h1, h2⟩
theorem zAt_e {f : Nat → Int32} {n b : Int} {k : Nat} (h : n ≤ b) : zAtom f n k b (.bad b) := zAt_pl (fun o => o.elim (zisW_e h) (zisS_e h)) (.bad1 (fun o => o.elim (zisW_e h) (zisW_e h)) (.wrong (zPt_e h)))
def zGt (A : Int → zRes → Prop) : Prop := ∀ b q, 0 ≤ b → A b (.ok q) → b < q
theorem zSum_gt (f : Nat → Int32) (n : Int) : zGt (zSum f n) := fun b q h0 h => by
  rcases zSum_lt h h0 with ⟨q', e, _⟩ | ⟨q', e, l⟩
  · exact zRes.ob e
  · rw [zRes.okj e]; exact l
theorem zLG_z {f : Nat → Int32} {n b : Int} (h : zLG f n b) : ¬ zkd f n b = 0 := h.elim zisS_z zisS_z
theorem zPlain_gt (f : Nat → Int32) (n : Int) : zGt (zPlain f n) := fun b q h0 h => by
  rcases h with ⟨h, e⟩ | ⟨h, ⟨q', h1, e⟩ | ⟨b1, h1, ⟨h2, e⟩ | ⟨h2, h3⟩⟩⟩
  · have l1 : b < znt f n b := zMv_lt h0 (h.elim zisW_z zisW_z) rfl
    rw [zRes.okj e]; exact l1
  · exact zRes.ob e
  · exact zRes.ob e
  · have l1 := zSum_gt f n _ _ h0 h1
    have l2 : b1 < znt f n b1 := zMv_lt (by omega) (zLG_z h2) rfl
    have l3 := zSum_gt f n _ _ (Int.le_trans (by omega) (Int.le_of_lt l2)) h3
    exact Int.lt_trans l1 (Int.lt_trans l2 l3)
theorem zCond_gt {f : Nat → Int32} {n : Int} {A : Int → zRes → Prop} (G : zGt A) : zGt (zCond f n A) := by
  intro b q h0 h
  refine zCond.ind (P := fun b r => 0 ≤ b → ∀ q, r = .ok q → b < q) ?_ ?_ ?_ h h0 q rfl
  · intro b q' _ _ q e; exact zRes.bo e
  · intro b b1 h _ h0 q e
    rw [← zRes.okj e]; exact G _ _ h0 h
  · intro b b1 r h hs ih h0 q e
    have l1 := G _ _ h0 h
    have l2 : b1 < znt f n b1 := zMv_lt (by omega) (hs.elim zisW_z zisW_z) rfl
    have l3 := ih (Int.le_trans (by omega) (Int.le_of_lt l2)) q e
    exact Int.lt_trans l1 (Int.lt_trans l2 l3)
theorem zPar_gt {f : Nat → Int32} {n : Int} {C : Int → zRes → Prop} (G : zGt C) : zGt (zPar f n C) := fun b q h0 h => by
  rcases h with ⟨q', h, e⟩ | ⟨b1, h, ⟨hs, e⟩ | ⟨hs, e⟩⟩
  · exact zRes.ob e
  · have l1 := G _ _ h0 h
    have l2 : b1 < znt f n b1 := zMv_lt (by omega) (zisS_z hs) rfl
    rw [zRes.okj e]; exact Int.lt_trans l1 l2
  · exact zRes.ob e
theorem zAtom_gt (f : Nat → Int32) (n : Int) : ∀ k, zGt (zAtom f n k)
  | 0 => fun b q h0 h => by
    rcases h with ⟨_, h⟩ | ⟨_, h⟩
    · exact zRes.ob h
    · exact zPlain_gt f n b q h0 h
  | k + 1 => fun b q h0 h => by
    have G := zAtom_gt f n k
    rcases h with ⟨h1, h⟩ | ⟨_, h1, h⟩ | ⟨_, h⟩
    · have l : b < znt f n b := zMv_lt h0 (zisW_z h1) rfl
      exact Int.lt_trans l (G _ _ (Int.le_trans h0 (Int.le_of_lt l)) h)
    · have l : b < znt f n b := zMv_lt h0 (zisS_z h1) rfl
      exact Int.lt_trans l (zPar_gt (zCond_gt G) _ _ (Int.le_trans h0 (Int.le_of_lt l)) h)
    · exact zPlain_gt f n b q h0 h
theorem zCo_more {f : Nat → Int32} {n b b1 b2 : Int} {A : Int → zRes → Prop} {r : zRes} (h : A b (.ok b1)) (hs : zisW f n b1 zwAnd ∨ zisW f n b1 zwOr) (m : zMv f n b1 b2) (k : zCond f n A b2 r) : zCond f n A b r := by
  have e := znt_of m; subst e; exact .more h hs k
theorem zLL_bad2 {f : Nat → Int32} {n b b1 : Int} (h : zisW f n b zwRaise ∨ zisW f n b zwLower) (m : zMv f n b b1) (hn : ¬ ∃ v, zNu f n b1 0 30 v) : zLLine f n b (.bad b1) := by
  have e := znt_of m; subst e; exact .bad2 h hn
theorem zLL_plain {f : Nat → Int32} {n b b1 b2 : Int} {v : Int32} (h : zisW f n b zwRaise ∨ zisW f n b zwLower) (m : zMv f n b b1) (hn : zNu f n b1 0 30 v) (m2 : zMv f n b1 b2) (hi : ¬ zisW f n b2 zwIf) : zLLine f n b (.ok b2) := by
  have e := znt_of m; subst e; have e := znt_of m2; subst e; exact .plain h ⟨v, hn⟩ hi
theorem zLL_cond {f : Nat → Int32} {n b b1 b2 b3 : Int} {v : Int32} {r : zRes} (h : zisW f n b zwRaise ∨ zisW f n b zwLower) (m : zMv f n b b1) (hn : zNu f n b1 0 30 v) (m2 : zMv f n b1 b2) (hi : zisW f n b2 zwIf) (m3 : zMv f n b2 b3) (hc : zCond f n (zAtom f n 6) b3 r) : zLLine f n b r := by
  have e := znt_of m; subst e; have e := znt_of m2; subst e; have e := znt_of m3; subst e; exact .cond h ⟨v, hn⟩ hi hc
theorem zTk_0 {f : Nat → Int32} {n k b x : Int} (h : zTk f n k b x) (hk : k = 0) : n ≤ b := by
  have := h.1
  rw [hk] at this
  unfold zkd at this
  by_cases q : n ≤ b
  · exact q
  · rw [if_neg q] at this
    by_cases r : zcL (f b.toNat).toInt = true
    · rw [if_pos r] at this; exact absurd this (by decide)
    · rw [if_neg r] at this
      by_cases t : zcD (f b.toNat).toInt = true
      · rw [if_pos t] at this; exact absurd this (by decide)
      · rw [if_neg t] at this; exact absurd this (by decide)
theorem zTk_1 {f : Nat → Int32} {n k b x : Int} (h : zTk f n k b x) (hk : ¬ k = 0) : ¬ n ≤ b := fun q => hk (h.1.trans (zkd_e q))
theorem zLi_wrong {f : Nat → Int32} {n b q : Int} {L : Int → zRes → Prop} {m : Nat} (hm : 0 < m) (h : L b (.bad q)) : zLines f n L m b (.bad q) := by
  obtain ⟨k, rfl⟩ : ∃ k, m = k + 1 := ⟨m - 1, by omega⟩
  exact .wrong h
theorem zLi_last {f : Nat → Int32} {n b b1 v : Int} {L : Int → zRes → Prop} {m : Nat} (hm : 0 < m) (h : L b (.ok b1)) (he : n ≤ b1) (hv : v = (m : Int) - 1) : zLines f n L m b (.ok v) := by
  obtain ⟨k, rfl⟩ : ∃ k, m = k + 1 := ⟨m - 1, by omega⟩
  rw [show v = (k : Int) by omega]
  exact .last h he
theorem zLi_nosep {f : Nat → Int32} {n b b1 : Int} {L : Int → zRes → Prop} {m : Nat} (hm : 0 < m) (h : L b (.ok b1)) (he : ¬ n ≤ b1) (hs : ¬ zisS f n b1 59) : zLines f n L m b (.bad b1) := by
  obtain ⟨k, rfl⟩ : ∃ k, m = k + 1 := ⟨m - 1, by omega⟩
  exact .nosep h he hs
theorem zLi_more {f : Nat → Int32} {n b b1 b2 : Int} {L : Int → zRes → Prop} {m m' : Nat} {r : zRes} (hm : m = m' + 1) (h : L b (.ok b1)) (he : ¬ n ≤ b1) (hs : zisS f n b1 59) (mv : zMv f n b1 b2) (k : zLines f n L m' b2 r) : zLines f n L m b r := by
  subst hm; have e := znt_of mv; subst e; exact .more h he hs k
theorem zLi_none {f : Nat → Int32} {n b : Int} {L : Int → zRes → Prop} {m : Nat} (hm : m = 0) : zLines f n L m b (.bad b) := by subst hm; exact .none
theorem zLi_at {f : Nat → Int32} {n b b0 : Int} {L : Int → zRes → Prop} {m m' : Nat} (e : m = m') : ∀ r, zLines f n L m b r → zLines f n L m' b r := fun _ h => e ▸ h
