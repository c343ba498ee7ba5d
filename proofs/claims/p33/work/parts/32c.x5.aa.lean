/-! THE LANGUAGE OF THE LAW: what stands from b on, and where it ends or where it's wrong -/
def zRes : Type := Sum Int Int
def zRes.ok (b : Int) : zRes := Sum.inl b
def zRes.bad (b : Int) : zRes := Sum.inr b
theorem zRes.okj {a b : Int} (h : zRes.ok a = zRes.ok b) : a = b := by
  have h' : (Sum.inl a : Sum Int Int) = Sum.inl b := h
  exact Sum.inl.inj h'
theorem zRes.badj {a b : Int} (h : zRes.bad a = zRes.bad b) : a = b := by
  have h' : (Sum.inr a : Sum Int Int) = Sum.inr b := h
  exact Sum.inr.inj h'
theorem zRes.ob {a b : Int} {P : Prop} (h : zRes.ok a = zRes.bad b) : P := by
  have h' : (Sum.inl a : Sum Int Int) = Sum.inr b := h
  cases h'
theorem zRes.bo {a b : Int} {P : Prop} (h : zRes.bad b = zRes.ok a) : P := zRes.ob h.symm
def znt (f : Nat → Int32) (n b : Int) : Int := zbg f n (znx f n b)
theorem znt_of {f : Nat → Int32} {n b b2 : Int} (h : zMv f n b b2) : b2 = znt f n b := h
def zwWho : List Int32 := [119, 104, 111]
def zwBelief : List Int32 := [98, 101, 108, 105, 101, 102]
def zwMean : List Int32 := [109, 101, 97, 110]
def zwWorks : List Int32 := [119, 111, 114, 107, 115]
def zwTies : List Int32 := [116, 105, 101, 115]
def zwDay : List Int32 := [100, 97, 121]
def zwNot : List Int32 := [110, 111, 116]
def zwDry : List Int32 := [100, 114, 121]
def zwOwner : List Int32 := [111, 119, 110, 101, 114]
def zwAnd : List Int32 := [97, 110, 100]
def zwOr : List Int32 := [111, 114]
def zwRaise : List Int32 := [114, 97, 105, 115, 101]
def zwLower : List Int32 := [108, 111, 119, 101, 114]
def zwIf : List Int32 := [105, 102]
def zSix (f : Nat → Int32) (n b : Int) : Prop := zisW f n b zwWho ∨ zisW f n b zwBelief ∨ zisW f n b zwMean ∨ zisW f n b zwWorks ∨ zisW f n b zwTies ∨ zisW f n b zwDay
def zPt (f : Nat → Int32) (n b : Int) : Prop := zSix f n b ∨ ∃ v, zNu f n b 0 999 v
def zDet (A : Int → zRes → Prop) : Prop := ∀ b r r', A b r → A b r' → r = r'
/-! a sum: parts joined by + -/
def zSumS (f : Nat → Int32) (n : Int) (S : Int → zRes → Prop) (b : Int) (r : zRes) : Prop :=
  (¬ zPt f n b ∧ r = .bad b) ∨ (zPt f n b ∧ ¬ zisS f n (znt f n b) 43 ∧ r = .ok (znt f n b)) ∨ (zPt f n b ∧ zisS f n (znt f n b) 43 ∧ S (znt f n (znt f n b)) r)
def zSumN (f : Nat → Int32) (n : Int) : Nat → Int → zRes → Prop
  | 0 => fun _ _ => False
  | k + 1 => zSumS f n (zSumN f n k)
def zSum (f : Nat → Int32) (n b : Int) (r : zRes) : Prop := ∃ k, zSumN f n k b r
theorem zSum.wrong {f : Nat → Int32} {n b : Int} (h : ¬ zPt f n b) : zSum f n b (.bad b) := ⟨0 + 1, (show zSumS f n (zSumN f n 0) b (.bad b) from Or.inl ⟨h, rfl⟩)⟩
theorem zSum.one {f : Nat → Int32} {n b : Int} (h : zPt f n b) (hs : ¬ zisS f n (znt f n b) 43) : zSum f n b (.ok (znt f n b)) := ⟨0 + 1, (show zSumS f n (zSumN f n 0) b (.ok (znt f n b)) from Or.inr (Or.inl ⟨h, hs, rfl⟩))⟩
theorem zSum.more {f : Nat → Int32} {n b : Int} {r : zRes} (h : zPt f n b) (hs : zisS f n (znt f n b) 43) (k : zSum f n (znt f n (znt f n b)) r) : zSum f n b r := by
  obtain ⟨j, hj⟩ := k
  exact ⟨j + 1, (show zSumS f n (zSumN f n j) b r from Or.inr (Or.inr ⟨h, hs, hj⟩))⟩
theorem zSum_indN {f : Nat → Int32} {n : Int} {P : Int → zRes → Prop} (h1 : ∀ b, ¬ zPt f n b → P b (.bad b)) (h2 : ∀ b, zPt f n b → ¬ zisS f n (znt f n b) 43 → P b (.ok (znt f n b))) (h3 : ∀ b r, zPt f n b → zisS f n (znt f n b) 43 → P (znt f n (znt f n b)) r → P b r) : ∀ (k : Nat) (b : Int) (r : zRes), zSumN f n k b r → P b r
  | 0, _, _, h => False.elim h
  | k + 1, b, r, h => by
    rcases (show zSumS f n (zSumN f n k) b r from h) with ⟨a, e⟩ | ⟨a, c, e⟩ | ⟨a, c, d⟩
    · rw [e]; exact h1 b a
    · rw [e]; exact h2 b a c
    · exact h3 b r a c (zSum_indN h1 h2 h3 k _ _ d)
theorem zSum.ind {f : Nat → Int32} {n : Int} {P : Int → zRes → Prop} (h1 : ∀ b, ¬ zPt f n b → P b (.bad b)) (h2 : ∀ b, zPt f n b → ¬ zisS f n (znt f n b) 43 → P b (.ok (znt f n b))) (h3 : ∀ b r, zPt f n b → zisS f n (znt f n b) 43 → P (znt f n (znt f n b)) r → P b r) {b : Int} {r : zRes} (h : zSum f n b r) : P b r := by
  obtain ⟨k, hk⟩ := h
  exact zSum_indN h1 h2 h3 k b r hk
theorem zSum.inv {f : Nat → Int32} {n b : Int} {r : zRes} (h : zSum f n b r) : zSumS f n (zSum f n) b r := by
  obtain ⟨k, h⟩ := h
  cases k with
  | zero => exact False.elim h
  | succ k =>
    rcases (show zSumS f n (zSumN f n k) b r from h) with h | h | ⟨a, c, d⟩
    · exact Or.inl h
    · exact Or.inr (Or.inl h)
    · exact Or.inr (Or.inr ⟨a, c, ⟨k, d⟩⟩)
theorem zSum_det (f : Nat → Int32) (n : Int) : zDet (zSum f n) := by
  intro b r r' h
  revert r'
  refine zSum.ind (P := fun b r => ∀ r', zSum f n b r' → r = r') ?_ ?_ ?_ h
  · intro b hb r' h'
    rcases h'.inv with ⟨_, e⟩ | ⟨a, _⟩ | ⟨a, _⟩
    · exact e.symm
    · exact absurd a hb
    · exact absurd a hb
  · intro b hb hs r' h'
    rcases h'.inv with ⟨a, _⟩ | ⟨_, _, e⟩ | ⟨_, c, _⟩
    · exact absurd hb a
    · exact e.symm
    · exact absurd c hs
  · intro b r hb hs ih r' h'
    rcases h'.inv with ⟨a, _⟩ | ⟨_, c, _⟩ | ⟨_, _, d⟩
    · exact absurd hb a
    · exact absurd hs c
    · exact ih r' d
def zLG (f : Nat → Int32) (n b : Int) : Prop := zisS f n b 60 ∨ zisS f n b 62
/-! a comparison, dry, owner -/
def zPlain (f : Nat → Int32) (n b : Int) (r : zRes) : Prop :=
  ((zisW f n b zwDry ∨ zisW f n b zwOwner) ∧ r = .ok (znt f n b)) ∨ (¬ (zisW f n b zwDry ∨ zisW f n b zwOwner) ∧ ((∃ q, zSum f n b (.bad q) ∧ r = .bad q) ∨ ∃ b1, zSum f n b (.ok b1) ∧ ((¬ zLG f n b1 ∧ r = .bad b1) ∨ (zLG f n b1 ∧ zSum f n (znt f n b1) r))))
theorem zPlain.word {f : Nat → Int32} {n b : Int} (h : zisW f n b zwDry ∨ zisW f n b zwOwner) : zPlain f n b (.ok (znt f n b)) := Or.inl ⟨h, rfl⟩
theorem zPlain.bad1 {f : Nat → Int32} {n b q : Int} (h : ¬ (zisW f n b zwDry ∨ zisW f n b zwOwner)) (h1 : zSum f n b (.bad q)) : zPlain f n b (.bad q) := Or.inr ⟨h, Or.inl ⟨q, h1, rfl⟩⟩
theorem zPlain.bad2 {f : Nat → Int32} {n b b1 : Int} (h : ¬ (zisW f n b zwDry ∨ zisW f n b zwOwner)) (h1 : zSum f n b (.ok b1)) (h2 : ¬ zLG f n b1) : zPlain f n b (.bad b1) := Or.inr ⟨h, Or.inr ⟨b1, h1, Or.inl ⟨h2, rfl⟩⟩⟩
theorem zPlain.all {f : Nat → Int32} {n b b1 : Int} {r : zRes} (h : ¬ (zisW f n b zwDry ∨ zisW f n b zwOwner)) (h1 : zSum f n b (.ok b1)) (h2 : zLG f n b1) (h3 : zSum f n (znt f n b1) r) : zPlain f n b r := Or.inr ⟨h, Or.inr ⟨b1, h1, Or.inr ⟨h2, h3⟩⟩⟩
theorem zPlain_det (f : Nat → Int32) (n : Int) : zDet (zPlain f n) := by
  have D := zSum_det f n
  intro b r r' h h'
  rcases h with ⟨h, e⟩ | ⟨h, ⟨q, h1, e⟩ | ⟨b1, h1, h2⟩⟩
  · rcases h' with ⟨_, e'⟩ | ⟨k, _⟩
    · rw [e, e']
    · exact absurd h k
  · rcases h' with ⟨k, _⟩ | ⟨_, ⟨q', k1, e'⟩ | ⟨b1', k1, _⟩⟩
    · exact absurd k h
    · rw [e, e']; exact D _ _ _ h1 k1
    · exact zRes.bo (D _ _ _ h1 k1)
  · rcases h' with ⟨k, _⟩ | ⟨_, ⟨q', k1, e'⟩ | ⟨b1', k1, k2⟩⟩
    · exact absurd k h
    · exact zRes.ob (D _ _ _ h1 k1)
    · have eb := zRes.okj (D _ _ _ h1 k1)
      subst eb
      rcases h2 with ⟨h2, e⟩ | ⟨h2, h3⟩
      · rcases k2 with ⟨k2, e'⟩ | ⟨k2, k3⟩
        · rw [e, e']
        · exact absurd k2 h2
      · rcases k2 with ⟨k2, e'⟩ | ⟨k2, k3⟩
        · exact absurd h2 k2
        · exact D _ _ _ h3 k3
/-! atoms joined by and, or -/
def zCondS (f : Nat → Int32) (n : Int) (A S : Int → zRes → Prop) (b : Int) (r : zRes) : Prop :=
  (∃ q, A b (.bad q) ∧ r = .bad q) ∨ ∃ b1, A b (.ok b1) ∧ ((¬ (zisW f n b1 zwAnd ∨ zisW f n b1 zwOr) ∧ r = .ok b1) ∨ ((zisW f n b1 zwAnd ∨ zisW f n b1 zwOr) ∧ S (znt f n b1) r))
def zCondN (f : Nat → Int32) (n : Int) (A : Int → zRes → Prop) : Nat → Int → zRes → Prop
  | 0 => fun _ _ => False
  | k + 1 => zCondS f n A (zCondN f n A k)
def zCond (f : Nat → Int32) (n : Int) (A : Int → zRes → Prop) (b : Int) (r : zRes) : Prop := ∃ k, zCondN f n A k b r
theorem zCond.wrong {f : Nat → Int32} {n b q : Int} {A : Int → zRes → Prop} (h : A b (.bad q)) : zCond f n A b (.bad q) := ⟨0 + 1, (show zCondS f n A (zCondN f n A 0) b (.bad q) from Or.inl ⟨q, h, rfl⟩)⟩
theorem zCond.one {f : Nat → Int32} {n b b1 : Int} {A : Int → zRes → Prop} (h : A b (.ok b1)) (hs : ¬ (zisW f n b1 zwAnd ∨ zisW f n b1 zwOr)) : zCond f n A b (.ok b1) := ⟨0 + 1, (show zCondS f n A (zCondN f n A 0) b (.ok b1) from Or.inr ⟨b1, h, Or.inl ⟨hs, rfl⟩⟩)⟩
theorem zCond.more {f : Nat → Int32} {n b b1 : Int} {A : Int → zRes → Prop} {r : zRes} (h : A b (.ok b1)) (hs : zisW f n b1 zwAnd ∨ zisW f n b1 zwOr) (k : zCond f n A (znt f n b1) r) : zCond f n A b r := by
  obtain ⟨j, hj⟩ := k
  exact ⟨j + 1, (show zCondS f n A (zCondN f n A j) b r from Or.inr ⟨b1, h, Or.inr ⟨hs, hj⟩⟩)⟩
theorem zCond_indN {f : Nat → Int32} {n : Int} {A P : Int → zRes → Prop} (h1 : ∀ b q, A b (.bad q) → P b (.bad q)) (h2 : ∀ b b1, A b (.ok b1) → ¬ (zisW f n b1 zwAnd ∨ zisW f n b1 zwOr) → P b (.ok b1)) (h3 : ∀ b b1 r, A b (.ok b1) → (zisW f n b1 zwAnd ∨ zisW f n b1 zwOr) → P (znt f n b1) r → P b r) : ∀ (k : Nat) (b : Int) (r : zRes), zCondN f n A k b r → P b r
  | 0, _, _, h => False.elim h
  | k + 1, b, r, h => by
    rcases (show zCondS f n A (zCondN f n A k) b r from h) with ⟨q, a, e⟩ | ⟨b1, a, ⟨c, e⟩ | ⟨c, d⟩⟩
    · rw [e]; exact h1 b q a
    · rw [e]; exact h2 b b1 a c
    · exact h3 b b1 r a c (zCond_indN h1 h2 h3 k _ _ d)
theorem zCond.ind {f : Nat → Int32} {n : Int} {A P : Int → zRes → Prop} (h1 : ∀ b q, A b (.bad q) → P b (.bad q)) (h2 : ∀ b b1, A b (.ok b1) → ¬ (zisW f n b1 zwAnd ∨ zisW f n b1 zwOr) → P b (.ok b1)) (h3 : ∀ b b1 r, A b (.ok b1) → (zisW f n b1 zwAnd ∨ zisW f n b1 zwOr) → P (znt f n b1) r → P b r) {b : Int} {r : zRes} (h : zCond f n A b r) : P b r := by
  obtain ⟨k, hk⟩ := h
  exact zCond_indN h1 h2 h3 k b r hk
theorem zCond.inv {f : Nat → Int32} {n b : Int} {A : Int → zRes → Prop} {r : zRes} (h : zCond f n A b r) : zCondS f n A (zCond f n A) b r := by
  obtain ⟨k, h⟩ := h
  cases k with
  | zero => exact False.elim h
  | succ k =>
    rcases (show zCondS f n A (zCondN f n A k) b r from h) with h | ⟨b1, a, c | ⟨c, d⟩⟩
    · exact Or.inl h
    · exact Or.inr ⟨b1, a, Or.inl c⟩
    · exact Or.inr ⟨b1, a, Or.inr ⟨c, ⟨k, d⟩⟩⟩
theorem zCond_det (f : Nat → Int32) (n : Int) {A : Int → zRes → Prop} (D : zDet A) : zDet (zCond f n A) := by
  intro b r r' h
  revert r'
  refine zCond.ind (P := fun b r => ∀ r', zCond f n A b r' → r = r') ?_ ?_ ?_ h
  · intro b q h r' h'
    rcases h'.inv with ⟨q', k, e⟩ | ⟨b1, k, _⟩
    · rw [e]; exact D _ _ _ h k
    · exact zRes.bo (D _ _ _ h k)
  · intro b b1 h hs r' h'
    rcases h'.inv with ⟨q', k, e⟩ | ⟨b1', k, c⟩
    · exact zRes.ob (D _ _ _ h k)
    · have eb := zRes.okj (D _ _ _ h k)
      subst eb
      rcases c with ⟨_, e⟩ | ⟨c, _⟩
      · exact e.symm
      · exact absurd c hs
  · intro b b1 r h hs ih r' h'
    rcases h'.inv with ⟨q', k, e⟩ | ⟨b1', k, c⟩
    · exact zRes.ob (D _ _ _ h k)
    · have eb := zRes.okj (D _ _ _ h k)
      subst eb
      rcases c with ⟨c, _⟩ | ⟨_, c⟩
      · exact absurd hs c
      · exact ih r' c
def zPar (f : Nat → Int32) (n : Int) (C : Int → zRes → Prop) (b : Int) (r : zRes) : Prop :=
  (∃ q, C b (.bad q) ∧ r = .bad q) ∨ ∃ b1, C b (.ok b1) ∧ ((zisS f n b1 41 ∧ r = .ok (znt f n b1)) ∨ (¬ zisS f n b1 41 ∧ r = .bad b1))
theorem zPar.wrong {f : Nat → Int32} {n b q : Int} {C : Int → zRes → Prop} (h : C b (.bad q)) : zPar f n C b (.bad q) := Or.inl ⟨q, h, rfl⟩
theorem zPar.shut {f : Nat → Int32} {n b b1 : Int} {C : Int → zRes → Prop} (h : C b (.ok b1)) (hs : zisS f n b1 41) : zPar f n C b (.ok (znt f n b1)) := Or.inr ⟨b1, h, Or.inl ⟨hs, rfl⟩⟩
theorem zPar.open_ {f : Nat → Int32} {n b b1 : Int} {C : Int → zRes → Prop} (h : C b (.ok b1)) (hs : ¬ zisS f n b1 41) : zPar f n C b (.bad b1) := Or.inr ⟨b1, h, Or.inr ⟨hs, rfl⟩⟩
theorem zPar_det (f : Nat → Int32) (n : Int) {C : Int → zRes → Prop} (D : zDet C) : zDet (zPar f n C) := by
  intro b r r' h h'
  rcases h with ⟨q, h, e⟩ | ⟨b1, h, h2⟩
  · rcases h' with ⟨q', k, e'⟩ | ⟨b1', k, _⟩
    · rw [e, e']; exact D _ _ _ h k
    · exact zRes.bo (D _ _ _ h k)
  · rcases h' with ⟨q', k, e'⟩ | ⟨b1', k, k2⟩
    · exact zRes.ob (D _ _ _ h k)
    · have eb := zRes.okj (D _ _ _ h k)
      subst eb
      rcases h2 with ⟨h2, e⟩ | ⟨h2, e⟩
      · rcases k2 with ⟨k2, e'⟩ | ⟨k2, e'⟩
        · rw [e, e']
        · exact absurd h2 k2
      · rcases k2 with ⟨k2, e'⟩ | ⟨k2, e'⟩
        · exact absurd k2 h2
        · rw [e, e']
def zDeep (f : Nat → Int32) (n b : Int) : Prop := zisW f n b zwNot ∨ zisS f n b 40
def zAtom (f : Nat → Int32) (n : Int) : Nat → Int → zRes → Prop
  | 0, b, r => (zDeep f n b ∧ r = .bad b) ∨ (¬ zDeep f n b ∧ zPlain f n b r)
  | k + 1, b, r => (zisW f n b zwNot ∧ zAtom f n k (znt f n b) r) ∨ (¬ zisW f n b zwNot ∧ zisS f n b 40 ∧ zPar f n (zCond f n (zAtom f n k)) (znt f n b) r) ∨ (¬ zDeep f n b ∧ zPlain f n b r)
theorem zAtom_det (f : Nat → Int32) (n : Int) : ∀ k, zDet (zAtom f n k)
  | 0 => by
    intro b r r' h h'
    rcases h with ⟨h1, h2⟩ | ⟨h1, h2⟩ <;> rcases h' with ⟨k1, k2⟩ | ⟨k1, k2⟩
    · rw [h2, k2]
    · exact absurd h1 k1
    · exact absurd k1 h1
    · exact zPlain_det f n _ _ _ h2 k2
  | k + 1 => by
    have D := zAtom_det f n k
    intro b r r' h h'
    rcases h with ⟨h1, h2⟩ | ⟨h1, h2, h3⟩ | ⟨h1, h2⟩ <;> rcases h' with ⟨k1, k2⟩ | ⟨k1, k2, k3⟩ | ⟨k1, k2⟩
    · exact D _ _ _ h2 k2
    · exact absurd h1 k1
    · exact absurd (Or.inl h1) k1
    · exact absurd k1 h1
    · exact zPar_det f n (zCond_det f n D) _ _ _ h3 k3
    · exact absurd (Or.inr h2) k1
    · exact absurd (Or.inl k1) h1
    · exact absurd (Or.inr k2) h1
    · exact zPlain_det f n _ _ _ h2 k2
/-! a line -/
def zLLine (f : Nat → Int32) (n b : Int) (r : zRes) : Prop :=
  (¬ (zisW f n b zwRaise ∨ zisW f n b zwLower) ∧ r = .bad b) ∨ ((zisW f n b zwRaise ∨ zisW f n b zwLower) ∧ (((¬ ∃ v, zNu f n (znt f n b) 0 30 v) ∧ r = .bad (znt f n b)) ∨ ((∃ v, zNu f n (znt f n b) 0 30 v) ∧ ((¬ zisW f n (znt f n (znt f n b)) zwIf ∧ r = .ok (znt f n (znt f n b))) ∨ (zisW f n (znt f n (znt f n b)) zwIf ∧ zCond f n (zAtom f n 6) (znt f n (znt f n (znt f n b))) r)))))
theorem zLLine.bad1 {f : Nat → Int32} {n b : Int} (h : ¬ (zisW f n b zwRaise ∨ zisW f n b zwLower)) : zLLine f n b (.bad b) := Or.inl ⟨h, rfl⟩
theorem zLLine.bad2 {f : Nat → Int32} {n b : Int} (h : zisW f n b zwRaise ∨ zisW f n b zwLower) (hn : ¬ ∃ v, zNu f n (znt f n b) 0 30 v) : zLLine f n b (.bad (znt f n b)) := Or.inr ⟨h, Or.inl ⟨hn, rfl⟩⟩
theorem zLLine.plain {f : Nat → Int32} {n b : Int} (h : zisW f n b zwRaise ∨ zisW f n b zwLower) (hn : ∃ v, zNu f n (znt f n b) 0 30 v) (hi : ¬ zisW f n (znt f n (znt f n b)) zwIf) : zLLine f n b (.ok (znt f n (znt f n b))) := Or.inr ⟨h, Or.inr ⟨hn, Or.inl ⟨hi, rfl⟩⟩⟩
theorem zLLine.cond {f : Nat → Int32} {n b : Int} {r : zRes} (h : zisW f n b zwRaise ∨ zisW f n b zwLower) (hn : ∃ v, zNu f n (znt f n b) 0 30 v) (hi : zisW f n (znt f n (znt f n b)) zwIf) (hc : zCond f n (zAtom f n 6) (znt f n (znt f n (znt f n b))) r) : zLLine f n b r := Or.inr ⟨h, Or.inr ⟨hn, Or.inr ⟨hi, hc⟩⟩⟩
theorem zLLine_det (f : Nat → Int32) (n : Int) : zDet (zLLine f n) := by
  intro b r r' h h'
  rcases h with ⟨h, e⟩ | ⟨h, ⟨hn, e⟩ | ⟨hn, ⟨hi, e⟩ | ⟨hi, hc⟩⟩⟩
  · rcases h' with ⟨k, e'⟩ | ⟨k, _⟩
    · rw [e, e']
    · exact absurd k h
  · rcases h' with ⟨k, e'⟩ | ⟨k, ⟨kn, e'⟩ | ⟨kn, _⟩⟩
    · exact absurd h k
    · rw [e, e']
    · exact absurd kn hn
  · rcases h' with ⟨k, e'⟩ | ⟨k, ⟨kn, e'⟩ | ⟨kn, ⟨ki, e'⟩ | ⟨ki, kc⟩⟩⟩
    · exact absurd h k
    · exact absurd hn kn
    · rw [e, e']
    · exact absurd ki hi
  · rcases h' with ⟨k, e'⟩ | ⟨k, ⟨kn, e'⟩ | ⟨kn, ⟨ki, e'⟩ | ⟨ki, kc⟩⟩⟩
    · exact absurd h k
    · exact absurd hn kn
    · exact absurd hi ki
    · exact zCond_det f n (zAtom_det f n 6) _ _ _ hc kc
/-! lines, so many still allowed: ok m: all is read, m lines were left -/
def zLines (f : Nat → Int32) (n : Int) (L : Int → zRes → Prop) : Nat → Int → zRes → Prop
  | 0, b, r => r = .bad b
  | k + 1, b, r => (∃ q, L b (.bad q) ∧ r = .bad q) ∨ ∃ b1, L b (.ok b1) ∧ ((n ≤ b1 ∧ r = .ok (k : Int)) ∨ (¬ n ≤ b1 ∧ ((¬ zisS f n b1 59 ∧ r = .bad b1) ∨ (zisS f n b1 59 ∧ zLines f n L k (znt f n b1) r))))
theorem zLines.none {f : Nat → Int32} {n b : Int} {L : Int → zRes → Prop} : zLines f n L 0 b (.bad b) := (show zRes.bad b = zRes.bad b from rfl)
theorem zLines.wrong {f : Nat → Int32} {n b q : Int} {L : Int → zRes → Prop} {k : Nat} (h : L b (.bad q)) : zLines f n L (k + 1) b (.bad q) := Or.inl ⟨q, h, rfl⟩
theorem zLines.last {f : Nat → Int32} {n b b1 : Int} {L : Int → zRes → Prop} {k : Nat} (h : L b (.ok b1)) (he : n ≤ b1) : zLines f n L (k + 1) b (.ok (k : Int)) := Or.inr ⟨b1, h, Or.inl ⟨he, rfl⟩⟩
theorem zLines.nosep {f : Nat → Int32} {n b b1 : Int} {L : Int → zRes → Prop} {k : Nat} (h : L b (.ok b1)) (he : ¬ n ≤ b1) (hs : ¬ zisS f n b1 59) : zLines f n L (k + 1) b (.bad b1) := Or.inr ⟨b1, h, Or.inr ⟨he, Or.inl ⟨hs, rfl⟩⟩⟩
theorem zLines.more {f : Nat → Int32} {n b b1 : Int} {L : Int → zRes → Prop} {k : Nat} {r : zRes} (h : L b (.ok b1)) (he : ¬ n ≤ b1) (hs : zisS f n b1 59) (m : zLines f n L k (znt f n b1) r) : zLines f n L (k + 1) b r := Or.inr ⟨b1, h, Or.inr ⟨he, Or.inr ⟨hs, m⟩⟩⟩
theorem zLines_det (f : Nat → Int32) (n : Int) {L : Int → zRes → Prop} (D : zDet L) : ∀ k, zDet (zLines f n L k)
  | 0 => fun b r r' h h' => (show r = .bad b from h).trans (show r' = .bad b from h').symm
  | k + 1 => by
    have I := zLines_det f n D k
    intro b r r' h h'
    rcases h with ⟨q, h, e⟩ | ⟨b1, h, h2⟩
    · rcases h' with ⟨q', k1, e'⟩ | ⟨b1', k1, _⟩
      · rw [e, e']; exact D _ _ _ h k1
      · exact zRes.bo (D _ _ _ h k1)
    · rcases h' with ⟨q', k1, e'⟩ | ⟨b1', k1, k2⟩
      · exact zRes.ob (D _ _ _ h k1)
      · have eb := zRes.okj (D _ _ _ h k1)
        subst eb
        rcases h2 with ⟨a, e⟩ | ⟨a, ⟨c, e⟩ | ⟨c, d⟩⟩
        · rcases k2 with ⟨_, e'⟩ | ⟨a', _⟩
          · rw [e, e']
          · exact absurd a a'
        · rcases k2 with ⟨a', _⟩ | ⟨_, ⟨_, e'⟩ | ⟨c', _⟩⟩
          · exact absurd a' a
          · rw [e, e']
          · exact absurd c' c
        · rcases k2 with ⟨a', _⟩ | ⟨_, ⟨c', _⟩ | ⟨_, d'⟩⟩
          · exact absurd a' a
          · exact absurd c c'
          · exact I _ _ _ d d'
theorem zMv_lt {f : Nat → Int32} {n b b2 : Int} (h0 : 0 ≤ b) (hk : ¬ zkd f n b = 0) (m : zMv f n b b2) : b < b2 := by
  have h' : ¬ n ≤ b := fun q => hk (by unfold zkd; rw [if_pos q])
  unfold zMv zSk at m
  have g := zw_ge (c := zcS) (f := f) (e := n.toNat) (p := (znx f n b).toNat)
  have : b < znx f n b := by
    unfold znx
    rw [if_neg h']
    by_cases r : zcL (f b.toNat).toInt = true
    · rw [if_pos r]; have := zw_ge (c := zcL) (f := f) (e := n.toNat) (p := b.toNat + 1); omega
    · rw [if_neg r]
      by_cases t : zcD (f b.toNat).toInt = true
      · rw [if_pos t]; have := zw_ge (c := zcD) (f := f) (e := n.toNat) (p := b.toNat + 1); omega
      · rw [if_neg t]; omega
  omega
theorem zkd_e {f : Nat → Int32} {n b : Int} (h : n ≤ b) : zkd f n b = 0 := by unfold zkd; rw [if_pos h]
theorem zisW_e {f : Nat → Int32} {n b : Int} {bs : List Int32} (h : n ≤ b) : ¬ zisW f n b bs := fun q => absurd (q.1.symm.trans (zkd_e h)) (by decide)
theorem zisS_e {f : Nat → Int32} {n b c : Int} (h : n ≤ b) : ¬ zisS f n b c := fun q => absurd (q.1.symm.trans (zkd_e h)) (by decide)
theorem zNu_e {f : Nat → Int32} {n b lo hi : Int} (h : n ≤ b) : ¬ ∃ v, zNu f n b lo hi v := fun ⟨_, q, _⟩ => absurd (q.1.symm.trans (zkd_e h)) (by decide)
theorem zisW_z {f : Nat → Int32} {n b : Int} {bs : List Int32} (h : zisW f n b bs) : ¬ zkd f n b = 0 := fun q => absurd (h.1.symm.trans q) (by decide)
theorem zisS_z {f : Nat → Int32} {n b c : Int} (h : zisS f n b c) : ¬ zkd f n b = 0 := fun q => absurd (h.1.symm.trans q) (by decide)
theorem zNu_z {f : Nat → Int32} {n b lo hi : Int} {v : Int32} (h : zNu f n b lo hi v) : ¬ zkd f n b = 0 := fun q => absurd (h.1.1.symm.trans q) (by decide)
theorem zPt_z {f : Nat → Int32} {n b : Int} (h : zPt f n b) : ¬ zkd f n b = 0 := by
  rcases h with (h | h | h | h | h | h) | ⟨v, h⟩
  all_goals first | exact zisW_z h | exact zNu_z h
theorem zPt_n {f : Nat → Int32} {n b : Int} (h1 : ¬ zisW f n b zwWho) (h2 : ¬ zisW f n b zwBelief) (h3 : ¬ zisW f n b zwMean) (h4 : ¬ zisW f n b zwWorks) (h5 : ¬ zisW f n b zwTies) (h6 : ¬ zisW f n b zwDay) (h7 : ¬ ∃ v, zNu f n b 0 999 v) : ¬ zPt f n b := by
  rintro ((h | h | h | h | h | h) | h)
  · exact h1 h
  · exact h2 h
  · exact h3 h
  · exact h4 h
  · exact h5 h
  · exact h6 h
  · exact h7 h
theorem zPt_e {f : Nat → Int32} {n b : Int} (h : n ≤ b) : ¬ zPt f n b := fun q => zPt_z q (zkd_e h)
theorem zSum_one {f : Nat → Int32} {n b b2 c : Int} (hc : c = 43) (h : zPt f n b) (m : zMv f n b b2) (hs : ¬ zisS f n b2 c) : zSum f n b (.ok b2) := by
  subst hc; have e := znt_of m; subst e; exact .one h hs
theorem zSum_more {f : Nat → Int32} {n b b2 b3 c : Int} {r : zRes} (hc : c = 43) (h : zPt f n b) (m : zMv f n b b2) (hs : zisS f n b2 c) (m2 : zMv f n b2 b3) (k : zSum f n b3 r) : zSum f n b r := by
  subst hc; have e := znt_of m; subst e; have e := znt_of m2; subst e; exact .more h hs k
/-- a sum's end lies behind its begin -/
theorem zSum_lt {f : Nat → Int32} {n b : Int} {r : zRes} (h : zSum f n b r) (h0 : 0 ≤ b) : (∃ q, r = .bad q ∧ b ≤ q) ∨ ∃ q, r = .ok q ∧ b < q := by
  revert h0
  refine zSum.ind (P := fun b r => 0 ≤ b → (∃ q, r = .bad q ∧ b ≤ q) ∨ ∃ q, r = .ok q ∧ b < q) ?_ ?_ ?_ h
  · intro b _ _; exact .inl ⟨b, rfl, Int.le_refl _⟩
  · intro b h _ h0; exact .inr ⟨_, rfl, zMv_lt h0 (zPt_z h) rfl⟩
  · intro b r h hs ih h0
    have l1 : b < znt f n b := zMv_lt h0 (zPt_z h) rfl
    have l2 : znt f n b < znt f n (znt f n b) := zMv_lt (by omega) (zisS_z hs) rfl
    rcases ih (by omega) with ⟨q, e, l⟩ | ⟨q, e, l⟩
    · exact .inl ⟨q, e, by omega⟩
    · exact .inr ⟨q, e, by omega⟩
theorem zPl_word {f : Nat → Int32} {n b b2 : Int} (h : zisW f n b zwDry ∨ zisW f n b zwOwner) (m : zMv f n b b2) : zPlain f n b (.ok b2) := by
  have e := znt_of m; subst e; exact .word h
theorem zPl_all {f : Nat → Int32} {n b b1 b2 : Int} {r : zRes} (h : ¬ (zisW f n b zwDry ∨ zisW f n b zwOwner)) (h1 : zSum f n b (.ok b1)) (h2 : zLG f n b1) (m : zMv f n b1 b2) (h3 : zSum f n b2 r) : zPlain f n b r := by
  have e := znt_of m; subst e; exact .all h h1 h2 h3
theorem zor_n {p q : Prop} (h : ¬ p) (k : ¬ q) : ¬ (p ∨ q) := fun o => o.elim h k
theorem zAt_pl {f : Nat → Int32} {n b : Int} {r : zRes} : ∀ {k : Nat}, ¬ zDeep f n b → zPlain f n b r → zAtom f n k b r
  | 0, h, p => Or.inr ⟨h, p⟩
  | _ + 1, h, p => Or.inr (Or.inr ⟨h, p⟩)
theorem zAt_0 {f : Nat → Int32} {n b : Int} (h : zDeep f n b) : zAtom f n 0 b (.bad b) := Or.inl ⟨h, rfl⟩
/-- one deeper: in brackets or behind not -/
def zDpr (f : Nat → Int32) (n : Int) (k : Nat) (b : Int) (r : zRes) : Prop := (zisS f n b 40 ∧ zPar f n (zCond f n (zAtom f n k)) (znt f n b) r) ∨ (¬ zisS f n b 40 ∧ zAtom f n k (znt f n b) r)
theorem zDp_p {f : Nat → Int32} {n b b2 : Int} {k : Nat} {r : zRes} (h : zisS f n b 40) (m : zMv f n b b2) (p : zPar f n (zCond f n (zAtom f n k)) b2 r) : zDpr f n k b r := by
  have e := znt_of m; subst e; exact .inl ⟨h, p⟩
theorem zDp_n {f : Nat → Int32} {n b b2 : Int} {k : Nat} {r : zRes} (h : ¬ zisS f n b 40) (m : zMv f n b b2) (p : zAtom f n k b2 r) : zDpr f n k b r := by
  have e := znt_of m; subst e; exact .inr ⟨h, p⟩
theorem zPar_shut {f : Nat → Int32} {n b b1 b2 : Int} {C : Int → zRes → Prop} (h : C b (.ok b1)) (hs : zisS f n b1 41) (m : zMv f n b1 b2) : zPar f n C b (.ok b2) := by
  have e := znt_of m; subst e; exact .shut h hs
theorem zAt_s {f : Nat → Int32} {n b : Int} {k : Nat} {r : zRes} (h : zDeep f n b) (d : zDpr f n k b r) : zAtom f n (k + 1) b r := by
  rcases d with ⟨h1, h2⟩ | ⟨h1, h2⟩
  · exact Or.inr (Or.inl ⟨fun q => absurd (q.1.symm.trans h1.1) (by decide), h1, h2⟩)
  · exact Or.inl ⟨h.resolve_right h1, h2⟩
theorem zAt_e {f : Nat → Int32} {n b : Int} {k : Nat} (h : n ≤ b) : zAtom f n k b (.bad b) := zAt_pl (fun o => o.elim (zisW_e h) (zisS_e h)) (.bad1 (fun o => o.elim (zisW_e h) (zisW_e h)) (.wrong (zPt_e h)))
def zGt (A : Int → zRes → Prop) : Prop := ∀ b q, 0 ≤ b → A b (.ok q) → b < q
theorem zSum_gt (f : Nat → Int32) (n : Int) : zGt (zSum f n) := fun b q h0 h => by
  rcases zSum_lt h h0 with ⟨q', e, _⟩ | ⟨q', e, l⟩
  · exact zRes.ob e
  · rw [zRes.okj e]; exact l
theorem zLG_z {f : Nat → Int32} {n b : Int} (h : zLG f n b) : ¬ zkd f n b = 0 := h.elim zisS_z zisS_z
theorem zPlain_gt (f : Nat → Int32) (n : Int) : zGt (zPlain f n) := fun b q h0 h => by
  rcases h with ⟨h, e⟩ | ⟨h, ⟨q', h1, e⟩ | ⟨b1, h1, ⟨h2, e⟩ | ⟨h2, h3⟩⟩⟩
  · have l1 : b < znt f n b := zMv_lt h0 (h.elim zisW_z zisW_z) rfl
    rw [zRes.okj e]; exact l1
  · exact zRes.ob e
  · exact zRes.ob e
  · have l1 := zSum_gt f n _ _ h0 h1
    have l2 : b1 < znt f n b1 := zMv_lt (by omega) (zLG_z h2) rfl
    have l3 := zSum_gt f n _ _ (Int.le_trans (by omega) (Int.le_of_lt l2)) h3
    exact Int.lt_trans l1 (Int.lt_trans l2 l3)
theorem zCond_gt {f : Nat → Int32} {n : Int} {A : Int → zRes → Prop} (G : zGt A) : zGt (zCond f n A) := by
  intro b q h0 h
  refine zCond.ind (P := fun b r => 0 ≤ b → ∀ q, r = .ok q → b < q) ?_ ?_ ?_ h h0 q rfl
  · intro b q' _ _ q e; exact zRes.bo e
  · intro b b1 h _ h0 q e
    rw [← zRes.okj e]; exact G _ _ h0 h
  · intro b b1 r h hs ih h0 q e
    have l1 := G _ _ h0 h
    have l2 : b1 < znt f n b1 := zMv_lt (by omega) (hs.elim zisW_z zisW_z) rfl
    have l3 := ih (Int.le_trans (by omega) (Int.le_of_lt l2)) q e
    exact Int.lt_trans l1 (Int.lt_trans l2 l3)
theorem zPar_gt {f : Nat → Int32} {n : Int} {C : Int → zRes → Prop} (G : zGt C) : zGt (zPar f n C) := fun b q h0 h => by
  rcases h with ⟨q', h, e⟩ | ⟨b1, h, ⟨hs, e⟩ | ⟨hs, e⟩⟩
  · exact zRes.ob e
  · have l1 := G _ _ h0 h
    have l2 : b1 < znt f n b1 := zMv_lt (by omega) (zisS_z hs) rfl
    rw [zRes.okj e]; exact Int.lt_trans l1 l2
  · exact zRes.ob e
theorem zAtom_gt (f : Nat → Int32) (n : Int) : ∀ k, zGt (zAtom f n k)
  | 0 => fun b q h0 h => by
    rcases h with ⟨_, h⟩ | ⟨_, h⟩
    · exact zRes.ob h
    · exact zPlain_gt f n b q h0 h
  | k + 1 => fun b q h0 h => by
    have G := zAtom_gt f n k
    rcases h with ⟨h1, h⟩ | ⟨_, h1, h⟩ | ⟨_, h⟩
    · have l : b < znt f n b := zMv_lt h0 (zisW_z h1) rfl
      exact Int.lt_trans l (G _ _ (Int.le_trans h0 (Int.le_of_lt l)) h)
    · have l : b < znt f n b := zMv_lt h0 (zisS_z h1) rfl
      exact Int.lt_trans l (zPar_gt (zCond_gt G) _ _ (Int.le_trans h0 (Int.le_of_lt l)) h)
    · exact zPlain_gt f n b q h0 h
theorem zCo_more {f : Nat → Int32} {n b b1 b2 : Int} {A : Int → zRes → Prop} {r : zRes} (h : A b (.ok b1)) (hs : zisW f n b1 zwAnd ∨ zisW f n b1 zwOr) (m : zMv f n b1 b2) (k : zCond f n A b2 r) : zCond f n A b r := by
  have e := znt_of m; subst e; exact .more h hs k
theorem zLL_bad2 {f : Nat → Int32} {n b b1 : Int} (h : zisW f n b zwRaise ∨ zisW f n b zwLower) (m : zMv f n b b1) (hn : ¬ ∃ v, zNu f n b1 0 30 v) : zLLine f n b (.bad b1) := by
  have e := znt_of m; subst e; exact .bad2 h hn
theorem zLL_plain {f : Nat → Int32} {n b b1 b2 : Int} {v : Int32} (h : zisW f n b zwRaise ∨ zisW f n b zwLower) (m : zMv f n b b1) (hn : zNu f n b1 0 30 v) (m2 : zMv f n b1 b2) (hi : ¬ zisW f n b2 zwIf) : zLLine f n b (.ok b2) := by
  have e := znt_of m; subst e; have e := znt_of m2; subst e; exact .plain h ⟨v, hn⟩ hi
theorem zLL_cond {f : Nat → Int32} {n b b1 b2 b3 : Int} {v : Int32} {r : zRes} (h : zisW f n b zwRaise ∨ zisW f n b zwLower) (m : zMv f n b b1) (hn : zNu f n b1 0 30 v) (m2 : zMv f n b1 b2) (hi : zisW f n b2 zwIf) (m3 : zMv f n b2 b3) (hc : zCond f n (zAtom f n 6) b3 r) : zLLine f n b r := by
  have e := znt_of m; subst e; have e := znt_of m2; subst e; have e := znt_of m3; subst e; exact .cond h ⟨v, hn⟩ hi hc
theorem zTk_0 {f : Nat → Int32} {n k b x : Int} (h : zTk f n k b x) (hk : k = 0) : n ≤ b := by
  have := h.1
  rw [hk] at this
  unfold zkd at this
  by_cases q : n ≤ b
  · exact q
  · rw [if_neg q] at this
    by_cases r : zcL (f b.toNat).toInt = true
    · rw [if_pos r] at this; exact absurd this (by decide)
    · rw [if_neg r] at this
      by_cases t : zcD (f b.toNat).toInt = true
      · rw [if_pos t] at this; exact absurd this (by decide)
      · rw [if_neg t] at this; exact absurd this (by decide)
theorem zTk_1 {f : Nat → Int32} {n k b x : Int} (h : zTk f n k b x) (hk : ¬ k = 0) : ¬ n ≤ b := fun q => hk (h.1.trans (zkd_e q))
theorem zLi_wrong {f : Nat → Int32} {n b q : Int} {L : Int → zRes → Prop} {m : Nat} (hm : 0 < m) (h : L b (.bad q)) : zLines f n L m b (.bad q) := by
  obtain ⟨k, rfl⟩ : ∃ k, m = k + 1 := ⟨m - 1, by omega⟩
  exact .wrong h
theorem zLi_last {f : Nat → Int32} {n b b1 v : Int} {L : Int → zRes → Prop} {m : Nat} (hm : 0 < m) (h : L b (.ok b1)) (he : n ≤ b1) (hv : v = (m : Int) - 1) : zLines f n L m b (.ok v) := by
  obtain ⟨k, rfl⟩ : ∃ k, m = k + 1 := ⟨m - 1, by omega⟩
  rw [show v = (k : Int) by omega]
  exact .last h he
theorem zLi_nosep {f : Nat → Int32} {n b b1 : Int} {L : Int → zRes → Prop} {m : Nat} (hm : 0 < m) (h : L b (.ok b1)) (he : ¬ n ≤ b1) (hs : ¬ zisS f n b1 59) : zLines f n L m b (.bad b1) := by
  obtain ⟨k, rfl⟩ : ∃ k, m = k + 1 := ⟨m - 1, by omega⟩
  exact .nosep h he hs
theorem zLi_more {f : Nat → Int32} {n b b1 b2 : Int} {L : Int → zRes → Prop} {m m' : Nat} {r : zRes} (hm : m = m' + 1) (h : L b (.ok b1)) (he : ¬ n ≤ b1) (hs : zisS f n b1 59) (mv : zMv f n b1 b2) (k : zLines f n L m' b2 r) : zLines f n L m b r := by
  subst hm; have e := znt_of mv; subst e; exact .more h he hs k
theorem zLi_none {f : Nat → Int32} {n b : Int} {L : Int → zRes → Prop} {m : Nat} (hm : m = 0) : zLines f n L m b (.bad b) := by subst hm; exact .none
theorem zLi_at {f : Nat → Int32} {n b b0 : Int} {L : Int → zRes → Prop} {m m' : Nat} (e : m = m') : ∀ r, zLines f n L m b r → zLines f n L m' b r := fun _ h => e ▸ h
set_option maxRecDepth 100000 in
set_option maxHeartbeats 4000000 in
theorem c_lt_readSumF (l : Launch) (g : zG) (lt : Nat) (ta : Nat) (lo : Nat) (ab : Nat) (sz : Int32) (ln : Int32) (kd : Int32) (bg : Int32) (nx : Int32) (fb : Nat → Int32) (lc : Nat) (lz : Int32) (ll : Int32) (lm : Int32) (lg : Int32) (ld : Int32) (fc : Nat → Int32) (b_lz : 0 ≤ lz.toInt ∧ lz.toInt ≤ 400) (hln : 0 ≤ ln.toInt ∧ ln.toInt ≤ 400) (hnx : 0 ≤ nx.toInt ∧ nx.toInt ≤ 400) (hbg : 0 ≤ bg.toInt ∧ bg.toInt ≤ 400) (hkd : zKd kd.toInt bg.toInt nx.toInt) (hTk : zTk fb ln.toInt kd.toInt bg.toInt nx.toInt) : zM' g l yX2_readSum (Cond.code yX2_readSum cX2_readSum 4 (some .boolean) :: zB) ({ frames := 5, cells := 0, slots := 0, locals := 107 } : Room) [.ref lt] [bLT g lt ta lo, bTape g ta ab sz ln kd bg nx (-1) fb, bLaw g lo lc lz ll lm lg ld fc] (fun u : Int32 × Int32 × Int32 × Int32 × Int32 × (Nat → Int32) × Int32 => (fun (kd2 : Int32) (bg2 : Int32) (nx2 : Int32) (ft2 : Int32) (lz2 : Int32) (fc2 : Nat → Int32) (q : Int32) => some (.int q)) (u.1) (u.2.1) (u.2.2.1) (u.2.2.2.1) (u.2.2.2.2.1) (u.2.2.2.2.2.1) (u.2.2.2.2.2.2)) (fun u : Int32 × Int32 × Int32 × Int32 × Int32 × (Nat → Int32) × Int32 => (fun (kd2 : Int32) (bg2 : Int32) (nx2 : Int32) (ft2 : Int32) (lz2 : Int32) (fc2 : Nat → Int32) (q : Int32) => (0 ≤ lz2.toInt ∧ lz2.toInt ≤ 400) ∧ (-1 ≤ ft2.toInt) ∧ (0 ≤ nx2.toInt ∧ nx2.toInt ≤ 400) ∧ (0 ≤ bg2.toInt ∧ bg2.toInt ≤ 400) ∧ (zKd kd2.toInt bg2.toInt nx2.toInt) ∧ (zTk fb ln.toInt kd2.toInt bg2.toInt nx2.toInt) ∧ (q = 1 ∧ zSum fb ln.toInt bg.toInt (.ok bg2.toInt) ∧ (-1) = ft2 ∨ q = 0 ∧ zSum fb ln.toInt bg.toInt (.bad ft2.toInt))) (u.1) (u.2.1) (u.2.2.1) (u.2.2.2.1) (u.2.2.2.2.1) (u.2.2.2.2.2.1) (u.2.2.2.2.2.2)) (fun u : Int32 × Int32 × Int32 × Int32 × Int32 × (Nat → Int32) × Int32 => (fun (kd2 : Int32) (bg2 : Int32) (nx2 : Int32) (ft2 : Int32) (lz2 : Int32) (fc2 : Nat → Int32) (q : Int32) => [bLT g lt ta lo, bTape g ta ab sz ln kd2 bg2 nx2 ft2 fb, bLaw g lo lc lz2 ll lm lg ld fc2]) (u.1) (u.2.1) (u.2.2.1) (u.2.2.2.1) (u.2.2.2.2.1) (u.2.2.2.2.2.1) (u.2.2.2.2.2.2)) := by
  refine zM'.of (cc := cX2_readSum) (maxL := 4) (rt := (some .boolean)) (by decide) rfl (Nat.le_of_ble_eq_true rfl) ?_
  intro p e s m args below meth c A ls St hr hlocks hin hK hT hA hP hD hS hl
  obtain ⟨hx, hb, hml, hown, hts⟩ := id St
  have hl : lv_has ls 4 [(0, .ref lt)] := hl
  refine lv_iconst (v := 0) hx hb dX2_readSum_0 (by decide) ?_
  refine lv_istore_n (lv' := [(1, .int 0), (0, .ref lt)]) hx hb dX2_readSum_1 rfl hl (by decide) rfl (fun ls hl => ?_)
  have hl := lv_sub (l' := [(0, .ref lt), (1, .int 0)]) hl [1, 0] rfl
  have LP2_15 : ∀ (kf : Nat) (x_1 : Int32) (x_2 : Int32) (x_3 : Int32) (x_4 : Int32) (x_5 : Int32) (fc_6 : Nat → Int32), (0 ≤ x_1.toInt ∧ x_1.toInt ≤ 400) → (0 ≤ x_3.toInt ∧ x_3.toInt ≤ 400) → (0 ≤ x_4.toInt ∧ x_4.toInt ≤ 400) → (0 ≤ x_5.toInt ∧ x_5.toInt ≤ 400) → (zKd x_2.toInt x_3.toInt x_4.toInt) → (zTk fb ln.toInt x_2.toInt x_3.toInt x_4.toInt) → (x_1.toInt ≤ x_3.toInt) → (∀ r9, zSum fb ln.toInt x_3.toInt r9 → zSum fb ln.toInt bg.toInt r9) → ∀ (H : Heap) (locs : List Loc) (ls : Array Slot), ((401 - x_1.toInt).toNat) < kf → va_P g.1 vwCl (List.flatten [bLT g lt ta lo, bTape g ta ab sz ln x_2 x_3 x_4 (-1) fb, bLaw g lo lc x_5 ll lm lg ld fc_6]) H → va_D A (List.flatten [bLT g lt ta lo, bTape g ta ab sz ln x_2 x_3 x_4 (-1) fb, bLaw g lo lc x_5 ll lm lg ld fc_6]) → va_S A s.heap H locs → lv_has ls 4 [(0, .ref lt), (1, .int x_1)] → W p l e ({ frames := 5, cells := 0, slots := 0, locals := 107 } : Room) s m args below meth c H locs (0) (0) (zF g (fun u : Int32 × Int32 × Int32 × Int32 × Int32 × (Nat → Int32) × Int32 => (fun (kd2 : Int32) (bg2 : Int32) (nx2 : Int32) (ft2 : Int32) (lz2 : Int32) (fc2 : Nat → Int32) (q : Int32) => some (.int q)) (u.1) (u.2.1) (u.2.2.1) (u.2.2.2.1) (u.2.2.2.2.1) (u.2.2.2.2.2.1) (u.2.2.2.2.2.2)) (fun u : Int32 × Int32 × Int32 × Int32 × Int32 × (Nat → Int32) × Int32 => (fun (kd2 : Int32) (bg2 : Int32) (nx2 : Int32) (ft2 : Int32) (lz2 : Int32) (fc2 : Nat → Int32) (q : Int32) => (0 ≤ lz2.toInt ∧ lz2.toInt ≤ 400) ∧ (-1 ≤ ft2.toInt) ∧ (0 ≤ nx2.toInt ∧ nx2.toInt ≤ 400) ∧ (0 ≤ bg2.toInt ∧ bg2.toInt ≤ 400) ∧ (zKd kd2.toInt bg2.toInt nx2.toInt) ∧ (zTk fb ln.toInt kd2.toInt bg2.toInt nx2.toInt) ∧ (q = 1 ∧ zSum fb ln.toInt bg.toInt (.ok bg2.toInt) ∧ (-1) = ft2 ∨ q = 0 ∧ zSum fb ln.toInt bg.toInt (.bad ft2.toInt))) (u.1) (u.2.1) (u.2.2.1) (u.2.2.2.1) (u.2.2.2.2.1) (u.2.2.2.2.2.1) (u.2.2.2.2.2.2)) (fun u : Int32 × Int32 × Int32 × Int32 × Int32 × (Nat → Int32) × Int32 => (fun (kd2 : Int32) (bg2 : Int32) (nx2 : Int32) (ft2 : Int32) (lz2 : Int32) (fc2 : Nat → Int32) (q : Int32) => [bLT g lt ta lo, bTape g ta ab sz ln kd2 bg2 nx2 ft2 fb, bLaw g lo lc lz2 ll lm lg ld fc2]) (u.1) (u.2.1) (u.2.2.1) (u.2.2.2.1) (u.2.2.2.2.1) (u.2.2.2.2.2.1) (u.2.2.2.2.2.2)) ({ frames := 5, cells := 0, slots := 0, locals := 107 } : Room) below args s A) (F0 m 2 ls []) := by
    intro kf
    induction kf with
    | zero => intro x_1 x_2 x_3 x_4 x_5 fc_6 i7 i8 i9 i10 i11 i12 i13 i14 H locs ls hk; exact absurd hk (Nat.not_lt_zero _)
    | succ kf ih2_16 =>
      intro x_1 x_2 x_3 x_4 x_5 fc_6 i7 i8 i9 i10 i11 i12 i13 i14 H locs ls hk2_16 hP hD hS hl
      refine lv_iload_n hx hb dX2_readSum_2 rfl (lv_at hl 1 rfl) ?_
      refine lv_sipush (v := 400) hx hb dX2_readSum_3 (by decide) ?_
      refine lv_icmp_ge (tgt := 170) hx hb dX2_readSum_6 (by decide) (fun cb9 => ?_) (fun cb9 => ?_)
      · skip
        have c17 : 400 ≤ x_1.toInt := zle cb9 (by decide) rfl
        have n18 : 400 ≤ x_1.toInt := Int.le_trans (Int.le_refl _) c17
        refine lv_aload_n hx hb dX2_readSum_170 rfl (lv_at hl 0 rfl) ?_
        refine va_get (D := g.1) (ci := 2) (v := .ref ta) (C := RX2) (T := TX2) (N := 2) hx hb hts izRX2 hown hK hP 0 rfl rfl 0 (by decide) (hts _ k290) (fun x9 h9 => u_same (hts _ k291) x9 h9) rfl dX2_readSum_171 ?_
        refine mcallV' (g := g) (q0 := 0) (ci := 6) (As := []) (rest := []) St hK hT hA hP hD hS hl.1 [1] [0, 2] rfl rfl rfl (c_t_refuseF l g ta ab sz ln x_2 x_3 x_4 fb ) (cwV 0 hts (zgL (zl4 k303 k279 k280 k277) k269) rfl rfl rfl (by decide +kernel) ⟨Nat.le_of_ble_eq_true rfl, Nat.le_of_ble_eq_true rfl⟩) rfl rfl rfl rfl (Nat.le_of_ble_eq_true rfl) dX2_readSum_174 ⟨(Nat.le_of_ble_eq_true rfl), (Nat.le_of_ble_eq_true rfl)⟩ (fun _u H locs hq19 hP hD hS => ?_)
        have hP : va_P g.1 vwCl (List.flatten [bLT g lt ta lo, bLaw g lo lc x_5 ll lm lg ld fc_6, bTape g ta ab sz ln x_2 x_3 x_4 x_3 fb]) H := hP
        have hD : va_D A (List.flatten [bLT g lt ta lo, bLaw g lo lc x_5 ll lm lg ld fc_6, bTape g ta ab sz ln x_2 x_3 x_4 x_3 fb]) := hD
        refine W.widen (k := 0) (n := 0) (Nat.le_of_ble_eq_true rfl) (Nat.le_of_ble_eq_true rfl) ?_
        refine W.eq (g2 := F0 m 177 ls [.int 0]) rfl ?_
        have hP : va_P g.1 vwCl (List.flatten [bLT g lt ta lo, bLaw g lo lc x_5 ll lm lg ld fc_6, bTape g ta ab sz ln x_2 x_3 x_4 x_3 fb]) H := hP
        have hD : va_D A (List.flatten [bLT g lt ta lo, bLaw g lo lc x_5 ll lm lg ld fc_6, bTape g ta ab sz ln x_2 x_3 x_4 x_3 fb]) := hD
        obtain ⟨hP, hD⟩ := zord (g := g) (Bs' := [bLT g lt ta lo, bTape g ta ab sz ln x_2 x_3 x_4 x_3 fb, bLaw g lo lc x_5 ll lm lg ld fc_6]) [0, 2, 1] rfl rfl hP hD
        exact mret_z hx hb hr hlocks hS (Nat.le_of_ble_eq_true rfl) (Nat.le_of_ble_eq_true rfl) dX2_readSum_177 (x_2, x_3, x_4, x_3, x_5, fc_6, (0 : Int32)) rfl (by decide) (show (0 ≤ x_5.toInt ∧ x_5.toInt ≤ 400) ∧ (-1 ≤ x_3.toInt) ∧ (0 ≤ x_4.toInt ∧ x_4.toInt ≤ 400) ∧ (0 ≤ x_3.toInt ∧ x_3.toInt ≤ 400) ∧ (zKd x_2.toInt x_3.toInt x_4.toInt) ∧ (zTk fb ln.toInt x_2.toInt x_3.toInt x_4.toInt) ∧ (0 = 1 ∧ zSum fb ln.toInt bg.toInt (.ok x_3.toInt) ∧ (-1) = x_3 ∨ 0 = 0 ∧ zSum fb ln.toInt bg.toInt (.bad x_3.toInt)) from ⟨(by first | assumption | omega | exact Or.inl (by decide) | exact Or.inr (by omega)), (by first | decide | omega), (by first | assumption | omega | exact Or.inl (by decide) | exact Or.inr (by omega)), (by first | assumption | omega | exact Or.inl (by decide) | exact Or.inr (by omega)), (by first | assumption | omega | exact Or.inl (by decide) | exact Or.inr (by omega)), (by assumption), (Or.inr ⟨rfl, i14 _ (.wrong (zPt_e (by omega)))⟩)⟩) hP hD
      · skip
        have c20 : x_1.toInt < 400 := zlti (Int32.not_le.mp cb9) rfl (by decide)
        have n21 : x_1.toInt ≤ 399 := zL1 (b := 400) c20 (Int.le_refl _) (by decide)
        refine lv_aload_n hx hb dX2_readSum_9 rfl (lv_at hl 0 rfl) ?_
        refine va_get (D := g.1) (ci := 2) (v := .ref ta) (C := RX2) (T := TX2) (N := 2) hx hb hts izRX2 hown hK hP 0 rfl rfl 0 (by decide) (hts _ k290) (fun x9 h9 => u_same (hts _ k291) x9 h9) rfl dX2_readSum_10 ?_
        refine va_ldcS (q := g.2 26) hx hb hown (zra8 hT.2.1) dX2_readSum_13 ?_
        refine mcallV' (g := g) (q0 := 0) (ci := 6) (As := [.ref (g.2 26)]) (rest := []) St hK hT hA hP hD hS hl.1 [1] [0, 2] rfl rfl rfl (c_t_isWordF l g ta ab sz ln x_2 x_3 x_4 (-1) fb (g.2 26) 8 zqa8 hln i9 i8 i11 i12 rfl zla8 zna8 (zlitB zla8)) (cwV 1 hts (zgL (zl4 k292 k282 k283 k277) k268) rfl rfl rfl (by decide +kernel) ⟨Nat.le_of_ble_eq_true rfl, Nat.le_of_ble_eq_true rfl⟩) rfl rfl rfl rfl (Nat.le_of_ble_eq_true rfl) dX2_readSum_15 ⟨(Nat.le_of_ble_eq_true rfl), (Nat.le_of_ble_eq_true rfl)⟩ (fun r_22 H locs hq23 hP hD hS => ?_)
        replace hq23 : (r_22 = 1 ∧ zisW fb ln.toInt x_3.toInt zqa8.2.2.2 ∨ r_22 = 0 ∧ ¬ zisW fb ln.toInt x_3.toInt zqa8.2.2.2) := hq23
        have hP : va_P g.1 vwCl (List.flatten [bLT g lt ta lo, bLaw g lo lc x_5 ll lm lg ld fc_6, bTape g ta ab sz ln x_2 x_3 x_4 (-1) fb]) H := hP
        have hD : va_D A (List.flatten [bLT g lt ta lo, bLaw g lo lc x_5 ll lm lg ld fc_6, bTape g ta ab sz ln x_2 x_3 x_4 (-1) fb]) := hD
        refine W.widen (k := 0) (n := 0) (Nat.le_of_ble_eq_true rfl) (Nat.le_of_ble_eq_true rfl) ?_
        refine W.eq (g2 := F0 m 18 ls [.int r_22]) rfl ?_
        rcases hq23 with ⟨rfl, hq23_k⟩ | ⟨rfl, hq23_k⟩
        · skip
          refine lv_if_eq (tgt := 25) hx hb dX2_readSum_18 (by decide) (fun c24 => absurd c24 (by decide)) (fun _ => ?_)
          refine lv_iconst (v := 1) hx hb dX2_readSum_21 (by decide) ?_
          refine lv_goto (tgt := 107) hx hb dX2_readSum_22 (by decide) ?_
          refine lv_istore_n (lv' := [(2, .int 1), (0, .ref lt), (1, .int x_1)]) hx hb dX2_readSum_107 rfl hl (by decide) rfl (fun ls hl => ?_)
          refine lv_iconst (v := 0) hx hb dX2_readSum_108 (by decide) ?_
          refine lv_istore_n (lv' := [(3, .int 0), (2, .int 1), (0, .ref lt), (1, .int x_1)]) hx hb dX2_readSum_109 rfl hl (by decide) rfl (fun ls hl => ?_)
          refine lv_iload_n hx hb dX2_readSum_110 rfl (lv_at hl 1 rfl) ?_
          refine lv_if_ne (tgt := 133) hx hb dX2_readSum_111 (by decide) (fun _ => ?_) (fun c25 => absurd c25 (by decide))
          refine lv_aload_n hx hb dX2_readSum_133 rfl (lv_at hl 2 rfl) ?_
          refine va_get (D := g.1) (ci := 2) (v := .ref ta) (C := RX2) (T := TX2) (N := 2) hx hb hts izRX2 hown hK hP 0 rfl rfl 0 (by decide) (hts _ k290) (fun x9 h9 => u_same (hts _ k291) x9 h9) rfl dX2_readSum_134 ?_
          refine mcallV' (g := g) (q0 := 0) (ci := 6) (As := []) (rest := []) St hK hT hA hP hD hS hl.1 [2] [0, 1] rfl rfl rfl (c_t_stepF l g ta ab sz ln x_2 x_3 x_4 (-1) fb hln i9) (cwV 0 hts (zgL (zl4 k296 k275 k276 k277) k271) rfl rfl rfl (by decide +kernel) ⟨Nat.le_of_ble_eq_true rfl, Nat.le_of_ble_eq_true rfl⟩) rfl rfl rfl rfl (Nat.le_of_ble_eq_true rfl) dX2_readSum_137 ⟨(Nat.le_of_ble_eq_true rfl), (Nat.le_of_ble_eq_true rfl)⟩ (fun u_ H locs hq29 hP hD hS => ?_)
          obtain ⟨kd2_26, bg2_27, nx2_28⟩ := u_
          replace hq29 : (0 ≤ nx2_28.toInt ∧ nx2_28.toInt ≤ 400) ∧ (0 ≤ bg2_27.toInt ∧ bg2_27.toInt ≤ 400) ∧ (zKd kd2_26.toInt bg2_27.toInt nx2_28.toInt) ∧ (zSk fb ln.toInt x_4.toInt bg2_27.toInt) ∧ (zTk fb ln.toInt kd2_26.toInt bg2_27.toInt nx2_28.toInt) := hq29
          have hP : va_P g.1 vwCl (List.flatten [bLT g lt ta lo, bLaw g lo lc x_5 ll lm lg ld fc_6, bTape g ta ab sz ln kd2_26 bg2_27 nx2_28 (-1) fb]) H := hP
          have hD : va_D A (List.flatten [bLT g lt ta lo, bLaw g lo lc x_5 ll lm lg ld fc_6, bTape g ta ab sz ln kd2_26 bg2_27 nx2_28 (-1) fb]) := hD
          refine W.widen (k := 0) (n := 0) (Nat.le_of_ble_eq_true rfl) (Nat.le_of_ble_eq_true rfl) ?_
          refine W.eq (g2 := F0 m 140 ls []) rfl ?_
          obtain ⟨hq29_0, hq29_1, hq29_2, hq29_3, hq29_4⟩ := hq29
          refine lv_aload_n hx hb dX2_readSum_140 rfl (lv_at hl 2 rfl) ?_
          refine va_get (D := g.1) (ci := 2) (v := .ref lo) (C := RX2) (T := TX2) (N := 2) hx hb hts izRX2 hown hK hP 0 rfl rfl 1 (by decide) (hts _ k210) (fun _ h9 => h9) rfl dX2_readSum_141 ?_
          refine lv_iload_n hx hb dX2_readSum_144 rfl (lv_at hl 1 rfl) ?_
          refine lv_iload_n hx hb dX2_readSum_145 rfl (lv_at hl 0 rfl) ?_
          refine mcallV' (g := g) (q0 := 0) (ci := 1) (As := [.int 1, .int 0]) (rest := []) St hK hT hA hP hD hS hl.1 [1] [0, 2] rfl rfl rfl (c_l_put l g lo lc x_5 ll lm lg ld fc_6 1 0 i10) (cwV 2 hts (zgL (zl4 k297 k298 k299 k85) k202) rfl rfl rfl (by decide +kernel) ⟨Nat.le_of_ble_eq_true rfl, Nat.le_of_ble_eq_true rfl⟩) rfl rfl rfl rfl (Nat.le_of_ble_eq_true rfl) dX2_readSum_146 ⟨(Nat.le_of_ble_eq_true rfl), (Nat.le_of_ble_eq_true rfl)⟩ (fun u_ H locs hq33 hP hD hS => ?_)
          obtain ⟨lz2_30, fc2_31, q_32⟩ := u_
          replace hq33 : (0 ≤ lz2_30.toInt ∧ lz2_30.toInt ≤ 400) := hq33
          have hP : va_P g.1 vwCl (List.flatten [bLT g lt ta lo, bTape g ta ab sz ln kd2_26 bg2_27 nx2_28 (-1) fb, bLaw g lo lc lz2_30 ll lm lg ld fc2_31]) H := hP
          have hD : va_D A (List.flatten [bLT g lt ta lo, bTape g ta ab sz ln kd2_26 bg2_27 nx2_28 (-1) fb, bLaw g lo lc lz2_30 ll lm lg ld fc2_31]) := hD
          refine W.widen (k := 0) (n := 0) (Nat.le_of_ble_eq_true rfl) (Nat.le_of_ble_eq_true rfl) ?_
          refine W.eq (g2 := F0 m 149 ls [.int q_32]) rfl ?_
          refine lv_pop hx hb dX2_readSum_149 rfl ?_
          refine lv_aload_n hx hb dX2_readSum_150 rfl (lv_at hl 2 rfl) ?_
          refine va_get (D := g.1) (ci := 2) (v := .ref ta) (C := RX2) (T := TX2) (N := 2) hx hb hts izRX2 hown hK hP 0 rfl rfl 0 (by decide) (hts _ k290) (fun x9 h9 => u_same (hts _ k291) x9 h9) rfl dX2_readSum_151 ?_
          refine lv_bipush (v := 43) hx hb dX2_readSum_154 (by decide) ?_
          have hL43 : (43 : Int32).toInt = 43 := by decide
          refine mcallV' (g := g) (q0 := 0) (ci := 6) (As := [.int 43]) (rest := []) St hK hT hA hP hD hS hl.1 [1] [0, 2] rfl rfl rfl (c_t_takeSignF l g ta ab sz ln kd2_26 bg2_27 nx2_28 (-1) fb 43 hln hq29_0 hq29_1 hq29_2 hq29_4) (cwV 1 hts (zgL (zl4 k300 k301 k302 k277) k286) rfl rfl rfl (by decide +kernel) ⟨Nat.le_of_ble_eq_true rfl, Nat.le_of_ble_eq_true rfl⟩) rfl rfl rfl rfl (Nat.le_of_ble_eq_true rfl) dX2_readSum_156 ⟨(Nat.le_of_ble_eq_true rfl), (Nat.le_of_ble_eq_true rfl)⟩ (fun u_ H locs hq38 hP hD hS => ?_)
          obtain ⟨kd2_34, bg2_35, nx2_36, q_37⟩ := u_
          replace hq38 : (0 ≤ nx2_36.toInt ∧ nx2_36.toInt ≤ 400) ∧ (0 ≤ bg2_35.toInt ∧ bg2_35.toInt ≤ 400) ∧ (zKd kd2_34.toInt bg2_35.toInt nx2_36.toInt) ∧ (zTk fb ln.toInt kd2_34.toInt bg2_35.toInt nx2_36.toInt) ∧ (q_37 = 1 ∧ zisS fb ln.toInt bg2_27.toInt (43 : Int32).toInt ∧ zMv fb ln.toInt bg2_27.toInt bg2_35.toInt ∨ q_37 = 0 ∧ ¬ zisS fb ln.toInt bg2_27.toInt (43 : Int32).toInt ∧ kd2_26 = kd2_34 ∧ bg2_27 = bg2_35 ∧ nx2_28 = nx2_36) := hq38
          have hP : va_P g.1 vwCl (List.flatten [bLT g lt ta lo, bLaw g lo lc lz2_30 ll lm lg ld fc2_31, bTape g ta ab sz ln kd2_34 bg2_35 nx2_36 (-1) fb]) H := hP
          have hD : va_D A (List.flatten [bLT g lt ta lo, bLaw g lo lc lz2_30 ll lm lg ld fc2_31, bTape g ta ab sz ln kd2_34 bg2_35 nx2_36 (-1) fb]) := hD
          refine W.widen (k := 0) (n := 0) (Nat.le_of_ble_eq_true rfl) (Nat.le_of_ble_eq_true rfl) ?_
          refine W.eq (g2 := F0 m 159 ls [.int q_37]) rfl ?_
          obtain ⟨hq38_0, hq38_1, hq38_2, hq38_3, hq38_4⟩ := hq38
          rcases hq38_4 with ⟨rfl, hq38_k, hq38_km⟩ | ⟨rfl, hq38_k, rfl, rfl, rfl⟩
          · skip
            refine lv_if_ne (tgt := 164) hx hb dX2_readSum_159 (by decide) (fun _ => ?_) (fun c39 => absurd c39 (by decide))
            have w40 : x_3.toInt < bg2_27.toInt := zMv_lt (f := fb) (n := ln.toInt) (by omega) (zPt_z (Or.inl (Or.inl (hq23_k)))) (zMv_mk i12 hq29_3)
            have w41 : bg2_27.toInt < bg2_35.toInt := zMv_lt (f := fb) (n := ln.toInt) (by omega) (zisS_z hq38_k) hq38_km
            have w42 : ∀ r9, zSum fb ln.toInt bg2_35.toInt r9 → zSum fb ln.toInt bg.toInt r9 := fun r9 h9 => i14 r9 (zSum_more (by decide) (Or.inl (Or.inl (hq23_k))) (zMv_mk i12 hq29_3) hq38_k hq38_km h9)
            refine ziinc3 (n' := 1) (a' := 1) (b' := 400) (lv' := fun v9 => [(1, .int v9), (3, .int 0), (2, .int 1), (0, .ref lt)]) hx hb dX2_readSum_164 hl (k := 3) rfl (by decide) (fun _ => rfl) (zaddK (i := x_1.toInt) (j := 1) rfl (by decide) i7.1 n21 (Int.le_refl _) (Int.le_refl _) (by decide)) (fun x_43 ls hx_43 hl => ?_)
            refine lv_goto (tgt := 2) hx hb dX2_readSum_167 (by decide) ?_
            have hl := lv_sub (l' := [(0, .ref lt), (1, .int x_43), (2, .int 1), (3, .int 0)]) hl [3, 0, 2, 1] rfl
            have hP : va_P g.1 vwCl (List.flatten [bLT g lt ta lo, bLaw g lo lc lz2_30 ll lm lg ld fc2_31, bTape g ta ab sz ln kd2_34 bg2_35 nx2_36 (-1) fb]) H := hP
            have hD : va_D A (List.flatten [bLT g lt ta lo, bLaw g lo lc lz2_30 ll lm lg ld fc2_31, bTape g ta ab sz ln kd2_34 bg2_35 nx2_36 (-1) fb]) := hD
            obtain ⟨hP, hD⟩ := zord (g := g) (Bs' := [bLT g lt ta lo, bTape g ta ab sz ln kd2_34 bg2_35 nx2_36 (-1) fb, bLaw g lo lc lz2_30 ll lm lg ld fc2_31]) [0, 2, 1] rfl rfl hP hD
            have hP : va_P g.1 vwCl (List.flatten [bLT g lt ta lo, bTape g ta ab sz ln kd2_34 bg2_35 nx2_36 (-1) fb, bLaw g lo lc lz2_30 ll lm lg ld fc2_31]) H := hP
            have hD : va_D A (List.flatten [bLT g lt ta lo, bTape g ta ab sz ln kd2_34 bg2_35 nx2_36 (-1) fb, bLaw g lo lc lz2_30 ll lm lg ld fc2_31]) := hD
            exact ih2_16 x_43 kd2_34 bg2_35 nx2_36 lz2_30 fc2_31 ⟨(Int.le_trans (by decide) hx_43.2.1), hx_43.2.2⟩ ⟨hq38_1.1, hq38_1.2⟩ ⟨hq38_0.1, hq38_0.2⟩ ⟨hq33.1, hq33.2⟩ hq38_2 hq38_3 (by first | omega | assumption | decide) w42 H _ ls (zmK hx_43.1 (by decide) n21 (by decide) hk2_16)  hP hD hS (lv_sub hl [0, 1] rfl)
          · skip
            refine lv_if_ne (tgt := 164) hx hb dX2_readSum_159 (by decide) (fun c44 => absurd (by decide) c44) (fun _ => ?_)
            refine lv_iconst (v := 1) hx hb dX2_readSum_162 (by decide) ?_
            have hP : va_P g.1 vwCl (List.flatten [bLT g lt ta lo, bLaw g lo lc lz2_30 ll lm lg ld fc2_31, bTape g ta ab sz ln kd2_26 bg2_27 nx2_28 (-1) fb]) H := hP
            have hD : va_D A (List.flatten [bLT g lt ta lo, bLaw g lo lc lz2_30 ll lm lg ld fc2_31, bTape g ta ab sz ln kd2_26 bg2_27 nx2_28 (-1) fb]) := hD
            obtain ⟨hP, hD⟩ := zord (g := g) (Bs' := [bLT g lt ta lo, bTape g ta ab sz ln kd2_26 bg2_27 nx2_28 (-1) fb, bLaw g lo lc lz2_30 ll lm lg ld fc2_31]) [0, 2, 1] rfl rfl hP hD
            exact mret_z hx hb hr hlocks hS (Nat.le_of_ble_eq_true rfl) (Nat.le_of_ble_eq_true rfl) dX2_readSum_163 (kd2_26, bg2_27, nx2_28, -1, lz2_30, fc2_31, (1 : Int32)) rfl (by decide) (show (0 ≤ lz2_30.toInt ∧ lz2_30.toInt ≤ 400) ∧ (-1 ≤ ((-1) : Int32).toInt) ∧ (0 ≤ nx2_28.toInt ∧ nx2_28.toInt ≤ 400) ∧ (0 ≤ bg2_27.toInt ∧ bg2_27.toInt ≤ 400) ∧ (zKd kd2_26.toInt bg2_27.toInt nx2_28.toInt) ∧ (zTk fb ln.toInt kd2_26.toInt bg2_27.toInt nx2_28.toInt) ∧ (1 = 1 ∧ zSum fb ln.toInt bg.toInt (.ok bg2_27.toInt) ∧ (-1) = (-1) ∨ 1 = 0 ∧ zSum fb ln.toInt bg.toInt (.bad ((-1) : Int32).toInt)) from ⟨(by first | assumption | omega | exact Or.inl (by decide) | exact Or.inr (by omega)), (by decide), (by first | assumption | omega | exact Or.inl (by decide) | exact Or.inr (by omega)), (by first | assumption | omega | exact Or.inl (by decide) | exact Or.inr (by omega)), (by first | assumption | omega | exact Or.inl (by decide) | exact Or.inr (by omega)), (by assumption), (Or.inl ⟨rfl, i14 _ (zSum_one (by decide) (Or.inl (Or.inl (hq23_k))) (zMv_mk i12 hq29_3) hq38_k), rfl⟩)⟩) hP hD
        · skip
          refine lv_if_eq (tgt := 25) hx hb dX2_readSum_18 (by decide) (fun _ => ?_) (fun c45 => absurd (by decide) c45)
          refine lv_aload_n hx hb dX2_readSum_25 rfl (lv_at hl 0 rfl) ?_
          refine va_get (D := g.1) (ci := 2) (v := .ref ta) (C := RX2) (T := TX2) (N := 2) hx hb hts izRX2 hown hK hP 0 rfl rfl 0 (by decide) (hts _ k290) (fun x9 h9 => u_same (hts _ k291) x9 h9) rfl dX2_readSum_26 ?_
          refine va_ldcS (q := g.2 28) hx hb hown (zra9 hT.2.1) dX2_readSum_29 ?_
          refine mcallV' (g := g) (q0 := 0) (ci := 6) (As := [.ref (g.2 28)]) (rest := []) St hK hT hA hP hD hS hl.1 [2] [0, 1] rfl rfl rfl (c_t_isWordF l g ta ab sz ln x_2 x_3 x_4 (-1) fb (g.2 28) 9 zqa9 hln i9 i8 i11 i12 rfl zla9 zna9 (zlitB zla9)) (cwV 1 hts (zgL (zl4 k292 k282 k283 k277) k268) rfl rfl rfl (by decide +kernel) ⟨Nat.le_of_ble_eq_true rfl, Nat.le_of_ble_eq_true rfl⟩) rfl rfl rfl rfl (Nat.le_of_ble_eq_true rfl) dX2_readSum_31 ⟨(Nat.le_of_ble_eq_true rfl), (Nat.le_of_ble_eq_true rfl)⟩ (fun r_46 H locs hq47 hP hD hS => ?_)
          replace hq47 : (r_46 = 1 ∧ zisW fb ln.toInt x_3.toInt zqa9.2.2.2 ∨ r_46 = 0 ∧ ¬ zisW fb ln.toInt x_3.toInt zqa9.2.2.2) := hq47
          have hP : va_P g.1 vwCl (List.flatten [bLT g lt ta lo, bLaw g lo lc x_5 ll lm lg ld fc_6, bTape g ta ab sz ln x_2 x_3 x_4 (-1) fb]) H := hP
          have hD : va_D A (List.flatten [bLT g lt ta lo, bLaw g lo lc x_5 ll lm lg ld fc_6, bTape g ta ab sz ln x_2 x_3 x_4 (-1) fb]) := hD
          refine W.widen (k := 0) (n := 0) (Nat.le_of_ble_eq_true rfl) (Nat.le_of_ble_eq_true rfl) ?_
          refine W.eq (g2 := F0 m 34 ls [.int r_46]) rfl ?_
          rcases hq47 with ⟨rfl, hq47_k⟩ | ⟨rfl, hq47_k⟩
          · skip
            refine lv_if_eq (tgt := 41) hx hb dX2_readSum_34 (by decide) (fun c48 => absurd c48 (by decide)) (fun _ => ?_)
            refine lv_iconst (v := 2) hx hb dX2_readSum_37 (by decide) ?_
            refine lv_goto (tgt := 107) hx hb dX2_readSum_38 (by decide) ?_
            refine lv_istore_n (lv' := [(2, .int 2), (0, .ref lt), (1, .int x_1)]) hx hb dX2_readSum_107 rfl hl (by decide) rfl (fun ls hl => ?_)
            refine lv_iconst (v := 0) hx hb dX2_readSum_108 (by decide) ?_
            refine lv_istore_n (lv' := [(3, .int 0), (2, .int 2), (0, .ref lt), (1, .int x_1)]) hx hb dX2_readSum_109 rfl hl (by decide) rfl (fun ls hl => ?_)
            refine lv_iload_n hx hb dX2_readSum_110 rfl (lv_at hl 1 rfl) ?_
            refine lv_if_ne (tgt := 133) hx hb dX2_readSum_111 (by decide) (fun _ => ?_) (fun c49 => absurd c49 (by decide))
            refine lv_aload_n hx hb dX2_readSum_133 rfl (lv_at hl 2 rfl) ?_
            refine va_get (D := g.1) (ci := 2) (v := .ref ta) (C := RX2) (T := TX2) (N := 2) hx hb hts izRX2 hown hK hP 0 rfl rfl 0 (by decide) (hts _ k290) (fun x9 h9 => u_same (hts _ k291) x9 h9) rfl dX2_readSum_134 ?_
            refine mcallV' (g := g) (q0 := 0) (ci := 6) (As := []) (rest := []) St hK hT hA hP hD hS hl.1 [2] [0, 1] rfl rfl rfl (c_t_stepF l g ta ab sz ln x_2 x_3 x_4 (-1) fb hln i9) (cwV 0 hts (zgL (zl4 k296 k275 k276 k277) k271) rfl rfl rfl (by decide +kernel) ⟨Nat.le_of_ble_eq_true rfl, Nat.le_of_ble_eq_true rfl⟩) rfl rfl rfl rfl (Nat.le_of_ble_eq_true rfl) dX2_readSum_137 ⟨(Nat.le_of_ble_eq_true rfl), (Nat.le_of_ble_eq_true rfl)⟩ (fun u_ H locs hq53 hP hD hS => ?_)
            obtain ⟨kd2_50, bg2_51, nx2_52⟩ := u_
            replace hq53 : (0 ≤ nx2_52.toInt ∧ nx2_52.toInt ≤ 400) ∧ (0 ≤ bg2_51.toInt ∧ bg2_51.toInt ≤ 400) ∧ (zKd kd2_50.toInt bg2_51.toInt nx2_52.toInt) ∧ (zSk fb ln.toInt x_4.toInt bg2_51.toInt) ∧ (zTk fb ln.toInt kd2_50.toInt bg2_51.toInt nx2_52.toInt) := hq53
            have hP : va_P g.1 vwCl (List.flatten [bLT g lt ta lo, bLaw g lo lc x_5 ll lm lg ld fc_6, bTape g ta ab sz ln kd2_50 bg2_51 nx2_52 (-1) fb]) H := hP
            have hD : va_D A (List.flatten [bLT g lt ta lo, bLaw g lo lc x_5 ll lm lg ld fc_6, bTape g ta ab sz ln kd2_50 bg2_51 nx2_52 (-1) fb]) := hD
            refine W.widen (k := 0) (n := 0) (Nat.le_of_ble_eq_true rfl) (Nat.le_of_ble_eq_true rfl) ?_
            refine W.eq (g2 := F0 m 140 ls []) rfl ?_
            obtain ⟨hq53_0, hq53_1, hq53_2, hq53_3, hq53_4⟩ := hq53
            refine lv_aload_n hx hb dX2_readSum_140 rfl (lv_at hl 2 rfl) ?_
            refine va_get (D := g.1) (ci := 2) (v := .ref lo) (C := RX2) (T := TX2) (N := 2) hx hb hts izRX2 hown hK hP 0 rfl rfl 1 (by decide) (hts _ k210) (fun _ h9 => h9) rfl dX2_readSum_141 ?_
            refine lv_iload_n hx hb dX2_readSum_144 rfl (lv_at hl 1 rfl) ?_
            refine lv_iload_n hx hb dX2_readSum_145 rfl (lv_at hl 0 rfl) ?_
            refine mcallV' (g := g) (q0 := 0) (ci := 1) (As := [.int 2, .int 0]) (rest := []) St hK hT hA hP hD hS hl.1 [1] [0, 2] rfl rfl rfl (c_l_put l g lo lc x_5 ll lm lg ld fc_6 2 0 i10) (cwV 2 hts (zgL (zl4 k297 k298 k299 k85) k202) rfl rfl rfl (by decide +kernel) ⟨Nat.le_of_ble_eq_true rfl, Nat.le_of_ble_eq_true rfl⟩) rfl rfl rfl rfl (Nat.le_of_ble_eq_true rfl) dX2_readSum_146 ⟨(Nat.le_of_ble_eq_true rfl), (Nat.le_of_ble_eq_true rfl)⟩ (fun u_ H locs hq57 hP hD hS => ?_)
            obtain ⟨lz2_54, fc2_55, q_56⟩ := u_
            replace hq57 : (0 ≤ lz2_54.toInt ∧ lz2_54.toInt ≤ 400) := hq57
            have hP : va_P g.1 vwCl (List.flatten [bLT g lt ta lo, bTape g ta ab sz ln kd2_50 bg2_51 nx2_52 (-1) fb, bLaw g lo lc lz2_54 ll lm lg ld fc2_55]) H := hP
            have hD : va_D A (List.flatten [bLT g lt ta lo, bTape g ta ab sz ln kd2_50 bg2_51 nx2_52 (-1) fb, bLaw g lo lc lz2_54 ll lm lg ld fc2_55]) := hD
            refine W.widen (k := 0) (n := 0) (Nat.le_of_ble_eq_true rfl) (Nat.le_of_ble_eq_true rfl) ?_
            refine W.eq (g2 := F0 m 149 ls [.int q_56]) rfl ?_
            refine lv_pop hx hb dX2_readSum_149 rfl ?_
            refine lv_aload_n hx hb dX2_readSum_150 rfl (lv_at hl 2 rfl) ?_
            refine va_get (D := g.1) (ci := 2) (v := .ref ta) (C := RX2) (T := TX2) (N := 2) hx hb hts izRX2 hown hK hP 0 rfl rfl 0 (by decide) (hts _ k290) (fun x9 h9 => u_same (hts _ k291) x9 h9) rfl dX2_readSum_151 ?_
            refine lv_bipush (v := 43) hx hb dX2_readSum_154 (by decide) ?_
            have hL43 : (43 : Int32).toInt = 43 := by decide
            refine mcallV' (g := g) (q0 := 0) (ci := 6) (As := [.int 43]) (rest := []) St hK hT hA hP hD hS hl.1 [1] [0, 2] rfl rfl rfl (c_t_takeSignF l g ta ab sz ln kd2_50 bg2_51 nx2_52 (-1) fb 43 hln hq53_0 hq53_1 hq53_2 hq53_4) (cwV 1 hts (zgL (zl4 k300 k301 k302 k277) k286) rfl rfl rfl (by decide +kernel) ⟨Nat.le_of_ble_eq_true rfl, Nat.le_of_ble_eq_true rfl⟩) rfl rfl rfl rfl (Nat.le_of_ble_eq_true rfl) dX2_readSum_156 ⟨(Nat.le_of_ble_eq_true rfl), (Nat.le_of_ble_eq_true rfl)⟩ (fun u_ H locs hq62 hP hD hS => ?_)
            obtain ⟨kd2_58, bg2_59, nx2_60, q_61⟩ := u_
            replace hq62 : (0 ≤ nx2_60.toInt ∧ nx2_60.toInt ≤ 400) ∧ (0 ≤ bg2_59.toInt ∧ bg2_59.toInt ≤ 400) ∧ (zKd kd2_58.toInt bg2_59.toInt nx2_60.toInt) ∧ (zTk fb ln.toInt kd2_58.toInt bg2_59.toInt nx2_60.toInt) ∧ (q_61 = 1 ∧ zisS fb ln.toInt bg2_51.toInt (43 : Int32).toInt ∧ zMv fb ln.toInt bg2_51.toInt bg2_59.toInt ∨ q_61 = 0 ∧ ¬ zisS fb ln.toInt bg2_51.toInt (43 : Int32).toInt ∧ kd2_50 = kd2_58 ∧ bg2_51 = bg2_59 ∧ nx2_52 = nx2_60) := hq62
            have hP : va_P g.1 vwCl (List.flatten [bLT g lt ta lo, bLaw g lo lc lz2_54 ll lm lg ld fc2_55, bTape g ta ab sz ln kd2_58 bg2_59 nx2_60 (-1) fb]) H := hP
            have hD : va_D A (List.flatten [bLT g lt ta lo, bLaw g lo lc lz2_54 ll lm lg ld fc2_55, bTape g ta ab sz ln kd2_58 bg2_59 nx2_60 (-1) fb]) := hD
            refine W.widen (k := 0) (n := 0) (Nat.le_of_ble_eq_true rfl) (Nat.le_of_ble_eq_true rfl) ?_
            refine W.eq (g2 := F0 m 159 ls [.int q_61]) rfl ?_
            obtain ⟨hq62_0, hq62_1, hq62_2, hq62_3, hq62_4⟩ := hq62
            rcases hq62_4 with ⟨rfl, hq62_k, hq62_km⟩ | ⟨rfl, hq62_k, rfl, rfl, rfl⟩
            · skip
              refine lv_if_ne (tgt := 164) hx hb dX2_readSum_159 (by decide) (fun _ => ?_) (fun c63 => absurd c63 (by decide))
              have w64 : x_3.toInt < bg2_51.toInt := zMv_lt (f := fb) (n := ln.toInt) (by omega) (zPt_z (Or.inl (Or.inr (Or.inl (hq47_k))))) (zMv_mk i12 hq53_3)
              have w65 : bg2_51.toInt < bg2_59.toInt := zMv_lt (f := fb) (n := ln.toInt) (by omega) (zisS_z hq62_k) hq62_km
              have w66 : ∀ r9, zSum fb ln.toInt bg2_59.toInt r9 → zSum fb ln.toInt bg.toInt r9 := fun r9 h9 => i14 r9 (zSum_more (by decide) (Or.inl (Or.inr (Or.inl (hq47_k)))) (zMv_mk i12 hq53_3) hq62_k hq62_km h9)
              refine ziinc3 (n' := 1) (a' := 1) (b' := 400) (lv' := fun v9 => [(1, .int v9), (3, .int 0), (2, .int 2), (0, .ref lt)]) hx hb dX2_readSum_164 hl (k := 3) rfl (by decide) (fun _ => rfl) (zaddK (i := x_1.toInt) (j := 1) rfl (by decide) i7.1 n21 (Int.le_refl _) (Int.le_refl _) (by decide)) (fun x_67 ls hx_67 hl => ?_)
              refine lv_goto (tgt := 2) hx hb dX2_readSum_167 (by decide) ?_
              have hl := lv_sub (l' := [(0, .ref lt), (1, .int x_67), (2, .int 2), (3, .int 0)]) hl [3, 0, 2, 1] rfl
              have hP : va_P g.1 vwCl (List.flatten [bLT g lt ta lo, bLaw g lo lc lz2_54 ll lm lg ld fc2_55, bTape g ta ab sz ln kd2_58 bg2_59 nx2_60 (-1) fb]) H := hP
              have hD : va_D A (List.flatten [bLT g lt ta lo, bLaw g lo lc lz2_54 ll lm lg ld fc2_55, bTape g ta ab sz ln kd2_58 bg2_59 nx2_60 (-1) fb]) := hD
              obtain ⟨hP, hD⟩ := zord (g := g) (Bs' := [bLT g lt ta lo, bTape g ta ab sz ln kd2_58 bg2_59 nx2_60 (-1) fb, bLaw g lo lc lz2_54 ll lm lg ld fc2_55]) [0, 2, 1] rfl rfl hP hD
              have hP : va_P g.1 vwCl (List.flatten [bLT g lt ta lo, bTape g ta ab sz ln kd2_58 bg2_59 nx2_60 (-1) fb, bLaw g lo lc lz2_54 ll lm lg ld fc2_55]) H := hP
              have hD : va_D A (List.flatten [bLT g lt ta lo, bTape g ta ab sz ln kd2_58 bg2_59 nx2_60 (-1) fb, bLaw g lo lc lz2_54 ll lm lg ld fc2_55]) := hD
              exact ih2_16 x_67 kd2_58 bg2_59 nx2_60 lz2_54 fc2_55 ⟨(Int.le_trans (by decide) hx_67.2.1), hx_67.2.2⟩ ⟨hq62_1.1, hq62_1.2⟩ ⟨hq62_0.1, hq62_0.2⟩ ⟨hq57.1, hq57.2⟩ hq62_2 hq62_3 (by first | omega | assumption | decide) w66 H _ ls (zmK hx_67.1 (by decide) n21 (by decide) hk2_16)  hP hD hS (lv_sub hl [0, 1] rfl)
            · skip
              refine lv_if_ne (tgt := 164) hx hb dX2_readSum_159 (by decide) (fun c68 => absurd (by decide) c68) (fun _ => ?_)
              refine lv_iconst (v := 1) hx hb dX2_readSum_162 (by decide) ?_
              have hP : va_P g.1 vwCl (List.flatten [bLT g lt ta lo, bLaw g lo lc lz2_54 ll lm lg ld fc2_55, bTape g ta ab sz ln kd2_50 bg2_51 nx2_52 (-1) fb]) H := hP
              have hD : va_D A (List.flatten [bLT g lt ta lo, bLaw g lo lc lz2_54 ll lm lg ld fc2_55, bTape g ta ab sz ln kd2_50 bg2_51 nx2_52 (-1) fb]) := hD
              obtain ⟨hP, hD⟩ := zord (g := g) (Bs' := [bLT g lt ta lo, bTape g ta ab sz ln kd2_50 bg2_51 nx2_52 (-1) fb, bLaw g lo lc lz2_54 ll lm lg ld fc2_55]) [0, 2, 1] rfl rfl hP hD
              exact mret_z hx hb hr hlocks hS (Nat.le_of_ble_eq_true rfl) (Nat.le_of_ble_eq_true rfl) dX2_readSum_163 (kd2_50, bg2_51, nx2_52, -1, lz2_54, fc2_55, (1 : Int32)) rfl (by decide) (show (0 ≤ lz2_54.toInt ∧ lz2_54.toInt ≤ 400) ∧ (-1 ≤ ((-1) : Int32).toInt) ∧ (0 ≤ nx2_52.toInt ∧ nx2_52.toInt ≤ 400) ∧ (0 ≤ bg2_51.toInt ∧ bg2_51.toInt ≤ 400) ∧ (zKd kd2_50.toInt bg2_51.toInt nx2_52.toInt) ∧ (zTk fb ln.toInt kd2_50.toInt bg2_51.toInt nx2_52.toInt) ∧ (1 = 1 ∧ zSum fb ln.toInt bg.toInt (.ok bg2_51.toInt) ∧ (-1) = (-1) ∨ 1 = 0 ∧ zSum fb ln.toInt bg.toInt (.bad ((-1) : Int32).toInt)) from ⟨(by first | assumption | omega | exact Or.inl (by decide) | exact Or.inr (by omega)), (by decide), (by first | assumption | omega | exact Or.inl (by decide) | exact Or.inr (by omega)), (by first | assumption | omega | exact Or.inl (by decide) | exact Or.inr (by omega)), (by first | assumption | omega | exact Or.inl (by decide) | exact Or.inr (by omega)), (by assumption), (Or.inl ⟨rfl, i14 _ (zSum_one (by decide) (Or.inl (Or.inr (Or.inl (hq47_k)))) (zMv_mk i12 hq53_3) hq62_k), rfl⟩)⟩) hP hD
          · skip
            refine lv_if_eq (tgt := 41) hx hb dX2_readSum_34 (by decide) (fun _ => ?_) (fun c69 => absurd (by decide) c69)
            refine lv_aload_n hx hb dX2_readSum_41 rfl (lv_at hl 0 rfl) ?_
            refine va_get (D := g.1) (ci := 2) (v := .ref ta) (C := RX2) (T := TX2) (N := 2) hx hb hts izRX2 hown hK hP 0 rfl rfl 0 (by decide) (hts _ k290) (fun x9 h9 => u_same (hts _ k291) x9 h9) rfl dX2_readSum_42 ?_
            refine va_ldcS (q := g.2 30) hx hb hown (zra10 hT.2.1) dX2_readSum_45 ?_
            refine mcallV' (g := g) (q0 := 0) (ci := 6) (As := [.ref (g.2 30)]) (rest := []) St hK hT hA hP hD hS hl.1 [2] [0, 1] rfl rfl rfl (c_t_isWordF l g ta ab sz ln x_2 x_3 x_4 (-1) fb (g.2 30) 10 zqa10 hln i9 i8 i11 i12 rfl zla10 zna10 (zlitB zla10)) (cwV 1 hts (zgL (zl4 k292 k282 k283 k277) k268) rfl rfl rfl (by decide +kernel) ⟨Nat.le_of_ble_eq_true rfl, Nat.le_of_ble_eq_true rfl⟩) rfl rfl rfl rfl (Nat.le_of_ble_eq_true rfl) dX2_readSum_47 ⟨(Nat.le_of_ble_eq_true rfl), (Nat.le_of_ble_eq_true rfl)⟩ (fun r_70 H locs hq71 hP hD hS => ?_)
            replace hq71 : (r_70 = 1 ∧ zisW fb ln.toInt x_3.toInt zqa10.2.2.2 ∨ r_70 = 0 ∧ ¬ zisW fb ln.toInt x_3.toInt zqa10.2.2.2) := hq71
            have hP : va_P g.1 vwCl (List.flatten [bLT g lt ta lo, bLaw g lo lc x_5 ll lm lg ld fc_6, bTape g ta ab sz ln x_2 x_3 x_4 (-1) fb]) H := hP
            have hD : va_D A (List.flatten [bLT g lt ta lo, bLaw g lo lc x_5 ll lm lg ld fc_6, bTape g ta ab sz ln x_2 x_3 x_4 (-1) fb]) := hD
            refine W.widen (k := 0) (n := 0) (Nat.le_of_ble_eq_true rfl) (Nat.le_of_ble_eq_true rfl) ?_
            refine W.eq (g2 := F0 m 50 ls [.int r_70]) rfl ?_
            rcases hq71 with ⟨rfl, hq71_k⟩ | ⟨rfl, hq71_k⟩
            · skip
              refine lv_if_eq (tgt := 57) hx hb dX2_readSum_50 (by decide) (fun c72 => absurd c72 (by decide)) (fun _ => ?_)
              refine lv_iconst (v := 3) hx hb dX2_readSum_53 (by decide) ?_
              refine lv_goto (tgt := 107) hx hb dX2_readSum_54 (by decide) ?_
              refine lv_istore_n (lv' := [(2, .int 3), (0, .ref lt), (1, .int x_1)]) hx hb dX2_readSum_107 rfl hl (by decide) rfl (fun ls hl => ?_)
              refine lv_iconst (v := 0) hx hb dX2_readSum_108 (by decide) ?_
              refine lv_istore_n (lv' := [(3, .int 0), (2, .int 3), (0, .ref lt), (1, .int x_1)]) hx hb dX2_readSum_109 rfl hl (by decide) rfl (fun ls hl => ?_)
              refine lv_iload_n hx hb dX2_readSum_110 rfl (lv_at hl 1 rfl) ?_
              refine lv_if_ne (tgt := 133) hx hb dX2_readSum_111 (by decide) (fun _ => ?_) (fun c73 => absurd c73 (by decide))
              refine lv_aload_n hx hb dX2_readSum_133 rfl (lv_at hl 2 rfl) ?_
              refine va_get (D := g.1) (ci := 2) (v := .ref ta) (C := RX2) (T := TX2) (N := 2) hx hb hts izRX2 hown hK hP 0 rfl rfl 0 (by decide) (hts _ k290) (fun x9 h9 => u_same (hts _ k291) x9 h9) rfl dX2_readSum_134 ?_
              refine mcallV' (g := g) (q0 := 0) (ci := 6) (As := []) (rest := []) St hK hT hA hP hD hS hl.1 [2] [0, 1] rfl rfl rfl (c_t_stepF l g ta ab sz ln x_2 x_3 x_4 (-1) fb hln i9) (cwV 0 hts (zgL (zl4 k296 k275 k276 k277) k271) rfl rfl rfl (by decide +kernel) ⟨Nat.le_of_ble_eq_true rfl, Nat.le_of_ble_eq_true rfl⟩) rfl rfl rfl rfl (Nat.le_of_ble_eq_true rfl) dX2_readSum_137 ⟨(Nat.le_of_ble_eq_true rfl), (Nat.le_of_ble_eq_true rfl)⟩ (fun u_ H locs hq77 hP hD hS => ?_)
              obtain ⟨kd2_74, bg2_75, nx2_76⟩ := u_
              replace hq77 : (0 ≤ nx2_76.toInt ∧ nx2_76.toInt ≤ 400) ∧ (0 ≤ bg2_75.toInt ∧ bg2_75.toInt ≤ 400) ∧ (zKd kd2_74.toInt bg2_75.toInt nx2_76.toInt) ∧ (zSk fb ln.toInt x_4.toInt bg2_75.toInt) ∧ (zTk fb ln.toInt kd2_74.toInt bg2_75.toInt nx2_76.toInt) := hq77
              have hP : va_P g.1 vwCl (List.flatten [bLT g lt ta lo, bLaw g lo lc x_5 ll lm lg ld fc_6, bTape g ta ab sz ln kd2_74 bg2_75 nx2_76 (-1) fb]) H := hP
              have hD : va_D A (List.flatten [bLT g lt ta lo, bLaw g lo lc x_5 ll lm lg ld fc_6, bTape g ta ab sz ln kd2_74 bg2_75 nx2_76 (-1) fb]) := hD
              refine W.widen (k := 0) (n := 0) (Nat.le_of_ble_eq_true rfl) (Nat.le_of_ble_eq_true rfl) ?_
              refine W.eq (g2 := F0 m 140 ls []) rfl ?_
              obtain ⟨hq77_0, hq77_1, hq77_2, hq77_3, hq77_4⟩ := hq77
              refine lv_aload_n hx hb dX2_readSum_140 rfl (lv_at hl 2 rfl) ?_
              refine va_get (D := g.1) (ci := 2) (v := .ref lo) (C := RX2) (T := TX2) (N := 2) hx hb hts izRX2 hown hK hP 0 rfl rfl 1 (by decide) (hts _ k210) (fun _ h9 => h9) rfl dX2_readSum_141 ?_
              refine lv_iload_n hx hb dX2_readSum_144 rfl (lv_at hl 1 rfl) ?_
              refine lv_iload_n hx hb dX2_readSum_145 rfl (lv_at hl 0 rfl) ?_
              refine mcallV' (g := g) (q0 := 0) (ci := 1) (As := [.int 3, .int 0]) (rest := []) St hK hT hA hP hD hS hl.1 [1] [0, 2] rfl rfl rfl (c_l_put l g lo lc x_5 ll lm lg ld fc_6 3 0 i10) (cwV 2 hts (zgL (zl4 k297 k298 k299 k85) k202) rfl rfl rfl (by decide +kernel) ⟨Nat.le_of_ble_eq_true rfl, Nat.le_of_ble_eq_true rfl⟩) rfl rfl rfl rfl (Nat.le_of_ble_eq_true rfl) dX2_readSum_146 ⟨(Nat.le_of_ble_eq_true rfl), (Nat.le_of_ble_eq_true rfl)⟩ (fun u_ H locs hq81 hP hD hS => ?_)
              obtain ⟨lz2_78, fc2_79, q_80⟩ := u_
              replace hq81 : (0 ≤ lz2_78.toInt ∧ lz2_78.toInt ≤ 400) := hq81
              have hP : va_P g.1 vwCl (List.flatten [bLT g lt ta lo, bTape g ta ab sz ln kd2_74 bg2_75 nx2_76 (-1) fb, bLaw g lo lc lz2_78 ll lm lg ld fc2_79]) H := hP
              have hD : va_D A (List.flatten [bLT g lt ta lo, bTape g ta ab sz ln kd2_74 bg2_75 nx2_76 (-1) fb, bLaw g lo lc lz2_78 ll lm lg ld fc2_79]) := hD
              refine W.widen (k := 0) (n := 0) (Nat.le_of_ble_eq_true rfl) (Nat.le_of_ble_eq_true rfl) ?_
              refine W.eq (g2 := F0 m 149 ls [.int q_80]) rfl ?_
              refine lv_pop hx hb dX2_readSum_149 rfl ?_
              refine lv_aload_n hx hb dX2_readSum_150 rfl (lv_at hl 2 rfl) ?_
              refine va_get (D := g.1) (ci := 2) (v := .ref ta) (C := RX2) (T := TX2) (N := 2) hx hb hts izRX2 hown hK hP 0 rfl rfl 0 (by decide) (hts _ k290) (fun x9 h9 => u_same (hts _ k291) x9 h9) rfl dX2_readSum_151 ?_
              refine lv_bipush (v := 43) hx hb dX2_readSum_154 (by decide) ?_
              have hL43 : (43 : Int32).toInt = 43 := by decide
              refine mcallV' (g := g) (q0 := 0) (ci := 6) (As := [.int 43]) (rest := []) St hK hT hA hP hD hS hl.1 [1] [0, 2] rfl rfl rfl (c_t_takeSignF l g ta ab sz ln kd2_74 bg2_75 nx2_76 (-1) fb 43 hln hq77_0 hq77_1 hq77_2 hq77_4) (cwV 1 hts (zgL (zl4 k300 k301 k302 k277) k286) rfl rfl rfl (by decide +kernel) ⟨Nat.le_of_ble_eq_true rfl, Nat.le_of_ble_eq_true rfl⟩) rfl rfl rfl rfl (Nat.le_of_ble_eq_true rfl) dX2_readSum_156 ⟨(Nat.le_of_ble_eq_true rfl), (Nat.le_of_ble_eq_true rfl)⟩ (fun u_ H locs hq86 hP hD hS => ?_)
              obtain ⟨kd2_82, bg2_83, nx2_84, q_85⟩ := u_
              replace hq86 : (0 ≤ nx2_84.toInt ∧ nx2_84.toInt ≤ 400) ∧ (0 ≤ bg2_83.toInt ∧ bg2_83.toInt ≤ 400) ∧ (zKd kd2_82.toInt bg2_83.toInt nx2_84.toInt) ∧ (zTk fb ln.toInt kd2_82.toInt bg2_83.toInt nx2_84.toInt) ∧ (q_85 = 1 ∧ zisS fb ln.toInt bg2_75.toInt (43 : Int32).toInt ∧ zMv fb ln.toInt bg2_75.toInt bg2_83.toInt ∨ q_85 = 0 ∧ ¬ zisS fb ln.toInt bg2_75.toInt (43 : Int32).toInt ∧ kd2_74 = kd2_82 ∧ bg2_75 = bg2_83 ∧ nx2_76 = nx2_84) := hq86
              have hP : va_P g.1 vwCl (List.flatten [bLT g lt ta lo, bLaw g lo lc lz2_78 ll lm lg ld fc2_79, bTape g ta ab sz ln kd2_82 bg2_83 nx2_84 (-1) fb]) H := hP
              have hD : va_D A (List.flatten [bLT g lt ta lo, bLaw g lo lc lz2_78 ll lm lg ld fc2_79, bTape g ta ab sz ln kd2_82 bg2_83 nx2_84 (-1) fb]) := hD
              refine W.widen (k := 0) (n := 0) (Nat.le_of_ble_eq_true rfl) (Nat.le_of_ble_eq_true rfl) ?_
              refine W.eq (g2 := F0 m 159 ls [.int q_85]) rfl ?_
              obtain ⟨hq86_0, hq86_1, hq86_2, hq86_3, hq86_4⟩ := hq86
              rcases hq86_4 with ⟨rfl, hq86_k, hq86_km⟩ | ⟨rfl, hq86_k, rfl, rfl, rfl⟩
              · skip
                refine lv_if_ne (tgt := 164) hx hb dX2_readSum_159 (by decide) (fun _ => ?_) (fun c87 => absurd c87 (by decide))
                have w88 : x_3.toInt < bg2_75.toInt := zMv_lt (f := fb) (n := ln.toInt) (by omega) (zPt_z (Or.inl (Or.inr (Or.inr (Or.inl (hq71_k)))))) (zMv_mk i12 hq77_3)
                have w89 : bg2_75.toInt < bg2_83.toInt := zMv_lt (f := fb) (n := ln.toInt) (by omega) (zisS_z hq86_k) hq86_km
                have w90 : ∀ r9, zSum fb ln.toInt bg2_83.toInt r9 → zSum fb ln.toInt bg.toInt r9 := fun r9 h9 => i14 r9 (zSum_more (by decide) (Or.inl (Or.inr (Or.inr (Or.inl (hq71_k))))) (zMv_mk i12 hq77_3) hq86_k hq86_km h9)
                refine ziinc3 (n' := 1) (a' := 1) (b' := 400) (lv' := fun v9 => [(1, .int v9), (3, .int 0), (2, .int 3), (0, .ref lt)]) hx hb dX2_readSum_164 hl (k := 3) rfl (by decide) (fun _ => rfl) (zaddK (i := x_1.toInt) (j := 1) rfl (by decide) i7.1 n21 (Int.le_refl _) (Int.le_refl _) (by decide)) (fun x_91 ls hx_91 hl => ?_)
                refine lv_goto (tgt := 2) hx hb dX2_readSum_167 (by decide) ?_
                have hl := lv_sub (l' := [(0, .ref lt), (1, .int x_91), (2, .int 3), (3, .int 0)]) hl [3, 0, 2, 1] rfl
                have hP : va_P g.1 vwCl (List.flatten [bLT g lt ta lo, bLaw g lo lc lz2_78 ll lm lg ld fc2_79, bTape g ta ab sz ln kd2_82 bg2_83 nx2_84 (-1) fb]) H := hP
                have hD : va_D A (List.flatten [bLT g lt ta lo, bLaw g lo lc lz2_78 ll lm lg ld fc2_79, bTape g ta ab sz ln kd2_82 bg2_83 nx2_84 (-1) fb]) := hD
                obtain ⟨hP, hD⟩ := zord (g := g) (Bs' := [bLT g lt ta lo, bTape g ta ab sz ln kd2_82 bg2_83 nx2_84 (-1) fb, bLaw g lo lc lz2_78 ll lm lg ld fc2_79]) [0, 2, 1] rfl rfl hP hD
                have hP : va_P g.1 vwCl (List.flatten [bLT g lt ta lo, bTape g ta ab sz ln kd2_82 bg2_83 nx2_84 (-1) fb, bLaw g lo lc lz2_78 ll lm lg ld fc2_79]) H := hP
                have hD : va_D A (List.flatten [bLT g lt ta lo, bTape g ta ab sz ln kd2_82 bg2_83 nx2_84 (-1) fb, bLaw g lo lc lz2_78 ll lm lg ld fc2_79]) := hD
                exact ih2_16 x_91 kd2_82 bg2_83 nx2_84 lz2_78 fc2_79 ⟨(Int.le_trans (by decide) hx_91.2.1), hx_91.2.2⟩ ⟨hq86_1.1, hq86_1.2⟩ ⟨hq86_0.1, hq86_0.2⟩ ⟨hq81.1, hq81.2⟩ hq86_2 hq86_3 (by first | omega | assumption | decide) w90 H _ ls (zmK hx_91.1 (by decide) n21 (by decide) hk2_16)  hP hD hS (lv_sub hl [0, 1] rfl)
              · skip
                refine lv_if_ne (tgt := 164) hx hb dX2_readSum_159 (by decide) (fun c92 => absurd (by decide) c92) (fun _ => ?_)
                refine lv_iconst (v := 1) hx hb dX2_readSum_162 (by decide) ?_
                have hP : va_P g.1 vwCl (List.flatten [bLT g lt ta lo, bLaw g lo lc lz2_78 ll lm lg ld fc2_79, bTape g ta ab sz ln kd2_74 bg2_75 nx2_76 (-1) fb]) H := hP
                have hD : va_D A (List.flatten [bLT g lt ta lo, bLaw g lo lc lz2_78 ll lm lg ld fc2_79, bTape g ta ab sz ln kd2_74 bg2_75 nx2_76 (-1) fb]) := hD
                obtain ⟨hP, hD⟩ := zord (g := g) (Bs' := [bLT g lt ta lo, bTape g ta ab sz ln kd2_74 bg2_75 nx2_76 (-1) fb, bLaw g lo lc lz2_78 ll lm lg ld fc2_79]) [0, 2, 1] rfl rfl hP hD
                exact mret_z hx hb hr hlocks hS (Nat.le_of_ble_eq_true rfl) (Nat.le_of_ble_eq_true rfl) dX2_readSum_163 (kd2_74, bg2_75, nx2_76, -1, lz2_78, fc2_79, (1 : Int32)) rfl (by decide) (show (0 ≤ lz2_78.toInt ∧ lz2_78.toInt ≤ 400) ∧ (-1 ≤ ((-1) : Int32).toInt) ∧ (0 ≤ nx2_76.toInt ∧ nx2_76.toInt ≤ 400) ∧ (0 ≤ bg2_75.toInt ∧ bg2_75.toInt ≤ 400) ∧ (zKd kd2_74.toInt bg2_75.toInt nx2_76.toInt) ∧ (zTk fb ln.toInt kd2_74.toInt bg2_75.toInt nx2_76.toInt) ∧ (1 = 1 ∧ zSum fb ln.toInt bg.toInt (.ok bg2_75.toInt) ∧ (-1) = (-1) ∨ 1 = 0 ∧ zSum fb ln.toInt bg.toInt (.bad ((-1) : Int32).toInt)) from ⟨(by first | assumption | omega | exact Or.inl (by decide) | exact Or.inr (by omega)), (by decide), (by first | assumption | omega | exact Or.inl (by decide) | exact Or.inr (by omega)), (by first | assumption | omega | exact Or.inl (by decide) | exact Or.inr (by omega)), (by first | assumption | omega | exact Or.inl (by decide) | exact Or.inr (by omega)), (by assumption), (Or.inl ⟨rfl, i14 _ (zSum_one (by decide) (Or.inl (Or.inr (Or.inr (Or.inl (hq71_k))))) (zMv_mk i12 hq77_3) hq86_k), rfl⟩)⟩) hP hD
            · skip
              refine lv_if_eq (tgt := 57) hx hb dX2_readSum_50 (by decide) (fun _ => ?_) (fun c93 => absurd (by decide) c93)
              refine lv_aload_n hx hb dX2_readSum_57 rfl (lv_at hl 0 rfl) ?_
              refine va_get (D := g.1) (ci := 2) (v := .ref ta) (C := RX2) (T := TX2) (N := 2) hx hb hts izRX2 hown hK hP 0 rfl rfl 0 (by decide) (hts _ k290) (fun x9 h9 => u_same (hts _ k291) x9 h9) rfl dX2_readSum_58 ?_
              refine va_ldcS (q := g.2 32) hx hb hown (zra11 hT.2.1) dX2_readSum_61 ?_
              refine mcallV' (g := g) (q0 := 0) (ci := 6) (As := [.ref (g.2 32)]) (rest := []) St hK hT hA hP hD hS hl.1 [2] [0, 1] rfl rfl rfl (c_t_isWordF l g ta ab sz ln x_2 x_3 x_4 (-1) fb (g.2 32) 11 zqa11 hln i9 i8 i11 i12 rfl zla11 zna11 (zlitB zla11)) (cwV 1 hts (zgL (zl4 k292 k282 k283 k277) k268) rfl rfl rfl (by decide +kernel) ⟨Nat.le_of_ble_eq_true rfl, Nat.le_of_ble_eq_true rfl⟩) rfl rfl rfl rfl (Nat.le_of_ble_eq_true rfl) dX2_readSum_63 ⟨(Nat.le_of_ble_eq_true rfl), (Nat.le_of_ble_eq_true rfl)⟩ (fun r_94 H locs hq95 hP hD hS => ?_)
              replace hq95 : (r_94 = 1 ∧ zisW fb ln.toInt x_3.toInt zqa11.2.2.2 ∨ r_94 = 0 ∧ ¬ zisW fb ln.toInt x_3.toInt zqa11.2.2.2) := hq95
              have hP : va_P g.1 vwCl (List.flatten [bLT g lt ta lo, bLaw g lo lc x_5 ll lm lg ld fc_6, bTape g ta ab sz ln x_2 x_3 x_4 (-1) fb]) H := hP
              have hD : va_D A (List.flatten [bLT g lt ta lo, bLaw g lo lc x_5 ll lm lg ld fc_6, bTape g ta ab sz ln x_2 x_3 x_4 (-1) fb]) := hD
              refine W.widen (k := 0) (n := 0) (Nat.le_of_ble_eq_true rfl) (Nat.le_of_ble_eq_true rfl) ?_
              refine W.eq (g2 := F0 m 66 ls [.int r_94]) rfl ?_
              rcases hq95 with ⟨rfl, hq95_k⟩ | ⟨rfl, hq95_k⟩
              · skip
                refine lv_if_eq (tgt := 73) hx hb dX2_readSum_66 (by decide) (fun c96 => absurd c96 (by decide)) (fun _ => ?_)
                refine lv_iconst (v := 4) hx hb dX2_readSum_69 (by decide) ?_
                refine lv_goto (tgt := 107) hx hb dX2_readSum_70 (by decide) ?_
                refine lv_istore_n (lv' := [(2, .int 4), (0, .ref lt), (1, .int x_1)]) hx hb dX2_readSum_107 rfl hl (by decide) rfl (fun ls hl => ?_)
                refine lv_iconst (v := 0) hx hb dX2_readSum_108 (by decide) ?_
                refine lv_istore_n (lv' := [(3, .int 0), (2, .int 4), (0, .ref lt), (1, .int x_1)]) hx hb dX2_readSum_109 rfl hl (by decide) rfl (fun ls hl => ?_)
                refine lv_iload_n hx hb dX2_readSum_110 rfl (lv_at hl 1 rfl) ?_
                refine lv_if_ne (tgt := 133) hx hb dX2_readSum_111 (by decide) (fun _ => ?_) (fun c97 => absurd c97 (by decide))
                refine lv_aload_n hx hb dX2_readSum_133 rfl (lv_at hl 2 rfl) ?_
                refine va_get (D := g.1) (ci := 2) (v := .ref ta) (C := RX2) (T := TX2) (N := 2) hx hb hts izRX2 hown hK hP 0 rfl rfl 0 (by decide) (hts _ k290) (fun x9 h9 => u_same (hts _ k291) x9 h9) rfl dX2_readSum_134 ?_
                refine mcallV' (g := g) (q0 := 0) (ci := 6) (As := []) (rest := []) St hK hT hA hP hD hS hl.1 [2] [0, 1] rfl rfl rfl (c_t_stepF l g ta ab sz ln x_2 x_3 x_4 (-1) fb hln i9) (cwV 0 hts (zgL (zl4 k296 k275 k276 k277) k271) rfl rfl rfl (by decide +kernel) ⟨Nat.le_of_ble_eq_true rfl, Nat.le_of_ble_eq_true rfl⟩) rfl rfl rfl rfl (Nat.le_of_ble_eq_true rfl) dX2_readSum_137 ⟨(Nat.le_of_ble_eq_true rfl), (Nat.le_of_ble_eq_true rfl)⟩ (fun u_ H locs hq101 hP hD hS => ?_)
                obtain ⟨kd2_98, bg2_99, nx2_100⟩ := u_
                replace hq101 : (0 ≤ nx2_100.toInt ∧ nx2_100.toInt ≤ 400) ∧ (0 ≤ bg2_99.toInt ∧ bg2_99.toInt ≤ 400) ∧ (zKd kd2_98.toInt bg2_99.toInt nx2_100.toInt) ∧ (zSk fb ln.toInt x_4.toInt bg2_99.toInt) ∧ (zTk fb ln.toInt kd2_98.toInt bg2_99.toInt nx2_100.toInt) := hq101
                have hP : va_P g.1 vwCl (List.flatten [bLT g lt ta lo, bLaw g lo lc x_5 ll lm lg ld fc_6, bTape g ta ab sz ln kd2_98 bg2_99 nx2_100 (-1) fb]) H := hP
                have hD : va_D A (List.flatten [bLT g lt ta lo, bLaw g lo lc x_5 ll lm lg ld fc_6, bTape g ta ab sz ln kd2_98 bg2_99 nx2_100 (-1) fb]) := hD
                refine W.widen (k := 0) (n := 0) (Nat.le_of_ble_eq_true rfl) (Nat.le_of_ble_eq_true rfl) ?_
                refine W.eq (g2 := F0 m 140 ls []) rfl ?_
                obtain ⟨hq101_0, hq101_1, hq101_2, hq101_3, hq101_4⟩ := hq101
                refine lv_aload_n hx hb dX2_readSum_140 rfl (lv_at hl 2 rfl) ?_
                refine va_get (D := g.1) (ci := 2) (v := .ref lo) (C := RX2) (T := TX2) (N := 2) hx hb hts izRX2 hown hK hP 0 rfl rfl 1 (by decide) (hts _ k210) (fun _ h9 => h9) rfl dX2_readSum_141 ?_
                refine lv_iload_n hx hb dX2_readSum_144 rfl (lv_at hl 1 rfl) ?_
                refine lv_iload_n hx hb dX2_readSum_145 rfl (lv_at hl 0 rfl) ?_
                refine mcallV' (g := g) (q0 := 0) (ci := 1) (As := [.int 4, .int 0]) (rest := []) St hK hT hA hP hD hS hl.1 [1] [0, 2] rfl rfl rfl (c_l_put l g lo lc x_5 ll lm lg ld fc_6 4 0 i10) (cwV 2 hts (zgL (zl4 k297 k298 k299 k85) k202) rfl rfl rfl (by decide +kernel) ⟨Nat.le_of_ble_eq_true rfl, Nat.le_of_ble_eq_true rfl⟩) rfl rfl rfl rfl (Nat.le_of_ble_eq_true rfl) dX2_readSum_146 ⟨(Nat.le_of_ble_eq_true rfl), (Nat.le_of_ble_eq_true rfl)⟩ (fun u_ H locs hq105 hP hD hS => ?_)
                obtain ⟨lz2_102, fc2_103, q_104⟩ := u_
                replace hq105 : (0 ≤ lz2_102.toInt ∧ lz2_102.toInt ≤ 400) := hq105
                have hP : va_P g.1 vwCl (List.flatten [bLT g lt ta lo, bTape g ta ab sz ln kd2_98 bg2_99 nx2_100 (-1) fb, bLaw g lo lc lz2_102 ll lm lg ld fc2_103]) H := hP
                have hD : va_D A (List.flatten [bLT g lt ta lo, bTape g ta ab sz ln kd2_98 bg2_99 nx2_100 (-1) fb, bLaw g lo lc lz2_102 ll lm lg ld fc2_103]) := hD
                refine W.widen (k := 0) (n := 0) (Nat.le_of_ble_eq_true rfl) (Nat.le_of_ble_eq_true rfl) ?_
                refine W.eq (g2 := F0 m 149 ls [.int q_104]) rfl ?_
                refine lv_pop hx hb dX2_readSum_149 rfl ?_
                refine lv_aload_n hx hb dX2_readSum_150 rfl (lv_at hl 2 rfl) ?_
                refine va_get (D := g.1) (ci := 2) (v := .ref ta) (C := RX2) (T := TX2) (N := 2) hx hb hts izRX2 hown hK hP 0 rfl rfl 0 (by decide) (hts _ k290) (fun x9 h9 => u_same (hts _ k291) x9 h9) rfl dX2_readSum_151 ?_
                refine lv_bipush (v := 43) hx hb dX2_readSum_154 (by decide) ?_
                have hL43 : (43 : Int32).toInt = 43 := by decide
                refine mcallV' (g := g) (q0 := 0) (ci := 6) (As := [.int 43]) (rest := []) St hK hT hA hP hD hS hl.1 [1] [0, 2] rfl rfl rfl (c_t_takeSignF l g ta ab sz ln kd2_98 bg2_99 nx2_100 (-1) fb 43 hln hq101_0 hq101_1 hq101_2 hq101_4) (cwV 1 hts (zgL (zl4 k300 k301 k302 k277) k286) rfl rfl rfl (by decide +kernel) ⟨Nat.le_of_ble_eq_true rfl, Nat.le_of_ble_eq_true rfl⟩) rfl rfl rfl rfl (Nat.le_of_ble_eq_true rfl) dX2_readSum_156 ⟨(Nat.le_of_ble_eq_true rfl), (Nat.le_of_ble_eq_true rfl)⟩ (fun u_ H locs hq110 hP hD hS => ?_)
                obtain ⟨kd2_106, bg2_107, nx2_108, q_109⟩ := u_
                replace hq110 : (0 ≤ nx2_108.toInt ∧ nx2_108.toInt ≤ 400) ∧ (0 ≤ bg2_107.toInt ∧ bg2_107.toInt ≤ 400) ∧ (zKd kd2_106.toInt bg2_107.toInt nx2_108.toInt) ∧ (zTk fb ln.toInt kd2_106.toInt bg2_107.toInt nx2_108.toInt) ∧ (q_109 = 1 ∧ zisS fb ln.toInt bg2_99.toInt (43 : Int32).toInt ∧ zMv fb ln.toInt bg2_99.toInt bg2_107.toInt ∨ q_109 = 0 ∧ ¬ zisS fb ln.toInt bg2_99.toInt (43 : Int32).toInt ∧ kd2_98 = kd2_106 ∧ bg2_99 = bg2_107 ∧ nx2_100 = nx2_108) := hq110
                have hP : va_P g.1 vwCl (List.flatten [bLT g lt ta lo, bLaw g lo lc lz2_102 ll lm lg ld fc2_103, bTape g ta ab sz ln kd2_106 bg2_107 nx2_108 (-1) fb]) H := hP
                have hD : va_D A (List.flatten [bLT g lt ta lo, bLaw g lo lc lz2_102 ll lm lg ld fc2_103, bTape g ta ab sz ln kd2_106 bg2_107 nx2_108 (-1) fb]) := hD
                refine W.widen (k := 0) (n := 0) (Nat.le_of_ble_eq_true rfl) (Nat.le_of_ble_eq_true rfl) ?_
                refine W.eq (g2 := F0 m 159 ls [.int q_109]) rfl ?_
                obtain ⟨hq110_0, hq110_1, hq110_2, hq110_3, hq110_4⟩ := hq110
                rcases hq110_4 with ⟨rfl, hq110_k, hq110_km⟩ | ⟨rfl, hq110_k, rfl, rfl, rfl⟩
                · skip
                  refine lv_if_ne (tgt := 164) hx hb dX2_readSum_159 (by decide) (fun _ => ?_) (fun c111 => absurd c111 (by decide))
                  have w112 : x_3.toInt < bg2_99.toInt := zMv_lt (f := fb) (n := ln.toInt) (by omega) (zPt_z (Or.inl (Or.inr (Or.inr (Or.inr (Or.inl (hq95_k))))))) (zMv_mk i12 hq101_3)
                  have w113 : bg2_99.toInt < bg2_107.toInt := zMv_lt (f := fb) (n := ln.toInt) (by omega) (zisS_z hq110_k) hq110_km
                  have w114 : ∀ r9, zSum fb ln.toInt bg2_107.toInt r9 → zSum fb ln.toInt bg.toInt r9 := fun r9 h9 => i14 r9 (zSum_more (by decide) (Or.inl (Or.inr (Or.inr (Or.inr (Or.inl (hq95_k)))))) (zMv_mk i12 hq101_3) hq110_k hq110_km h9)
                  refine ziinc3 (n' := 1) (a' := 1) (b' := 400) (lv' := fun v9 => [(1, .int v9), (3, .int 0), (2, .int 4), (0, .ref lt)]) hx hb dX2_readSum_164 hl (k := 3) rfl (by decide) (fun _ => rfl) (zaddK (i := x_1.toInt) (j := 1) rfl (by decide) i7.1 n21 (Int.le_refl _) (Int.le_refl _) (by decide)) (fun x_115 ls hx_115 hl => ?_)
                  refine lv_goto (tgt := 2) hx hb dX2_readSum_167 (by decide) ?_
                  have hl := lv_sub (l' := [(0, .ref lt), (1, .int x_115), (2, .int 4), (3, .int 0)]) hl [3, 0, 2, 1] rfl
                  have hP : va_P g.1 vwCl (List.flatten [bLT g lt ta lo, bLaw g lo lc lz2_102 ll lm lg ld fc2_103, bTape g ta ab sz ln kd2_106 bg2_107 nx2_108 (-1) fb]) H := hP
                  have hD : va_D A (List.flatten [bLT g lt ta lo, bLaw g lo lc lz2_102 ll lm lg ld fc2_103, bTape g ta ab sz ln kd2_106 bg2_107 nx2_108 (-1) fb]) := hD
                  obtain ⟨hP, hD⟩ := zord (g := g) (Bs' := [bLT g lt ta lo, bTape g ta ab sz ln kd2_106 bg2_107 nx2_108 (-1) fb, bLaw g lo lc lz2_102 ll lm lg ld fc2_103]) [0, 2, 1] rfl rfl hP hD
                  have hP : va_P g.1 vwCl (List.flatten [bLT g lt ta lo, bTape g ta ab sz ln kd2_106 bg2_107 nx2_108 (-1) fb, bLaw g lo lc lz2_102 ll lm lg ld fc2_103]) H := hP
                  have hD : va_D A (List.flatten [bLT g lt ta lo, bTape g ta ab sz ln kd2_106 bg2_107 nx2_108 (-1) fb, bLaw g lo lc lz2_102 ll lm lg ld fc2_103]) := hD
                  exact ih2_16 x_115 kd2_106 bg2_107 nx2_108 lz2_102 fc2_103 ⟨(Int.le_trans (by decide) hx_115.2.1), hx_115.2.2⟩ ⟨hq110_1.1, hq110_1.2⟩ ⟨hq110_0.1, hq110_0.2⟩ ⟨hq105.1, hq105.2⟩ hq110_2 hq110_3 (by first | omega | assumption | decide) w114 H _ ls (zmK hx_115.1 (by decide) n21 (by decide) hk2_16)  hP hD hS (lv_sub hl [0, 1] rfl)
                · skip
                  refine lv_if_ne (tgt := 164) hx hb dX2_readSum_159 (by decide) (fun c116 => absurd (by decide) c116) (fun _ => ?_)
                  refine lv_iconst (v := 1) hx hb dX2_readSum_162 (by decide) ?_
                  have hP : va_P g.1 vwCl (List.flatten [bLT g lt ta lo, bLaw g lo lc lz2_102 ll lm lg ld fc2_103, bTape g ta ab sz ln kd2_98 bg2_99 nx2_100 (-1) fb]) H := hP
                  have hD : va_D A (List.flatten [bLT g lt ta lo, bLaw g lo lc lz2_102 ll lm lg ld fc2_103, bTape g ta ab sz ln kd2_98 bg2_99 nx2_100 (-1) fb]) := hD
                  obtain ⟨hP, hD⟩ := zord (g := g) (Bs' := [bLT g lt ta lo, bTape g ta ab sz ln kd2_98 bg2_99 nx2_100 (-1) fb, bLaw g lo lc lz2_102 ll lm lg ld fc2_103]) [0, 2, 1] rfl rfl hP hD
                  exact mret_z hx hb hr hlocks hS (Nat.le_of_ble_eq_true rfl) (Nat.le_of_ble_eq_true rfl) dX2_readSum_163 (kd2_98, bg2_99, nx2_100, -1, lz2_102, fc2_103, (1 : Int32)) rfl (by decide) (show (0 ≤ lz2_102.toInt ∧ lz2_102.toInt ≤ 400) ∧ (-1 ≤ ((-1) : Int32).toInt) ∧ (0 ≤ nx2_100.toInt ∧ nx2_100.toInt ≤ 400) ∧ (0 ≤ bg2_99.toInt ∧ bg2_99.toInt ≤ 400) ∧ (zKd kd2_98.toInt bg2_99.toInt nx2_100.toInt) ∧ (zTk fb ln.toInt kd2_98.toInt bg2_99.toInt nx2_100.toInt) ∧ (1 = 1 ∧ zSum fb ln.toInt bg.toInt (.ok bg2_99.toInt) ∧ (-1) = (-1) ∨ 1 = 0 ∧ zSum fb ln.toInt bg.toInt (.bad ((-1) : Int32).toInt)) from ⟨(by first | assumption | omega | exact Or.inl (by decide) | exact Or.inr (by omega)), (by decide), (by first | assumption | omega | exact Or.inl (by decide) | exact Or.inr (by omega)), (by first | assumption | omega | exact Or.inl (by decide) | exact Or.inr (by omega)), (by first | assumption | omega | exact Or.inl (by decide) | exact Or.inr (by omega)), (by assumption), (Or.inl ⟨rfl, i14 _ (zSum_one (by decide) (Or.inl (Or.inr (Or.inr (Or.inr (Or.inl (hq95_k)))))) (zMv_mk i12 hq101_3) hq110_k), rfl⟩)⟩) hP hD
              · skip
                refine lv_if_eq (tgt := 73) hx hb dX2_readSum_66 (by decide) (fun _ => ?_) (fun c117 => absurd (by decide) c117)
                refine lv_aload_n hx hb dX2_readSum_73 rfl (lv_at hl 0 rfl) ?_
                refine va_get (D := g.1) (ci := 2) (v := .ref ta) (C := RX2) (T := TX2) (N := 2) hx hb hts izRX2 hown hK hP 0 rfl rfl 0 (by decide) (hts _ k290) (fun x9 h9 => u_same (hts _ k291) x9 h9) rfl dX2_readSum_74 ?_
                refine va_ldcS (q := g.2 34) hx hb hown (zra12 hT.2.1) dX2_readSum_77 ?_
                refine mcallV' (g := g) (q0 := 0) (ci := 6) (As := [.ref (g.2 34)]) (rest := []) St hK hT hA hP hD hS hl.1 [2] [0, 1] rfl rfl rfl (c_t_isWordF l g ta ab sz ln x_2 x_3 x_4 (-1) fb (g.2 34) 12 zqa12 hln i9 i8 i11 i12 rfl zla12 zna12 (zlitB zla12)) (cwV 1 hts (zgL (zl4 k292 k282 k283 k277) k268) rfl rfl rfl (by decide +kernel) ⟨Nat.le_of_ble_eq_true rfl, Nat.le_of_ble_eq_true rfl⟩) rfl rfl rfl rfl (Nat.le_of_ble_eq_true rfl) dX2_readSum_79 ⟨(Nat.le_of_ble_eq_true rfl), (Nat.le_of_ble_eq_true rfl)⟩ (fun r_118 H locs hq119 hP hD hS => ?_)
                replace hq119 : (r_118 = 1 ∧ zisW fb ln.toInt x_3.toInt zqa12.2.2.2 ∨ r_118 = 0 ∧ ¬ zisW fb ln.toInt x_3.toInt zqa12.2.2.2) := hq119
                have hP : va_P g.1 vwCl (List.flatten [bLT g lt ta lo, bLaw g lo lc x_5 ll lm lg ld fc_6, bTape g ta ab sz ln x_2 x_3 x_4 (-1) fb]) H := hP
                have hD : va_D A (List.flatten [bLT g lt ta lo, bLaw g lo lc x_5 ll lm lg ld fc_6, bTape g ta ab sz ln x_2 x_3 x_4 (-1) fb]) := hD
                refine W.widen (k := 0) (n := 0) (Nat.le_of_ble_eq_true rfl) (Nat.le_of_ble_eq_true rfl) ?_
                refine W.eq (g2 := F0 m 82 ls [.int r_118]) rfl ?_
                rcases hq119 with ⟨rfl, hq119_k⟩ | ⟨rfl, hq119_k⟩
                · skip
                  refine lv_if_eq (tgt := 89) hx hb dX2_readSum_82 (by decide) (fun c120 => absurd c120 (by decide)) (fun _ => ?_)
                  refine lv_iconst (v := 5) hx hb dX2_readSum_85 (by decide) ?_
                  refine lv_goto (tgt := 107) hx hb dX2_readSum_86 (by decide) ?_
                  refine lv_istore_n (lv' := [(2, .int 5), (0, .ref lt), (1, .int x_1)]) hx hb dX2_readSum_107 rfl hl (by decide) rfl (fun ls hl => ?_)
                  refine lv_iconst (v := 0) hx hb dX2_readSum_108 (by decide) ?_
                  refine lv_istore_n (lv' := [(3, .int 0), (2, .int 5), (0, .ref lt), (1, .int x_1)]) hx hb dX2_readSum_109 rfl hl (by decide) rfl (fun ls hl => ?_)
                  refine lv_iload_n hx hb dX2_readSum_110 rfl (lv_at hl 1 rfl) ?_
                  refine lv_if_ne (tgt := 133) hx hb dX2_readSum_111 (by decide) (fun _ => ?_) (fun c121 => absurd c121 (by decide))
                  refine lv_aload_n hx hb dX2_readSum_133 rfl (lv_at hl 2 rfl) ?_
                  refine va_get (D := g.1) (ci := 2) (v := .ref ta) (C := RX2) (T := TX2) (N := 2) hx hb hts izRX2 hown hK hP 0 rfl rfl 0 (by decide) (hts _ k290) (fun x9 h9 => u_same (hts _ k291) x9 h9) rfl dX2_readSum_134 ?_
                  refine mcallV' (g := g) (q0 := 0) (ci := 6) (As := []) (rest := []) St hK hT hA hP hD hS hl.1 [2] [0, 1] rfl rfl rfl (c_t_stepF l g ta ab sz ln x_2 x_3 x_4 (-1) fb hln i9) (cwV 0 hts (zgL (zl4 k296 k275 k276 k277) k271) rfl rfl rfl (by decide +kernel) ⟨Nat.le_of_ble_eq_true rfl, Nat.le_of_ble_eq_true rfl⟩) rfl rfl rfl rfl (Nat.le_of_ble_eq_true rfl) dX2_readSum_137 ⟨(Nat.le_of_ble_eq_true rfl), (Nat.le_of_ble_eq_true rfl)⟩ (fun u_ H locs hq125 hP hD hS => ?_)
                  obtain ⟨kd2_122, bg2_123, nx2_124⟩ := u_
                  replace hq125 : (0 ≤ nx2_124.toInt ∧ nx2_124.toInt ≤ 400) ∧ (0 ≤ bg2_123.toInt ∧ bg2_123.toInt ≤ 400) ∧ (zKd kd2_122.toInt bg2_123.toInt nx2_124.toInt) ∧ (zSk fb ln.toInt x_4.toInt bg2_123.toInt) ∧ (zTk fb ln.toInt kd2_122.toInt bg2_123.toInt nx2_124.toInt) := hq125
                  have hP : va_P g.1 vwCl (List.flatten [bLT g lt ta lo, bLaw g lo lc x_5 ll lm lg ld fc_6, bTape g ta ab sz ln kd2_122 bg2_123 nx2_124 (-1) fb]) H := hP
                  have hD : va_D A (List.flatten [bLT g lt ta lo, bLaw g lo lc x_5 ll lm lg ld fc_6, bTape g ta ab sz ln kd2_122 bg2_123 nx2_124 (-1) fb]) := hD
                  refine W.widen (k := 0) (n := 0) (Nat.le_of_ble_eq_true rfl) (Nat.le_of_ble_eq_true rfl) ?_
                  refine W.eq (g2 := F0 m 140 ls []) rfl ?_
                  obtain ⟨hq125_0, hq125_1, hq125_2, hq125_3, hq125_4⟩ := hq125
                  refine lv_aload_n hx hb dX2_readSum_140 rfl (lv_at hl 2 rfl) ?_
                  refine va_get (D := g.1) (ci := 2) (v := .ref lo) (C := RX2) (T := TX2) (N := 2) hx hb hts izRX2 hown hK hP 0 rfl rfl 1 (by decide) (hts _ k210) (fun _ h9 => h9) rfl dX2_readSum_141 ?_
                  refine lv_iload_n hx hb dX2_readSum_144 rfl (lv_at hl 1 rfl) ?_
                  refine lv_iload_n hx hb dX2_readSum_145 rfl (lv_at hl 0 rfl) ?_
                  refine mcallV' (g := g) (q0 := 0) (ci := 1) (As := [.int 5, .int 0]) (rest := []) St hK hT hA hP hD hS hl.1 [1] [0, 2] rfl rfl rfl (c_l_put l g lo lc x_5 ll lm lg ld fc_6 5 0 i10) (cwV 2 hts (zgL (zl4 k297 k298 k299 k85) k202) rfl rfl rfl (by decide +kernel) ⟨Nat.le_of_ble_eq_true rfl, Nat.le_of_ble_eq_true rfl⟩) rfl rfl rfl rfl (Nat.le_of_ble_eq_true rfl) dX2_readSum_146 ⟨(Nat.le_of_ble_eq_true rfl), (Nat.le_of_ble_eq_true rfl)⟩ (fun u_ H locs hq129 hP hD hS => ?_)
                  obtain ⟨lz2_126, fc2_127, q_128⟩ := u_
                  replace hq129 : (0 ≤ lz2_126.toInt ∧ lz2_126.toInt ≤ 400) := hq129
                  have hP : va_P g.1 vwCl (List.flatten [bLT g lt ta lo, bTape g ta ab sz ln kd2_122 bg2_123 nx2_124 (-1) fb, bLaw g lo lc lz2_126 ll lm lg ld fc2_127]) H := hP
                  have hD : va_D A (List.flatten [bLT g lt ta lo, bTape g ta ab sz ln kd2_122 bg2_123 nx2_124 (-1) fb, bLaw g lo lc lz2_126 ll lm lg ld fc2_127]) := hD
                  refine W.widen (k := 0) (n := 0) (Nat.le_of_ble_eq_true rfl) (Nat.le_of_ble_eq_true rfl) ?_
                  refine W.eq (g2 := F0 m 149 ls [.int q_128]) rfl ?_
                  refine lv_pop hx hb dX2_readSum_149 rfl ?_
                  refine lv_aload_n hx hb dX2_readSum_150 rfl (lv_at hl 2 rfl) ?_
                  refine va_get (D := g.1) (ci := 2) (v := .ref ta) (C := RX2) (T := TX2) (N := 2) hx hb hts izRX2 hown hK hP 0 rfl rfl 0 (by decide) (hts _ k290) (fun x9 h9 => u_same (hts _ k291) x9 h9) rfl dX2_readSum_151 ?_
                  refine lv_bipush (v := 43) hx hb dX2_readSum_154 (by decide) ?_
                  have hL43 : (43 : Int32).toInt = 43 := by decide
                  refine mcallV' (g := g) (q0 := 0) (ci := 6) (As := [.int 43]) (rest := []) St hK hT hA hP hD hS hl.1 [1] [0, 2] rfl rfl rfl (c_t_takeSignF l g ta ab sz ln kd2_122 bg2_123 nx2_124 (-1) fb 43 hln hq125_0 hq125_1 hq125_2 hq125_4) (cwV 1 hts (zgL (zl4 k300 k301 k302 k277) k286) rfl rfl rfl (by decide +kernel) ⟨Nat.le_of_ble_eq_true rfl, Nat.le_of_ble_eq_true rfl⟩) rfl rfl rfl rfl (Nat.le_of_ble_eq_true rfl) dX2_readSum_156 ⟨(Nat.le_of_ble_eq_true rfl), (Nat.le_of_ble_eq_true rfl)⟩ (fun u_ H locs hq134 hP hD hS => ?_)
                  obtain ⟨kd2_130, bg2_131, nx2_132, q_133⟩ := u_
                  replace hq134 : (0 ≤ nx2_132.toInt ∧ nx2_132.toInt ≤ 400) ∧ (0 ≤ bg2_131.toInt ∧ bg2_131.toInt ≤ 400) ∧ (zKd kd2_130.toInt bg2_131.toInt nx2_132.toInt) ∧ (zTk fb ln.toInt kd2_130.toInt bg2_131.toInt nx2_132.toInt) ∧ (q_133 = 1 ∧ zisS fb ln.toInt bg2_123.toInt (43 : Int32).toInt ∧ zMv fb ln.toInt bg2_123.toInt bg2_131.toInt ∨ q_133 = 0 ∧ ¬ zisS fb ln.toInt bg2_123.toInt (43 : Int32).toInt ∧ kd2_122 = kd2_130 ∧ bg2_123 = bg2_131 ∧ nx2_124 = nx2_132) := hq134
                  have hP : va_P g.1 vwCl (List.flatten [bLT g lt ta lo, bLaw g lo lc lz2_126 ll lm lg ld fc2_127, bTape g ta ab sz ln kd2_130 bg2_131 nx2_132 (-1) fb]) H := hP
                  have hD : va_D A (List.flatten [bLT g lt ta lo, bLaw g lo lc lz2_126 ll lm lg ld fc2_127, bTape g ta ab sz ln kd2_130 bg2_131 nx2_132 (-1) fb]) := hD
                  refine W.widen (k := 0) (n := 0) (Nat.le_of_ble_eq_true rfl) (Nat.le_of_ble_eq_true rfl) ?_
                  refine W.eq (g2 := F0 m 159 ls [.int q_133]) rfl ?_
                  obtain ⟨hq134_0, hq134_1, hq134_2, hq134_3, hq134_4⟩ := hq134
                  rcases hq134_4 with ⟨rfl, hq134_k, hq134_km⟩ | ⟨rfl, hq134_k, rfl, rfl, rfl⟩
                  · skip
                    refine lv_if_ne (tgt := 164) hx hb dX2_readSum_159 (by decide) (fun _ => ?_) (fun c135 => absurd c135 (by decide))
                    have w136 : x_3.toInt < bg2_123.toInt := zMv_lt (f := fb) (n := ln.toInt) (by omega) (zPt_z (Or.inl (Or.inr (Or.inr (Or.inr (Or.inr (Or.inl (hq119_k)))))))) (zMv_mk i12 hq125_3)
                    have w137 : bg2_123.toInt < bg2_131.toInt := zMv_lt (f := fb) (n := ln.toInt) (by omega) (zisS_z hq134_k) hq134_km
                    have w138 : ∀ r9, zSum fb ln.toInt bg2_131.toInt r9 → zSum fb ln.toInt bg.toInt r9 := fun r9 h9 => i14 r9 (zSum_more (by decide) (Or.inl (Or.inr (Or.inr (Or.inr (Or.inr (Or.inl (hq119_k))))))) (zMv_mk i12 hq125_3) hq134_k hq134_km h9)
                    refine ziinc3 (n' := 1) (a' := 1) (b' := 400) (lv' := fun v9 => [(1, .int v9), (3, .int 0), (2, .int 5), (0, .ref lt)]) hx hb dX2_readSum_164 hl (k := 3) rfl (by decide) (fun _ => rfl) (zaddK (i := x_1.toInt) (j := 1) rfl (by decide) i7.1 n21 (Int.le_refl _) (Int.le_refl _) (by decide)) (fun x_139 ls hx_139 hl => ?_)
                    refine lv_goto (tgt := 2) hx hb dX2_readSum_167 (by decide) ?_
                    have hl := lv_sub (l' := [(0, .ref lt), (1, .int x_139), (2, .int 5), (3, .int 0)]) hl [3, 0, 2, 1] rfl
                    have hP : va_P g.1 vwCl (List.flatten [bLT g lt ta lo, bLaw g lo lc lz2_126 ll lm lg ld fc2_127, bTape g ta ab sz ln kd2_130 bg2_131 nx2_132 (-1) fb]) H := hP
                    have hD : va_D A (List.flatten [bLT g lt ta lo, bLaw g lo lc lz2_126 ll lm lg ld fc2_127, bTape g ta ab sz ln kd2_130 bg2_131 nx2_132 (-1) fb]) := hD
                    obtain ⟨hP, hD⟩ := zord (g := g) (Bs' := [bLT g lt ta lo, bTape g ta ab sz ln kd2_130 bg2_131 nx2_132 (-1) fb, bLaw g lo lc lz2_126 ll lm lg ld fc2_127]) [0, 2, 1] rfl rfl hP hD
                    have hP : va_P g.1 vwCl (List.flatten [bLT g lt ta lo, bTape g ta ab sz ln kd2_130 bg2_131 nx2_132 (-1) fb, bLaw g lo lc lz2_126 ll lm lg ld fc2_127]) H := hP
                    have hD : va_D A (List.flatten [bLT g lt ta lo, bTape g ta ab sz ln kd2_130 bg2_131 nx2_132 (-1) fb, bLaw g lo lc lz2_126 ll lm lg ld fc2_127]) := hD
                    exact ih2_16 x_139 kd2_130 bg2_131 nx2_132 lz2_126 fc2_127 ⟨(Int.le_trans (by decide) hx_139.2.1), hx_139.2.2⟩ ⟨hq134_1.1, hq134_1.2⟩ ⟨hq134_0.1, hq134_0.2⟩ ⟨hq129.1, hq129.2⟩ hq134_2 hq134_3 (by first | omega | assumption | decide) w138 H _ ls (zmK hx_139.1 (by decide) n21 (by decide) hk2_16)  hP hD hS (lv_sub hl [0, 1] rfl)
                  · skip
                    refine lv_if_ne (tgt := 164) hx hb dX2_readSum_159 (by decide) (fun c140 => absurd (by decide) c140) (fun _ => ?_)
                    refine lv_iconst (v := 1) hx hb dX2_readSum_162 (by decide) ?_
                    have hP : va_P g.1 vwCl (List.flatten [bLT g lt ta lo, bLaw g lo lc lz2_126 ll lm lg ld fc2_127, bTape g ta ab sz ln kd2_122 bg2_123 nx2_124 (-1) fb]) H := hP
                    have hD : va_D A (List.flatten [bLT g lt ta lo, bLaw g lo lc lz2_126 ll lm lg ld fc2_127, bTape g ta ab sz ln kd2_122 bg2_123 nx2_124 (-1) fb]) := hD
                    obtain ⟨hP, hD⟩ := zord (g := g) (Bs' := [bLT g lt ta lo, bTape g ta ab sz ln kd2_122 bg2_123 nx2_124 (-1) fb, bLaw g lo lc lz2_126 ll lm lg ld fc2_127]) [0, 2, 1] rfl rfl hP hD
                    exact mret_z hx hb hr hlocks hS (Nat.le_of_ble_eq_true rfl) (Nat.le_of_ble_eq_true rfl) dX2_readSum_163 (kd2_122, bg2_123, nx2_124, -1, lz2_126, fc2_127, (1 : Int32)) rfl (by decide) (show (0 ≤ lz2_126.toInt ∧ lz2_126.toInt ≤ 400) ∧ (-1 ≤ ((-1) : Int32).toInt) ∧ (0 ≤ nx2_124.toInt ∧ nx2_124.toInt ≤ 400) ∧ (0 ≤ bg2_123.toInt ∧ bg2_123.toInt ≤ 400) ∧ (zKd kd2_122.toInt bg2_123.toInt nx2_124.toInt) ∧ (zTk fb ln.toInt kd2_122.toInt bg2_123.toInt nx2_124.toInt) ∧ (1 = 1 ∧ zSum fb ln.toInt bg.toInt (.ok bg2_123.toInt) ∧ (-1) = (-1) ∨ 1 = 0 ∧ zSum fb ln.toInt bg.toInt (.bad ((-1) : Int32).toInt)) from ⟨(by first | assumption | omega | exact Or.inl (by decide) | exact Or.inr (by omega)), (by decide), (by first | assumption | omega | exact Or.inl (by decide) | exact Or.inr (by omega)), (by first | assumption | omega | exact Or.inl (by decide) | exact Or.inr (by omega)), (by first | assumption | omega | exact Or.inl (by decide) | exact Or.inr (by omega)), (by assumption), (Or.inl ⟨rfl, i14 _ (zSum_one (by decide) (Or.inl (Or.inr (Or.inr (Or.inr (Or.inr (Or.inl (hq119_k))))))) (zMv_mk i12 hq125_3) hq134_k), rfl⟩)⟩) hP hD
                · skip
                  refine lv_if_eq (tgt := 89) hx hb dX2_readSum_82 (by decide) (fun _ => ?_) (fun c141 => absurd (by decide) c141)
                  refine lv_aload_n hx hb dX2_readSum_89 rfl (lv_at hl 0 rfl) ?_
                  refine va_get (D := g.1) (ci := 2) (v := .ref ta) (C := RX2) (T := TX2) (N := 2) hx hb hts izRX2 hown hK hP 0 rfl rfl 0 (by decide) (hts _ k290) (fun x9 h9 => u_same (hts _ k291) x9 h9) rfl dX2_readSum_90 ?_
                  refine va_ldcS (q := g.2 36) hx hb hown (zra13 hT.2.1) dX2_readSum_93 ?_
                  refine mcallV' (g := g) (q0 := 0) (ci := 6) (As := [.ref (g.2 36)]) (rest := []) St hK hT hA hP hD hS hl.1 [2] [0, 1] rfl rfl rfl (c_t_isWordF l g ta ab sz ln x_2 x_3 x_4 (-1) fb (g.2 36) 13 zqa13 hln i9 i8 i11 i12 rfl zla13 zna13 (zlitB zla13)) (cwV 1 hts (zgL (zl4 k292 k282 k283 k277) k268) rfl rfl rfl (by decide +kernel) ⟨Nat.le_of_ble_eq_true rfl, Nat.le_of_ble_eq_true rfl⟩) rfl rfl rfl rfl (Nat.le_of_ble_eq_true rfl) dX2_readSum_95 ⟨(Nat.le_of_ble_eq_true rfl), (Nat.le_of_ble_eq_true rfl)⟩ (fun r_142 H locs hq143 hP hD hS => ?_)
                  replace hq143 : (r_142 = 1 ∧ zisW fb ln.toInt x_3.toInt zqa13.2.2.2 ∨ r_142 = 0 ∧ ¬ zisW fb ln.toInt x_3.toInt zqa13.2.2.2) := hq143
                  have hP : va_P g.1 vwCl (List.flatten [bLT g lt ta lo, bLaw g lo lc x_5 ll lm lg ld fc_6, bTape g ta ab sz ln x_2 x_3 x_4 (-1) fb]) H := hP
                  have hD : va_D A (List.flatten [bLT g lt ta lo, bLaw g lo lc x_5 ll lm lg ld fc_6, bTape g ta ab sz ln x_2 x_3 x_4 (-1) fb]) := hD
                  refine W.widen (k := 0) (n := 0) (Nat.le_of_ble_eq_true rfl) (Nat.le_of_ble_eq_true rfl) ?_
                  refine W.eq (g2 := F0 m 98 ls [.int r_142]) rfl ?_
                  rcases hq143 with ⟨rfl, hq143_k⟩ | ⟨rfl, hq143_k⟩
                  · skip
                    refine lv_if_eq (tgt := 106) hx hb dX2_readSum_98 (by decide) (fun c144 => absurd c144 (by decide)) (fun _ => ?_)
                    refine lv_bipush (v := 6) hx hb dX2_readSum_101 (by decide) ?_
                    refine lv_goto (tgt := 107) hx hb dX2_readSum_103 (by decide) ?_
                    refine lv_istore_n (lv' := [(2, .int 6), (0, .ref lt), (1, .int x_1)]) hx hb dX2_readSum_107 rfl hl (by decide) rfl (fun ls hl => ?_)
                    refine lv_iconst (v := 0) hx hb dX2_readSum_108 (by decide) ?_
                    refine lv_istore_n (lv' := [(3, .int 0), (2, .int 6), (0, .ref lt), (1, .int x_1)]) hx hb dX2_readSum_109 rfl hl (by decide) rfl (fun ls hl => ?_)
                    refine lv_iload_n hx hb dX2_readSum_110 rfl (lv_at hl 1 rfl) ?_
                    refine lv_if_ne (tgt := 133) hx hb dX2_readSum_111 (by decide) (fun _ => ?_) (fun c145 => absurd c145 (by decide))
                    refine lv_aload_n hx hb dX2_readSum_133 rfl (lv_at hl 2 rfl) ?_
                    refine va_get (D := g.1) (ci := 2) (v := .ref ta) (C := RX2) (T := TX2) (N := 2) hx hb hts izRX2 hown hK hP 0 rfl rfl 0 (by decide) (hts _ k290) (fun x9 h9 => u_same (hts _ k291) x9 h9) rfl dX2_readSum_134 ?_
                    refine mcallV' (g := g) (q0 := 0) (ci := 6) (As := []) (rest := []) St hK hT hA hP hD hS hl.1 [2] [0, 1] rfl rfl rfl (c_t_stepF l g ta ab sz ln x_2 x_3 x_4 (-1) fb hln i9) (cwV 0 hts (zgL (zl4 k296 k275 k276 k277) k271) rfl rfl rfl (by decide +kernel) ⟨Nat.le_of_ble_eq_true rfl, Nat.le_of_ble_eq_true rfl⟩) rfl rfl rfl rfl (Nat.le_of_ble_eq_true rfl) dX2_readSum_137 ⟨(Nat.le_of_ble_eq_true rfl), (Nat.le_of_ble_eq_true rfl)⟩ (fun u_ H locs hq149 hP hD hS => ?_)
                    obtain ⟨kd2_146, bg2_147, nx2_148⟩ := u_
                    replace hq149 : (0 ≤ nx2_148.toInt ∧ nx2_148.toInt ≤ 400) ∧ (0 ≤ bg2_147.toInt ∧ bg2_147.toInt ≤ 400) ∧ (zKd kd2_146.toInt bg2_147.toInt nx2_148.toInt) ∧ (zSk fb ln.toInt x_4.toInt bg2_147.toInt) ∧ (zTk fb ln.toInt kd2_146.toInt bg2_147.toInt nx2_148.toInt) := hq149
                    have hP : va_P g.1 vwCl (List.flatten [bLT g lt ta lo, bLaw g lo lc x_5 ll lm lg ld fc_6, bTape g ta ab sz ln kd2_146 bg2_147 nx2_148 (-1) fb]) H := hP
                    have hD : va_D A (List.flatten [bLT g lt ta lo, bLaw g lo lc x_5 ll lm lg ld fc_6, bTape g ta ab sz ln kd2_146 bg2_147 nx2_148 (-1) fb]) := hD
                    refine W.widen (k := 0) (n := 0) (Nat.le_of_ble_eq_true rfl) (Nat.le_of_ble_eq_true rfl) ?_
                    refine W.eq (g2 := F0 m 140 ls []) rfl ?_
                    obtain ⟨hq149_0, hq149_1, hq149_2, hq149_3, hq149_4⟩ := hq149
                    refine lv_aload_n hx hb dX2_readSum_140 rfl (lv_at hl 2 rfl) ?_
                    refine va_get (D := g.1) (ci := 2) (v := .ref lo) (C := RX2) (T := TX2) (N := 2) hx hb hts izRX2 hown hK hP 0 rfl rfl 1 (by decide) (hts _ k210) (fun _ h9 => h9) rfl dX2_readSum_141 ?_
                    refine lv_iload_n hx hb dX2_readSum_144 rfl (lv_at hl 1 rfl) ?_
                    refine lv_iload_n hx hb dX2_readSum_145 rfl (lv_at hl 0 rfl) ?_
                    refine mcallV' (g := g) (q0 := 0) (ci := 1) (As := [.int 6, .int 0]) (rest := []) St hK hT hA hP hD hS hl.1 [1] [0, 2] rfl rfl rfl (c_l_put l g lo lc x_5 ll lm lg ld fc_6 6 0 i10) (cwV 2 hts (zgL (zl4 k297 k298 k299 k85) k202) rfl rfl rfl (by decide +kernel) ⟨Nat.le_of_ble_eq_true rfl, Nat.le_of_ble_eq_true rfl⟩) rfl rfl rfl rfl (Nat.le_of_ble_eq_true rfl) dX2_readSum_146 ⟨(Nat.le_of_ble_eq_true rfl), (Nat.le_of_ble_eq_true rfl)⟩ (fun u_ H locs hq153 hP hD hS => ?_)
                    obtain ⟨lz2_150, fc2_151, q_152⟩ := u_
                    replace hq153 : (0 ≤ lz2_150.toInt ∧ lz2_150.toInt ≤ 400) := hq153
                    have hP : va_P g.1 vwCl (List.flatten [bLT g lt ta lo, bTape g ta ab sz ln kd2_146 bg2_147 nx2_148 (-1) fb, bLaw g lo lc lz2_150 ll lm lg ld fc2_151]) H := hP
                    have hD : va_D A (List.flatten [bLT g lt ta lo, bTape g ta ab sz ln kd2_146 bg2_147 nx2_148 (-1) fb, bLaw g lo lc lz2_150 ll lm lg ld fc2_151]) := hD
                    refine W.widen (k := 0) (n := 0) (Nat.le_of_ble_eq_true rfl) (Nat.le_of_ble_eq_true rfl) ?_
                    refine W.eq (g2 := F0 m 149 ls [.int q_152]) rfl ?_
                    refine lv_pop hx hb dX2_readSum_149 rfl ?_
                    refine lv_aload_n hx hb dX2_readSum_150 rfl (lv_at hl 2 rfl) ?_
                    refine va_get (D := g.1) (ci := 2) (v := .ref ta) (C := RX2) (T := TX2) (N := 2) hx hb hts izRX2 hown hK hP 0 rfl rfl 0 (by decide) (hts _ k290) (fun x9 h9 => u_same (hts _ k291) x9 h9) rfl dX2_readSum_151 ?_
                    refine lv_bipush (v := 43) hx hb dX2_readSum_154 (by decide) ?_
                    have hL43 : (43 : Int32).toInt = 43 := by decide
                    refine mcallV' (g := g) (q0 := 0) (ci := 6) (As := [.int 43]) (rest := []) St hK hT hA hP hD hS hl.1 [1] [0, 2] rfl rfl rfl (c_t_takeSignF l g ta ab sz ln kd2_146 bg2_147 nx2_148 (-1) fb 43 hln hq149_0 hq149_1 hq149_2 hq149_4) (cwV 1 hts (zgL (zl4 k300 k301 k302 k277) k286) rfl rfl rfl (by decide +kernel) ⟨Nat.le_of_ble_eq_true rfl, Nat.le_of_ble_eq_true rfl⟩) rfl rfl rfl rfl (Nat.le_of_ble_eq_true rfl) dX2_readSum_156 ⟨(Nat.le_of_ble_eq_true rfl), (Nat.le_of_ble_eq_true rfl)⟩ (fun u_ H locs hq158 hP hD hS => ?_)
                    obtain ⟨kd2_154, bg2_155, nx2_156, q_157⟩ := u_
                    replace hq158 : (0 ≤ nx2_156.toInt ∧ nx2_156.toInt ≤ 400) ∧ (0 ≤ bg2_155.toInt ∧ bg2_155.toInt ≤ 400) ∧ (zKd kd2_154.toInt bg2_155.toInt nx2_156.toInt) ∧ (zTk fb ln.toInt kd2_154.toInt bg2_155.toInt nx2_156.toInt) ∧ (q_157 = 1 ∧ zisS fb ln.toInt bg2_147.toInt (43 : Int32).toInt ∧ zMv fb ln.toInt bg2_147.toInt bg2_155.toInt ∨ q_157 = 0 ∧ ¬ zisS fb ln.toInt bg2_147.toInt (43 : Int32).toInt ∧ kd2_146 = kd2_154 ∧ bg2_147 = bg2_155 ∧ nx2_148 = nx2_156) := hq158
                    have hP : va_P g.1 vwCl (List.flatten [bLT g lt ta lo, bLaw g lo lc lz2_150 ll lm lg ld fc2_151, bTape g ta ab sz ln kd2_154 bg2_155 nx2_156 (-1) fb]) H := hP
                    have hD : va_D A (List.flatten [bLT g lt ta lo, bLaw g lo lc lz2_150 ll lm lg ld fc2_151, bTape g ta ab sz ln kd2_154 bg2_155 nx2_156 (-1) fb]) := hD
                    refine W.widen (k := 0) (n := 0) (Nat.le_of_ble_eq_true rfl) (Nat.le_of_ble_eq_true rfl) ?_
                    refine W.eq (g2 := F0 m 159 ls [.int q_157]) rfl ?_
                    obtain ⟨hq158_0, hq158_1, hq158_2, hq158_3, hq158_4⟩ := hq158
                    rcases hq158_4 with ⟨rfl, hq158_k, hq158_km⟩ | ⟨rfl, hq158_k, rfl, rfl, rfl⟩
                    · skip
                      refine lv_if_ne (tgt := 164) hx hb dX2_readSum_159 (by decide) (fun _ => ?_) (fun c159 => absurd c159 (by decide))
                      have w160 : x_3.toInt < bg2_147.toInt := zMv_lt (f := fb) (n := ln.toInt) (by omega) (zPt_z (Or.inl (Or.inr (Or.inr (Or.inr (Or.inr (Or.inr (hq143_k)))))))) (zMv_mk i12 hq149_3)
                      have w161 : bg2_147.toInt < bg2_155.toInt := zMv_lt (f := fb) (n := ln.toInt) (by omega) (zisS_z hq158_k) hq158_km
                      have w162 : ∀ r9, zSum fb ln.toInt bg2_155.toInt r9 → zSum fb ln.toInt bg.toInt r9 := fun r9 h9 => i14 r9 (zSum_more (by decide) (Or.inl (Or.inr (Or.inr (Or.inr (Or.inr (Or.inr (hq143_k))))))) (zMv_mk i12 hq149_3) hq158_k hq158_km h9)
                      refine ziinc3 (n' := 1) (a' := 1) (b' := 400) (lv' := fun v9 => [(1, .int v9), (3, .int 0), (2, .int 6), (0, .ref lt)]) hx hb dX2_readSum_164 hl (k := 3) rfl (by decide) (fun _ => rfl) (zaddK (i := x_1.toInt) (j := 1) rfl (by decide) i7.1 n21 (Int.le_refl _) (Int.le_refl _) (by decide)) (fun x_163 ls hx_163 hl => ?_)
                      refine lv_goto (tgt := 2) hx hb dX2_readSum_167 (by decide) ?_
                      have hl := lv_sub (l' := [(0, .ref lt), (1, .int x_163), (2, .int 6), (3, .int 0)]) hl [3, 0, 2, 1] rfl
                      have hP : va_P g.1 vwCl (List.flatten [bLT g lt ta lo, bLaw g lo lc lz2_150 ll lm lg ld fc2_151, bTape g ta ab sz ln kd2_154 bg2_155 nx2_156 (-1) fb]) H := hP
                      have hD : va_D A (List.flatten [bLT g lt ta lo, bLaw g lo lc lz2_150 ll lm lg ld fc2_151, bTape g ta ab sz ln kd2_154 bg2_155 nx2_156 (-1) fb]) := hD
                      obtain ⟨hP, hD⟩ := zord (g := g) (Bs' := [bLT g lt ta lo, bTape g ta ab sz ln kd2_154 bg2_155 nx2_156 (-1) fb, bLaw g lo lc lz2_150 ll lm lg ld fc2_151]) [0, 2, 1] rfl rfl hP hD
                      have hP : va_P g.1 vwCl (List.flatten [bLT g lt ta lo, bTape g ta ab sz ln kd2_154 bg2_155 nx2_156 (-1) fb, bLaw g lo lc lz2_150 ll lm lg ld fc2_151]) H := hP
                      have hD : va_D A (List.flatten [bLT g lt ta lo, bTape g ta ab sz ln kd2_154 bg2_155 nx2_156 (-1) fb, bLaw g lo lc lz2_150 ll lm lg ld fc2_151]) := hD
                      exact ih2_16 x_163 kd2_154 bg2_155 nx2_156 lz2_150 fc2_151 ⟨(Int.le_trans (by decide) hx_163.2.1), hx_163.2.2⟩ ⟨hq158_1.1, hq158_1.2⟩ ⟨hq158_0.1, hq158_0.2⟩ ⟨hq153.1, hq153.2⟩ hq158_2 hq158_3 (by first | omega | assumption | decide) w162 H _ ls (zmK hx_163.1 (by decide) n21 (by decide) hk2_16)  hP hD hS (lv_sub hl [0, 1] rfl)
                    · skip
                      refine lv_if_ne (tgt := 164) hx hb dX2_readSum_159 (by decide) (fun c164 => absurd (by decide) c164) (fun _ => ?_)
                      refine lv_iconst (v := 1) hx hb dX2_readSum_162 (by decide) ?_
                      have hP : va_P g.1 vwCl (List.flatten [bLT g lt ta lo, bLaw g lo lc lz2_150 ll lm lg ld fc2_151, bTape g ta ab sz ln kd2_146 bg2_147 nx2_148 (-1) fb]) H := hP
                      have hD : va_D A (List.flatten [bLT g lt ta lo, bLaw g lo lc lz2_150 ll lm lg ld fc2_151, bTape g ta ab sz ln kd2_146 bg2_147 nx2_148 (-1) fb]) := hD
                      obtain ⟨hP, hD⟩ := zord (g := g) (Bs' := [bLT g lt ta lo, bTape g ta ab sz ln kd2_146 bg2_147 nx2_148 (-1) fb, bLaw g lo lc lz2_150 ll lm lg ld fc2_151]) [0, 2, 1] rfl rfl hP hD
                      exact mret_z hx hb hr hlocks hS (Nat.le_of_ble_eq_true rfl) (Nat.le_of_ble_eq_true rfl) dX2_readSum_163 (kd2_146, bg2_147, nx2_148, -1, lz2_150, fc2_151, (1 : Int32)) rfl (by decide) (show (0 ≤ lz2_150.toInt ∧ lz2_150.toInt ≤ 400) ∧ (-1 ≤ ((-1) : Int32).toInt) ∧ (0 ≤ nx2_148.toInt ∧ nx2_148.toInt ≤ 400) ∧ (0 ≤ bg2_147.toInt ∧ bg2_147.toInt ≤ 400) ∧ (zKd kd2_146.toInt bg2_147.toInt nx2_148.toInt) ∧ (zTk fb ln.toInt kd2_146.toInt bg2_147.toInt nx2_148.toInt) ∧ (1 = 1 ∧ zSum fb ln.toInt bg.toInt (.ok bg2_147.toInt) ∧ (-1) = (-1) ∨ 1 = 0 ∧ zSum fb ln.toInt bg.toInt (.bad ((-1) : Int32).toInt)) from ⟨(by first | assumption | omega | exact Or.inl (by decide) | exact Or.inr (by omega)), (by decide), (by first | assumption | omega | exact Or.inl (by decide) | exact Or.inr (by omega)), (by first | assumption | omega | exact Or.inl (by decide) | exact Or.inr (by omega)), (by first | assumption | omega | exact Or.inl (by decide) | exact Or.inr (by omega)), (by assumption), (Or.inl ⟨rfl, i14 _ (zSum_one (by decide) (Or.inl (Or.inr (Or.inr (Or.inr (Or.inr (Or.inr (hq143_k))))))) (zMv_mk i12 hq149_3) hq158_k), rfl⟩)⟩) hP hD
                  · skip
                    refine lv_if_eq (tgt := 106) hx hb dX2_readSum_98 (by decide) (fun _ => ?_) (fun c165 => absurd (by decide) c165)
                    refine lv_iconst (v := 0) hx hb dX2_readSum_106 (by decide) ?_
                    refine lv_istore_n (lv' := [(2, .int 0), (0, .ref lt), (1, .int x_1)]) hx hb dX2_readSum_107 rfl hl (by decide) rfl (fun ls hl => ?_)
                    refine lv_iconst (v := 0) hx hb dX2_readSum_108 (by decide) ?_
                    refine lv_istore_n (lv' := [(3, .int 0), (2, .int 0), (0, .ref lt), (1, .int x_1)]) hx hb dX2_readSum_109 rfl hl (by decide) rfl (fun ls hl => ?_)
                    refine lv_iload_n hx hb dX2_readSum_110 rfl (lv_at hl 1 rfl) ?_
                    refine lv_if_ne (tgt := 133) hx hb dX2_readSum_111 (by decide) (fun c166 => absurd (by decide) c166) (fun _ => ?_)
                    refine lv_aload_n hx hb dX2_readSum_114 rfl (lv_at hl 2 rfl) ?_
                    refine va_get (D := g.1) (ci := 2) (v := .ref ta) (C := RX2) (T := TX2) (N := 2) hx hb hts izRX2 hown hK hP 0 rfl rfl 0 (by decide) (hts _ k290) (fun x9 h9 => u_same (hts _ k291) x9 h9) rfl dX2_readSum_115 ?_
                    refine lv_iconst (v := 0) hx hb dX2_readSum_118 (by decide) ?_
                    refine lv_sipush (v := 999) hx hb dX2_readSum_119 (by decide) ?_
                    have hL0 : (0 : Int32).toInt = 0 := by decide
                    have hL999 : (999 : Int32).toInt = 999 := by decide
                    refine mcallV' (g := g) (q0 := 0) (ci := 6) (As := [.int 0, .int 999]) (rest := []) St hK hT hA hP hD hS hl.1 [2] [0, 1] rfl rfl rfl (c_t_numberF l g ta ab sz ln x_2 x_3 x_4 fb 0 999 hln i9 i8 i11 i12) (cwV 2 hts (zgL (zl4 k293 k294 k295 k277) k273) rfl rfl rfl (by decide +kernel) ⟨Nat.le_of_ble_eq_true rfl, Nat.le_of_ble_eq_true rfl⟩) rfl rfl rfl rfl (Nat.le_of_ble_eq_true rfl) dX2_readSum_122 ⟨(Nat.le_of_ble_eq_true rfl), (Nat.le_of_ble_eq_true rfl)⟩ (fun u_ H locs hq172 hP hD hS => ?_)
                    obtain ⟨kd2_167, bg2_168, nx2_169, ft2_170, q_171⟩ := u_
                    replace hq172 : (-1 ≤ ft2_170.toInt) ∧ (0 ≤ nx2_169.toInt ∧ nx2_169.toInt ≤ 400) ∧ (0 ≤ bg2_168.toInt ∧ bg2_168.toInt ≤ 400) ∧ (zKd kd2_167.toInt bg2_168.toInt nx2_169.toInt) ∧ (zTk fb ln.toInt kd2_167.toInt bg2_168.toInt nx2_169.toInt) ∧ (zNu fb ln.toInt x_3.toInt (0 : Int32).toInt (999 : Int32).toInt q_171 ∧ zMv fb ln.toInt x_3.toInt bg2_168.toInt ∧ (-1) = ft2_170 ∨ q_171 = -1 ∧ (¬ ∃ v9, zNu fb ln.toInt x_3.toInt (0 : Int32).toInt (999 : Int32).toInt v9) ∧ x_3 = ft2_170 ∧ x_2 = kd2_167 ∧ x_3 = bg2_168 ∧ x_4 = nx2_169) := hq172
                    have hP : va_P g.1 vwCl (List.flatten [bLT g lt ta lo, bLaw g lo lc x_5 ll lm lg ld fc_6, bTape g ta ab sz ln kd2_167 bg2_168 nx2_169 ft2_170 fb]) H := hP
                    have hD : va_D A (List.flatten [bLT g lt ta lo, bLaw g lo lc x_5 ll lm lg ld fc_6, bTape g ta ab sz ln kd2_167 bg2_168 nx2_169 ft2_170 fb]) := hD
                    refine W.widen (k := 0) (n := 0) (Nat.le_of_ble_eq_true rfl) (Nat.le_of_ble_eq_true rfl) ?_
                    refine W.eq (g2 := F0 m 125 ls [.int q_171]) rfl ?_
                    obtain ⟨hq172_0, hq172_1, hq172_2, hq172_3, hq172_4, hq172_5⟩ := hq172
                    rcases hq172_5 with ⟨hq172_k, hq172_km, rfl⟩ | ⟨rfl, hq172_k, rfl, rfl, rfl, rfl⟩
                    · skip
                      have w173 : 0 ≤ q_171.toInt ∧ q_171.toInt ≤ 999 := ⟨(by have h9 := hq172_k.2.2.1; omega), (by have h9 := hq172_k.2.2.2; omega)⟩
                      refine lv_istore_n (lv' := [(3, .int q_171), (2, .int 0), (0, .ref lt), (1, .int x_1)]) hx hb dX2_readSum_125 rfl hl (by decide) rfl (fun ls hl => ?_)
                      refine lv_iload_n hx hb dX2_readSum_126 rfl (lv_at hl 0 rfl) ?_
                      refine lv_iconst (v := (-1)) hx hb dX2_readSum_127 (by decide) ?_
                      refine lv_icmp_ne (tgt := 140) hx hb dX2_readSum_128 (by decide) (fun cb9 => ?_) (fun cb9 => ?_)
                      · skip
                        have c174 : ¬ q_171.toInt = (-1) := zne cb9 rfl (by decide)
                        refine lv_aload_n hx hb dX2_readSum_140 rfl (lv_at hl 2 rfl) ?_
                        refine va_get (D := g.1) (ci := 2) (v := .ref lo) (C := RX2) (T := TX2) (N := 2) hx hb hts izRX2 hown hK hP 0 rfl rfl 1 (by decide) (hts _ k210) (fun _ h9 => h9) rfl dX2_readSum_141 ?_
                        refine lv_iload_n hx hb dX2_readSum_144 rfl (lv_at hl 1 rfl) ?_
                        refine lv_iload_n hx hb dX2_readSum_145 rfl (lv_at hl 0 rfl) ?_
                        refine mcallV' (g := g) (q0 := 0) (ci := 1) (As := [.int 0, .int q_171]) (rest := []) St hK hT hA hP hD hS hl.1 [1] [0, 2] rfl rfl rfl (c_l_put l g lo lc x_5 ll lm lg ld fc_6 0 q_171 i10) (cwV 2 hts (zgL (zl4 k297 k298 k299 k85) k202) rfl rfl rfl (by decide +kernel) ⟨Nat.le_of_ble_eq_true rfl, Nat.le_of_ble_eq_true rfl⟩) rfl rfl rfl rfl (Nat.le_of_ble_eq_true rfl) dX2_readSum_146 ⟨(Nat.le_of_ble_eq_true rfl), (Nat.le_of_ble_eq_true rfl)⟩ (fun u_ H locs hq178 hP hD hS => ?_)
                        obtain ⟨lz2_175, fc2_176, q_177⟩ := u_
                        replace hq178 : (0 ≤ lz2_175.toInt ∧ lz2_175.toInt ≤ 400) := hq178
                        have hP : va_P g.1 vwCl (List.flatten [bLT g lt ta lo, bTape g ta ab sz ln kd2_167 bg2_168 nx2_169 (-1) fb, bLaw g lo lc lz2_175 ll lm lg ld fc2_176]) H := hP
                        have hD : va_D A (List.flatten [bLT g lt ta lo, bTape g ta ab sz ln kd2_167 bg2_168 nx2_169 (-1) fb, bLaw g lo lc lz2_175 ll lm lg ld fc2_176]) := hD
                        refine W.widen (k := 0) (n := 0) (Nat.le_of_ble_eq_true rfl) (Nat.le_of_ble_eq_true rfl) ?_
                        refine W.eq (g2 := F0 m 149 ls [.int q_177]) rfl ?_
                        refine lv_pop hx hb dX2_readSum_149 rfl ?_
                        refine lv_aload_n hx hb dX2_readSum_150 rfl (lv_at hl 2 rfl) ?_
                        refine va_get (D := g.1) (ci := 2) (v := .ref ta) (C := RX2) (T := TX2) (N := 2) hx hb hts izRX2 hown hK hP 0 rfl rfl 0 (by decide) (hts _ k290) (fun x9 h9 => u_same (hts _ k291) x9 h9) rfl dX2_readSum_151 ?_
                        refine lv_bipush (v := 43) hx hb dX2_readSum_154 (by decide) ?_
                        have hL43 : (43 : Int32).toInt = 43 := by decide
                        refine mcallV' (g := g) (q0 := 0) (ci := 6) (As := [.int 43]) (rest := []) St hK hT hA hP hD hS hl.1 [1] [0, 2] rfl rfl rfl (c_t_takeSignF l g ta ab sz ln kd2_167 bg2_168 nx2_169 (-1) fb 43 hln hq172_1 hq172_2 hq172_3 hq172_4) (cwV 1 hts (zgL (zl4 k300 k301 k302 k277) k286) rfl rfl rfl (by decide +kernel) ⟨Nat.le_of_ble_eq_true rfl, Nat.le_of_ble_eq_true rfl⟩) rfl rfl rfl rfl (Nat.le_of_ble_eq_true rfl) dX2_readSum_156 ⟨(Nat.le_of_ble_eq_true rfl), (Nat.le_of_ble_eq_true rfl)⟩ (fun u_ H locs hq183 hP hD hS => ?_)
                        obtain ⟨kd2_179, bg2_180, nx2_181, q_182⟩ := u_
                        replace hq183 : (0 ≤ nx2_181.toInt ∧ nx2_181.toInt ≤ 400) ∧ (0 ≤ bg2_180.toInt ∧ bg2_180.toInt ≤ 400) ∧ (zKd kd2_179.toInt bg2_180.toInt nx2_181.toInt) ∧ (zTk fb ln.toInt kd2_179.toInt bg2_180.toInt nx2_181.toInt) ∧ (q_182 = 1 ∧ zisS fb ln.toInt bg2_168.toInt (43 : Int32).toInt ∧ zMv fb ln.toInt bg2_168.toInt bg2_180.toInt ∨ q_182 = 0 ∧ ¬ zisS fb ln.toInt bg2_168.toInt (43 : Int32).toInt ∧ kd2_167 = kd2_179 ∧ bg2_168 = bg2_180 ∧ nx2_169 = nx2_181) := hq183
                        have hP : va_P g.1 vwCl (List.flatten [bLT g lt ta lo, bLaw g lo lc lz2_175 ll lm lg ld fc2_176, bTape g ta ab sz ln kd2_179 bg2_180 nx2_181 (-1) fb]) H := hP
                        have hD : va_D A (List.flatten [bLT g lt ta lo, bLaw g lo lc lz2_175 ll lm lg ld fc2_176, bTape g ta ab sz ln kd2_179 bg2_180 nx2_181 (-1) fb]) := hD
                        refine W.widen (k := 0) (n := 0) (Nat.le_of_ble_eq_true rfl) (Nat.le_of_ble_eq_true rfl) ?_
                        refine W.eq (g2 := F0 m 159 ls [.int q_182]) rfl ?_
                        obtain ⟨hq183_0, hq183_1, hq183_2, hq183_3, hq183_4⟩ := hq183
                        rcases hq183_4 with ⟨rfl, hq183_k, hq183_km⟩ | ⟨rfl, hq183_k, rfl, rfl, rfl⟩
                        · skip
                          refine lv_if_ne (tgt := 164) hx hb dX2_readSum_159 (by decide) (fun _ => ?_) (fun c184 => absurd c184 (by decide))
                          have w185 : x_3.toInt < bg2_168.toInt := zMv_lt (f := fb) (n := ln.toInt) (by omega) (zPt_z (Or.inr ⟨_, hq172_k⟩)) hq172_km
                          have w186 : bg2_168.toInt < bg2_180.toInt := zMv_lt (f := fb) (n := ln.toInt) (by omega) (zisS_z hq183_k) hq183_km
                          have w187 : ∀ r9, zSum fb ln.toInt bg2_180.toInt r9 → zSum fb ln.toInt bg.toInt r9 := fun r9 h9 => i14 r9 (zSum_more (by decide) (Or.inr ⟨_, hq172_k⟩) hq172_km hq183_k hq183_km h9)
                          refine ziinc3 (n' := 1) (a' := 1) (b' := 400) (lv' := fun v9 => [(1, .int v9), (3, .int q_171), (2, .int 0), (0, .ref lt)]) hx hb dX2_readSum_164 hl (k := 3) rfl (by decide) (fun _ => rfl) (zaddK (i := x_1.toInt) (j := 1) rfl (by decide) i7.1 n21 (Int.le_refl _) (Int.le_refl _) (by decide)) (fun x_188 ls hx_188 hl => ?_)
                          refine lv_goto (tgt := 2) hx hb dX2_readSum_167 (by decide) ?_
                          have hl := lv_sub (l' := [(0, .ref lt), (1, .int x_188), (2, .int 0), (3, .int q_171)]) hl [3, 0, 2, 1] rfl
                          have hP : va_P g.1 vwCl (List.flatten [bLT g lt ta lo, bLaw g lo lc lz2_175 ll lm lg ld fc2_176, bTape g ta ab sz ln kd2_179 bg2_180 nx2_181 (-1) fb]) H := hP
                          have hD : va_D A (List.flatten [bLT g lt ta lo, bLaw g lo lc lz2_175 ll lm lg ld fc2_176, bTape g ta ab sz ln kd2_179 bg2_180 nx2_181 (-1) fb]) := hD
                          obtain ⟨hP, hD⟩ := zord (g := g) (Bs' := [bLT g lt ta lo, bTape g ta ab sz ln kd2_179 bg2_180 nx2_181 (-1) fb, bLaw g lo lc lz2_175 ll lm lg ld fc2_176]) [0, 2, 1] rfl rfl hP hD
                          have hP : va_P g.1 vwCl (List.flatten [bLT g lt ta lo, bTape g ta ab sz ln kd2_179 bg2_180 nx2_181 (-1) fb, bLaw g lo lc lz2_175 ll lm lg ld fc2_176]) H := hP
                          have hD : va_D A (List.flatten [bLT g lt ta lo, bTape g ta ab sz ln kd2_179 bg2_180 nx2_181 (-1) fb, bLaw g lo lc lz2_175 ll lm lg ld fc2_176]) := hD
                          exact ih2_16 x_188 kd2_179 bg2_180 nx2_181 lz2_175 fc2_176 ⟨(Int.le_trans (by decide) hx_188.2.1), hx_188.2.2⟩ ⟨hq183_1.1, hq183_1.2⟩ ⟨hq183_0.1, hq183_0.2⟩ ⟨hq178.1, hq178.2⟩ hq183_2 hq183_3 (by first | omega | assumption | decide) w187 H _ ls (zmK hx_188.1 (by decide) n21 (by decide) hk2_16)  hP hD hS (lv_sub hl [0, 1] rfl)
                        · skip
                          refine lv_if_ne (tgt := 164) hx hb dX2_readSum_159 (by decide) (fun c189 => absurd (by decide) c189) (fun _ => ?_)
                          refine lv_iconst (v := 1) hx hb dX2_readSum_162 (by decide) ?_
                          have hP : va_P g.1 vwCl (List.flatten [bLT g lt ta lo, bLaw g lo lc lz2_175 ll lm lg ld fc2_176, bTape g ta ab sz ln kd2_167 bg2_168 nx2_169 (-1) fb]) H := hP
                          have hD : va_D A (List.flatten [bLT g lt ta lo, bLaw g lo lc lz2_175 ll lm lg ld fc2_176, bTape g ta ab sz ln kd2_167 bg2_168 nx2_169 (-1) fb]) := hD
                          obtain ⟨hP, hD⟩ := zord (g := g) (Bs' := [bLT g lt ta lo, bTape g ta ab sz ln kd2_167 bg2_168 nx2_169 (-1) fb, bLaw g lo lc lz2_175 ll lm lg ld fc2_176]) [0, 2, 1] rfl rfl hP hD
                          exact mret_z hx hb hr hlocks hS (Nat.le_of_ble_eq_true rfl) (Nat.le_of_ble_eq_true rfl) dX2_readSum_163 (kd2_167, bg2_168, nx2_169, -1, lz2_175, fc2_176, (1 : Int32)) rfl (by decide) (show (0 ≤ lz2_175.toInt ∧ lz2_175.toInt ≤ 400) ∧ (-1 ≤ ((-1) : Int32).toInt) ∧ (0 ≤ nx2_169.toInt ∧ nx2_169.toInt ≤ 400) ∧ (0 ≤ bg2_168.toInt ∧ bg2_168.toInt ≤ 400) ∧ (zKd kd2_167.toInt bg2_168.toInt nx2_169.toInt) ∧ (zTk fb ln.toInt kd2_167.toInt bg2_168.toInt nx2_169.toInt) ∧ (1 = 1 ∧ zSum fb ln.toInt bg.toInt (.ok bg2_168.toInt) ∧ (-1) = (-1) ∨ 1 = 0 ∧ zSum fb ln.toInt bg.toInt (.bad ((-1) : Int32).toInt)) from ⟨(by first | assumption | omega | exact Or.inl (by decide) | exact Or.inr (by omega)), (by decide), (by first | assumption | omega | exact Or.inl (by decide) | exact Or.inr (by omega)), (by first | assumption | omega | exact Or.inl (by decide) | exact Or.inr (by omega)), (by first | assumption | omega | exact Or.inl (by decide) | exact Or.inr (by omega)), (by assumption), (Or.inl ⟨rfl, i14 _ (zSum_one (by decide) (Or.inr ⟨_, hq172_k⟩) hq172_km hq183_k), rfl⟩)⟩) hP hD
                      · skip
                        exact absurd (show q_171.toInt = (-1) from zeq cb9 rfl (by decide)) (zDeq2 (a := 0) (b := (-1)) w173.1 (Int.le_refl _) (by decide))
                    · skip
                      refine lv_istore_n (lv' := [(3, .int (-1)), (2, .int 0), (0, .ref lt), (1, .int x_1)]) hx hb dX2_readSum_125 rfl hl (by decide) rfl (fun ls hl => ?_)
                      refine lv_iload_n hx hb dX2_readSum_126 rfl (lv_at hl 0 rfl) ?_
                      refine lv_iconst (v := (-1)) hx hb dX2_readSum_127 (by decide) ?_
                      refine lv_icmp_ne (tgt := 140) hx hb dX2_readSum_128 (by decide) (fun c191 => absurd (by decide) c191) (fun _ => ?_)
                      refine lv_iconst (v := 0) hx hb dX2_readSum_131 (by decide) ?_
                      have hP : va_P g.1 vwCl (List.flatten [bLT g lt ta lo, bLaw g lo lc x_5 ll lm lg ld fc_6, bTape g ta ab sz ln x_2 x_3 x_4 x_3 fb]) H := hP
                      have hD : va_D A (List.flatten [bLT g lt ta lo, bLaw g lo lc x_5 ll lm lg ld fc_6, bTape g ta ab sz ln x_2 x_3 x_4 x_3 fb]) := hD
                      obtain ⟨hP, hD⟩ := zord (g := g) (Bs' := [bLT g lt ta lo, bTape g ta ab sz ln x_2 x_3 x_4 x_3 fb, bLaw g lo lc x_5 ll lm lg ld fc_6]) [0, 2, 1] rfl rfl hP hD
                      exact mret_z hx hb hr hlocks hS (Nat.le_of_ble_eq_true rfl) (Nat.le_of_ble_eq_true rfl) dX2_readSum_132 (x_2, x_3, x_4, x_3, x_5, fc_6, (0 : Int32)) rfl (by decide) (show (0 ≤ x_5.toInt ∧ x_5.toInt ≤ 400) ∧ (-1 ≤ x_3.toInt) ∧ (0 ≤ x_4.toInt ∧ x_4.toInt ≤ 400) ∧ (0 ≤ x_3.toInt ∧ x_3.toInt ≤ 400) ∧ (zKd x_2.toInt x_3.toInt x_4.toInt) ∧ (zTk fb ln.toInt x_2.toInt x_3.toInt x_4.toInt) ∧ (0 = 1 ∧ zSum fb ln.toInt bg.toInt (.ok x_3.toInt) ∧ (-1) = x_3 ∨ 0 = 0 ∧ zSum fb ln.toInt bg.toInt (.bad x_3.toInt)) from ⟨(by first | assumption | omega | exact Or.inl (by decide) | exact Or.inr (by omega)), (by first | decide | omega), (by first | assumption | omega | exact Or.inl (by decide) | exact Or.inr (by omega)), (by first | assumption | omega | exact Or.inl (by decide) | exact Or.inr (by omega)), (by first | assumption | omega | exact Or.inl (by decide) | exact Or.inr (by omega)), (by assumption), (Or.inr ⟨rfl, i14 _ (.wrong (zPt_n hq23_k hq47_k hq71_k hq95_k hq119_k hq143_k hq172_k))⟩)⟩) hP hD
  have hL0 : (0 : Int32).toInt = 0 := by decide
  have hP : va_P g.1 vwCl (List.flatten [bLT g lt ta lo, bTape g ta ab sz ln kd bg nx (-1) fb, bLaw g lo lc lz ll lm lg ld fc]) s.heap := hP
  have hD : va_D A (List.flatten [bLT g lt ta lo, bTape g ta ab sz ln kd bg nx (-1) fb, bLaw g lo lc lz ll lm lg ld fc]) := hD
  exact LP2_15 _ 0 kd bg nx lz fc (by decide) ⟨hbg.1, hbg.2⟩ ⟨hnx.1, hnx.2⟩ ⟨b_lz.1, b_lz.2⟩ hkd hTk (by first | omega | assumption | decide) (fun _ h9 => h9) s.heap _ ls (Nat.lt_succ_self _)  hP hD hS (lv_sub hl [0, 1] rfl)
set_option maxRecDepth 100000 in
set_option maxHeartbeats 4000000 in
theorem c_lt_readAtom6F (l : Launch) (g : zG) (lt : Nat) (ta : Nat) (lo : Nat) (ab : Nat) (sz : Int32) (ln : Int32) (kd : Int32) (bg : Int32) (nx : Int32) (fb : Nat → Int32) (lc : Nat) (lz : Int32) (ll : Int32) (lm : Int32) (lg : Int32) (ld : Int32) (fc : Nat → Int32) (b_lz : 0 ≤ lz.toInt ∧ lz.toInt ≤ 400) (hln : 0 ≤ ln.toInt ∧ ln.toInt ≤ 400) (hnx : 0 ≤ nx.toInt ∧ nx.toInt ≤ 400) (hbg : 0 ≤ bg.toInt ∧ bg.toInt ≤ 400) (hkd : zKd kd.toInt bg.toInt nx.toInt) (hTk : zTk fb ln.toInt kd.toInt bg.toInt nx.toInt) : zM' g l yX2_readAtom (Cond.code yX2_readAtom cX2_readAtom 3 (some .boolean) :: zB) ({ frames := 6, cells := 0, slots := 0, locals := 130 } : Room) [.ref lt, .int 6] [bLT g lt ta lo, bTape g ta ab sz ln kd bg nx (-1) fb, bLaw g lo lc lz ll lm lg ld fc] (fun u : Int32 × Int32 × Int32 × Int32 × Int32 × (Nat → Int32) × Int32 => (fun (kd2 : Int32) (bg2 : Int32) (nx2 : Int32) (ft2 : Int32) (lz2 : Int32) (fc2 : Nat → Int32) (q : Int32) => some (.int q)) (u.1) (u.2.1) (u.2.2.1) (u.2.2.2.1) (u.2.2.2.2.1) (u.2.2.2.2.2.1) (u.2.2.2.2.2.2)) (fun u : Int32 × Int32 × Int32 × Int32 × Int32 × (Nat → Int32) × Int32 => (fun (kd2 : Int32) (bg2 : Int32) (nx2 : Int32) (ft2 : Int32) (lz2 : Int32) (fc2 : Nat → Int32) (q : Int32) => (0 ≤ lz2.toInt ∧ lz2.toInt ≤ 400) ∧ (-1 ≤ ft2.toInt) ∧ (0 ≤ nx2.toInt ∧ nx2.toInt ≤ 400) ∧ (0 ≤ bg2.toInt ∧ bg2.toInt ≤ 400) ∧ (zKd kd2.toInt bg2.toInt nx2.toInt) ∧ (zTk fb ln.toInt kd2.toInt bg2.toInt nx2.toInt) ∧ (q = 1 ∧ zAtom fb ln.toInt 0 bg.toInt (.ok bg2.toInt) ∧ (-1) = ft2 ∨ q = 0 ∧ zAtom fb ln.toInt 0 bg.toInt (.bad ft2.toInt))) (u.1) (u.2.1) (u.2.2.1) (u.2.2.2.1) (u.2.2.2.2.1) (u.2.2.2.2.2.1) (u.2.2.2.2.2.2)) (fun u : Int32 × Int32 × Int32 × Int32 × Int32 × (Nat → Int32) × Int32 => (fun (kd2 : Int32) (bg2 : Int32) (nx2 : Int32) (ft2 : Int32) (lz2 : Int32) (fc2 : Nat → Int32) (q : Int32) => [bLT g lt ta lo, bTape g ta ab sz ln kd2 bg2 nx2 ft2 fb, bLaw g lo lc lz2 ll lm lg ld fc2]) (u.1) (u.2.1) (u.2.2.1) (u.2.2.2.1) (u.2.2.2.2.1) (u.2.2.2.2.2.1) (u.2.2.2.2.2.2)) := by
  refine zM'.of (cc := cX2_readAtom) (maxL := 3) (rt := (some .boolean)) (by decide) rfl (Nat.le_of_ble_eq_true rfl) ?_
  intro p e s m args below meth c A ls St hr hlocks hin hK hT hA hP hD hS hl
  obtain ⟨hx, hb, hml, hown, hts⟩ := id St
  have hl : lv_has ls 3 [(0, .ref lt), (1, .int 6)] := hl
  refine lv_aload_n hx hb dX2_readAtom_0 rfl (lv_at hl 0 rfl) ?_
  refine va_get (D := g.1) (ci := 2) (v := .ref ta) (C := RX2) (T := TX2) (N := 2) hx hb hts izRX2 hown hK hP 0 rfl rfl 0 (by decide) (hts _ k290) (fun x9 h9 => u_same (hts _ k291) x9 h9) rfl dX2_readAtom_1 ?_
  refine va_ldcS (q := g.2 20) hx hb hown (zra5 hT.2.1) dX2_readAtom_4 ?_
  refine mcallV' (g := g) (q0 := 0) (ci := 6) (As := [.ref (g.2 20)]) (rest := []) St hK hT hA hP hD hS hl.1 [1] [0, 2] rfl rfl rfl (c_t_isWordF l g ta ab sz ln kd bg nx (-1) fb (g.2 20) 5 zqa5 hln hnx hbg hkd hTk rfl zla5 zna5 (zlitB zla5)) (cwV 1 hts (zgL (zl4 k292 k282 k283 k277) k268) rfl rfl rfl (by decide +kernel) ⟨Nat.le_of_ble_eq_true rfl, Nat.le_of_ble_eq_true rfl⟩) rfl rfl rfl rfl (Nat.le_of_ble_eq_true rfl) dX2_readAtom_6 ⟨(Nat.le_of_ble_eq_true rfl), (Nat.le_of_ble_eq_true rfl)⟩ (fun r_1 H locs hq2 hP hD hS => ?_)
  replace hq2 : (r_1 = 1 ∧ zisW fb ln.toInt bg.toInt zqa5.2.2.2 ∨ r_1 = 0 ∧ ¬ zisW fb ln.toInt bg.toInt zqa5.2.2.2) := hq2
  have hP : va_P g.1 vwCl (List.flatten [bLT g lt ta lo, bLaw g lo lc lz ll lm lg ld fc, bTape g ta ab sz ln kd bg nx (-1) fb]) H := hP
  have hD : va_D A (List.flatten [bLT g lt ta lo, bLaw g lo lc lz ll lm lg ld fc, bTape g ta ab sz ln kd bg nx (-1) fb]) := hD
  refine W.widen (k := 0) (n := 0) (Nat.le_of_ble_eq_true rfl) (Nat.le_of_ble_eq_true rfl) ?_
  refine W.eq (g2 := F0 m 9 ls [.int r_1]) rfl ?_
  rcases hq2 with ⟨rfl, hq2_k⟩ | ⟨rfl, hq2_k⟩
  · skip
    refine lv_if_ne (tgt := 24) hx hb dX2_readAtom_9 (by decide) (fun _ => ?_) (fun c3 => absurd c3 (by decide))
    refine lv_iload_n hx hb dX2_readAtom_24 rfl (lv_at hl 1 rfl) ?_
    refine lv_bipush (v := 6) hx hb dX2_readAtom_25 (by decide) ?_
    refine lv_icmp_ge (tgt := 40) hx hb dX2_readAtom_27 (by decide) (fun _ => ?_) (fun c4 => absurd (by decide) c4)
    refine lv_aload_n hx hb dX2_readAtom_40 rfl (lv_at hl 0 rfl) ?_
    refine va_get (D := g.1) (ci := 2) (v := .ref ta) (C := RX2) (T := TX2) (N := 2) hx hb hts izRX2 hown hK hP 0 rfl rfl 0 (by decide) (hts _ k290) (fun x9 h9 => u_same (hts _ k291) x9 h9) rfl dX2_readAtom_41 ?_
    refine mcallV' (g := g) (q0 := 0) (ci := 6) (As := []) (rest := []) St hK hT hA hP hD hS hl.1 [2] [0, 1] rfl rfl rfl (c_t_refuseF l g ta ab sz ln kd bg nx fb ) (cwV 0 hts (zgL (zl4 k303 k279 k280 k277) k269) rfl rfl rfl (by decide +kernel) ⟨Nat.le_of_ble_eq_true rfl, Nat.le_of_ble_eq_true rfl⟩) rfl rfl rfl rfl (Nat.le_of_ble_eq_true rfl) dX2_readAtom_44 ⟨(Nat.le_of_ble_eq_true rfl), (Nat.le_of_ble_eq_true rfl)⟩ (fun _u H locs hq5 hP hD hS => ?_)
    have hP : va_P g.1 vwCl (List.flatten [bLT g lt ta lo, bLaw g lo lc lz ll lm lg ld fc, bTape g ta ab sz ln kd bg nx bg fb]) H := hP
    have hD : va_D A (List.flatten [bLT g lt ta lo, bLaw g lo lc lz ll lm lg ld fc, bTape g ta ab sz ln kd bg nx bg fb]) := hD
    refine W.widen (k := 0) (n := 0) (Nat.le_of_ble_eq_true rfl) (Nat.le_of_ble_eq_true rfl) ?_
    refine W.eq (g2 := F0 m 47 ls [.int 0]) rfl ?_
    have hP : va_P g.1 vwCl (List.flatten [bLT g lt ta lo, bLaw g lo lc lz ll lm lg ld fc, bTape g ta ab sz ln kd bg nx bg fb]) H := hP
    have hD : va_D A (List.flatten [bLT g lt ta lo, bLaw g lo lc lz ll lm lg ld fc, bTape g ta ab sz ln kd bg nx bg fb]) := hD
    obtain ⟨hP, hD⟩ := zord (g := g) (Bs' := [bLT g lt ta lo, bTape g ta ab sz ln kd bg nx bg fb, bLaw g lo lc lz ll lm lg ld fc]) [0, 2, 1] rfl rfl hP hD
    exact mret_z hx hb hr hlocks hS (Nat.le_of_ble_eq_true rfl) (Nat.le_of_ble_eq_true rfl) dX2_readAtom_47 (kd, bg, nx, bg, lz, fc, (0 : Int32)) rfl (by decide) (show (0 ≤ lz.toInt ∧ lz.toInt ≤ 400) ∧ (-1 ≤ bg.toInt) ∧ (0 ≤ nx.toInt ∧ nx.toInt ≤ 400) ∧ (0 ≤ bg.toInt ∧ bg.toInt ≤ 400) ∧ (zKd kd.toInt bg.toInt nx.toInt) ∧ (zTk fb ln.toInt kd.toInt bg.toInt nx.toInt) ∧ (0 = 1 ∧ zAtom fb ln.toInt 0 bg.toInt (.ok bg.toInt) ∧ (-1) = bg ∨ 0 = 0 ∧ zAtom fb ln.toInt 0 bg.toInt (.bad bg.toInt)) from ⟨(by first | assumption | omega | exact Or.inl (by decide) | exact Or.inr (by omega)), (by first | decide | omega), (by first | assumption | omega | exact Or.inl (by decide) | exact Or.inr (by omega)), (by first | assumption | omega | exact Or.inl (by decide) | exact Or.inr (by omega)), (by first | assumption | omega | exact Or.inl (by decide) | exact Or.inr (by omega)), (by assumption), (Or.inr ⟨rfl, zAt_0 (Or.inl hq2_k)⟩)⟩) hP hD
  · skip
    refine lv_if_ne (tgt := 24) hx hb dX2_readAtom_9 (by decide) (fun c6 => absurd (by decide) c6) (fun _ => ?_)
    refine lv_aload_n hx hb dX2_readAtom_12 rfl (lv_at hl 0 rfl) ?_
    refine va_get (D := g.1) (ci := 2) (v := .ref ta) (C := RX2) (T := TX2) (N := 2) hx hb hts izRX2 hown hK hP 0 rfl rfl 0 (by decide) (hts _ k290) (fun x9 h9 => u_same (hts _ k291) x9 h9) rfl dX2_readAtom_13 ?_
    refine lv_bipush (v := 40) hx hb dX2_readAtom_16 (by decide) ?_
    have hL40 : (40 : Int32).toInt = 40 := by decide
    refine mcallV' (g := g) (q0 := 0) (ci := 6) (As := [.int 40]) (rest := []) St hK hT hA hP hD hS hl.1 [2] [0, 1] rfl rfl rfl (c_t_isSignF l g ta ab sz ln kd bg nx (-1) fb 40 hln hnx hbg hkd hTk) (cwV 1 hts (zgL (zl4 k305 k288 k289 k277) k285) rfl rfl rfl (by decide +kernel) ⟨Nat.le_of_ble_eq_true rfl, Nat.le_of_ble_eq_true rfl⟩) rfl rfl rfl rfl (Nat.le_of_ble_eq_true rfl) dX2_readAtom_18 ⟨(Nat.le_of_ble_eq_true rfl), (Nat.le_of_ble_eq_true rfl)⟩ (fun q_7 H locs hq8 hP hD hS => ?_)
    replace hq8 : (q_7 = 1 ∧ zisS fb ln.toInt bg.toInt (40 : Int32).toInt ∨ q_7 = 0 ∧ ¬ zisS fb ln.toInt bg.toInt (40 : Int32).toInt) := hq8
    have hP : va_P g.1 vwCl (List.flatten [bLT g lt ta lo, bLaw g lo lc lz ll lm lg ld fc, bTape g ta ab sz ln kd bg nx (-1) fb]) H := hP
    have hD : va_D A (List.flatten [bLT g lt ta lo, bLaw g lo lc lz ll lm lg ld fc, bTape g ta ab sz ln kd bg nx (-1) fb]) := hD
    refine W.widen (k := 0) (n := 0) (Nat.le_of_ble_eq_true rfl) (Nat.le_of_ble_eq_true rfl) ?_
    refine W.eq (g2 := F0 m 21 ls [.int q_7]) rfl ?_
    rcases hq8 with ⟨rfl, hq8_k⟩ | ⟨rfl, hq8_k⟩
    · skip
      refine lv_if_eq (tgt := 48) hx hb dX2_readAtom_21 (by decide) (fun c9 => absurd c9 (by decide)) (fun _ => ?_)
      refine lv_iload_n hx hb dX2_readAtom_24 rfl (lv_at hl 1 rfl) ?_
      refine lv_bipush (v := 6) hx hb dX2_readAtom_25 (by decide) ?_
      refine lv_icmp_ge (tgt := 40) hx hb dX2_readAtom_27 (by decide) (fun _ => ?_) (fun c10 => absurd (by decide) c10)
      refine lv_aload_n hx hb dX2_readAtom_40 rfl (lv_at hl 0 rfl) ?_
      refine va_get (D := g.1) (ci := 2) (v := .ref ta) (C := RX2) (T := TX2) (N := 2) hx hb hts izRX2 hown hK hP 0 rfl rfl 0 (by decide) (hts _ k290) (fun x9 h9 => u_same (hts _ k291) x9 h9) rfl dX2_readAtom_41 ?_
      refine mcallV' (g := g) (q0 := 0) (ci := 6) (As := []) (rest := []) St hK hT hA hP hD hS hl.1 [2] [0, 1] rfl rfl rfl (c_t_refuseF l g ta ab sz ln kd bg nx fb ) (cwV 0 hts (zgL (zl4 k303 k279 k280 k277) k269) rfl rfl rfl (by decide +kernel) ⟨Nat.le_of_ble_eq_true rfl, Nat.le_of_ble_eq_true rfl⟩) rfl rfl rfl rfl (Nat.le_of_ble_eq_true rfl) dX2_readAtom_44 ⟨(Nat.le_of_ble_eq_true rfl), (Nat.le_of_ble_eq_true rfl)⟩ (fun _u H locs hq11 hP hD hS => ?_)
      have hP : va_P g.1 vwCl (List.flatten [bLT g lt ta lo, bLaw g lo lc lz ll lm lg ld fc, bTape g ta ab sz ln kd bg nx bg fb]) H := hP
      have hD : va_D A (List.flatten [bLT g lt ta lo, bLaw g lo lc lz ll lm lg ld fc, bTape g ta ab sz ln kd bg nx bg fb]) := hD
      refine W.widen (k := 0) (n := 0) (Nat.le_of_ble_eq_true rfl) (Nat.le_of_ble_eq_true rfl) ?_
      refine W.eq (g2 := F0 m 47 ls [.int 0]) rfl ?_
      have hP : va_P g.1 vwCl (List.flatten [bLT g lt ta lo, bLaw g lo lc lz ll lm lg ld fc, bTape g ta ab sz ln kd bg nx bg fb]) H := hP
      have hD : va_D A (List.flatten [bLT g lt ta lo, bLaw g lo lc lz ll lm lg ld fc, bTape g ta ab sz ln kd bg nx bg fb]) := hD
      obtain ⟨hP, hD⟩ := zord (g := g) (Bs' := [bLT g lt ta lo, bTape g ta ab sz ln kd bg nx bg fb, bLaw g lo lc lz ll lm lg ld fc]) [0, 2, 1] rfl rfl hP hD
      exact mret_z hx hb hr hlocks hS (Nat.le_of_ble_eq_true rfl) (Nat.le_of_ble_eq_true rfl) dX2_readAtom_47 (kd, bg, nx, bg, lz, fc, (0 : Int32)) rfl (by decide) (show (0 ≤ lz.toInt ∧ lz.toInt ≤ 400) ∧ (-1 ≤ bg.toInt) ∧ (0 ≤ nx.toInt ∧ nx.toInt ≤ 400) ∧ (0 ≤ bg.toInt ∧ bg.toInt ≤ 400) ∧ (zKd kd.toInt bg.toInt nx.toInt) ∧ (zTk fb ln.toInt kd.toInt bg.toInt nx.toInt) ∧ (0 = 1 ∧ zAtom fb ln.toInt 0 bg.toInt (.ok bg.toInt) ∧ (-1) = bg ∨ 0 = 0 ∧ zAtom fb ln.toInt 0 bg.toInt (.bad bg.toInt)) from ⟨(by first | assumption | omega | exact Or.inl (by decide) | exact Or.inr (by omega)), (by first | decide | omega), (by first | assumption | omega | exact Or.inl (by decide) | exact Or.inr (by omega)), (by first | assumption | omega | exact Or.inl (by decide) | exact Or.inr (by omega)), (by first | assumption | omega | exact Or.inl (by decide) | exact Or.inr (by omega)), (by assumption), (Or.inr ⟨rfl, zAt_0 (Or.inr hq8_k)⟩)⟩) hP hD
    · skip
      refine lv_if_eq (tgt := 48) hx hb dX2_readAtom_21 (by decide) (fun _ => ?_) (fun c12 => absurd (by decide) c12)
      refine lv_aload_n hx hb dX2_readAtom_48 rfl (lv_at hl 0 rfl) ?_
      refine va_get (D := g.1) (ci := 2) (v := .ref ta) (C := RX2) (T := TX2) (N := 2) hx hb hts izRX2 hown hK hP 0 rfl rfl 0 (by decide) (hts _ k290) (fun x9 h9 => u_same (hts _ k291) x9 h9) rfl dX2_readAtom_49 ?_
      refine va_ldcS (q := g.2 22) hx hb hown (zra6 hT.2.1) dX2_readAtom_52 ?_
      refine mcallV' (g := g) (q0 := 0) (ci := 6) (As := [.ref (g.2 22)]) (rest := []) St hK hT hA hP hD hS hl.1 [2] [0, 1] rfl rfl rfl (c_t_takeWordF l g ta ab sz ln kd bg nx (-1) fb (g.2 22) 6 zqa6 hln hnx hbg hkd hTk rfl zla6 zna6 (zlitB zla6)) (cwV 1 hts (zgL (zl4 k310 k311 k312 k277) k284) rfl rfl rfl (by decide +kernel) ⟨Nat.le_of_ble_eq_true rfl, Nat.le_of_ble_eq_true rfl⟩) rfl rfl rfl rfl (Nat.le_of_ble_eq_true rfl) dX2_readAtom_54 ⟨(Nat.le_of_ble_eq_true rfl), (Nat.le_of_ble_eq_true rfl)⟩ (fun u_ H locs hq17 hP hD hS => ?_)
      obtain ⟨kd2_13, bg2_14, nx2_15, r_16⟩ := u_
      replace hq17 : (0 ≤ nx2_15.toInt ∧ nx2_15.toInt ≤ 400) ∧ (0 ≤ bg2_14.toInt ∧ bg2_14.toInt ≤ 400) ∧ (zKd kd2_13.toInt bg2_14.toInt nx2_15.toInt) ∧ (zTk fb ln.toInt kd2_13.toInt bg2_14.toInt nx2_15.toInt) ∧ (r_16 = 1 ∧ zisW fb ln.toInt bg.toInt zqa6.2.2.2 ∧ zMv fb ln.toInt bg.toInt bg2_14.toInt ∨ r_16 = 0 ∧ ¬ zisW fb ln.toInt bg.toInt zqa6.2.2.2 ∧ kd = kd2_13 ∧ bg = bg2_14 ∧ nx = nx2_15) := hq17
      have hP : va_P g.1 vwCl (List.flatten [bLT g lt ta lo, bLaw g lo lc lz ll lm lg ld fc, bTape g ta ab sz ln kd2_13 bg2_14 nx2_15 (-1) fb]) H := hP
      have hD : va_D A (List.flatten [bLT g lt ta lo, bLaw g lo lc lz ll lm lg ld fc, bTape g ta ab sz ln kd2_13 bg2_14 nx2_15 (-1) fb]) := hD
      refine W.widen (k := 0) (n := 0) (Nat.le_of_ble_eq_true rfl) (Nat.le_of_ble_eq_true rfl) ?_
      refine W.eq (g2 := F0 m 57 ls [.int r_16]) rfl ?_
      obtain ⟨hq17_0, hq17_1, hq17_2, hq17_3, hq17_4⟩ := hq17
      rcases hq17_4 with ⟨rfl, hq17_k, hq17_km⟩ | ⟨rfl, hq17_k, rfl, rfl, rfl⟩
      · skip
        refine lv_if_eq (tgt := 73) hx hb dX2_readAtom_57 (by decide) (fun c18 => absurd c18 (by decide)) (fun _ => ?_)
        refine lv_aload_n hx hb dX2_readAtom_60 rfl (lv_at hl 0 rfl) ?_
        refine va_get (D := g.1) (ci := 2) (v := .ref lo) (C := RX2) (T := TX2) (N := 2) hx hb hts izRX2 hown hK hP 0 rfl rfl 1 (by decide) (hts _ k210) (fun _ h9 => h9) rfl dX2_readAtom_61 ?_
        refine lv_bipush (v := 10) hx hb dX2_readAtom_64 (by decide) ?_
        refine lv_iconst (v := 0) hx hb dX2_readAtom_66 (by decide) ?_
        refine mcallV' (g := g) (q0 := 0) (ci := 1) (As := [.int 10, .int 0]) (rest := []) St hK hT hA hP hD hS hl.1 [1] [0, 2] rfl rfl rfl (c_l_put l g lo lc lz ll lm lg ld fc 10 0 b_lz) (cwV 2 hts (zgL (zl4 k297 k298 k299 k85) k202) rfl rfl rfl (by decide +kernel) ⟨Nat.le_of_ble_eq_true rfl, Nat.le_of_ble_eq_true rfl⟩) rfl rfl rfl rfl (Nat.le_of_ble_eq_true rfl) dX2_readAtom_67 ⟨(Nat.le_of_ble_eq_true rfl), (Nat.le_of_ble_eq_true rfl)⟩ (fun u_ H locs hq22 hP hD hS => ?_)
        obtain ⟨lz2_19, fc2_20, q_21⟩ := u_
        replace hq22 : (0 ≤ lz2_19.toInt ∧ lz2_19.toInt ≤ 400) := hq22
        have hP : va_P g.1 vwCl (List.flatten [bLT g lt ta lo, bTape g ta ab sz ln kd2_13 bg2_14 nx2_15 (-1) fb, bLaw g lo lc lz2_19 ll lm lg ld fc2_20]) H := hP
        have hD : va_D A (List.flatten [bLT g lt ta lo, bTape g ta ab sz ln kd2_13 bg2_14 nx2_15 (-1) fb, bLaw g lo lc lz2_19 ll lm lg ld fc2_20]) := hD
        refine W.widen (k := 0) (n := 0) (Nat.le_of_ble_eq_true rfl) (Nat.le_of_ble_eq_true rfl) ?_
        refine W.eq (g2 := F0 m 70 ls [.int q_21]) rfl ?_
        refine lv_pop hx hb dX2_readAtom_70 rfl ?_
        refine lv_iconst (v := 1) hx hb dX2_readAtom_71 (by decide) ?_
        have hP : va_P g.1 vwCl (List.flatten [bLT g lt ta lo, bTape g ta ab sz ln kd2_13 bg2_14 nx2_15 (-1) fb, bLaw g lo lc lz2_19 ll lm lg ld fc2_20]) H := hP
        have hD : va_D A (List.flatten [bLT g lt ta lo, bTape g ta ab sz ln kd2_13 bg2_14 nx2_15 (-1) fb, bLaw g lo lc lz2_19 ll lm lg ld fc2_20]) := hD
        exact mret_z hx hb hr hlocks hS (Nat.le_of_ble_eq_true rfl) (Nat.le_of_ble_eq_true rfl) dX2_readAtom_72 (kd2_13, bg2_14, nx2_15, -1, lz2_19, fc2_20, (1 : Int32)) rfl (by decide) (show (0 ≤ lz2_19.toInt ∧ lz2_19.toInt ≤ 400) ∧ (-1 ≤ ((-1) : Int32).toInt) ∧ (0 ≤ nx2_15.toInt ∧ nx2_15.toInt ≤ 400) ∧ (0 ≤ bg2_14.toInt ∧ bg2_14.toInt ≤ 400) ∧ (zKd kd2_13.toInt bg2_14.toInt nx2_15.toInt) ∧ (zTk fb ln.toInt kd2_13.toInt bg2_14.toInt nx2_15.toInt) ∧ (1 = 1 ∧ zAtom fb ln.toInt 0 bg.toInt (.ok bg2_14.toInt) ∧ (-1) = (-1) ∨ 1 = 0 ∧ zAtom fb ln.toInt 0 bg.toInt (.bad ((-1) : Int32).toInt)) from ⟨(by first | assumption | omega | exact Or.inl (by decide) | exact Or.inr (by omega)), (by decide), (by first | assumption | omega | exact Or.inl (by decide) | exact Or.inr (by omega)), (by first | assumption | omega | exact Or.inl (by decide) | exact Or.inr (by omega)), (by first | assumption | omega | exact Or.inl (by decide) | exact Or.inr (by omega)), (by assumption), (Or.inl ⟨rfl, zAt_pl (zor_n hq2_k hq8_k) (zPl_word (Or.inl hq17_k) hq17_km), rfl⟩)⟩) hP hD
      · skip
        refine lv_if_eq (tgt := 73) hx hb dX2_readAtom_57 (by decide) (fun _ => ?_) (fun c23 => absurd (by decide) c23)
        refine lv_aload_n hx hb dX2_readAtom_73 rfl (lv_at hl 0 rfl) ?_
        refine va_get (D := g.1) (ci := 2) (v := .ref ta) (C := RX2) (T := TX2) (N := 2) hx hb hts izRX2 hown hK hP 0 rfl rfl 0 (by decide) (hts _ k290) (fun x9 h9 => u_same (hts _ k291) x9 h9) rfl dX2_readAtom_74 ?_
        refine va_ldcS (q := g.2 24) hx hb hown (zra7 hT.2.1) dX2_readAtom_77 ?_
        refine mcallV' (g := g) (q0 := 0) (ci := 6) (As := [.ref (g.2 24)]) (rest := []) St hK hT hA hP hD hS hl.1 [2] [0, 1] rfl rfl rfl (c_t_takeWordF l g ta ab sz ln kd bg nx (-1) fb (g.2 24) 7 zqa7 hln hnx hbg hkd hTk rfl zla7 zna7 (zlitB zla7)) (cwV 1 hts (zgL (zl4 k310 k311 k312 k277) k284) rfl rfl rfl (by decide +kernel) ⟨Nat.le_of_ble_eq_true rfl, Nat.le_of_ble_eq_true rfl⟩) rfl rfl rfl rfl (Nat.le_of_ble_eq_true rfl) dX2_readAtom_79 ⟨(Nat.le_of_ble_eq_true rfl), (Nat.le_of_ble_eq_true rfl)⟩ (fun u_ H locs hq28 hP hD hS => ?_)
        obtain ⟨kd2_24, bg2_25, nx2_26, r_27⟩ := u_
        replace hq28 : (0 ≤ nx2_26.toInt ∧ nx2_26.toInt ≤ 400) ∧ (0 ≤ bg2_25.toInt ∧ bg2_25.toInt ≤ 400) ∧ (zKd kd2_24.toInt bg2_25.toInt nx2_26.toInt) ∧ (zTk fb ln.toInt kd2_24.toInt bg2_25.toInt nx2_26.toInt) ∧ (r_27 = 1 ∧ zisW fb ln.toInt bg.toInt zqa7.2.2.2 ∧ zMv fb ln.toInt bg.toInt bg2_25.toInt ∨ r_27 = 0 ∧ ¬ zisW fb ln.toInt bg.toInt zqa7.2.2.2 ∧ kd = kd2_24 ∧ bg = bg2_25 ∧ nx = nx2_26) := hq28
        have hP : va_P g.1 vwCl (List.flatten [bLT g lt ta lo, bLaw g lo lc lz ll lm lg ld fc, bTape g ta ab sz ln kd2_24 bg2_25 nx2_26 (-1) fb]) H := hP
        have hD : va_D A (List.flatten [bLT g lt ta lo, bLaw g lo lc lz ll lm lg ld fc, bTape g ta ab sz ln kd2_24 bg2_25 nx2_26 (-1) fb]) := hD
        refine W.widen (k := 0) (n := 0) (Nat.le_of_ble_eq_true rfl) (Nat.le_of_ble_eq_true rfl) ?_
        refine W.eq (g2 := F0 m 82 ls [.int r_27]) rfl ?_
        obtain ⟨hq28_0, hq28_1, hq28_2, hq28_3, hq28_4⟩ := hq28
        rcases hq28_4 with ⟨rfl, hq28_k, hq28_km⟩ | ⟨rfl, hq28_k, rfl, rfl, rfl⟩
        · skip
          refine lv_if_eq (tgt := 98) hx hb dX2_readAtom_82 (by decide) (fun c29 => absurd c29 (by decide)) (fun _ => ?_)
          refine lv_aload_n hx hb dX2_readAtom_85 rfl (lv_at hl 0 rfl) ?_
          refine va_get (D := g.1) (ci := 2) (v := .ref lo) (C := RX2) (T := TX2) (N := 2) hx hb hts izRX2 hown hK hP 0 rfl rfl 1 (by decide) (hts _ k210) (fun _ h9 => h9) rfl dX2_readAtom_86 ?_
          refine lv_bipush (v := 11) hx hb dX2_readAtom_89 (by decide) ?_
          refine lv_iconst (v := 0) hx hb dX2_readAtom_91 (by decide) ?_
          refine mcallV' (g := g) (q0 := 0) (ci := 1) (As := [.int 11, .int 0]) (rest := []) St hK hT hA hP hD hS hl.1 [1] [0, 2] rfl rfl rfl (c_l_put l g lo lc lz ll lm lg ld fc 11 0 b_lz) (cwV 2 hts (zgL (zl4 k297 k298 k299 k85) k202) rfl rfl rfl (by decide +kernel) ⟨Nat.le_of_ble_eq_true rfl, Nat.le_of_ble_eq_true rfl⟩) rfl rfl rfl rfl (Nat.le_of_ble_eq_true rfl) dX2_readAtom_92 ⟨(Nat.le_of_ble_eq_true rfl), (Nat.le_of_ble_eq_true rfl)⟩ (fun u_ H locs hq33 hP hD hS => ?_)
          obtain ⟨lz2_30, fc2_31, q_32⟩ := u_
          replace hq33 : (0 ≤ lz2_30.toInt ∧ lz2_30.toInt ≤ 400) := hq33
          have hP : va_P g.1 vwCl (List.flatten [bLT g lt ta lo, bTape g ta ab sz ln kd2_24 bg2_25 nx2_26 (-1) fb, bLaw g lo lc lz2_30 ll lm lg ld fc2_31]) H := hP
          have hD : va_D A (List.flatten [bLT g lt ta lo, bTape g ta ab sz ln kd2_24 bg2_25 nx2_26 (-1) fb, bLaw g lo lc lz2_30 ll lm lg ld fc2_31]) := hD
          refine W.widen (k := 0) (n := 0) (Nat.le_of_ble_eq_true rfl) (Nat.le_of_ble_eq_true rfl) ?_
          refine W.eq (g2 := F0 m 95 ls [.int q_32]) rfl ?_
          refine lv_pop hx hb dX2_readAtom_95 rfl ?_
          refine lv_iconst (v := 1) hx hb dX2_readAtom_96 (by decide) ?_
          have hP : va_P g.1 vwCl (List.flatten [bLT g lt ta lo, bTape g ta ab sz ln kd2_24 bg2_25 nx2_26 (-1) fb, bLaw g lo lc lz2_30 ll lm lg ld fc2_31]) H := hP
          have hD : va_D A (List.flatten [bLT g lt ta lo, bTape g ta ab sz ln kd2_24 bg2_25 nx2_26 (-1) fb, bLaw g lo lc lz2_30 ll lm lg ld fc2_31]) := hD
          exact mret_z hx hb hr hlocks hS (Nat.le_of_ble_eq_true rfl) (Nat.le_of_ble_eq_true rfl) dX2_readAtom_97 (kd2_24, bg2_25, nx2_26, -1, lz2_30, fc2_31, (1 : Int32)) rfl (by decide) (show (0 ≤ lz2_30.toInt ∧ lz2_30.toInt ≤ 400) ∧ (-1 ≤ ((-1) : Int32).toInt) ∧ (0 ≤ nx2_26.toInt ∧ nx2_26.toInt ≤ 400) ∧ (0 ≤ bg2_25.toInt ∧ bg2_25.toInt ≤ 400) ∧ (zKd kd2_24.toInt bg2_25.toInt nx2_26.toInt) ∧ (zTk fb ln.toInt kd2_24.toInt bg2_25.toInt nx2_26.toInt) ∧ (1 = 1 ∧ zAtom fb ln.toInt 0 bg.toInt (.ok bg2_25.toInt) ∧ (-1) = (-1) ∨ 1 = 0 ∧ zAtom fb ln.toInt 0 bg.toInt (.bad ((-1) : Int32).toInt)) from ⟨(by first | assumption | omega | exact Or.inl (by decide) | exact Or.inr (by omega)), (by decide), (by first | assumption | omega | exact Or.inl (by decide) | exact Or.inr (by omega)), (by first | assumption | omega | exact Or.inl (by decide) | exact Or.inr (by omega)), (by first | assumption | omega | exact Or.inl (by decide) | exact Or.inr (by omega)), (by assumption), (Or.inl ⟨rfl, zAt_pl (zor_n hq2_k hq8_k) (zPl_word (Or.inr hq28_k) hq28_km), rfl⟩)⟩) hP hD
        · skip
          refine lv_if_eq (tgt := 98) hx hb dX2_readAtom_82 (by decide) (fun _ => ?_) (fun c34 => absurd (by decide) c34)
          refine lv_aload_n hx hb dX2_readAtom_98 rfl (lv_at hl 0 rfl) ?_
          refine mcallV' (g := g) (q0 := 0) (ci := 2) (As := []) (rest := []) St hK hT hA hP hD hS hl.1 [0, 2, 1] [] rfl rfl rfl (c_lt_readSumF l g lt ta lo ab sz ln kd bg nx fb lc lz ll lm lg ld fc b_lz hln hnx hbg hkd hTk) (cwV 0 hts (zgL (zl4 k313 k314 k315 k309) k304) rfl rfl rfl (by decide +kernel) ⟨Nat.le_of_ble_eq_true rfl, Nat.le_of_ble_eq_true rfl⟩) rfl rfl rfl rfl (Nat.le_of_ble_eq_true rfl) dX2_readAtom_99 ⟨(Nat.le_of_ble_eq_true rfl), (Nat.le_of_ble_eq_true rfl)⟩ (fun u_ H locs hq42 hP hD hS => ?_)
          obtain ⟨kd2_35, bg2_36, nx2_37, ft2_38, lz2_39, fc2_40, q_41⟩ := u_
          replace hq42 : (0 ≤ lz2_39.toInt ∧ lz2_39.toInt ≤ 400) ∧ (-1 ≤ ft2_38.toInt) ∧ (0 ≤ nx2_37.toInt ∧ nx2_37.toInt ≤ 400) ∧ (0 ≤ bg2_36.toInt ∧ bg2_36.toInt ≤ 400) ∧ (zKd kd2_35.toInt bg2_36.toInt nx2_37.toInt) ∧ (zTk fb ln.toInt kd2_35.toInt bg2_36.toInt nx2_37.toInt) ∧ (q_41 = 1 ∧ zSum fb ln.toInt bg.toInt (.ok bg2_36.toInt) ∧ (-1) = ft2_38 ∨ q_41 = 0 ∧ zSum fb ln.toInt bg.toInt (.bad ft2_38.toInt)) := hq42
          have hP : va_P g.1 vwCl (List.flatten [bLT g lt ta lo, bTape g ta ab sz ln kd2_35 bg2_36 nx2_37 ft2_38 fb, bLaw g lo lc lz2_39 ll lm lg ld fc2_40]) H := hP
          have hD : va_D A (List.flatten [bLT g lt ta lo, bTape g ta ab sz ln kd2_35 bg2_36 nx2_37 ft2_38 fb, bLaw g lo lc lz2_39 ll lm lg ld fc2_40]) := hD
          refine W.widen (k := 0) (n := 0) (Nat.le_of_ble_eq_true rfl) (Nat.le_of_ble_eq_true rfl) ?_
          refine W.eq (g2 := F0 m 102 ls [.int q_41]) rfl ?_
          obtain ⟨hq42_0, hq42_1, hq42_2, hq42_3, hq42_4, hq42_5, hq42_6⟩ := hq42
          rcases hq42_6 with ⟨rfl, hq42_k, rfl⟩ | ⟨rfl, hq42_k⟩
          · skip
            refine lv_if_ne (tgt := 107) hx hb dX2_readAtom_102 (by decide) (fun _ => ?_) (fun c43 => absurd c43 (by decide))
            refine lv_aload_n hx hb dX2_readAtom_107 rfl (lv_at hl 0 rfl) ?_
            refine va_get (D := g.1) (ci := 2) (v := .ref ta) (C := RX2) (T := TX2) (N := 2) hx hb hts izRX2 hown hK hP 0 rfl rfl 0 (by decide) (hts _ k290) (fun x9 h9 => u_same (hts _ k291) x9 h9) rfl dX2_readAtom_108 ?_
            refine lv_bipush (v := 60) hx hb dX2_readAtom_111 (by decide) ?_
            have hL60 : (60 : Int32).toInt = 60 := by decide
            refine mcallV' (g := g) (q0 := 0) (ci := 6) (As := [.int 60]) (rest := []) St hK hT hA hP hD hS hl.1 [1] [0, 2] rfl rfl rfl (c_t_isSignF l g ta ab sz ln kd2_35 bg2_36 nx2_37 (-1) fb 60 hln hq42_2 hq42_3 hq42_4 hq42_5) (cwV 1 hts (zgL (zl4 k305 k288 k289 k277) k285) rfl rfl rfl (by decide +kernel) ⟨Nat.le_of_ble_eq_true rfl, Nat.le_of_ble_eq_true rfl⟩) rfl rfl rfl rfl (Nat.le_of_ble_eq_true rfl) dX2_readAtom_113 ⟨(Nat.le_of_ble_eq_true rfl), (Nat.le_of_ble_eq_true rfl)⟩ (fun q_44 H locs hq45 hP hD hS => ?_)
            replace hq45 : (q_44 = 1 ∧ zisS fb ln.toInt bg2_36.toInt (60 : Int32).toInt ∨ q_44 = 0 ∧ ¬ zisS fb ln.toInt bg2_36.toInt (60 : Int32).toInt) := hq45
            have hP : va_P g.1 vwCl (List.flatten [bLT g lt ta lo, bLaw g lo lc lz2_39 ll lm lg ld fc2_40, bTape g ta ab sz ln kd2_35 bg2_36 nx2_37 (-1) fb]) H := hP
            have hD : va_D A (List.flatten [bLT g lt ta lo, bLaw g lo lc lz2_39 ll lm lg ld fc2_40, bTape g ta ab sz ln kd2_35 bg2_36 nx2_37 (-1) fb]) := hD
            refine W.widen (k := 0) (n := 0) (Nat.le_of_ble_eq_true rfl) (Nat.le_of_ble_eq_true rfl) ?_
            refine W.eq (g2 := F0 m 116 ls [.int q_44]) rfl ?_
            rcases hq45 with ⟨rfl, hq45_k⟩ | ⟨rfl, hq45_k⟩
            · skip
              refine lv_istore_n (lv' := [(2, .int 1), (0, .ref lt), (1, .int 6)]) hx hb dX2_readAtom_116 rfl hl (by decide) rfl (fun ls hl => ?_)
              refine lv_iload_n hx hb dX2_readAtom_117 rfl (lv_at hl 0 rfl) ?_
              refine lv_if_ne (tgt := 141) hx hb dX2_readAtom_118 (by decide) (fun _ => ?_) (fun c46 => absurd c46 (by decide))
              refine lv_aload_n hx hb dX2_readAtom_141 rfl (lv_at hl 1 rfl) ?_
              refine va_get (D := g.1) (ci := 2) (v := .ref ta) (C := RX2) (T := TX2) (N := 2) hx hb hts izRX2 hown hK hP 0 rfl rfl 0 (by decide) (hts _ k290) (fun x9 h9 => u_same (hts _ k291) x9 h9) rfl dX2_readAtom_142 ?_
              refine mcallV' (g := g) (q0 := 0) (ci := 6) (As := []) (rest := []) St hK hT hA hP hD hS hl.1 [2] [0, 1] rfl rfl rfl (c_t_stepF l g ta ab sz ln kd2_35 bg2_36 nx2_37 (-1) fb hln hq42_2) (cwV 0 hts (zgL (zl4 k296 k275 k276 k277) k271) rfl rfl rfl (by decide +kernel) ⟨Nat.le_of_ble_eq_true rfl, Nat.le_of_ble_eq_true rfl⟩) rfl rfl rfl rfl (Nat.le_of_ble_eq_true rfl) dX2_readAtom_145 ⟨(Nat.le_of_ble_eq_true rfl), (Nat.le_of_ble_eq_true rfl)⟩ (fun u_ H locs hq50 hP hD hS => ?_)
              obtain ⟨kd2_47, bg2_48, nx2_49⟩ := u_
              replace hq50 : (0 ≤ nx2_49.toInt ∧ nx2_49.toInt ≤ 400) ∧ (0 ≤ bg2_48.toInt ∧ bg2_48.toInt ≤ 400) ∧ (zKd kd2_47.toInt bg2_48.toInt nx2_49.toInt) ∧ (zSk fb ln.toInt nx2_37.toInt bg2_48.toInt) ∧ (zTk fb ln.toInt kd2_47.toInt bg2_48.toInt nx2_49.toInt) := hq50
              have hP : va_P g.1 vwCl (List.flatten [bLT g lt ta lo, bLaw g lo lc lz2_39 ll lm lg ld fc2_40, bTape g ta ab sz ln kd2_47 bg2_48 nx2_49 (-1) fb]) H := hP
              have hD : va_D A (List.flatten [bLT g lt ta lo, bLaw g lo lc lz2_39 ll lm lg ld fc2_40, bTape g ta ab sz ln kd2_47 bg2_48 nx2_49 (-1) fb]) := hD
              refine W.widen (k := 0) (n := 0) (Nat.le_of_ble_eq_true rfl) (Nat.le_of_ble_eq_true rfl) ?_
              refine W.eq (g2 := F0 m 148 ls []) rfl ?_
              obtain ⟨hq50_0, hq50_1, hq50_2, hq50_3, hq50_4⟩ := hq50
              refine lv_aload_n hx hb dX2_readAtom_148 rfl (lv_at hl 1 rfl) ?_
              refine va_get (D := g.1) (ci := 2) (v := .ref lo) (C := RX2) (T := TX2) (N := 2) hx hb hts izRX2 hown hK hP 0 rfl rfl 1 (by decide) (hts _ k210) (fun _ h9 => h9) rfl dX2_readAtom_149 ?_
              refine lv_bipush (v := 7) hx hb dX2_readAtom_152 (by decide) ?_
              refine lv_iconst (v := 0) hx hb dX2_readAtom_154 (by decide) ?_
              refine mcallV' (g := g) (q0 := 0) (ci := 1) (As := [.int 7, .int 0]) (rest := []) St hK hT hA hP hD hS hl.1 [1] [0, 2] rfl rfl rfl (c_l_put l g lo lc lz2_39 ll lm lg ld fc2_40 7 0 hq42_0) (cwV 2 hts (zgL (zl4 k297 k298 k299 k85) k202) rfl rfl rfl (by decide +kernel) ⟨Nat.le_of_ble_eq_true rfl, Nat.le_of_ble_eq_true rfl⟩) rfl rfl rfl rfl (Nat.le_of_ble_eq_true rfl) dX2_readAtom_155 ⟨(Nat.le_of_ble_eq_true rfl), (Nat.le_of_ble_eq_true rfl)⟩ (fun u_ H locs hq54 hP hD hS => ?_)
              obtain ⟨lz2_51, fc2_52, q_53⟩ := u_
              replace hq54 : (0 ≤ lz2_51.toInt ∧ lz2_51.toInt ≤ 400) := hq54
              have hP : va_P g.1 vwCl (List.flatten [bLT g lt ta lo, bTape g ta ab sz ln kd2_47 bg2_48 nx2_49 (-1) fb, bLaw g lo lc lz2_51 ll lm lg ld fc2_52]) H := hP
              have hD : va_D A (List.flatten [bLT g lt ta lo, bTape g ta ab sz ln kd2_47 bg2_48 nx2_49 (-1) fb, bLaw g lo lc lz2_51 ll lm lg ld fc2_52]) := hD
              refine W.widen (k := 0) (n := 0) (Nat.le_of_ble_eq_true rfl) (Nat.le_of_ble_eq_true rfl) ?_
              refine W.eq (g2 := F0 m 158 ls [.int q_53]) rfl ?_
              refine lv_pop hx hb dX2_readAtom_158 rfl ?_
              refine lv_aload_n hx hb dX2_readAtom_159 rfl (lv_at hl 1 rfl) ?_
              refine mcallV' (g := g) (q0 := 0) (ci := 2) (As := []) (rest := []) St hK hT hA hP hD hS hl.1 [0, 1, 2] [] rfl rfl rfl (c_lt_readSumF l g lt ta lo ab sz ln kd2_47 bg2_48 nx2_49 fb lc lz2_51 ll lm lg ld fc2_52 hq54 hln hq50_0 hq50_1 hq50_2 hq50_4) (cwV 0 hts (zgL (zl4 k313 k314 k315 k309) k304) rfl rfl rfl (by decide +kernel) ⟨Nat.le_of_ble_eq_true rfl, Nat.le_of_ble_eq_true rfl⟩) rfl rfl rfl rfl (Nat.le_of_ble_eq_true rfl) dX2_readAtom_160 ⟨(Nat.le_of_ble_eq_true rfl), (Nat.le_of_ble_eq_true rfl)⟩ (fun u_ H locs hq62 hP hD hS => ?_)
              obtain ⟨kd2_55, bg2_56, nx2_57, ft2_58, lz2_59, fc2_60, q_61⟩ := u_
              replace hq62 : (0 ≤ lz2_59.toInt ∧ lz2_59.toInt ≤ 400) ∧ (-1 ≤ ft2_58.toInt) ∧ (0 ≤ nx2_57.toInt ∧ nx2_57.toInt ≤ 400) ∧ (0 ≤ bg2_56.toInt ∧ bg2_56.toInt ≤ 400) ∧ (zKd kd2_55.toInt bg2_56.toInt nx2_57.toInt) ∧ (zTk fb ln.toInt kd2_55.toInt bg2_56.toInt nx2_57.toInt) ∧ (q_61 = 1 ∧ zSum fb ln.toInt bg2_48.toInt (.ok bg2_56.toInt) ∧ (-1) = ft2_58 ∨ q_61 = 0 ∧ zSum fb ln.toInt bg2_48.toInt (.bad ft2_58.toInt)) := hq62
              have hP : va_P g.1 vwCl (List.flatten [bLT g lt ta lo, bTape g ta ab sz ln kd2_55 bg2_56 nx2_57 ft2_58 fb, bLaw g lo lc lz2_59 ll lm lg ld fc2_60]) H := hP
              have hD : va_D A (List.flatten [bLT g lt ta lo, bTape g ta ab sz ln kd2_55 bg2_56 nx2_57 ft2_58 fb, bLaw g lo lc lz2_59 ll lm lg ld fc2_60]) := hD
              refine W.widen (k := 0) (n := 0) (Nat.le_of_ble_eq_true rfl) (Nat.le_of_ble_eq_true rfl) ?_
              refine W.eq (g2 := F0 m 163 ls [.int q_61]) rfl ?_
              obtain ⟨hq62_0, hq62_1, hq62_2, hq62_3, hq62_4, hq62_5, hq62_6⟩ := hq62
              rcases hq62_6 with ⟨rfl, hq62_k, rfl⟩ | ⟨rfl, hq62_k⟩
              · skip
                refine lv_if_ne (tgt := 168) hx hb dX2_readAtom_163 (by decide) (fun _ => ?_) (fun c63 => absurd c63 (by decide))
                refine lv_aload_n hx hb dX2_readAtom_168 rfl (lv_at hl 1 rfl) ?_
                refine va_get (D := g.1) (ci := 2) (v := .ref lo) (C := RX2) (T := TX2) (N := 2) hx hb hts izRX2 hown hK hP 0 rfl rfl 1 (by decide) (hts _ k210) (fun _ h9 => h9) rfl dX2_readAtom_169 ?_
                refine lv_iload_n hx hb dX2_readAtom_172 rfl (lv_at hl 0 rfl) ?_
                refine lv_if_eq (tgt := 181) hx hb dX2_readAtom_173 (by decide) (fun c64 => absurd c64 (by decide)) (fun _ => ?_)
                refine lv_bipush (v := 8) hx hb dX2_readAtom_176 (by decide) ?_
                refine lv_goto (tgt := 183) hx hb dX2_readAtom_178 (by decide) ?_
                refine lv_iconst (v := 0) hx hb dX2_readAtom_183 (by decide) ?_
                refine mcallV' (g := g) (q0 := 0) (ci := 1) (As := [.int 8, .int 0]) (rest := []) St hK hT hA hP hD hS hl.1 [2] [0, 1] rfl rfl rfl (c_l_put l g lo lc lz2_59 ll lm lg ld fc2_60 8 0 hq62_0) (cwV 2 hts (zgL (zl4 k297 k298 k299 k85) k202) rfl rfl rfl (by decide +kernel) ⟨Nat.le_of_ble_eq_true rfl, Nat.le_of_ble_eq_true rfl⟩) rfl rfl rfl rfl (Nat.le_of_ble_eq_true rfl) dX2_readAtom_184 ⟨(Nat.le_of_ble_eq_true rfl), (Nat.le_of_ble_eq_true rfl)⟩ (fun u_ H locs hq68 hP hD hS => ?_)
                obtain ⟨lz2_65, fc2_66, q_67⟩ := u_
                replace hq68 : (0 ≤ lz2_65.toInt ∧ lz2_65.toInt ≤ 400) := hq68
                have hP : va_P g.1 vwCl (List.flatten [bLT g lt ta lo, bTape g ta ab sz ln kd2_55 bg2_56 nx2_57 (-1) fb, bLaw g lo lc lz2_65 ll lm lg ld fc2_66]) H := hP
                have hD : va_D A (List.flatten [bLT g lt ta lo, bTape g ta ab sz ln kd2_55 bg2_56 nx2_57 (-1) fb, bLaw g lo lc lz2_65 ll lm lg ld fc2_66]) := hD
                refine W.widen (k := 0) (n := 0) (Nat.le_of_ble_eq_true rfl) (Nat.le_of_ble_eq_true rfl) ?_
                refine W.eq (g2 := F0 m 187 ls [.int q_67]) rfl ?_
                refine lv_pop hx hb dX2_readAtom_187 rfl ?_
                refine lv_iconst (v := 1) hx hb dX2_readAtom_188 (by decide) ?_
                have hP : va_P g.1 vwCl (List.flatten [bLT g lt ta lo, bTape g ta ab sz ln kd2_55 bg2_56 nx2_57 (-1) fb, bLaw g lo lc lz2_65 ll lm lg ld fc2_66]) H := hP
                have hD : va_D A (List.flatten [bLT g lt ta lo, bTape g ta ab sz ln kd2_55 bg2_56 nx2_57 (-1) fb, bLaw g lo lc lz2_65 ll lm lg ld fc2_66]) := hD
                exact mret_z hx hb hr hlocks hS (Nat.le_of_ble_eq_true rfl) (Nat.le_of_ble_eq_true rfl) dX2_readAtom_189 (kd2_55, bg2_56, nx2_57, -1, lz2_65, fc2_66, (1 : Int32)) rfl (by decide) (show (0 ≤ lz2_65.toInt ∧ lz2_65.toInt ≤ 400) ∧ (-1 ≤ ((-1) : Int32).toInt) ∧ (0 ≤ nx2_57.toInt ∧ nx2_57.toInt ≤ 400) ∧ (0 ≤ bg2_56.toInt ∧ bg2_56.toInt ≤ 400) ∧ (zKd kd2_55.toInt bg2_56.toInt nx2_57.toInt) ∧ (zTk fb ln.toInt kd2_55.toInt bg2_56.toInt nx2_57.toInt) ∧ (1 = 1 ∧ zAtom fb ln.toInt 0 bg.toInt (.ok bg2_56.toInt) ∧ (-1) = (-1) ∨ 1 = 0 ∧ zAtom fb ln.toInt 0 bg.toInt (.bad ((-1) : Int32).toInt)) from ⟨(by first | assumption | omega | exact Or.inl (by decide) | exact Or.inr (by omega)), (by decide), (by first | assumption | omega | exact Or.inl (by decide) | exact Or.inr (by omega)), (by first | assumption | omega | exact Or.inl (by decide) | exact Or.inr (by omega)), (by first | assumption | omega | exact Or.inl (by decide) | exact Or.inr (by omega)), (by assumption), (Or.inl ⟨rfl, zAt_pl (zor_n hq2_k hq8_k) (zPl_all (zor_n hq17_k hq28_k) hq42_k (Or.inl hq45_k) (zMv_mk hq42_5 hq50_3) hq62_k), rfl⟩)⟩) hP hD
              · skip
                refine lv_if_ne (tgt := 168) hx hb dX2_readAtom_163 (by decide) (fun c69 => absurd (by decide) c69) (fun _ => ?_)
                refine lv_iconst (v := 0) hx hb dX2_readAtom_166 (by decide) ?_
                have hP : va_P g.1 vwCl (List.flatten [bLT g lt ta lo, bTape g ta ab sz ln kd2_55 bg2_56 nx2_57 ft2_58 fb, bLaw g lo lc lz2_59 ll lm lg ld fc2_60]) H := hP
                have hD : va_D A (List.flatten [bLT g lt ta lo, bTape g ta ab sz ln kd2_55 bg2_56 nx2_57 ft2_58 fb, bLaw g lo lc lz2_59 ll lm lg ld fc2_60]) := hD
                exact mret_z hx hb hr hlocks hS (Nat.le_of_ble_eq_true rfl) (Nat.le_of_ble_eq_true rfl) dX2_readAtom_167 (kd2_55, bg2_56, nx2_57, ft2_58, lz2_59, fc2_60, (0 : Int32)) rfl (by decide) (show (0 ≤ lz2_59.toInt ∧ lz2_59.toInt ≤ 400) ∧ (-1 ≤ ft2_58.toInt) ∧ (0 ≤ nx2_57.toInt ∧ nx2_57.toInt ≤ 400) ∧ (0 ≤ bg2_56.toInt ∧ bg2_56.toInt ≤ 400) ∧ (zKd kd2_55.toInt bg2_56.toInt nx2_57.toInt) ∧ (zTk fb ln.toInt kd2_55.toInt bg2_56.toInt nx2_57.toInt) ∧ (0 = 1 ∧ zAtom fb ln.toInt 0 bg.toInt (.ok bg2_56.toInt) ∧ (-1) = ft2_58 ∨ 0 = 0 ∧ zAtom fb ln.toInt 0 bg.toInt (.bad ft2_58.toInt)) from ⟨(by first | assumption | omega | exact Or.inl (by decide) | exact Or.inr (by omega)), (by first | decide | omega), (by first | assumption | omega | exact Or.inl (by decide) | exact Or.inr (by omega)), (by first | assumption | omega | exact Or.inl (by decide) | exact Or.inr (by omega)), (by first | assumption | omega | exact Or.inl (by decide) | exact Or.inr (by omega)), (by assumption), (Or.inr ⟨rfl, zAt_pl (zor_n hq2_k hq8_k) (zPl_all (zor_n hq17_k hq28_k) hq42_k (Or.inl hq45_k) (zMv_mk hq42_5 hq50_3) hq62_k)⟩)⟩) hP hD
            · skip
              refine lv_istore_n (lv' := [(2, .int 0), (0, .ref lt), (1, .int 6)]) hx hb dX2_readAtom_116 rfl hl (by decide) rfl (fun ls hl => ?_)
              refine lv_iload_n hx hb dX2_readAtom_117 rfl (lv_at hl 0 rfl) ?_
              refine lv_if_ne (tgt := 141) hx hb dX2_readAtom_118 (by decide) (fun c70 => absurd (by decide) c70) (fun _ => ?_)
              refine lv_aload_n hx hb dX2_readAtom_121 rfl (lv_at hl 1 rfl) ?_
              refine va_get (D := g.1) (ci := 2) (v := .ref ta) (C := RX2) (T := TX2) (N := 2) hx hb hts izRX2 hown hK hP 0 rfl rfl 0 (by decide) (hts _ k290) (fun x9 h9 => u_same (hts _ k291) x9 h9) rfl dX2_readAtom_122 ?_
              refine lv_bipush (v := 62) hx hb dX2_readAtom_125 (by decide) ?_
              have hL62 : (62 : Int32).toInt = 62 := by decide
              refine mcallV' (g := g) (q0 := 0) (ci := 6) (As := [.int 62]) (rest := []) St hK hT hA hP hD hS hl.1 [2] [0, 1] rfl rfl rfl (c_t_isSignF l g ta ab sz ln kd2_35 bg2_36 nx2_37 (-1) fb 62 hln hq42_2 hq42_3 hq42_4 hq42_5) (cwV 1 hts (zgL (zl4 k305 k288 k289 k277) k285) rfl rfl rfl (by decide +kernel) ⟨Nat.le_of_ble_eq_true rfl, Nat.le_of_ble_eq_true rfl⟩) rfl rfl rfl rfl (Nat.le_of_ble_eq_true rfl) dX2_readAtom_127 ⟨(Nat.le_of_ble_eq_true rfl), (Nat.le_of_ble_eq_true rfl)⟩ (fun q_71 H locs hq72 hP hD hS => ?_)
              replace hq72 : (q_71 = 1 ∧ zisS fb ln.toInt bg2_36.toInt (62 : Int32).toInt ∨ q_71 = 0 ∧ ¬ zisS fb ln.toInt bg2_36.toInt (62 : Int32).toInt) := hq72
              have hP : va_P g.1 vwCl (List.flatten [bLT g lt ta lo, bLaw g lo lc lz2_39 ll lm lg ld fc2_40, bTape g ta ab sz ln kd2_35 bg2_36 nx2_37 (-1) fb]) H := hP
              have hD : va_D A (List.flatten [bLT g lt ta lo, bLaw g lo lc lz2_39 ll lm lg ld fc2_40, bTape g ta ab sz ln kd2_35 bg2_36 nx2_37 (-1) fb]) := hD
              refine W.widen (k := 0) (n := 0) (Nat.le_of_ble_eq_true rfl) (Nat.le_of_ble_eq_true rfl) ?_
              refine W.eq (g2 := F0 m 130 ls [.int q_71]) rfl ?_
              rcases hq72 with ⟨rfl, hq72_k⟩ | ⟨rfl, hq72_k⟩
              · skip
                refine lv_if_ne (tgt := 141) hx hb dX2_readAtom_130 (by decide) (fun _ => ?_) (fun c73 => absurd c73 (by decide))
                refine lv_aload_n hx hb dX2_readAtom_141 rfl (lv_at hl 1 rfl) ?_
                refine va_get (D := g.1) (ci := 2) (v := .ref ta) (C := RX2) (T := TX2) (N := 2) hx hb hts izRX2 hown hK hP 0 rfl rfl 0 (by decide) (hts _ k290) (fun x9 h9 => u_same (hts _ k291) x9 h9) rfl dX2_readAtom_142 ?_
                refine mcallV' (g := g) (q0 := 0) (ci := 6) (As := []) (rest := []) St hK hT hA hP hD hS hl.1 [2] [0, 1] rfl rfl rfl (c_t_stepF l g ta ab sz ln kd2_35 bg2_36 nx2_37 (-1) fb hln hq42_2) (cwV 0 hts (zgL (zl4 k296 k275 k276 k277) k271) rfl rfl rfl (by decide +kernel) ⟨Nat.le_of_ble_eq_true rfl, Nat.le_of_ble_eq_true rfl⟩) rfl rfl rfl rfl (Nat.le_of_ble_eq_true rfl) dX2_readAtom_145 ⟨(Nat.le_of_ble_eq_true rfl), (Nat.le_of_ble_eq_true rfl)⟩ (fun u_ H locs hq77 hP hD hS => ?_)
                obtain ⟨kd2_74, bg2_75, nx2_76⟩ := u_
                replace hq77 : (0 ≤ nx2_76.toInt ∧ nx2_76.toInt ≤ 400) ∧ (0 ≤ bg2_75.toInt ∧ bg2_75.toInt ≤ 400) ∧ (zKd kd2_74.toInt bg2_75.toInt nx2_76.toInt) ∧ (zSk fb ln.toInt nx2_37.toInt bg2_75.toInt) ∧ (zTk fb ln.toInt kd2_74.toInt bg2_75.toInt nx2_76.toInt) := hq77
                have hP : va_P g.1 vwCl (List.flatten [bLT g lt ta lo, bLaw g lo lc lz2_39 ll lm lg ld fc2_40, bTape g ta ab sz ln kd2_74 bg2_75 nx2_76 (-1) fb]) H := hP
                have hD : va_D A (List.flatten [bLT g lt ta lo, bLaw g lo lc lz2_39 ll lm lg ld fc2_40, bTape g ta ab sz ln kd2_74 bg2_75 nx2_76 (-1) fb]) := hD
                refine W.widen (k := 0) (n := 0) (Nat.le_of_ble_eq_true rfl) (Nat.le_of_ble_eq_true rfl) ?_
                refine W.eq (g2 := F0 m 148 ls []) rfl ?_
                obtain ⟨hq77_0, hq77_1, hq77_2, hq77_3, hq77_4⟩ := hq77
                refine lv_aload_n hx hb dX2_readAtom_148 rfl (lv_at hl 1 rfl) ?_
                refine va_get (D := g.1) (ci := 2) (v := .ref lo) (C := RX2) (T := TX2) (N := 2) hx hb hts izRX2 hown hK hP 0 rfl rfl 1 (by decide) (hts _ k210) (fun _ h9 => h9) rfl dX2_readAtom_149 ?_
                refine lv_bipush (v := 7) hx hb dX2_readAtom_152 (by decide) ?_
                refine lv_iconst (v := 0) hx hb dX2_readAtom_154 (by decide) ?_
                refine mcallV' (g := g) (q0 := 0) (ci := 1) (As := [.int 7, .int 0]) (rest := []) St hK hT hA hP hD hS hl.1 [1] [0, 2] rfl rfl rfl (c_l_put l g lo lc lz2_39 ll lm lg ld fc2_40 7 0 hq42_0) (cwV 2 hts (zgL (zl4 k297 k298 k299 k85) k202) rfl rfl rfl (by decide +kernel) ⟨Nat.le_of_ble_eq_true rfl, Nat.le_of_ble_eq_true rfl⟩) rfl rfl rfl rfl (Nat.le_of_ble_eq_true rfl) dX2_readAtom_155 ⟨(Nat.le_of_ble_eq_true rfl), (Nat.le_of_ble_eq_true rfl)⟩ (fun u_ H locs hq81 hP hD hS => ?_)
                obtain ⟨lz2_78, fc2_79, q_80⟩ := u_
                replace hq81 : (0 ≤ lz2_78.toInt ∧ lz2_78.toInt ≤ 400) := hq81
                have hP : va_P g.1 vwCl (List.flatten [bLT g lt ta lo, bTape g ta ab sz ln kd2_74 bg2_75 nx2_76 (-1) fb, bLaw g lo lc lz2_78 ll lm lg ld fc2_79]) H := hP
                have hD : va_D A (List.flatten [bLT g lt ta lo, bTape g ta ab sz ln kd2_74 bg2_75 nx2_76 (-1) fb, bLaw g lo lc lz2_78 ll lm lg ld fc2_79]) := hD
                refine W.widen (k := 0) (n := 0) (Nat.le_of_ble_eq_true rfl) (Nat.le_of_ble_eq_true rfl) ?_
                refine W.eq (g2 := F0 m 158 ls [.int q_80]) rfl ?_
                refine lv_pop hx hb dX2_readAtom_158 rfl ?_
                refine lv_aload_n hx hb dX2_readAtom_159 rfl (lv_at hl 1 rfl) ?_
                refine mcallV' (g := g) (q0 := 0) (ci := 2) (As := []) (rest := []) St hK hT hA hP hD hS hl.1 [0, 1, 2] [] rfl rfl rfl (c_lt_readSumF l g lt ta lo ab sz ln kd2_74 bg2_75 nx2_76 fb lc lz2_78 ll lm lg ld fc2_79 hq81 hln hq77_0 hq77_1 hq77_2 hq77_4) (cwV 0 hts (zgL (zl4 k313 k314 k315 k309) k304) rfl rfl rfl (by decide +kernel) ⟨Nat.le_of_ble_eq_true rfl, Nat.le_of_ble_eq_true rfl⟩) rfl rfl rfl rfl (Nat.le_of_ble_eq_true rfl) dX2_readAtom_160 ⟨(Nat.le_of_ble_eq_true rfl), (Nat.le_of_ble_eq_true rfl)⟩ (fun u_ H locs hq89 hP hD hS => ?_)
                obtain ⟨kd2_82, bg2_83, nx2_84, ft2_85, lz2_86, fc2_87, q_88⟩ := u_
                replace hq89 : (0 ≤ lz2_86.toInt ∧ lz2_86.toInt ≤ 400) ∧ (-1 ≤ ft2_85.toInt) ∧ (0 ≤ nx2_84.toInt ∧ nx2_84.toInt ≤ 400) ∧ (0 ≤ bg2_83.toInt ∧ bg2_83.toInt ≤ 400) ∧ (zKd kd2_82.toInt bg2_83.toInt nx2_84.toInt) ∧ (zTk fb ln.toInt kd2_82.toInt bg2_83.toInt nx2_84.toInt) ∧ (q_88 = 1 ∧ zSum fb ln.toInt bg2_75.toInt (.ok bg2_83.toInt) ∧ (-1) = ft2_85 ∨ q_88 = 0 ∧ zSum fb ln.toInt bg2_75.toInt (.bad ft2_85.toInt)) := hq89
                have hP : va_P g.1 vwCl (List.flatten [bLT g lt ta lo, bTape g ta ab sz ln kd2_82 bg2_83 nx2_84 ft2_85 fb, bLaw g lo lc lz2_86 ll lm lg ld fc2_87]) H := hP
                have hD : va_D A (List.flatten [bLT g lt ta lo, bTape g ta ab sz ln kd2_82 bg2_83 nx2_84 ft2_85 fb, bLaw g lo lc lz2_86 ll lm lg ld fc2_87]) := hD
                refine W.widen (k := 0) (n := 0) (Nat.le_of_ble_eq_true rfl) (Nat.le_of_ble_eq_true rfl) ?_
                refine W.eq (g2 := F0 m 163 ls [.int q_88]) rfl ?_
                obtain ⟨hq89_0, hq89_1, hq89_2, hq89_3, hq89_4, hq89_5, hq89_6⟩ := hq89
                rcases hq89_6 with ⟨rfl, hq89_k, rfl⟩ | ⟨rfl, hq89_k⟩
                · skip
                  refine lv_if_ne (tgt := 168) hx hb dX2_readAtom_163 (by decide) (fun _ => ?_) (fun c90 => absurd c90 (by decide))
                  refine lv_aload_n hx hb dX2_readAtom_168 rfl (lv_at hl 1 rfl) ?_
                  refine va_get (D := g.1) (ci := 2) (v := .ref lo) (C := RX2) (T := TX2) (N := 2) hx hb hts izRX2 hown hK hP 0 rfl rfl 1 (by decide) (hts _ k210) (fun _ h9 => h9) rfl dX2_readAtom_169 ?_
                  refine lv_iload_n hx hb dX2_readAtom_172 rfl (lv_at hl 0 rfl) ?_
                  refine lv_if_eq (tgt := 181) hx hb dX2_readAtom_173 (by decide) (fun _ => ?_) (fun c91 => absurd (by decide) c91)
                  refine lv_bipush (v := 9) hx hb dX2_readAtom_181 (by decide) ?_
                  refine lv_iconst (v := 0) hx hb dX2_readAtom_183 (by decide) ?_
                  refine mcallV' (g := g) (q0 := 0) (ci := 1) (As := [.int 9, .int 0]) (rest := []) St hK hT hA hP hD hS hl.1 [2] [0, 1] rfl rfl rfl (c_l_put l g lo lc lz2_86 ll lm lg ld fc2_87 9 0 hq89_0) (cwV 2 hts (zgL (zl4 k297 k298 k299 k85) k202) rfl rfl rfl (by decide +kernel) ⟨Nat.le_of_ble_eq_true rfl, Nat.le_of_ble_eq_true rfl⟩) rfl rfl rfl rfl (Nat.le_of_ble_eq_true rfl) dX2_readAtom_184 ⟨(Nat.le_of_ble_eq_true rfl), (Nat.le_of_ble_eq_true rfl)⟩ (fun u_ H locs hq95 hP hD hS => ?_)
                  obtain ⟨lz2_92, fc2_93, q_94⟩ := u_
                  replace hq95 : (0 ≤ lz2_92.toInt ∧ lz2_92.toInt ≤ 400) := hq95
                  have hP : va_P g.1 vwCl (List.flatten [bLT g lt ta lo, bTape g ta ab sz ln kd2_82 bg2_83 nx2_84 (-1) fb, bLaw g lo lc lz2_92 ll lm lg ld fc2_93]) H := hP
                  have hD : va_D A (List.flatten [bLT g lt ta lo, bTape g ta ab sz ln kd2_82 bg2_83 nx2_84 (-1) fb, bLaw g lo lc lz2_92 ll lm lg ld fc2_93]) := hD
                  refine W.widen (k := 0) (n := 0) (Nat.le_of_ble_eq_true rfl) (Nat.le_of_ble_eq_true rfl) ?_
                  refine W.eq (g2 := F0 m 187 ls [.int q_94]) rfl ?_
                  refine lv_pop hx hb dX2_readAtom_187 rfl ?_
                  refine lv_iconst (v := 1) hx hb dX2_readAtom_188 (by decide) ?_
                  have hP : va_P g.1 vwCl (List.flatten [bLT g lt ta lo, bTape g ta ab sz ln kd2_82 bg2_83 nx2_84 (-1) fb, bLaw g lo lc lz2_92 ll lm lg ld fc2_93]) H := hP
                  have hD : va_D A (List.flatten [bLT g lt ta lo, bTape g ta ab sz ln kd2_82 bg2_83 nx2_84 (-1) fb, bLaw g lo lc lz2_92 ll lm lg ld fc2_93]) := hD
                  exact mret_z hx hb hr hlocks hS (Nat.le_of_ble_eq_true rfl) (Nat.le_of_ble_eq_true rfl) dX2_readAtom_189 (kd2_82, bg2_83, nx2_84, -1, lz2_92, fc2_93, (1 : Int32)) rfl (by decide) (show (0 ≤ lz2_92.toInt ∧ lz2_92.toInt ≤ 400) ∧ (-1 ≤ ((-1) : Int32).toInt) ∧ (0 ≤ nx2_84.toInt ∧ nx2_84.toInt ≤ 400) ∧ (0 ≤ bg2_83.toInt ∧ bg2_83.toInt ≤ 400) ∧ (zKd kd2_82.toInt bg2_83.toInt nx2_84.toInt) ∧ (zTk fb ln.toInt kd2_82.toInt bg2_83.toInt nx2_84.toInt) ∧ (1 = 1 ∧ zAtom fb ln.toInt 0 bg.toInt (.ok bg2_83.toInt) ∧ (-1) = (-1) ∨ 1 = 0 ∧ zAtom fb ln.toInt 0 bg.toInt (.bad ((-1) : Int32).toInt)) from ⟨(by first | assumption | omega | exact Or.inl (by decide) | exact Or.inr (by omega)), (by decide), (by first | assumption | omega | exact Or.inl (by decide) | exact Or.inr (by omega)), (by first | assumption | omega | exact Or.inl (by decide) | exact Or.inr (by omega)), (by first | assumption | omega | exact Or.inl (by decide) | exact Or.inr (by omega)), (by assumption), (Or.inl ⟨rfl, zAt_pl (zor_n hq2_k hq8_k) (zPl_all (zor_n hq17_k hq28_k) hq42_k (Or.inr hq72_k) (zMv_mk hq42_5 hq77_3) hq89_k), rfl⟩)⟩) hP hD
                · skip
                  refine lv_if_ne (tgt := 168) hx hb dX2_readAtom_163 (by decide) (fun c96 => absurd (by decide) c96) (fun _ => ?_)
                  refine lv_iconst (v := 0) hx hb dX2_readAtom_166 (by decide) ?_
                  have hP : va_P g.1 vwCl (List.flatten [bLT g lt ta lo, bTape g ta ab sz ln kd2_82 bg2_83 nx2_84 ft2_85 fb, bLaw g lo lc lz2_86 ll lm lg ld fc2_87]) H := hP
                  have hD : va_D A (List.flatten [bLT g lt ta lo, bTape g ta ab sz ln kd2_82 bg2_83 nx2_84 ft2_85 fb, bLaw g lo lc lz2_86 ll lm lg ld fc2_87]) := hD
                  exact mret_z hx hb hr hlocks hS (Nat.le_of_ble_eq_true rfl) (Nat.le_of_ble_eq_true rfl) dX2_readAtom_167 (kd2_82, bg2_83, nx2_84, ft2_85, lz2_86, fc2_87, (0 : Int32)) rfl (by decide) (show (0 ≤ lz2_86.toInt ∧ lz2_86.toInt ≤ 400) ∧ (-1 ≤ ft2_85.toInt) ∧ (0 ≤ nx2_84.toInt ∧ nx2_84.toInt ≤ 400) ∧ (0 ≤ bg2_83.toInt ∧ bg2_83.toInt ≤ 400) ∧ (zKd kd2_82.toInt bg2_83.toInt nx2_84.toInt) ∧ (zTk fb ln.toInt kd2_82.toInt bg2_83.toInt nx2_84.toInt) ∧ (0 = 1 ∧ zAtom fb ln.toInt 0 bg.toInt (.ok bg2_83.toInt) ∧ (-1) = ft2_85 ∨ 0 = 0 ∧ zAtom fb ln.toInt 0 bg.toInt (.bad ft2_85.toInt)) from ⟨(by first | assumption | omega | exact Or.inl (by decide) | exact Or.inr (by omega)), (by first | decide | omega), (by first | assumption | omega | exact Or.inl (by decide) | exact Or.inr (by omega)), (by first | assumption | omega | exact Or.inl (by decide) | exact Or.inr (by omega)), (by first | assumption | omega | exact Or.inl (by decide) | exact Or.inr (by omega)), (by assumption), (Or.inr ⟨rfl, zAt_pl (zor_n hq2_k hq8_k) (zPl_all (zor_n hq17_k hq28_k) hq42_k (Or.inr hq72_k) (zMv_mk hq42_5 hq77_3) hq89_k)⟩)⟩) hP hD
              · skip
                refine lv_if_ne (tgt := 141) hx hb dX2_readAtom_130 (by decide) (fun c97 => absurd (by decide) c97) (fun _ => ?_)
                refine lv_aload_n hx hb dX2_readAtom_133 rfl (lv_at hl 1 rfl) ?_
                refine va_get (D := g.1) (ci := 2) (v := .ref ta) (C := RX2) (T := TX2) (N := 2) hx hb hts izRX2 hown hK hP 0 rfl rfl 0 (by decide) (hts _ k290) (fun x9 h9 => u_same (hts _ k291) x9 h9) rfl dX2_readAtom_134 ?_
                refine mcallV' (g := g) (q0 := 0) (ci := 6) (As := []) (rest := []) St hK hT hA hP hD hS hl.1 [2] [0, 1] rfl rfl rfl (c_t_refuseF l g ta ab sz ln kd2_35 bg2_36 nx2_37 fb ) (cwV 0 hts (zgL (zl4 k303 k279 k280 k277) k269) rfl rfl rfl (by decide +kernel) ⟨Nat.le_of_ble_eq_true rfl, Nat.le_of_ble_eq_true rfl⟩) rfl rfl rfl rfl (Nat.le_of_ble_eq_true rfl) dX2_readAtom_137 ⟨(Nat.le_of_ble_eq_true rfl), (Nat.le_of_ble_eq_true rfl)⟩ (fun _u H locs hq98 hP hD hS => ?_)
                have hP : va_P g.1 vwCl (List.flatten [bLT g lt ta lo, bLaw g lo lc lz2_39 ll lm lg ld fc2_40, bTape g ta ab sz ln kd2_35 bg2_36 nx2_37 bg2_36 fb]) H := hP
                have hD : va_D A (List.flatten [bLT g lt ta lo, bLaw g lo lc lz2_39 ll lm lg ld fc2_40, bTape g ta ab sz ln kd2_35 bg2_36 nx2_37 bg2_36 fb]) := hD
                refine W.widen (k := 0) (n := 0) (Nat.le_of_ble_eq_true rfl) (Nat.le_of_ble_eq_true rfl) ?_
                refine W.eq (g2 := F0 m 140 ls [.int 0]) rfl ?_
                have hP : va_P g.1 vwCl (List.flatten [bLT g lt ta lo, bLaw g lo lc lz2_39 ll lm lg ld fc2_40, bTape g ta ab sz ln kd2_35 bg2_36 nx2_37 bg2_36 fb]) H := hP
                have hD : va_D A (List.flatten [bLT g lt ta lo, bLaw g lo lc lz2_39 ll lm lg ld fc2_40, bTape g ta ab sz ln kd2_35 bg2_36 nx2_37 bg2_36 fb]) := hD
                obtain ⟨hP, hD⟩ := zord (g := g) (Bs' := [bLT g lt ta lo, bTape g ta ab sz ln kd2_35 bg2_36 nx2_37 bg2_36 fb, bLaw g lo lc lz2_39 ll lm lg ld fc2_40]) [0, 2, 1] rfl rfl hP hD
                exact mret_z hx hb hr hlocks hS (Nat.le_of_ble_eq_true rfl) (Nat.le_of_ble_eq_true rfl) dX2_readAtom_140 (kd2_35, bg2_36, nx2_37, bg2_36, lz2_39, fc2_40, (0 : Int32)) rfl (by decide) (show (0 ≤ lz2_39.toInt ∧ lz2_39.toInt ≤ 400) ∧ (-1 ≤ bg2_36.toInt) ∧ (0 ≤ nx2_37.toInt ∧ nx2_37.toInt ≤ 400) ∧ (0 ≤ bg2_36.toInt ∧ bg2_36.toInt ≤ 400) ∧ (zKd kd2_35.toInt bg2_36.toInt nx2_37.toInt) ∧ (zTk fb ln.toInt kd2_35.toInt bg2_36.toInt nx2_37.toInt) ∧ (0 = 1 ∧ zAtom fb ln.toInt 0 bg.toInt (.ok bg2_36.toInt) ∧ (-1) = bg2_36 ∨ 0 = 0 ∧ zAtom fb ln.toInt 0 bg.toInt (.bad bg2_36.toInt)) from ⟨(by first | assumption | omega | exact Or.inl (by decide) | exact Or.inr (by omega)), (by first | decide | omega), (by first | assumption | omega | exact Or.inl (by decide) | exact Or.inr (by omega)), (by first | assumption | omega | exact Or.inl (by decide) | exact Or.inr (by omega)), (by first | assumption | omega | exact Or.inl (by decide) | exact Or.inr (by omega)), (by assumption), (Or.inr ⟨rfl, zAt_pl (zor_n hq2_k hq8_k) (.bad2 (zor_n hq17_k hq28_k) hq42_k (zor_n hq45_k hq72_k))⟩)⟩) hP hD
          · skip
            refine lv_if_ne (tgt := 107) hx hb dX2_readAtom_102 (by decide) (fun c99 => absurd (by decide) c99) (fun _ => ?_)
            refine lv_iconst (v := 0) hx hb dX2_readAtom_105 (by decide) ?_
            have hP : va_P g.1 vwCl (List.flatten [bLT g lt ta lo, bTape g ta ab sz ln kd2_35 bg2_36 nx2_37 ft2_38 fb, bLaw g lo lc lz2_39 ll lm lg ld fc2_40]) H := hP
            have hD : va_D A (List.flatten [bLT g lt ta lo, bTape g ta ab sz ln kd2_35 bg2_36 nx2_37 ft2_38 fb, bLaw g lo lc lz2_39 ll lm lg ld fc2_40]) := hD
            exact mret_z hx hb hr hlocks hS (Nat.le_of_ble_eq_true rfl) (Nat.le_of_ble_eq_true rfl) dX2_readAtom_106 (kd2_35, bg2_36, nx2_37, ft2_38, lz2_39, fc2_40, (0 : Int32)) rfl (by decide) (show (0 ≤ lz2_39.toInt ∧ lz2_39.toInt ≤ 400) ∧ (-1 ≤ ft2_38.toInt) ∧ (0 ≤ nx2_37.toInt ∧ nx2_37.toInt ≤ 400) ∧ (0 ≤ bg2_36.toInt ∧ bg2_36.toInt ≤ 400) ∧ (zKd kd2_35.toInt bg2_36.toInt nx2_37.toInt) ∧ (zTk fb ln.toInt kd2_35.toInt bg2_36.toInt nx2_37.toInt) ∧ (0 = 1 ∧ zAtom fb ln.toInt 0 bg.toInt (.ok bg2_36.toInt) ∧ (-1) = ft2_38 ∨ 0 = 0 ∧ zAtom fb ln.toInt 0 bg.toInt (.bad ft2_38.toInt)) from ⟨(by first | assumption | omega | exact Or.inl (by decide) | exact Or.inr (by omega)), (by first | decide | omega), (by first | assumption | omega | exact Or.inl (by decide) | exact Or.inr (by omega)), (by first | assumption | omega | exact Or.inl (by decide) | exact Or.inr (by omega)), (by first | assumption | omega | exact Or.inl (by decide) | exact Or.inr (by omega)), (by assumption), (Or.inr ⟨rfl, zAt_pl (zor_n hq2_k hq8_k) (.bad1 (zor_n hq17_k hq28_k) hq42_k)⟩)⟩) hP hD
