/-! THE LANGUAGE OF THE TOWN: a line and what it tells; lines -/
def zwPerson : List Int32 := [112, 101, 114, 115, 111, 110]
def zwWork : List Int32 := [119, 111, 114, 107]
def zwTrusts : List Int32 := [116, 114, 117, 115, 116, 115]
def zwShares : List Int32 := [115, 104, 97, 114, 101, 115]
def zwChest : List Int32 := [99, 104, 101, 115, 116]
def zwJourney : List Int32 := [106, 111, 117, 114, 110, 101, 121]
def zwTruth : List Int32 := [116, 114, 117, 116, 104]
def zwPurse : List Int32 := [112, 117, 114, 115, 101]
def zwNeed : List Int32 := [110, 101, 101, 100]
def zwGain : List Int32 := [103, 97, 105, 110]
def zwT : Nat → List Int32
  | 0 => zwPerson
  | 1 => zwWork
  | 2 => zwTrusts
  | 3 => zwShares
  | 4 => zwChest
  | 5 => zwJourney
  | 6 => zwTruth
  | _ => zwDay
abbrev zCm : Type := Int × Int × Int × Int
def zTs : Type := Sum (Int × zCm) Int
def zTs.ok (b : Int) (c : zCm) : zTs := Sum.inl (b, c)
def zTs.bad (q : Int) : zTs := Sum.inr q
theorem zTs.okj {b b' : Int} {c c' : zCm} (h : zTs.ok b c = zTs.ok b' c') : b = b' ∧ c = c' := by
  have h' : (Sum.inl (b, c) : Sum (Int × zCm) Int) = Sum.inl (b', c') := h
  have h2 := Sum.inl.inj h'
  exact ⟨congrArg Prod.fst h2, congrArg Prod.snd h2⟩
theorem zTs.badj {a b : Int} (h : zTs.bad a = zTs.bad b) : a = b := by
  have h' : (Sum.inr a : Sum (Int × zCm) Int) = Sum.inr b := h
  exact Sum.inr.inj h'
theorem zTs.ob {a b : Int} {c : zCm} {P : Prop} (h : zTs.ok a c = zTs.bad b) : P := by
  have h' : (Sum.inl (a, c) : Sum (Int × zCm) Int) = Sum.inr b := h
  cases h'
theorem zTs.bo {a b : Int} {c : zCm} {P : Prop} (h : zTs.bad b = zTs.ok a c) : P := zTs.ob h.symm
/-- a number, then .. -/
def zNN (f : Nat → Int32) (n lo hi b : Int) (K : Int → Int → zTs → Prop) (r : zTs) : Prop := (∃ v : Int32, zNu f n b lo hi v ∧ K v.toInt (znt f n b) r) ∨ ((¬ ∃ v, zNu f n b lo hi v) ∧ r = .bad b)
/-- a word, then .. -/
def zW1 (f : Nat → Int32) (n : Int) (bs : List Int32) (b : Int) (K : Int → zTs → Prop) (r : zTs) : Prop := (zisW f n b bs ∧ K (znt f n b) r) ∨ (¬ zisW f n b bs ∧ r = .bad b)
theorem zNN_y {f : Nat → Int32} {n lo hi lo' hi' b b2 : Int} {K : Int → Int → zTs → Prop} {r : zTs} {v : Int32} (e1 : lo' = lo) (e2 : hi' = hi) (h : zNu f n b lo' hi' v) (m : zMv f n b b2) (k : K v.toInt b2 r) : zNN f n lo hi b K r := by
  subst e1; subst e2; have e := znt_of m; subst e; exact Or.inl ⟨v, h, k⟩
theorem zNN_n {f : Nat → Int32} {n lo hi lo' hi' b q : Int} {K : Int → Int → zTs → Prop} (e1 : lo' = lo) (e2 : hi' = hi) (eq : q = b) (h : ¬ ∃ v, zNu f n b lo' hi' v) : zNN f n lo hi b K (.bad q) := by
  subst e1; subst e2; rw [eq]; exact Or.inr ⟨h, rfl⟩
theorem zW1_y {f : Nat → Int32} {n b b2 : Int} {bs : List Int32} {K : Int → zTs → Prop} {r : zTs} (h : zisW f n b bs) (m : zMv f n b b2) (k : K b2 r) : zW1 f n bs b K r := by
  have e := znt_of m; subst e; exact Or.inl ⟨h, k⟩
theorem zW1_n {f : Nat → Int32} {n b q : Int} {bs : List Int32} {K : Int → zTs → Prop} (eq : q = b) (h : ¬ zisW f n b bs) : zW1 f n bs b K (.bad q) := by rw [eq]; exact Or.inr ⟨h, rfl⟩
theorem zNu_u {f : Nat → Int32} {n b lo hi : Int} {v v' : Int32} (h : zNu f n b lo hi v) (h' : zNu f n b lo hi v') : v = v' := h.2.1.trans h'.2.1.symm
theorem zNN_det {f : Nat → Int32} {n lo hi b : Int} {K : Int → Int → zTs → Prop} {r r' : zTs} (D : ∀ v b r r', K v b r → K v b r' → r = r') (h : zNN f n lo hi b K r) (h' : zNN f n lo hi b K r') : r = r' := by
  rcases h with ⟨v, a, k⟩ | ⟨a, e⟩
  · rcases h' with ⟨v', a', k'⟩ | ⟨a', _⟩
    · have e := zNu_u a a'
      subst e
      exact D _ _ _ _ k k'
    · exact absurd ⟨v, a⟩ a'
  · rcases h' with ⟨v', a', k'⟩ | ⟨a', e'⟩
    · exact absurd ⟨v', a'⟩ a
    · rw [e, e']
theorem zW1_det {f : Nat → Int32} {n b : Int} {bs : List Int32} {K : Int → zTs → Prop} {r r' : zTs} (D : ∀ b r r', K b r → K b r' → r = r') (h : zW1 f n bs b K r) (h' : zW1 f n bs b K r') : r = r' := by
  rcases h with ⟨a, k⟩ | ⟨a, e⟩
  · rcases h' with ⟨a', k'⟩ | ⟨a', _⟩
    · exact D _ _ _ k k'
    · exact absurd a a'
  · rcases h' with ⟨a', k'⟩ | ⟨a', e'⟩
    · exact absurd a' a
    · rw [e, e']
/-! a person -/
def zKp3 (f : Nat → Int32) (n v u b : Int) (r : zTs) : Prop := (zisW f n b zwDry ∧ r = .ok (znt f n b) (0, v, u, 1)) ∨ (¬ zisW f n b zwDry ∧ r = .ok b (0, v, u, 0))
def zKp2 (f : Nat → Int32) (n v b : Int) (r : zTs) : Prop := zNN f n 0 999 b (zKp3 f n v) r
def zKp1 (f : Nat → Int32) (n v b : Int) (r : zTs) : Prop := zW1 f n zwPurse b (zKp2 f n v) r
def zTPerson (f : Nat → Int32) (n pe b : Int) (r : zTs) : Prop := (8 ≤ pe ∧ r = .bad b) ∨ (pe < 8 ∧ zNN f n 0 99 (znt f n b) (zKp1 f n) r)
theorem zKp3_y {f : Nat → Int32} {n v u b b2 : Int} (h : zisW f n b zwDry) (m : zMv f n b b2) : zKp3 f n v u b (.ok b2 (0, v, u, 1)) := by have e := znt_of m; subst e; exact Or.inl ⟨h, rfl⟩
theorem zKp3_n {f : Nat → Int32} {n v u b : Int} (h : ¬ zisW f n b zwDry) : zKp3 f n v u b (.ok b (0, v, u, 0)) := Or.inr ⟨h, rfl⟩
theorem zTP_f {f : Nat → Int32} {n pe b q : Int} (h : 8 ≤ pe) (eq : q = b) : zTPerson f n pe b (.bad q) := by rw [eq]; exact Or.inl ⟨h, rfl⟩
theorem zTP_i {f : Nat → Int32} {n pe b b1 : Int} {r : zTs} (h : pe < 8) (m : zMv f n b b1) (k : zNN f n 0 99 b1 (zKp1 f n) r) : zTPerson f n pe b r := by have e := znt_of m; subst e; exact Or.inr ⟨h, k⟩
theorem zTPerson_det {f : Nat → Int32} {n pe b : Int} {r r' : zTs} (h : zTPerson f n pe b r) (h' : zTPerson f n pe b r') : r = r' := by
  rcases h with ⟨a, e⟩ | ⟨a, k⟩
  · rcases h' with ⟨_, e'⟩ | ⟨a', _⟩
    · rw [e, e']
    · omega
  · rcases h' with ⟨a', _⟩ | ⟨_, k'⟩
    · omega
    · refine zNN_det (K := zKp1 f n) (fun v b r r' h h' => zW1_det (bs := zwPurse) (K := zKp2 f n v) (fun b r r' h h' => zNN_det (lo := 0) (hi := 999) (K := zKp3 f n v) (fun u b r r' h h' => ?_) h h') h h') k k'
      rcases h with ⟨a, e⟩ | ⟨a, e⟩
      · rcases h' with ⟨_, e'⟩ | ⟨a', _⟩
        · rw [e, e']
        · exact absurd a a'
      · rcases h' with ⟨a', _⟩ | ⟨_, e'⟩
        · exact absurd a' a
        · rw [e, e']
/-! a work -/
def zKw5 (c d g b : Int) (r : zTs) : Prop := r = .ok b (1, c, d, g)
def zKw4 (f : Nat → Int32) (n c d b : Int) (r : zTs) : Prop := zNN f n 0 20 b (zKw5 c d) r
def zKw3 (f : Nat → Int32) (n c d b : Int) (r : zTs) : Prop := zW1 f n zwGain b (zKw4 f n c d) r
def zKw2 (f : Nat → Int32) (n c b : Int) (r : zTs) : Prop := zNN f n 0 799 b (zKw3 f n c) r
def zKw1 (f : Nat → Int32) (n c b : Int) (r : zTs) : Prop := zW1 f n zwNeed b (zKw2 f n c) r
def zTWork (f : Nat → Int32) (n wo b : Int) (r : zTs) : Prop := (6 ≤ wo ∧ r = .bad b) ∨ (wo < 6 ∧ zNN f n 1 99 (znt f n b) (zKw1 f n) r)
theorem zTW_f {f : Nat → Int32} {n wo b q : Int} (h : 6 ≤ wo) (eq : q = b) : zTWork f n wo b (.bad q) := by rw [eq]; exact Or.inl ⟨h, rfl⟩
theorem zTW_i {f : Nat → Int32} {n wo b b1 : Int} {r : zTs} (h : wo < 6) (m : zMv f n b b1) (k : zNN f n 1 99 b1 (zKw1 f n) r) : zTWork f n wo b r := by have e := znt_of m; subst e; exact Or.inr ⟨h, k⟩
theorem zTWork_det {f : Nat → Int32} {n wo b : Int} {r r' : zTs} (h : zTWork f n wo b r) (h' : zTWork f n wo b r') : r = r' := by
  rcases h with ⟨a, e⟩ | ⟨a, k⟩
  · rcases h' with ⟨_, e'⟩ | ⟨a', _⟩
    · rw [e, e']
    · omega
  · rcases h' with ⟨a', _⟩ | ⟨_, k'⟩
    · omega
    · refine zNN_det (K := zKw1 f n) (fun v b r r' h h' => zW1_det (bs := zwNeed) (K := zKw2 f n v) (fun b r r' h h' => zNN_det (lo := 0) (hi := 799) (K := zKw3 f n v) (fun u b r r' h h' => zW1_det (bs := zwGain) (K := zKw4 f n v u) (fun b r r' h h' => zNN_det (lo := 0) (hi := 20) (K := zKw5 v u) (fun w b r r' h h' => ?_) h h') h h') h h') h h') k k'
      exact (show r = .ok b (1, v, u, w) from h).trans (show r' = .ok b (1, v, u, w) from h').symm
/-! trusts, shares: behind the word -/
def zKt2 (f : Nat → Int32) (n pe x b : Int) (r : zTs) : Prop := ((zkd f n b = 2 ∧ znx f n b - b = pe) ∧ r = .ok (znt f n b) (2, x, b, 0)) ∨ (¬ (zkd f n b = 2 ∧ znx f n b - b = pe) ∧ r = .bad b)
def zKtr (f : Nat → Int32) (n pe b : Int) (r : zTs) : Prop := zNN f n 0 (pe - 1) b (zKt2 f n pe) r
theorem zKt2_y {f : Nat → Int32} {n k pe x b t b2 : Int} (h : zTk f n k b t) (hk : k = 2) (hl : t - b = pe) (m : zMv f n b b2) : zKt2 f n pe x b (.ok b2 (2, x, b, 0)) := by
  have e := znt_of m; subst e
  exact Or.inl ⟨⟨h.1 ▸ hk, by rw [← h.2]; exact hl⟩, rfl⟩
theorem zKt2_n {f : Nat → Int32} {n k pe x b t q : Int} (h : zTk f n k b t) (hk : ¬ (k = 2 ∧ t - b = pe)) (eq : q = b) : zKt2 f n pe x b (.bad q) := by
  rw [eq]
  exact Or.inr ⟨fun o => hk ⟨h.1.trans o.1, by rw [h.2]; exact o.2⟩, rfl⟩
def zKs2 (x v b : Int) (r : zTs) : Prop := r = .ok b (3, x, v, 0)
def zKs1 (f : Nat → Int32) (n x b : Int) (r : zTs) : Prop := zNN f n 0 99 b (zKs2 x) r
def zKsh (f : Nat → Int32) (n pe b : Int) (r : zTs) : Prop := zNN f n 0 (pe - 1) b (zKs1 f n) r
def zKo (k v b : Int) (r : zTs) : Prop := r = .ok b (k, v, 0, 0)
/-- behind the word of a line -/
def zTX (f : Nat → Int32) (n pe : Int) : Nat → Int → zTs → Prop
  | 2 => zKtr f n pe
  | 3 => zKsh f n pe
  | 4 => fun b r => zNN f n 0 999 b (zKo 4) r
  | 5 => fun b r => zNN f n 1 30 b (zKo 5) r
  | 6 => fun b r => zNN f n 0 100 b (zKo 6) r
  | _ => fun b r => zNN f n 0 999 b (zKo 7) r
def zTK (f : Nat → Int32) (n pe wo : Int) : Nat → Int → zTs → Prop
  | 0 => zTPerson f n pe
  | 1 => zTWork f n wo
  | k + 2 => fun b r => zTX f n pe (k + 2) (znt f n b) r
theorem zKo_det {f : Nat → Int32} {n lo hi k b : Int} {r r' : zTs} (h : zNN f n lo hi b (zKo k) r) (h' : zNN f n lo hi b (zKo k) r') : r = r' := zNN_det (K := zKo k) (fun v b r r' h h' => (show r = .ok b (k, v, 0, 0) from h).trans (show r' = .ok b (k, v, 0, 0) from h').symm) h h'
theorem zTX_det {f : Nat → Int32} {n pe : Int} {k : Nat} (hk : 2 ≤ k ∧ k < 8) {b : Int} {r r' : zTs} (h : zTX f n pe k b r) (h' : zTX f n pe k b r') : r = r' := by
  rcases (show k = 2 ∨ k = 3 ∨ k = 4 ∨ k = 5 ∨ k = 6 ∨ k = 7 by omega) with e | e | e | e | e | e <;> subst e
  · refine zNN_det (K := zKt2 f n pe) (fun v b r r' h h' => ?_) h h'
    rcases h with ⟨a, e⟩ | ⟨a, e⟩
    · rcases h' with ⟨_, e'⟩ | ⟨a', _⟩
      · rw [e, e']
      · exact absurd a a'
    · rcases h' with ⟨a', _⟩ | ⟨_, e'⟩
      · exact absurd a' a
      · rw [e, e']
  · exact zNN_det (K := zKs1 f n) (fun x b r r' h h' => zNN_det (lo := 0) (hi := 99) (K := zKs2 x) (fun v b r r' h h' => (show r = .ok b (3, x, v, 0) from h).trans (show r' = .ok b (3, x, v, 0) from h').symm) h h') h h'
  · exact zKo_det h h'
  · exact zKo_det h h'
  · exact zKo_det h h'
  · exact zKo_det h h'
theorem zTK_det {f : Nat → Int32} {n pe wo : Int} {k : Nat} (hk : k < 8) {b : Int} {r r' : zTs} (h : zTK f n pe wo k b r) (h' : zTK f n pe wo k b r') : r = r' := by
  match k, hk, h, h' with
  | 0, _, h, h' => exact zTPerson_det h h'
  | 1, _, h, h' => exact zTWork_det h h'
  | k + 2, hk, h, h' => exact zTX_det ⟨by omega, hk⟩ h h'
/-! a line -/
def zTLine (f : Nat → Int32) (n pe wo b : Int) (r : zTs) : Prop := (∃ k, k < 8 ∧ zisW f n b (zwT k) ∧ zTK f n pe wo k b r) ∨ ((∀ k, k < 8 → ¬ zisW f n b (zwT k)) ∧ r = .bad b)
theorem zTL_k {f : Nat → Int32} {n pe wo b : Int} {r : zTs} {k : Nat} (hk : k < 8) (h : zisW f n b (zwT k)) (t : zTK f n pe wo k b r) : zTLine f n pe wo b r := Or.inl ⟨k, hk, h, t⟩
theorem zTL_m {f : Nat → Int32} {n pe wo b b1 : Int} {r : zTs} (k : Nat) (hk : k + 2 < 8) (h : zisW f n b (zwT (k + 2))) (m : zMv f n b b1) (t : zTX f n pe (k + 2) b1 r) : zTLine f n pe wo b r := by
  have e := znt_of m; subst e; exact Or.inl ⟨k + 2, hk, h, t⟩
theorem zTL_no {f : Nat → Int32} {n pe wo b q : Int} (eq : q = b) (h0 : ¬ zisW f n b (zwT 0)) (h1 : ¬ zisW f n b (zwT 1)) (h2 : ¬ zisW f n b (zwT 2)) (h3 : ¬ zisW f n b (zwT 3)) (h4 : ¬ zisW f n b (zwT 4)) (h5 : ¬ zisW f n b (zwT 5)) (h6 : ¬ zisW f n b (zwT 6)) (h7 : ¬ zisW f n b (zwT 7)) : zTLine f n pe wo b (.bad q) := by
  rw [eq]
  refine Or.inr ⟨fun k hk => ?_, rfl⟩
  rcases (show k = 0 ∨ k = 1 ∨ k = 2 ∨ k = 3 ∨ k = 4 ∨ k = 5 ∨ k = 6 ∨ k = 7 by omega) with e | e | e | e | e | e | e | e <;> subst e <;> assumption
theorem zwT_l : ∀ k, k < 8 → 0 < (zwT k).length := by decide
theorem zwT_i : ∀ k, k < 8 → ∀ k', k' < 8 → (zwT k).length = (zwT k').length → (zwT k).getD 0 0 = (zwT k').getD 0 0 → k = k' := by decide
theorem zwT_u {f : Nat → Int32} {n b : Int} {k k' : Nat} (hk : k < 8) (hk' : k' < 8) (h : zisW f n b (zwT k)) (h' : zisW f n b (zwT k')) : k = k' := by
  have l := zwT_l k hk
  have l' := zwT_l k' hk'
  refine zwT_i k hk k' hk' ?_ ?_
  · have a := h.2.1
    have a' := h'.2.1
    omega
  · rw [← h.2.2 0 (by omega), ← h'.2.2 0 (by omega)]
theorem zTLine_det {f : Nat → Int32} {n pe wo b : Int} {r r' : zTs} (h : zTLine f n pe wo b r) (h' : zTLine f n pe wo b r') : r = r' := by
  rcases h with ⟨k, a, c, d⟩ | ⟨a, e⟩
  · rcases h' with ⟨k', a', c', d'⟩ | ⟨a', _⟩
    · have e := zwT_u a a' c c'
      subst e
      exact zTK_det a d d'
    · exact absurd c (a' k a)
  · rcases h' with ⟨k', a', c', _⟩ | ⟨_, e'⟩
    · exact absurd c' (a k' a')
    · rw [e, e']
/-! how many people, works there are behind a line -/
def zcp (c : zCm) (pe : Int) : Int := if c.1 = 0 then pe + 1 else pe
def zcw (c : zCm) (wo : Int) : Int := if c.1 = 1 then wo + 1 else wo
theorem zcp_y {x y z pe pe2 : Int} (h : pe2 = pe + 1) : pe2 = zcp (0, x, y, z) pe := by unfold zcp; rw [if_pos rfl]; exact h
theorem zcp_n {k x y z pe pe2 : Int} (hk : ¬ k = 0) (h : pe2 = pe) : pe2 = zcp (k, x, y, z) pe := by unfold zcp; rw [if_neg hk]; exact h
theorem zcw_y {x y z wo wo2 : Int} (h : wo2 = wo + 1) : wo2 = zcw (1, x, y, z) wo := by unfold zcw; rw [if_pos rfl]; exact h
theorem zcw_n {k x y z wo wo2 : Int} (hk : ¬ k = 1) (h : wo2 = wo) : wo2 = zcw (k, x, y, z) wo := by unfold zcw; rw [if_neg hk]; exact h
/-- a reader's good end -/
def zTO (R : zTs → Prop) (b2 pe pe2 wo wo2 : Int) : Prop := ∃ c, R (.ok b2 c) ∧ pe2 = zcp c pe ∧ wo2 = zcw c wo
theorem zTO_i {R R' : zTs → Prop} {b2 pe pe2 wo wo2 : Int} (t : zTO R b2 pe pe2 wo wo2) (h : ∀ c, R (.ok b2 c) → R' (.ok b2 c)) : zTO R' b2 pe pe2 wo wo2 := by
  obtain ⟨c, a, d⟩ := t
  exact ⟨c, h c a, d⟩
def zTq : Type := Sum (Int × Int × Int) Int
def zTq.ok (m pe wo : Int) : zTq := Sum.inl (m, pe, wo)
def zTq.bad (q : Int) : zTq := Sum.inr q
theorem zTq.okj {m m' p p' w w' : Int} (h : zTq.ok m p w = zTq.ok m' p' w') : m = m' ∧ p = p' ∧ w = w' := by
  have h' : (Sum.inl (m, p, w) : Sum (Int × Int × Int) Int) = Sum.inl (m', p', w') := h
  have h2 := Sum.inl.inj h'
  exact ⟨congrArg Prod.fst h2, congrArg (fun q => q.2.1) h2, congrArg (fun q => q.2.2) h2⟩
theorem zTq.badj {a b : Int} (h : zTq.bad a = zTq.bad b) : a = b := by
  have h' : (Sum.inr a : Sum (Int × Int × Int) Int) = Sum.inr b := h
  exact Sum.inr.inj h'
theorem zTq.ob {m p w b : Int} {P : Prop} (h : zTq.ok m p w = zTq.bad b) : P := by
  have h' : (Sum.inl (m, p, w) : Sum (Int × Int × Int) Int) = Sum.inr b := h
  cases h'
/-- lines, so many still allowed -/
def zTLs (f : Nat → Int32) (n : Int) : Nat → Int → Int → Int → zTq → Prop
  | 0, _, _, b, r => r = .bad b
  | k + 1, pe, wo, b, r => (∃ q, zTLine f n pe wo b (.bad q) ∧ r = .bad q) ∨ ∃ b1 c, zTLine f n pe wo b (.ok b1 c) ∧ ((n ≤ b1 ∧ r = .ok (k : Int) (zcp c pe) (zcw c wo)) ∨ (¬ n ≤ b1 ∧ ((¬ zisS f n b1 59 ∧ r = .bad b1) ∨ (zisS f n b1 59 ∧ zTLs f n k (zcp c pe) (zcw c wo) (znt f n b1) r))))
theorem zTLs_det (f : Nat → Int32) (n : Int) : ∀ (k : Nat) (pe wo b : Int) (r r' : zTq), zTLs f n k pe wo b r → zTLs f n k pe wo b r' → r = r'
  | 0, _, _, b, r, r', h, h' => (show r = .bad b from h).trans (show r' = .bad b from h').symm
  | k + 1, pe, wo, b, r, r', h, h' => by
    rcases h with ⟨q, h, e⟩ | ⟨b1, c, h, h2⟩
    · rcases h' with ⟨q', k1, e'⟩ | ⟨b1', c', k1, _⟩
      · rw [e, e', zTs.badj (zTLine_det h k1)]
      · exact zTs.bo (zTLine_det h k1)
    · rcases h' with ⟨q', k1, e'⟩ | ⟨b1', c', k1, k2⟩
      · exact zTs.ob (zTLine_det h k1)
      · obtain ⟨eb, ec⟩ := zTs.okj (zTLine_det h k1)
        subst eb; subst ec
        rcases h2 with ⟨a, e⟩ | ⟨a, ⟨c1, e⟩ | ⟨c1, d⟩⟩
        · rcases k2 with ⟨_, e'⟩ | ⟨a', _⟩
          · rw [e, e']
          · exact absurd a a'
        · rcases k2 with ⟨a', _⟩ | ⟨_, ⟨_, e'⟩ | ⟨c', _⟩⟩
          · exact absurd a' a
          · rw [e, e']
          · exact absurd c' c1
        · rcases k2 with ⟨a', _⟩ | ⟨_, ⟨c', _⟩ | ⟨_, d'⟩⟩
          · exact absurd a' a
          · exact absurd c1 c'
          · exact zTLs_det f n k _ _ _ _ _ d d'
theorem zTl_wrong {f : Nat → Int32} {n pe wo b q : Int} {m : Nat} (hm : 0 < m) (h : zTLine f n pe wo b (.bad q)) : zTLs f n m pe wo b (.bad q) := by
  obtain ⟨k, rfl⟩ : ∃ k, m = k + 1 := ⟨m - 1, by omega⟩
  exact Or.inl ⟨q, h, rfl⟩
theorem zTl_last {f : Nat → Int32} {n pe wo pe2 wo2 b b1 v : Int} {m : Nat} (hm : 0 < m) (h : zTO (zTLine f n pe wo b) b1 pe pe2 wo wo2) (he : n ≤ b1) (hv : v = (m : Int) - 1) : zTLs f n m pe wo b (.ok v pe2 wo2) := by
  obtain ⟨k, rfl⟩ : ∃ k, m = k + 1 := ⟨m - 1, by omega⟩
  obtain ⟨c, a, e1, e2⟩ := h
  subst e1; subst e2
  rw [show v = (k : Int) by omega]
  exact Or.inr ⟨b1, c, a, Or.inl ⟨he, rfl⟩⟩
theorem zTl_nosep {f : Nat → Int32} {n pe wo pe2 wo2 b b1 q : Int} {m : Nat} (hm : 0 < m) (h : zTO (zTLine f n pe wo b) b1 pe pe2 wo wo2) (he : ¬ n ≤ b1) (hs : ¬ zisS f n b1 59) (eq : q = b1) : zTLs f n m pe wo b (.bad q) := by
  obtain ⟨k, rfl⟩ : ∃ k, m = k + 1 := ⟨m - 1, by omega⟩
  obtain ⟨c, a, e1, e2⟩ := h
  rw [eq]
  exact Or.inr ⟨b1, c, a, Or.inr ⟨he, Or.inl ⟨hs, rfl⟩⟩⟩
theorem zTl_more {f : Nat → Int32} {n pe wo pe2 wo2 b b1 b2 : Int} {m m' : Nat} {r : zTq} (hm : m = m' + 1) (h : zTO (zTLine f n pe wo b) b1 pe pe2 wo wo2) (he : ¬ n ≤ b1) (hs : zisS f n b1 59) (mv : zMv f n b1 b2) (k : zTLs f n m' pe2 wo2 b2 r) : zTLs f n m pe wo b r := by
  subst hm
  obtain ⟨c, a, e1, e2⟩ := h
  subst e1; subst e2
  have e := znt_of mv
  subst e
  exact Or.inr ⟨b1, c, a, Or.inr ⟨he, Or.inr ⟨hs, k⟩⟩⟩
theorem zTl_none {f : Nat → Int32} {n pe wo b q : Int} {m : Nat} (hm : m = 0) (eq : q = b) : zTLs f n m pe wo b (.bad q) := by
  subst hm
  rw [eq]
  exact (show zTq.bad b = zTq.bad b from rfl)
theorem zTl_at {f : Nat → Int32} {n pe wo b : Int} {m m' : Nat} (e : m = m') : ∀ r, zTLs f n m pe wo b r → zTLs f n m' pe wo b r := fun _ h => e ▸ h
