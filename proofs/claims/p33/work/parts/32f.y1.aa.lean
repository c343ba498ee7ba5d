/-! THE LANGUAGE OF THE TOWN: a line and what it tells; lines -/
def zwPerson : List Int32 := [112, 101, 114, 115, 111, 110]
def zwWork : List Int32 := [119, 111, 114, 107]
def zwTrusts : List Int32 := [116, 114, 117, 115, 116, 115]
def zwShares : List Int32 := [115, 104, 97, 114, 101, 115]
def zwChest : List Int32 := [99, 104, 101, 115, 116]
def zwJourney : List Int32 := [106, 111, 117, 114, 110, 101, 121]
def zwTruth : List Int32 := [116, 114, 117, 116, 104]
def zwPurse : List Int32 := [112, 117, 114, 115, 101]
def zwNeed : List Int32 := [110, 101, 101, 100]
def zwGain : List Int32 := [103, 97, 105, 110]
def zwT : Nat → List Int32
  | 0 => zwPerson
  | 1 => zwWork
  | 2 => zwTrusts
  | 3 => zwShares
  | 4 => zwChest
  | 5 => zwJourney
  | 6 => zwTruth
  | _ => zwDay
abbrev zCm : Type := Int × Int × Int × Int
def zTs : Type := Sum (Int × zCm) Int
def zTs.ok (b : Int) (c : zCm) : zTs := Sum.inl (b, c)
def zTs.bad (q : Int) : zTs := Sum.inr q
theorem zTs.okj {b b' : Int} {c c' : zCm} (h : zTs.ok b c = zTs.ok b' c') : b = b' ∧ c = c' := by
  have h' : (Sum.inl (b, c) : Sum (Int × zCm) Int) = Sum.inl (b', c') := h
  have h2 := Sum.inl.inj h'
  exact ⟨congrArg Prod.fst h2, congrArg Prod.snd h2⟩
theorem zTs.badj {a b : Int} (h : zTs.bad a = zTs.bad b) : a = b := by
  have h' : (Sum.inr a : Sum (Int × zCm) Int) = Sum.inr b := h
  exact Sum.inr.inj h'
theorem zTs.ob {a b : Int} {c : zCm} {P : Prop} (h : zTs.ok a c = zTs.bad b) : P := by
  have h' : (Sum.inl (a, c) : Sum (Int × zCm) Int) = Sum.inr b := h
  cases h'
theorem zTs.bo {a b : Int} {c : zCm} {P : Prop} (h : zTs.bad b = zTs.ok a c) : P := zTs.ob h.symm
/-- a number, then .. -/
def zNN (f : Nat → Int32) (n lo hi b : Int) (K : Int → Int → zTs → Prop) (r : zTs) : Prop := (∃ v : Int32, zNu f n b lo hi v ∧ K v.toInt (znt f n b) r) ∨ ((¬ ∃ v, zNu f n b lo hi v) ∧ r = .bad b)
/-- a word, then .. -/
def zW1 (f : Nat → Int32) (n : Int) (bs : List Int32) (b : Int) (K : Int → zTs → Prop) (r : zTs) : Prop := (zisW f n b bs ∧ K (znt f n b) r) ∨ (¬ zisW f n b bs ∧ r = .bad b)
theorem zNN_y {f : Nat → Int32} {n lo hi lo' hi' b b2 : Int} {K : Int → Int → zTs → Prop} {r : zTs} {v : Int32} (e1 : lo' = lo) (e2 : hi' = hi) (h : zNu f n b lo' hi' v) (m : zMv f n b b2) (k : K v.toInt b2 r) : zNN f n lo hi b K r := by
  subst e1; subst e2; have e := znt_of m; subst e; exact Or.inl ⟨v, h, k⟩
theorem zNN_n {f : Nat → Int32} {n lo hi lo' hi' b q : Int} {K : Int → Int → zTs → Prop} (e1 : lo' = lo) (e2 : hi' = hi) (eq : q = b) (h : ¬ ∃ v, zNu f n b lo' hi' v) : zNN f n lo hi b K (.bad q) := by
  subst e1; subst e2; rw [eq]; exact Or.inr ⟨h, rfl⟩
theorem zW1_y {f : Nat → Int32} {n b b2 : Int} {bs : List Int32} {K : Int → zTs → Prop} {r : zTs} (h : zisW f n b bs) (m : zMv f n b b2) (k : K b2 r) : zW1 f n bs b K r := by
  have e := znt_of m; subst e; exact Or.inl ⟨h, k⟩
theorem zW1_n {f : Nat → Int32} {n b q : Int} {bs : List Int32} {K : Int → zTs → Prop} (eq : q = b) (h : ¬ zisW f n b bs) : zW1 f n bs b K (.bad q) := by rw [eq]; exact Or.inr ⟨h, rfl⟩
theorem zNu_u {f : Nat → Int32} {n b lo hi : Int} {v v' : Int32} (h : zNu f n b lo hi v) (h' : zNu f n b lo hi v') : v = v' := h.2.1.trans h'.2.1.symm
theorem zNN_det {f : Nat → Int32} {n lo hi b : Int} {K : Int → Int → zTs → Prop} {r r' : zTs} (D : ∀ v b r r', K v b r → K v b r' → r = r') (h : zNN f n lo hi b K r) (h' : zNN f n lo hi b K r') : r = r' := by
  rcases h with ⟨v, a, k⟩ | ⟨a, e⟩
  · rcases h' with ⟨v', a', k'⟩ | ⟨a', _⟩
    · have e := zNu_u a a'
      subst e
      exact D _ _ _ _ k k'
    · exact absurd ⟨v, a⟩ a'
  · rcases h' with ⟨v', a', k'⟩ | ⟨a', e'⟩
    · exact absurd ⟨v', a'⟩ a
    · rw [e, e']
theorem zW1_det {f : Nat → Int32} {n b : Int} {bs : List Int32} {K : Int → zTs → Prop} {r r' : zTs} (D : ∀ b r r', K b r → K b r' → r = r') (h : zW1 f n bs b K r) (h' : zW1 f n bs b K r') : r = r' := by
  rcases h with ⟨a, k⟩ | ⟨a, e⟩
  · rcases h' with ⟨a', k'⟩ | ⟨a', _⟩
    · exact D _ _ _ k k'
    · exact absurd a a'
  · rcases h' with ⟨a', k'⟩ | ⟨a', e'⟩
    · exact absurd a' a
    · rw [e, e']
/-! a person -/
def zKp3 (f : Nat → Int32) (n v u b : Int) (r : zTs) : Prop := (zisW f n b zwDry ∧ r = .ok (znt f n b) (0, v, u, 1)) ∨ (¬ zisW f n b zwDry ∧ r = .ok b (0, v, u, 0))
def zKp2 (f : Nat → Int32) (n v b : Int) (r : zTs) : Prop := zNN f n 0 999 b (zKp3 f n v) r
def zKp1 (f : Nat → Int32) (n v b : Int) (r : zTs) : Prop := zW1 f n zwPurse b (zKp2 f n v) r
def zTPerson (f : Nat → Int32) (n pe b : Int) (r : zTs) : Prop := (8 ≤ pe ∧ r = .bad b) ∨ (pe < 8 ∧ zNN f n 0 99 (znt f n b) (zKp1 f n) r)
theorem zKp3_y {f : Nat → Int32} {n v u b b2 : Int} (h : zisW f n b zwDry) (m : zMv f n b b2) : zKp3 f n v u b (.ok b2 (0, v, u, 1)) := by have e := znt_of m; subst e; exact Or.inl ⟨h, rfl⟩
theorem zKp3_n {f : Nat → Int32} {n v u b : Int} (h : ¬ zisW f n b zwDry) : zKp3 f n v u b (.ok b (0, v, u, 0)) := Or.inr ⟨h, rfl⟩
theorem zTP_f {f : Nat → Int32} {n pe b q : Int} (h : 8 ≤ pe) (eq : q = b) : zTPerson f n pe b (.bad q) := by rw [eq]; exact Or.inl ⟨h, rfl⟩
theorem zTP_i {f : Nat → Int32} {n pe b b1 : Int} {r : zTs} (h : pe < 8) (m : zMv f n b b1) (k : zNN f n 0 99 b1 (zKp1 f n) r) : zTPerson f n pe b r := by have e := znt_of m; subst e; exact Or.inr ⟨h, k⟩
theorem zTPerson_det {f : Nat → Int32} {n pe b : Int} {r r' : zTs} (h : zTPerson f n pe b r) (h' : zTPerson f n pe b r') : r = r' := by
  rcases h with ⟨a, e⟩ | ⟨a, k⟩
  · rcases h' with ⟨_, e'⟩ | ⟨a', _⟩
    · rw [e, e']
    · omega
  · rcases h' with ⟨a', _⟩ | ⟨_, k'⟩
    · omega
    · refine zNN_det (K := zKp1 f n) (fun v b r r' h h' => zW1_det (bs := zwPurse) (K := zKp2 f n v) (fun b r r' h h' => zNN_det (lo := 0) (hi := 999) (K := zKp3 f n v) (fun u b r r' h h' => ?_) h h') h h') k k'
      rcases h with ⟨a, e⟩ | ⟨a, e⟩
      · rcases h' with ⟨_, e'⟩ | ⟨a', _⟩
        · rw [e, e']
        · exact absurd a a'
      · rcases h' with ⟨a', _⟩ | ⟨_, e'⟩
        · exact absurd a' a
        · rw [e, e']
/-! a work -/
def zKw5 (c d g b : Int) (r : zTs) : Prop := r = .ok b (1, c, d, g)
def zKw4 (f : Nat → Int32) (n c d b : Int) (r : zTs) : Prop := zNN f n 0 20 b (zKw5 c d) r
def zKw3 (f : Nat → Int32) (n c d b : Int) (r : zTs) : Prop := zW1 f n zwGain b (zKw4 f n c d) r
def zKw2 (f : Nat → Int32) (n c b : Int) (r : zTs) : Prop := zNN f n 0 799 b (zKw3 f n c) r
def zKw1 (f : Nat → Int32) (n c b : Int) (r : zTs) : Prop := zW1 f n zwNeed b (zKw2 f n c) r
def zTWork (f : Nat → Int32) (n wo b : Int) (r : zTs) : Prop := (6 ≤ wo ∧ r = .bad b) ∨ (wo < 6 ∧ zNN f n 1 99 (znt f n b) (zKw1 f n) r)
theorem zTW_f {f : Nat → Int32} {n wo b q : Int} (h : 6 ≤ wo) (eq : q = b) : zTWork f n wo b (.bad q) := by rw [eq]; exact Or.inl ⟨h, rfl⟩
theorem zTW_i {f : Nat → Int32} {n wo b b1 : Int} {r : zTs} (h : wo < 6) (m : zMv f n b b1) (k : zNN f n 1 99 b1 (zKw1 f n) r) : zTWork f n wo b r := by have e := znt_of m; subst e; exact Or.inr ⟨h, k⟩
theorem zTWork_det {f : Nat → Int32} {n wo b : Int} {r r' : zTs} (h : zTWork f n wo b r) (h' : zTWork f n wo b r') : r = r' := by
  rcases h with ⟨a, e⟩ | ⟨a, k⟩
  · rcases h' with ⟨_, e'⟩ | ⟨a', _⟩
    · rw [e, e']
    · omega
  · rcases h' with ⟨a', _⟩ | ⟨_, k'⟩
    · omega
    · refine zNN_det (K := zKw1 f n) (fun v b r r' h h' => zW1_det (bs := zwNeed) (K := zKw2 f n v) (fun b r r' h h' => zNN_det (lo := 0) (hi := 799) (K := zKw3 f n v) (fun u b r r' h h' => zW1_det (bs := zwGain) (K := zKw4 f n v u) (fun b r r' h h' => zNN_det (lo := 0) (hi := 20) (K := zKw5 v u) (fun w b r r' h h' => ?_) h h') h h') h h') h h') k k'
      exact (show r = .ok b (1, v, u, w) from h).trans (show r' = .ok b (1, v, u, w) from h').symm
/-! trusts, shares: behind the word -/
def zKt2 (f : Nat → Int32) (n pe x b : Int) (r : zTs) : Prop := ((zkd f n b = 2 ∧ znx f n b - b = pe) ∧ r = .ok (znt f n b) (2, x, b, 0)) ∨ (¬ (zkd f n b = 2 ∧ znx f n b - b = pe) ∧ r = .bad b)
def zKtr (f : Nat → Int32) (n pe b : Int) (r : zTs) : Prop := zNN f n 0 (pe - 1) b (zKt2 f n pe) r
theorem zKt2_y {f : Nat → Int32} {n k pe x b t b2 : Int} (h : zTk f n k b t) (hk : k = 2) (hl : t - b = pe) (m : zMv f n b b2) : zKt2 f n pe x b (.ok b2 (2, x, b, 0)) := by
  have e := znt_of m; subst e
  exact Or.inl ⟨⟨h.1 ▸ hk, by rw [← h.2]; exact hl⟩, rfl⟩
theorem zKt2_n {f : Nat → Int32} {n k pe x b t q : Int} (h : zTk f n k b t) (hk : ¬ (k = 2 ∧ t - b = pe)) (eq : q = b) : zKt2 f n pe x b (.bad q) := by
  rw [eq]
  exact Or.inr ⟨fun o => hk ⟨h.1.trans o.1, by rw [h.2]; exact o.2⟩, rfl⟩
def zKs2 (x v b : Int) (r : zTs) : Prop := r = .ok b (3, x, v, 0)
def zKs1 (f : Nat → Int32) (n x b : Int) (r : zTs) : Prop := zNN f n 0 99 b (zKs2 x) r
def zKsh (f : Nat → Int32) (n pe b : Int) (r : zTs) : Prop := zNN f n 0 (pe - 1) b (zKs1 f n) r
def zKo (k v b : Int) (r : zTs) : Prop := r = .ok b (k, v, 0, 0)
/-- behind the word of a line -/
def zTX (f : Nat → Int32) (n pe : Int) : Nat → Int → zTs → Prop
  | 2 => zKtr f n pe
  | 3 => zKsh f n pe
  | 4 => fun b r => zNN f n 0 999 b (zKo 4) r
  | 5 => fun b r => zNN f n 1 30 b (zKo 5) r
  | 6 => fun b r => zNN f n 0 100 b (zKo 6) r
  | _ => fun b r => zNN f n 0 999 b (zKo 7) r
def zTK (f : Nat → Int32) (n pe wo : Int) : Nat → Int → zTs → Prop
  | 0 => zTPerson f n pe
  | 1 => zTWork f n wo
  | k + 2 => fun b r => zTX f n pe (k + 2) (znt f n b) r
theorem zKo_det {f : Nat → Int32} {n lo hi k b : Int} {r r' : zTs} (h : zNN f n lo hi b (zKo k) r) (h' : zNN f n lo hi b (zKo k) r') : r = r' := zNN_det (K := zKo k) (fun v b r r' h h' => (show r = .ok b (k, v, 0, 0) from h).trans (show r' = .ok b (k, v, 0, 0) from h').symm) h h'
theorem zTX_det {f : Nat → Int32} {n pe : Int} {k : Nat} (hk : 2 ≤ k ∧ k < 8) {b : Int} {r r' : zTs} (h : zTX f n pe k b r) (h' : zTX f n pe k b r') : r = r' := by
  rcases (show k = 2 ∨ k = 3 ∨ k = 4 ∨ k = 5 ∨ k = 6 ∨ k = 7 by omega) with e | e | e | e | e | e <;> subst e
  · refine zNN_det (K := zKt2 f n pe) (fun v b r r' h h' => ?_) h h'
    rcases h with ⟨a, e⟩ | ⟨a, e⟩
    · rcases h' with ⟨_, e'⟩ | ⟨a', _⟩
      · rw [e, e']
      · exact absurd a a'
    · rcases h' with ⟨a', _⟩ | ⟨_, e'⟩
      · exact absurd a' a
      · rw [e, e']
  · exact zNN_det (K := zKs1 f n) (fun x b r r' h h' => zNN_det (lo := 0) (hi := 99) (K := zKs2 x) (fun v b r r' h h' => (show r = .ok b (3, x, v, 0) from h).trans (show r' = .ok b (3, x, v, 0) from h').symm) h h') h h'
  · exact zKo_det h h'
  · exact zKo_det h h'
  · exact zKo_det h h'
  · exact zKo_det h h'
theorem zTK_det {f : Nat → Int32} {n pe wo : Int} {k : Nat} (hk : k < 8) {b : Int} {r r' : zTs} (h : zTK f n pe wo k b r) (h' : zTK f n pe wo k b r') : r = r' := by
  match k, hk, h, h' with
  | 0, _, h, h' => exact zTPerson_det h h'
  | 1, _, h, h' => exact zTWork_det h h'
  | k + 2, hk, h, h' => exact zTX_det ⟨by omega, hk⟩ h h'
/-! a line -/
def zTLine (f : Nat → Int32) (n pe wo b : Int) (r : zTs) : Prop := (∃ k, k < 8 ∧ zisW f n b (zwT k) ∧ zTK f n pe wo k b r) ∨ ((∀ k, k < 8 → ¬ zisW f n b (zwT k)) ∧ r = .bad b)
theorem zTL_k {f : Nat → Int32} {n pe wo b : Int} {r : zTs} {k : Nat} (hk : k < 8) (h : zisW f n b (zwT k)) (t : zTK f n pe wo k b r) : zTLine f n pe wo b r := Or.inl ⟨k, hk, h, t⟩
theorem zTL_m {f : Nat → Int32} {n pe wo b b1 : Int} {r : zTs} (k : Nat) (hk : k + 2 < 8) (h : zisW f n b (zwT (k + 2))) (m : zMv f n b b1) (t : zTX f n pe (k + 2) b1 r) : zTLine f n pe wo b r := by
  have e := znt_of m; subst e; exact Or.inl ⟨k + 2, hk, h, t⟩
theorem zTL_no {f : Nat → Int32} {n pe wo b q : Int} (eq : q = b) (h0 : ¬ zisW f n b (zwT 0)) (h1 : ¬ zisW f n b (zwT 1)) (h2 : ¬ zisW f n b (zwT 2)) (h3 : ¬ zisW f n b (zwT 3)) (h4 : ¬ zisW f n b (zwT 4)) (h5 : ¬ zisW f n b (zwT 5)) (h6 : ¬ zisW f n b (zwT 6)) (h7 : ¬ zisW f n b (zwT 7)) : zTLine f n pe wo b (.bad q) := by
  rw [eq]
  refine Or.inr ⟨fun k hk => ?_, rfl⟩
  rcases (show k = 0 ∨ k = 1 ∨ k = 2 ∨ k = 3 ∨ k = 4 ∨ k = 5 ∨ k = 6 ∨ k = 7 by omega) with e | e | e | e | e | e | e | e <;> subst e <;> assumption
theorem zwT_l : ∀ k, k < 8 → 0 < (zwT k).length := by decide
theorem zwT_i : ∀ k, k < 8 → ∀ k', k' < 8 → (zwT k).length = (zwT k').length → (zwT k).getD 0 0 = (zwT k').getD 0 0 → k = k' := by decide
theorem zwT_u {f : Nat → Int32} {n b : Int} {k k' : Nat} (hk : k < 8) (hk' : k' < 8) (h : zisW f n b (zwT k)) (h' : zisW f n b (zwT k')) : k = k' := by
  have l := zwT_l k hk
  have l' := zwT_l k' hk'
  refine zwT_i k hk k' hk' ?_ ?_
  · have a := h.2.1
    have a' := h'.2.1
    omega
  · rw [← h.2.2 0 (by omega), ← h'.2.2 0 (by omega)]
theorem zTLine_det {f : Nat → Int32} {n pe wo b : Int} {r r' : zTs} (h : zTLine f n pe wo b r) (h' : zTLine f n pe wo b r') : r = r' := by
  rcases h with ⟨k, a, c, d⟩ | ⟨a, e⟩
  · rcases h' with ⟨k', a', c', d'⟩ | ⟨a', _⟩
    · have e := zwT_u a a' c c'
      subst e
      exact zTK_det a d d'
    · exact absurd c (a' k a)
  · rcases h' with ⟨k', a', c', _⟩ | ⟨_, e'⟩
    · exact absurd c' (a k' a')
    · rw [e, e']
/-! how many people, works there are behind a line -/
def zcp (c : zCm) (pe : Int) : Int := if c.1 = 0 then pe + 1 else pe
def zcw (c : zCm) (wo : Int) : Int := if c.1 = 1 then wo + 1 else wo
theorem zcp_y {x y z pe pe2 : Int} (h : pe2 = pe + 1) : pe2 = zcp (0, x, y, z) pe := by unfold zcp; rw [if_pos rfl]; exact h
theorem zcp_n {k x y z pe pe2 : Int} (hk : ¬ k = 0) (h : pe2 = pe) : pe2 = zcp (k, x, y, z) pe := by unfold zcp; rw [if_neg hk]; exact h
theorem zcw_y {x y z wo wo2 : Int} (h : wo2 = wo + 1) : wo2 = zcw (1, x, y, z) wo := by unfold zcw; rw [if_pos rfl]; exact h
theorem zcw_n {k x y z wo wo2 : Int} (hk : ¬ k = 1) (h : wo2 = wo) : wo2 = zcw (k, x, y, z) wo := by unfold zcw; rw [if_neg hk]; exact h
/-- a reader's good end -/
def zTO (R : zTs → Prop) (b2 pe pe2 wo wo2 : Int) : Prop := ∃ c, R (.ok b2 c) ∧ pe2 = zcp c pe ∧ wo2 = zcw c wo
theorem zTO_i {R R' : zTs → Prop} {b2 pe pe2 wo wo2 : Int} (t : zTO R b2 pe pe2 wo wo2) (h : ∀ c, R (.ok b2 c) → R' (.ok b2 c)) : zTO R' b2 pe pe2 wo wo2 := by
  obtain ⟨c, a, d⟩ := t
  exact ⟨c, h c a, d⟩
def zTq : Type := Sum (Int × Int × Int) Int
def zTq.ok (m pe wo : Int) : zTq := Sum.inl (m, pe, wo)
def zTq.bad (q : Int) : zTq := Sum.inr q
theorem zTq.okj {m m' p p' w w' : Int} (h : zTq.ok m p w = zTq.ok m' p' w') : m = m' ∧ p = p' ∧ w = w' := by
  have h' : (Sum.inl (m, p, w) : Sum (Int × Int × Int) Int) = Sum.inl (m', p', w') := h
  have h2 := Sum.inl.inj h'
  exact ⟨congrArg Prod.fst h2, congrArg (fun q => q.2.1) h2, congrArg (fun q => q.2.2) h2⟩
theorem zTq.badj {a b : Int} (h : zTq.bad a = zTq.bad b) : a = b := by
  have h' : (Sum.inr a : Sum (Int × Int × Int) Int) = Sum.inr b := h
  exact Sum.inr.inj h'
theorem zTq.ob {m p w b : Int} {P : Prop} (h : zTq.ok m p w = zTq.bad b) : P := by
  have h' : (Sum.inl (m, p, w) : Sum (Int × Int × Int) Int) = Sum.inr b := h
  cases h'
/-- lines, so many still allowed -/
def zTLs (f : Nat → Int32) (n : Int) : Nat → Int → Int → Int → zTq → Prop
  | 0, _, _, b, r => r = .bad b
  | k + 1, pe, wo, b, r => (∃ q, zTLine f n pe wo b (.bad q) ∧ r = .bad q) ∨ ∃ b1 c, zTLine f n pe wo b (.ok b1 c) ∧ ((n ≤ b1 ∧ r = .ok (k : Int) (zcp c pe) (zcw c wo)) ∨ (¬ n ≤ b1 ∧ ((¬ zisS f n b1 59 ∧ r = .bad b1) ∨ (zisS f n b1 59 ∧ zTLs f n k (zcp c pe) (zcw c wo) (znt f n b1) r))))
theorem zTLs_det (f : Nat → Int32) (n : Int) : ∀ (k : Nat) (pe wo b : Int) (r r' : zTq), zTLs f n k pe wo b r → zTLs f n k pe wo b r' → r = r'
  | 0, _, _, b, r, r', h, h' => (show r = .bad b from h).trans (show r' = .bad b from h').symm
  | k + 1, pe, wo, b, r, r', h, h' => by
    rcases h with ⟨q, h, e⟩ | ⟨b1, c, h, h2⟩
    · rcases h' with ⟨q', k1, e'⟩ | ⟨b1', c', k1, _⟩
      · rw [e, e', zTs.badj (zTLine_det h k1)]
      · exact zTs.bo (zTLine_det h k1)
    · rcases h' with ⟨q', k1, e'⟩ | ⟨b1', c', k1, k2⟩
      · exact zTs.ob (zTLine_det h k1)
      · obtain ⟨eb, ec⟩ := zTs.okj (zTLine_det h k1)
        subst eb; subst ec
        rcases h2 with ⟨a, e⟩ | ⟨a, ⟨c1, e⟩ | ⟨c1, d⟩⟩
        · rcases k2 with ⟨_, e'⟩ | ⟨a', _⟩
          · rw [e, e']
          · exact absurd a a'
        · rcases k2 with ⟨a', _⟩ | ⟨_, ⟨_, e'⟩ | ⟨c', _⟩⟩
          · exact absurd a' a
          · rw [e, e']
          · exact absurd c' c1
        · rcases k2 with ⟨a', _⟩ | ⟨_, ⟨c', _⟩ | ⟨_, d'⟩⟩
          · exact absurd a' a
          · exact absurd c1 c'
          · exact zTLs_det f n k _ _ _ _ _ d d'
theorem zTl_wrong {f : Nat → Int32} {n pe wo b q : Int} {m : Nat} (hm : 0 < m) (h : zTLine f n pe wo b (.bad q)) : zTLs f n m pe wo b (.bad q) := by
  obtain ⟨k, rfl⟩ : ∃ k, m = k + 1 := ⟨m - 1, by omega⟩
  exact Or.inl ⟨q, h, rfl⟩
theorem zTl_last {f : Nat → Int32} {n pe wo pe2 wo2 b b1 v : Int} {m : Nat} (hm : 0 < m) (h : zTO (zTLine f n pe wo b) b1 pe pe2 wo wo2) (he : n ≤ b1) (hv : v = (m : Int) - 1) : zTLs f n m pe wo b (.ok v pe2 wo2) := by
  obtain ⟨k, rfl⟩ : ∃ k, m = k + 1 := ⟨m - 1, by omega⟩
  obtain ⟨c, a, e1, e2⟩ := h
  subst e1; subst e2
  rw [show v = (k : Int) by omega]
  exact Or.inr ⟨b1, c, a, Or.inl ⟨he, rfl⟩⟩
theorem zTl_nosep {f : Nat → Int32} {n pe wo pe2 wo2 b b1 q : Int} {m : Nat} (hm : 0 < m) (h : zTO (zTLine f n pe wo b) b1 pe pe2 wo wo2) (he : ¬ n ≤ b1) (hs : ¬ zisS f n b1 59) (eq : q = b1) : zTLs f n m pe wo b (.bad q) := by
  obtain ⟨k, rfl⟩ : ∃ k, m = k + 1 := ⟨m - 1, by omega⟩
  obtain ⟨c, a, e1, e2⟩ := h
  rw [eq]
  exact Or.inr ⟨b1, c, a, Or.inr ⟨he, Or.inl ⟨hs, rfl⟩⟩⟩
theorem zTl_more {f : Nat → Int32} {n pe wo pe2 wo2 b b1 b2 : Int} {m m' : Nat} {r : zTq} (hm : m = m' + 1) (h : zTO (zTLine f n pe wo b) b1 pe pe2 wo wo2) (he : ¬ n ≤ b1) (hs : zisS f n b1 59) (mv : zMv f n b1 b2) (k : zTLs f n m' pe2 wo2 b2 r) : zTLs f n m pe wo b r := by
  subst hm
  obtain ⟨c, a, e1, e2⟩ := h
  subst e1; subst e2
  have e := znt_of mv
  subst e
  exact Or.inr ⟨b1, c, a, Or.inr ⟨he, Or.inr ⟨hs, k⟩⟩⟩
theorem zTl_none {f : Nat → Int32} {n pe wo b q : Int} {m : Nat} (hm : m = 0) (eq : q = b) : zTLs f n m pe wo b (.bad q) := by
  subst hm
  rw [eq]
  exact (show zTq.bad b = zTq.bad b from rfl)
theorem zTl_at {f : Nat → Int32} {n pe wo b : Int} {m m' : Nat} (e : m = m') : ∀ r, zTLs f n m pe wo b r → zTLs f n m' pe wo b r := fun _ h => e ▸ h
set_option maxRecDepth 100000 in
set_option maxHeartbeats 4000000 in
theorem c_addPersonF (l : Launch) (g : zG) (o : Nat) (a : Nat → Nat) (pe : Int32) (wo : Int32) (tx : Int32) (ch : Int32) (jo : Int32) (tr : Int32) (dy : Int32) (sd : Int32) (f : Nat → Nat → Int32) (be : Int32) (ha : Int32) (di : Int32) (b_pe : 0 ≤ pe.toInt ∧ pe.toInt ≤ 8) (b_wo : 0 ≤ wo.toInt ∧ wo.toInt ≤ 6) (rf : zZ4 f) (hdi : di = 0 ∨ di = 1) (hp7 : pe.toInt ≤ 7) : zM' g l yX9_addPerson (Cond.code yX9_addPerson cX9_addPerson 6 none :: zB) ({ frames := 1, cells := 0, slots := 0, locals := 23 } : Room) [.ref o, .int be, .int ha, .int di] [bTown g o a pe wo tx ch jo tr dy sd f] (fun u : Int32 × (Nat → Nat → Int32) => (fun (pe2 : Int32) (f2 : Nat → Nat → Int32) => none) (u.1) (u.2)) (fun u : Int32 × (Nat → Nat → Int32) => (fun (pe2 : Int32) (f2 : Nat → Nat → Int32) => (0 ≤ pe2.toInt ∧ pe2.toInt ≤ 8) ∧ (zZ4 f2) ∧ (pe2.toInt = pe.toInt + 1)) (u.1) (u.2)) (fun u : Int32 × (Nat → Nat → Int32) => (fun (pe2 : Int32) (f2 : Nat → Nat → Int32) => [bTown g o a pe2 wo tx ch jo tr dy sd f2]) (u.1) (u.2)) := by
  refine zM'.of (cc := cX9_addPerson) (maxL := 6) (rt := none) (by decide) rfl (Nat.le_of_ble_eq_true rfl) ?_
  intro p e s m args below meth c A ls St hr hlocks hin hK hT hA hP hD hS hl
  obtain ⟨hx, hb, hml, hown, hts⟩ := id St
  have hl : lv_has ls 6 [(0, .ref o), (1, .int be), (2, .int ha), (3, .int di)] := hl
  refine lv_aload_n hx hb dX9_addPerson_0 rfl (lv_at hl 0 rfl) ?_
  refine va_get (D := g.1) (ci := 7) (v := .int pe) (C := RX9) (T := TX9) (N := 19) hx hb hts izRX9 hown hK hP 0 rfl rfl 0 (by decide) (hts _ k31) (fun _ h9 => h9) rfl dX9_addPerson_1 ?_
  refine lv_istore (lv' := [(4, .int pe), (0, .ref o), (1, .int be), (2, .int ha), (3, .int di)]) hx hb dX9_addPerson_4 hl (by decide) rfl (fun ls hl => ?_)
  refine lv_iload hx hb dX9_addPerson_6 (lv_at hl 0 rfl) ?_
  refine lv_bipush (v := 8) hx hb dX9_addPerson_8 (by decide) ?_
  refine lv_icmp_lt (tgt := 14) hx hb dX9_addPerson_10 (by decide) (fun cb9 => ?_) (fun cb9 => ?_)
  · skip
    have c1 : pe.toInt < 8 := zlti cb9 rfl (by decide)
    have n2 : pe.toInt ≤ 7 := zL1 (b := 8) c1 (Int.le_refl _) (by decide)
    refine lv_aload_n hx hb dX9_addPerson_14 rfl (lv_at hl 1 rfl) ?_
    refine lv_dup hx hb dX9_addPerson_15 rfl ?_
    refine va_get (D := g.1) (ci := 7) (v := .int pe) (C := RX9) (T := TX9) (N := 19) hx hb hts izRX9 hown hK hP 0 rfl rfl 0 (by decide) (hts _ k31) (fun _ h9 => h9) rfl dX9_addPerson_16 ?_
    refine lv_iconst (v := 1) hx hb dX9_addPerson_19 (by decide) ?_
    refine lv_iadd hx hb dX9_addPerson_20 ?_
    refine zg3 (zaddK (i := pe.toInt) (j := 1) (a' := 1) (b' := 8) rfl (by decide) b_pe.1 n2 (Int.le_refl _) (Int.le_refl _) (by decide)) (fun x_3 hx_3 => ?_)
    refine va_put (D := g.1) (ci := 7) (v := .int x_3) (ty := .int) (C := RX9) (T := TX9) (N := 19) hx hb hts izRX9 tyX9 tyX9_ok nmX9 hown hK hP hD hS 0 rfl rfl 0 (by decide) (hts _ k31) (fun _ h9 => h9) rfl (by decide +kernel) rfl rfl (Nat.le_of_ble_eq_true rfl) dX9_addPerson_21 (fun H locs hP hD hS => ?_)
    have hP : va_P g.1 vwCl (List.flatten [bTown g o a x_3 wo tx ch jo tr dy sd f]) H := hP
    have hD : va_D A (List.flatten [bTown g o a x_3 wo tx ch jo tr dy sd f]) := hD
    refine lv_aload_n hx hb dX9_addPerson_24 rfl (lv_at hl 1 rfl) ?_
    refine va_get (D := g.1) (ci := 7) (v := .ref (a 0)) (C := RX9) (T := TX9) (N := 19) hx hb hts izRX9 hown hK hP 0 rfl rfl 8 (by decide) (hts _ k9) (fun _ h9 => h9) rfl dX9_addPerson_25 ?_
    refine lv_iload hx hb dX9_addPerson_28 (lv_at hl 0 rfl) ?_
    refine lv_iload_n hx hb dX9_addPerson_30 rfl (lv_at hl 2 rfl) ?_
    refine va_iast hx hb hK hP hD hS 1 0 rfl rfl (zinK (a := 0) (b := 7) b_pe.1 n2 (by decide)) dX9_addPerson_31 (fun H locs hP hD hS => ?_)
    obtain ⟨f4, rf4, hP, hD⟩ : ∃ f4 : Nat → Nat → Int32, zZ4 f4 ∧ va_P g.1 vwCl (List.flatten [bTown g o a x_3 wo tx ch jo tr dy sd f4]) H ∧ va_D A (List.flatten [bTown g o a x_3 wo tx ch jo tr dy sd f4]) := ⟨zu f 0 (upd (f 0) pe.toNatClampNeg be), (zZ4_u rf (by decide)), hP, hD⟩
    refine lv_aload_n hx hb dX9_addPerson_32 rfl (lv_at hl 1 rfl) ?_
    refine va_get (D := g.1) (ci := 7) (v := .ref (a 1)) (C := RX9) (T := TX9) (N := 19) hx hb hts izRX9 hown hK hP 0 rfl rfl 9 (by decide) (hts _ k10) (fun _ h9 => h9) rfl dX9_addPerson_33 ?_
    refine lv_iload hx hb dX9_addPerson_36 (lv_at hl 0 rfl) ?_
    refine lv_iload_n hx hb dX9_addPerson_38 rfl (lv_at hl 3 rfl) ?_
    refine va_iast hx hb hK hP hD hS 2 0 rfl rfl (zinK (a := 0) (b := 7) b_pe.1 n2 (by decide)) dX9_addPerson_39 (fun H locs hP hD hS => ?_)
    obtain ⟨f5, rf5, hP, hD⟩ : ∃ f5 : Nat → Nat → Int32, zZ4 f5 ∧ va_P g.1 vwCl (List.flatten [bTown g o a x_3 wo tx ch jo tr dy sd f5]) H ∧ va_D A (List.flatten [bTown g o a x_3 wo tx ch jo tr dy sd f5]) := ⟨zu f4 1 (upd (f4 1) pe.toNatClampNeg ha), (zZ4_u rf4 (by decide)), hP, hD⟩
    refine lv_aload_n hx hb dX9_addPerson_40 rfl (lv_at hl 1 rfl) ?_
    refine va_get (D := g.1) (ci := 7) (v := .ref (a 2)) (C := RX9) (T := TX9) (N := 19) hx hb hts izRX9 hown hK hP 0 rfl rfl 10 (by decide) (hts _ k11) (fun _ h9 => h9) rfl dX9_addPerson_41 ?_
    refine lv_iload hx hb dX9_addPerson_44 (lv_at hl 0 rfl) ?_
    refine lv_iconst (v := 0) hx hb dX9_addPerson_46 (by decide) ?_
    refine va_iast hx hb hK hP hD hS 3 0 rfl rfl (zinK (a := 0) (b := 7) b_pe.1 n2 (by decide)) dX9_addPerson_47 (fun H locs hP hD hS => ?_)
    obtain ⟨f6, rf6, hP, hD⟩ : ∃ f6 : Nat → Nat → Int32, zZ4 f6 ∧ va_P g.1 vwCl (List.flatten [bTown g o a x_3 wo tx ch jo tr dy sd f6]) H ∧ va_D A (List.flatten [bTown g o a x_3 wo tx ch jo tr dy sd f6]) := ⟨zu f5 2 (upd (f5 2) pe.toNatClampNeg 0), (zZ4_u rf5 (by decide)), hP, hD⟩
    refine lv_aload_n hx hb dX9_addPerson_48 rfl (lv_at hl 1 rfl) ?_
    refine va_get (D := g.1) (ci := 7) (v := .ref (a 3)) (C := RX9) (T := TX9) (N := 19) hx hb hts izRX9 hown hK hP 0 rfl rfl 11 (by decide) (hts _ k12) (fun _ h9 => h9) rfl dX9_addPerson_49 ?_
    refine lv_iload hx hb dX9_addPerson_52 (lv_at hl 0 rfl) ?_
    refine lv_iconst (v := (-1)) hx hb dX9_addPerson_54 (by decide) ?_
    refine va_iast hx hb hK hP hD hS 4 0 rfl rfl (zinK (a := 0) (b := 7) b_pe.1 n2 (by decide)) dX9_addPerson_55 (fun H locs hP hD hS => ?_)
    obtain ⟨f7, rf7, hP, hD⟩ : ∃ f7 : Nat → Nat → Int32, zZ4 f7 ∧ va_P g.1 vwCl (List.flatten [bTown g o a x_3 wo tx ch jo tr dy sd f7]) H ∧ va_D A (List.flatten [bTown g o a x_3 wo tx ch jo tr dy sd f7]) := ⟨zu f6 3 (upd (f6 3) pe.toNatClampNeg (-1)), (zZ4_u rf6 (by decide)), hP, hD⟩
    refine lv_aload_n hx hb dX9_addPerson_56 rfl (lv_at hl 1 rfl) ?_
    refine va_get (D := g.1) (ci := 7) (v := .ref (a 4)) (C := RX9) (T := TX9) (N := 19) hx hb hts izRX9 hown hK hP 0 rfl rfl 12 (by decide) (hts _ k14) (fun _ h9 => h9) rfl dX9_addPerson_57 ?_
    refine lv_iload hx hb dX9_addPerson_60 (lv_at hl 0 rfl) ?_
    refine lv_iload_n hx hb dX9_addPerson_62 rfl (lv_at hl 4 rfl) ?_
    refine va_zast hx hb hK hP hD hS 5 1 rfl rfl (zinK (a := 0) (b := 7) b_pe.1 n2 (by decide)) dX9_addPerson_63 (fun H locs hP hD hS => ?_)
    obtain ⟨f8, rf8, hP, hD⟩ : ∃ f8 : Nat → Nat → Int32, zZ4 f8 ∧ va_P g.1 vwCl (List.flatten [bTown g o a x_3 wo tx ch jo tr dy sd f8]) H ∧ va_D A (List.flatten [bTown g o a x_3 wo tx ch jo tr dy sd f8]) := ⟨zu f7 4 (upd (f7 4) pe.toNatClampNeg (vp_nar .boolean di)), (zZ4_s rf7 (by first | assumption | decide | omega)), hP, hD⟩
    refine lv_iconst (v := 0) hx hb dX9_addPerson_64 (by decide) ?_
    refine lv_istore (lv' := [(5, .int 0), (4, .int pe), (0, .ref o), (1, .int be), (2, .int ha), (3, .int di)]) hx hb dX9_addPerson_65 hl (by decide) rfl (fun ls hl => ?_)
    have hl := lv_sub (l' := [(0, .ref o), (1, .int be), (2, .int ha), (3, .int di), (4, .int pe), (5, .int 0)]) hl [2, 3, 4, 5, 1, 0] rfl
    have LP67_12 : ∀ (kf : Nat) (x_9 : Int32) (f_10 : Nat → Nat → Int32), (0 ≤ x_9.toInt ∧ x_9.toInt ≤ 8) → (zZ4 f_10) → ∀ (H : Heap) (locs : List Loc) (ls : Array Slot), ((9 - x_9.toInt).toNat) < kf → va_P g.1 vwCl (List.flatten [bTown g o a x_3 wo tx ch jo tr dy sd f_10]) H → va_D A (List.flatten [bTown g o a x_3 wo tx ch jo tr dy sd f_10]) → va_S A s.heap H locs → lv_has ls 6 [(0, .ref o), (1, .int be), (2, .int ha), (3, .int di), (4, .int pe), (5, .int x_9)] → W p l e ({ frames := 1, cells := 0, slots := 0, locals := 23 } : Room) s m args below meth c H locs (0) (0) (zF g (fun u : Int32 × (Nat → Nat → Int32) => (fun (pe2 : Int32) (f2 : Nat → Nat → Int32) => none) (u.1) (u.2)) (fun u : Int32 × (Nat → Nat → Int32) => (fun (pe2 : Int32) (f2 : Nat → Nat → Int32) => (0 ≤ pe2.toInt ∧ pe2.toInt ≤ 8) ∧ (zZ4 f2) ∧ (pe2.toInt = pe.toInt + 1)) (u.1) (u.2)) (fun u : Int32 × (Nat → Nat → Int32) => (fun (pe2 : Int32) (f2 : Nat → Nat → Int32) => [bTown g o a pe2 wo tx ch jo tr dy sd f2]) (u.1) (u.2)) ({ frames := 1, cells := 0, slots := 0, locals := 23 } : Room) below args s A) (F0 m 67 ls []) := by
      intro kf
      induction kf with
      | zero => intro x_9 f_10 i11 rf_10 H locs ls hk; exact absurd hk (Nat.not_lt_zero _)
      | succ kf ih67_13 =>
        intro x_9 f_10 i11 rf_10 H locs ls hk67_13 hP hD hS hl
        refine lv_iload hx hb dX9_addPerson_67 (lv_at hl 5 rfl) ?_
        refine lv_bipush (v := 8) hx hb dX9_addPerson_69 (by decide) ?_
        refine lv_icmp_ge (tgt := 98) hx hb dX9_addPerson_71 (by decide) (fun cb9 => ?_) (fun cb9 => ?_)
        · skip
          have c14 : 8 ≤ x_9.toInt := zle cb9 (by decide) rfl
          have n15 : 8 ≤ x_9.toInt := Int.le_trans (Int.le_refl _) c14
          have hP : va_P g.1 vwCl (List.flatten [bTown g o a x_3 wo tx ch jo tr dy sd f_10]) H := hP
          have hD : va_D A (List.flatten [bTown g o a x_3 wo tx ch jo tr dy sd f_10]) := hD
          exact mret_v hx hb hr hlocks hS (Nat.le_of_ble_eq_true rfl) (Nat.le_of_ble_eq_true rfl) dX9_addPerson_98 (x_3, f_10) rfl (show (0 ≤ x_3.toInt ∧ x_3.toInt ≤ 8) ∧ (zZ4 f_10) ∧ (x_3.toInt = pe.toInt + 1) from ⟨(by first | assumption | omega | decide | exact rfl | exact zb01 (by omega) | exact Or.inl (by decide) | exact Or.inr (by first | omega | decide)), rf_10, (by first | assumption | omega | decide | exact rfl | exact zb01 (by omega) | exact Or.inl (by decide) | exact Or.inr (by first | omega | decide))⟩) hP hD
        · skip
          have c16 : x_9.toInt < 8 := zlti (Int32.not_le.mp cb9) rfl (by decide)
          have n17 : x_9.toInt ≤ 7 := zL1 (b := 8) c16 (Int.le_refl _) (by decide)
          refine lv_aload_n hx hb dX9_addPerson_74 rfl (lv_at hl 0 rfl) ?_
          refine lv_iload hx hb dX9_addPerson_75 (lv_at hl 4 rfl) ?_
          refine lv_iload hx hb dX9_addPerson_77 (lv_at hl 5 rfl) ?_
          refine lv_iconst (v := 0) hx hb dX9_addPerson_79 (by decide) ?_
          refine mcallV' (g := g) (q0 := 0) (ci := 7) (As := [.int pe, .int x_9, .int 0]) (rest := []) St hK hT hA hP hD hS hl.1 [0] [] rfl rfl rfl (c_setTrust l g o a x_3 wo tx ch jo tr dy sd f_10 pe x_9 0 rf_10 (⟨b_pe.1, n2⟩) (⟨i11.1, n17⟩)) (cwV 3 hts (zgL (zl4 k436 k437 k438 k24) k434) rfl rfl rfl (by decide +kernel) ⟨Nat.le_of_ble_eq_true rfl, Nat.le_of_ble_eq_true rfl⟩) rfl rfl rfl rfl (Nat.le_of_ble_eq_true rfl) dX9_addPerson_80 ⟨(Nat.le_of_ble_eq_true rfl), (Nat.le_of_ble_eq_true rfl)⟩ (fun f2_18 H locs hq19 hP hD hS => ?_)
          replace hq19 : (zZ4 f2_18) := hq19
          have hP : va_P g.1 vwCl (List.flatten [bTown g o a x_3 wo tx ch jo tr dy sd f2_18]) H := hP
          have hD : va_D A (List.flatten [bTown g o a x_3 wo tx ch jo tr dy sd f2_18]) := hD
          refine W.widen (k := 0) (n := 0) (Nat.le_of_ble_eq_true rfl) (Nat.le_of_ble_eq_true rfl) ?_
          refine W.eq (g2 := F0 m 83 ls []) rfl ?_
          have rf2_18 := hq19; clear hq19
          refine lv_aload_n hx hb dX9_addPerson_83 rfl (lv_at hl 0 rfl) ?_
          refine lv_iload hx hb dX9_addPerson_84 (lv_at hl 5 rfl) ?_
          refine lv_iload hx hb dX9_addPerson_86 (lv_at hl 4 rfl) ?_
          refine lv_iconst (v := 0) hx hb dX9_addPerson_88 (by decide) ?_
          refine mcallV' (g := g) (q0 := 0) (ci := 7) (As := [.int x_9, .int pe, .int 0]) (rest := []) St hK hT hA hP hD hS hl.1 [0] [] rfl rfl rfl (c_setTrust l g o a x_3 wo tx ch jo tr dy sd f2_18 x_9 pe 0 rf2_18 (⟨i11.1, n17⟩) (⟨b_pe.1, n2⟩)) (cwV 3 hts (zgL (zl4 k436 k437 k438 k24) k434) rfl rfl rfl (by decide +kernel) ⟨Nat.le_of_ble_eq_true rfl, Nat.le_of_ble_eq_true rfl⟩) rfl rfl rfl rfl (Nat.le_of_ble_eq_true rfl) dX9_addPerson_89 ⟨(Nat.le_of_ble_eq_true rfl), (Nat.le_of_ble_eq_true rfl)⟩ (fun f2_20 H locs hq21 hP hD hS => ?_)
          replace hq21 : (zZ4 f2_20) := hq21
          have hP : va_P g.1 vwCl (List.flatten [bTown g o a x_3 wo tx ch jo tr dy sd f2_20]) H := hP
          have hD : va_D A (List.flatten [bTown g o a x_3 wo tx ch jo tr dy sd f2_20]) := hD
          refine W.widen (k := 0) (n := 0) (Nat.le_of_ble_eq_true rfl) (Nat.le_of_ble_eq_true rfl) ?_
          refine W.eq (g2 := F0 m 92 ls []) rfl ?_
          have rf2_20 := hq21; clear hq21
          refine ziinc3 (n' := 1) (a' := 1) (b' := 8) (lv' := fun v9 => [(5, .int v9), (0, .ref o), (1, .int be), (2, .int ha), (3, .int di), (4, .int pe)]) hx hb dX9_addPerson_92 hl (k := 5) rfl (by decide) (fun _ => rfl) (zaddK (i := x_9.toInt) (j := 1) rfl (by decide) i11.1 n17 (Int.le_refl _) (Int.le_refl _) (by decide)) (fun x_22 ls hx_22 hl => ?_)
          refine lv_goto (tgt := 67) hx hb dX9_addPerson_95 (by decide) ?_
          have hl := lv_sub (l' := [(0, .ref o), (1, .int be), (2, .int ha), (3, .int di), (4, .int pe), (5, .int x_22)]) hl [1, 2, 3, 4, 5, 0] rfl
          have hP : va_P g.1 vwCl (List.flatten [bTown g o a x_3 wo tx ch jo tr dy sd f2_20]) H := hP
          have hD : va_D A (List.flatten [bTown g o a x_3 wo tx ch jo tr dy sd f2_20]) := hD
          exact ih67_13 x_22 f2_20 ⟨(Int.le_trans (by decide) hx_22.2.1), hx_22.2.2⟩ rf2_20 H _ ls (zmK hx_22.1 (by decide) n17 (by decide) hk67_13)  hP hD hS (lv_sub hl [0, 1, 2, 3, 4, 5] rfl)
    have hP : va_P g.1 vwCl (List.flatten [bTown g o a x_3 wo tx ch jo tr dy sd f8]) H := hP
    have hD : va_D A (List.flatten [bTown g o a x_3 wo tx ch jo tr dy sd f8]) := hD
    exact LP67_12 _ 0 f8 (by decide) rf8 H _ ls (Nat.lt_succ_self _)  hP hD hS (lv_sub hl [0, 1, 2, 3, 4, 5] rfl)
  · skip
    have c23 : 8 ≤ pe.toInt := zle (Int32.not_lt.mp cb9) (by decide) rfl
    have n24 : 8 ≤ pe.toInt := Int.le_trans (Int.le_refl _) c23
    have hP : va_P g.1 vwCl (List.flatten [bTown g o a pe wo tx ch jo tr dy sd f]) s.heap := hP
    have hD : va_D A (List.flatten [bTown g o a pe wo tx ch jo tr dy sd f]) := hD
    exact mret_v hx hb hr hlocks hS (Nat.le_of_ble_eq_true rfl) (Nat.le_of_ble_eq_true rfl) dX9_addPerson_13 (pe, f) rfl (show (0 ≤ pe.toInt ∧ pe.toInt ≤ 8) ∧ (zZ4 f) ∧ (pe.toInt = pe.toInt + 1) from ⟨b_pe, rf, (by first | assumption | omega | decide | exact rfl | exact zb01 (by omega) | exact Or.inl (by decide) | exact Or.inr (by first | omega | decide))⟩) hP hD
set_option maxRecDepth 100000 in
set_option maxHeartbeats 4000000 in
theorem c_addWorkF (l : Launch) (g : zG) (o : Nat) (a : Nat → Nat) (pe : Int32) (wo : Int32) (tx : Int32) (ch : Int32) (jo : Int32) (tr : Int32) (dy : Int32) (sd : Int32) (f : Nat → Nat → Int32) (co : Int32) (ne9 : Int32) (ga : Int32) (b_pe : 0 ≤ pe.toInt ∧ pe.toInt ≤ 8) (b_wo : 0 ≤ wo.toInt ∧ wo.toInt ≤ 6) (rf : zZ4 f) (hp5 : wo.toInt ≤ 5) : zM' g l yX9_addWork (Cond.code yX9_addWork cX9_addWork 5 none :: zB) ({ frames := 0, cells := 0, slots := 0, locals := 0 } : Room) [.ref o, .int co, .int ne9, .int ga] [bTown g o a pe wo tx ch jo tr dy sd f] (fun u : Int32 × (Nat → Nat → Int32) => (fun (wo2 : Int32) (f2 : Nat → Nat → Int32) => none) (u.1) (u.2)) (fun u : Int32 × (Nat → Nat → Int32) => (fun (wo2 : Int32) (f2 : Nat → Nat → Int32) => (0 ≤ wo2.toInt ∧ wo2.toInt ≤ 6) ∧ (zZ4 f2) ∧ (wo2.toInt = wo.toInt + 1)) (u.1) (u.2)) (fun u : Int32 × (Nat → Nat → Int32) => (fun (wo2 : Int32) (f2 : Nat → Nat → Int32) => [bTown g o a pe wo2 tx ch jo tr dy sd f2]) (u.1) (u.2)) := by
  refine zM'.of (cc := cX9_addWork) (maxL := 5) (rt := none) (by decide) rfl (Nat.le_of_ble_eq_true rfl) ?_
  intro p e s m args below meth c A ls St hr hlocks hin hK hT hA hP hD hS hl
  obtain ⟨hx, hb, hml, hown, hts⟩ := id St
  have hl : lv_has ls 5 [(0, .ref o), (1, .int co), (2, .int ne9), (3, .int ga)] := hl
  refine lv_aload_n hx hb dX9_addWork_0 rfl (lv_at hl 0 rfl) ?_
  refine va_get (D := g.1) (ci := 7) (v := .int wo) (C := RX9) (T := TX9) (N := 19) hx hb hts izRX9 hown hK hP 0 rfl rfl 1 (by decide) (hts _ k32) (fun _ h9 => h9) rfl dX9_addWork_1 ?_
  refine lv_istore (lv' := [(4, .int wo), (0, .ref o), (1, .int co), (2, .int ne9), (3, .int ga)]) hx hb dX9_addWork_4 hl (by decide) rfl (fun ls hl => ?_)
  refine lv_iload hx hb dX9_addWork_6 (lv_at hl 0 rfl) ?_
  refine lv_bipush (v := 6) hx hb dX9_addWork_8 (by decide) ?_
  refine lv_icmp_lt (tgt := 14) hx hb dX9_addWork_10 (by decide) (fun cb9 => ?_) (fun cb9 => ?_)
  · skip
    have c1 : wo.toInt < 6 := zlti cb9 rfl (by decide)
    have n2 : wo.toInt ≤ 5 := zL1 (b := 6) c1 (Int.le_refl _) (by decide)
    refine lv_aload_n hx hb dX9_addWork_14 rfl (lv_at hl 1 rfl) ?_
    refine lv_dup hx hb dX9_addWork_15 rfl ?_
    refine va_get (D := g.1) (ci := 7) (v := .int wo) (C := RX9) (T := TX9) (N := 19) hx hb hts izRX9 hown hK hP 0 rfl rfl 1 (by decide) (hts _ k32) (fun _ h9 => h9) rfl dX9_addWork_16 ?_
    refine lv_iconst (v := 1) hx hb dX9_addWork_19 (by decide) ?_
    refine lv_iadd hx hb dX9_addWork_20 ?_
    refine zg3 (zaddK (i := wo.toInt) (j := 1) (a' := 1) (b' := 6) rfl (by decide) b_wo.1 n2 (Int.le_refl _) (Int.le_refl _) (by decide)) (fun x_3 hx_3 => ?_)
    refine va_put (D := g.1) (ci := 7) (v := .int x_3) (ty := .int) (C := RX9) (T := TX9) (N := 19) hx hb hts izRX9 tyX9 tyX9_ok nmX9 hown hK hP hD hS 0 rfl rfl 1 (by decide) (hts _ k32) (fun _ h9 => h9) rfl (by decide +kernel) rfl rfl (Nat.le_of_ble_eq_true rfl) dX9_addWork_21 (fun H locs hP hD hS => ?_)
    have hP : va_P g.1 vwCl (List.flatten [bTown g o a pe x_3 tx ch jo tr dy sd f]) H := hP
    have hD : va_D A (List.flatten [bTown g o a pe x_3 tx ch jo tr dy sd f]) := hD
    refine lv_aload_n hx hb dX9_addWork_24 rfl (lv_at hl 1 rfl) ?_
    refine va_get (D := g.1) (ci := 7) (v := .ref (a 6)) (C := RX9) (T := TX9) (N := 19) hx hb hts izRX9 hown hK hP 0 rfl rfl 14 (by decide) (hts _ k16) (fun _ h9 => h9) rfl dX9_addWork_25 ?_
    refine lv_iload hx hb dX9_addWork_28 (lv_at hl 0 rfl) ?_
    refine lv_iload_n hx hb dX9_addWork_30 rfl (lv_at hl 2 rfl) ?_
    refine va_iast hx hb hK hP hD hS 7 0 rfl rfl (zinK (a := 0) (b := 5) b_wo.1 n2 (by decide)) dX9_addWork_31 (fun H locs hP hD hS => ?_)
    obtain ⟨f4, rf4, hP, hD⟩ : ∃ f4 : Nat → Nat → Int32, zZ4 f4 ∧ va_P g.1 vwCl (List.flatten [bTown g o a pe x_3 tx ch jo tr dy sd f4]) H ∧ va_D A (List.flatten [bTown g o a pe x_3 tx ch jo tr dy sd f4]) := ⟨zu f 6 (upd (f 6) wo.toNatClampNeg co), (zZ4_u rf (by decide)), hP, hD⟩
    refine lv_aload_n hx hb dX9_addWork_32 rfl (lv_at hl 1 rfl) ?_
    refine va_get (D := g.1) (ci := 7) (v := .ref (a 7)) (C := RX9) (T := TX9) (N := 19) hx hb hts izRX9 hown hK hP 0 rfl rfl 15 (by decide) (hts _ k17) (fun _ h9 => h9) rfl dX9_addWork_33 ?_
    refine lv_iload hx hb dX9_addWork_36 (lv_at hl 0 rfl) ?_
    refine lv_iload_n hx hb dX9_addWork_38 rfl (lv_at hl 3 rfl) ?_
    refine va_iast hx hb hK hP hD hS 8 0 rfl rfl (zinK (a := 0) (b := 5) b_wo.1 n2 (by decide)) dX9_addWork_39 (fun H locs hP hD hS => ?_)
    obtain ⟨f5, rf5, hP, hD⟩ : ∃ f5 : Nat → Nat → Int32, zZ4 f5 ∧ va_P g.1 vwCl (List.flatten [bTown g o a pe x_3 tx ch jo tr dy sd f5]) H ∧ va_D A (List.flatten [bTown g o a pe x_3 tx ch jo tr dy sd f5]) := ⟨zu f4 7 (upd (f4 7) wo.toNatClampNeg ne9), (zZ4_u rf4 (by decide)), hP, hD⟩
    refine lv_aload_n hx hb dX9_addWork_40 rfl (lv_at hl 1 rfl) ?_
    refine va_get (D := g.1) (ci := 7) (v := .ref (a 8)) (C := RX9) (T := TX9) (N := 19) hx hb hts izRX9 hown hK hP 0 rfl rfl 16 (by decide) (hts _ k18) (fun _ h9 => h9) rfl dX9_addWork_41 ?_
    refine lv_iload hx hb dX9_addWork_44 (lv_at hl 0 rfl) ?_
    refine lv_iload_n hx hb dX9_addWork_46 rfl (lv_at hl 4 rfl) ?_
    refine va_iast hx hb hK hP hD hS 9 0 rfl rfl (zinK (a := 0) (b := 5) b_wo.1 n2 (by decide)) dX9_addWork_47 (fun H locs hP hD hS => ?_)
    obtain ⟨f6, rf6, hP, hD⟩ : ∃ f6 : Nat → Nat → Int32, zZ4 f6 ∧ va_P g.1 vwCl (List.flatten [bTown g o a pe x_3 tx ch jo tr dy sd f6]) H ∧ va_D A (List.flatten [bTown g o a pe x_3 tx ch jo tr dy sd f6]) := ⟨zu f5 8 (upd (f5 8) wo.toNatClampNeg ga), (zZ4_u rf5 (by decide)), hP, hD⟩
    refine lv_aload_n hx hb dX9_addWork_48 rfl (lv_at hl 1 rfl) ?_
    refine va_get (D := g.1) (ci := 7) (v := .ref (a 9)) (C := RX9) (T := TX9) (N := 19) hx hb hts izRX9 hown hK hP 0 rfl rfl 17 (by decide) (hts _ k19) (fun _ h9 => h9) rfl dX9_addWork_49 ?_
    refine lv_iload hx hb dX9_addWork_52 (lv_at hl 0 rfl) ?_
    refine lv_iconst (v := 0) hx hb dX9_addWork_54 (by decide) ?_
    refine va_iast hx hb hK hP hD hS 10 0 rfl rfl (zinK (a := 0) (b := 5) b_wo.1 n2 (by decide)) dX9_addWork_55 (fun H locs hP hD hS => ?_)
    obtain ⟨f7, rf7, hP, hD⟩ : ∃ f7 : Nat → Nat → Int32, zZ4 f7 ∧ va_P g.1 vwCl (List.flatten [bTown g o a pe x_3 tx ch jo tr dy sd f7]) H ∧ va_D A (List.flatten [bTown g o a pe x_3 tx ch jo tr dy sd f7]) := ⟨zu f6 9 (upd (f6 9) wo.toNatClampNeg 0), (zZ4_u rf6 (by decide)), hP, hD⟩
    have hP : va_P g.1 vwCl (List.flatten [bTown g o a pe x_3 tx ch jo tr dy sd f7]) H := hP
    have hD : va_D A (List.flatten [bTown g o a pe x_3 tx ch jo tr dy sd f7]) := hD
    exact mret_v hx hb hr hlocks hS (Nat.le_of_ble_eq_true rfl) (Nat.le_of_ble_eq_true rfl) dX9_addWork_56 (x_3, f7) rfl (show (0 ≤ x_3.toInt ∧ x_3.toInt ≤ 6) ∧ (zZ4 f7) ∧ (x_3.toInt = wo.toInt + 1) from ⟨(by first | assumption | omega | decide | exact rfl | exact zb01 (by omega) | exact Or.inl (by decide) | exact Or.inr (by first | omega | decide)), rf7, (by first | assumption | omega | decide | exact rfl | exact zb01 (by omega) | exact Or.inl (by decide) | exact Or.inr (by first | omega | decide))⟩) hP hD
  · skip
    have c8 : 6 ≤ wo.toInt := zle (Int32.not_lt.mp cb9) (by decide) rfl
    have n9 : 6 ≤ wo.toInt := Int.le_trans (Int.le_refl _) c8
    have hP : va_P g.1 vwCl (List.flatten [bTown g o a pe wo tx ch jo tr dy sd f]) s.heap := hP
    have hD : va_D A (List.flatten [bTown g o a pe wo tx ch jo tr dy sd f]) := hD
    exact mret_v hx hb hr hlocks hS (Nat.le_of_ble_eq_true rfl) (Nat.le_of_ble_eq_true rfl) dX9_addWork_13 (wo, f) rfl (show (0 ≤ wo.toInt ∧ wo.toInt ≤ 6) ∧ (zZ4 f) ∧ (wo.toInt = wo.toInt + 1) from ⟨b_wo, rf, (by first | assumption | omega | decide | exact rfl | exact zb01 (by omega) | exact Or.inl (by decide) | exact Or.inr (by first | omega | decide))⟩) hP hD
set_option maxRecDepth 100000 in
set_option maxHeartbeats 4000000 in
theorem c_tt_readPersonF (l : Launch) (g : zG) (tt : Nat) (ta : Nat) (o : Nat) (ab : Nat) (sz : Int32) (ln : Int32) (kd : Int32) (bg : Int32) (nx : Int32) (fb : Nat → Int32) (a : Nat → Nat) (pe : Int32) (wo : Int32) (tx : Int32) (ch : Int32) (jo : Int32) (tr : Int32) (dy : Int32) (sd : Int32) (f : Nat → Nat → Int32) (b_pe : 0 ≤ pe.toInt ∧ pe.toInt ≤ 8) (b_wo : 0 ≤ wo.toInt ∧ wo.toInt ≤ 6) (rf : zZ4 f) (hln : 0 ≤ ln.toInt ∧ ln.toInt ≤ 400) (hnx : 0 ≤ nx.toInt ∧ nx.toInt ≤ 400) (hbg : 0 ≤ bg.toInt ∧ bg.toInt ≤ 400) (hkd : zKd kd.toInt bg.toInt nx.toInt) (hTk : zTk fb ln.toInt kd.toInt bg.toInt nx.toInt) : zM' g l yX10_readPerson (Cond.code yX10_readPerson cX10_readPerson 3 (some .boolean) :: zB) ({ frames := 7, cells := 0, slots := 0, locals := 149 } : Room) [.ref tt] [bTT g tt ta o, bTape g ta ab sz ln kd bg nx (-1) fb, bTown g o a pe wo tx ch jo tr dy sd f] (fun u : Int32 × Int32 × Int32 × Int32 × Int32 × (Nat → Nat → Int32) × Int32 => (fun (kd2 : Int32) (bg2 : Int32) (nx2 : Int32) (ft2 : Int32) (pe2 : Int32) (f2 : Nat → Nat → Int32) (q : Int32) => some (.int q)) (u.1) (u.2.1) (u.2.2.1) (u.2.2.2.1) (u.2.2.2.2.1) (u.2.2.2.2.2.1) (u.2.2.2.2.2.2)) (fun u : Int32 × Int32 × Int32 × Int32 × Int32 × (Nat → Nat → Int32) × Int32 => (fun (kd2 : Int32) (bg2 : Int32) (nx2 : Int32) (ft2 : Int32) (pe2 : Int32) (f2 : Nat → Nat → Int32) (q : Int32) => (0 ≤ pe2.toInt ∧ pe2.toInt ≤ 8) ∧ (zZ4 f2) ∧ (-1 ≤ ft2.toInt) ∧ (0 ≤ nx2.toInt ∧ nx2.toInt ≤ 400) ∧ (0 ≤ bg2.toInt ∧ bg2.toInt ≤ 400) ∧ (zKd kd2.toInt bg2.toInt nx2.toInt) ∧ (zTk fb ln.toInt kd2.toInt bg2.toInt nx2.toInt) ∧ (q = 1 ∧ zTO (zTPerson fb ln.toInt pe.toInt bg.toInt) bg2.toInt pe.toInt pe2.toInt wo.toInt wo.toInt ∧ (-1) = ft2 ∨ q = 0 ∧ zTPerson fb ln.toInt pe.toInt bg.toInt (.bad ft2.toInt))) (u.1) (u.2.1) (u.2.2.1) (u.2.2.2.1) (u.2.2.2.2.1) (u.2.2.2.2.2.1) (u.2.2.2.2.2.2)) (fun u : Int32 × Int32 × Int32 × Int32 × Int32 × (Nat → Nat → Int32) × Int32 => (fun (kd2 : Int32) (bg2 : Int32) (nx2 : Int32) (ft2 : Int32) (pe2 : Int32) (f2 : Nat → Nat → Int32) (q : Int32) => [bTT g tt ta o, bTape g ta ab sz ln kd2 bg2 nx2 ft2 fb, bTown g o a pe2 wo tx ch jo tr dy sd f2]) (u.1) (u.2.1) (u.2.2.1) (u.2.2.2.1) (u.2.2.2.2.1) (u.2.2.2.2.2.1) (u.2.2.2.2.2.2)) := by
  refine zM'.of (cc := cX10_readPerson) (maxL := 3) (rt := (some .boolean)) (by decide) rfl (Nat.le_of_ble_eq_true rfl) ?_
  intro p e s m args below meth c A ls St hr hlocks hin hK hT hA hP hD hS hl
  obtain ⟨hx, hb, hml, hown, hts⟩ := id St
  have hl : lv_has ls 3 [(0, .ref tt)] := hl
  refine lv_aload_n hx hb dX10_readPerson_0 rfl (lv_at hl 0 rfl) ?_
  refine va_get (D := g.1) (ci := 8) (v := .ref o) (C := RX10) (T := TX10) (N := 2) hx hb hts izRX10 hown hK hP 0 rfl rfl 1 (by decide) (hts _ k439) (fun _ h9 => h9) rfl dX10_readPerson_1 ?_
  refine va_get (D := g.1) (ci := 7) (v := .int pe) (C := RX9) (T := TX9) (N := 19) hx hb hts izRX9 hown hK hP 3 rfl rfl 0 (by decide) (hts _ k440) (fun _ h9 => h9) rfl dX10_readPerson_4 ?_
  refine lv_bipush (v := 8) hx hb dX10_readPerson_7 (by decide) ?_
  refine lv_icmp_lt (tgt := 20) hx hb dX10_readPerson_9 (by decide) (fun cb9 => ?_) (fun cb9 => ?_)
  · skip
    have c1 : pe.toInt < 8 := zlti cb9 rfl (by decide)
    have n2 : pe.toInt ≤ 7 := zL1 (b := 8) c1 (Int.le_refl _) (by decide)
    refine lv_aload_n hx hb dX10_readPerson_20 rfl (lv_at hl 0 rfl) ?_
    refine va_get (D := g.1) (ci := 8) (v := .ref ta) (C := RX10) (T := TX10) (N := 2) hx hb hts izRX10 hown hK hP 0 rfl rfl 0 (by decide) (hts _ k441) (fun x9 h9 => u_same (hts _ k442) x9 h9) rfl dX10_readPerson_21 ?_
    refine mcallV' (g := g) (q0 := 0) (ci := 6) (As := []) (rest := []) St hK hT hA hP hD hS hl.1 [1] [0, 2] rfl rfl rfl (c_t_stepF l g ta ab sz ln kd bg nx (-1) fb hln hnx) (cwV 0 hts (zgL (zl4 k444 k275 k276 k277) k271) rfl rfl rfl (by decide +kernel) ⟨Nat.le_of_ble_eq_true rfl, Nat.le_of_ble_eq_true rfl⟩) rfl rfl rfl rfl (Nat.le_of_ble_eq_true rfl) dX10_readPerson_24 ⟨(Nat.le_of_ble_eq_true rfl), (Nat.le_of_ble_eq_true rfl)⟩ (fun u_ H locs hq6 hP hD hS => ?_)
    obtain ⟨kd2_3, bg2_4, nx2_5⟩ := u_
    replace hq6 : (0 ≤ nx2_5.toInt ∧ nx2_5.toInt ≤ 400) ∧ (0 ≤ bg2_4.toInt ∧ bg2_4.toInt ≤ 400) ∧ (zKd kd2_3.toInt bg2_4.toInt nx2_5.toInt) ∧ (zSk fb ln.toInt nx.toInt bg2_4.toInt) ∧ (zTk fb ln.toInt kd2_3.toInt bg2_4.toInt nx2_5.toInt) := hq6
    have hP : va_P g.1 vwCl (List.flatten [bTT g tt ta o, bTown g o a pe wo tx ch jo tr dy sd f, bTape g ta ab sz ln kd2_3 bg2_4 nx2_5 (-1) fb]) H := hP
    have hD : va_D A (List.flatten [bTT g tt ta o, bTown g o a pe wo tx ch jo tr dy sd f, bTape g ta ab sz ln kd2_3 bg2_4 nx2_5 (-1) fb]) := hD
    refine W.widen (k := 0) (n := 0) (Nat.le_of_ble_eq_true rfl) (Nat.le_of_ble_eq_true rfl) ?_
    refine W.eq (g2 := F0 m 27 ls []) rfl ?_
    obtain ⟨hq6_0, hq6_1, hq6_2, hq6_3, hq6_4⟩ := hq6
    refine lv_aload_n hx hb dX10_readPerson_27 rfl (lv_at hl 0 rfl) ?_
    refine va_get (D := g.1) (ci := 8) (v := .ref ta) (C := RX10) (T := TX10) (N := 2) hx hb hts izRX10 hown hK hP 0 rfl rfl 0 (by decide) (hts _ k441) (fun x9 h9 => u_same (hts _ k442) x9 h9) rfl dX10_readPerson_28 ?_
    refine lv_iconst (v := 0) hx hb dX10_readPerson_31 (by decide) ?_
    refine lv_bipush (v := 99) hx hb dX10_readPerson_32 (by decide) ?_
    have hL0 : (0 : Int32).toInt = 0 := by decide
    have hL99 : (99 : Int32).toInt = 99 := by decide
    refine mcallV' (g := g) (q0 := 0) (ci := 6) (As := [.int 0, .int 99]) (rest := []) St hK hT hA hP hD hS hl.1 [2] [0, 1] rfl rfl rfl (c_t_numberF l g ta ab sz ln kd2_3 bg2_4 nx2_5 fb 0 99 hln hq6_0 hq6_1 hq6_2 hq6_4) (cwV 2 hts (zgL (zl4 k445 k294 k295 k277) k273) rfl rfl rfl (by decide +kernel) ⟨Nat.le_of_ble_eq_true rfl, Nat.le_of_ble_eq_true rfl⟩) rfl rfl rfl rfl (Nat.le_of_ble_eq_true rfl) dX10_readPerson_34 ⟨(Nat.le_of_ble_eq_true rfl), (Nat.le_of_ble_eq_true rfl)⟩ (fun u_ H locs hq12 hP hD hS => ?_)
    obtain ⟨kd2_7, bg2_8, nx2_9, ft2_10, q_11⟩ := u_
    replace hq12 : (-1 ≤ ft2_10.toInt) ∧ (0 ≤ nx2_9.toInt ∧ nx2_9.toInt ≤ 400) ∧ (0 ≤ bg2_8.toInt ∧ bg2_8.toInt ≤ 400) ∧ (zKd kd2_7.toInt bg2_8.toInt nx2_9.toInt) ∧ (zTk fb ln.toInt kd2_7.toInt bg2_8.toInt nx2_9.toInt) ∧ (zNu fb ln.toInt bg2_4.toInt (0 : Int32).toInt (99 : Int32).toInt q_11 ∧ zMv fb ln.toInt bg2_4.toInt bg2_8.toInt ∧ (-1) = ft2_10 ∨ q_11 = -1 ∧ (¬ ∃ v9, zNu fb ln.toInt bg2_4.toInt (0 : Int32).toInt (99 : Int32).toInt v9) ∧ bg2_4 = ft2_10 ∧ kd2_3 = kd2_7 ∧ bg2_4 = bg2_8 ∧ nx2_5 = nx2_9) := hq12
    have hP : va_P g.1 vwCl (List.flatten [bTT g tt ta o, bTown g o a pe wo tx ch jo tr dy sd f, bTape g ta ab sz ln kd2_7 bg2_8 nx2_9 ft2_10 fb]) H := hP
    have hD : va_D A (List.flatten [bTT g tt ta o, bTown g o a pe wo tx ch jo tr dy sd f, bTape g ta ab sz ln kd2_7 bg2_8 nx2_9 ft2_10 fb]) := hD
    refine W.widen (k := 0) (n := 0) (Nat.le_of_ble_eq_true rfl) (Nat.le_of_ble_eq_true rfl) ?_
    refine W.eq (g2 := F0 m 37 ls [.int q_11]) rfl ?_
    obtain ⟨hq12_0, hq12_1, hq12_2, hq12_3, hq12_4, hq12_5⟩ := hq12
    rcases hq12_5 with ⟨hq12_k, hq12_km, rfl⟩ | ⟨rfl, hq12_k, rfl, rfl, rfl, rfl⟩
    · skip
      have w13 : 0 ≤ q_11.toInt ∧ q_11.toInt ≤ 99 := ⟨(by have h9 := hq12_k.2.2.1; omega), (by have h9 := hq12_k.2.2.2; omega)⟩
      refine lv_istore_n (lv' := [(1, .int q_11), (0, .ref tt)]) hx hb dX10_readPerson_37 rfl hl (by decide) rfl (fun ls hl => ?_)
      refine lv_iload_n hx hb dX10_readPerson_38 rfl (lv_at hl 0 rfl) ?_
      refine lv_iconst (v := (-1)) hx hb dX10_readPerson_39 (by decide) ?_
      refine lv_icmp_eq (tgt := 55) hx hb dX10_readPerson_40 (by decide) (fun cb9 => ?_) (fun cb9 => ?_)
      · skip
        exact absurd (show q_11.toInt = (-1) from zeq cb9 rfl (by decide)) (zDeq2 (a := 0) (b := (-1)) w13.1 (Int.le_refl _) (by decide))
      · skip
        have c15 : ¬ q_11.toInt = (-1) := zne cb9 rfl (by decide)
        refine lv_aload_n hx hb dX10_readPerson_43 rfl (lv_at hl 1 rfl) ?_
        refine va_get (D := g.1) (ci := 8) (v := .ref ta) (C := RX10) (T := TX10) (N := 2) hx hb hts izRX10 hown hK hP 0 rfl rfl 0 (by decide) (hts _ k441) (fun x9 h9 => u_same (hts _ k442) x9 h9) rfl dX10_readPerson_44 ?_
        refine va_ldcS (q := g.2 54) hx hb hown (zra22 hT.2.1) dX10_readPerson_47 ?_
        refine mcallV' (g := g) (q0 := 0) (ci := 6) (As := [.ref (g.2 54)]) (rest := []) St hK hT hA hP hD hS hl.1 [2] [0, 1] rfl rfl rfl (c_t_needWordF l g ta ab sz ln kd2_7 bg2_8 nx2_9 fb (g.2 54) 22 zqa22 hln hq12_1 hq12_2 hq12_3 hq12_4 rfl zla22 zna22 (zlitB zla22)) (cwV 1 hts (zgL (zl4 k446 k447 k448 k277) k431) rfl rfl rfl (by decide +kernel) ⟨Nat.le_of_ble_eq_true rfl, Nat.le_of_ble_eq_true rfl⟩) rfl rfl rfl rfl (Nat.le_of_ble_eq_true rfl) dX10_readPerson_49 ⟨(Nat.le_of_ble_eq_true rfl), (Nat.le_of_ble_eq_true rfl)⟩ (fun u_ H locs hq21 hP hD hS => ?_)
        obtain ⟨kd2_16, bg2_17, nx2_18, ft2_19, r_20⟩ := u_
        replace hq21 : (-1 ≤ ft2_19.toInt) ∧ (0 ≤ nx2_18.toInt ∧ nx2_18.toInt ≤ 400) ∧ (0 ≤ bg2_17.toInt ∧ bg2_17.toInt ≤ 400) ∧ (zKd kd2_16.toInt bg2_17.toInt nx2_18.toInt) ∧ (zTk fb ln.toInt kd2_16.toInt bg2_17.toInt nx2_18.toInt) ∧ (r_20 = 1 ∧ zisW fb ln.toInt bg2_8.toInt zqa22.2.2.2 ∧ zMv fb ln.toInt bg2_8.toInt bg2_17.toInt ∧ (-1) = ft2_19 ∨ r_20 = 0 ∧ ¬ zisW fb ln.toInt bg2_8.toInt zqa22.2.2.2 ∧ bg2_8 = ft2_19 ∧ kd2_7 = kd2_16 ∧ bg2_8 = bg2_17 ∧ nx2_9 = nx2_18) := hq21
        have hP : va_P g.1 vwCl (List.flatten [bTT g tt ta o, bTown g o a pe wo tx ch jo tr dy sd f, bTape g ta ab sz ln kd2_16 bg2_17 nx2_18 ft2_19 fb]) H := hP
        have hD : va_D A (List.flatten [bTT g tt ta o, bTown g o a pe wo tx ch jo tr dy sd f, bTape g ta ab sz ln kd2_16 bg2_17 nx2_18 ft2_19 fb]) := hD
        refine W.widen (k := 0) (n := 0) (Nat.le_of_ble_eq_true rfl) (Nat.le_of_ble_eq_true rfl) ?_
        refine W.eq (g2 := F0 m 52 ls [.int r_20]) rfl ?_
        obtain ⟨hq21_0, hq21_1, hq21_2, hq21_3, hq21_4, hq21_5⟩ := hq21
        rcases hq21_5 with ⟨rfl, hq21_k, hq21_km, rfl⟩ | ⟨rfl, hq21_k, rfl, rfl, rfl, rfl⟩
        · skip
          refine lv_if_ne (tgt := 57) hx hb dX10_readPerson_52 (by decide) (fun _ => ?_) (fun c22 => absurd c22 (by decide))
          refine lv_aload_n hx hb dX10_readPerson_57 rfl (lv_at hl 1 rfl) ?_
          refine va_get (D := g.1) (ci := 8) (v := .ref ta) (C := RX10) (T := TX10) (N := 2) hx hb hts izRX10 hown hK hP 0 rfl rfl 0 (by decide) (hts _ k441) (fun x9 h9 => u_same (hts _ k442) x9 h9) rfl dX10_readPerson_58 ?_
          refine lv_iconst (v := 0) hx hb dX10_readPerson_61 (by decide) ?_
          refine lv_sipush (v := 999) hx hb dX10_readPerson_62 (by decide) ?_
          have hL999 : (999 : Int32).toInt = 999 := by decide
          refine mcallV' (g := g) (q0 := 0) (ci := 6) (As := [.int 0, .int 999]) (rest := []) St hK hT hA hP hD hS hl.1 [2] [0, 1] rfl rfl rfl (c_t_numberF l g ta ab sz ln kd2_16 bg2_17 nx2_18 fb 0 999 hln hq21_1 hq21_2 hq21_3 hq21_4) (cwV 2 hts (zgL (zl4 k445 k294 k295 k277) k273) rfl rfl rfl (by decide +kernel) ⟨Nat.le_of_ble_eq_true rfl, Nat.le_of_ble_eq_true rfl⟩) rfl rfl rfl rfl (Nat.le_of_ble_eq_true rfl) dX10_readPerson_65 ⟨(Nat.le_of_ble_eq_true rfl), (Nat.le_of_ble_eq_true rfl)⟩ (fun u_ H locs hq28 hP hD hS => ?_)
          obtain ⟨kd2_23, bg2_24, nx2_25, ft2_26, q_27⟩ := u_
          replace hq28 : (-1 ≤ ft2_26.toInt) ∧ (0 ≤ nx2_25.toInt ∧ nx2_25.toInt ≤ 400) ∧ (0 ≤ bg2_24.toInt ∧ bg2_24.toInt ≤ 400) ∧ (zKd kd2_23.toInt bg2_24.toInt nx2_25.toInt) ∧ (zTk fb ln.toInt kd2_23.toInt bg2_24.toInt nx2_25.toInt) ∧ (zNu fb ln.toInt bg2_17.toInt (0 : Int32).toInt (999 : Int32).toInt q_27 ∧ zMv fb ln.toInt bg2_17.toInt bg2_24.toInt ∧ (-1) = ft2_26 ∨ q_27 = -1 ∧ (¬ ∃ v9, zNu fb ln.toInt bg2_17.toInt (0 : Int32).toInt (999 : Int32).toInt v9) ∧ bg2_17 = ft2_26 ∧ kd2_16 = kd2_23 ∧ bg2_17 = bg2_24 ∧ nx2_18 = nx2_25) := hq28
          have hP : va_P g.1 vwCl (List.flatten [bTT g tt ta o, bTown g o a pe wo tx ch jo tr dy sd f, bTape g ta ab sz ln kd2_23 bg2_24 nx2_25 ft2_26 fb]) H := hP
          have hD : va_D A (List.flatten [bTT g tt ta o, bTown g o a pe wo tx ch jo tr dy sd f, bTape g ta ab sz ln kd2_23 bg2_24 nx2_25 ft2_26 fb]) := hD
          refine W.widen (k := 0) (n := 0) (Nat.le_of_ble_eq_true rfl) (Nat.le_of_ble_eq_true rfl) ?_
          refine W.eq (g2 := F0 m 68 ls [.int q_27]) rfl ?_
          obtain ⟨hq28_0, hq28_1, hq28_2, hq28_3, hq28_4, hq28_5⟩ := hq28
          rcases hq28_5 with ⟨hq28_k, hq28_km, rfl⟩ | ⟨rfl, hq28_k, rfl, rfl, rfl, rfl⟩
          · skip
            have w29 : 0 ≤ q_27.toInt ∧ q_27.toInt ≤ 999 := ⟨(by have h9 := hq28_k.2.2.1; omega), (by have h9 := hq28_k.2.2.2; omega)⟩
            refine lv_istore_n (lv' := [(2, .int q_27), (1, .int q_11), (0, .ref tt)]) hx hb dX10_readPerson_68 rfl hl (by decide) rfl (fun ls hl => ?_)
            refine lv_iload_n hx hb dX10_readPerson_69 rfl (lv_at hl 0 rfl) ?_
            refine lv_iconst (v := (-1)) hx hb dX10_readPerson_70 (by decide) ?_
            refine lv_icmp_ne (tgt := 76) hx hb dX10_readPerson_71 (by decide) (fun cb9 => ?_) (fun cb9 => ?_)
            · skip
              have c30 : ¬ q_27.toInt = (-1) := zne cb9 rfl (by decide)
              refine lv_aload_n hx hb dX10_readPerson_76 rfl (lv_at hl 2 rfl) ?_
              refine va_get (D := g.1) (ci := 8) (v := .ref o) (C := RX10) (T := TX10) (N := 2) hx hb hts izRX10 hown hK hP 0 rfl rfl 1 (by decide) (hts _ k439) (fun _ h9 => h9) rfl dX10_readPerson_77 ?_
              refine lv_iload_n hx hb dX10_readPerson_80 rfl (lv_at hl 1 rfl) ?_
              refine lv_iload_n hx hb dX10_readPerson_81 rfl (lv_at hl 0 rfl) ?_
              refine lv_aload_n hx hb dX10_readPerson_82 rfl (lv_at hl 2 rfl) ?_
              refine va_get (D := g.1) (ci := 8) (v := .ref ta) (C := RX10) (T := TX10) (N := 2) hx hb hts izRX10 hown hK hP 0 rfl rfl 0 (by decide) (hts _ k441) (fun x9 h9 => u_same (hts _ k442) x9 h9) rfl dX10_readPerson_83 ?_
              refine va_ldcS (q := g.2 56) hx hb hown (zra23 hT.2.1) dX10_readPerson_86 ?_
              refine mcallV' (g := g) (q0 := 0) (ci := 6) (As := [.ref (g.2 56)]) (rest := [.int q_27, .int q_11, .ref o]) St hK hT hA hP hD hS hl.1 [2] [0, 1] rfl rfl rfl (c_t_takeWordF l g ta ab sz ln kd2_23 bg2_24 nx2_25 (-1) fb (g.2 56) 23 zqa23 hln hq28_1 hq28_2 hq28_3 hq28_4 rfl zla23 zna23 (zlitB zla23)) (cwV 1 hts (zgL (zl4 k449 k311 k312 k277) k284) rfl rfl rfl (by decide +kernel) ⟨Nat.le_of_ble_eq_true rfl, Nat.le_of_ble_eq_true rfl⟩) rfl rfl rfl rfl (Nat.le_of_ble_eq_true rfl) dX10_readPerson_88 ⟨(Nat.le_of_ble_eq_true rfl), (Nat.le_of_ble_eq_true rfl)⟩ (fun u_ H locs hq35 hP hD hS => ?_)
              obtain ⟨kd2_31, bg2_32, nx2_33, r_34⟩ := u_
              replace hq35 : (0 ≤ nx2_33.toInt ∧ nx2_33.toInt ≤ 400) ∧ (0 ≤ bg2_32.toInt ∧ bg2_32.toInt ≤ 400) ∧ (zKd kd2_31.toInt bg2_32.toInt nx2_33.toInt) ∧ (zTk fb ln.toInt kd2_31.toInt bg2_32.toInt nx2_33.toInt) ∧ (r_34 = 1 ∧ zisW fb ln.toInt bg2_24.toInt zqa23.2.2.2 ∧ zMv fb ln.toInt bg2_24.toInt bg2_32.toInt ∨ r_34 = 0 ∧ ¬ zisW fb ln.toInt bg2_24.toInt zqa23.2.2.2 ∧ kd2_23 = kd2_31 ∧ bg2_24 = bg2_32 ∧ nx2_25 = nx2_33) := hq35
              have hP : va_P g.1 vwCl (List.flatten [bTT g tt ta o, bTown g o a pe wo tx ch jo tr dy sd f, bTape g ta ab sz ln kd2_31 bg2_32 nx2_33 (-1) fb]) H := hP
              have hD : va_D A (List.flatten [bTT g tt ta o, bTown g o a pe wo tx ch jo tr dy sd f, bTape g ta ab sz ln kd2_31 bg2_32 nx2_33 (-1) fb]) := hD
              refine W.widen (k := 0) (n := 0) (Nat.le_of_ble_eq_true rfl) (Nat.le_of_ble_eq_true rfl) ?_
              refine W.eq (g2 := F0 m 91 ls [.int r_34, .int q_27, .int q_11, .ref o]) rfl ?_
              obtain ⟨hq35_0, hq35_1, hq35_2, hq35_3, hq35_4⟩ := hq35
              rcases hq35_4 with ⟨rfl, hq35_k, hq35_km⟩ | ⟨rfl, hq35_k, rfl, rfl, rfl⟩
              · skip
                refine mcallV' (g := g) (q0 := 0) (ci := 7) (As := [.int q_11, .int q_27, .int 1]) (rest := []) St hK hT hA hP hD hS hl.1 [1] [0, 2] rfl rfl rfl (c_addPersonF l g o a pe wo tx ch jo tr dy sd f q_11 q_27 1 b_pe b_wo rf (by first | assumption | omega | decide | exact Or.inl (by decide) | exact Or.inr (by decide)) (by first | assumption | omega | decide | exact Or.inl (by decide) | exact Or.inr (by decide))) (cwV 3 hts (zgL (zl4 k450 k451 k452 k24) k435) rfl rfl rfl (by decide +kernel) ⟨Nat.le_of_ble_eq_true rfl, Nat.le_of_ble_eq_true rfl⟩) rfl rfl rfl rfl (Nat.le_of_ble_eq_true rfl) dX10_readPerson_91 ⟨(Nat.le_of_ble_eq_true rfl), (Nat.le_of_ble_eq_true rfl)⟩ (fun u_ H locs hq38 hP hD hS => ?_)
                obtain ⟨pe2_36, f2_37⟩ := u_
                replace hq38 : (0 ≤ pe2_36.toInt ∧ pe2_36.toInt ≤ 8) ∧ (zZ4 f2_37) ∧ (pe2_36.toInt = pe.toInt + 1) := hq38
                have hP : va_P g.1 vwCl (List.flatten [bTT g tt ta o, bTape g ta ab sz ln kd2_31 bg2_32 nx2_33 (-1) fb, bTown g o a pe2_36 wo tx ch jo tr dy sd f2_37]) H := hP
                have hD : va_D A (List.flatten [bTT g tt ta o, bTape g ta ab sz ln kd2_31 bg2_32 nx2_33 (-1) fb, bTown g o a pe2_36 wo tx ch jo tr dy sd f2_37]) := hD
                refine W.widen (k := 0) (n := 0) (Nat.le_of_ble_eq_true rfl) (Nat.le_of_ble_eq_true rfl) ?_
                refine W.eq (g2 := F0 m 94 ls []) rfl ?_
                obtain ⟨hq38_0, rf2_37, hq38_2⟩ := hq38
                refine lv_iconst (v := 1) hx hb dX10_readPerson_94 (by decide) ?_
                have hP : va_P g.1 vwCl (List.flatten [bTT g tt ta o, bTape g ta ab sz ln kd2_31 bg2_32 nx2_33 (-1) fb, bTown g o a pe2_36 wo tx ch jo tr dy sd f2_37]) H := hP
                have hD : va_D A (List.flatten [bTT g tt ta o, bTape g ta ab sz ln kd2_31 bg2_32 nx2_33 (-1) fb, bTown g o a pe2_36 wo tx ch jo tr dy sd f2_37]) := hD
                exact mret_z hx hb hr hlocks hS (Nat.le_of_ble_eq_true rfl) (Nat.le_of_ble_eq_true rfl) dX10_readPerson_95 (kd2_31, bg2_32, nx2_33, -1, pe2_36, f2_37, (1 : Int32)) rfl (by decide) (show (0 ≤ pe2_36.toInt ∧ pe2_36.toInt ≤ 8) ∧ (zZ4 f2_37) ∧ (-1 ≤ ((-1) : Int32).toInt) ∧ (0 ≤ nx2_33.toInt ∧ nx2_33.toInt ≤ 400) ∧ (0 ≤ bg2_32.toInt ∧ bg2_32.toInt ≤ 400) ∧ (zKd kd2_31.toInt bg2_32.toInt nx2_33.toInt) ∧ (zTk fb ln.toInt kd2_31.toInt bg2_32.toInt nx2_33.toInt) ∧ (1 = 1 ∧ zTO (zTPerson fb ln.toInt pe.toInt bg.toInt) bg2_32.toInt pe.toInt pe2_36.toInt wo.toInt wo.toInt ∧ (-1) = (-1) ∨ 1 = 0 ∧ zTPerson fb ln.toInt pe.toInt bg.toInt (.bad ((-1) : Int32).toInt)) from ⟨(by first | assumption | omega | exact Or.inl (by decide) | exact Or.inr (by omega) | decide), (by first | assumption | omega | exact Or.inl (by decide) | exact Or.inr (by omega) | decide), (by first | assumption | omega | exact Or.inl (by decide) | exact Or.inr (by omega) | decide), (by first | assumption | omega | exact Or.inl (by decide) | exact Or.inr (by omega) | decide), (by first | assumption | omega | exact Or.inl (by decide) | exact Or.inr (by omega) | decide), (by first | assumption | omega | exact Or.inl (by decide) | exact Or.inr (by omega) | decide), (by first | assumption | omega | exact Or.inl (by decide) | exact Or.inr (by omega) | decide), (Or.inl ⟨rfl, ⟨_, zTP_i (by omega) (zMv_mk hTk hq6_3) (zNN_y (by decide) (by decide) hq12_k hq12_km (zW1_y hq21_k hq21_km (zNN_y (by decide) (by decide) hq28_k hq28_km (zKp3_y hq35_k hq35_km)))), zcp_y (by omega), zcw_n (by decide) rfl⟩, rfl⟩)⟩) hP hD
              · skip
                refine mcallV' (g := g) (q0 := 0) (ci := 7) (As := [.int q_11, .int q_27, .int 0]) (rest := []) St hK hT hA hP hD hS hl.1 [1] [0, 2] rfl rfl rfl (c_addPersonF l g o a pe wo tx ch jo tr dy sd f q_11 q_27 0 b_pe b_wo rf (by first | assumption | omega | decide | exact Or.inl (by decide) | exact Or.inr (by decide)) (by first | assumption | omega | decide | exact Or.inl (by decide) | exact Or.inr (by decide))) (cwV 3 hts (zgL (zl4 k450 k451 k452 k24) k435) rfl rfl rfl (by decide +kernel) ⟨Nat.le_of_ble_eq_true rfl, Nat.le_of_ble_eq_true rfl⟩) rfl rfl rfl rfl (Nat.le_of_ble_eq_true rfl) dX10_readPerson_91 ⟨(Nat.le_of_ble_eq_true rfl), (Nat.le_of_ble_eq_true rfl)⟩ (fun u_ H locs hq41 hP hD hS => ?_)
                obtain ⟨pe2_39, f2_40⟩ := u_
                replace hq41 : (0 ≤ pe2_39.toInt ∧ pe2_39.toInt ≤ 8) ∧ (zZ4 f2_40) ∧ (pe2_39.toInt = pe.toInt + 1) := hq41
                have hP : va_P g.1 vwCl (List.flatten [bTT g tt ta o, bTape g ta ab sz ln kd2_23 bg2_24 nx2_25 (-1) fb, bTown g o a pe2_39 wo tx ch jo tr dy sd f2_40]) H := hP
                have hD : va_D A (List.flatten [bTT g tt ta o, bTape g ta ab sz ln kd2_23 bg2_24 nx2_25 (-1) fb, bTown g o a pe2_39 wo tx ch jo tr dy sd f2_40]) := hD
                refine W.widen (k := 0) (n := 0) (Nat.le_of_ble_eq_true rfl) (Nat.le_of_ble_eq_true rfl) ?_
                refine W.eq (g2 := F0 m 94 ls []) rfl ?_
                obtain ⟨hq41_0, rf2_40, hq41_2⟩ := hq41
                refine lv_iconst (v := 1) hx hb dX10_readPerson_94 (by decide) ?_
                have hP : va_P g.1 vwCl (List.flatten [bTT g tt ta o, bTape g ta ab sz ln kd2_23 bg2_24 nx2_25 (-1) fb, bTown g o a pe2_39 wo tx ch jo tr dy sd f2_40]) H := hP
                have hD : va_D A (List.flatten [bTT g tt ta o, bTape g ta ab sz ln kd2_23 bg2_24 nx2_25 (-1) fb, bTown g o a pe2_39 wo tx ch jo tr dy sd f2_40]) := hD
                exact mret_z hx hb hr hlocks hS (Nat.le_of_ble_eq_true rfl) (Nat.le_of_ble_eq_true rfl) dX10_readPerson_95 (kd2_23, bg2_24, nx2_25, -1, pe2_39, f2_40, (1 : Int32)) rfl (by decide) (show (0 ≤ pe2_39.toInt ∧ pe2_39.toInt ≤ 8) ∧ (zZ4 f2_40) ∧ (-1 ≤ ((-1) : Int32).toInt) ∧ (0 ≤ nx2_25.toInt ∧ nx2_25.toInt ≤ 400) ∧ (0 ≤ bg2_24.toInt ∧ bg2_24.toInt ≤ 400) ∧ (zKd kd2_23.toInt bg2_24.toInt nx2_25.toInt) ∧ (zTk fb ln.toInt kd2_23.toInt bg2_24.toInt nx2_25.toInt) ∧ (1 = 1 ∧ zTO (zTPerson fb ln.toInt pe.toInt bg.toInt) bg2_24.toInt pe.toInt pe2_39.toInt wo.toInt wo.toInt ∧ (-1) = (-1) ∨ 1 = 0 ∧ zTPerson fb ln.toInt pe.toInt bg.toInt (.bad ((-1) : Int32).toInt)) from ⟨(by first | assumption | omega | exact Or.inl (by decide) | exact Or.inr (by omega) | decide), (by first | assumption | omega | exact Or.inl (by decide) | exact Or.inr (by omega) | decide), (by first | assumption | omega | exact Or.inl (by decide) | exact Or.inr (by omega) | decide), (by first | assumption | omega | exact Or.inl (by decide) | exact Or.inr (by omega) | decide), (by first | assumption | omega | exact Or.inl (by decide) | exact Or.inr (by omega) | decide), (by first | assumption | omega | exact Or.inl (by decide) | exact Or.inr (by omega) | decide), (by first | assumption | omega | exact Or.inl (by decide) | exact Or.inr (by omega) | decide), (Or.inl ⟨rfl, ⟨_, zTP_i (by omega) (zMv_mk hTk hq6_3) (zNN_y (by decide) (by decide) hq12_k hq12_km (zW1_y hq21_k hq21_km (zNN_y (by decide) (by decide) hq28_k hq28_km (zKp3_n hq35_k)))), zcp_y (by omega), zcw_n (by decide) rfl⟩, rfl⟩)⟩) hP hD
            · skip
              exact absurd (show q_27.toInt = (-1) from zeq cb9 rfl (by decide)) (zDeq2 (a := 0) (b := (-1)) w29.1 (Int.le_refl _) (by decide))
          · skip
            refine lv_istore_n (lv' := [(2, .int (-1)), (1, .int q_11), (0, .ref tt)]) hx hb dX10_readPerson_68 rfl hl (by decide) rfl (fun ls hl => ?_)
            refine lv_iload_n hx hb dX10_readPerson_69 rfl (lv_at hl 0 rfl) ?_
            refine lv_iconst (v := (-1)) hx hb dX10_readPerson_70 (by decide) ?_
            refine lv_icmp_ne (tgt := 76) hx hb dX10_readPerson_71 (by decide) (fun c43 => absurd (by decide) c43) (fun _ => ?_)
            refine lv_iconst (v := 0) hx hb dX10_readPerson_74 (by decide) ?_
            have hP : va_P g.1 vwCl (List.flatten [bTT g tt ta o, bTown g o a pe wo tx ch jo tr dy sd f, bTape g ta ab sz ln kd2_16 bg2_17 nx2_18 bg2_17 fb]) H := hP
            have hD : va_D A (List.flatten [bTT g tt ta o, bTown g o a pe wo tx ch jo tr dy sd f, bTape g ta ab sz ln kd2_16 bg2_17 nx2_18 bg2_17 fb]) := hD
            obtain ⟨hP, hD⟩ := zord (g := g) (Bs' := [bTT g tt ta o, bTape g ta ab sz ln kd2_16 bg2_17 nx2_18 bg2_17 fb, bTown g o a pe wo tx ch jo tr dy sd f]) [0, 2, 1] rfl rfl hP hD
            exact mret_z hx hb hr hlocks hS (Nat.le_of_ble_eq_true rfl) (Nat.le_of_ble_eq_true rfl) dX10_readPerson_75 (kd2_16, bg2_17, nx2_18, bg2_17, pe, f, (0 : Int32)) rfl (by decide) (show (0 ≤ pe.toInt ∧ pe.toInt ≤ 8) ∧ (zZ4 f) ∧ (-1 ≤ bg2_17.toInt) ∧ (0 ≤ nx2_18.toInt ∧ nx2_18.toInt ≤ 400) ∧ (0 ≤ bg2_17.toInt ∧ bg2_17.toInt ≤ 400) ∧ (zKd kd2_16.toInt bg2_17.toInt nx2_18.toInt) ∧ (zTk fb ln.toInt kd2_16.toInt bg2_17.toInt nx2_18.toInt) ∧ (0 = 1 ∧ zTO (zTPerson fb ln.toInt pe.toInt bg.toInt) bg2_17.toInt pe.toInt pe.toInt wo.toInt wo.toInt ∧ (-1) = bg2_17 ∨ 0 = 0 ∧ zTPerson fb ln.toInt pe.toInt bg.toInt (.bad bg2_17.toInt)) from ⟨(by first | assumption | omega | exact Or.inl (by decide) | exact Or.inr (by omega) | decide), (by first | assumption | omega | exact Or.inl (by decide) | exact Or.inr (by omega) | decide), (by first | assumption | omega | exact Or.inl (by decide) | exact Or.inr (by omega) | decide), (by first | assumption | omega | exact Or.inl (by decide) | exact Or.inr (by omega) | decide), (by first | assumption | omega | exact Or.inl (by decide) | exact Or.inr (by omega) | decide), (by first | assumption | omega | exact Or.inl (by decide) | exact Or.inr (by omega) | decide), (by first | assumption | omega | exact Or.inl (by decide) | exact Or.inr (by omega) | decide), (Or.inr ⟨rfl, zTP_i (by omega) (zMv_mk hTk hq6_3) (zNN_y (by decide) (by decide) hq12_k hq12_km (zW1_y hq21_k hq21_km (zNN_n (by decide) (by decide) rfl hq28_k)))⟩)⟩) hP hD
        · skip
          refine lv_if_ne (tgt := 57) hx hb dX10_readPerson_52 (by decide) (fun c44 => absurd (by decide) c44) (fun _ => ?_)
          refine lv_iconst (v := 0) hx hb dX10_readPerson_55 (by decide) ?_
          have hP : va_P g.1 vwCl (List.flatten [bTT g tt ta o, bTown g o a pe wo tx ch jo tr dy sd f, bTape g ta ab sz ln kd2_7 bg2_8 nx2_9 bg2_8 fb]) H := hP
          have hD : va_D A (List.flatten [bTT g tt ta o, bTown g o a pe wo tx ch jo tr dy sd f, bTape g ta ab sz ln kd2_7 bg2_8 nx2_9 bg2_8 fb]) := hD
          obtain ⟨hP, hD⟩ := zord (g := g) (Bs' := [bTT g tt ta o, bTape g ta ab sz ln kd2_7 bg2_8 nx2_9 bg2_8 fb, bTown g o a pe wo tx ch jo tr dy sd f]) [0, 2, 1] rfl rfl hP hD
          exact mret_z hx hb hr hlocks hS (Nat.le_of_ble_eq_true rfl) (Nat.le_of_ble_eq_true rfl) dX10_readPerson_56 (kd2_7, bg2_8, nx2_9, bg2_8, pe, f, (0 : Int32)) rfl (by decide) (show (0 ≤ pe.toInt ∧ pe.toInt ≤ 8) ∧ (zZ4 f) ∧ (-1 ≤ bg2_8.toInt) ∧ (0 ≤ nx2_9.toInt ∧ nx2_9.toInt ≤ 400) ∧ (0 ≤ bg2_8.toInt ∧ bg2_8.toInt ≤ 400) ∧ (zKd kd2_7.toInt bg2_8.toInt nx2_9.toInt) ∧ (zTk fb ln.toInt kd2_7.toInt bg2_8.toInt nx2_9.toInt) ∧ (0 = 1 ∧ zTO (zTPerson fb ln.toInt pe.toInt bg.toInt) bg2_8.toInt pe.toInt pe.toInt wo.toInt wo.toInt ∧ (-1) = bg2_8 ∨ 0 = 0 ∧ zTPerson fb ln.toInt pe.toInt bg.toInt (.bad bg2_8.toInt)) from ⟨(by first | assumption | omega | exact Or.inl (by decide) | exact Or.inr (by omega) | decide), (by first | assumption | omega | exact Or.inl (by decide) | exact Or.inr (by omega) | decide), (by first | assumption | omega | exact Or.inl (by decide) | exact Or.inr (by omega) | decide), (by first | assumption | omega | exact Or.inl (by decide) | exact Or.inr (by omega) | decide), (by first | assumption | omega | exact Or.inl (by decide) | exact Or.inr (by omega) | decide), (by first | assumption | omega | exact Or.inl (by decide) | exact Or.inr (by omega) | decide), (by first | assumption | omega | exact Or.inl (by decide) | exact Or.inr (by omega) | decide), (Or.inr ⟨rfl, zTP_i (by omega) (zMv_mk hTk hq6_3) (zNN_y (by decide) (by decide) hq12_k hq12_km (zW1_n rfl hq21_k))⟩)⟩) hP hD
    · skip
      refine lv_istore_n (lv' := [(1, .int (-1)), (0, .ref tt)]) hx hb dX10_readPerson_37 rfl hl (by decide) rfl (fun ls hl => ?_)
      refine lv_iload_n hx hb dX10_readPerson_38 rfl (lv_at hl 0 rfl) ?_
      refine lv_iconst (v := (-1)) hx hb dX10_readPerson_39 (by decide) ?_
      refine lv_icmp_eq (tgt := 55) hx hb dX10_readPerson_40 (by decide) (fun _ => ?_) (fun c45 => absurd (by decide) c45)
      refine lv_iconst (v := 0) hx hb dX10_readPerson_55 (by decide) ?_
      have hP : va_P g.1 vwCl (List.flatten [bTT g tt ta o, bTown g o a pe wo tx ch jo tr dy sd f, bTape g ta ab sz ln kd2_3 bg2_4 nx2_5 bg2_4 fb]) H := hP
      have hD : va_D A (List.flatten [bTT g tt ta o, bTown g o a pe wo tx ch jo tr dy sd f, bTape g ta ab sz ln kd2_3 bg2_4 nx2_5 bg2_4 fb]) := hD
      obtain ⟨hP, hD⟩ := zord (g := g) (Bs' := [bTT g tt ta o, bTape g ta ab sz ln kd2_3 bg2_4 nx2_5 bg2_4 fb, bTown g o a pe wo tx ch jo tr dy sd f]) [0, 2, 1] rfl rfl hP hD
      exact mret_z hx hb hr hlocks hS (Nat.le_of_ble_eq_true rfl) (Nat.le_of_ble_eq_true rfl) dX10_readPerson_56 (kd2_3, bg2_4, nx2_5, bg2_4, pe, f, (0 : Int32)) rfl (by decide) (show (0 ≤ pe.toInt ∧ pe.toInt ≤ 8) ∧ (zZ4 f) ∧ (-1 ≤ bg2_4.toInt) ∧ (0 ≤ nx2_5.toInt ∧ nx2_5.toInt ≤ 400) ∧ (0 ≤ bg2_4.toInt ∧ bg2_4.toInt ≤ 400) ∧ (zKd kd2_3.toInt bg2_4.toInt nx2_5.toInt) ∧ (zTk fb ln.toInt kd2_3.toInt bg2_4.toInt nx2_5.toInt) ∧ (0 = 1 ∧ zTO (zTPerson fb ln.toInt pe.toInt bg.toInt) bg2_4.toInt pe.toInt pe.toInt wo.toInt wo.toInt ∧ (-1) = bg2_4 ∨ 0 = 0 ∧ zTPerson fb ln.toInt pe.toInt bg.toInt (.bad bg2_4.toInt)) from ⟨(by first | assumption | omega | exact Or.inl (by decide) | exact Or.inr (by omega) | decide), (by first | assumption | omega | exact Or.inl (by decide) | exact Or.inr (by omega) | decide), (by first | assumption | omega | exact Or.inl (by decide) | exact Or.inr (by omega) | decide), (by first | assumption | omega | exact Or.inl (by decide) | exact Or.inr (by omega) | decide), (by first | assumption | omega | exact Or.inl (by decide) | exact Or.inr (by omega) | decide), (by first | assumption | omega | exact Or.inl (by decide) | exact Or.inr (by omega) | decide), (by first | assumption | omega | exact Or.inl (by decide) | exact Or.inr (by omega) | decide), (Or.inr ⟨rfl, zTP_i (by omega) (zMv_mk hTk hq6_3) (zNN_n (by decide) (by decide) rfl hq12_k)⟩)⟩) hP hD
  · skip
    have c46 : 8 ≤ pe.toInt := zle (Int32.not_lt.mp cb9) (by decide) rfl
    have n47 : 8 ≤ pe.toInt := Int.le_trans (Int.le_refl _) c46
    refine lv_aload_n hx hb dX10_readPerson_12 rfl (lv_at hl 0 rfl) ?_
    refine va_get (D := g.1) (ci := 8) (v := .ref ta) (C := RX10) (T := TX10) (N := 2) hx hb hts izRX10 hown hK hP 0 rfl rfl 0 (by decide) (hts _ k441) (fun x9 h9 => u_same (hts _ k442) x9 h9) rfl dX10_readPerson_13 ?_
    refine mcallV' (g := g) (q0 := 0) (ci := 6) (As := []) (rest := []) St hK hT hA hP hD hS hl.1 [1] [0, 2] rfl rfl rfl (c_t_refuseF l g ta ab sz ln kd bg nx fb ) (cwV 0 hts (zgL (zl4 k443 k279 k280 k277) k269) rfl rfl rfl (by decide +kernel) ⟨Nat.le_of_ble_eq_true rfl, Nat.le_of_ble_eq_true rfl⟩) rfl rfl rfl rfl (Nat.le_of_ble_eq_true rfl) dX10_readPerson_16 ⟨(Nat.le_of_ble_eq_true rfl), (Nat.le_of_ble_eq_true rfl)⟩ (fun _u H locs hq48 hP hD hS => ?_)
    have hP : va_P g.1 vwCl (List.flatten [bTT g tt ta o, bTown g o a pe wo tx ch jo tr dy sd f, bTape g ta ab sz ln kd bg nx bg fb]) H := hP
    have hD : va_D A (List.flatten [bTT g tt ta o, bTown g o a pe wo tx ch jo tr dy sd f, bTape g ta ab sz ln kd bg nx bg fb]) := hD
    refine W.widen (k := 0) (n := 0) (Nat.le_of_ble_eq_true rfl) (Nat.le_of_ble_eq_true rfl) ?_
    refine W.eq (g2 := F0 m 19 ls [.int 0]) rfl ?_
    have hP : va_P g.1 vwCl (List.flatten [bTT g tt ta o, bTown g o a pe wo tx ch jo tr dy sd f, bTape g ta ab sz ln kd bg nx bg fb]) H := hP
    have hD : va_D A (List.flatten [bTT g tt ta o, bTown g o a pe wo tx ch jo tr dy sd f, bTape g ta ab sz ln kd bg nx bg fb]) := hD
    obtain ⟨hP, hD⟩ := zord (g := g) (Bs' := [bTT g tt ta o, bTape g ta ab sz ln kd bg nx bg fb, bTown g o a pe wo tx ch jo tr dy sd f]) [0, 2, 1] rfl rfl hP hD
    exact mret_z hx hb hr hlocks hS (Nat.le_of_ble_eq_true rfl) (Nat.le_of_ble_eq_true rfl) dX10_readPerson_19 (kd, bg, nx, bg, pe, f, (0 : Int32)) rfl (by decide) (show (0 ≤ pe.toInt ∧ pe.toInt ≤ 8) ∧ (zZ4 f) ∧ (-1 ≤ bg.toInt) ∧ (0 ≤ nx.toInt ∧ nx.toInt ≤ 400) ∧ (0 ≤ bg.toInt ∧ bg.toInt ≤ 400) ∧ (zKd kd.toInt bg.toInt nx.toInt) ∧ (zTk fb ln.toInt kd.toInt bg.toInt nx.toInt) ∧ (0 = 1 ∧ zTO (zTPerson fb ln.toInt pe.toInt bg.toInt) bg.toInt pe.toInt pe.toInt wo.toInt wo.toInt ∧ (-1) = bg ∨ 0 = 0 ∧ zTPerson fb ln.toInt pe.toInt bg.toInt (.bad bg.toInt)) from ⟨(by first | assumption | omega | exact Or.inl (by decide) | exact Or.inr (by omega) | decide), (by first | assumption | omega | exact Or.inl (by decide) | exact Or.inr (by omega) | decide), (by first | assumption | omega | exact Or.inl (by decide) | exact Or.inr (by omega) | decide), (by first | assumption | omega | exact Or.inl (by decide) | exact Or.inr (by omega) | decide), (by first | assumption | omega | exact Or.inl (by decide) | exact Or.inr (by omega) | decide), (by first | assumption | omega | exact Or.inl (by decide) | exact Or.inr (by omega) | decide), (by first | assumption | omega | exact Or.inl (by decide) | exact Or.inr (by omega) | decide), (Or.inr ⟨rfl, zTP_f (by omega) rfl⟩)⟩) hP hD
set_option maxRecDepth 100000 in
set_option maxHeartbeats 4000000 in
theorem c_tt_readWorkF (l : Launch) (g : zG) (tt : Nat) (ta : Nat) (o : Nat) (ab : Nat) (sz : Int32) (ln : Int32) (kd : Int32) (bg : Int32) (nx : Int32) (fb : Nat → Int32) (a : Nat → Nat) (pe : Int32) (wo : Int32) (tx : Int32) (ch : Int32) (jo : Int32) (tr : Int32) (dy : Int32) (sd : Int32) (f : Nat → Nat → Int32) (b_pe : 0 ≤ pe.toInt ∧ pe.toInt ≤ 8) (b_wo : 0 ≤ wo.toInt ∧ wo.toInt ≤ 6) (rf : zZ4 f) (hln : 0 ≤ ln.toInt ∧ ln.toInt ≤ 400) (hnx : 0 ≤ nx.toInt ∧ nx.toInt ≤ 400) (hbg : 0 ≤ bg.toInt ∧ bg.toInt ≤ 400) (hkd : zKd kd.toInt bg.toInt nx.toInt) (hTk : zTk fb ln.toInt kd.toInt bg.toInt nx.toInt) : zM' g l yX10_readWork (Cond.code yX10_readWork cX10_readWork 4 (some .boolean) :: zB) ({ frames := 7, cells := 0, slots := 0, locals := 149 } : Room) [.ref tt] [bTT g tt ta o, bTape g ta ab sz ln kd bg nx (-1) fb, bTown g o a pe wo tx ch jo tr dy sd f] (fun u : Int32 × Int32 × Int32 × Int32 × Int32 × (Nat → Nat → Int32) × Int32 => (fun (kd2 : Int32) (bg2 : Int32) (nx2 : Int32) (ft2 : Int32) (wo2 : Int32) (f2 : Nat → Nat → Int32) (q : Int32) => some (.int q)) (u.1) (u.2.1) (u.2.2.1) (u.2.2.2.1) (u.2.2.2.2.1) (u.2.2.2.2.2.1) (u.2.2.2.2.2.2)) (fun u : Int32 × Int32 × Int32 × Int32 × Int32 × (Nat → Nat → Int32) × Int32 => (fun (kd2 : Int32) (bg2 : Int32) (nx2 : Int32) (ft2 : Int32) (wo2 : Int32) (f2 : Nat → Nat → Int32) (q : Int32) => (0 ≤ wo2.toInt ∧ wo2.toInt ≤ 6) ∧ (zZ4 f2) ∧ (-1 ≤ ft2.toInt) ∧ (0 ≤ nx2.toInt ∧ nx2.toInt ≤ 400) ∧ (0 ≤ bg2.toInt ∧ bg2.toInt ≤ 400) ∧ (zKd kd2.toInt bg2.toInt nx2.toInt) ∧ (zTk fb ln.toInt kd2.toInt bg2.toInt nx2.toInt) ∧ (q = 1 ∧ zTO (zTWork fb ln.toInt wo.toInt bg.toInt) bg2.toInt pe.toInt pe.toInt wo.toInt wo2.toInt ∧ (-1) = ft2 ∨ q = 0 ∧ zTWork fb ln.toInt wo.toInt bg.toInt (.bad ft2.toInt))) (u.1) (u.2.1) (u.2.2.1) (u.2.2.2.1) (u.2.2.2.2.1) (u.2.2.2.2.2.1) (u.2.2.2.2.2.2)) (fun u : Int32 × Int32 × Int32 × Int32 × Int32 × (Nat → Nat → Int32) × Int32 => (fun (kd2 : Int32) (bg2 : Int32) (nx2 : Int32) (ft2 : Int32) (wo2 : Int32) (f2 : Nat → Nat → Int32) (q : Int32) => [bTT g tt ta o, bTape g ta ab sz ln kd2 bg2 nx2 ft2 fb, bTown g o a pe wo2 tx ch jo tr dy sd f2]) (u.1) (u.2.1) (u.2.2.1) (u.2.2.2.1) (u.2.2.2.2.1) (u.2.2.2.2.2.1) (u.2.2.2.2.2.2)) := by
  refine zM'.of (cc := cX10_readWork) (maxL := 4) (rt := (some .boolean)) (by decide) rfl (Nat.le_of_ble_eq_true rfl) ?_
  intro p e s m args below meth c A ls St hr hlocks hin hK hT hA hP hD hS hl
  obtain ⟨hx, hb, hml, hown, hts⟩ := id St
  have hl : lv_has ls 4 [(0, .ref tt)] := hl
  refine lv_aload_n hx hb dX10_readWork_0 rfl (lv_at hl 0 rfl) ?_
  refine va_get (D := g.1) (ci := 8) (v := .ref o) (C := RX10) (T := TX10) (N := 2) hx hb hts izRX10 hown hK hP 0 rfl rfl 1 (by decide) (hts _ k439) (fun _ h9 => h9) rfl dX10_readWork_1 ?_
  refine va_get (D := g.1) (ci := 7) (v := .int wo) (C := RX9) (T := TX9) (N := 19) hx hb hts izRX9 hown hK hP 3 rfl rfl 1 (by decide) (hts _ k455) (fun _ h9 => h9) rfl dX10_readWork_4 ?_
  refine lv_bipush (v := 6) hx hb dX10_readWork_7 (by decide) ?_
  refine lv_icmp_lt (tgt := 20) hx hb dX10_readWork_9 (by decide) (fun cb9 => ?_) (fun cb9 => ?_)
  · skip
    have c1 : wo.toInt < 6 := zlti cb9 rfl (by decide)
    have n2 : wo.toInt ≤ 5 := zL1 (b := 6) c1 (Int.le_refl _) (by decide)
    refine lv_aload_n hx hb dX10_readWork_20 rfl (lv_at hl 0 rfl) ?_
    refine va_get (D := g.1) (ci := 8) (v := .ref ta) (C := RX10) (T := TX10) (N := 2) hx hb hts izRX10 hown hK hP 0 rfl rfl 0 (by decide) (hts _ k441) (fun x9 h9 => u_same (hts _ k442) x9 h9) rfl dX10_readWork_21 ?_
    refine mcallV' (g := g) (q0 := 0) (ci := 6) (As := []) (rest := []) St hK hT hA hP hD hS hl.1 [1] [0, 2] rfl rfl rfl (c_t_stepF l g ta ab sz ln kd bg nx (-1) fb hln hnx) (cwV 0 hts (zgL (zl4 k444 k275 k276 k277) k271) rfl rfl rfl (by decide +kernel) ⟨Nat.le_of_ble_eq_true rfl, Nat.le_of_ble_eq_true rfl⟩) rfl rfl rfl rfl (Nat.le_of_ble_eq_true rfl) dX10_readWork_24 ⟨(Nat.le_of_ble_eq_true rfl), (Nat.le_of_ble_eq_true rfl)⟩ (fun u_ H locs hq6 hP hD hS => ?_)
    obtain ⟨kd2_3, bg2_4, nx2_5⟩ := u_
    replace hq6 : (0 ≤ nx2_5.toInt ∧ nx2_5.toInt ≤ 400) ∧ (0 ≤ bg2_4.toInt ∧ bg2_4.toInt ≤ 400) ∧ (zKd kd2_3.toInt bg2_4.toInt nx2_5.toInt) ∧ (zSk fb ln.toInt nx.toInt bg2_4.toInt) ∧ (zTk fb ln.toInt kd2_3.toInt bg2_4.toInt nx2_5.toInt) := hq6
    have hP : va_P g.1 vwCl (List.flatten [bTT g tt ta o, bTown g o a pe wo tx ch jo tr dy sd f, bTape g ta ab sz ln kd2_3 bg2_4 nx2_5 (-1) fb]) H := hP
    have hD : va_D A (List.flatten [bTT g tt ta o, bTown g o a pe wo tx ch jo tr dy sd f, bTape g ta ab sz ln kd2_3 bg2_4 nx2_5 (-1) fb]) := hD
    refine W.widen (k := 0) (n := 0) (Nat.le_of_ble_eq_true rfl) (Nat.le_of_ble_eq_true rfl) ?_
    refine W.eq (g2 := F0 m 27 ls []) rfl ?_
    obtain ⟨hq6_0, hq6_1, hq6_2, hq6_3, hq6_4⟩ := hq6
    refine lv_aload_n hx hb dX10_readWork_27 rfl (lv_at hl 0 rfl) ?_
    refine va_get (D := g.1) (ci := 8) (v := .ref ta) (C := RX10) (T := TX10) (N := 2) hx hb hts izRX10 hown hK hP 0 rfl rfl 0 (by decide) (hts _ k441) (fun x9 h9 => u_same (hts _ k442) x9 h9) rfl dX10_readWork_28 ?_
    refine lv_iconst (v := 1) hx hb dX10_readWork_31 (by decide) ?_
    refine lv_bipush (v := 99) hx hb dX10_readWork_32 (by decide) ?_
    have hL1 : (1 : Int32).toInt = 1 := by decide
    have hL99 : (99 : Int32).toInt = 99 := by decide
    refine mcallV' (g := g) (q0 := 0) (ci := 6) (As := [.int 1, .int 99]) (rest := []) St hK hT hA hP hD hS hl.1 [2] [0, 1] rfl rfl rfl (c_t_numberF l g ta ab sz ln kd2_3 bg2_4 nx2_5 fb 1 99 hln hq6_0 hq6_1 hq6_2 hq6_4) (cwV 2 hts (zgL (zl4 k445 k294 k295 k277) k273) rfl rfl rfl (by decide +kernel) ⟨Nat.le_of_ble_eq_true rfl, Nat.le_of_ble_eq_true rfl⟩) rfl rfl rfl rfl (Nat.le_of_ble_eq_true rfl) dX10_readWork_34 ⟨(Nat.le_of_ble_eq_true rfl), (Nat.le_of_ble_eq_true rfl)⟩ (fun u_ H locs hq12 hP hD hS => ?_)
    obtain ⟨kd2_7, bg2_8, nx2_9, ft2_10, q_11⟩ := u_
    replace hq12 : (-1 ≤ ft2_10.toInt) ∧ (0 ≤ nx2_9.toInt ∧ nx2_9.toInt ≤ 400) ∧ (0 ≤ bg2_8.toInt ∧ bg2_8.toInt ≤ 400) ∧ (zKd kd2_7.toInt bg2_8.toInt nx2_9.toInt) ∧ (zTk fb ln.toInt kd2_7.toInt bg2_8.toInt nx2_9.toInt) ∧ (zNu fb ln.toInt bg2_4.toInt (1 : Int32).toInt (99 : Int32).toInt q_11 ∧ zMv fb ln.toInt bg2_4.toInt bg2_8.toInt ∧ (-1) = ft2_10 ∨ q_11 = -1 ∧ (¬ ∃ v9, zNu fb ln.toInt bg2_4.toInt (1 : Int32).toInt (99 : Int32).toInt v9) ∧ bg2_4 = ft2_10 ∧ kd2_3 = kd2_7 ∧ bg2_4 = bg2_8 ∧ nx2_5 = nx2_9) := hq12
    have hP : va_P g.1 vwCl (List.flatten [bTT g tt ta o, bTown g o a pe wo tx ch jo tr dy sd f, bTape g ta ab sz ln kd2_7 bg2_8 nx2_9 ft2_10 fb]) H := hP
    have hD : va_D A (List.flatten [bTT g tt ta o, bTown g o a pe wo tx ch jo tr dy sd f, bTape g ta ab sz ln kd2_7 bg2_8 nx2_9 ft2_10 fb]) := hD
    refine W.widen (k := 0) (n := 0) (Nat.le_of_ble_eq_true rfl) (Nat.le_of_ble_eq_true rfl) ?_
    refine W.eq (g2 := F0 m 37 ls [.int q_11]) rfl ?_
    obtain ⟨hq12_0, hq12_1, hq12_2, hq12_3, hq12_4, hq12_5⟩ := hq12
    rcases hq12_5 with ⟨hq12_k, hq12_km, rfl⟩ | ⟨rfl, hq12_k, rfl, rfl, rfl, rfl⟩
    · skip
      have w13 : 1 ≤ q_11.toInt ∧ q_11.toInt ≤ 99 := ⟨(by have h9 := hq12_k.2.2.1; omega), (by have h9 := hq12_k.2.2.2; omega)⟩
      refine lv_istore_n (lv' := [(1, .int q_11), (0, .ref tt)]) hx hb dX10_readWork_37 rfl hl (by decide) rfl (fun ls hl => ?_)
      refine lv_iload_n hx hb dX10_readWork_38 rfl (lv_at hl 0 rfl) ?_
      refine lv_iconst (v := (-1)) hx hb dX10_readWork_39 (by decide) ?_
      refine lv_icmp_eq (tgt := 55) hx hb dX10_readWork_40 (by decide) (fun cb9 => ?_) (fun cb9 => ?_)
      · skip
        exact absurd (show q_11.toInt = (-1) from zeq cb9 rfl (by decide)) (zDeq2 (a := 1) (b := (-1)) w13.1 (Int.le_refl _) (by decide))
      · skip
        have c15 : ¬ q_11.toInt = (-1) := zne cb9 rfl (by decide)
        refine lv_aload_n hx hb dX10_readWork_43 rfl (lv_at hl 1 rfl) ?_
        refine va_get (D := g.1) (ci := 8) (v := .ref ta) (C := RX10) (T := TX10) (N := 2) hx hb hts izRX10 hown hK hP 0 rfl rfl 0 (by decide) (hts _ k441) (fun x9 h9 => u_same (hts _ k442) x9 h9) rfl dX10_readWork_44 ?_
        refine va_ldcS (q := g.2 58) hx hb hown (zra24 hT.2.1) dX10_readWork_47 ?_
        refine mcallV' (g := g) (q0 := 0) (ci := 6) (As := [.ref (g.2 58)]) (rest := []) St hK hT hA hP hD hS hl.1 [2] [0, 1] rfl rfl rfl (c_t_needWordF l g ta ab sz ln kd2_7 bg2_8 nx2_9 fb (g.2 58) 24 zqa24 hln hq12_1 hq12_2 hq12_3 hq12_4 rfl zla24 zna24 (zlitB zla24)) (cwV 1 hts (zgL (zl4 k446 k447 k448 k277) k431) rfl rfl rfl (by decide +kernel) ⟨Nat.le_of_ble_eq_true rfl, Nat.le_of_ble_eq_true rfl⟩) rfl rfl rfl rfl (Nat.le_of_ble_eq_true rfl) dX10_readWork_49 ⟨(Nat.le_of_ble_eq_true rfl), (Nat.le_of_ble_eq_true rfl)⟩ (fun u_ H locs hq21 hP hD hS => ?_)
        obtain ⟨kd2_16, bg2_17, nx2_18, ft2_19, r_20⟩ := u_
        replace hq21 : (-1 ≤ ft2_19.toInt) ∧ (0 ≤ nx2_18.toInt ∧ nx2_18.toInt ≤ 400) ∧ (0 ≤ bg2_17.toInt ∧ bg2_17.toInt ≤ 400) ∧ (zKd kd2_16.toInt bg2_17.toInt nx2_18.toInt) ∧ (zTk fb ln.toInt kd2_16.toInt bg2_17.toInt nx2_18.toInt) ∧ (r_20 = 1 ∧ zisW fb ln.toInt bg2_8.toInt zqa24.2.2.2 ∧ zMv fb ln.toInt bg2_8.toInt bg2_17.toInt ∧ (-1) = ft2_19 ∨ r_20 = 0 ∧ ¬ zisW fb ln.toInt bg2_8.toInt zqa24.2.2.2 ∧ bg2_8 = ft2_19 ∧ kd2_7 = kd2_16 ∧ bg2_8 = bg2_17 ∧ nx2_9 = nx2_18) := hq21
        have hP : va_P g.1 vwCl (List.flatten [bTT g tt ta o, bTown g o a pe wo tx ch jo tr dy sd f, bTape g ta ab sz ln kd2_16 bg2_17 nx2_18 ft2_19 fb]) H := hP
        have hD : va_D A (List.flatten [bTT g tt ta o, bTown g o a pe wo tx ch jo tr dy sd f, bTape g ta ab sz ln kd2_16 bg2_17 nx2_18 ft2_19 fb]) := hD
        refine W.widen (k := 0) (n := 0) (Nat.le_of_ble_eq_true rfl) (Nat.le_of_ble_eq_true rfl) ?_
        refine W.eq (g2 := F0 m 52 ls [.int r_20]) rfl ?_
        obtain ⟨hq21_0, hq21_1, hq21_2, hq21_3, hq21_4, hq21_5⟩ := hq21
        rcases hq21_5 with ⟨rfl, hq21_k, hq21_km, rfl⟩ | ⟨rfl, hq21_k, rfl, rfl, rfl, rfl⟩
        · skip
          refine lv_if_ne (tgt := 57) hx hb dX10_readWork_52 (by decide) (fun _ => ?_) (fun c22 => absurd c22 (by decide))
          refine lv_aload_n hx hb dX10_readWork_57 rfl (lv_at hl 1 rfl) ?_
          refine va_get (D := g.1) (ci := 8) (v := .ref ta) (C := RX10) (T := TX10) (N := 2) hx hb hts izRX10 hown hK hP 0 rfl rfl 0 (by decide) (hts _ k441) (fun x9 h9 => u_same (hts _ k442) x9 h9) rfl dX10_readWork_58 ?_
          refine lv_iconst (v := 0) hx hb dX10_readWork_61 (by decide) ?_
          refine lv_sipush (v := 799) hx hb dX10_readWork_62 (by decide) ?_
          have hL0 : (0 : Int32).toInt = 0 := by decide
          have hL799 : (799 : Int32).toInt = 799 := by decide
          refine mcallV' (g := g) (q0 := 0) (ci := 6) (As := [.int 0, .int 799]) (rest := []) St hK hT hA hP hD hS hl.1 [2] [0, 1] rfl rfl rfl (c_t_numberF l g ta ab sz ln kd2_16 bg2_17 nx2_18 fb 0 799 hln hq21_1 hq21_2 hq21_3 hq21_4) (cwV 2 hts (zgL (zl4 k445 k294 k295 k277) k273) rfl rfl rfl (by decide +kernel) ⟨Nat.le_of_ble_eq_true rfl, Nat.le_of_ble_eq_true rfl⟩) rfl rfl rfl rfl (Nat.le_of_ble_eq_true rfl) dX10_readWork_65 ⟨(Nat.le_of_ble_eq_true rfl), (Nat.le_of_ble_eq_true rfl)⟩ (fun u_ H locs hq28 hP hD hS => ?_)
          obtain ⟨kd2_23, bg2_24, nx2_25, ft2_26, q_27⟩ := u_
          replace hq28 : (-1 ≤ ft2_26.toInt) ∧ (0 ≤ nx2_25.toInt ∧ nx2_25.toInt ≤ 400) ∧ (0 ≤ bg2_24.toInt ∧ bg2_24.toInt ≤ 400) ∧ (zKd kd2_23.toInt bg2_24.toInt nx2_25.toInt) ∧ (zTk fb ln.toInt kd2_23.toInt bg2_24.toInt nx2_25.toInt) ∧ (zNu fb ln.toInt bg2_17.toInt (0 : Int32).toInt (799 : Int32).toInt q_27 ∧ zMv fb ln.toInt bg2_17.toInt bg2_24.toInt ∧ (-1) = ft2_26 ∨ q_27 = -1 ∧ (¬ ∃ v9, zNu fb ln.toInt bg2_17.toInt (0 : Int32).toInt (799 : Int32).toInt v9) ∧ bg2_17 = ft2_26 ∧ kd2_16 = kd2_23 ∧ bg2_17 = bg2_24 ∧ nx2_18 = nx2_25) := hq28
          have hP : va_P g.1 vwCl (List.flatten [bTT g tt ta o, bTown g o a pe wo tx ch jo tr dy sd f, bTape g ta ab sz ln kd2_23 bg2_24 nx2_25 ft2_26 fb]) H := hP
          have hD : va_D A (List.flatten [bTT g tt ta o, bTown g o a pe wo tx ch jo tr dy sd f, bTape g ta ab sz ln kd2_23 bg2_24 nx2_25 ft2_26 fb]) := hD
          refine W.widen (k := 0) (n := 0) (Nat.le_of_ble_eq_true rfl) (Nat.le_of_ble_eq_true rfl) ?_
          refine W.eq (g2 := F0 m 68 ls [.int q_27]) rfl ?_
          obtain ⟨hq28_0, hq28_1, hq28_2, hq28_3, hq28_4, hq28_5⟩ := hq28
          rcases hq28_5 with ⟨hq28_k, hq28_km, rfl⟩ | ⟨rfl, hq28_k, rfl, rfl, rfl, rfl⟩
          · skip
            have w29 : 0 ≤ q_27.toInt ∧ q_27.toInt ≤ 799 := ⟨(by have h9 := hq28_k.2.2.1; omega), (by have h9 := hq28_k.2.2.2; omega)⟩
            refine lv_istore_n (lv' := [(2, .int q_27), (1, .int q_11), (0, .ref tt)]) hx hb dX10_readWork_68 rfl hl (by decide) rfl (fun ls hl => ?_)
            refine lv_iload_n hx hb dX10_readWork_69 rfl (lv_at hl 0 rfl) ?_
            refine lv_iconst (v := (-1)) hx hb dX10_readWork_70 (by decide) ?_
            refine lv_icmp_eq (tgt := 86) hx hb dX10_readWork_71 (by decide) (fun cb9 => ?_) (fun cb9 => ?_)
            · skip
              exact absurd (show q_27.toInt = (-1) from zeq cb9 rfl (by decide)) (zDeq2 (a := 0) (b := (-1)) w29.1 (Int.le_refl _) (by decide))
            · skip
              have c31 : ¬ q_27.toInt = (-1) := zne cb9 rfl (by decide)
              refine lv_aload_n hx hb dX10_readWork_74 rfl (lv_at hl 2 rfl) ?_
              refine va_get (D := g.1) (ci := 8) (v := .ref ta) (C := RX10) (T := TX10) (N := 2) hx hb hts izRX10 hown hK hP 0 rfl rfl 0 (by decide) (hts _ k441) (fun x9 h9 => u_same (hts _ k442) x9 h9) rfl dX10_readWork_75 ?_
              refine va_ldcS (q := g.2 60) hx hb hown (zra25 hT.2.1) dX10_readWork_78 ?_
              refine mcallV' (g := g) (q0 := 0) (ci := 6) (As := [.ref (g.2 60)]) (rest := []) St hK hT hA hP hD hS hl.1 [2] [0, 1] rfl rfl rfl (c_t_needWordF l g ta ab sz ln kd2_23 bg2_24 nx2_25 fb (g.2 60) 25 zqa25 hln hq28_1 hq28_2 hq28_3 hq28_4 rfl zla25 zna25 (zlitB zla25)) (cwV 1 hts (zgL (zl4 k446 k447 k448 k277) k431) rfl rfl rfl (by decide +kernel) ⟨Nat.le_of_ble_eq_true rfl, Nat.le_of_ble_eq_true rfl⟩) rfl rfl rfl rfl (Nat.le_of_ble_eq_true rfl) dX10_readWork_80 ⟨(Nat.le_of_ble_eq_true rfl), (Nat.le_of_ble_eq_true rfl)⟩ (fun u_ H locs hq37 hP hD hS => ?_)
              obtain ⟨kd2_32, bg2_33, nx2_34, ft2_35, r_36⟩ := u_
              replace hq37 : (-1 ≤ ft2_35.toInt) ∧ (0 ≤ nx2_34.toInt ∧ nx2_34.toInt ≤ 400) ∧ (0 ≤ bg2_33.toInt ∧ bg2_33.toInt ≤ 400) ∧ (zKd kd2_32.toInt bg2_33.toInt nx2_34.toInt) ∧ (zTk fb ln.toInt kd2_32.toInt bg2_33.toInt nx2_34.toInt) ∧ (r_36 = 1 ∧ zisW fb ln.toInt bg2_24.toInt zqa25.2.2.2 ∧ zMv fb ln.toInt bg2_24.toInt bg2_33.toInt ∧ (-1) = ft2_35 ∨ r_36 = 0 ∧ ¬ zisW fb ln.toInt bg2_24.toInt zqa25.2.2.2 ∧ bg2_24 = ft2_35 ∧ kd2_23 = kd2_32 ∧ bg2_24 = bg2_33 ∧ nx2_25 = nx2_34) := hq37
              have hP : va_P g.1 vwCl (List.flatten [bTT g tt ta o, bTown g o a pe wo tx ch jo tr dy sd f, bTape g ta ab sz ln kd2_32 bg2_33 nx2_34 ft2_35 fb]) H := hP
              have hD : va_D A (List.flatten [bTT g tt ta o, bTown g o a pe wo tx ch jo tr dy sd f, bTape g ta ab sz ln kd2_32 bg2_33 nx2_34 ft2_35 fb]) := hD
              refine W.widen (k := 0) (n := 0) (Nat.le_of_ble_eq_true rfl) (Nat.le_of_ble_eq_true rfl) ?_
              refine W.eq (g2 := F0 m 83 ls [.int r_36]) rfl ?_
              obtain ⟨hq37_0, hq37_1, hq37_2, hq37_3, hq37_4, hq37_5⟩ := hq37
              rcases hq37_5 with ⟨rfl, hq37_k, hq37_km, rfl⟩ | ⟨rfl, hq37_k, rfl, rfl, rfl, rfl⟩
              · skip
                refine lv_if_ne (tgt := 88) hx hb dX10_readWork_83 (by decide) (fun _ => ?_) (fun c38 => absurd c38 (by decide))
                refine lv_aload_n hx hb dX10_readWork_88 rfl (lv_at hl 2 rfl) ?_
                refine va_get (D := g.1) (ci := 8) (v := .ref ta) (C := RX10) (T := TX10) (N := 2) hx hb hts izRX10 hown hK hP 0 rfl rfl 0 (by decide) (hts _ k441) (fun x9 h9 => u_same (hts _ k442) x9 h9) rfl dX10_readWork_89 ?_
                refine lv_iconst (v := 0) hx hb dX10_readWork_92 (by decide) ?_
                refine lv_bipush (v := 20) hx hb dX10_readWork_93 (by decide) ?_
                have hL20 : (20 : Int32).toInt = 20 := by decide
                refine mcallV' (g := g) (q0 := 0) (ci := 6) (As := [.int 0, .int 20]) (rest := []) St hK hT hA hP hD hS hl.1 [2] [0, 1] rfl rfl rfl (c_t_numberF l g ta ab sz ln kd2_32 bg2_33 nx2_34 fb 0 20 hln hq37_1 hq37_2 hq37_3 hq37_4) (cwV 2 hts (zgL (zl4 k445 k294 k295 k277) k273) rfl rfl rfl (by decide +kernel) ⟨Nat.le_of_ble_eq_true rfl, Nat.le_of_ble_eq_true rfl⟩) rfl rfl rfl rfl (Nat.le_of_ble_eq_true rfl) dX10_readWork_95 ⟨(Nat.le_of_ble_eq_true rfl), (Nat.le_of_ble_eq_true rfl)⟩ (fun u_ H locs hq44 hP hD hS => ?_)
                obtain ⟨kd2_39, bg2_40, nx2_41, ft2_42, q_43⟩ := u_
                replace hq44 : (-1 ≤ ft2_42.toInt) ∧ (0 ≤ nx2_41.toInt ∧ nx2_41.toInt ≤ 400) ∧ (0 ≤ bg2_40.toInt ∧ bg2_40.toInt ≤ 400) ∧ (zKd kd2_39.toInt bg2_40.toInt nx2_41.toInt) ∧ (zTk fb ln.toInt kd2_39.toInt bg2_40.toInt nx2_41.toInt) ∧ (zNu fb ln.toInt bg2_33.toInt (0 : Int32).toInt (20 : Int32).toInt q_43 ∧ zMv fb ln.toInt bg2_33.toInt bg2_40.toInt ∧ (-1) = ft2_42 ∨ q_43 = -1 ∧ (¬ ∃ v9, zNu fb ln.toInt bg2_33.toInt (0 : Int32).toInt (20 : Int32).toInt v9) ∧ bg2_33 = ft2_42 ∧ kd2_32 = kd2_39 ∧ bg2_33 = bg2_40 ∧ nx2_34 = nx2_41) := hq44
                have hP : va_P g.1 vwCl (List.flatten [bTT g tt ta o, bTown g o a pe wo tx ch jo tr dy sd f, bTape g ta ab sz ln kd2_39 bg2_40 nx2_41 ft2_42 fb]) H := hP
                have hD : va_D A (List.flatten [bTT g tt ta o, bTown g o a pe wo tx ch jo tr dy sd f, bTape g ta ab sz ln kd2_39 bg2_40 nx2_41 ft2_42 fb]) := hD
                refine W.widen (k := 0) (n := 0) (Nat.le_of_ble_eq_true rfl) (Nat.le_of_ble_eq_true rfl) ?_
                refine W.eq (g2 := F0 m 98 ls [.int q_43]) rfl ?_
                obtain ⟨hq44_0, hq44_1, hq44_2, hq44_3, hq44_4, hq44_5⟩ := hq44
                rcases hq44_5 with ⟨hq44_k, hq44_km, rfl⟩ | ⟨rfl, hq44_k, rfl, rfl, rfl, rfl⟩
                · skip
                  have w45 : 0 ≤ q_43.toInt ∧ q_43.toInt ≤ 20 := ⟨(by have h9 := hq44_k.2.2.1; omega), (by have h9 := hq44_k.2.2.2; omega)⟩
                  refine lv_istore_n (lv' := [(3, .int q_43), (2, .int q_27), (1, .int q_11), (0, .ref tt)]) hx hb dX10_readWork_98 rfl hl (by decide) rfl (fun ls hl => ?_)
                  refine lv_iload_n hx hb dX10_readWork_99 rfl (lv_at hl 0 rfl) ?_
                  refine lv_iconst (v := (-1)) hx hb dX10_readWork_100 (by decide) ?_
                  refine lv_icmp_ne (tgt := 106) hx hb dX10_readWork_101 (by decide) (fun cb9 => ?_) (fun cb9 => ?_)
                  · skip
                    have c46 : ¬ q_43.toInt = (-1) := zne cb9 rfl (by decide)
                    refine lv_aload_n hx hb dX10_readWork_106 rfl (lv_at hl 3 rfl) ?_
                    refine va_get (D := g.1) (ci := 8) (v := .ref o) (C := RX10) (T := TX10) (N := 2) hx hb hts izRX10 hown hK hP 0 rfl rfl 1 (by decide) (hts _ k439) (fun _ h9 => h9) rfl dX10_readWork_107 ?_
                    refine lv_iload_n hx hb dX10_readWork_110 rfl (lv_at hl 2 rfl) ?_
                    refine lv_iload_n hx hb dX10_readWork_111 rfl (lv_at hl 1 rfl) ?_
                    refine lv_iload_n hx hb dX10_readWork_112 rfl (lv_at hl 0 rfl) ?_
                    refine mcallV' (g := g) (q0 := 0) (ci := 7) (As := [.int q_11, .int q_27, .int q_43]) (rest := []) St hK hT hA hP hD hS hl.1 [1] [0, 2] rfl rfl rfl (c_addWorkF l g o a pe wo tx ch jo tr dy sd f q_11 q_27 q_43 b_pe b_wo rf (by first | assumption | omega | decide | exact Or.inl (by decide) | exact Or.inr (by decide))) (cwV 3 hts (zgL (zl4 k456 k457 k458 k24) k454) rfl rfl rfl (by decide +kernel) ⟨Nat.le_of_ble_eq_true rfl, Nat.le_of_ble_eq_true rfl⟩) rfl rfl rfl rfl (Nat.le_of_ble_eq_true rfl) dX10_readWork_113 ⟨(Nat.le_of_ble_eq_true rfl), (Nat.le_of_ble_eq_true rfl)⟩ (fun u_ H locs hq49 hP hD hS => ?_)
                    obtain ⟨wo2_47, f2_48⟩ := u_
                    replace hq49 : (0 ≤ wo2_47.toInt ∧ wo2_47.toInt ≤ 6) ∧ (zZ4 f2_48) ∧ (wo2_47.toInt = wo.toInt + 1) := hq49
                    have hP : va_P g.1 vwCl (List.flatten [bTT g tt ta o, bTape g ta ab sz ln kd2_39 bg2_40 nx2_41 (-1) fb, bTown g o a pe wo2_47 tx ch jo tr dy sd f2_48]) H := hP
                    have hD : va_D A (List.flatten [bTT g tt ta o, bTape g ta ab sz ln kd2_39 bg2_40 nx2_41 (-1) fb, bTown g o a pe wo2_47 tx ch jo tr dy sd f2_48]) := hD
                    refine W.widen (k := 0) (n := 0) (Nat.le_of_ble_eq_true rfl) (Nat.le_of_ble_eq_true rfl) ?_
                    refine W.eq (g2 := F0 m 116 ls []) rfl ?_
                    obtain ⟨hq49_0, rf2_48, hq49_2⟩ := hq49
                    refine lv_iconst (v := 1) hx hb dX10_readWork_116 (by decide) ?_
                    have hP : va_P g.1 vwCl (List.flatten [bTT g tt ta o, bTape g ta ab sz ln kd2_39 bg2_40 nx2_41 (-1) fb, bTown g o a pe wo2_47 tx ch jo tr dy sd f2_48]) H := hP
                    have hD : va_D A (List.flatten [bTT g tt ta o, bTape g ta ab sz ln kd2_39 bg2_40 nx2_41 (-1) fb, bTown g o a pe wo2_47 tx ch jo tr dy sd f2_48]) := hD
                    exact mret_z hx hb hr hlocks hS (Nat.le_of_ble_eq_true rfl) (Nat.le_of_ble_eq_true rfl) dX10_readWork_117 (kd2_39, bg2_40, nx2_41, -1, wo2_47, f2_48, (1 : Int32)) rfl (by decide) (show (0 ≤ wo2_47.toInt ∧ wo2_47.toInt ≤ 6) ∧ (zZ4 f2_48) ∧ (-1 ≤ ((-1) : Int32).toInt) ∧ (0 ≤ nx2_41.toInt ∧ nx2_41.toInt ≤ 400) ∧ (0 ≤ bg2_40.toInt ∧ bg2_40.toInt ≤ 400) ∧ (zKd kd2_39.toInt bg2_40.toInt nx2_41.toInt) ∧ (zTk fb ln.toInt kd2_39.toInt bg2_40.toInt nx2_41.toInt) ∧ (1 = 1 ∧ zTO (zTWork fb ln.toInt wo.toInt bg.toInt) bg2_40.toInt pe.toInt pe.toInt wo.toInt wo2_47.toInt ∧ (-1) = (-1) ∨ 1 = 0 ∧ zTWork fb ln.toInt wo.toInt bg.toInt (.bad ((-1) : Int32).toInt)) from ⟨(by first | assumption | omega | exact Or.inl (by decide) | exact Or.inr (by omega) | decide), (by first | assumption | omega | exact Or.inl (by decide) | exact Or.inr (by omega) | decide), (by first | assumption | omega | exact Or.inl (by decide) | exact Or.inr (by omega) | decide), (by first | assumption | omega | exact Or.inl (by decide) | exact Or.inr (by omega) | decide), (by first | assumption | omega | exact Or.inl (by decide) | exact Or.inr (by omega) | decide), (by first | assumption | omega | exact Or.inl (by decide) | exact Or.inr (by omega) | decide), (by first | assumption | omega | exact Or.inl (by decide) | exact Or.inr (by omega) | decide), (Or.inl ⟨rfl, ⟨(1, q_11.toInt, q_27.toInt, q_43.toInt), zTW_i (by omega) (zMv_mk hTk hq6_3) (zNN_y (by decide) (by decide) hq12_k hq12_km (zW1_y hq21_k hq21_km (zNN_y (by decide) (by decide) hq28_k hq28_km (zW1_y hq37_k hq37_km (zNN_y (by decide) (by decide) hq44_k hq44_km rfl))))), zcp_n (by decide) rfl, zcw_y (by omega)⟩, rfl⟩)⟩) hP hD
                  · skip
                    exact absurd (show q_43.toInt = (-1) from zeq cb9 rfl (by decide)) (zDeq2 (a := 0) (b := (-1)) w45.1 (Int.le_refl _) (by decide))
                · skip
                  refine lv_istore_n (lv' := [(3, .int (-1)), (2, .int q_27), (1, .int q_11), (0, .ref tt)]) hx hb dX10_readWork_98 rfl hl (by decide) rfl (fun ls hl => ?_)
                  refine lv_iload_n hx hb dX10_readWork_99 rfl (lv_at hl 0 rfl) ?_
                  refine lv_iconst (v := (-1)) hx hb dX10_readWork_100 (by decide) ?_
                  refine lv_icmp_ne (tgt := 106) hx hb dX10_readWork_101 (by decide) (fun c51 => absurd (by decide) c51) (fun _ => ?_)
                  refine lv_iconst (v := 0) hx hb dX10_readWork_104 (by decide) ?_
                  have hP : va_P g.1 vwCl (List.flatten [bTT g tt ta o, bTown g o a pe wo tx ch jo tr dy sd f, bTape g ta ab sz ln kd2_32 bg2_33 nx2_34 bg2_33 fb]) H := hP
                  have hD : va_D A (List.flatten [bTT g tt ta o, bTown g o a pe wo tx ch jo tr dy sd f, bTape g ta ab sz ln kd2_32 bg2_33 nx2_34 bg2_33 fb]) := hD
                  obtain ⟨hP, hD⟩ := zord (g := g) (Bs' := [bTT g tt ta o, bTape g ta ab sz ln kd2_32 bg2_33 nx2_34 bg2_33 fb, bTown g o a pe wo tx ch jo tr dy sd f]) [0, 2, 1] rfl rfl hP hD
                  exact mret_z hx hb hr hlocks hS (Nat.le_of_ble_eq_true rfl) (Nat.le_of_ble_eq_true rfl) dX10_readWork_105 (kd2_32, bg2_33, nx2_34, bg2_33, wo, f, (0 : Int32)) rfl (by decide) (show (0 ≤ wo.toInt ∧ wo.toInt ≤ 6) ∧ (zZ4 f) ∧ (-1 ≤ bg2_33.toInt) ∧ (0 ≤ nx2_34.toInt ∧ nx2_34.toInt ≤ 400) ∧ (0 ≤ bg2_33.toInt ∧ bg2_33.toInt ≤ 400) ∧ (zKd kd2_32.toInt bg2_33.toInt nx2_34.toInt) ∧ (zTk fb ln.toInt kd2_32.toInt bg2_33.toInt nx2_34.toInt) ∧ (0 = 1 ∧ zTO (zTWork fb ln.toInt wo.toInt bg.toInt) bg2_33.toInt pe.toInt pe.toInt wo.toInt wo.toInt ∧ (-1) = bg2_33 ∨ 0 = 0 ∧ zTWork fb ln.toInt wo.toInt bg.toInt (.bad bg2_33.toInt)) from ⟨(by first | assumption | omega | exact Or.inl (by decide) | exact Or.inr (by omega) | decide), (by first | assumption | omega | exact Or.inl (by decide) | exact Or.inr (by omega) | decide), (by first | assumption | omega | exact Or.inl (by decide) | exact Or.inr (by omega) | decide), (by first | assumption | omega | exact Or.inl (by decide) | exact Or.inr (by omega) | decide), (by first | assumption | omega | exact Or.inl (by decide) | exact Or.inr (by omega) | decide), (by first | assumption | omega | exact Or.inl (by decide) | exact Or.inr (by omega) | decide), (by first | assumption | omega | exact Or.inl (by decide) | exact Or.inr (by omega) | decide), (Or.inr ⟨rfl, zTW_i (by omega) (zMv_mk hTk hq6_3) (zNN_y (by decide) (by decide) hq12_k hq12_km (zW1_y hq21_k hq21_km (zNN_y (by decide) (by decide) hq28_k hq28_km (zW1_y hq37_k hq37_km (zNN_n (by decide) (by decide) rfl hq44_k)))))⟩)⟩) hP hD
              · skip
                refine lv_if_ne (tgt := 88) hx hb dX10_readWork_83 (by decide) (fun c52 => absurd (by decide) c52) (fun _ => ?_)
                refine lv_iconst (v := 0) hx hb dX10_readWork_86 (by decide) ?_
                have hP : va_P g.1 vwCl (List.flatten [bTT g tt ta o, bTown g o a pe wo tx ch jo tr dy sd f, bTape g ta ab sz ln kd2_23 bg2_24 nx2_25 bg2_24 fb]) H := hP
                have hD : va_D A (List.flatten [bTT g tt ta o, bTown g o a pe wo tx ch jo tr dy sd f, bTape g ta ab sz ln kd2_23 bg2_24 nx2_25 bg2_24 fb]) := hD
                obtain ⟨hP, hD⟩ := zord (g := g) (Bs' := [bTT g tt ta o, bTape g ta ab sz ln kd2_23 bg2_24 nx2_25 bg2_24 fb, bTown g o a pe wo tx ch jo tr dy sd f]) [0, 2, 1] rfl rfl hP hD
                exact mret_z hx hb hr hlocks hS (Nat.le_of_ble_eq_true rfl) (Nat.le_of_ble_eq_true rfl) dX10_readWork_87 (kd2_23, bg2_24, nx2_25, bg2_24, wo, f, (0 : Int32)) rfl (by decide) (show (0 ≤ wo.toInt ∧ wo.toInt ≤ 6) ∧ (zZ4 f) ∧ (-1 ≤ bg2_24.toInt) ∧ (0 ≤ nx2_25.toInt ∧ nx2_25.toInt ≤ 400) ∧ (0 ≤ bg2_24.toInt ∧ bg2_24.toInt ≤ 400) ∧ (zKd kd2_23.toInt bg2_24.toInt nx2_25.toInt) ∧ (zTk fb ln.toInt kd2_23.toInt bg2_24.toInt nx2_25.toInt) ∧ (0 = 1 ∧ zTO (zTWork fb ln.toInt wo.toInt bg.toInt) bg2_24.toInt pe.toInt pe.toInt wo.toInt wo.toInt ∧ (-1) = bg2_24 ∨ 0 = 0 ∧ zTWork fb ln.toInt wo.toInt bg.toInt (.bad bg2_24.toInt)) from ⟨(by first | assumption | omega | exact Or.inl (by decide) | exact Or.inr (by omega) | decide), (by first | assumption | omega | exact Or.inl (by decide) | exact Or.inr (by omega) | decide), (by first | assumption | omega | exact Or.inl (by decide) | exact Or.inr (by omega) | decide), (by first | assumption | omega | exact Or.inl (by decide) | exact Or.inr (by omega) | decide), (by first | assumption | omega | exact Or.inl (by decide) | exact Or.inr (by omega) | decide), (by first | assumption | omega | exact Or.inl (by decide) | exact Or.inr (by omega) | decide), (by first | assumption | omega | exact Or.inl (by decide) | exact Or.inr (by omega) | decide), (Or.inr ⟨rfl, zTW_i (by omega) (zMv_mk hTk hq6_3) (zNN_y (by decide) (by decide) hq12_k hq12_km (zW1_y hq21_k hq21_km (zNN_y (by decide) (by decide) hq28_k hq28_km (zW1_n rfl hq37_k))))⟩)⟩) hP hD
          · skip
            refine lv_istore_n (lv' := [(2, .int (-1)), (1, .int q_11), (0, .ref tt)]) hx hb dX10_readWork_68 rfl hl (by decide) rfl (fun ls hl => ?_)
            refine lv_iload_n hx hb dX10_readWork_69 rfl (lv_at hl 0 rfl) ?_
            refine lv_iconst (v := (-1)) hx hb dX10_readWork_70 (by decide) ?_
            refine lv_icmp_eq (tgt := 86) hx hb dX10_readWork_71 (by decide) (fun _ => ?_) (fun c53 => absurd (by decide) c53)
            refine lv_iconst (v := 0) hx hb dX10_readWork_86 (by decide) ?_
            have hP : va_P g.1 vwCl (List.flatten [bTT g tt ta o, bTown g o a pe wo tx ch jo tr dy sd f, bTape g ta ab sz ln kd2_16 bg2_17 nx2_18 bg2_17 fb]) H := hP
            have hD : va_D A (List.flatten [bTT g tt ta o, bTown g o a pe wo tx ch jo tr dy sd f, bTape g ta ab sz ln kd2_16 bg2_17 nx2_18 bg2_17 fb]) := hD
            obtain ⟨hP, hD⟩ := zord (g := g) (Bs' := [bTT g tt ta o, bTape g ta ab sz ln kd2_16 bg2_17 nx2_18 bg2_17 fb, bTown g o a pe wo tx ch jo tr dy sd f]) [0, 2, 1] rfl rfl hP hD
            exact mret_z hx hb hr hlocks hS (Nat.le_of_ble_eq_true rfl) (Nat.le_of_ble_eq_true rfl) dX10_readWork_87 (kd2_16, bg2_17, nx2_18, bg2_17, wo, f, (0 : Int32)) rfl (by decide) (show (0 ≤ wo.toInt ∧ wo.toInt ≤ 6) ∧ (zZ4 f) ∧ (-1 ≤ bg2_17.toInt) ∧ (0 ≤ nx2_18.toInt ∧ nx2_18.toInt ≤ 400) ∧ (0 ≤ bg2_17.toInt ∧ bg2_17.toInt ≤ 400) ∧ (zKd kd2_16.toInt bg2_17.toInt nx2_18.toInt) ∧ (zTk fb ln.toInt kd2_16.toInt bg2_17.toInt nx2_18.toInt) ∧ (0 = 1 ∧ zTO (zTWork fb ln.toInt wo.toInt bg.toInt) bg2_17.toInt pe.toInt pe.toInt wo.toInt wo.toInt ∧ (-1) = bg2_17 ∨ 0 = 0 ∧ zTWork fb ln.toInt wo.toInt bg.toInt (.bad bg2_17.toInt)) from ⟨(by first | assumption | omega | exact Or.inl (by decide) | exact Or.inr (by omega) | decide), (by first | assumption | omega | exact Or.inl (by decide) | exact Or.inr (by omega) | decide), (by first | assumption | omega | exact Or.inl (by decide) | exact Or.inr (by omega) | decide), (by first | assumption | omega | exact Or.inl (by decide) | exact Or.inr (by omega) | decide), (by first | assumption | omega | exact Or.inl (by decide) | exact Or.inr (by omega) | decide), (by first | assumption | omega | exact Or.inl (by decide) | exact Or.inr (by omega) | decide), (by first | assumption | omega | exact Or.inl (by decide) | exact Or.inr (by omega) | decide), (Or.inr ⟨rfl, zTW_i (by omega) (zMv_mk hTk hq6_3) (zNN_y (by decide) (by decide) hq12_k hq12_km (zW1_y hq21_k hq21_km (zNN_n (by decide) (by decide) rfl hq28_k)))⟩)⟩) hP hD
        · skip
          refine lv_if_ne (tgt := 57) hx hb dX10_readWork_52 (by decide) (fun c54 => absurd (by decide) c54) (fun _ => ?_)
          refine lv_iconst (v := 0) hx hb dX10_readWork_55 (by decide) ?_
          have hP : va_P g.1 vwCl (List.flatten [bTT g tt ta o, bTown g o a pe wo tx ch jo tr dy sd f, bTape g ta ab sz ln kd2_7 bg2_8 nx2_9 bg2_8 fb]) H := hP
          have hD : va_D A (List.flatten [bTT g tt ta o, bTown g o a pe wo tx ch jo tr dy sd f, bTape g ta ab sz ln kd2_7 bg2_8 nx2_9 bg2_8 fb]) := hD
          obtain ⟨hP, hD⟩ := zord (g := g) (Bs' := [bTT g tt ta o, bTape g ta ab sz ln kd2_7 bg2_8 nx2_9 bg2_8 fb, bTown g o a pe wo tx ch jo tr dy sd f]) [0, 2, 1] rfl rfl hP hD
          exact mret_z hx hb hr hlocks hS (Nat.le_of_ble_eq_true rfl) (Nat.le_of_ble_eq_true rfl) dX10_readWork_56 (kd2_7, bg2_8, nx2_9, bg2_8, wo, f, (0 : Int32)) rfl (by decide) (show (0 ≤ wo.toInt ∧ wo.toInt ≤ 6) ∧ (zZ4 f) ∧ (-1 ≤ bg2_8.toInt) ∧ (0 ≤ nx2_9.toInt ∧ nx2_9.toInt ≤ 400) ∧ (0 ≤ bg2_8.toInt ∧ bg2_8.toInt ≤ 400) ∧ (zKd kd2_7.toInt bg2_8.toInt nx2_9.toInt) ∧ (zTk fb ln.toInt kd2_7.toInt bg2_8.toInt nx2_9.toInt) ∧ (0 = 1 ∧ zTO (zTWork fb ln.toInt wo.toInt bg.toInt) bg2_8.toInt pe.toInt pe.toInt wo.toInt wo.toInt ∧ (-1) = bg2_8 ∨ 0 = 0 ∧ zTWork fb ln.toInt wo.toInt bg.toInt (.bad bg2_8.toInt)) from ⟨(by first | assumption | omega | exact Or.inl (by decide) | exact Or.inr (by omega) | decide), (by first | assumption | omega | exact Or.inl (by decide) | exact Or.inr (by omega) | decide), (by first | assumption | omega | exact Or.inl (by decide) | exact Or.inr (by omega) | decide), (by first | assumption | omega | exact Or.inl (by decide) | exact Or.inr (by omega) | decide), (by first | assumption | omega | exact Or.inl (by decide) | exact Or.inr (by omega) | decide), (by first | assumption | omega | exact Or.inl (by decide) | exact Or.inr (by omega) | decide), (by first | assumption | omega | exact Or.inl (by decide) | exact Or.inr (by omega) | decide), (Or.inr ⟨rfl, zTW_i (by omega) (zMv_mk hTk hq6_3) (zNN_y (by decide) (by decide) hq12_k hq12_km (zW1_n rfl hq21_k))⟩)⟩) hP hD
    · skip
      refine lv_istore_n (lv' := [(1, .int (-1)), (0, .ref tt)]) hx hb dX10_readWork_37 rfl hl (by decide) rfl (fun ls hl => ?_)
      refine lv_iload_n hx hb dX10_readWork_38 rfl (lv_at hl 0 rfl) ?_
      refine lv_iconst (v := (-1)) hx hb dX10_readWork_39 (by decide) ?_
      refine lv_icmp_eq (tgt := 55) hx hb dX10_readWork_40 (by decide) (fun _ => ?_) (fun c55 => absurd (by decide) c55)
      refine lv_iconst (v := 0) hx hb dX10_readWork_55 (by decide) ?_
      have hP : va_P g.1 vwCl (List.flatten [bTT g tt ta o, bTown g o a pe wo tx ch jo tr dy sd f, bTape g ta ab sz ln kd2_3 bg2_4 nx2_5 bg2_4 fb]) H := hP
      have hD : va_D A (List.flatten [bTT g tt ta o, bTown g o a pe wo tx ch jo tr dy sd f, bTape g ta ab sz ln kd2_3 bg2_4 nx2_5 bg2_4 fb]) := hD
      obtain ⟨hP, hD⟩ := zord (g := g) (Bs' := [bTT g tt ta o, bTape g ta ab sz ln kd2_3 bg2_4 nx2_5 bg2_4 fb, bTown g o a pe wo tx ch jo tr dy sd f]) [0, 2, 1] rfl rfl hP hD
      exact mret_z hx hb hr hlocks hS (Nat.le_of_ble_eq_true rfl) (Nat.le_of_ble_eq_true rfl) dX10_readWork_56 (kd2_3, bg2_4, nx2_5, bg2_4, wo, f, (0 : Int32)) rfl (by decide) (show (0 ≤ wo.toInt ∧ wo.toInt ≤ 6) ∧ (zZ4 f) ∧ (-1 ≤ bg2_4.toInt) ∧ (0 ≤ nx2_5.toInt ∧ nx2_5.toInt ≤ 400) ∧ (0 ≤ bg2_4.toInt ∧ bg2_4.toInt ≤ 400) ∧ (zKd kd2_3.toInt bg2_4.toInt nx2_5.toInt) ∧ (zTk fb ln.toInt kd2_3.toInt bg2_4.toInt nx2_5.toInt) ∧ (0 = 1 ∧ zTO (zTWork fb ln.toInt wo.toInt bg.toInt) bg2_4.toInt pe.toInt pe.toInt wo.toInt wo.toInt ∧ (-1) = bg2_4 ∨ 0 = 0 ∧ zTWork fb ln.toInt wo.toInt bg.toInt (.bad bg2_4.toInt)) from ⟨(by first | assumption | omega | exact Or.inl (by decide) | exact Or.inr (by omega) | decide), (by first | assumption | omega | exact Or.inl (by decide) | exact Or.inr (by omega) | decide), (by first | assumption | omega | exact Or.inl (by decide) | exact Or.inr (by omega) | decide), (by first | assumption | omega | exact Or.inl (by decide) | exact Or.inr (by omega) | decide), (by first | assumption | omega | exact Or.inl (by decide) | exact Or.inr (by omega) | decide), (by first | assumption | omega | exact Or.inl (by decide) | exact Or.inr (by omega) | decide), (by first | assumption | omega | exact Or.inl (by decide) | exact Or.inr (by omega) | decide), (Or.inr ⟨rfl, zTW_i (by omega) (zMv_mk hTk hq6_3) (zNN_n (by decide) (by decide) rfl hq12_k)⟩)⟩) hP hD
  · skip
    have c56 : 6 ≤ wo.toInt := zle (Int32.not_lt.mp cb9) (by decide) rfl
    have n57 : 6 ≤ wo.toInt := Int.le_trans (Int.le_refl _) c56
    refine lv_aload_n hx hb dX10_readWork_12 rfl (lv_at hl 0 rfl) ?_
    refine va_get (D := g.1) (ci := 8) (v := .ref ta) (C := RX10) (T := TX10) (N := 2) hx hb hts izRX10 hown hK hP 0 rfl rfl 0 (by decide) (hts _ k441) (fun x9 h9 => u_same (hts _ k442) x9 h9) rfl dX10_readWork_13 ?_
    refine mcallV' (g := g) (q0 := 0) (ci := 6) (As := []) (rest := []) St hK hT hA hP hD hS hl.1 [1] [0, 2] rfl rfl rfl (c_t_refuseF l g ta ab sz ln kd bg nx fb ) (cwV 0 hts (zgL (zl4 k443 k279 k280 k277) k269) rfl rfl rfl (by decide +kernel) ⟨Nat.le_of_ble_eq_true rfl, Nat.le_of_ble_eq_true rfl⟩) rfl rfl rfl rfl (Nat.le_of_ble_eq_true rfl) dX10_readWork_16 ⟨(Nat.le_of_ble_eq_true rfl), (Nat.le_of_ble_eq_true rfl)⟩ (fun _u H locs hq58 hP hD hS => ?_)
    have hP : va_P g.1 vwCl (List.flatten [bTT g tt ta o, bTown g o a pe wo tx ch jo tr dy sd f, bTape g ta ab sz ln kd bg nx bg fb]) H := hP
    have hD : va_D A (List.flatten [bTT g tt ta o, bTown g o a pe wo tx ch jo tr dy sd f, bTape g ta ab sz ln kd bg nx bg fb]) := hD
    refine W.widen (k := 0) (n := 0) (Nat.le_of_ble_eq_true rfl) (Nat.le_of_ble_eq_true rfl) ?_
    refine W.eq (g2 := F0 m 19 ls [.int 0]) rfl ?_
    have hP : va_P g.1 vwCl (List.flatten [bTT g tt ta o, bTown g o a pe wo tx ch jo tr dy sd f, bTape g ta ab sz ln kd bg nx bg fb]) H := hP
    have hD : va_D A (List.flatten [bTT g tt ta o, bTown g o a pe wo tx ch jo tr dy sd f, bTape g ta ab sz ln kd bg nx bg fb]) := hD
    obtain ⟨hP, hD⟩ := zord (g := g) (Bs' := [bTT g tt ta o, bTape g ta ab sz ln kd bg nx bg fb, bTown g o a pe wo tx ch jo tr dy sd f]) [0, 2, 1] rfl rfl hP hD
    exact mret_z hx hb hr hlocks hS (Nat.le_of_ble_eq_true rfl) (Nat.le_of_ble_eq_true rfl) dX10_readWork_19 (kd, bg, nx, bg, wo, f, (0 : Int32)) rfl (by decide) (show (0 ≤ wo.toInt ∧ wo.toInt ≤ 6) ∧ (zZ4 f) ∧ (-1 ≤ bg.toInt) ∧ (0 ≤ nx.toInt ∧ nx.toInt ≤ 400) ∧ (0 ≤ bg.toInt ∧ bg.toInt ≤ 400) ∧ (zKd kd.toInt bg.toInt nx.toInt) ∧ (zTk fb ln.toInt kd.toInt bg.toInt nx.toInt) ∧ (0 = 1 ∧ zTO (zTWork fb ln.toInt wo.toInt bg.toInt) bg.toInt pe.toInt pe.toInt wo.toInt wo.toInt ∧ (-1) = bg ∨ 0 = 0 ∧ zTWork fb ln.toInt wo.toInt bg.toInt (.bad bg.toInt)) from ⟨(by first | assumption | omega | exact Or.inl (by decide) | exact Or.inr (by omega) | decide), (by first | assumption | omega | exact Or.inl (by decide) | exact Or.inr (by omega) | decide), (by first | assumption | omega | exact Or.inl (by decide) | exact Or.inr (by omega) | decide), (by first | assumption | omega | exact Or.inl (by decide) | exact Or.inr (by omega) | decide), (by first | assumption | omega | exact Or.inl (by decide) | exact Or.inr (by omega) | decide), (by first | assumption | omega | exact Or.inl (by decide) | exact Or.inr (by omega) | decide), (by first | assumption | omega | exact Or.inl (by decide) | exact Or.inr (by omega) | decide), (Or.inr ⟨rfl, zTW_f (by omega) rfl⟩)⟩) hP hD
set_option maxRecDepth 100000 in
set_option maxHeartbeats 4000000 in
theorem c_tt_readTrustsF (l : Launch) (g : zG) (tt : Nat) (ta : Nat) (o : Nat) (ab : Nat) (sz : Int32) (ln : Int32) (kd : Int32) (bg : Int32) (nx : Int32) (fb : Nat → Int32) (a : Nat → Nat) (pe : Int32) (wo : Int32) (tx : Int32) (ch : Int32) (jo : Int32) (tr : Int32) (dy : Int32) (sd : Int32) (f : Nat → Nat → Int32) (b_pe : 0 ≤ pe.toInt ∧ pe.toInt ≤ 8) (b_wo : 0 ≤ wo.toInt ∧ wo.toInt ≤ 6) (rf : zZ4 f) (hln : 0 ≤ ln.toInt ∧ ln.toInt ≤ 400) (hnx : 0 ≤ nx.toInt ∧ nx.toInt ≤ 400) (hbg : 0 ≤ bg.toInt ∧ bg.toInt ≤ 400) (hkd : zKd kd.toInt bg.toInt nx.toInt) (hTk : zTk fb ln.toInt kd.toInt bg.toInt nx.toInt) : zM' g l yX10_readTrusts (Cond.code yX10_readTrusts cX10_readTrusts 3 (some .boolean) :: zB) ({ frames := 2, cells := 0, slots := 0, locals := 45 } : Room) [.ref tt] [bTT g tt ta o, bTape g ta ab sz ln kd bg nx (-1) fb, bTown g o a pe wo tx ch jo tr dy sd f] (fun u : Int32 × Int32 × Int32 × Int32 × (Nat → Nat → Int32) × Int32 => (fun (kd2 : Int32) (bg2 : Int32) (nx2 : Int32) (ft2 : Int32) (f2 : Nat → Nat → Int32) (q : Int32) => some (.int q)) (u.1) (u.2.1) (u.2.2.1) (u.2.2.2.1) (u.2.2.2.2.1) (u.2.2.2.2.2)) (fun u : Int32 × Int32 × Int32 × Int32 × (Nat → Nat → Int32) × Int32 => (fun (kd2 : Int32) (bg2 : Int32) (nx2 : Int32) (ft2 : Int32) (f2 : Nat → Nat → Int32) (q : Int32) => (zZ4 f2) ∧ (-1 ≤ ft2.toInt) ∧ (0 ≤ nx2.toInt ∧ nx2.toInt ≤ 400) ∧ (0 ≤ bg2.toInt ∧ bg2.toInt ≤ 400) ∧ (zKd kd2.toInt bg2.toInt nx2.toInt) ∧ (zTk fb ln.toInt kd2.toInt bg2.toInt nx2.toInt) ∧ (q = 1 ∧ zTO (zKtr fb ln.toInt pe.toInt bg.toInt) bg2.toInt pe.toInt pe.toInt wo.toInt wo.toInt ∧ (-1) = ft2 ∨ q = 0 ∧ zKtr fb ln.toInt pe.toInt bg.toInt (.bad ft2.toInt))) (u.1) (u.2.1) (u.2.2.1) (u.2.2.2.1) (u.2.2.2.2.1) (u.2.2.2.2.2)) (fun u : Int32 × Int32 × Int32 × Int32 × (Nat → Nat → Int32) × Int32 => (fun (kd2 : Int32) (bg2 : Int32) (nx2 : Int32) (ft2 : Int32) (f2 : Nat → Nat → Int32) (q : Int32) => [bTT g tt ta o, bTape g ta ab sz ln kd2 bg2 nx2 ft2 fb, bTown g o a pe wo tx ch jo tr dy sd f2]) (u.1) (u.2.1) (u.2.2.1) (u.2.2.2.1) (u.2.2.2.2.1) (u.2.2.2.2.2)) := by
  refine zM'.of (cc := cX10_readTrusts) (maxL := 3) (rt := (some .boolean)) (by decide) rfl (Nat.le_of_ble_eq_true rfl) ?_
  intro p e s m args below meth c A ls St hr hlocks hin hK hT hA hP hD hS hl
  obtain ⟨hx, hb, hml, hown, hts⟩ := id St
  have hl : lv_has ls 3 [(0, .ref tt)] := hl
  refine lv_aload_n hx hb dX10_readTrusts_0 rfl (lv_at hl 0 rfl) ?_
  refine va_get (D := g.1) (ci := 8) (v := .ref ta) (C := RX10) (T := TX10) (N := 2) hx hb hts izRX10 hown hK hP 0 rfl rfl 0 (by decide) (hts _ k441) (fun x9 h9 => u_same (hts _ k442) x9 h9) rfl dX10_readTrusts_1 ?_
  refine lv_iconst (v := 0) hx hb dX10_readTrusts_4 (by decide) ?_
  refine lv_aload_n hx hb dX10_readTrusts_5 rfl (lv_at hl 0 rfl) ?_
  refine va_get (D := g.1) (ci := 8) (v := .ref o) (C := RX10) (T := TX10) (N := 2) hx hb hts izRX10 hown hK hP 0 rfl rfl 1 (by decide) (hts _ k439) (fun _ h9 => h9) rfl dX10_readTrusts_6 ?_
  refine va_get (D := g.1) (ci := 7) (v := .int pe) (C := RX9) (T := TX9) (N := 19) hx hb hts izRX9 hown hK hP 3 rfl rfl 0 (by decide) (hts _ k440) (fun _ h9 => h9) rfl dX10_readTrusts_9 ?_
  refine lv_iconst (v := 1) hx hb dX10_readTrusts_12 (by decide) ?_
  refine lv_isub hx hb dX10_readTrusts_13 ?_
  refine zg3 (zsubK (i := pe.toInt) (j := 1) (a' := (-1)) (b' := 7) rfl (by decide) b_pe.1 b_pe.2 (Int.le_refl _) (Int.le_refl _) (by decide)) (fun x_1 hx_1 => ?_)
  have hL0 : (0 : Int32).toInt = 0 := by decide
  refine mcallV' (g := g) (q0 := 0) (ci := 6) (As := [.int 0, .int x_1]) (rest := []) St hK hT hA hP hD hS hl.1 [1] [0, 2] rfl rfl rfl (c_t_numberF l g ta ab sz ln kd bg nx fb 0 x_1 hln hnx hbg hkd hTk) (cwV 2 hts (zgL (zl4 k445 k294 k295 k277) k273) rfl rfl rfl (by decide +kernel) ⟨Nat.le_of_ble_eq_true rfl, Nat.le_of_ble_eq_true rfl⟩) rfl rfl rfl rfl (Nat.le_of_ble_eq_true rfl) dX10_readTrusts_14 ⟨(Nat.le_of_ble_eq_true rfl), (Nat.le_of_ble_eq_true rfl)⟩ (fun u_ H locs hq7 hP hD hS => ?_)
  obtain ⟨kd2_2, bg2_3, nx2_4, ft2_5, q_6⟩ := u_
  replace hq7 : (-1 ≤ ft2_5.toInt) ∧ (0 ≤ nx2_4.toInt ∧ nx2_4.toInt ≤ 400) ∧ (0 ≤ bg2_3.toInt ∧ bg2_3.toInt ≤ 400) ∧ (zKd kd2_2.toInt bg2_3.toInt nx2_4.toInt) ∧ (zTk fb ln.toInt kd2_2.toInt bg2_3.toInt nx2_4.toInt) ∧ (zNu fb ln.toInt bg.toInt (0 : Int32).toInt x_1.toInt q_6 ∧ zMv fb ln.toInt bg.toInt bg2_3.toInt ∧ (-1) = ft2_5 ∨ q_6 = -1 ∧ (¬ ∃ v9, zNu fb ln.toInt bg.toInt (0 : Int32).toInt x_1.toInt v9) ∧ bg = ft2_5 ∧ kd = kd2_2 ∧ bg = bg2_3 ∧ nx = nx2_4) := hq7
  have hP : va_P g.1 vwCl (List.flatten [bTT g tt ta o, bTown g o a pe wo tx ch jo tr dy sd f, bTape g ta ab sz ln kd2_2 bg2_3 nx2_4 ft2_5 fb]) H := hP
  have hD : va_D A (List.flatten [bTT g tt ta o, bTown g o a pe wo tx ch jo tr dy sd f, bTape g ta ab sz ln kd2_2 bg2_3 nx2_4 ft2_5 fb]) := hD
  refine W.widen (k := 0) (n := 0) (Nat.le_of_ble_eq_true rfl) (Nat.le_of_ble_eq_true rfl) ?_
  refine W.eq (g2 := F0 m 17 ls [.int q_6]) rfl ?_
  obtain ⟨hq7_0, hq7_1, hq7_2, hq7_3, hq7_4, hq7_5⟩ := hq7
  rcases hq7_5 with ⟨hq7_k, hq7_km, rfl⟩ | ⟨rfl, hq7_k, rfl, rfl, rfl, rfl⟩
  · skip
    have w8 : 0 ≤ q_6.toInt ∧ q_6.toInt ≤ 7 := ⟨(by have h9 := hq7_k.2.2.1; omega), (by have h9 := hq7_k.2.2.2; omega)⟩
    refine lv_istore_n (lv' := [(1, .int q_6), (0, .ref tt)]) hx hb dX10_readTrusts_17 rfl hl (by decide) rfl (fun ls hl => ?_)
    refine lv_iload_n hx hb dX10_readTrusts_18 rfl (lv_at hl 0 rfl) ?_
    refine lv_iconst (v := (-1)) hx hb dX10_readTrusts_19 (by decide) ?_
    refine lv_icmp_ne (tgt := 25) hx hb dX10_readTrusts_20 (by decide) (fun cb9 => ?_) (fun cb9 => ?_)
    · skip
      have c9 : ¬ q_6.toInt = (-1) := zne cb9 rfl (by decide)
      refine lv_aload_n hx hb dX10_readTrusts_25 rfl (lv_at hl 1 rfl) ?_
      refine va_get (D := g.1) (ci := 8) (v := .ref ta) (C := RX10) (T := TX10) (N := 2) hx hb hts izRX10 hown hK hP 0 rfl rfl 0 (by decide) (hts _ k441) (fun x9 h9 => u_same (hts _ k442) x9 h9) rfl dX10_readTrusts_26 ?_
      refine va_get (D := g.1) (ci := 6) (v := .int kd2_2) (C := RX6) (T := TX6) (N := 7) hx hb hts izRX6 hown hK hP 13 rfl rfl 3 (by decide) (hts _ k460) (fun _ h9 => h9) rfl dX10_readTrusts_29 ?_
      refine lv_iconst (v := 2) hx hb dX10_readTrusts_32 (by decide) ?_
      refine lv_icmp_ne (tgt := 61) hx hb dX10_readTrusts_33 (by decide) (fun cb9 => ?_) (fun cb9 => ?_)
      · skip
        have c10 : ¬ kd2_2.toInt = 2 := zne cb9 rfl (by decide)
        refine lv_aload_n hx hb dX10_readTrusts_61 rfl (lv_at hl 1 rfl) ?_
        refine va_get (D := g.1) (ci := 8) (v := .ref ta) (C := RX10) (T := TX10) (N := 2) hx hb hts izRX10 hown hK hP 0 rfl rfl 0 (by decide) (hts _ k441) (fun x9 h9 => u_same (hts _ k442) x9 h9) rfl dX10_readTrusts_62 ?_
        refine mcallV' (g := g) (q0 := 0) (ci := 6) (As := []) (rest := []) St hK hT hA hP hD hS hl.1 [2] [0, 1] rfl rfl rfl (c_t_refuseF l g ta ab sz ln kd2_2 bg2_3 nx2_4 fb ) (cwV 0 hts (zgL (zl4 k443 k279 k280 k277) k269) rfl rfl rfl (by decide +kernel) ⟨Nat.le_of_ble_eq_true rfl, Nat.le_of_ble_eq_true rfl⟩) rfl rfl rfl rfl (Nat.le_of_ble_eq_true rfl) dX10_readTrusts_65 ⟨(Nat.le_of_ble_eq_true rfl), (Nat.le_of_ble_eq_true rfl)⟩ (fun _u H locs hq11 hP hD hS => ?_)
        have hP : va_P g.1 vwCl (List.flatten [bTT g tt ta o, bTown g o a pe wo tx ch jo tr dy sd f, bTape g ta ab sz ln kd2_2 bg2_3 nx2_4 bg2_3 fb]) H := hP
        have hD : va_D A (List.flatten [bTT g tt ta o, bTown g o a pe wo tx ch jo tr dy sd f, bTape g ta ab sz ln kd2_2 bg2_3 nx2_4 bg2_3 fb]) := hD
        refine W.widen (k := 0) (n := 0) (Nat.le_of_ble_eq_true rfl) (Nat.le_of_ble_eq_true rfl) ?_
        refine W.eq (g2 := F0 m 68 ls [.int 0]) rfl ?_
        have hP : va_P g.1 vwCl (List.flatten [bTT g tt ta o, bTown g o a pe wo tx ch jo tr dy sd f, bTape g ta ab sz ln kd2_2 bg2_3 nx2_4 bg2_3 fb]) H := hP
        have hD : va_D A (List.flatten [bTT g tt ta o, bTown g o a pe wo tx ch jo tr dy sd f, bTape g ta ab sz ln kd2_2 bg2_3 nx2_4 bg2_3 fb]) := hD
        obtain ⟨hP, hD⟩ := zord (g := g) (Bs' := [bTT g tt ta o, bTape g ta ab sz ln kd2_2 bg2_3 nx2_4 bg2_3 fb, bTown g o a pe wo tx ch jo tr dy sd f]) [0, 2, 1] rfl rfl hP hD
        exact mret_z hx hb hr hlocks hS (Nat.le_of_ble_eq_true rfl) (Nat.le_of_ble_eq_true rfl) dX10_readTrusts_68 (kd2_2, bg2_3, nx2_4, bg2_3, f, (0 : Int32)) rfl (by decide) (show (zZ4 f) ∧ (-1 ≤ bg2_3.toInt) ∧ (0 ≤ nx2_4.toInt ∧ nx2_4.toInt ≤ 400) ∧ (0 ≤ bg2_3.toInt ∧ bg2_3.toInt ≤ 400) ∧ (zKd kd2_2.toInt bg2_3.toInt nx2_4.toInt) ∧ (zTk fb ln.toInt kd2_2.toInt bg2_3.toInt nx2_4.toInt) ∧ (0 = 1 ∧ zTO (zKtr fb ln.toInt pe.toInt bg.toInt) bg2_3.toInt pe.toInt pe.toInt wo.toInt wo.toInt ∧ (-1) = bg2_3 ∨ 0 = 0 ∧ zKtr fb ln.toInt pe.toInt bg.toInt (.bad bg2_3.toInt)) from ⟨(by first | assumption | omega | exact Or.inl (by decide) | exact Or.inr (by omega) | decide), (by first | assumption | omega | exact Or.inl (by decide) | exact Or.inr (by omega) | decide), (by first | assumption | omega | exact Or.inl (by decide) | exact Or.inr (by omega) | decide), (by first | assumption | omega | exact Or.inl (by decide) | exact Or.inr (by omega) | decide), (by first | assumption | omega | exact Or.inl (by decide) | exact Or.inr (by omega) | decide), (by first | assumption | omega | exact Or.inl (by decide) | exact Or.inr (by omega) | decide), (Or.inr ⟨rfl, zNN_y (by decide) (by omega) hq7_k hq7_km (zKt2_n hq7_4 (by omega) rfl)⟩)⟩) hP hD
      · skip
        have c12 : kd2_2.toInt = 2 := zeq cb9 rfl (by decide)
        have n13 : 2 ≤ kd2_2.toInt := Int.le_trans (Int.le_refl _) (Int.le_of_eq c12.symm)
        have n14 : kd2_2.toInt ≤ 2 := Int.le_trans (Int.le_of_eq c12) (Int.le_refl _)
        refine lv_aload_n hx hb dX10_readTrusts_36 rfl (lv_at hl 1 rfl) ?_
        refine va_get (D := g.1) (ci := 8) (v := .ref ta) (C := RX10) (T := TX10) (N := 2) hx hb hts izRX10 hown hK hP 0 rfl rfl 0 (by decide) (hts _ k441) (fun x9 h9 => u_same (hts _ k442) x9 h9) rfl dX10_readTrusts_37 ?_
        refine va_get (D := g.1) (ci := 6) (v := .int nx2_4) (C := RX6) (T := TX6) (N := 7) hx hb hts izRX6 hown hK hP 13 rfl rfl 5 (by decide) (hts _ k461) (fun _ h9 => h9) rfl dX10_readTrusts_40 ?_
        refine lv_aload_n hx hb dX10_readTrusts_43 rfl (lv_at hl 1 rfl) ?_
        refine va_get (D := g.1) (ci := 8) (v := .ref ta) (C := RX10) (T := TX10) (N := 2) hx hb hts izRX10 hown hK hP 0 rfl rfl 0 (by decide) (hts _ k441) (fun x9 h9 => u_same (hts _ k442) x9 h9) rfl dX10_readTrusts_44 ?_
        refine va_get (D := g.1) (ci := 6) (v := .int bg2_3) (C := RX6) (T := TX6) (N := 7) hx hb hts izRX6 hown hK hP 13 rfl rfl 4 (by decide) (hts _ k462) (fun _ h9 => h9) rfl dX10_readTrusts_47 ?_
        refine lv_isub hx hb dX10_readTrusts_50 ?_
        refine zg3 (zsubK (i := nx2_4.toInt) (j := bg2_3.toInt) (a' := (-400)) (b' := 400) rfl rfl hq7_1.1 hq7_1.2 hq7_2.1 hq7_2.2 (by decide)) (fun x_15 hx_15 => ?_)
        refine lv_aload_n hx hb dX10_readTrusts_51 rfl (lv_at hl 1 rfl) ?_
        refine va_get (D := g.1) (ci := 8) (v := .ref o) (C := RX10) (T := TX10) (N := 2) hx hb hts izRX10 hown hK hP 0 rfl rfl 1 (by decide) (hts _ k439) (fun _ h9 => h9) rfl dX10_readTrusts_52 ?_
        refine va_get (D := g.1) (ci := 7) (v := .int pe) (C := RX9) (T := TX9) (N := 19) hx hb hts izRX9 hown hK hP 1 rfl rfl 0 (by decide) (hts _ k440) (fun _ h9 => h9) rfl dX10_readTrusts_55 ?_
        refine lv_icmp_eq (tgt := 69) hx hb dX10_readTrusts_58 (by decide) (fun cb9 => ?_) (fun cb9 => ?_)
        · skip
          have c16 : x_15.toInt = pe.toInt := zeq cb9 rfl rfl
          have n17 : 0 ≤ x_15.toInt := Int.le_trans b_pe.1 (Int.le_of_eq c16.symm)
          have n18 : x_15.toInt ≤ 8 := Int.le_trans (Int.le_of_eq c16) b_pe.2
          refine lv_iconst (v := 0) hx hb dX10_readTrusts_69 (by decide) ?_
          refine lv_istore_n (lv' := [(2, .int 0), (1, .int q_6), (0, .ref tt)]) hx hb dX10_readTrusts_70 rfl hl (by decide) rfl (fun ls hl => ?_)
          have hl := lv_sub (l' := [(0, .ref tt), (1, .int q_6), (2, .int 0)]) hl [2, 1, 0] rfl
          have LP71_22 : ∀ (kf : Nat) (x_19 : Int32) (f_20 : Nat → Nat → Int32), (0 ≤ x_19.toInt ∧ x_19.toInt ≤ 8) → (zZ4 f_20) → ∀ (H : Heap) (locs : List Loc) (ls : Array Slot), ((9 - x_19.toInt).toNat) < kf → va_P g.1 vwCl (List.flatten [bTT g tt ta o, bTown g o a pe wo tx ch jo tr dy sd f_20, bTape g ta ab sz ln kd2_2 bg2_3 nx2_4 (-1) fb]) H → va_D A (List.flatten [bTT g tt ta o, bTown g o a pe wo tx ch jo tr dy sd f_20, bTape g ta ab sz ln kd2_2 bg2_3 nx2_4 (-1) fb]) → va_S A s.heap H locs → lv_has ls 3 [(0, .ref tt), (1, .int q_6), (2, .int x_19)] → W p l e ({ frames := 2, cells := 0, slots := 0, locals := 45 } : Room) s m args below meth c H locs (0) (0) (zF g (fun u : Int32 × Int32 × Int32 × Int32 × (Nat → Nat → Int32) × Int32 => (fun (kd2 : Int32) (bg2 : Int32) (nx2 : Int32) (ft2 : Int32) (f2 : Nat → Nat → Int32) (q : Int32) => some (.int q)) (u.1) (u.2.1) (u.2.2.1) (u.2.2.2.1) (u.2.2.2.2.1) (u.2.2.2.2.2)) (fun u : Int32 × Int32 × Int32 × Int32 × (Nat → Nat → Int32) × Int32 => (fun (kd2 : Int32) (bg2 : Int32) (nx2 : Int32) (ft2 : Int32) (f2 : Nat → Nat → Int32) (q : Int32) => (zZ4 f2) ∧ (-1 ≤ ft2.toInt) ∧ (0 ≤ nx2.toInt ∧ nx2.toInt ≤ 400) ∧ (0 ≤ bg2.toInt ∧ bg2.toInt ≤ 400) ∧ (zKd kd2.toInt bg2.toInt nx2.toInt) ∧ (zTk fb ln.toInt kd2.toInt bg2.toInt nx2.toInt) ∧ (q = 1 ∧ zTO (zKtr fb ln.toInt pe.toInt bg.toInt) bg2.toInt pe.toInt pe.toInt wo.toInt wo.toInt ∧ (-1) = ft2 ∨ q = 0 ∧ zKtr fb ln.toInt pe.toInt bg.toInt (.bad ft2.toInt))) (u.1) (u.2.1) (u.2.2.1) (u.2.2.2.1) (u.2.2.2.2.1) (u.2.2.2.2.2)) (fun u : Int32 × Int32 × Int32 × Int32 × (Nat → Nat → Int32) × Int32 => (fun (kd2 : Int32) (bg2 : Int32) (nx2 : Int32) (ft2 : Int32) (f2 : Nat → Nat → Int32) (q : Int32) => [bTT g tt ta o, bTape g ta ab sz ln kd2 bg2 nx2 ft2 fb, bTown g o a pe wo tx ch jo tr dy sd f2]) (u.1) (u.2.1) (u.2.2.1) (u.2.2.2.1) (u.2.2.2.2.1) (u.2.2.2.2.2)) ({ frames := 2, cells := 0, slots := 0, locals := 45 } : Room) below args s A) (F0 m 71 ls []) := by
            intro kf
            induction kf with
            | zero => intro x_19 f_20 i21 rf_20 H locs ls hk; exact absurd hk (Nat.not_lt_zero _)
            | succ kf ih71_23 =>
              intro x_19 f_20 i21 rf_20 H locs ls hk71_23 hP hD hS hl
              refine lv_iload_n hx hb dX10_readTrusts_71 rfl (lv_at hl 2 rfl) ?_
              refine lv_aload_n hx hb dX10_readTrusts_72 rfl (lv_at hl 0 rfl) ?_
              refine va_get (D := g.1) (ci := 8) (v := .ref o) (C := RX10) (T := TX10) (N := 2) hx hb hts izRX10 hown hK hP 0 rfl rfl 1 (by decide) (hts _ k439) (fun _ h9 => h9) rfl dX10_readTrusts_73 ?_
              refine va_get (D := g.1) (ci := 7) (v := .int pe) (C := RX9) (T := TX9) (N := 19) hx hb hts izRX9 hown hK hP 1 rfl rfl 0 (by decide) (hts _ k440) (fun _ h9 => h9) rfl dX10_readTrusts_76 ?_
              refine lv_icmp_ge (tgt := 122) hx hb dX10_readTrusts_79 (by decide) (fun cb9 => ?_) (fun cb9 => ?_)
              · skip
                have c24 : pe.toInt ≤ x_19.toInt := zle cb9 rfl rfl
                refine lv_aload_n hx hb dX10_readTrusts_122 rfl (lv_at hl 0 rfl) ?_
                refine va_get (D := g.1) (ci := 8) (v := .ref ta) (C := RX10) (T := TX10) (N := 2) hx hb hts izRX10 hown hK hP 0 rfl rfl 0 (by decide) (hts _ k441) (fun x9 h9 => u_same (hts _ k442) x9 h9) rfl dX10_readTrusts_123 ?_
                refine mcallV' (g := g) (q0 := 0) (ci := 6) (As := []) (rest := []) St hK hT hA hP hD hS hl.1 [2] [0, 1] rfl rfl rfl (c_t_stepF l g ta ab sz ln kd2_2 bg2_3 nx2_4 (-1) fb hln hq7_1) (cwV 0 hts (zgL (zl4 k444 k275 k276 k277) k271) rfl rfl rfl (by decide +kernel) ⟨Nat.le_of_ble_eq_true rfl, Nat.le_of_ble_eq_true rfl⟩) rfl rfl rfl rfl (Nat.le_of_ble_eq_true rfl) dX10_readTrusts_126 ⟨(Nat.le_of_ble_eq_true rfl), (Nat.le_of_ble_eq_true rfl)⟩ (fun u_ H locs hq28 hP hD hS => ?_)
                obtain ⟨kd2_25, bg2_26, nx2_27⟩ := u_
                replace hq28 : (0 ≤ nx2_27.toInt ∧ nx2_27.toInt ≤ 400) ∧ (0 ≤ bg2_26.toInt ∧ bg2_26.toInt ≤ 400) ∧ (zKd kd2_25.toInt bg2_26.toInt nx2_27.toInt) ∧ (zSk fb ln.toInt nx2_4.toInt bg2_26.toInt) ∧ (zTk fb ln.toInt kd2_25.toInt bg2_26.toInt nx2_27.toInt) := hq28
                have hP : va_P g.1 vwCl (List.flatten [bTT g tt ta o, bTown g o a pe wo tx ch jo tr dy sd f_20, bTape g ta ab sz ln kd2_25 bg2_26 nx2_27 (-1) fb]) H := hP
                have hD : va_D A (List.flatten [bTT g tt ta o, bTown g o a pe wo tx ch jo tr dy sd f_20, bTape g ta ab sz ln kd2_25 bg2_26 nx2_27 (-1) fb]) := hD
                refine W.widen (k := 0) (n := 0) (Nat.le_of_ble_eq_true rfl) (Nat.le_of_ble_eq_true rfl) ?_
                refine W.eq (g2 := F0 m 129 ls []) rfl ?_
                obtain ⟨hq28_0, hq28_1, hq28_2, hq28_3, hq28_4⟩ := hq28
                refine lv_iconst (v := 1) hx hb dX10_readTrusts_129 (by decide) ?_
                have hP : va_P g.1 vwCl (List.flatten [bTT g tt ta o, bTown g o a pe wo tx ch jo tr dy sd f_20, bTape g ta ab sz ln kd2_25 bg2_26 nx2_27 (-1) fb]) H := hP
                have hD : va_D A (List.flatten [bTT g tt ta o, bTown g o a pe wo tx ch jo tr dy sd f_20, bTape g ta ab sz ln kd2_25 bg2_26 nx2_27 (-1) fb]) := hD
                obtain ⟨hP, hD⟩ := zord (g := g) (Bs' := [bTT g tt ta o, bTape g ta ab sz ln kd2_25 bg2_26 nx2_27 (-1) fb, bTown g o a pe wo tx ch jo tr dy sd f_20]) [0, 2, 1] rfl rfl hP hD
                exact mret_z hx hb hr hlocks hS (Nat.le_of_ble_eq_true rfl) (Nat.le_of_ble_eq_true rfl) dX10_readTrusts_130 (kd2_25, bg2_26, nx2_27, -1, f_20, (1 : Int32)) rfl (by decide) (show (zZ4 f_20) ∧ (-1 ≤ ((-1) : Int32).toInt) ∧ (0 ≤ nx2_27.toInt ∧ nx2_27.toInt ≤ 400) ∧ (0 ≤ bg2_26.toInt ∧ bg2_26.toInt ≤ 400) ∧ (zKd kd2_25.toInt bg2_26.toInt nx2_27.toInt) ∧ (zTk fb ln.toInt kd2_25.toInt bg2_26.toInt nx2_27.toInt) ∧ (1 = 1 ∧ zTO (zKtr fb ln.toInt pe.toInt bg.toInt) bg2_26.toInt pe.toInt pe.toInt wo.toInt wo.toInt ∧ (-1) = (-1) ∨ 1 = 0 ∧ zKtr fb ln.toInt pe.toInt bg.toInt (.bad ((-1) : Int32).toInt)) from ⟨(by first | assumption | omega | exact Or.inl (by decide) | exact Or.inr (by omega) | decide), (by first | assumption | omega | exact Or.inl (by decide) | exact Or.inr (by omega) | decide), (by first | assumption | omega | exact Or.inl (by decide) | exact Or.inr (by omega) | decide), (by first | assumption | omega | exact Or.inl (by decide) | exact Or.inr (by omega) | decide), (by first | assumption | omega | exact Or.inl (by decide) | exact Or.inr (by omega) | decide), (by first | assumption | omega | exact Or.inl (by decide) | exact Or.inr (by omega) | decide), (Or.inl ⟨rfl, ⟨(2, q_6.toInt, _, 0), zNN_y (by decide) (by omega) hq7_k hq7_km (zKt2_y hq7_4 (by omega) (by omega) (zMv_mk hq7_4 hq28_3)), zcp_n (by decide) rfl, zcw_n (by decide) rfl⟩, rfl⟩)⟩) hP hD
              · skip
                have c29 : x_19.toInt < pe.toInt := zlti (Int32.not_le.mp cb9) rfl rfl
                have n30 : x_19.toInt ≤ 7 := zL1 (b := 8) c29 b_pe.2 (by decide)
                have n31 : 1 ≤ pe.toInt := zL2 (a := 0) c29 i21.1 (by decide)
                refine lv_iload_n hx hb dX10_readTrusts_82 rfl (lv_at hl 2 rfl) ?_
                refine lv_iload_n hx hb dX10_readTrusts_83 rfl (lv_at hl 1 rfl) ?_
                refine lv_icmp_eq (tgt := 116) hx hb dX10_readTrusts_84 (by decide) (fun cb9 => ?_) (fun cb9 => ?_)
                · skip
                  have c32 : x_19.toInt = q_6.toInt := zeq cb9 rfl rfl
                  refine ziinc3 (n' := 1) (a' := 1) (b' := 8) (lv' := fun v9 => [(2, .int v9), (0, .ref tt), (1, .int q_6)]) hx hb dX10_readTrusts_116 hl (k := 2) rfl (by decide) (fun _ => rfl) (zaddK (i := x_19.toInt) (j := 1) rfl (by decide) i21.1 n30 (Int.le_refl _) (Int.le_refl _) (by decide)) (fun x_33 ls hx_33 hl => ?_)
                  refine lv_goto (tgt := 71) hx hb dX10_readTrusts_119 (by decide) ?_
                  have hl := lv_sub (l' := [(0, .ref tt), (1, .int q_6), (2, .int x_33)]) hl [1, 2, 0] rfl
                  have hP : va_P g.1 vwCl (List.flatten [bTT g tt ta o, bTown g o a pe wo tx ch jo tr dy sd f_20, bTape g ta ab sz ln kd2_2 bg2_3 nx2_4 (-1) fb]) H := hP
                  have hD : va_D A (List.flatten [bTT g tt ta o, bTown g o a pe wo tx ch jo tr dy sd f_20, bTape g ta ab sz ln kd2_2 bg2_3 nx2_4 (-1) fb]) := hD
                  exact ih71_23 x_33 f_20 ⟨(Int.le_trans (by decide) hx_33.2.1), hx_33.2.2⟩ rf_20 H _ ls (zmK hx_33.1 (by decide) n30 (by decide) hk71_23)  hP hD hS (lv_sub hl [0, 1, 2] rfl)
                · skip
                  have c34 : ¬ x_19.toInt = q_6.toInt := zne cb9 rfl rfl
                  refine lv_aload_n hx hb dX10_readTrusts_87 rfl (lv_at hl 0 rfl) ?_
                  refine va_get (D := g.1) (ci := 8) (v := .ref o) (C := RX10) (T := TX10) (N := 2) hx hb hts izRX10 hown hK hP 0 rfl rfl 1 (by decide) (hts _ k439) (fun _ h9 => h9) rfl dX10_readTrusts_88 ?_
                  refine lv_iload_n hx hb dX10_readTrusts_91 rfl (lv_at hl 1 rfl) ?_
                  refine lv_iload_n hx hb dX10_readTrusts_92 rfl (lv_at hl 2 rfl) ?_
                  refine lv_aload_n hx hb dX10_readTrusts_93 rfl (lv_at hl 0 rfl) ?_
                  refine va_get (D := g.1) (ci := 8) (v := .ref ta) (C := RX10) (T := TX10) (N := 2) hx hb hts izRX10 hown hK hP 0 rfl rfl 0 (by decide) (hts _ k441) (fun x9 h9 => u_same (hts _ k442) x9 h9) rfl dX10_readTrusts_94 ?_
                  refine va_get (D := g.1) (ci := 6) (v := .ref ab) (C := RX6) (T := TX6) (N := 7) hx hb hts izRX6 hown hK hP 13 rfl rfl 0 (by decide) (hts _ k463) (fun _ h9 => h9) rfl dX10_readTrusts_97 ?_
                  refine lv_aload_n hx hb dX10_readTrusts_100 rfl (lv_at hl 0 rfl) ?_
                  refine va_get (D := g.1) (ci := 8) (v := .ref ta) (C := RX10) (T := TX10) (N := 2) hx hb hts izRX10 hown hK hP 0 rfl rfl 0 (by decide) (hts _ k441) (fun x9 h9 => u_same (hts _ k442) x9 h9) rfl dX10_readTrusts_101 ?_
                  refine va_get (D := g.1) (ci := 6) (v := .int bg2_3) (C := RX6) (T := TX6) (N := 7) hx hb hts izRX6 hown hK hP 13 rfl rfl 4 (by decide) (hts _ k462) (fun _ h9 => h9) rfl dX10_readTrusts_104 ?_
                  refine lv_iload_n hx hb dX10_readTrusts_107 rfl (lv_at hl 2 rfl) ?_
                  refine lv_iadd hx hb dX10_readTrusts_108 ?_
                  refine zg3 (zaddK (i := bg2_3.toInt) (j := x_19.toInt) (a' := 0) (b' := 407) rfl rfl hq7_2.1 hq7_2.2 i21.1 n30 (by decide)) (fun x_35 hx_35 => ?_)
                  refine va_iald hx hb hK hP 14 0 rfl rfl (zinI (by omega) (by omega)) dX10_readTrusts_109 ?_
                  refine zg (fun x_36 => ?_)
                  refine lv_bipush (v := 48) hx hb dX10_readTrusts_110 (by decide) ?_
                  refine lv_isub hx hb dX10_readTrusts_112 ?_
                  refine zg (fun x_37 => ?_)
                  refine mcallV' (g := g) (q0 := 0) (ci := 7) (As := [.int q_6, .int x_19, .int x_37]) (rest := []) St hK hT hA hP hD hS hl.1 [1] [0, 2] rfl rfl rfl (c_setTrust l g o a pe wo tx ch jo tr dy sd f_20 q_6 x_19 x_37 rf_20 (⟨w8.1, w8.2⟩) (⟨i21.1, n30⟩)) (cwV 3 hts (zgL (zl4 k464 k437 k438 k24) k434) rfl rfl rfl (by decide +kernel) ⟨Nat.le_of_ble_eq_true rfl, Nat.le_of_ble_eq_true rfl⟩) rfl rfl rfl rfl (Nat.le_of_ble_eq_true rfl) dX10_readTrusts_113 ⟨(Nat.le_of_ble_eq_true rfl), (Nat.le_of_ble_eq_true rfl)⟩ (fun f2_38 H locs hq39 hP hD hS => ?_)
                  replace hq39 : (zZ4 f2_38) := hq39
                  have hP : va_P g.1 vwCl (List.flatten [bTT g tt ta o, bTape g ta ab sz ln kd2_2 bg2_3 nx2_4 (-1) fb, bTown g o a pe wo tx ch jo tr dy sd f2_38]) H := hP
                  have hD : va_D A (List.flatten [bTT g tt ta o, bTape g ta ab sz ln kd2_2 bg2_3 nx2_4 (-1) fb, bTown g o a pe wo tx ch jo tr dy sd f2_38]) := hD
                  refine W.widen (k := 0) (n := 0) (Nat.le_of_ble_eq_true rfl) (Nat.le_of_ble_eq_true rfl) ?_
                  refine W.eq (g2 := F0 m 116 ls []) rfl ?_
                  have rf2_38 := hq39; clear hq39
                  refine ziinc3 (n' := 1) (a' := 1) (b' := 8) (lv' := fun v9 => [(2, .int v9), (0, .ref tt), (1, .int q_6)]) hx hb dX10_readTrusts_116 hl (k := 2) rfl (by decide) (fun _ => rfl) (zaddK (i := x_19.toInt) (j := 1) rfl (by decide) i21.1 n30 (Int.le_refl _) (Int.le_refl _) (by decide)) (fun x_40 ls hx_40 hl => ?_)
                  refine lv_goto (tgt := 71) hx hb dX10_readTrusts_119 (by decide) ?_
                  have hl := lv_sub (l' := [(0, .ref tt), (1, .int q_6), (2, .int x_40)]) hl [1, 2, 0] rfl
                  have hP : va_P g.1 vwCl (List.flatten [bTT g tt ta o, bTape g ta ab sz ln kd2_2 bg2_3 nx2_4 (-1) fb, bTown g o a pe wo tx ch jo tr dy sd f2_38]) H := hP
                  have hD : va_D A (List.flatten [bTT g tt ta o, bTape g ta ab sz ln kd2_2 bg2_3 nx2_4 (-1) fb, bTown g o a pe wo tx ch jo tr dy sd f2_38]) := hD
                  obtain ⟨hP, hD⟩ := zord (g := g) (Bs' := [bTT g tt ta o, bTown g o a pe wo tx ch jo tr dy sd f2_38, bTape g ta ab sz ln kd2_2 bg2_3 nx2_4 (-1) fb]) [0, 2, 1] rfl rfl hP hD
                  have hP : va_P g.1 vwCl (List.flatten [bTT g tt ta o, bTown g o a pe wo tx ch jo tr dy sd f2_38, bTape g ta ab sz ln kd2_2 bg2_3 nx2_4 (-1) fb]) H := hP
                  have hD : va_D A (List.flatten [bTT g tt ta o, bTown g o a pe wo tx ch jo tr dy sd f2_38, bTape g ta ab sz ln kd2_2 bg2_3 nx2_4 (-1) fb]) := hD
                  exact ih71_23 x_40 f2_38 ⟨(Int.le_trans (by decide) hx_40.2.1), hx_40.2.2⟩ rf2_38 H _ ls (zmK hx_40.1 (by decide) n30 (by decide) hk71_23)  hP hD hS (lv_sub hl [0, 1, 2] rfl)
          have hP : va_P g.1 vwCl (List.flatten [bTT g tt ta o, bTown g o a pe wo tx ch jo tr dy sd f, bTape g ta ab sz ln kd2_2 bg2_3 nx2_4 (-1) fb]) H := hP
          have hD : va_D A (List.flatten [bTT g tt ta o, bTown g o a pe wo tx ch jo tr dy sd f, bTape g ta ab sz ln kd2_2 bg2_3 nx2_4 (-1) fb]) := hD
          exact LP71_22 _ 0 f (by decide) rf H _ ls (Nat.lt_succ_self _)  hP hD hS (lv_sub hl [0, 1, 2] rfl)
        · skip
          have c41 : ¬ x_15.toInt = pe.toInt := zne cb9 rfl rfl
          refine lv_aload_n hx hb dX10_readTrusts_61 rfl (lv_at hl 1 rfl) ?_
          refine va_get (D := g.1) (ci := 8) (v := .ref ta) (C := RX10) (T := TX10) (N := 2) hx hb hts izRX10 hown hK hP 0 rfl rfl 0 (by decide) (hts _ k441) (fun x9 h9 => u_same (hts _ k442) x9 h9) rfl dX10_readTrusts_62 ?_
          refine mcallV' (g := g) (q0 := 0) (ci := 6) (As := []) (rest := []) St hK hT hA hP hD hS hl.1 [2] [0, 1] rfl rfl rfl (c_t_refuseF l g ta ab sz ln kd2_2 bg2_3 nx2_4 fb ) (cwV 0 hts (zgL (zl4 k443 k279 k280 k277) k269) rfl rfl rfl (by decide +kernel) ⟨Nat.le_of_ble_eq_true rfl, Nat.le_of_ble_eq_true rfl⟩) rfl rfl rfl rfl (Nat.le_of_ble_eq_true rfl) dX10_readTrusts_65 ⟨(Nat.le_of_ble_eq_true rfl), (Nat.le_of_ble_eq_true rfl)⟩ (fun _u H locs hq42 hP hD hS => ?_)
          have hP : va_P g.1 vwCl (List.flatten [bTT g tt ta o, bTown g o a pe wo tx ch jo tr dy sd f, bTape g ta ab sz ln kd2_2 bg2_3 nx2_4 bg2_3 fb]) H := hP
          have hD : va_D A (List.flatten [bTT g tt ta o, bTown g o a pe wo tx ch jo tr dy sd f, bTape g ta ab sz ln kd2_2 bg2_3 nx2_4 bg2_3 fb]) := hD
          refine W.widen (k := 0) (n := 0) (Nat.le_of_ble_eq_true rfl) (Nat.le_of_ble_eq_true rfl) ?_
          refine W.eq (g2 := F0 m 68 ls [.int 0]) rfl ?_
          have hP : va_P g.1 vwCl (List.flatten [bTT g tt ta o, bTown g o a pe wo tx ch jo tr dy sd f, bTape g ta ab sz ln kd2_2 bg2_3 nx2_4 bg2_3 fb]) H := hP
          have hD : va_D A (List.flatten [bTT g tt ta o, bTown g o a pe wo tx ch jo tr dy sd f, bTape g ta ab sz ln kd2_2 bg2_3 nx2_4 bg2_3 fb]) := hD
          obtain ⟨hP, hD⟩ := zord (g := g) (Bs' := [bTT g tt ta o, bTape g ta ab sz ln kd2_2 bg2_3 nx2_4 bg2_3 fb, bTown g o a pe wo tx ch jo tr dy sd f]) [0, 2, 1] rfl rfl hP hD
          exact mret_z hx hb hr hlocks hS (Nat.le_of_ble_eq_true rfl) (Nat.le_of_ble_eq_true rfl) dX10_readTrusts_68 (kd2_2, bg2_3, nx2_4, bg2_3, f, (0 : Int32)) rfl (by decide) (show (zZ4 f) ∧ (-1 ≤ bg2_3.toInt) ∧ (0 ≤ nx2_4.toInt ∧ nx2_4.toInt ≤ 400) ∧ (0 ≤ bg2_3.toInt ∧ bg2_3.toInt ≤ 400) ∧ (zKd kd2_2.toInt bg2_3.toInt nx2_4.toInt) ∧ (zTk fb ln.toInt kd2_2.toInt bg2_3.toInt nx2_4.toInt) ∧ (0 = 1 ∧ zTO (zKtr fb ln.toInt pe.toInt bg.toInt) bg2_3.toInt pe.toInt pe.toInt wo.toInt wo.toInt ∧ (-1) = bg2_3 ∨ 0 = 0 ∧ zKtr fb ln.toInt pe.toInt bg.toInt (.bad bg2_3.toInt)) from ⟨(by first | assumption | omega | exact Or.inl (by decide) | exact Or.inr (by omega) | decide), (by first | assumption | omega | exact Or.inl (by decide) | exact Or.inr (by omega) | decide), (by first | assumption | omega | exact Or.inl (by decide) | exact Or.inr (by omega) | decide), (by first | assumption | omega | exact Or.inl (by decide) | exact Or.inr (by omega) | decide), (by first | assumption | omega | exact Or.inl (by decide) | exact Or.inr (by omega) | decide), (by first | assumption | omega | exact Or.inl (by decide) | exact Or.inr (by omega) | decide), (Or.inr ⟨rfl, zNN_y (by decide) (by omega) hq7_k hq7_km (zKt2_n hq7_4 (by omega) rfl)⟩)⟩) hP hD
    · skip
      exact absurd (show q_6.toInt = (-1) from zeq cb9 rfl (by decide)) (zDeq2 (a := 0) (b := (-1)) w8.1 (Int.le_refl _) (by decide))
  · skip
    refine lv_istore_n (lv' := [(1, .int (-1)), (0, .ref tt)]) hx hb dX10_readTrusts_17 rfl hl (by decide) rfl (fun ls hl => ?_)
    refine lv_iload_n hx hb dX10_readTrusts_18 rfl (lv_at hl 0 rfl) ?_
    refine lv_iconst (v := (-1)) hx hb dX10_readTrusts_19 (by decide) ?_
    refine lv_icmp_ne (tgt := 25) hx hb dX10_readTrusts_20 (by decide) (fun c44 => absurd (by decide) c44) (fun _ => ?_)
    refine lv_iconst (v := 0) hx hb dX10_readTrusts_23 (by decide) ?_
    have hP : va_P g.1 vwCl (List.flatten [bTT g tt ta o, bTown g o a pe wo tx ch jo tr dy sd f, bTape g ta ab sz ln kd bg nx bg fb]) H := hP
    have hD : va_D A (List.flatten [bTT g tt ta o, bTown g o a pe wo tx ch jo tr dy sd f, bTape g ta ab sz ln kd bg nx bg fb]) := hD
    obtain ⟨hP, hD⟩ := zord (g := g) (Bs' := [bTT g tt ta o, bTape g ta ab sz ln kd bg nx bg fb, bTown g o a pe wo tx ch jo tr dy sd f]) [0, 2, 1] rfl rfl hP hD
    exact mret_z hx hb hr hlocks hS (Nat.le_of_ble_eq_true rfl) (Nat.le_of_ble_eq_true rfl) dX10_readTrusts_24 (kd, bg, nx, bg, f, (0 : Int32)) rfl (by decide) (show (zZ4 f) ∧ (-1 ≤ bg.toInt) ∧ (0 ≤ nx.toInt ∧ nx.toInt ≤ 400) ∧ (0 ≤ bg.toInt ∧ bg.toInt ≤ 400) ∧ (zKd kd.toInt bg.toInt nx.toInt) ∧ (zTk fb ln.toInt kd.toInt bg.toInt nx.toInt) ∧ (0 = 1 ∧ zTO (zKtr fb ln.toInt pe.toInt bg.toInt) bg.toInt pe.toInt pe.toInt wo.toInt wo.toInt ∧ (-1) = bg ∨ 0 = 0 ∧ zKtr fb ln.toInt pe.toInt bg.toInt (.bad bg.toInt)) from ⟨(by first | assumption | omega | exact Or.inl (by decide) | exact Or.inr (by omega) | decide), (by first | assumption | omega | exact Or.inl (by decide) | exact Or.inr (by omega) | decide), (by first | assumption | omega | exact Or.inl (by decide) | exact Or.inr (by omega) | decide), (by first | assumption | omega | exact Or.inl (by decide) | exact Or.inr (by omega) | decide), (by first | assumption | omega | exact Or.inl (by decide) | exact Or.inr (by omega) | decide), (by first | assumption | omega | exact Or.inl (by decide) | exact Or.inr (by omega) | decide), (Or.inr ⟨rfl, zNN_n (by decide) (by omega) rfl hq7_k⟩)⟩) hP hD
set_option maxRecDepth 100000 in
set_option maxHeartbeats 4000000 in
theorem c_tt_readSharesF (l : Launch) (g : zG) (tt : Nat) (ta : Nat) (o : Nat) (ab : Nat) (sz : Int32) (ln : Int32) (kd : Int32) (bg : Int32) (nx : Int32) (fb : Nat → Int32) (a : Nat → Nat) (pe : Int32) (wo : Int32) (tx : Int32) (ch : Int32) (jo : Int32) (tr : Int32) (dy : Int32) (sd : Int32) (f : Nat → Nat → Int32) (b_pe : 0 ≤ pe.toInt ∧ pe.toInt ≤ 8) (b_wo : 0 ≤ wo.toInt ∧ wo.toInt ≤ 6) (rf : zZ4 f) (hln : 0 ≤ ln.toInt ∧ ln.toInt ≤ 400) (hnx : 0 ≤ nx.toInt ∧ nx.toInt ≤ 400) (hbg : 0 ≤ bg.toInt ∧ bg.toInt ≤ 400) (hkd : zKd kd.toInt bg.toInt nx.toInt) (hTk : zTk fb ln.toInt kd.toInt bg.toInt nx.toInt) : zM' g l yX10_readShares (Cond.code yX10_readShares cX10_readShares 3 (some .boolean) :: zB) ({ frames := 2, cells := 0, slots := 0, locals := 45 } : Room) [.ref tt] [bTT g tt ta o, bTape g ta ab sz ln kd bg nx (-1) fb, bTown g o a pe wo tx ch jo tr dy sd f] (fun u : Int32 × Int32 × Int32 × Int32 × (Nat → Nat → Int32) × Int32 => (fun (kd2 : Int32) (bg2 : Int32) (nx2 : Int32) (ft2 : Int32) (f2 : Nat → Nat → Int32) (q : Int32) => some (.int q)) (u.1) (u.2.1) (u.2.2.1) (u.2.2.2.1) (u.2.2.2.2.1) (u.2.2.2.2.2)) (fun u : Int32 × Int32 × Int32 × Int32 × (Nat → Nat → Int32) × Int32 => (fun (kd2 : Int32) (bg2 : Int32) (nx2 : Int32) (ft2 : Int32) (f2 : Nat → Nat → Int32) (q : Int32) => (zZ4 f2) ∧ (-1 ≤ ft2.toInt) ∧ (0 ≤ nx2.toInt ∧ nx2.toInt ≤ 400) ∧ (0 ≤ bg2.toInt ∧ bg2.toInt ≤ 400) ∧ (zKd kd2.toInt bg2.toInt nx2.toInt) ∧ (zTk fb ln.toInt kd2.toInt bg2.toInt nx2.toInt) ∧ (q = 1 ∧ zTO (zKsh fb ln.toInt pe.toInt bg.toInt) bg2.toInt pe.toInt pe.toInt wo.toInt wo.toInt ∧ (-1) = ft2 ∨ q = 0 ∧ zKsh fb ln.toInt pe.toInt bg.toInt (.bad ft2.toInt))) (u.1) (u.2.1) (u.2.2.1) (u.2.2.2.1) (u.2.2.2.2.1) (u.2.2.2.2.2)) (fun u : Int32 × Int32 × Int32 × Int32 × (Nat → Nat → Int32) × Int32 => (fun (kd2 : Int32) (bg2 : Int32) (nx2 : Int32) (ft2 : Int32) (f2 : Nat → Nat → Int32) (q : Int32) => [bTT g tt ta o, bTape g ta ab sz ln kd2 bg2 nx2 ft2 fb, bTown g o a pe wo tx ch jo tr dy sd f2]) (u.1) (u.2.1) (u.2.2.1) (u.2.2.2.1) (u.2.2.2.2.1) (u.2.2.2.2.2)) := by
  refine zM'.of (cc := cX10_readShares) (maxL := 3) (rt := (some .boolean)) (by decide) rfl (Nat.le_of_ble_eq_true rfl) ?_
  intro p e s m args below meth c A ls St hr hlocks hin hK hT hA hP hD hS hl
  obtain ⟨hx, hb, hml, hown, hts⟩ := id St
  have hl : lv_has ls 3 [(0, .ref tt)] := hl
  refine lv_aload_n hx hb dX10_readShares_0 rfl (lv_at hl 0 rfl) ?_
  refine va_get (D := g.1) (ci := 8) (v := .ref ta) (C := RX10) (T := TX10) (N := 2) hx hb hts izRX10 hown hK hP 0 rfl rfl 0 (by decide) (hts _ k441) (fun x9 h9 => u_same (hts _ k442) x9 h9) rfl dX10_readShares_1 ?_
  refine lv_iconst (v := 0) hx hb dX10_readShares_4 (by decide) ?_
  refine lv_aload_n hx hb dX10_readShares_5 rfl (lv_at hl 0 rfl) ?_
  refine va_get (D := g.1) (ci := 8) (v := .ref o) (C := RX10) (T := TX10) (N := 2) hx hb hts izRX10 hown hK hP 0 rfl rfl 1 (by decide) (hts _ k439) (fun _ h9 => h9) rfl dX10_readShares_6 ?_
  refine va_get (D := g.1) (ci := 7) (v := .int pe) (C := RX9) (T := TX9) (N := 19) hx hb hts izRX9 hown hK hP 3 rfl rfl 0 (by decide) (hts _ k440) (fun _ h9 => h9) rfl dX10_readShares_9 ?_
  refine lv_iconst (v := 1) hx hb dX10_readShares_12 (by decide) ?_
  refine lv_isub hx hb dX10_readShares_13 ?_
  refine zg3 (zsubK (i := pe.toInt) (j := 1) (a' := (-1)) (b' := 7) rfl (by decide) b_pe.1 b_pe.2 (Int.le_refl _) (Int.le_refl _) (by decide)) (fun x_1 hx_1 => ?_)
  have hL0 : (0 : Int32).toInt = 0 := by decide
  refine mcallV' (g := g) (q0 := 0) (ci := 6) (As := [.int 0, .int x_1]) (rest := []) St hK hT hA hP hD hS hl.1 [1] [0, 2] rfl rfl rfl (c_t_numberF l g ta ab sz ln kd bg nx fb 0 x_1 hln hnx hbg hkd hTk) (cwV 2 hts (zgL (zl4 k445 k294 k295 k277) k273) rfl rfl rfl (by decide +kernel) ⟨Nat.le_of_ble_eq_true rfl, Nat.le_of_ble_eq_true rfl⟩) rfl rfl rfl rfl (Nat.le_of_ble_eq_true rfl) dX10_readShares_14 ⟨(Nat.le_of_ble_eq_true rfl), (Nat.le_of_ble_eq_true rfl)⟩ (fun u_ H locs hq7 hP hD hS => ?_)
  obtain ⟨kd2_2, bg2_3, nx2_4, ft2_5, q_6⟩ := u_
  replace hq7 : (-1 ≤ ft2_5.toInt) ∧ (0 ≤ nx2_4.toInt ∧ nx2_4.toInt ≤ 400) ∧ (0 ≤ bg2_3.toInt ∧ bg2_3.toInt ≤ 400) ∧ (zKd kd2_2.toInt bg2_3.toInt nx2_4.toInt) ∧ (zTk fb ln.toInt kd2_2.toInt bg2_3.toInt nx2_4.toInt) ∧ (zNu fb ln.toInt bg.toInt (0 : Int32).toInt x_1.toInt q_6 ∧ zMv fb ln.toInt bg.toInt bg2_3.toInt ∧ (-1) = ft2_5 ∨ q_6 = -1 ∧ (¬ ∃ v9, zNu fb ln.toInt bg.toInt (0 : Int32).toInt x_1.toInt v9) ∧ bg = ft2_5 ∧ kd = kd2_2 ∧ bg = bg2_3 ∧ nx = nx2_4) := hq7
  have hP : va_P g.1 vwCl (List.flatten [bTT g tt ta o, bTown g o a pe wo tx ch jo tr dy sd f, bTape g ta ab sz ln kd2_2 bg2_3 nx2_4 ft2_5 fb]) H := hP
  have hD : va_D A (List.flatten [bTT g tt ta o, bTown g o a pe wo tx ch jo tr dy sd f, bTape g ta ab sz ln kd2_2 bg2_3 nx2_4 ft2_5 fb]) := hD
  refine W.widen (k := 0) (n := 0) (Nat.le_of_ble_eq_true rfl) (Nat.le_of_ble_eq_true rfl) ?_
  refine W.eq (g2 := F0 m 17 ls [.int q_6]) rfl ?_
  obtain ⟨hq7_0, hq7_1, hq7_2, hq7_3, hq7_4, hq7_5⟩ := hq7
  rcases hq7_5 with ⟨hq7_k, hq7_km, rfl⟩ | ⟨rfl, hq7_k, rfl, rfl, rfl, rfl⟩
  · skip
    have w8 : 0 ≤ q_6.toInt ∧ q_6.toInt ≤ 7 := ⟨(by have h9 := hq7_k.2.2.1; omega), (by have h9 := hq7_k.2.2.2; omega)⟩
    refine lv_istore_n (lv' := [(1, .int q_6), (0, .ref tt)]) hx hb dX10_readShares_17 rfl hl (by decide) rfl (fun ls hl => ?_)
    refine lv_iload_n hx hb dX10_readShares_18 rfl (lv_at hl 0 rfl) ?_
    refine lv_iconst (v := (-1)) hx hb dX10_readShares_19 (by decide) ?_
    refine lv_icmp_ne (tgt := 25) hx hb dX10_readShares_20 (by decide) (fun cb9 => ?_) (fun cb9 => ?_)
    · skip
      have c9 : ¬ q_6.toInt = (-1) := zne cb9 rfl (by decide)
      refine lv_aload_n hx hb dX10_readShares_25 rfl (lv_at hl 1 rfl) ?_
      refine va_get (D := g.1) (ci := 8) (v := .ref ta) (C := RX10) (T := TX10) (N := 2) hx hb hts izRX10 hown hK hP 0 rfl rfl 0 (by decide) (hts _ k441) (fun x9 h9 => u_same (hts _ k442) x9 h9) rfl dX10_readShares_26 ?_
      refine lv_iconst (v := 0) hx hb dX10_readShares_29 (by decide) ?_
      refine lv_bipush (v := 99) hx hb dX10_readShares_30 (by decide) ?_
      have hL99 : (99 : Int32).toInt = 99 := by decide
      refine mcallV' (g := g) (q0 := 0) (ci := 6) (As := [.int 0, .int 99]) (rest := []) St hK hT hA hP hD hS hl.1 [2] [0, 1] rfl rfl rfl (c_t_numberF l g ta ab sz ln kd2_2 bg2_3 nx2_4 fb 0 99 hln hq7_1 hq7_2 hq7_3 hq7_4) (cwV 2 hts (zgL (zl4 k445 k294 k295 k277) k273) rfl rfl rfl (by decide +kernel) ⟨Nat.le_of_ble_eq_true rfl, Nat.le_of_ble_eq_true rfl⟩) rfl rfl rfl rfl (Nat.le_of_ble_eq_true rfl) dX10_readShares_32 ⟨(Nat.le_of_ble_eq_true rfl), (Nat.le_of_ble_eq_true rfl)⟩ (fun u_ H locs hq15 hP hD hS => ?_)
      obtain ⟨kd2_10, bg2_11, nx2_12, ft2_13, q_14⟩ := u_
      replace hq15 : (-1 ≤ ft2_13.toInt) ∧ (0 ≤ nx2_12.toInt ∧ nx2_12.toInt ≤ 400) ∧ (0 ≤ bg2_11.toInt ∧ bg2_11.toInt ≤ 400) ∧ (zKd kd2_10.toInt bg2_11.toInt nx2_12.toInt) ∧ (zTk fb ln.toInt kd2_10.toInt bg2_11.toInt nx2_12.toInt) ∧ (zNu fb ln.toInt bg2_3.toInt (0 : Int32).toInt (99 : Int32).toInt q_14 ∧ zMv fb ln.toInt bg2_3.toInt bg2_11.toInt ∧ (-1) = ft2_13 ∨ q_14 = -1 ∧ (¬ ∃ v9, zNu fb ln.toInt bg2_3.toInt (0 : Int32).toInt (99 : Int32).toInt v9) ∧ bg2_3 = ft2_13 ∧ kd2_2 = kd2_10 ∧ bg2_3 = bg2_11 ∧ nx2_4 = nx2_12) := hq15
      have hP : va_P g.1 vwCl (List.flatten [bTT g tt ta o, bTown g o a pe wo tx ch jo tr dy sd f, bTape g ta ab sz ln kd2_10 bg2_11 nx2_12 ft2_13 fb]) H := hP
      have hD : va_D A (List.flatten [bTT g tt ta o, bTown g o a pe wo tx ch jo tr dy sd f, bTape g ta ab sz ln kd2_10 bg2_11 nx2_12 ft2_13 fb]) := hD
      refine W.widen (k := 0) (n := 0) (Nat.le_of_ble_eq_true rfl) (Nat.le_of_ble_eq_true rfl) ?_
      refine W.eq (g2 := F0 m 35 ls [.int q_14]) rfl ?_
      obtain ⟨hq15_0, hq15_1, hq15_2, hq15_3, hq15_4, hq15_5⟩ := hq15
      rcases hq15_5 with ⟨hq15_k, hq15_km, rfl⟩ | ⟨rfl, hq15_k, rfl, rfl, rfl, rfl⟩
      · skip
        have w16 : 0 ≤ q_14.toInt ∧ q_14.toInt ≤ 99 := ⟨(by have h9 := hq15_k.2.2.1; omega), (by have h9 := hq15_k.2.2.2; omega)⟩
        refine lv_istore_n (lv' := [(2, .int q_14), (1, .int q_6), (0, .ref tt)]) hx hb dX10_readShares_35 rfl hl (by decide) rfl (fun ls hl => ?_)
        refine lv_iload_n hx hb dX10_readShares_36 rfl (lv_at hl 0 rfl) ?_
        refine lv_iconst (v := (-1)) hx hb dX10_readShares_37 (by decide) ?_
        refine lv_icmp_ne (tgt := 43) hx hb dX10_readShares_38 (by decide) (fun cb9 => ?_) (fun cb9 => ?_)
        · skip
          have c17 : ¬ q_14.toInt = (-1) := zne cb9 rfl (by decide)
          refine lv_aload_n hx hb dX10_readShares_43 rfl (lv_at hl 2 rfl) ?_
          refine va_get (D := g.1) (ci := 8) (v := .ref o) (C := RX10) (T := TX10) (N := 2) hx hb hts izRX10 hown hK hP 0 rfl rfl 1 (by decide) (hts _ k439) (fun _ h9 => h9) rfl dX10_readShares_44 ?_
          refine va_get (D := g.1) (ci := 7) (v := .ref (a 2)) (C := RX9) (T := TX9) (N := 19) hx hb hts izRX9 hown hK hP 1 rfl rfl 10 (by decide) (hts _ k467) (fun _ h9 => h9) rfl dX10_readShares_47 ?_
          refine lv_iload_n hx hb dX10_readShares_50 rfl (lv_at hl 1 rfl) ?_
          refine lv_iload_n hx hb dX10_readShares_51 rfl (lv_at hl 0 rfl) ?_
          refine va_iast hx hb hK hP hD hS 4 0 rfl rfl (zinK (a := 0) (b := 7) w8.1 w8.2 (by decide)) dX10_readShares_52 (fun H locs hP hD hS => ?_)
          obtain ⟨f18, rf18, hP, hD⟩ : ∃ f18 : Nat → Nat → Int32, zZ4 f18 ∧ va_P g.1 vwCl (List.flatten [bTT g tt ta o, bTown g o a pe wo tx ch jo tr dy sd f18, bTape g ta ab sz ln kd2_10 bg2_11 nx2_12 (-1) fb]) H ∧ va_D A (List.flatten [bTT g tt ta o, bTown g o a pe wo tx ch jo tr dy sd f18, bTape g ta ab sz ln kd2_10 bg2_11 nx2_12 (-1) fb]) := ⟨zu f 2 (upd (f 2) q_6.toNatClampNeg q_14), (zZ4_u rf (by decide)), hP, hD⟩
          refine lv_iconst (v := 1) hx hb dX10_readShares_53 (by decide) ?_
          have hP : va_P g.1 vwCl (List.flatten [bTT g tt ta o, bTown g o a pe wo tx ch jo tr dy sd f18, bTape g ta ab sz ln kd2_10 bg2_11 nx2_12 (-1) fb]) H := hP
          have hD : va_D A (List.flatten [bTT g tt ta o, bTown g o a pe wo tx ch jo tr dy sd f18, bTape g ta ab sz ln kd2_10 bg2_11 nx2_12 (-1) fb]) := hD
          obtain ⟨hP, hD⟩ := zord (g := g) (Bs' := [bTT g tt ta o, bTape g ta ab sz ln kd2_10 bg2_11 nx2_12 (-1) fb, bTown g o a pe wo tx ch jo tr dy sd f18]) [0, 2, 1] rfl rfl hP hD
          exact mret_z hx hb hr hlocks hS (Nat.le_of_ble_eq_true rfl) (Nat.le_of_ble_eq_true rfl) dX10_readShares_54 (kd2_10, bg2_11, nx2_12, -1, f18, (1 : Int32)) rfl (by decide) (show (zZ4 f18) ∧ (-1 ≤ ((-1) : Int32).toInt) ∧ (0 ≤ nx2_12.toInt ∧ nx2_12.toInt ≤ 400) ∧ (0 ≤ bg2_11.toInt ∧ bg2_11.toInt ≤ 400) ∧ (zKd kd2_10.toInt bg2_11.toInt nx2_12.toInt) ∧ (zTk fb ln.toInt kd2_10.toInt bg2_11.toInt nx2_12.toInt) ∧ (1 = 1 ∧ zTO (zKsh fb ln.toInt pe.toInt bg.toInt) bg2_11.toInt pe.toInt pe.toInt wo.toInt wo.toInt ∧ (-1) = (-1) ∨ 1 = 0 ∧ zKsh fb ln.toInt pe.toInt bg.toInt (.bad ((-1) : Int32).toInt)) from ⟨(by first | assumption | omega | exact Or.inl (by decide) | exact Or.inr (by omega) | decide), (by first | assumption | omega | exact Or.inl (by decide) | exact Or.inr (by omega) | decide), (by first | assumption | omega | exact Or.inl (by decide) | exact Or.inr (by omega) | decide), (by first | assumption | omega | exact Or.inl (by decide) | exact Or.inr (by omega) | decide), (by first | assumption | omega | exact Or.inl (by decide) | exact Or.inr (by omega) | decide), (by first | assumption | omega | exact Or.inl (by decide) | exact Or.inr (by omega) | decide), (Or.inl ⟨rfl, ⟨(3, q_6.toInt, q_14.toInt, 0), zNN_y (by decide) (by omega) hq7_k hq7_km (zNN_y (by decide) (by decide) hq15_k hq15_km rfl), zcp_n (by decide) rfl, zcw_n (by decide) rfl⟩, rfl⟩)⟩) hP hD
        · skip
          exact absurd (show q_14.toInt = (-1) from zeq cb9 rfl (by decide)) (zDeq2 (a := 0) (b := (-1)) w16.1 (Int.le_refl _) (by decide))
      · skip
        refine lv_istore_n (lv' := [(2, .int (-1)), (1, .int q_6), (0, .ref tt)]) hx hb dX10_readShares_35 rfl hl (by decide) rfl (fun ls hl => ?_)
        refine lv_iload_n hx hb dX10_readShares_36 rfl (lv_at hl 0 rfl) ?_
        refine lv_iconst (v := (-1)) hx hb dX10_readShares_37 (by decide) ?_
        refine lv_icmp_ne (tgt := 43) hx hb dX10_readShares_38 (by decide) (fun c20 => absurd (by decide) c20) (fun _ => ?_)
        refine lv_iconst (v := 0) hx hb dX10_readShares_41 (by decide) ?_
        have hP : va_P g.1 vwCl (List.flatten [bTT g tt ta o, bTown g o a pe wo tx ch jo tr dy sd f, bTape g ta ab sz ln kd2_2 bg2_3 nx2_4 bg2_3 fb]) H := hP
        have hD : va_D A (List.flatten [bTT g tt ta o, bTown g o a pe wo tx ch jo tr dy sd f, bTape g ta ab sz ln kd2_2 bg2_3 nx2_4 bg2_3 fb]) := hD
        obtain ⟨hP, hD⟩ := zord (g := g) (Bs' := [bTT g tt ta o, bTape g ta ab sz ln kd2_2 bg2_3 nx2_4 bg2_3 fb, bTown g o a pe wo tx ch jo tr dy sd f]) [0, 2, 1] rfl rfl hP hD
        exact mret_z hx hb hr hlocks hS (Nat.le_of_ble_eq_true rfl) (Nat.le_of_ble_eq_true rfl) dX10_readShares_42 (kd2_2, bg2_3, nx2_4, bg2_3, f, (0 : Int32)) rfl (by decide) (show (zZ4 f) ∧ (-1 ≤ bg2_3.toInt) ∧ (0 ≤ nx2_4.toInt ∧ nx2_4.toInt ≤ 400) ∧ (0 ≤ bg2_3.toInt ∧ bg2_3.toInt ≤ 400) ∧ (zKd kd2_2.toInt bg2_3.toInt nx2_4.toInt) ∧ (zTk fb ln.toInt kd2_2.toInt bg2_3.toInt nx2_4.toInt) ∧ (0 = 1 ∧ zTO (zKsh fb ln.toInt pe.toInt bg.toInt) bg2_3.toInt pe.toInt pe.toInt wo.toInt wo.toInt ∧ (-1) = bg2_3 ∨ 0 = 0 ∧ zKsh fb ln.toInt pe.toInt bg.toInt (.bad bg2_3.toInt)) from ⟨(by first | assumption | omega | exact Or.inl (by decide) | exact Or.inr (by omega) | decide), (by first | assumption | omega | exact Or.inl (by decide) | exact Or.inr (by omega) | decide), (by first | assumption | omega | exact Or.inl (by decide) | exact Or.inr (by omega) | decide), (by first | assumption | omega | exact Or.inl (by decide) | exact Or.inr (by omega) | decide), (by first | assumption | omega | exact Or.inl (by decide) | exact Or.inr (by omega) | decide), (by first | assumption | omega | exact Or.inl (by decide) | exact Or.inr (by omega) | decide), (Or.inr ⟨rfl, zNN_y (by decide) (by omega) hq7_k hq7_km (zNN_n (by decide) (by decide) rfl hq15_k)⟩)⟩) hP hD
    · skip
      exact absurd (show q_6.toInt = (-1) from zeq cb9 rfl (by decide)) (zDeq2 (a := 0) (b := (-1)) w8.1 (Int.le_refl _) (by decide))
  · skip
    refine lv_istore_n (lv' := [(1, .int (-1)), (0, .ref tt)]) hx hb dX10_readShares_17 rfl hl (by decide) rfl (fun ls hl => ?_)
    refine lv_iload_n hx hb dX10_readShares_18 rfl (lv_at hl 0 rfl) ?_
    refine lv_iconst (v := (-1)) hx hb dX10_readShares_19 (by decide) ?_
    refine lv_icmp_ne (tgt := 25) hx hb dX10_readShares_20 (by decide) (fun c22 => absurd (by decide) c22) (fun _ => ?_)
    refine lv_iconst (v := 0) hx hb dX10_readShares_23 (by decide) ?_
    have hP : va_P g.1 vwCl (List.flatten [bTT g tt ta o, bTown g o a pe wo tx ch jo tr dy sd f, bTape g ta ab sz ln kd bg nx bg fb]) H := hP
    have hD : va_D A (List.flatten [bTT g tt ta o, bTown g o a pe wo tx ch jo tr dy sd f, bTape g ta ab sz ln kd bg nx bg fb]) := hD
    obtain ⟨hP, hD⟩ := zord (g := g) (Bs' := [bTT g tt ta o, bTape g ta ab sz ln kd bg nx bg fb, bTown g o a pe wo tx ch jo tr dy sd f]) [0, 2, 1] rfl rfl hP hD
    exact mret_z hx hb hr hlocks hS (Nat.le_of_ble_eq_true rfl) (Nat.le_of_ble_eq_true rfl) dX10_readShares_24 (kd, bg, nx, bg, f, (0 : Int32)) rfl (by decide) (show (zZ4 f) ∧ (-1 ≤ bg.toInt) ∧ (0 ≤ nx.toInt ∧ nx.toInt ≤ 400) ∧ (0 ≤ bg.toInt ∧ bg.toInt ≤ 400) ∧ (zKd kd.toInt bg.toInt nx.toInt) ∧ (zTk fb ln.toInt kd.toInt bg.toInt nx.toInt) ∧ (0 = 1 ∧ zTO (zKsh fb ln.toInt pe.toInt bg.toInt) bg.toInt pe.toInt pe.toInt wo.toInt wo.toInt ∧ (-1) = bg ∨ 0 = 0 ∧ zKsh fb ln.toInt pe.toInt bg.toInt (.bad bg.toInt)) from ⟨(by first | assumption | omega | exact Or.inl (by decide) | exact Or.inr (by omega) | decide), (by first | assumption | omega | exact Or.inl (by decide) | exact Or.inr (by omega) | decide), (by first | assumption | omega | exact Or.inl (by decide) | exact Or.inr (by omega) | decide), (by first | assumption | omega | exact Or.inl (by decide) | exact Or.inr (by omega) | decide), (by first | assumption | omega | exact Or.inl (by decide) | exact Or.inr (by omega) | decide), (by first | assumption | omega | exact Or.inl (by decide) | exact Or.inr (by omega) | decide), (Or.inr ⟨rfl, zNN_n (by decide) (by omega) rfl hq7_k⟩)⟩) hP hD
set_option maxRecDepth 100000 in
set_option maxHeartbeats 16000000 in
theorem c_tt_readLineF (l : Launch) (g : zG) (tt : Nat) (ta : Nat) (o : Nat) (ab : Nat) (sz : Int32) (ln : Int32) (kd : Int32) (bg : Int32) (nx : Int32) (fb : Nat → Int32) (a : Nat → Nat) (pe : Int32) (wo : Int32) (tx : Int32) (ch : Int32) (jo : Int32) (tr : Int32) (dy : Int32) (sd : Int32) (f : Nat → Nat → Int32) (b_pe : 0 ≤ pe.toInt ∧ pe.toInt ≤ 8) (b_wo : 0 ≤ wo.toInt ∧ wo.toInt ≤ 6) (rf : zZ4 f) (hln : 0 ≤ ln.toInt ∧ ln.toInt ≤ 400) (hnx : 0 ≤ nx.toInt ∧ nx.toInt ≤ 400) (hbg : 0 ≤ bg.toInt ∧ bg.toInt ≤ 400) (hkd : zKd kd.toInt bg.toInt nx.toInt) (hTk : zTk fb ln.toInt kd.toInt bg.toInt nx.toInt) : zM' g l yX10_readLine (Cond.code yX10_readLine cX10_readLine 2 (some .boolean) :: zB) ({ frames := 8, cells := 0, slots := 0, locals := 172 } : Room) [.ref tt] [bTT g tt ta o, bTape g ta ab sz ln kd bg nx (-1) fb, bTown g o a pe wo tx ch jo tr dy sd f] (fun u : Int32 × Int32 × Int32 × Int32 × Int32 × Int32 × Int32 × Int32 × Int32 × Int32 × (Nat → Nat → Int32) × Int32 => (fun (kd2 : Int32) (bg2 : Int32) (nx2 : Int32) (ft2 : Int32) (pe2 : Int32) (wo2 : Int32) (ch2 : Int32) (jo2 : Int32) (tr2 : Int32) (dy2 : Int32) (f2 : Nat → Nat → Int32) (q : Int32) => some (.int q)) (u.1) (u.2.1) (u.2.2.1) (u.2.2.2.1) (u.2.2.2.2.1) (u.2.2.2.2.2.1) (u.2.2.2.2.2.2.1) (u.2.2.2.2.2.2.2.1) (u.2.2.2.2.2.2.2.2.1) (u.2.2.2.2.2.2.2.2.2.1) (u.2.2.2.2.2.2.2.2.2.2.1) (u.2.2.2.2.2.2.2.2.2.2.2)) (fun u : Int32 × Int32 × Int32 × Int32 × Int32 × Int32 × Int32 × Int32 × Int32 × Int32 × (Nat → Nat → Int32) × Int32 => (fun (kd2 : Int32) (bg2 : Int32) (nx2 : Int32) (ft2 : Int32) (pe2 : Int32) (wo2 : Int32) (ch2 : Int32) (jo2 : Int32) (tr2 : Int32) (dy2 : Int32) (f2 : Nat → Nat → Int32) (q : Int32) => (0 ≤ pe2.toInt ∧ pe2.toInt ≤ 8) ∧ (0 ≤ wo2.toInt ∧ wo2.toInt ≤ 6) ∧ (zZ4 f2) ∧ (-1 ≤ ft2.toInt) ∧ (0 ≤ nx2.toInt ∧ nx2.toInt ≤ 400) ∧ (0 ≤ bg2.toInt ∧ bg2.toInt ≤ 400) ∧ (zKd kd2.toInt bg2.toInt nx2.toInt) ∧ (zTk fb ln.toInt kd2.toInt bg2.toInt nx2.toInt) ∧ (q = 1 ∧ zTO (zTLine fb ln.toInt pe.toInt wo.toInt bg.toInt) bg2.toInt pe.toInt pe2.toInt wo.toInt wo2.toInt ∧ (-1) = ft2 ∨ q = 0 ∧ zTLine fb ln.toInt pe.toInt wo.toInt bg.toInt (.bad ft2.toInt))) (u.1) (u.2.1) (u.2.2.1) (u.2.2.2.1) (u.2.2.2.2.1) (u.2.2.2.2.2.1) (u.2.2.2.2.2.2.1) (u.2.2.2.2.2.2.2.1) (u.2.2.2.2.2.2.2.2.1) (u.2.2.2.2.2.2.2.2.2.1) (u.2.2.2.2.2.2.2.2.2.2.1) (u.2.2.2.2.2.2.2.2.2.2.2)) (fun u : Int32 × Int32 × Int32 × Int32 × Int32 × Int32 × Int32 × Int32 × Int32 × Int32 × (Nat → Nat → Int32) × Int32 => (fun (kd2 : Int32) (bg2 : Int32) (nx2 : Int32) (ft2 : Int32) (pe2 : Int32) (wo2 : Int32) (ch2 : Int32) (jo2 : Int32) (tr2 : Int32) (dy2 : Int32) (f2 : Nat → Nat → Int32) (q : Int32) => [bTT g tt ta o, bTape g ta ab sz ln kd2 bg2 nx2 ft2 fb, bTown g o a pe2 wo2 tx ch2 jo2 tr2 dy2 sd f2]) (u.1) (u.2.1) (u.2.2.1) (u.2.2.2.1) (u.2.2.2.2.1) (u.2.2.2.2.2.1) (u.2.2.2.2.2.2.1) (u.2.2.2.2.2.2.2.1) (u.2.2.2.2.2.2.2.2.1) (u.2.2.2.2.2.2.2.2.2.1) (u.2.2.2.2.2.2.2.2.2.2.1) (u.2.2.2.2.2.2.2.2.2.2.2)) := by
  refine zM'.of (cc := cX10_readLine) (maxL := 2) (rt := (some .boolean)) (by decide) rfl (Nat.le_of_ble_eq_true rfl) ?_
  intro p e s m args below meth c A ls St hr hlocks hin hK hT hA hP hD hS hl
  obtain ⟨hx, hb, hml, hown, hts⟩ := id St
  have hl : lv_has ls 2 [(0, .ref tt)] := hl
  refine lv_aload_n hx hb dX10_readLine_0 rfl (lv_at hl 0 rfl) ?_
  refine va_get (D := g.1) (ci := 8) (v := .ref ta) (C := RX10) (T := TX10) (N := 2) hx hb hts izRX10 hown hK hP 0 rfl rfl 0 (by decide) (hts _ k441) (fun x9 h9 => u_same (hts _ k442) x9 h9) rfl dX10_readLine_1 ?_
  refine va_ldcS (q := g.2 38) hx hb hown (zra14 hT.2.1) dX10_readLine_4 ?_
  refine mcallV' (g := g) (q0 := 0) (ci := 6) (As := [.ref (g.2 38)]) (rest := []) St hK hT hA hP hD hS hl.1 [1] [0, 2] rfl rfl rfl (c_t_isWordF l g ta ab sz ln kd bg nx (-1) fb (g.2 38) 14 zqa14 hln hnx hbg hkd hTk rfl zla14 zna14 (zlitB zla14)) (cwV 1 hts (zgL (zl4 k472 k282 k283 k277) k268) rfl rfl rfl (by decide +kernel) ⟨Nat.le_of_ble_eq_true rfl, Nat.le_of_ble_eq_true rfl⟩) rfl rfl rfl rfl (Nat.le_of_ble_eq_true rfl) dX10_readLine_6 ⟨(Nat.le_of_ble_eq_true rfl), (Nat.le_of_ble_eq_true rfl)⟩ (fun r_1 H locs hq2 hP hD hS => ?_)
  replace hq2 : (r_1 = 1 ∧ zisW fb ln.toInt bg.toInt zqa14.2.2.2 ∨ r_1 = 0 ∧ ¬ zisW fb ln.toInt bg.toInt zqa14.2.2.2) := hq2
  have hP : va_P g.1 vwCl (List.flatten [bTT g tt ta o, bTown g o a pe wo tx ch jo tr dy sd f, bTape g ta ab sz ln kd bg nx (-1) fb]) H := hP
  have hD : va_D A (List.flatten [bTT g tt ta o, bTown g o a pe wo tx ch jo tr dy sd f, bTape g ta ab sz ln kd bg nx (-1) fb]) := hD
  refine W.widen (k := 0) (n := 0) (Nat.le_of_ble_eq_true rfl) (Nat.le_of_ble_eq_true rfl) ?_
  refine W.eq (g2 := F0 m 9 ls [.int r_1]) rfl ?_
  rcases hq2 with ⟨rfl, hq2_k⟩ | ⟨rfl, hq2_k⟩
  · skip
    refine lv_if_eq (tgt := 17) hx hb dX10_readLine_9 (by decide) (fun c3 => absurd c3 (by decide)) (fun _ => ?_)
    refine lv_aload_n hx hb dX10_readLine_12 rfl (lv_at hl 0 rfl) ?_
    refine mcallV' (g := g) (q0 := 0) (ci := 8) (As := []) (rest := []) St hK hT hA hP hD hS hl.1 [0, 2, 1] [] rfl rfl rfl (c_tt_readPersonF l g tt ta o ab sz ln kd bg nx fb a pe wo tx ch jo tr dy sd f b_pe b_wo rf hln hnx hbg hkd hTk) (cwV 0 hts (zgL (zl4 k473 k474 k475 k476) k453) rfl rfl rfl (by decide +kernel) ⟨Nat.le_of_ble_eq_true rfl, Nat.le_of_ble_eq_true rfl⟩) rfl rfl rfl rfl (Nat.le_of_ble_eq_true rfl) dX10_readLine_13 ⟨(Nat.le_of_ble_eq_true rfl), (Nat.le_of_ble_eq_true rfl)⟩ (fun u_ H locs hq11 hP hD hS => ?_)
    obtain ⟨kd2_4, bg2_5, nx2_6, ft2_7, pe2_8, f2_9, q_10⟩ := u_
    replace hq11 : (0 ≤ pe2_8.toInt ∧ pe2_8.toInt ≤ 8) ∧ (zZ4 f2_9) ∧ (-1 ≤ ft2_7.toInt) ∧ (0 ≤ nx2_6.toInt ∧ nx2_6.toInt ≤ 400) ∧ (0 ≤ bg2_5.toInt ∧ bg2_5.toInt ≤ 400) ∧ (zKd kd2_4.toInt bg2_5.toInt nx2_6.toInt) ∧ (zTk fb ln.toInt kd2_4.toInt bg2_5.toInt nx2_6.toInt) ∧ (q_10 = 1 ∧ zTO (zTPerson fb ln.toInt pe.toInt bg.toInt) bg2_5.toInt pe.toInt pe2_8.toInt wo.toInt wo.toInt ∧ (-1) = ft2_7 ∨ q_10 = 0 ∧ zTPerson fb ln.toInt pe.toInt bg.toInt (.bad ft2_7.toInt)) := hq11
    have hP : va_P g.1 vwCl (List.flatten [bTT g tt ta o, bTape g ta ab sz ln kd2_4 bg2_5 nx2_6 ft2_7 fb, bTown g o a pe2_8 wo tx ch jo tr dy sd f2_9]) H := hP
    have hD : va_D A (List.flatten [bTT g tt ta o, bTape g ta ab sz ln kd2_4 bg2_5 nx2_6 ft2_7 fb, bTown g o a pe2_8 wo tx ch jo tr dy sd f2_9]) := hD
    refine W.widen (k := 0) (n := 0) (Nat.le_of_ble_eq_true rfl) (Nat.le_of_ble_eq_true rfl) ?_
    refine W.eq (g2 := F0 m 16 ls [.int q_10]) rfl ?_
    obtain ⟨hq11_0, rf2_9, hq11_2, hq11_3, hq11_4, hq11_5, hq11_6, hq11_7⟩ := hq11
    rcases hq11_7 with ⟨rfl, hq11_k, rfl⟩ | ⟨rfl, hq11_k⟩
    · skip
      have hP : va_P g.1 vwCl (List.flatten [bTT g tt ta o, bTape g ta ab sz ln kd2_4 bg2_5 nx2_6 (-1) fb, bTown g o a pe2_8 wo tx ch jo tr dy sd f2_9]) H := hP
      have hD : va_D A (List.flatten [bTT g tt ta o, bTape g ta ab sz ln kd2_4 bg2_5 nx2_6 (-1) fb, bTown g o a pe2_8 wo tx ch jo tr dy sd f2_9]) := hD
      exact mret_z hx hb hr hlocks hS (Nat.le_of_ble_eq_true rfl) (Nat.le_of_ble_eq_true rfl) dX10_readLine_16 (kd2_4, bg2_5, nx2_6, -1, pe2_8, wo, ch, jo, tr, dy, f2_9, (1 : Int32)) rfl (by decide) (show (0 ≤ pe2_8.toInt ∧ pe2_8.toInt ≤ 8) ∧ (0 ≤ wo.toInt ∧ wo.toInt ≤ 6) ∧ (zZ4 f2_9) ∧ (-1 ≤ ((-1) : Int32).toInt) ∧ (0 ≤ nx2_6.toInt ∧ nx2_6.toInt ≤ 400) ∧ (0 ≤ bg2_5.toInt ∧ bg2_5.toInt ≤ 400) ∧ (zKd kd2_4.toInt bg2_5.toInt nx2_6.toInt) ∧ (zTk fb ln.toInt kd2_4.toInt bg2_5.toInt nx2_6.toInt) ∧ (1 = 1 ∧ zTO (zTLine fb ln.toInt pe.toInt wo.toInt bg.toInt) bg2_5.toInt pe.toInt pe2_8.toInt wo.toInt wo.toInt ∧ (-1) = (-1) ∨ 1 = 0 ∧ zTLine fb ln.toInt pe.toInt wo.toInt bg.toInt (.bad ((-1) : Int32).toInt)) from ⟨(by first | assumption | omega | exact Or.inl (by decide) | exact Or.inr (by omega) | decide), (by first | assumption | omega | exact Or.inl (by decide) | exact Or.inr (by omega) | decide), (by first | assumption | omega | exact Or.inl (by decide) | exact Or.inr (by omega) | decide), (by first | assumption | omega | exact Or.inl (by decide) | exact Or.inr (by omega) | decide), (by first | assumption | omega | exact Or.inl (by decide) | exact Or.inr (by omega) | decide), (by first | assumption | omega | exact Or.inl (by decide) | exact Or.inr (by omega) | decide), (by first | assumption | omega | exact Or.inl (by decide) | exact Or.inr (by omega) | decide), (by first | assumption | omega | exact Or.inl (by decide) | exact Or.inr (by omega) | decide), (Or.inl ⟨rfl, zTO_i hq11_k (fun _ h9 => zTL_k (k := 0) (by decide) hq2_k h9), rfl⟩)⟩) hP hD
    · skip
      have hP : va_P g.1 vwCl (List.flatten [bTT g tt ta o, bTape g ta ab sz ln kd2_4 bg2_5 nx2_6 ft2_7 fb, bTown g o a pe2_8 wo tx ch jo tr dy sd f2_9]) H := hP
      have hD : va_D A (List.flatten [bTT g tt ta o, bTape g ta ab sz ln kd2_4 bg2_5 nx2_6 ft2_7 fb, bTown g o a pe2_8 wo tx ch jo tr dy sd f2_9]) := hD
      exact mret_z hx hb hr hlocks hS (Nat.le_of_ble_eq_true rfl) (Nat.le_of_ble_eq_true rfl) dX10_readLine_16 (kd2_4, bg2_5, nx2_6, ft2_7, pe2_8, wo, ch, jo, tr, dy, f2_9, (0 : Int32)) rfl (by decide) (show (0 ≤ pe2_8.toInt ∧ pe2_8.toInt ≤ 8) ∧ (0 ≤ wo.toInt ∧ wo.toInt ≤ 6) ∧ (zZ4 f2_9) ∧ (-1 ≤ ft2_7.toInt) ∧ (0 ≤ nx2_6.toInt ∧ nx2_6.toInt ≤ 400) ∧ (0 ≤ bg2_5.toInt ∧ bg2_5.toInt ≤ 400) ∧ (zKd kd2_4.toInt bg2_5.toInt nx2_6.toInt) ∧ (zTk fb ln.toInt kd2_4.toInt bg2_5.toInt nx2_6.toInt) ∧ (0 = 1 ∧ zTO (zTLine fb ln.toInt pe.toInt wo.toInt bg.toInt) bg2_5.toInt pe.toInt pe2_8.toInt wo.toInt wo.toInt ∧ (-1) = ft2_7 ∨ 0 = 0 ∧ zTLine fb ln.toInt pe.toInt wo.toInt bg.toInt (.bad ft2_7.toInt)) from ⟨(by first | assumption | omega | exact Or.inl (by decide) | exact Or.inr (by omega) | decide), (by first | assumption | omega | exact Or.inl (by decide) | exact Or.inr (by omega) | decide), (by first | assumption | omega | exact Or.inl (by decide) | exact Or.inr (by omega) | decide), (by first | assumption | omega | exact Or.inl (by decide) | exact Or.inr (by omega) | decide), (by first | assumption | omega | exact Or.inl (by decide) | exact Or.inr (by omega) | decide), (by first | assumption | omega | exact Or.inl (by decide) | exact Or.inr (by omega) | decide), (by first | assumption | omega | exact Or.inl (by decide) | exact Or.inr (by omega) | decide), (by first | assumption | omega | exact Or.inl (by decide) | exact Or.inr (by omega) | decide), (Or.inr ⟨rfl, zTL_k (k := 0) (by decide) hq2_k hq11_k⟩)⟩) hP hD
  · skip
    refine lv_if_eq (tgt := 17) hx hb dX10_readLine_9 (by decide) (fun _ => ?_) (fun c12 => absurd (by decide) c12)
    refine lv_aload_n hx hb dX10_readLine_17 rfl (lv_at hl 0 rfl) ?_
    refine va_get (D := g.1) (ci := 8) (v := .ref ta) (C := RX10) (T := TX10) (N := 2) hx hb hts izRX10 hown hK hP 0 rfl rfl 0 (by decide) (hts _ k441) (fun x9 h9 => u_same (hts _ k442) x9 h9) rfl dX10_readLine_18 ?_
    refine va_ldcS (q := g.2 40) hx hb hown (zra15 hT.2.1) dX10_readLine_21 ?_
    refine mcallV' (g := g) (q0 := 0) (ci := 6) (As := [.ref (g.2 40)]) (rest := []) St hK hT hA hP hD hS hl.1 [2] [0, 1] rfl rfl rfl (c_t_isWordF l g ta ab sz ln kd bg nx (-1) fb (g.2 40) 15 zqa15 hln hnx hbg hkd hTk rfl zla15 zna15 (zlitB zla15)) (cwV 1 hts (zgL (zl4 k472 k282 k283 k277) k268) rfl rfl rfl (by decide +kernel) ⟨Nat.le_of_ble_eq_true rfl, Nat.le_of_ble_eq_true rfl⟩) rfl rfl rfl rfl (Nat.le_of_ble_eq_true rfl) dX10_readLine_23 ⟨(Nat.le_of_ble_eq_true rfl), (Nat.le_of_ble_eq_true rfl)⟩ (fun r_13 H locs hq14 hP hD hS => ?_)
    replace hq14 : (r_13 = 1 ∧ zisW fb ln.toInt bg.toInt zqa15.2.2.2 ∨ r_13 = 0 ∧ ¬ zisW fb ln.toInt bg.toInt zqa15.2.2.2) := hq14
    have hP : va_P g.1 vwCl (List.flatten [bTT g tt ta o, bTown g o a pe wo tx ch jo tr dy sd f, bTape g ta ab sz ln kd bg nx (-1) fb]) H := hP
    have hD : va_D A (List.flatten [bTT g tt ta o, bTown g o a pe wo tx ch jo tr dy sd f, bTape g ta ab sz ln kd bg nx (-1) fb]) := hD
    refine W.widen (k := 0) (n := 0) (Nat.le_of_ble_eq_true rfl) (Nat.le_of_ble_eq_true rfl) ?_
    refine W.eq (g2 := F0 m 26 ls [.int r_13]) rfl ?_
    rcases hq14 with ⟨rfl, hq14_k⟩ | ⟨rfl, hq14_k⟩
    · skip
      refine lv_if_eq (tgt := 34) hx hb dX10_readLine_26 (by decide) (fun c15 => absurd c15 (by decide)) (fun _ => ?_)
      refine lv_aload_n hx hb dX10_readLine_29 rfl (lv_at hl 0 rfl) ?_
      refine mcallV' (g := g) (q0 := 0) (ci := 8) (As := []) (rest := []) St hK hT hA hP hD hS hl.1 [0, 2, 1] [] rfl rfl rfl (c_tt_readWorkF l g tt ta o ab sz ln kd bg nx fb a pe wo tx ch jo tr dy sd f b_pe b_wo rf hln hnx hbg hkd hTk) (cwV 0 hts (zgL (zl4 k477 k478 k479 k476) k459) rfl rfl rfl (by decide +kernel) ⟨Nat.le_of_ble_eq_true rfl, Nat.le_of_ble_eq_true rfl⟩) rfl rfl rfl rfl (Nat.le_of_ble_eq_true rfl) dX10_readLine_30 ⟨(Nat.le_of_ble_eq_true rfl), (Nat.le_of_ble_eq_true rfl)⟩ (fun u_ H locs hq23 hP hD hS => ?_)
      obtain ⟨kd2_16, bg2_17, nx2_18, ft2_19, wo2_20, f2_21, q_22⟩ := u_
      replace hq23 : (0 ≤ wo2_20.toInt ∧ wo2_20.toInt ≤ 6) ∧ (zZ4 f2_21) ∧ (-1 ≤ ft2_19.toInt) ∧ (0 ≤ nx2_18.toInt ∧ nx2_18.toInt ≤ 400) ∧ (0 ≤ bg2_17.toInt ∧ bg2_17.toInt ≤ 400) ∧ (zKd kd2_16.toInt bg2_17.toInt nx2_18.toInt) ∧ (zTk fb ln.toInt kd2_16.toInt bg2_17.toInt nx2_18.toInt) ∧ (q_22 = 1 ∧ zTO (zTWork fb ln.toInt wo.toInt bg.toInt) bg2_17.toInt pe.toInt pe.toInt wo.toInt wo2_20.toInt ∧ (-1) = ft2_19 ∨ q_22 = 0 ∧ zTWork fb ln.toInt wo.toInt bg.toInt (.bad ft2_19.toInt)) := hq23
      have hP : va_P g.1 vwCl (List.flatten [bTT g tt ta o, bTape g ta ab sz ln kd2_16 bg2_17 nx2_18 ft2_19 fb, bTown g o a pe wo2_20 tx ch jo tr dy sd f2_21]) H := hP
      have hD : va_D A (List.flatten [bTT g tt ta o, bTape g ta ab sz ln kd2_16 bg2_17 nx2_18 ft2_19 fb, bTown g o a pe wo2_20 tx ch jo tr dy sd f2_21]) := hD
      refine W.widen (k := 0) (n := 0) (Nat.le_of_ble_eq_true rfl) (Nat.le_of_ble_eq_true rfl) ?_
      refine W.eq (g2 := F0 m 33 ls [.int q_22]) rfl ?_
      obtain ⟨hq23_0, rf2_21, hq23_2, hq23_3, hq23_4, hq23_5, hq23_6, hq23_7⟩ := hq23
      rcases hq23_7 with ⟨rfl, hq23_k, rfl⟩ | ⟨rfl, hq23_k⟩
      · skip
        have hP : va_P g.1 vwCl (List.flatten [bTT g tt ta o, bTape g ta ab sz ln kd2_16 bg2_17 nx2_18 (-1) fb, bTown g o a pe wo2_20 tx ch jo tr dy sd f2_21]) H := hP
        have hD : va_D A (List.flatten [bTT g tt ta o, bTape g ta ab sz ln kd2_16 bg2_17 nx2_18 (-1) fb, bTown g o a pe wo2_20 tx ch jo tr dy sd f2_21]) := hD
        exact mret_z hx hb hr hlocks hS (Nat.le_of_ble_eq_true rfl) (Nat.le_of_ble_eq_true rfl) dX10_readLine_33 (kd2_16, bg2_17, nx2_18, -1, pe, wo2_20, ch, jo, tr, dy, f2_21, (1 : Int32)) rfl (by decide) (show (0 ≤ pe.toInt ∧ pe.toInt ≤ 8) ∧ (0 ≤ wo2_20.toInt ∧ wo2_20.toInt ≤ 6) ∧ (zZ4 f2_21) ∧ (-1 ≤ ((-1) : Int32).toInt) ∧ (0 ≤ nx2_18.toInt ∧ nx2_18.toInt ≤ 400) ∧ (0 ≤ bg2_17.toInt ∧ bg2_17.toInt ≤ 400) ∧ (zKd kd2_16.toInt bg2_17.toInt nx2_18.toInt) ∧ (zTk fb ln.toInt kd2_16.toInt bg2_17.toInt nx2_18.toInt) ∧ (1 = 1 ∧ zTO (zTLine fb ln.toInt pe.toInt wo.toInt bg.toInt) bg2_17.toInt pe.toInt pe.toInt wo.toInt wo2_20.toInt ∧ (-1) = (-1) ∨ 1 = 0 ∧ zTLine fb ln.toInt pe.toInt wo.toInt bg.toInt (.bad ((-1) : Int32).toInt)) from ⟨(by first | assumption | omega | exact Or.inl (by decide) | exact Or.inr (by omega) | decide), (by first | assumption | omega | exact Or.inl (by decide) | exact Or.inr (by omega) | decide), (by first | assumption | omega | exact Or.inl (by decide) | exact Or.inr (by omega) | decide), (by first | assumption | omega | exact Or.inl (by decide) | exact Or.inr (by omega) | decide), (by first | assumption | omega | exact Or.inl (by decide) | exact Or.inr (by omega) | decide), (by first | assumption | omega | exact Or.inl (by decide) | exact Or.inr (by omega) | decide), (by first | assumption | omega | exact Or.inl (by decide) | exact Or.inr (by omega) | decide), (by first | assumption | omega | exact Or.inl (by decide) | exact Or.inr (by omega) | decide), (Or.inl ⟨rfl, zTO_i hq23_k (fun _ h9 => zTL_k (k := 1) (by decide) hq14_k h9), rfl⟩)⟩) hP hD
      · skip
        have hP : va_P g.1 vwCl (List.flatten [bTT g tt ta o, bTape g ta ab sz ln kd2_16 bg2_17 nx2_18 ft2_19 fb, bTown g o a pe wo2_20 tx ch jo tr dy sd f2_21]) H := hP
        have hD : va_D A (List.flatten [bTT g tt ta o, bTape g ta ab sz ln kd2_16 bg2_17 nx2_18 ft2_19 fb, bTown g o a pe wo2_20 tx ch jo tr dy sd f2_21]) := hD
        exact mret_z hx hb hr hlocks hS (Nat.le_of_ble_eq_true rfl) (Nat.le_of_ble_eq_true rfl) dX10_readLine_33 (kd2_16, bg2_17, nx2_18, ft2_19, pe, wo2_20, ch, jo, tr, dy, f2_21, (0 : Int32)) rfl (by decide) (show (0 ≤ pe.toInt ∧ pe.toInt ≤ 8) ∧ (0 ≤ wo2_20.toInt ∧ wo2_20.toInt ≤ 6) ∧ (zZ4 f2_21) ∧ (-1 ≤ ft2_19.toInt) ∧ (0 ≤ nx2_18.toInt ∧ nx2_18.toInt ≤ 400) ∧ (0 ≤ bg2_17.toInt ∧ bg2_17.toInt ≤ 400) ∧ (zKd kd2_16.toInt bg2_17.toInt nx2_18.toInt) ∧ (zTk fb ln.toInt kd2_16.toInt bg2_17.toInt nx2_18.toInt) ∧ (0 = 1 ∧ zTO (zTLine fb ln.toInt pe.toInt wo.toInt bg.toInt) bg2_17.toInt pe.toInt pe.toInt wo.toInt wo2_20.toInt ∧ (-1) = ft2_19 ∨ 0 = 0 ∧ zTLine fb ln.toInt pe.toInt wo.toInt bg.toInt (.bad ft2_19.toInt)) from ⟨(by first | assumption | omega | exact Or.inl (by decide) | exact Or.inr (by omega) | decide), (by first | assumption | omega | exact Or.inl (by decide) | exact Or.inr (by omega) | decide), (by first | assumption | omega | exact Or.inl (by decide) | exact Or.inr (by omega) | decide), (by first | assumption | omega | exact Or.inl (by decide) | exact Or.inr (by omega) | decide), (by first | assumption | omega | exact Or.inl (by decide) | exact Or.inr (by omega) | decide), (by first | assumption | omega | exact Or.inl (by decide) | exact Or.inr (by omega) | decide), (by first | assumption | omega | exact Or.inl (by decide) | exact Or.inr (by omega) | decide), (by first | assumption | omega | exact Or.inl (by decide) | exact Or.inr (by omega) | decide), (Or.inr ⟨rfl, zTL_k (k := 1) (by decide) hq14_k hq23_k⟩)⟩) hP hD
    · skip
      refine lv_if_eq (tgt := 34) hx hb dX10_readLine_26 (by decide) (fun _ => ?_) (fun c24 => absurd (by decide) c24)
      refine lv_aload_n hx hb dX10_readLine_34 rfl (lv_at hl 0 rfl) ?_
      refine va_get (D := g.1) (ci := 8) (v := .ref ta) (C := RX10) (T := TX10) (N := 2) hx hb hts izRX10 hown hK hP 0 rfl rfl 0 (by decide) (hts _ k441) (fun x9 h9 => u_same (hts _ k442) x9 h9) rfl dX10_readLine_35 ?_
      refine va_ldcS (q := g.2 42) hx hb hown (zra16 hT.2.1) dX10_readLine_38 ?_
      refine mcallV' (g := g) (q0 := 0) (ci := 6) (As := [.ref (g.2 42)]) (rest := []) St hK hT hA hP hD hS hl.1 [2] [0, 1] rfl rfl rfl (c_t_takeWordF l g ta ab sz ln kd bg nx (-1) fb (g.2 42) 16 zqa16 hln hnx hbg hkd hTk rfl zla16 zna16 (zlitB zla16)) (cwV 1 hts (zgL (zl4 k449 k311 k312 k277) k284) rfl rfl rfl (by decide +kernel) ⟨Nat.le_of_ble_eq_true rfl, Nat.le_of_ble_eq_true rfl⟩) rfl rfl rfl rfl (Nat.le_of_ble_eq_true rfl) dX10_readLine_40 ⟨(Nat.le_of_ble_eq_true rfl), (Nat.le_of_ble_eq_true rfl)⟩ (fun u_ H locs hq29 hP hD hS => ?_)
      obtain ⟨kd2_25, bg2_26, nx2_27, r_28⟩ := u_
      replace hq29 : (0 ≤ nx2_27.toInt ∧ nx2_27.toInt ≤ 400) ∧ (0 ≤ bg2_26.toInt ∧ bg2_26.toInt ≤ 400) ∧ (zKd kd2_25.toInt bg2_26.toInt nx2_27.toInt) ∧ (zTk fb ln.toInt kd2_25.toInt bg2_26.toInt nx2_27.toInt) ∧ (r_28 = 1 ∧ zisW fb ln.toInt bg.toInt zqa16.2.2.2 ∧ zMv fb ln.toInt bg.toInt bg2_26.toInt ∨ r_28 = 0 ∧ ¬ zisW fb ln.toInt bg.toInt zqa16.2.2.2 ∧ kd = kd2_25 ∧ bg = bg2_26 ∧ nx = nx2_27) := hq29
      have hP : va_P g.1 vwCl (List.flatten [bTT g tt ta o, bTown g o a pe wo tx ch jo tr dy sd f, bTape g ta ab sz ln kd2_25 bg2_26 nx2_27 (-1) fb]) H := hP
      have hD : va_D A (List.flatten [bTT g tt ta o, bTown g o a pe wo tx ch jo tr dy sd f, bTape g ta ab sz ln kd2_25 bg2_26 nx2_27 (-1) fb]) := hD
      refine W.widen (k := 0) (n := 0) (Nat.le_of_ble_eq_true rfl) (Nat.le_of_ble_eq_true rfl) ?_
      refine W.eq (g2 := F0 m 43 ls [.int r_28]) rfl ?_
      obtain ⟨hq29_0, hq29_1, hq29_2, hq29_3, hq29_4⟩ := hq29
      rcases hq29_4 with ⟨rfl, hq29_k, hq29_km⟩ | ⟨rfl, hq29_k, rfl, rfl, rfl⟩
      · skip
        refine lv_if_eq (tgt := 51) hx hb dX10_readLine_43 (by decide) (fun c30 => absurd c30 (by decide)) (fun _ => ?_)
        refine lv_aload_n hx hb dX10_readLine_46 rfl (lv_at hl 0 rfl) ?_
        refine mcallV' (g := g) (q0 := 0) (ci := 8) (As := []) (rest := []) St hK hT hA hP hD hS hl.1 [0, 2, 1] [] rfl rfl rfl (c_tt_readTrustsF l g tt ta o ab sz ln kd2_25 bg2_26 nx2_27 fb a pe wo tx ch jo tr dy sd f b_pe b_wo rf hln hq29_0 hq29_1 hq29_2 hq29_3) (cwV 0 hts (zgL (zl4 k480 k481 k482 k476) k465) rfl rfl rfl (by decide +kernel) ⟨Nat.le_of_ble_eq_true rfl, Nat.le_of_ble_eq_true rfl⟩) rfl rfl rfl rfl (Nat.le_of_ble_eq_true rfl) dX10_readLine_47 ⟨(Nat.le_of_ble_eq_true rfl), (Nat.le_of_ble_eq_true rfl)⟩ (fun u_ H locs hq37 hP hD hS => ?_)
        obtain ⟨kd2_31, bg2_32, nx2_33, ft2_34, f2_35, q_36⟩ := u_
        replace hq37 : (zZ4 f2_35) ∧ (-1 ≤ ft2_34.toInt) ∧ (0 ≤ nx2_33.toInt ∧ nx2_33.toInt ≤ 400) ∧ (0 ≤ bg2_32.toInt ∧ bg2_32.toInt ≤ 400) ∧ (zKd kd2_31.toInt bg2_32.toInt nx2_33.toInt) ∧ (zTk fb ln.toInt kd2_31.toInt bg2_32.toInt nx2_33.toInt) ∧ (q_36 = 1 ∧ zTO (zKtr fb ln.toInt pe.toInt bg2_26.toInt) bg2_32.toInt pe.toInt pe.toInt wo.toInt wo.toInt ∧ (-1) = ft2_34 ∨ q_36 = 0 ∧ zKtr fb ln.toInt pe.toInt bg2_26.toInt (.bad ft2_34.toInt)) := hq37
        have hP : va_P g.1 vwCl (List.flatten [bTT g tt ta o, bTape g ta ab sz ln kd2_31 bg2_32 nx2_33 ft2_34 fb, bTown g o a pe wo tx ch jo tr dy sd f2_35]) H := hP
        have hD : va_D A (List.flatten [bTT g tt ta o, bTape g ta ab sz ln kd2_31 bg2_32 nx2_33 ft2_34 fb, bTown g o a pe wo tx ch jo tr dy sd f2_35]) := hD
        refine W.widen (k := 0) (n := 0) (Nat.le_of_ble_eq_true rfl) (Nat.le_of_ble_eq_true rfl) ?_
        refine W.eq (g2 := F0 m 50 ls [.int q_36]) rfl ?_
        obtain ⟨rf2_35, hq37_1, hq37_2, hq37_3, hq37_4, hq37_5, hq37_6⟩ := hq37
        rcases hq37_6 with ⟨rfl, hq37_k, rfl⟩ | ⟨rfl, hq37_k⟩
        · skip
          have hP : va_P g.1 vwCl (List.flatten [bTT g tt ta o, bTape g ta ab sz ln kd2_31 bg2_32 nx2_33 (-1) fb, bTown g o a pe wo tx ch jo tr dy sd f2_35]) H := hP
          have hD : va_D A (List.flatten [bTT g tt ta o, bTape g ta ab sz ln kd2_31 bg2_32 nx2_33 (-1) fb, bTown g o a pe wo tx ch jo tr dy sd f2_35]) := hD
          exact mret_z hx hb hr hlocks hS (Nat.le_of_ble_eq_true rfl) (Nat.le_of_ble_eq_true rfl) dX10_readLine_50 (kd2_31, bg2_32, nx2_33, -1, pe, wo, ch, jo, tr, dy, f2_35, (1 : Int32)) rfl (by decide) (show (0 ≤ pe.toInt ∧ pe.toInt ≤ 8) ∧ (0 ≤ wo.toInt ∧ wo.toInt ≤ 6) ∧ (zZ4 f2_35) ∧ (-1 ≤ ((-1) : Int32).toInt) ∧ (0 ≤ nx2_33.toInt ∧ nx2_33.toInt ≤ 400) ∧ (0 ≤ bg2_32.toInt ∧ bg2_32.toInt ≤ 400) ∧ (zKd kd2_31.toInt bg2_32.toInt nx2_33.toInt) ∧ (zTk fb ln.toInt kd2_31.toInt bg2_32.toInt nx2_33.toInt) ∧ (1 = 1 ∧ zTO (zTLine fb ln.toInt pe.toInt wo.toInt bg.toInt) bg2_32.toInt pe.toInt pe.toInt wo.toInt wo.toInt ∧ (-1) = (-1) ∨ 1 = 0 ∧ zTLine fb ln.toInt pe.toInt wo.toInt bg.toInt (.bad ((-1) : Int32).toInt)) from ⟨(by first | assumption | omega | exact Or.inl (by decide) | exact Or.inr (by omega) | decide), (by first | assumption | omega | exact Or.inl (by decide) | exact Or.inr (by omega) | decide), (by first | assumption | omega | exact Or.inl (by decide) | exact Or.inr (by omega) | decide), (by first | assumption | omega | exact Or.inl (by decide) | exact Or.inr (by omega) | decide), (by first | assumption | omega | exact Or.inl (by decide) | exact Or.inr (by omega) | decide), (by first | assumption | omega | exact Or.inl (by decide) | exact Or.inr (by omega) | decide), (by first | assumption | omega | exact Or.inl (by decide) | exact Or.inr (by omega) | decide), (by first | assumption | omega | exact Or.inl (by decide) | exact Or.inr (by omega) | decide), (Or.inl ⟨rfl, zTO_i hq37_k (fun _ h9 => zTL_m 0 (by decide) hq29_k hq29_km h9), rfl⟩)⟩) hP hD
        · skip
          have hP : va_P g.1 vwCl (List.flatten [bTT g tt ta o, bTape g ta ab sz ln kd2_31 bg2_32 nx2_33 ft2_34 fb, bTown g o a pe wo tx ch jo tr dy sd f2_35]) H := hP
          have hD : va_D A (List.flatten [bTT g tt ta o, bTape g ta ab sz ln kd2_31 bg2_32 nx2_33 ft2_34 fb, bTown g o a pe wo tx ch jo tr dy sd f2_35]) := hD
          exact mret_z hx hb hr hlocks hS (Nat.le_of_ble_eq_true rfl) (Nat.le_of_ble_eq_true rfl) dX10_readLine_50 (kd2_31, bg2_32, nx2_33, ft2_34, pe, wo, ch, jo, tr, dy, f2_35, (0 : Int32)) rfl (by decide) (show (0 ≤ pe.toInt ∧ pe.toInt ≤ 8) ∧ (0 ≤ wo.toInt ∧ wo.toInt ≤ 6) ∧ (zZ4 f2_35) ∧ (-1 ≤ ft2_34.toInt) ∧ (0 ≤ nx2_33.toInt ∧ nx2_33.toInt ≤ 400) ∧ (0 ≤ bg2_32.toInt ∧ bg2_32.toInt ≤ 400) ∧ (zKd kd2_31.toInt bg2_32.toInt nx2_33.toInt) ∧ (zTk fb ln.toInt kd2_31.toInt bg2_32.toInt nx2_33.toInt) ∧ (0 = 1 ∧ zTO (zTLine fb ln.toInt pe.toInt wo.toInt bg.toInt) bg2_32.toInt pe.toInt pe.toInt wo.toInt wo.toInt ∧ (-1) = ft2_34 ∨ 0 = 0 ∧ zTLine fb ln.toInt pe.toInt wo.toInt bg.toInt (.bad ft2_34.toInt)) from ⟨(by first | assumption | omega | exact Or.inl (by decide) | exact Or.inr (by omega) | decide), (by first | assumption | omega | exact Or.inl (by decide) | exact Or.inr (by omega) | decide), (by first | assumption | omega | exact Or.inl (by decide) | exact Or.inr (by omega) | decide), (by first | assumption | omega | exact Or.inl (by decide) | exact Or.inr (by omega) | decide), (by first | assumption | omega | exact Or.inl (by decide) | exact Or.inr (by omega) | decide), (by first | assumption | omega | exact Or.inl (by decide) | exact Or.inr (by omega) | decide), (by first | assumption | omega | exact Or.inl (by decide) | exact Or.inr (by omega) | decide), (by first | assumption | omega | exact Or.inl (by decide) | exact Or.inr (by omega) | decide), (Or.inr ⟨rfl, zTL_m 0 (by decide) hq29_k hq29_km hq37_k⟩)⟩) hP hD
      · skip
        refine lv_if_eq (tgt := 51) hx hb dX10_readLine_43 (by decide) (fun _ => ?_) (fun c38 => absurd (by decide) c38)
        refine lv_aload_n hx hb dX10_readLine_51 rfl (lv_at hl 0 rfl) ?_
        refine va_get (D := g.1) (ci := 8) (v := .ref ta) (C := RX10) (T := TX10) (N := 2) hx hb hts izRX10 hown hK hP 0 rfl rfl 0 (by decide) (hts _ k441) (fun x9 h9 => u_same (hts _ k442) x9 h9) rfl dX10_readLine_52 ?_
        refine va_ldcS (q := g.2 44) hx hb hown (zra17 hT.2.1) dX10_readLine_55 ?_
        refine mcallV' (g := g) (q0 := 0) (ci := 6) (As := [.ref (g.2 44)]) (rest := []) St hK hT hA hP hD hS hl.1 [2] [0, 1] rfl rfl rfl (c_t_takeWordF l g ta ab sz ln kd bg nx (-1) fb (g.2 44) 17 zqa17 hln hnx hbg hkd hTk rfl zla17 zna17 (zlitB zla17)) (cwV 1 hts (zgL (zl4 k449 k311 k312 k277) k284) rfl rfl rfl (by decide +kernel) ⟨Nat.le_of_ble_eq_true rfl, Nat.le_of_ble_eq_true rfl⟩) rfl rfl rfl rfl (Nat.le_of_ble_eq_true rfl) dX10_readLine_57 ⟨(Nat.le_of_ble_eq_true rfl), (Nat.le_of_ble_eq_true rfl)⟩ (fun u_ H locs hq43 hP hD hS => ?_)
        obtain ⟨kd2_39, bg2_40, nx2_41, r_42⟩ := u_
        replace hq43 : (0 ≤ nx2_41.toInt ∧ nx2_41.toInt ≤ 400) ∧ (0 ≤ bg2_40.toInt ∧ bg2_40.toInt ≤ 400) ∧ (zKd kd2_39.toInt bg2_40.toInt nx2_41.toInt) ∧ (zTk fb ln.toInt kd2_39.toInt bg2_40.toInt nx2_41.toInt) ∧ (r_42 = 1 ∧ zisW fb ln.toInt bg.toInt zqa17.2.2.2 ∧ zMv fb ln.toInt bg.toInt bg2_40.toInt ∨ r_42 = 0 ∧ ¬ zisW fb ln.toInt bg.toInt zqa17.2.2.2 ∧ kd = kd2_39 ∧ bg = bg2_40 ∧ nx = nx2_41) := hq43
        have hP : va_P g.1 vwCl (List.flatten [bTT g tt ta o, bTown g o a pe wo tx ch jo tr dy sd f, bTape g ta ab sz ln kd2_39 bg2_40 nx2_41 (-1) fb]) H := hP
        have hD : va_D A (List.flatten [bTT g tt ta o, bTown g o a pe wo tx ch jo tr dy sd f, bTape g ta ab sz ln kd2_39 bg2_40 nx2_41 (-1) fb]) := hD
        refine W.widen (k := 0) (n := 0) (Nat.le_of_ble_eq_true rfl) (Nat.le_of_ble_eq_true rfl) ?_
        refine W.eq (g2 := F0 m 60 ls [.int r_42]) rfl ?_
        obtain ⟨hq43_0, hq43_1, hq43_2, hq43_3, hq43_4⟩ := hq43
        rcases hq43_4 with ⟨rfl, hq43_k, hq43_km⟩ | ⟨rfl, hq43_k, rfl, rfl, rfl⟩
        · skip
          refine lv_if_eq (tgt := 68) hx hb dX10_readLine_60 (by decide) (fun c44 => absurd c44 (by decide)) (fun _ => ?_)
          refine lv_aload_n hx hb dX10_readLine_63 rfl (lv_at hl 0 rfl) ?_
          refine mcallV' (g := g) (q0 := 0) (ci := 8) (As := []) (rest := []) St hK hT hA hP hD hS hl.1 [0, 2, 1] [] rfl rfl rfl (c_tt_readSharesF l g tt ta o ab sz ln kd2_39 bg2_40 nx2_41 fb a pe wo tx ch jo tr dy sd f b_pe b_wo rf hln hq43_0 hq43_1 hq43_2 hq43_3) (cwV 0 hts (zgL (zl4 k483 k484 k485 k476) k466) rfl rfl rfl (by decide +kernel) ⟨Nat.le_of_ble_eq_true rfl, Nat.le_of_ble_eq_true rfl⟩) rfl rfl rfl rfl (Nat.le_of_ble_eq_true rfl) dX10_readLine_64 ⟨(Nat.le_of_ble_eq_true rfl), (Nat.le_of_ble_eq_true rfl)⟩ (fun u_ H locs hq51 hP hD hS => ?_)
          obtain ⟨kd2_45, bg2_46, nx2_47, ft2_48, f2_49, q_50⟩ := u_
          replace hq51 : (zZ4 f2_49) ∧ (-1 ≤ ft2_48.toInt) ∧ (0 ≤ nx2_47.toInt ∧ nx2_47.toInt ≤ 400) ∧ (0 ≤ bg2_46.toInt ∧ bg2_46.toInt ≤ 400) ∧ (zKd kd2_45.toInt bg2_46.toInt nx2_47.toInt) ∧ (zTk fb ln.toInt kd2_45.toInt bg2_46.toInt nx2_47.toInt) ∧ (q_50 = 1 ∧ zTO (zKsh fb ln.toInt pe.toInt bg2_40.toInt) bg2_46.toInt pe.toInt pe.toInt wo.toInt wo.toInt ∧ (-1) = ft2_48 ∨ q_50 = 0 ∧ zKsh fb ln.toInt pe.toInt bg2_40.toInt (.bad ft2_48.toInt)) := hq51
          have hP : va_P g.1 vwCl (List.flatten [bTT g tt ta o, bTape g ta ab sz ln kd2_45 bg2_46 nx2_47 ft2_48 fb, bTown g o a pe wo tx ch jo tr dy sd f2_49]) H := hP
          have hD : va_D A (List.flatten [bTT g tt ta o, bTape g ta ab sz ln kd2_45 bg2_46 nx2_47 ft2_48 fb, bTown g o a pe wo tx ch jo tr dy sd f2_49]) := hD
          refine W.widen (k := 0) (n := 0) (Nat.le_of_ble_eq_true rfl) (Nat.le_of_ble_eq_true rfl) ?_
          refine W.eq (g2 := F0 m 67 ls [.int q_50]) rfl ?_
          obtain ⟨rf2_49, hq51_1, hq51_2, hq51_3, hq51_4, hq51_5, hq51_6⟩ := hq51
          rcases hq51_6 with ⟨rfl, hq51_k, rfl⟩ | ⟨rfl, hq51_k⟩
          · skip
            have hP : va_P g.1 vwCl (List.flatten [bTT g tt ta o, bTape g ta ab sz ln kd2_45 bg2_46 nx2_47 (-1) fb, bTown g o a pe wo tx ch jo tr dy sd f2_49]) H := hP
            have hD : va_D A (List.flatten [bTT g tt ta o, bTape g ta ab sz ln kd2_45 bg2_46 nx2_47 (-1) fb, bTown g o a pe wo tx ch jo tr dy sd f2_49]) := hD
            exact mret_z hx hb hr hlocks hS (Nat.le_of_ble_eq_true rfl) (Nat.le_of_ble_eq_true rfl) dX10_readLine_67 (kd2_45, bg2_46, nx2_47, -1, pe, wo, ch, jo, tr, dy, f2_49, (1 : Int32)) rfl (by decide) (show (0 ≤ pe.toInt ∧ pe.toInt ≤ 8) ∧ (0 ≤ wo.toInt ∧ wo.toInt ≤ 6) ∧ (zZ4 f2_49) ∧ (-1 ≤ ((-1) : Int32).toInt) ∧ (0 ≤ nx2_47.toInt ∧ nx2_47.toInt ≤ 400) ∧ (0 ≤ bg2_46.toInt ∧ bg2_46.toInt ≤ 400) ∧ (zKd kd2_45.toInt bg2_46.toInt nx2_47.toInt) ∧ (zTk fb ln.toInt kd2_45.toInt bg2_46.toInt nx2_47.toInt) ∧ (1 = 1 ∧ zTO (zTLine fb ln.toInt pe.toInt wo.toInt bg.toInt) bg2_46.toInt pe.toInt pe.toInt wo.toInt wo.toInt ∧ (-1) = (-1) ∨ 1 = 0 ∧ zTLine fb ln.toInt pe.toInt wo.toInt bg.toInt (.bad ((-1) : Int32).toInt)) from ⟨(by first | assumption | omega | exact Or.inl (by decide) | exact Or.inr (by omega) | decide), (by first | assumption | omega | exact Or.inl (by decide) | exact Or.inr (by omega) | decide), (by first | assumption | omega | exact Or.inl (by decide) | exact Or.inr (by omega) | decide), (by first | assumption | omega | exact Or.inl (by decide) | exact Or.inr (by omega) | decide), (by first | assumption | omega | exact Or.inl (by decide) | exact Or.inr (by omega) | decide), (by first | assumption | omega | exact Or.inl (by decide) | exact Or.inr (by omega) | decide), (by first | assumption | omega | exact Or.inl (by decide) | exact Or.inr (by omega) | decide), (by first | assumption | omega | exact Or.inl (by decide) | exact Or.inr (by omega) | decide), (Or.inl ⟨rfl, zTO_i hq51_k (fun _ h9 => zTL_m 1 (by decide) hq43_k hq43_km h9), rfl⟩)⟩) hP hD
          · skip
            have hP : va_P g.1 vwCl (List.flatten [bTT g tt ta o, bTape g ta ab sz ln kd2_45 bg2_46 nx2_47 ft2_48 fb, bTown g o a pe wo tx ch jo tr dy sd f2_49]) H := hP
            have hD : va_D A (List.flatten [bTT g tt ta o, bTape g ta ab sz ln kd2_45 bg2_46 nx2_47 ft2_48 fb, bTown g o a pe wo tx ch jo tr dy sd f2_49]) := hD
            exact mret_z hx hb hr hlocks hS (Nat.le_of_ble_eq_true rfl) (Nat.le_of_ble_eq_true rfl) dX10_readLine_67 (kd2_45, bg2_46, nx2_47, ft2_48, pe, wo, ch, jo, tr, dy, f2_49, (0 : Int32)) rfl (by decide) (show (0 ≤ pe.toInt ∧ pe.toInt ≤ 8) ∧ (0 ≤ wo.toInt ∧ wo.toInt ≤ 6) ∧ (zZ4 f2_49) ∧ (-1 ≤ ft2_48.toInt) ∧ (0 ≤ nx2_47.toInt ∧ nx2_47.toInt ≤ 400) ∧ (0 ≤ bg2_46.toInt ∧ bg2_46.toInt ≤ 400) ∧ (zKd kd2_45.toInt bg2_46.toInt nx2_47.toInt) ∧ (zTk fb ln.toInt kd2_45.toInt bg2_46.toInt nx2_47.toInt) ∧ (0 = 1 ∧ zTO (zTLine fb ln.toInt pe.toInt wo.toInt bg.toInt) bg2_46.toInt pe.toInt pe.toInt wo.toInt wo.toInt ∧ (-1) = ft2_48 ∨ 0 = 0 ∧ zTLine fb ln.toInt pe.toInt wo.toInt bg.toInt (.bad ft2_48.toInt)) from ⟨(by first | assumption | omega | exact Or.inl (by decide) | exact Or.inr (by omega) | decide), (by first | assumption | omega | exact Or.inl (by decide) | exact Or.inr (by omega) | decide), (by first | assumption | omega | exact Or.inl (by decide) | exact Or.inr (by omega) | decide), (by first | assumption | omega | exact Or.inl (by decide) | exact Or.inr (by omega) | decide), (by first | assumption | omega | exact Or.inl (by decide) | exact Or.inr (by omega) | decide), (by first | assumption | omega | exact Or.inl (by decide) | exact Or.inr (by omega) | decide), (by first | assumption | omega | exact Or.inl (by decide) | exact Or.inr (by omega) | decide), (by first | assumption | omega | exact Or.inl (by decide) | exact Or.inr (by omega) | decide), (Or.inr ⟨rfl, zTL_m 1 (by decide) hq43_k hq43_km hq51_k⟩)⟩) hP hD
        · skip
          refine lv_if_eq (tgt := 68) hx hb dX10_readLine_60 (by decide) (fun _ => ?_) (fun c52 => absurd (by decide) c52)
          refine lv_aload_n hx hb dX10_readLine_68 rfl (lv_at hl 0 rfl) ?_
          refine va_get (D := g.1) (ci := 8) (v := .ref ta) (C := RX10) (T := TX10) (N := 2) hx hb hts izRX10 hown hK hP 0 rfl rfl 0 (by decide) (hts _ k441) (fun x9 h9 => u_same (hts _ k442) x9 h9) rfl dX10_readLine_69 ?_
          refine va_ldcS (q := g.2 46) hx hb hown (zra18 hT.2.1) dX10_readLine_72 ?_
          refine mcallV' (g := g) (q0 := 0) (ci := 6) (As := [.ref (g.2 46)]) (rest := []) St hK hT hA hP hD hS hl.1 [2] [0, 1] rfl rfl rfl (c_t_takeWordF l g ta ab sz ln kd bg nx (-1) fb (g.2 46) 18 zqa18 hln hnx hbg hkd hTk rfl zla18 zna18 (zlitB zla18)) (cwV 1 hts (zgL (zl4 k449 k311 k312 k277) k284) rfl rfl rfl (by decide +kernel) ⟨Nat.le_of_ble_eq_true rfl, Nat.le_of_ble_eq_true rfl⟩) rfl rfl rfl rfl (Nat.le_of_ble_eq_true rfl) dX10_readLine_74 ⟨(Nat.le_of_ble_eq_true rfl), (Nat.le_of_ble_eq_true rfl)⟩ (fun u_ H locs hq57 hP hD hS => ?_)
          obtain ⟨kd2_53, bg2_54, nx2_55, r_56⟩ := u_
          replace hq57 : (0 ≤ nx2_55.toInt ∧ nx2_55.toInt ≤ 400) ∧ (0 ≤ bg2_54.toInt ∧ bg2_54.toInt ≤ 400) ∧ (zKd kd2_53.toInt bg2_54.toInt nx2_55.toInt) ∧ (zTk fb ln.toInt kd2_53.toInt bg2_54.toInt nx2_55.toInt) ∧ (r_56 = 1 ∧ zisW fb ln.toInt bg.toInt zqa18.2.2.2 ∧ zMv fb ln.toInt bg.toInt bg2_54.toInt ∨ r_56 = 0 ∧ ¬ zisW fb ln.toInt bg.toInt zqa18.2.2.2 ∧ kd = kd2_53 ∧ bg = bg2_54 ∧ nx = nx2_55) := hq57
          have hP : va_P g.1 vwCl (List.flatten [bTT g tt ta o, bTown g o a pe wo tx ch jo tr dy sd f, bTape g ta ab sz ln kd2_53 bg2_54 nx2_55 (-1) fb]) H := hP
          have hD : va_D A (List.flatten [bTT g tt ta o, bTown g o a pe wo tx ch jo tr dy sd f, bTape g ta ab sz ln kd2_53 bg2_54 nx2_55 (-1) fb]) := hD
          refine W.widen (k := 0) (n := 0) (Nat.le_of_ble_eq_true rfl) (Nat.le_of_ble_eq_true rfl) ?_
          refine W.eq (g2 := F0 m 77 ls [.int r_56]) rfl ?_
          obtain ⟨hq57_0, hq57_1, hq57_2, hq57_3, hq57_4⟩ := hq57
          rcases hq57_4 with ⟨rfl, hq57_k, hq57_km⟩ | ⟨rfl, hq57_k, rfl, rfl, rfl⟩
          · skip
            refine lv_if_eq (tgt := 111) hx hb dX10_readLine_77 (by decide) (fun c58 => absurd c58 (by decide)) (fun _ => ?_)
            refine lv_aload_n hx hb dX10_readLine_80 rfl (lv_at hl 0 rfl) ?_
            refine va_get (D := g.1) (ci := 8) (v := .ref ta) (C := RX10) (T := TX10) (N := 2) hx hb hts izRX10 hown hK hP 0 rfl rfl 0 (by decide) (hts _ k441) (fun x9 h9 => u_same (hts _ k442) x9 h9) rfl dX10_readLine_81 ?_
            refine lv_iconst (v := 0) hx hb dX10_readLine_84 (by decide) ?_
            refine lv_sipush (v := 999) hx hb dX10_readLine_85 (by decide) ?_
            have hL0 : (0 : Int32).toInt = 0 := by decide
            have hL999 : (999 : Int32).toInt = 999 := by decide
            refine mcallV' (g := g) (q0 := 0) (ci := 6) (As := [.int 0, .int 999]) (rest := []) St hK hT hA hP hD hS hl.1 [2] [0, 1] rfl rfl rfl (c_t_numberF l g ta ab sz ln kd2_53 bg2_54 nx2_55 fb 0 999 hln hq57_0 hq57_1 hq57_2 hq57_3) (cwV 2 hts (zgL (zl4 k445 k294 k295 k277) k273) rfl rfl rfl (by decide +kernel) ⟨Nat.le_of_ble_eq_true rfl, Nat.le_of_ble_eq_true rfl⟩) rfl rfl rfl rfl (Nat.le_of_ble_eq_true rfl) dX10_readLine_88 ⟨(Nat.le_of_ble_eq_true rfl), (Nat.le_of_ble_eq_true rfl)⟩ (fun u_ H locs hq64 hP hD hS => ?_)
            obtain ⟨kd2_59, bg2_60, nx2_61, ft2_62, q_63⟩ := u_
            replace hq64 : (-1 ≤ ft2_62.toInt) ∧ (0 ≤ nx2_61.toInt ∧ nx2_61.toInt ≤ 400) ∧ (0 ≤ bg2_60.toInt ∧ bg2_60.toInt ≤ 400) ∧ (zKd kd2_59.toInt bg2_60.toInt nx2_61.toInt) ∧ (zTk fb ln.toInt kd2_59.toInt bg2_60.toInt nx2_61.toInt) ∧ (zNu fb ln.toInt bg2_54.toInt (0 : Int32).toInt (999 : Int32).toInt q_63 ∧ zMv fb ln.toInt bg2_54.toInt bg2_60.toInt ∧ (-1) = ft2_62 ∨ q_63 = -1 ∧ (¬ ∃ v9, zNu fb ln.toInt bg2_54.toInt (0 : Int32).toInt (999 : Int32).toInt v9) ∧ bg2_54 = ft2_62 ∧ kd2_53 = kd2_59 ∧ bg2_54 = bg2_60 ∧ nx2_55 = nx2_61) := hq64
            have hP : va_P g.1 vwCl (List.flatten [bTT g tt ta o, bTown g o a pe wo tx ch jo tr dy sd f, bTape g ta ab sz ln kd2_59 bg2_60 nx2_61 ft2_62 fb]) H := hP
            have hD : va_D A (List.flatten [bTT g tt ta o, bTown g o a pe wo tx ch jo tr dy sd f, bTape g ta ab sz ln kd2_59 bg2_60 nx2_61 ft2_62 fb]) := hD
            refine W.widen (k := 0) (n := 0) (Nat.le_of_ble_eq_true rfl) (Nat.le_of_ble_eq_true rfl) ?_
            refine W.eq (g2 := F0 m 91 ls [.int q_63]) rfl ?_
            obtain ⟨hq64_0, hq64_1, hq64_2, hq64_3, hq64_4, hq64_5⟩ := hq64
            rcases hq64_5 with ⟨hq64_k, hq64_km, rfl⟩ | ⟨rfl, hq64_k, rfl, rfl, rfl, rfl⟩
            · skip
              have w65 : 0 ≤ q_63.toInt ∧ q_63.toInt ≤ 999 := ⟨(by have h9 := hq64_k.2.2.1; omega), (by have h9 := hq64_k.2.2.2; omega)⟩
              refine lv_istore_n (lv' := [(1, .int q_63), (0, .ref tt)]) hx hb dX10_readLine_91 rfl hl (by decide) rfl (fun ls hl => ?_)
              refine lv_aload_n hx hb dX10_readLine_92 rfl (lv_at hl 1 rfl) ?_
              refine va_get (D := g.1) (ci := 8) (v := .ref o) (C := RX10) (T := TX10) (N := 2) hx hb hts izRX10 hown hK hP 0 rfl rfl 1 (by decide) (hts _ k439) (fun _ h9 => h9) rfl dX10_readLine_93 ?_
              refine lv_iload_n hx hb dX10_readLine_96 rfl (lv_at hl 0 rfl) ?_
              refine va_put (D := g.1) (ci := 7) (v := .int q_63) (ty := .int) (C := RX9) (T := TX9) (N := 19) hx hb hts izRX9 tyX9 tyX9_ok nmX9 hown hK hP hD hS 1 rfl rfl 3 (by decide) (hts _ k468) (fun _ h9 => h9) rfl (by decide +kernel) rfl rfl (Nat.le_of_ble_eq_true rfl) dX10_readLine_97 (fun H locs hP hD hS => ?_)
              have hP : va_P g.1 vwCl (List.flatten [bTT g tt ta o, bTown g o a pe wo tx q_63 jo tr dy sd f, bTape g ta ab sz ln kd2_59 bg2_60 nx2_61 (-1) fb]) H := hP
              have hD : va_D A (List.flatten [bTT g tt ta o, bTown g o a pe wo tx q_63 jo tr dy sd f, bTape g ta ab sz ln kd2_59 bg2_60 nx2_61 (-1) fb]) := hD
              refine lv_iload_n hx hb dX10_readLine_100 rfl (lv_at hl 0 rfl) ?_
              refine lv_iconst (v := (-1)) hx hb dX10_readLine_101 (by decide) ?_
              refine lv_icmp_eq (tgt := 109) hx hb dX10_readLine_102 (by decide) (fun cb9 => ?_) (fun cb9 => ?_)
              · skip
                exact absurd (show q_63.toInt = (-1) from zeq cb9 rfl (by decide)) (zDeq2 (a := 0) (b := (-1)) w65.1 (Int.le_refl _) (by decide))
              · skip
                have c67 : ¬ q_63.toInt = (-1) := zne cb9 rfl (by decide)
                refine lv_iconst (v := 1) hx hb dX10_readLine_105 (by decide) ?_
                refine lv_goto (tgt := 110) hx hb dX10_readLine_106 (by decide) ?_
                have hP : va_P g.1 vwCl (List.flatten [bTT g tt ta o, bTown g o a pe wo tx q_63 jo tr dy sd f, bTape g ta ab sz ln kd2_59 bg2_60 nx2_61 (-1) fb]) H := hP
                have hD : va_D A (List.flatten [bTT g tt ta o, bTown g o a pe wo tx q_63 jo tr dy sd f, bTape g ta ab sz ln kd2_59 bg2_60 nx2_61 (-1) fb]) := hD
                obtain ⟨hP, hD⟩ := zord (g := g) (Bs' := [bTT g tt ta o, bTape g ta ab sz ln kd2_59 bg2_60 nx2_61 (-1) fb, bTown g o a pe wo tx q_63 jo tr dy sd f]) [0, 2, 1] rfl rfl hP hD
                exact mret_z hx hb hr hlocks hS (Nat.le_of_ble_eq_true rfl) (Nat.le_of_ble_eq_true rfl) dX10_readLine_110 (kd2_59, bg2_60, nx2_61, -1, pe, wo, q_63, jo, tr, dy, f, (1 : Int32)) rfl (by decide) (show (0 ≤ pe.toInt ∧ pe.toInt ≤ 8) ∧ (0 ≤ wo.toInt ∧ wo.toInt ≤ 6) ∧ (zZ4 f) ∧ (-1 ≤ ((-1) : Int32).toInt) ∧ (0 ≤ nx2_61.toInt ∧ nx2_61.toInt ≤ 400) ∧ (0 ≤ bg2_60.toInt ∧ bg2_60.toInt ≤ 400) ∧ (zKd kd2_59.toInt bg2_60.toInt nx2_61.toInt) ∧ (zTk fb ln.toInt kd2_59.toInt bg2_60.toInt nx2_61.toInt) ∧ (1 = 1 ∧ zTO (zTLine fb ln.toInt pe.toInt wo.toInt bg.toInt) bg2_60.toInt pe.toInt pe.toInt wo.toInt wo.toInt ∧ (-1) = (-1) ∨ 1 = 0 ∧ zTLine fb ln.toInt pe.toInt wo.toInt bg.toInt (.bad ((-1) : Int32).toInt)) from ⟨(by first | assumption | omega | exact Or.inl (by decide) | exact Or.inr (by omega) | decide), (by first | assumption | omega | exact Or.inl (by decide) | exact Or.inr (by omega) | decide), (by first | assumption | omega | exact Or.inl (by decide) | exact Or.inr (by omega) | decide), (by first | assumption | omega | exact Or.inl (by decide) | exact Or.inr (by omega) | decide), (by first | assumption | omega | exact Or.inl (by decide) | exact Or.inr (by omega) | decide), (by first | assumption | omega | exact Or.inl (by decide) | exact Or.inr (by omega) | decide), (by first | assumption | omega | exact Or.inl (by decide) | exact Or.inr (by omega) | decide), (by first | assumption | omega | exact Or.inl (by decide) | exact Or.inr (by omega) | decide), (Or.inl ⟨rfl, ⟨(4, q_63.toInt, 0, 0), zTL_m 2 (by decide) hq57_k hq57_km (show zTX _ _ _ 4 _ _ from zNN_y (by decide) (by decide) hq64_k hq64_km rfl), zcp_n (by decide) rfl, zcw_n (by decide) rfl⟩, rfl⟩)⟩) hP hD
            · skip
              refine lv_istore_n (lv' := [(1, .int (-1)), (0, .ref tt)]) hx hb dX10_readLine_91 rfl hl (by decide) rfl (fun ls hl => ?_)
              refine lv_aload_n hx hb dX10_readLine_92 rfl (lv_at hl 1 rfl) ?_
              refine va_get (D := g.1) (ci := 8) (v := .ref o) (C := RX10) (T := TX10) (N := 2) hx hb hts izRX10 hown hK hP 0 rfl rfl 1 (by decide) (hts _ k439) (fun _ h9 => h9) rfl dX10_readLine_93 ?_
              refine lv_iload_n hx hb dX10_readLine_96 rfl (lv_at hl 0 rfl) ?_
              refine va_put (D := g.1) (ci := 7) (v := .int (-1)) (ty := .int) (C := RX9) (T := TX9) (N := 19) hx hb hts izRX9 tyX9 tyX9_ok nmX9 hown hK hP hD hS 1 rfl rfl 3 (by decide) (hts _ k468) (fun _ h9 => h9) rfl (by decide +kernel) rfl rfl (Nat.le_of_ble_eq_true rfl) dX10_readLine_97 (fun H locs hP hD hS => ?_)
              have hP : va_P g.1 vwCl (List.flatten [bTT g tt ta o, bTown g o a pe wo tx (-1) jo tr dy sd f, bTape g ta ab sz ln kd2_53 bg2_54 nx2_55 bg2_54 fb]) H := hP
              have hD : va_D A (List.flatten [bTT g tt ta o, bTown g o a pe wo tx (-1) jo tr dy sd f, bTape g ta ab sz ln kd2_53 bg2_54 nx2_55 bg2_54 fb]) := hD
              refine lv_iload_n hx hb dX10_readLine_100 rfl (lv_at hl 0 rfl) ?_
              refine lv_iconst (v := (-1)) hx hb dX10_readLine_101 (by decide) ?_
              refine lv_icmp_eq (tgt := 109) hx hb dX10_readLine_102 (by decide) (fun _ => ?_) (fun c68 => absurd (by decide) c68)
              refine lv_iconst (v := 0) hx hb dX10_readLine_109 (by decide) ?_
              have hP : va_P g.1 vwCl (List.flatten [bTT g tt ta o, bTown g o a pe wo tx (-1) jo tr dy sd f, bTape g ta ab sz ln kd2_53 bg2_54 nx2_55 bg2_54 fb]) H := hP
              have hD : va_D A (List.flatten [bTT g tt ta o, bTown g o a pe wo tx (-1) jo tr dy sd f, bTape g ta ab sz ln kd2_53 bg2_54 nx2_55 bg2_54 fb]) := hD
              obtain ⟨hP, hD⟩ := zord (g := g) (Bs' := [bTT g tt ta o, bTape g ta ab sz ln kd2_53 bg2_54 nx2_55 bg2_54 fb, bTown g o a pe wo tx (-1) jo tr dy sd f]) [0, 2, 1] rfl rfl hP hD
              exact mret_z hx hb hr hlocks hS (Nat.le_of_ble_eq_true rfl) (Nat.le_of_ble_eq_true rfl) dX10_readLine_110 (kd2_53, bg2_54, nx2_55, bg2_54, pe, wo, -1, jo, tr, dy, f, (0 : Int32)) rfl (by decide) (show (0 ≤ pe.toInt ∧ pe.toInt ≤ 8) ∧ (0 ≤ wo.toInt ∧ wo.toInt ≤ 6) ∧ (zZ4 f) ∧ (-1 ≤ bg2_54.toInt) ∧ (0 ≤ nx2_55.toInt ∧ nx2_55.toInt ≤ 400) ∧ (0 ≤ bg2_54.toInt ∧ bg2_54.toInt ≤ 400) ∧ (zKd kd2_53.toInt bg2_54.toInt nx2_55.toInt) ∧ (zTk fb ln.toInt kd2_53.toInt bg2_54.toInt nx2_55.toInt) ∧ (0 = 1 ∧ zTO (zTLine fb ln.toInt pe.toInt wo.toInt bg.toInt) bg2_54.toInt pe.toInt pe.toInt wo.toInt wo.toInt ∧ (-1) = bg2_54 ∨ 0 = 0 ∧ zTLine fb ln.toInt pe.toInt wo.toInt bg.toInt (.bad bg2_54.toInt)) from ⟨(by first | assumption | omega | exact Or.inl (by decide) | exact Or.inr (by omega) | decide), (by first | assumption | omega | exact Or.inl (by decide) | exact Or.inr (by omega) | decide), (by first | assumption | omega | exact Or.inl (by decide) | exact Or.inr (by omega) | decide), (by first | assumption | omega | exact Or.inl (by decide) | exact Or.inr (by omega) | decide), (by first | assumption | omega | exact Or.inl (by decide) | exact Or.inr (by omega) | decide), (by first | assumption | omega | exact Or.inl (by decide) | exact Or.inr (by omega) | decide), (by first | assumption | omega | exact Or.inl (by decide) | exact Or.inr (by omega) | decide), (by first | assumption | omega | exact Or.inl (by decide) | exact Or.inr (by omega) | decide), (Or.inr ⟨rfl, zTL_m 2 (by decide) hq57_k hq57_km (show zTX _ _ _ 4 _ _ from zNN_n (by decide) (by decide) rfl hq64_k)⟩)⟩) hP hD
          · skip
            refine lv_if_eq (tgt := 111) hx hb dX10_readLine_77 (by decide) (fun _ => ?_) (fun c69 => absurd (by decide) c69)
            refine lv_aload_n hx hb dX10_readLine_111 rfl (lv_at hl 0 rfl) ?_
            refine va_get (D := g.1) (ci := 8) (v := .ref ta) (C := RX10) (T := TX10) (N := 2) hx hb hts izRX10 hown hK hP 0 rfl rfl 0 (by decide) (hts _ k441) (fun x9 h9 => u_same (hts _ k442) x9 h9) rfl dX10_readLine_112 ?_
            refine va_ldcS (q := g.2 48) hx hb hown (zra19 hT.2.1) dX10_readLine_115 ?_
            refine mcallV' (g := g) (q0 := 0) (ci := 6) (As := [.ref (g.2 48)]) (rest := []) St hK hT hA hP hD hS hl.1 [2] [0, 1] rfl rfl rfl (c_t_takeWordF l g ta ab sz ln kd bg nx (-1) fb (g.2 48) 19 zqa19 hln hnx hbg hkd hTk rfl zla19 zna19 (zlitB zla19)) (cwV 1 hts (zgL (zl4 k449 k311 k312 k277) k284) rfl rfl rfl (by decide +kernel) ⟨Nat.le_of_ble_eq_true rfl, Nat.le_of_ble_eq_true rfl⟩) rfl rfl rfl rfl (Nat.le_of_ble_eq_true rfl) dX10_readLine_117 ⟨(Nat.le_of_ble_eq_true rfl), (Nat.le_of_ble_eq_true rfl)⟩ (fun u_ H locs hq74 hP hD hS => ?_)
            obtain ⟨kd2_70, bg2_71, nx2_72, r_73⟩ := u_
            replace hq74 : (0 ≤ nx2_72.toInt ∧ nx2_72.toInt ≤ 400) ∧ (0 ≤ bg2_71.toInt ∧ bg2_71.toInt ≤ 400) ∧ (zKd kd2_70.toInt bg2_71.toInt nx2_72.toInt) ∧ (zTk fb ln.toInt kd2_70.toInt bg2_71.toInt nx2_72.toInt) ∧ (r_73 = 1 ∧ zisW fb ln.toInt bg.toInt zqa19.2.2.2 ∧ zMv fb ln.toInt bg.toInt bg2_71.toInt ∨ r_73 = 0 ∧ ¬ zisW fb ln.toInt bg.toInt zqa19.2.2.2 ∧ kd = kd2_70 ∧ bg = bg2_71 ∧ nx = nx2_72) := hq74
            have hP : va_P g.1 vwCl (List.flatten [bTT g tt ta o, bTown g o a pe wo tx ch jo tr dy sd f, bTape g ta ab sz ln kd2_70 bg2_71 nx2_72 (-1) fb]) H := hP
            have hD : va_D A (List.flatten [bTT g tt ta o, bTown g o a pe wo tx ch jo tr dy sd f, bTape g ta ab sz ln kd2_70 bg2_71 nx2_72 (-1) fb]) := hD
            refine W.widen (k := 0) (n := 0) (Nat.le_of_ble_eq_true rfl) (Nat.le_of_ble_eq_true rfl) ?_
            refine W.eq (g2 := F0 m 120 ls [.int r_73]) rfl ?_
            obtain ⟨hq74_0, hq74_1, hq74_2, hq74_3, hq74_4⟩ := hq74
            rcases hq74_4 with ⟨rfl, hq74_k, hq74_km⟩ | ⟨rfl, hq74_k, rfl, rfl, rfl⟩
            · skip
              refine lv_if_eq (tgt := 153) hx hb dX10_readLine_120 (by decide) (fun c75 => absurd c75 (by decide)) (fun _ => ?_)
              refine lv_aload_n hx hb dX10_readLine_123 rfl (lv_at hl 0 rfl) ?_
              refine va_get (D := g.1) (ci := 8) (v := .ref ta) (C := RX10) (T := TX10) (N := 2) hx hb hts izRX10 hown hK hP 0 rfl rfl 0 (by decide) (hts _ k441) (fun x9 h9 => u_same (hts _ k442) x9 h9) rfl dX10_readLine_124 ?_
              refine lv_iconst (v := 1) hx hb dX10_readLine_127 (by decide) ?_
              refine lv_bipush (v := 30) hx hb dX10_readLine_128 (by decide) ?_
              have hL1 : (1 : Int32).toInt = 1 := by decide
              have hL30 : (30 : Int32).toInt = 30 := by decide
              refine mcallV' (g := g) (q0 := 0) (ci := 6) (As := [.int 1, .int 30]) (rest := []) St hK hT hA hP hD hS hl.1 [2] [0, 1] rfl rfl rfl (c_t_numberF l g ta ab sz ln kd2_70 bg2_71 nx2_72 fb 1 30 hln hq74_0 hq74_1 hq74_2 hq74_3) (cwV 2 hts (zgL (zl4 k445 k294 k295 k277) k273) rfl rfl rfl (by decide +kernel) ⟨Nat.le_of_ble_eq_true rfl, Nat.le_of_ble_eq_true rfl⟩) rfl rfl rfl rfl (Nat.le_of_ble_eq_true rfl) dX10_readLine_130 ⟨(Nat.le_of_ble_eq_true rfl), (Nat.le_of_ble_eq_true rfl)⟩ (fun u_ H locs hq81 hP hD hS => ?_)
              obtain ⟨kd2_76, bg2_77, nx2_78, ft2_79, q_80⟩ := u_
              replace hq81 : (-1 ≤ ft2_79.toInt) ∧ (0 ≤ nx2_78.toInt ∧ nx2_78.toInt ≤ 400) ∧ (0 ≤ bg2_77.toInt ∧ bg2_77.toInt ≤ 400) ∧ (zKd kd2_76.toInt bg2_77.toInt nx2_78.toInt) ∧ (zTk fb ln.toInt kd2_76.toInt bg2_77.toInt nx2_78.toInt) ∧ (zNu fb ln.toInt bg2_71.toInt (1 : Int32).toInt (30 : Int32).toInt q_80 ∧ zMv fb ln.toInt bg2_71.toInt bg2_77.toInt ∧ (-1) = ft2_79 ∨ q_80 = -1 ∧ (¬ ∃ v9, zNu fb ln.toInt bg2_71.toInt (1 : Int32).toInt (30 : Int32).toInt v9) ∧ bg2_71 = ft2_79 ∧ kd2_70 = kd2_76 ∧ bg2_71 = bg2_77 ∧ nx2_72 = nx2_78) := hq81
              have hP : va_P g.1 vwCl (List.flatten [bTT g tt ta o, bTown g o a pe wo tx ch jo tr dy sd f, bTape g ta ab sz ln kd2_76 bg2_77 nx2_78 ft2_79 fb]) H := hP
              have hD : va_D A (List.flatten [bTT g tt ta o, bTown g o a pe wo tx ch jo tr dy sd f, bTape g ta ab sz ln kd2_76 bg2_77 nx2_78 ft2_79 fb]) := hD
              refine W.widen (k := 0) (n := 0) (Nat.le_of_ble_eq_true rfl) (Nat.le_of_ble_eq_true rfl) ?_
              refine W.eq (g2 := F0 m 133 ls [.int q_80]) rfl ?_
              obtain ⟨hq81_0, hq81_1, hq81_2, hq81_3, hq81_4, hq81_5⟩ := hq81
              rcases hq81_5 with ⟨hq81_k, hq81_km, rfl⟩ | ⟨rfl, hq81_k, rfl, rfl, rfl, rfl⟩
              · skip
                have w82 : 1 ≤ q_80.toInt ∧ q_80.toInt ≤ 30 := ⟨(by have h9 := hq81_k.2.2.1; omega), (by have h9 := hq81_k.2.2.2; omega)⟩
                refine lv_istore_n (lv' := [(1, .int q_80), (0, .ref tt)]) hx hb dX10_readLine_133 rfl hl (by decide) rfl (fun ls hl => ?_)
                refine lv_aload_n hx hb dX10_readLine_134 rfl (lv_at hl 1 rfl) ?_
                refine va_get (D := g.1) (ci := 8) (v := .ref o) (C := RX10) (T := TX10) (N := 2) hx hb hts izRX10 hown hK hP 0 rfl rfl 1 (by decide) (hts _ k439) (fun _ h9 => h9) rfl dX10_readLine_135 ?_
                refine lv_iload_n hx hb dX10_readLine_138 rfl (lv_at hl 0 rfl) ?_
                refine va_put (D := g.1) (ci := 7) (v := .int q_80) (ty := .int) (C := RX9) (T := TX9) (N := 19) hx hb hts izRX9 tyX9 tyX9_ok nmX9 hown hK hP hD hS 1 rfl rfl 4 (by decide) (hts _ k469) (fun _ h9 => h9) rfl (by decide +kernel) rfl rfl (Nat.le_of_ble_eq_true rfl) dX10_readLine_139 (fun H locs hP hD hS => ?_)
                have hP : va_P g.1 vwCl (List.flatten [bTT g tt ta o, bTown g o a pe wo tx ch q_80 tr dy sd f, bTape g ta ab sz ln kd2_76 bg2_77 nx2_78 (-1) fb]) H := hP
                have hD : va_D A (List.flatten [bTT g tt ta o, bTown g o a pe wo tx ch q_80 tr dy sd f, bTape g ta ab sz ln kd2_76 bg2_77 nx2_78 (-1) fb]) := hD
                refine lv_iload_n hx hb dX10_readLine_142 rfl (lv_at hl 0 rfl) ?_
                refine lv_iconst (v := (-1)) hx hb dX10_readLine_143 (by decide) ?_
                refine lv_icmp_eq (tgt := 151) hx hb dX10_readLine_144 (by decide) (fun cb9 => ?_) (fun cb9 => ?_)
                · skip
                  exact absurd (show q_80.toInt = (-1) from zeq cb9 rfl (by decide)) (zDeq2 (a := 1) (b := (-1)) w82.1 (Int.le_refl _) (by decide))
                · skip
                  have c84 : ¬ q_80.toInt = (-1) := zne cb9 rfl (by decide)
                  refine lv_iconst (v := 1) hx hb dX10_readLine_147 (by decide) ?_
                  refine lv_goto (tgt := 152) hx hb dX10_readLine_148 (by decide) ?_
                  have hP : va_P g.1 vwCl (List.flatten [bTT g tt ta o, bTown g o a pe wo tx ch q_80 tr dy sd f, bTape g ta ab sz ln kd2_76 bg2_77 nx2_78 (-1) fb]) H := hP
                  have hD : va_D A (List.flatten [bTT g tt ta o, bTown g o a pe wo tx ch q_80 tr dy sd f, bTape g ta ab sz ln kd2_76 bg2_77 nx2_78 (-1) fb]) := hD
                  obtain ⟨hP, hD⟩ := zord (g := g) (Bs' := [bTT g tt ta o, bTape g ta ab sz ln kd2_76 bg2_77 nx2_78 (-1) fb, bTown g o a pe wo tx ch q_80 tr dy sd f]) [0, 2, 1] rfl rfl hP hD
                  exact mret_z hx hb hr hlocks hS (Nat.le_of_ble_eq_true rfl) (Nat.le_of_ble_eq_true rfl) dX10_readLine_152 (kd2_76, bg2_77, nx2_78, -1, pe, wo, ch, q_80, tr, dy, f, (1 : Int32)) rfl (by decide) (show (0 ≤ pe.toInt ∧ pe.toInt ≤ 8) ∧ (0 ≤ wo.toInt ∧ wo.toInt ≤ 6) ∧ (zZ4 f) ∧ (-1 ≤ ((-1) : Int32).toInt) ∧ (0 ≤ nx2_78.toInt ∧ nx2_78.toInt ≤ 400) ∧ (0 ≤ bg2_77.toInt ∧ bg2_77.toInt ≤ 400) ∧ (zKd kd2_76.toInt bg2_77.toInt nx2_78.toInt) ∧ (zTk fb ln.toInt kd2_76.toInt bg2_77.toInt nx2_78.toInt) ∧ (1 = 1 ∧ zTO (zTLine fb ln.toInt pe.toInt wo.toInt bg.toInt) bg2_77.toInt pe.toInt pe.toInt wo.toInt wo.toInt ∧ (-1) = (-1) ∨ 1 = 0 ∧ zTLine fb ln.toInt pe.toInt wo.toInt bg.toInt (.bad ((-1) : Int32).toInt)) from ⟨(by first | assumption | omega | exact Or.inl (by decide) | exact Or.inr (by omega) | decide), (by first | assumption | omega | exact Or.inl (by decide) | exact Or.inr (by omega) | decide), (by first | assumption | omega | exact Or.inl (by decide) | exact Or.inr (by omega) | decide), (by first | assumption | omega | exact Or.inl (by decide) | exact Or.inr (by omega) | decide), (by first | assumption | omega | exact Or.inl (by decide) | exact Or.inr (by omega) | decide), (by first | assumption | omega | exact Or.inl (by decide) | exact Or.inr (by omega) | decide), (by first | assumption | omega | exact Or.inl (by decide) | exact Or.inr (by omega) | decide), (by first | assumption | omega | exact Or.inl (by decide) | exact Or.inr (by omega) | decide), (Or.inl ⟨rfl, ⟨(5, q_80.toInt, 0, 0), zTL_m 3 (by decide) hq74_k hq74_km (show zTX _ _ _ 5 _ _ from zNN_y (by decide) (by decide) hq81_k hq81_km rfl), zcp_n (by decide) rfl, zcw_n (by decide) rfl⟩, rfl⟩)⟩) hP hD
              · skip
                refine lv_istore_n (lv' := [(1, .int (-1)), (0, .ref tt)]) hx hb dX10_readLine_133 rfl hl (by decide) rfl (fun ls hl => ?_)
                refine lv_aload_n hx hb dX10_readLine_134 rfl (lv_at hl 1 rfl) ?_
                refine va_get (D := g.1) (ci := 8) (v := .ref o) (C := RX10) (T := TX10) (N := 2) hx hb hts izRX10 hown hK hP 0 rfl rfl 1 (by decide) (hts _ k439) (fun _ h9 => h9) rfl dX10_readLine_135 ?_
                refine lv_iload_n hx hb dX10_readLine_138 rfl (lv_at hl 0 rfl) ?_
                refine va_put (D := g.1) (ci := 7) (v := .int (-1)) (ty := .int) (C := RX9) (T := TX9) (N := 19) hx hb hts izRX9 tyX9 tyX9_ok nmX9 hown hK hP hD hS 1 rfl rfl 4 (by decide) (hts _ k469) (fun _ h9 => h9) rfl (by decide +kernel) rfl rfl (Nat.le_of_ble_eq_true rfl) dX10_readLine_139 (fun H locs hP hD hS => ?_)
                have hP : va_P g.1 vwCl (List.flatten [bTT g tt ta o, bTown g o a pe wo tx ch (-1) tr dy sd f, bTape g ta ab sz ln kd2_70 bg2_71 nx2_72 bg2_71 fb]) H := hP
                have hD : va_D A (List.flatten [bTT g tt ta o, bTown g o a pe wo tx ch (-1) tr dy sd f, bTape g ta ab sz ln kd2_70 bg2_71 nx2_72 bg2_71 fb]) := hD
                refine lv_iload_n hx hb dX10_readLine_142 rfl (lv_at hl 0 rfl) ?_
                refine lv_iconst (v := (-1)) hx hb dX10_readLine_143 (by decide) ?_
                refine lv_icmp_eq (tgt := 151) hx hb dX10_readLine_144 (by decide) (fun _ => ?_) (fun c85 => absurd (by decide) c85)
                refine lv_iconst (v := 0) hx hb dX10_readLine_151 (by decide) ?_
                have hP : va_P g.1 vwCl (List.flatten [bTT g tt ta o, bTown g o a pe wo tx ch (-1) tr dy sd f, bTape g ta ab sz ln kd2_70 bg2_71 nx2_72 bg2_71 fb]) H := hP
                have hD : va_D A (List.flatten [bTT g tt ta o, bTown g o a pe wo tx ch (-1) tr dy sd f, bTape g ta ab sz ln kd2_70 bg2_71 nx2_72 bg2_71 fb]) := hD
                obtain ⟨hP, hD⟩ := zord (g := g) (Bs' := [bTT g tt ta o, bTape g ta ab sz ln kd2_70 bg2_71 nx2_72 bg2_71 fb, bTown g o a pe wo tx ch (-1) tr dy sd f]) [0, 2, 1] rfl rfl hP hD
                exact mret_z hx hb hr hlocks hS (Nat.le_of_ble_eq_true rfl) (Nat.le_of_ble_eq_true rfl) dX10_readLine_152 (kd2_70, bg2_71, nx2_72, bg2_71, pe, wo, ch, -1, tr, dy, f, (0 : Int32)) rfl (by decide) (show (0 ≤ pe.toInt ∧ pe.toInt ≤ 8) ∧ (0 ≤ wo.toInt ∧ wo.toInt ≤ 6) ∧ (zZ4 f) ∧ (-1 ≤ bg2_71.toInt) ∧ (0 ≤ nx2_72.toInt ∧ nx2_72.toInt ≤ 400) ∧ (0 ≤ bg2_71.toInt ∧ bg2_71.toInt ≤ 400) ∧ (zKd kd2_70.toInt bg2_71.toInt nx2_72.toInt) ∧ (zTk fb ln.toInt kd2_70.toInt bg2_71.toInt nx2_72.toInt) ∧ (0 = 1 ∧ zTO (zTLine fb ln.toInt pe.toInt wo.toInt bg.toInt) bg2_71.toInt pe.toInt pe.toInt wo.toInt wo.toInt ∧ (-1) = bg2_71 ∨ 0 = 0 ∧ zTLine fb ln.toInt pe.toInt wo.toInt bg.toInt (.bad bg2_71.toInt)) from ⟨(by first | assumption | omega | exact Or.inl (by decide) | exact Or.inr (by omega) | decide), (by first | assumption | omega | exact Or.inl (by decide) | exact Or.inr (by omega) | decide), (by first | assumption | omega | exact Or.inl (by decide) | exact Or.inr (by omega) | decide), (by first | assumption | omega | exact Or.inl (by decide) | exact Or.inr (by omega) | decide), (by first | assumption | omega | exact Or.inl (by decide) | exact Or.inr (by omega) | decide), (by first | assumption | omega | exact Or.inl (by decide) | exact Or.inr (by omega) | decide), (by first | assumption | omega | exact Or.inl (by decide) | exact Or.inr (by omega) | decide), (by first | assumption | omega | exact Or.inl (by decide) | exact Or.inr (by omega) | decide), (Or.inr ⟨rfl, zTL_m 3 (by decide) hq74_k hq74_km (show zTX _ _ _ 5 _ _ from zNN_n (by decide) (by decide) rfl hq81_k)⟩)⟩) hP hD
            · skip
              refine lv_if_eq (tgt := 153) hx hb dX10_readLine_120 (by decide) (fun _ => ?_) (fun c86 => absurd (by decide) c86)
              refine lv_aload_n hx hb dX10_readLine_153 rfl (lv_at hl 0 rfl) ?_
              refine va_get (D := g.1) (ci := 8) (v := .ref ta) (C := RX10) (T := TX10) (N := 2) hx hb hts izRX10 hown hK hP 0 rfl rfl 0 (by decide) (hts _ k441) (fun x9 h9 => u_same (hts _ k442) x9 h9) rfl dX10_readLine_154 ?_
              refine va_ldcS (q := g.2 50) hx hb hown (zra20 hT.2.1) dX10_readLine_157 ?_
              refine mcallV' (g := g) (q0 := 0) (ci := 6) (As := [.ref (g.2 50)]) (rest := []) St hK hT hA hP hD hS hl.1 [2] [0, 1] rfl rfl rfl (c_t_takeWordF l g ta ab sz ln kd bg nx (-1) fb (g.2 50) 20 zqa20 hln hnx hbg hkd hTk rfl zla20 zna20 (zlitB zla20)) (cwV 1 hts (zgL (zl4 k449 k311 k312 k277) k284) rfl rfl rfl (by decide +kernel) ⟨Nat.le_of_ble_eq_true rfl, Nat.le_of_ble_eq_true rfl⟩) rfl rfl rfl rfl (Nat.le_of_ble_eq_true rfl) dX10_readLine_159 ⟨(Nat.le_of_ble_eq_true rfl), (Nat.le_of_ble_eq_true rfl)⟩ (fun u_ H locs hq91 hP hD hS => ?_)
              obtain ⟨kd2_87, bg2_88, nx2_89, r_90⟩ := u_
              replace hq91 : (0 ≤ nx2_89.toInt ∧ nx2_89.toInt ≤ 400) ∧ (0 ≤ bg2_88.toInt ∧ bg2_88.toInt ≤ 400) ∧ (zKd kd2_87.toInt bg2_88.toInt nx2_89.toInt) ∧ (zTk fb ln.toInt kd2_87.toInt bg2_88.toInt nx2_89.toInt) ∧ (r_90 = 1 ∧ zisW fb ln.toInt bg.toInt zqa20.2.2.2 ∧ zMv fb ln.toInt bg.toInt bg2_88.toInt ∨ r_90 = 0 ∧ ¬ zisW fb ln.toInt bg.toInt zqa20.2.2.2 ∧ kd = kd2_87 ∧ bg = bg2_88 ∧ nx = nx2_89) := hq91
              have hP : va_P g.1 vwCl (List.flatten [bTT g tt ta o, bTown g o a pe wo tx ch jo tr dy sd f, bTape g ta ab sz ln kd2_87 bg2_88 nx2_89 (-1) fb]) H := hP
              have hD : va_D A (List.flatten [bTT g tt ta o, bTown g o a pe wo tx ch jo tr dy sd f, bTape g ta ab sz ln kd2_87 bg2_88 nx2_89 (-1) fb]) := hD
              refine W.widen (k := 0) (n := 0) (Nat.le_of_ble_eq_true rfl) (Nat.le_of_ble_eq_true rfl) ?_
              refine W.eq (g2 := F0 m 162 ls [.int r_90]) rfl ?_
              obtain ⟨hq91_0, hq91_1, hq91_2, hq91_3, hq91_4⟩ := hq91
              rcases hq91_4 with ⟨rfl, hq91_k, hq91_km⟩ | ⟨rfl, hq91_k, rfl, rfl, rfl⟩
              · skip
                refine lv_if_eq (tgt := 195) hx hb dX10_readLine_162 (by decide) (fun c92 => absurd c92 (by decide)) (fun _ => ?_)
                refine lv_aload_n hx hb dX10_readLine_165 rfl (lv_at hl 0 rfl) ?_
                refine va_get (D := g.1) (ci := 8) (v := .ref ta) (C := RX10) (T := TX10) (N := 2) hx hb hts izRX10 hown hK hP 0 rfl rfl 0 (by decide) (hts _ k441) (fun x9 h9 => u_same (hts _ k442) x9 h9) rfl dX10_readLine_166 ?_
                refine lv_iconst (v := 0) hx hb dX10_readLine_169 (by decide) ?_
                refine lv_bipush (v := 100) hx hb dX10_readLine_170 (by decide) ?_
                have hL0 : (0 : Int32).toInt = 0 := by decide
                have hL100 : (100 : Int32).toInt = 100 := by decide
                refine mcallV' (g := g) (q0 := 0) (ci := 6) (As := [.int 0, .int 100]) (rest := []) St hK hT hA hP hD hS hl.1 [2] [0, 1] rfl rfl rfl (c_t_numberF l g ta ab sz ln kd2_87 bg2_88 nx2_89 fb 0 100 hln hq91_0 hq91_1 hq91_2 hq91_3) (cwV 2 hts (zgL (zl4 k445 k294 k295 k277) k273) rfl rfl rfl (by decide +kernel) ⟨Nat.le_of_ble_eq_true rfl, Nat.le_of_ble_eq_true rfl⟩) rfl rfl rfl rfl (Nat.le_of_ble_eq_true rfl) dX10_readLine_172 ⟨(Nat.le_of_ble_eq_true rfl), (Nat.le_of_ble_eq_true rfl)⟩ (fun u_ H locs hq98 hP hD hS => ?_)
                obtain ⟨kd2_93, bg2_94, nx2_95, ft2_96, q_97⟩ := u_
                replace hq98 : (-1 ≤ ft2_96.toInt) ∧ (0 ≤ nx2_95.toInt ∧ nx2_95.toInt ≤ 400) ∧ (0 ≤ bg2_94.toInt ∧ bg2_94.toInt ≤ 400) ∧ (zKd kd2_93.toInt bg2_94.toInt nx2_95.toInt) ∧ (zTk fb ln.toInt kd2_93.toInt bg2_94.toInt nx2_95.toInt) ∧ (zNu fb ln.toInt bg2_88.toInt (0 : Int32).toInt (100 : Int32).toInt q_97 ∧ zMv fb ln.toInt bg2_88.toInt bg2_94.toInt ∧ (-1) = ft2_96 ∨ q_97 = -1 ∧ (¬ ∃ v9, zNu fb ln.toInt bg2_88.toInt (0 : Int32).toInt (100 : Int32).toInt v9) ∧ bg2_88 = ft2_96 ∧ kd2_87 = kd2_93 ∧ bg2_88 = bg2_94 ∧ nx2_89 = nx2_95) := hq98
                have hP : va_P g.1 vwCl (List.flatten [bTT g tt ta o, bTown g o a pe wo tx ch jo tr dy sd f, bTape g ta ab sz ln kd2_93 bg2_94 nx2_95 ft2_96 fb]) H := hP
                have hD : va_D A (List.flatten [bTT g tt ta o, bTown g o a pe wo tx ch jo tr dy sd f, bTape g ta ab sz ln kd2_93 bg2_94 nx2_95 ft2_96 fb]) := hD
                refine W.widen (k := 0) (n := 0) (Nat.le_of_ble_eq_true rfl) (Nat.le_of_ble_eq_true rfl) ?_
                refine W.eq (g2 := F0 m 175 ls [.int q_97]) rfl ?_
                obtain ⟨hq98_0, hq98_1, hq98_2, hq98_3, hq98_4, hq98_5⟩ := hq98
                rcases hq98_5 with ⟨hq98_k, hq98_km, rfl⟩ | ⟨rfl, hq98_k, rfl, rfl, rfl, rfl⟩
                · skip
                  have w99 : 0 ≤ q_97.toInt ∧ q_97.toInt ≤ 100 := ⟨(by have h9 := hq98_k.2.2.1; omega), (by have h9 := hq98_k.2.2.2; omega)⟩
                  refine lv_istore_n (lv' := [(1, .int q_97), (0, .ref tt)]) hx hb dX10_readLine_175 rfl hl (by decide) rfl (fun ls hl => ?_)
                  refine lv_aload_n hx hb dX10_readLine_176 rfl (lv_at hl 1 rfl) ?_
                  refine va_get (D := g.1) (ci := 8) (v := .ref o) (C := RX10) (T := TX10) (N := 2) hx hb hts izRX10 hown hK hP 0 rfl rfl 1 (by decide) (hts _ k439) (fun _ h9 => h9) rfl dX10_readLine_177 ?_
                  refine lv_iload_n hx hb dX10_readLine_180 rfl (lv_at hl 0 rfl) ?_
                  refine va_put (D := g.1) (ci := 7) (v := .int q_97) (ty := .int) (C := RX9) (T := TX9) (N := 19) hx hb hts izRX9 tyX9 tyX9_ok nmX9 hown hK hP hD hS 1 rfl rfl 5 (by decide) (hts _ k470) (fun _ h9 => h9) rfl (by decide +kernel) rfl rfl (Nat.le_of_ble_eq_true rfl) dX10_readLine_181 (fun H locs hP hD hS => ?_)
                  have hP : va_P g.1 vwCl (List.flatten [bTT g tt ta o, bTown g o a pe wo tx ch jo q_97 dy sd f, bTape g ta ab sz ln kd2_93 bg2_94 nx2_95 (-1) fb]) H := hP
                  have hD : va_D A (List.flatten [bTT g tt ta o, bTown g o a pe wo tx ch jo q_97 dy sd f, bTape g ta ab sz ln kd2_93 bg2_94 nx2_95 (-1) fb]) := hD
                  refine lv_iload_n hx hb dX10_readLine_184 rfl (lv_at hl 0 rfl) ?_
                  refine lv_iconst (v := (-1)) hx hb dX10_readLine_185 (by decide) ?_
                  refine lv_icmp_eq (tgt := 193) hx hb dX10_readLine_186 (by decide) (fun cb9 => ?_) (fun cb9 => ?_)
                  · skip
                    exact absurd (show q_97.toInt = (-1) from zeq cb9 rfl (by decide)) (zDeq2 (a := 0) (b := (-1)) w99.1 (Int.le_refl _) (by decide))
                  · skip
                    have c101 : ¬ q_97.toInt = (-1) := zne cb9 rfl (by decide)
                    refine lv_iconst (v := 1) hx hb dX10_readLine_189 (by decide) ?_
                    refine lv_goto (tgt := 194) hx hb dX10_readLine_190 (by decide) ?_
                    have hP : va_P g.1 vwCl (List.flatten [bTT g tt ta o, bTown g o a pe wo tx ch jo q_97 dy sd f, bTape g ta ab sz ln kd2_93 bg2_94 nx2_95 (-1) fb]) H := hP
                    have hD : va_D A (List.flatten [bTT g tt ta o, bTown g o a pe wo tx ch jo q_97 dy sd f, bTape g ta ab sz ln kd2_93 bg2_94 nx2_95 (-1) fb]) := hD
                    obtain ⟨hP, hD⟩ := zord (g := g) (Bs' := [bTT g tt ta o, bTape g ta ab sz ln kd2_93 bg2_94 nx2_95 (-1) fb, bTown g o a pe wo tx ch jo q_97 dy sd f]) [0, 2, 1] rfl rfl hP hD
                    exact mret_z hx hb hr hlocks hS (Nat.le_of_ble_eq_true rfl) (Nat.le_of_ble_eq_true rfl) dX10_readLine_194 (kd2_93, bg2_94, nx2_95, -1, pe, wo, ch, jo, q_97, dy, f, (1 : Int32)) rfl (by decide) (show (0 ≤ pe.toInt ∧ pe.toInt ≤ 8) ∧ (0 ≤ wo.toInt ∧ wo.toInt ≤ 6) ∧ (zZ4 f) ∧ (-1 ≤ ((-1) : Int32).toInt) ∧ (0 ≤ nx2_95.toInt ∧ nx2_95.toInt ≤ 400) ∧ (0 ≤ bg2_94.toInt ∧ bg2_94.toInt ≤ 400) ∧ (zKd kd2_93.toInt bg2_94.toInt nx2_95.toInt) ∧ (zTk fb ln.toInt kd2_93.toInt bg2_94.toInt nx2_95.toInt) ∧ (1 = 1 ∧ zTO (zTLine fb ln.toInt pe.toInt wo.toInt bg.toInt) bg2_94.toInt pe.toInt pe.toInt wo.toInt wo.toInt ∧ (-1) = (-1) ∨ 1 = 0 ∧ zTLine fb ln.toInt pe.toInt wo.toInt bg.toInt (.bad ((-1) : Int32).toInt)) from ⟨(by first | assumption | omega | exact Or.inl (by decide) | exact Or.inr (by omega) | decide), (by first | assumption | omega | exact Or.inl (by decide) | exact Or.inr (by omega) | decide), (by first | assumption | omega | exact Or.inl (by decide) | exact Or.inr (by omega) | decide), (by first | assumption | omega | exact Or.inl (by decide) | exact Or.inr (by omega) | decide), (by first | assumption | omega | exact Or.inl (by decide) | exact Or.inr (by omega) | decide), (by first | assumption | omega | exact Or.inl (by decide) | exact Or.inr (by omega) | decide), (by first | assumption | omega | exact Or.inl (by decide) | exact Or.inr (by omega) | decide), (by first | assumption | omega | exact Or.inl (by decide) | exact Or.inr (by omega) | decide), (Or.inl ⟨rfl, ⟨(6, q_97.toInt, 0, 0), zTL_m 4 (by decide) hq91_k hq91_km (show zTX _ _ _ 6 _ _ from zNN_y (by decide) (by decide) hq98_k hq98_km rfl), zcp_n (by decide) rfl, zcw_n (by decide) rfl⟩, rfl⟩)⟩) hP hD
                · skip
                  refine lv_istore_n (lv' := [(1, .int (-1)), (0, .ref tt)]) hx hb dX10_readLine_175 rfl hl (by decide) rfl (fun ls hl => ?_)
                  refine lv_aload_n hx hb dX10_readLine_176 rfl (lv_at hl 1 rfl) ?_
                  refine va_get (D := g.1) (ci := 8) (v := .ref o) (C := RX10) (T := TX10) (N := 2) hx hb hts izRX10 hown hK hP 0 rfl rfl 1 (by decide) (hts _ k439) (fun _ h9 => h9) rfl dX10_readLine_177 ?_
                  refine lv_iload_n hx hb dX10_readLine_180 rfl (lv_at hl 0 rfl) ?_
                  refine va_put (D := g.1) (ci := 7) (v := .int (-1)) (ty := .int) (C := RX9) (T := TX9) (N := 19) hx hb hts izRX9 tyX9 tyX9_ok nmX9 hown hK hP hD hS 1 rfl rfl 5 (by decide) (hts _ k470) (fun _ h9 => h9) rfl (by decide +kernel) rfl rfl (Nat.le_of_ble_eq_true rfl) dX10_readLine_181 (fun H locs hP hD hS => ?_)
                  have hP : va_P g.1 vwCl (List.flatten [bTT g tt ta o, bTown g o a pe wo tx ch jo (-1) dy sd f, bTape g ta ab sz ln kd2_87 bg2_88 nx2_89 bg2_88 fb]) H := hP
                  have hD : va_D A (List.flatten [bTT g tt ta o, bTown g o a pe wo tx ch jo (-1) dy sd f, bTape g ta ab sz ln kd2_87 bg2_88 nx2_89 bg2_88 fb]) := hD
                  refine lv_iload_n hx hb dX10_readLine_184 rfl (lv_at hl 0 rfl) ?_
                  refine lv_iconst (v := (-1)) hx hb dX10_readLine_185 (by decide) ?_
                  refine lv_icmp_eq (tgt := 193) hx hb dX10_readLine_186 (by decide) (fun _ => ?_) (fun c102 => absurd (by decide) c102)
                  refine lv_iconst (v := 0) hx hb dX10_readLine_193 (by decide) ?_
                  have hP : va_P g.1 vwCl (List.flatten [bTT g tt ta o, bTown g o a pe wo tx ch jo (-1) dy sd f, bTape g ta ab sz ln kd2_87 bg2_88 nx2_89 bg2_88 fb]) H := hP
                  have hD : va_D A (List.flatten [bTT g tt ta o, bTown g o a pe wo tx ch jo (-1) dy sd f, bTape g ta ab sz ln kd2_87 bg2_88 nx2_89 bg2_88 fb]) := hD
                  obtain ⟨hP, hD⟩ := zord (g := g) (Bs' := [bTT g tt ta o, bTape g ta ab sz ln kd2_87 bg2_88 nx2_89 bg2_88 fb, bTown g o a pe wo tx ch jo (-1) dy sd f]) [0, 2, 1] rfl rfl hP hD
                  exact mret_z hx hb hr hlocks hS (Nat.le_of_ble_eq_true rfl) (Nat.le_of_ble_eq_true rfl) dX10_readLine_194 (kd2_87, bg2_88, nx2_89, bg2_88, pe, wo, ch, jo, -1, dy, f, (0 : Int32)) rfl (by decide) (show (0 ≤ pe.toInt ∧ pe.toInt ≤ 8) ∧ (0 ≤ wo.toInt ∧ wo.toInt ≤ 6) ∧ (zZ4 f) ∧ (-1 ≤ bg2_88.toInt) ∧ (0 ≤ nx2_89.toInt ∧ nx2_89.toInt ≤ 400) ∧ (0 ≤ bg2_88.toInt ∧ bg2_88.toInt ≤ 400) ∧ (zKd kd2_87.toInt bg2_88.toInt nx2_89.toInt) ∧ (zTk fb ln.toInt kd2_87.toInt bg2_88.toInt nx2_89.toInt) ∧ (0 = 1 ∧ zTO (zTLine fb ln.toInt pe.toInt wo.toInt bg.toInt) bg2_88.toInt pe.toInt pe.toInt wo.toInt wo.toInt ∧ (-1) = bg2_88 ∨ 0 = 0 ∧ zTLine fb ln.toInt pe.toInt wo.toInt bg.toInt (.bad bg2_88.toInt)) from ⟨(by first | assumption | omega | exact Or.inl (by decide) | exact Or.inr (by omega) | decide), (by first | assumption | omega | exact Or.inl (by decide) | exact Or.inr (by omega) | decide), (by first | assumption | omega | exact Or.inl (by decide) | exact Or.inr (by omega) | decide), (by first | assumption | omega | exact Or.inl (by decide) | exact Or.inr (by omega) | decide), (by first | assumption | omega | exact Or.inl (by decide) | exact Or.inr (by omega) | decide), (by first | assumption | omega | exact Or.inl (by decide) | exact Or.inr (by omega) | decide), (by first | assumption | omega | exact Or.inl (by decide) | exact Or.inr (by omega) | decide), (by first | assumption | omega | exact Or.inl (by decide) | exact Or.inr (by omega) | decide), (Or.inr ⟨rfl, zTL_m 4 (by decide) hq91_k hq91_km (show zTX _ _ _ 6 _ _ from zNN_n (by decide) (by decide) rfl hq98_k)⟩)⟩) hP hD
              · skip
                refine lv_if_eq (tgt := 195) hx hb dX10_readLine_162 (by decide) (fun _ => ?_) (fun c103 => absurd (by decide) c103)
                refine lv_aload_n hx hb dX10_readLine_195 rfl (lv_at hl 0 rfl) ?_
                refine va_get (D := g.1) (ci := 8) (v := .ref ta) (C := RX10) (T := TX10) (N := 2) hx hb hts izRX10 hown hK hP 0 rfl rfl 0 (by decide) (hts _ k441) (fun x9 h9 => u_same (hts _ k442) x9 h9) rfl dX10_readLine_196 ?_
                refine va_ldcS (q := g.2 52) hx hb hown (zra21 hT.2.1) dX10_readLine_199 ?_
                refine mcallV' (g := g) (q0 := 0) (ci := 6) (As := [.ref (g.2 52)]) (rest := []) St hK hT hA hP hD hS hl.1 [2] [0, 1] rfl rfl rfl (c_t_takeWordF l g ta ab sz ln kd bg nx (-1) fb (g.2 52) 21 zqa21 hln hnx hbg hkd hTk rfl zla21 zna21 (zlitB zla21)) (cwV 1 hts (zgL (zl4 k449 k311 k312 k277) k284) rfl rfl rfl (by decide +kernel) ⟨Nat.le_of_ble_eq_true rfl, Nat.le_of_ble_eq_true rfl⟩) rfl rfl rfl rfl (Nat.le_of_ble_eq_true rfl) dX10_readLine_201 ⟨(Nat.le_of_ble_eq_true rfl), (Nat.le_of_ble_eq_true rfl)⟩ (fun u_ H locs hq108 hP hD hS => ?_)
                obtain ⟨kd2_104, bg2_105, nx2_106, r_107⟩ := u_
                replace hq108 : (0 ≤ nx2_106.toInt ∧ nx2_106.toInt ≤ 400) ∧ (0 ≤ bg2_105.toInt ∧ bg2_105.toInt ≤ 400) ∧ (zKd kd2_104.toInt bg2_105.toInt nx2_106.toInt) ∧ (zTk fb ln.toInt kd2_104.toInt bg2_105.toInt nx2_106.toInt) ∧ (r_107 = 1 ∧ zisW fb ln.toInt bg.toInt zqa21.2.2.2 ∧ zMv fb ln.toInt bg.toInt bg2_105.toInt ∨ r_107 = 0 ∧ ¬ zisW fb ln.toInt bg.toInt zqa21.2.2.2 ∧ kd = kd2_104 ∧ bg = bg2_105 ∧ nx = nx2_106) := hq108
                have hP : va_P g.1 vwCl (List.flatten [bTT g tt ta o, bTown g o a pe wo tx ch jo tr dy sd f, bTape g ta ab sz ln kd2_104 bg2_105 nx2_106 (-1) fb]) H := hP
                have hD : va_D A (List.flatten [bTT g tt ta o, bTown g o a pe wo tx ch jo tr dy sd f, bTape g ta ab sz ln kd2_104 bg2_105 nx2_106 (-1) fb]) := hD
                refine W.widen (k := 0) (n := 0) (Nat.le_of_ble_eq_true rfl) (Nat.le_of_ble_eq_true rfl) ?_
                refine W.eq (g2 := F0 m 204 ls [.int r_107]) rfl ?_
                obtain ⟨hq108_0, hq108_1, hq108_2, hq108_3, hq108_4⟩ := hq108
                rcases hq108_4 with ⟨rfl, hq108_k, hq108_km⟩ | ⟨rfl, hq108_k, rfl, rfl, rfl⟩
                · skip
                  refine lv_if_eq (tgt := 238) hx hb dX10_readLine_204 (by decide) (fun c109 => absurd c109 (by decide)) (fun _ => ?_)
                  refine lv_aload_n hx hb dX10_readLine_207 rfl (lv_at hl 0 rfl) ?_
                  refine va_get (D := g.1) (ci := 8) (v := .ref ta) (C := RX10) (T := TX10) (N := 2) hx hb hts izRX10 hown hK hP 0 rfl rfl 0 (by decide) (hts _ k441) (fun x9 h9 => u_same (hts _ k442) x9 h9) rfl dX10_readLine_208 ?_
                  refine lv_iconst (v := 0) hx hb dX10_readLine_211 (by decide) ?_
                  refine lv_sipush (v := 999) hx hb dX10_readLine_212 (by decide) ?_
                  have hL0 : (0 : Int32).toInt = 0 := by decide
                  have hL999 : (999 : Int32).toInt = 999 := by decide
                  refine mcallV' (g := g) (q0 := 0) (ci := 6) (As := [.int 0, .int 999]) (rest := []) St hK hT hA hP hD hS hl.1 [2] [0, 1] rfl rfl rfl (c_t_numberF l g ta ab sz ln kd2_104 bg2_105 nx2_106 fb 0 999 hln hq108_0 hq108_1 hq108_2 hq108_3) (cwV 2 hts (zgL (zl4 k445 k294 k295 k277) k273) rfl rfl rfl (by decide +kernel) ⟨Nat.le_of_ble_eq_true rfl, Nat.le_of_ble_eq_true rfl⟩) rfl rfl rfl rfl (Nat.le_of_ble_eq_true rfl) dX10_readLine_215 ⟨(Nat.le_of_ble_eq_true rfl), (Nat.le_of_ble_eq_true rfl)⟩ (fun u_ H locs hq115 hP hD hS => ?_)
                  obtain ⟨kd2_110, bg2_111, nx2_112, ft2_113, q_114⟩ := u_
                  replace hq115 : (-1 ≤ ft2_113.toInt) ∧ (0 ≤ nx2_112.toInt ∧ nx2_112.toInt ≤ 400) ∧ (0 ≤ bg2_111.toInt ∧ bg2_111.toInt ≤ 400) ∧ (zKd kd2_110.toInt bg2_111.toInt nx2_112.toInt) ∧ (zTk fb ln.toInt kd2_110.toInt bg2_111.toInt nx2_112.toInt) ∧ (zNu fb ln.toInt bg2_105.toInt (0 : Int32).toInt (999 : Int32).toInt q_114 ∧ zMv fb ln.toInt bg2_105.toInt bg2_111.toInt ∧ (-1) = ft2_113 ∨ q_114 = -1 ∧ (¬ ∃ v9, zNu fb ln.toInt bg2_105.toInt (0 : Int32).toInt (999 : Int32).toInt v9) ∧ bg2_105 = ft2_113 ∧ kd2_104 = kd2_110 ∧ bg2_105 = bg2_111 ∧ nx2_106 = nx2_112) := hq115
                  have hP : va_P g.1 vwCl (List.flatten [bTT g tt ta o, bTown g o a pe wo tx ch jo tr dy sd f, bTape g ta ab sz ln kd2_110 bg2_111 nx2_112 ft2_113 fb]) H := hP
                  have hD : va_D A (List.flatten [bTT g tt ta o, bTown g o a pe wo tx ch jo tr dy sd f, bTape g ta ab sz ln kd2_110 bg2_111 nx2_112 ft2_113 fb]) := hD
                  refine W.widen (k := 0) (n := 0) (Nat.le_of_ble_eq_true rfl) (Nat.le_of_ble_eq_true rfl) ?_
                  refine W.eq (g2 := F0 m 218 ls [.int q_114]) rfl ?_
                  obtain ⟨hq115_0, hq115_1, hq115_2, hq115_3, hq115_4, hq115_5⟩ := hq115
                  rcases hq115_5 with ⟨hq115_k, hq115_km, rfl⟩ | ⟨rfl, hq115_k, rfl, rfl, rfl, rfl⟩
                  · skip
                    have w116 : 0 ≤ q_114.toInt ∧ q_114.toInt ≤ 999 := ⟨(by have h9 := hq115_k.2.2.1; omega), (by have h9 := hq115_k.2.2.2; omega)⟩
                    refine lv_istore_n (lv' := [(1, .int q_114), (0, .ref tt)]) hx hb dX10_readLine_218 rfl hl (by decide) rfl (fun ls hl => ?_)
                    refine lv_aload_n hx hb dX10_readLine_219 rfl (lv_at hl 1 rfl) ?_
                    refine va_get (D := g.1) (ci := 8) (v := .ref o) (C := RX10) (T := TX10) (N := 2) hx hb hts izRX10 hown hK hP 0 rfl rfl 1 (by decide) (hts _ k439) (fun _ h9 => h9) rfl dX10_readLine_220 ?_
                    refine lv_iload_n hx hb dX10_readLine_223 rfl (lv_at hl 0 rfl) ?_
                    refine va_put (D := g.1) (ci := 7) (v := .int q_114) (ty := .int) (C := RX9) (T := TX9) (N := 19) hx hb hts izRX9 tyX9 tyX9_ok nmX9 hown hK hP hD hS 1 rfl rfl 6 (by decide) (hts _ k471) (fun _ h9 => h9) rfl (by decide +kernel) rfl rfl (Nat.le_of_ble_eq_true rfl) dX10_readLine_224 (fun H locs hP hD hS => ?_)
                    have hP : va_P g.1 vwCl (List.flatten [bTT g tt ta o, bTown g o a pe wo tx ch jo tr q_114 sd f, bTape g ta ab sz ln kd2_110 bg2_111 nx2_112 (-1) fb]) H := hP
                    have hD : va_D A (List.flatten [bTT g tt ta o, bTown g o a pe wo tx ch jo tr q_114 sd f, bTape g ta ab sz ln kd2_110 bg2_111 nx2_112 (-1) fb]) := hD
                    refine lv_iload_n hx hb dX10_readLine_227 rfl (lv_at hl 0 rfl) ?_
                    refine lv_iconst (v := (-1)) hx hb dX10_readLine_228 (by decide) ?_
                    refine lv_icmp_eq (tgt := 236) hx hb dX10_readLine_229 (by decide) (fun cb9 => ?_) (fun cb9 => ?_)
                    · skip
                      exact absurd (show q_114.toInt = (-1) from zeq cb9 rfl (by decide)) (zDeq2 (a := 0) (b := (-1)) w116.1 (Int.le_refl _) (by decide))
                    · skip
                      have c118 : ¬ q_114.toInt = (-1) := zne cb9 rfl (by decide)
                      refine lv_iconst (v := 1) hx hb dX10_readLine_232 (by decide) ?_
                      refine lv_goto (tgt := 237) hx hb dX10_readLine_233 (by decide) ?_
                      have hP : va_P g.1 vwCl (List.flatten [bTT g tt ta o, bTown g o a pe wo tx ch jo tr q_114 sd f, bTape g ta ab sz ln kd2_110 bg2_111 nx2_112 (-1) fb]) H := hP
                      have hD : va_D A (List.flatten [bTT g tt ta o, bTown g o a pe wo tx ch jo tr q_114 sd f, bTape g ta ab sz ln kd2_110 bg2_111 nx2_112 (-1) fb]) := hD
                      obtain ⟨hP, hD⟩ := zord (g := g) (Bs' := [bTT g tt ta o, bTape g ta ab sz ln kd2_110 bg2_111 nx2_112 (-1) fb, bTown g o a pe wo tx ch jo tr q_114 sd f]) [0, 2, 1] rfl rfl hP hD
                      exact mret_z hx hb hr hlocks hS (Nat.le_of_ble_eq_true rfl) (Nat.le_of_ble_eq_true rfl) dX10_readLine_237 (kd2_110, bg2_111, nx2_112, -1, pe, wo, ch, jo, tr, q_114, f, (1 : Int32)) rfl (by decide) (show (0 ≤ pe.toInt ∧ pe.toInt ≤ 8) ∧ (0 ≤ wo.toInt ∧ wo.toInt ≤ 6) ∧ (zZ4 f) ∧ (-1 ≤ ((-1) : Int32).toInt) ∧ (0 ≤ nx2_112.toInt ∧ nx2_112.toInt ≤ 400) ∧ (0 ≤ bg2_111.toInt ∧ bg2_111.toInt ≤ 400) ∧ (zKd kd2_110.toInt bg2_111.toInt nx2_112.toInt) ∧ (zTk fb ln.toInt kd2_110.toInt bg2_111.toInt nx2_112.toInt) ∧ (1 = 1 ∧ zTO (zTLine fb ln.toInt pe.toInt wo.toInt bg.toInt) bg2_111.toInt pe.toInt pe.toInt wo.toInt wo.toInt ∧ (-1) = (-1) ∨ 1 = 0 ∧ zTLine fb ln.toInt pe.toInt wo.toInt bg.toInt (.bad ((-1) : Int32).toInt)) from ⟨(by first | assumption | omega | exact Or.inl (by decide) | exact Or.inr (by omega) | decide), (by first | assumption | omega | exact Or.inl (by decide) | exact Or.inr (by omega) | decide), (by first | assumption | omega | exact Or.inl (by decide) | exact Or.inr (by omega) | decide), (by first | assumption | omega | exact Or.inl (by decide) | exact Or.inr (by omega) | decide), (by first | assumption | omega | exact Or.inl (by decide) | exact Or.inr (by omega) | decide), (by first | assumption | omega | exact Or.inl (by decide) | exact Or.inr (by omega) | decide), (by first | assumption | omega | exact Or.inl (by decide) | exact Or.inr (by omega) | decide), (by first | assumption | omega | exact Or.inl (by decide) | exact Or.inr (by omega) | decide), (Or.inl ⟨rfl, ⟨(7, q_114.toInt, 0, 0), zTL_m 5 (by decide) hq108_k hq108_km (show zTX _ _ _ 7 _ _ from zNN_y (by decide) (by decide) hq115_k hq115_km rfl), zcp_n (by decide) rfl, zcw_n (by decide) rfl⟩, rfl⟩)⟩) hP hD
                  · skip
                    refine lv_istore_n (lv' := [(1, .int (-1)), (0, .ref tt)]) hx hb dX10_readLine_218 rfl hl (by decide) rfl (fun ls hl => ?_)
                    refine lv_aload_n hx hb dX10_readLine_219 rfl (lv_at hl 1 rfl) ?_
                    refine va_get (D := g.1) (ci := 8) (v := .ref o) (C := RX10) (T := TX10) (N := 2) hx hb hts izRX10 hown hK hP 0 rfl rfl 1 (by decide) (hts _ k439) (fun _ h9 => h9) rfl dX10_readLine_220 ?_
                    refine lv_iload_n hx hb dX10_readLine_223 rfl (lv_at hl 0 rfl) ?_
                    refine va_put (D := g.1) (ci := 7) (v := .int (-1)) (ty := .int) (C := RX9) (T := TX9) (N := 19) hx hb hts izRX9 tyX9 tyX9_ok nmX9 hown hK hP hD hS 1 rfl rfl 6 (by decide) (hts _ k471) (fun _ h9 => h9) rfl (by decide +kernel) rfl rfl (Nat.le_of_ble_eq_true rfl) dX10_readLine_224 (fun H locs hP hD hS => ?_)
                    have hP : va_P g.1 vwCl (List.flatten [bTT g tt ta o, bTown g o a pe wo tx ch jo tr (-1) sd f, bTape g ta ab sz ln kd2_104 bg2_105 nx2_106 bg2_105 fb]) H := hP
                    have hD : va_D A (List.flatten [bTT g tt ta o, bTown g o a pe wo tx ch jo tr (-1) sd f, bTape g ta ab sz ln kd2_104 bg2_105 nx2_106 bg2_105 fb]) := hD
                    refine lv_iload_n hx hb dX10_readLine_227 rfl (lv_at hl 0 rfl) ?_
                    refine lv_iconst (v := (-1)) hx hb dX10_readLine_228 (by decide) ?_
                    refine lv_icmp_eq (tgt := 236) hx hb dX10_readLine_229 (by decide) (fun _ => ?_) (fun c119 => absurd (by decide) c119)
                    refine lv_iconst (v := 0) hx hb dX10_readLine_236 (by decide) ?_
                    have hP : va_P g.1 vwCl (List.flatten [bTT g tt ta o, bTown g o a pe wo tx ch jo tr (-1) sd f, bTape g ta ab sz ln kd2_104 bg2_105 nx2_106 bg2_105 fb]) H := hP
                    have hD : va_D A (List.flatten [bTT g tt ta o, bTown g o a pe wo tx ch jo tr (-1) sd f, bTape g ta ab sz ln kd2_104 bg2_105 nx2_106 bg2_105 fb]) := hD
                    obtain ⟨hP, hD⟩ := zord (g := g) (Bs' := [bTT g tt ta o, bTape g ta ab sz ln kd2_104 bg2_105 nx2_106 bg2_105 fb, bTown g o a pe wo tx ch jo tr (-1) sd f]) [0, 2, 1] rfl rfl hP hD
                    exact mret_z hx hb hr hlocks hS (Nat.le_of_ble_eq_true rfl) (Nat.le_of_ble_eq_true rfl) dX10_readLine_237 (kd2_104, bg2_105, nx2_106, bg2_105, pe, wo, ch, jo, tr, -1, f, (0 : Int32)) rfl (by decide) (show (0 ≤ pe.toInt ∧ pe.toInt ≤ 8) ∧ (0 ≤ wo.toInt ∧ wo.toInt ≤ 6) ∧ (zZ4 f) ∧ (-1 ≤ bg2_105.toInt) ∧ (0 ≤ nx2_106.toInt ∧ nx2_106.toInt ≤ 400) ∧ (0 ≤ bg2_105.toInt ∧ bg2_105.toInt ≤ 400) ∧ (zKd kd2_104.toInt bg2_105.toInt nx2_106.toInt) ∧ (zTk fb ln.toInt kd2_104.toInt bg2_105.toInt nx2_106.toInt) ∧ (0 = 1 ∧ zTO (zTLine fb ln.toInt pe.toInt wo.toInt bg.toInt) bg2_105.toInt pe.toInt pe.toInt wo.toInt wo.toInt ∧ (-1) = bg2_105 ∨ 0 = 0 ∧ zTLine fb ln.toInt pe.toInt wo.toInt bg.toInt (.bad bg2_105.toInt)) from ⟨(by first | assumption | omega | exact Or.inl (by decide) | exact Or.inr (by omega) | decide), (by first | assumption | omega | exact Or.inl (by decide) | exact Or.inr (by omega) | decide), (by first | assumption | omega | exact Or.inl (by decide) | exact Or.inr (by omega) | decide), (by first | assumption | omega | exact Or.inl (by decide) | exact Or.inr (by omega) | decide), (by first | assumption | omega | exact Or.inl (by decide) | exact Or.inr (by omega) | decide), (by first | assumption | omega | exact Or.inl (by decide) | exact Or.inr (by omega) | decide), (by first | assumption | omega | exact Or.inl (by decide) | exact Or.inr (by omega) | decide), (by first | assumption | omega | exact Or.inl (by decide) | exact Or.inr (by omega) | decide), (Or.inr ⟨rfl, zTL_m 5 (by decide) hq108_k hq108_km (show zTX _ _ _ 7 _ _ from zNN_n (by decide) (by decide) rfl hq115_k)⟩)⟩) hP hD
                · skip
                  refine lv_if_eq (tgt := 238) hx hb dX10_readLine_204 (by decide) (fun _ => ?_) (fun c120 => absurd (by decide) c120)
                  refine lv_aload_n hx hb dX10_readLine_238 rfl (lv_at hl 0 rfl) ?_
                  refine va_get (D := g.1) (ci := 8) (v := .ref ta) (C := RX10) (T := TX10) (N := 2) hx hb hts izRX10 hown hK hP 0 rfl rfl 0 (by decide) (hts _ k441) (fun x9 h9 => u_same (hts _ k442) x9 h9) rfl dX10_readLine_239 ?_
                  refine mcallV' (g := g) (q0 := 0) (ci := 6) (As := []) (rest := []) St hK hT hA hP hD hS hl.1 [2] [0, 1] rfl rfl rfl (c_t_refuseF l g ta ab sz ln kd bg nx fb ) (cwV 0 hts (zgL (zl4 k443 k279 k280 k277) k269) rfl rfl rfl (by decide +kernel) ⟨Nat.le_of_ble_eq_true rfl, Nat.le_of_ble_eq_true rfl⟩) rfl rfl rfl rfl (Nat.le_of_ble_eq_true rfl) dX10_readLine_242 ⟨(Nat.le_of_ble_eq_true rfl), (Nat.le_of_ble_eq_true rfl)⟩ (fun _u H locs hq121 hP hD hS => ?_)
                  have hP : va_P g.1 vwCl (List.flatten [bTT g tt ta o, bTown g o a pe wo tx ch jo tr dy sd f, bTape g ta ab sz ln kd bg nx bg fb]) H := hP
                  have hD : va_D A (List.flatten [bTT g tt ta o, bTown g o a pe wo tx ch jo tr dy sd f, bTape g ta ab sz ln kd bg nx bg fb]) := hD
                  refine W.widen (k := 0) (n := 0) (Nat.le_of_ble_eq_true rfl) (Nat.le_of_ble_eq_true rfl) ?_
                  refine W.eq (g2 := F0 m 245 ls [.int 0]) rfl ?_
                  have hP : va_P g.1 vwCl (List.flatten [bTT g tt ta o, bTown g o a pe wo tx ch jo tr dy sd f, bTape g ta ab sz ln kd bg nx bg fb]) H := hP
                  have hD : va_D A (List.flatten [bTT g tt ta o, bTown g o a pe wo tx ch jo tr dy sd f, bTape g ta ab sz ln kd bg nx bg fb]) := hD
                  obtain ⟨hP, hD⟩ := zord (g := g) (Bs' := [bTT g tt ta o, bTape g ta ab sz ln kd bg nx bg fb, bTown g o a pe wo tx ch jo tr dy sd f]) [0, 2, 1] rfl rfl hP hD
                  exact mret_z hx hb hr hlocks hS (Nat.le_of_ble_eq_true rfl) (Nat.le_of_ble_eq_true rfl) dX10_readLine_245 (kd, bg, nx, bg, pe, wo, ch, jo, tr, dy, f, (0 : Int32)) rfl (by decide) (show (0 ≤ pe.toInt ∧ pe.toInt ≤ 8) ∧ (0 ≤ wo.toInt ∧ wo.toInt ≤ 6) ∧ (zZ4 f) ∧ (-1 ≤ bg.toInt) ∧ (0 ≤ nx.toInt ∧ nx.toInt ≤ 400) ∧ (0 ≤ bg.toInt ∧ bg.toInt ≤ 400) ∧ (zKd kd.toInt bg.toInt nx.toInt) ∧ (zTk fb ln.toInt kd.toInt bg.toInt nx.toInt) ∧ (0 = 1 ∧ zTO (zTLine fb ln.toInt pe.toInt wo.toInt bg.toInt) bg.toInt pe.toInt pe.toInt wo.toInt wo.toInt ∧ (-1) = bg ∨ 0 = 0 ∧ zTLine fb ln.toInt pe.toInt wo.toInt bg.toInt (.bad bg.toInt)) from ⟨(by first | assumption | omega | exact Or.inl (by decide) | exact Or.inr (by omega) | decide), (by first | assumption | omega | exact Or.inl (by decide) | exact Or.inr (by omega) | decide), (by first | assumption | omega | exact Or.inl (by decide) | exact Or.inr (by omega) | decide), (by first | assumption | omega | exact Or.inl (by decide) | exact Or.inr (by omega) | decide), (by first | assumption | omega | exact Or.inl (by decide) | exact Or.inr (by omega) | decide), (by first | assumption | omega | exact Or.inl (by decide) | exact Or.inr (by omega) | decide), (by first | assumption | omega | exact Or.inl (by decide) | exact Or.inr (by omega) | decide), (by first | assumption | omega | exact Or.inl (by decide) | exact Or.inr (by omega) | decide), (Or.inr ⟨rfl, zTL_no rfl hq2_k hq14_k hq29_k hq43_k hq57_k hq74_k hq91_k hq108_k⟩)⟩) hP hD
