/-! town of both sides -/
theorem zTw_of {f : Nat → Int32} {n t b q m P W p w : Int} {k : Nat} (hk : k = 14) (hb : b = zbg f n t) (h : (n ≤ b ∧ p = P ∧ w = W) ∨ (¬ n ≤ b ∧ zTLs f n k P W b (.ok (m - q) p w))) : zTwR f n t P W p w := by
  subst hk; subst hb
  rcases h with h | ⟨h1, h2⟩
  · exact Or.inl h
  · exact Or.inr ⟨h1, _, h2⟩
theorem zTwB_of {f : Nat → Int32} {n t b fl P W : Int} {k : Nat} (hk : k = 14) (hb : b = zbg f n t) (h1 : ¬ n ≤ b) (h2 : zTLs f n k P W b (.bad fl)) : zTwB f n t P W fl := by
  subst hk; subst hb; exact ⟨h1, h2⟩
theorem zTwR_c {f : Nat → Int32} {n n' t t' P W p w : Int} (en : n = n') (et : t = t') (h : zTwR f n t P W p w) : zTwR f n' t' P W p w := by subst en; subst et; exact h
theorem zTwR_w {f : Nat → Int32} {n t P W p w p' w' : Int} (e1 : p' = p) (e2 : w' = w) (h : zTwR f n t P W p w) : zTwR f n t P W p' w' := by subst e1; subst e2; exact h
theorem zTwB_c {f : Nat → Int32} {n n' t t' P W fl : Int} (en : n = n') (et : t = t') (h : zTwB f n t P W fl) : zTwB f n' t' P W fl := by subst en; subst et; exact h
