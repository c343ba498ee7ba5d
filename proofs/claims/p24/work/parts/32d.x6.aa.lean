theorem zw_stopg {c : Int → Bool} {f : Nat → Int32} {e : Nat} : ∀ (n p : Nat), e - p ≤ n → ¬ (zwg c f e n p < e ∧ c (f (zwg c f e n p)).toInt = true)
  | 0, p, h => fun q => by have := q.1; unfold zwg at this; omega
  | n + 1, p, h => by
    show ¬ ((if p < e ∧ c (f p).toInt = true then zwg c f e n (p + 1) else p) < e ∧ c (f (if p < e ∧ c (f p).toInt = true then zwg c f e n (p + 1) else p)).toInt = true)
    by_cases q : p < e ∧ c (f p).toInt = true
    · rw [if_pos q]; exact zw_stopg n (p + 1) (by omega)
    · rw [if_neg q]; exact q
theorem zw_idem {c : Int → Bool} {f : Nat → Int32} {e p : Nat} : zw c f e (zw c f e p) = zw c f e p := zw_n (zw_stopg _ _ (Nat.le_refl _))
theorem zbg_0 (f : Nat → Int32) (n p : Int) : 0 ≤ zbg f n p := Int.natCast_nonneg _
theorem zbg_idem {f : Nat → Int32} {n p : Int} : zbg f n (zbg f n p) = zbg f n p := by
  unfold zbg; rw [Int.toNat_natCast, zw_idem]
theorem zbg_sk {f : Nat → Int32} {n p b : Int} (h : zSk f n p b) : zbg f n p = b := h.symm
theorem zbg_fx {f : Nat → Int32} {n p b : Int} (h : b = zbg f n p) : zbg f n b = b := by rw [h, zbg_idem]
theorem zisS_nx {f : Nat → Int32} {n b c : Int} (h : zisS f n b c) : znx f n b = b + 1 := by
  have h := h.1
  unfold zkd at h
  by_cases q : n ≤ b
  · rw [if_pos q] at h; exact absurd h (by decide)
  · rw [if_neg q] at h
    by_cases r : zcL (f b.toNat).toInt = true
    · rw [if_pos r] at h; exact absurd h (by decide)
    · rw [if_neg r] at h
      by_cases t : zcD (f b.toNat).toInt = true
      · rw [if_pos t] at h; exact absurd h (by decide)
      · unfold znx; rw [if_neg q, if_neg r, if_neg t]
theorem zkd_figW {f : Nat → Int32} {n : Int} {b : Int32} {bs : List Int32} (hc : 48 ≤ (f b.toNatClampNeg).toInt ∧ (f b.toNatClampNeg).toInt ≤ 57) : ¬ zisW f n b.toInt bs := fun q => by
  rw [zcl] at hc
  by_cases h : n ≤ b.toInt
  · exact zisW_e h q
  · have := q.1
    unfold zkd at this
    rw [if_neg h, if_neg (by rw [zcL_f (by omega)]; decide), if_pos (zcD_t hc.1 hc.2)] at this
    exact absurd this (by decide)
theorem zkd_figN {f : Nat → Int32} {n lo hi : Int} {b : Int32} (hc : (f b.toNatClampNeg).toInt < 48 ∨ 57 < (f b.toNatClampNeg).toInt) : ¬ ∃ v, zNu f n b.toInt lo hi v := fun ⟨v, q, _⟩ => by
  rw [zcl] at hc
  have h : ¬ n ≤ b.toInt := fun h => absurd (q.1.symm.trans (zkd_e h)) (by decide)
  have := q.1
  unfold zkd at this
  rw [if_neg h, if_neg (c := zcD (f b.toInt.toNat).toInt = true) (by rw [zcD_f (by omega)]; decide)] at this
  by_cases r : zcL (f b.toInt.toNat).toInt = true
  · rw [if_pos r] at this; exact absurd this (by decide)
  · rw [if_neg r] at this; exact absurd this (by decide)
/-- behind a part -/
def zSumT (f : Nat → Int32) (n b : Int) (r : zRes) : Prop := (¬ zisS f n b 43 ∧ r = .ok b) ∨ (zisS f n b 43 ∧ zSum f n (znt f n b) r)
theorem zSu_t {f : Nat → Int32} {n b x : Int} {r : zRes} (h : zPt f n b) (e : x = znx f n b) (t : zSumT f n (zbg f n x) r) : zSum f n b r := by
  subst e
  rcases t with ⟨h1, h2⟩ | ⟨h1, h2⟩
  · subst h2; exact .one h h1
  · exact .more h h1 h2
theorem zBe {f : Nat → Int32} {n p q t : Int} (e : p = zbg f n t) (h : q = zbg f n p) : q = zbg f n t := by rw [h, e, zbg_idem]
theorem zBw {f : Nat → Int32} {n p t : Int} {bs : List Int32} (e : p = zbg f n t) (h : ¬ zisW f n (zbg f n p) bs) : ¬ zisW f n (zbg f n t) bs := by rw [e, zbg_idem] at h; exact h
theorem zBy {f : Nat → Int32} {n p t : Int} {bs : List Int32} (e : p = zbg f n t) (h : zisW f n (zbg f n p) bs) : zisW f n (zbg f n t) bs := by rw [e, zbg_idem] at h; exact h
theorem zBx {f : Nat → Int32} {n p t q : Int} (e : p = zbg f n t) (h : q = znx f n (zbg f n p)) : q = znx f n (zbg f n t) := by rw [e, zbg_idem] at h; exact h
theorem zBn {f : Nat → Int32} {n p t lo hi : Int} (e : p = zbg f n t) (h : ¬ ∃ v, zNu f n (zbg f n p) lo hi v) : ¬ ∃ v, zNu f n (zbg f n t) lo hi v := by rw [e, zbg_idem] at h; exact h
theorem zBv {f : Nat → Int32} {n p t lo hi : Int} {v : Int32} (e : p = zbg f n t) (h : zNu f n (zbg f n p) lo hi v) : zNu f n (zbg f n t) lo hi v := by rw [e, zbg_idem] at h; exact h
theorem zB0 {f : Nat → Int32} {n q t : Int} (h : q = zbg f n t) : 0 ≤ q := by rw [h]; exact zbg_0 f n t
theorem zm1 {x : Int32} (h : x.toInt = -1) : (-1) = x := Int32.toInt_inj.mp ((by decide : ((-1 : Int32)).toInt = -1).trans h.symm)
theorem zSu_plus {f : Nat → Int32} {n a0 a1 a2 c t : Int} {r : zRes} (J : ∀ r9, zSumT f n (zbg f n a0) r9 → zSum f n (zbg f n t) r9) (sk : zSk f n a0 a1) (hs : zisS f n a1 c) (hc : c = 43) (e : a2 = a1 + 1) (h : zSum f n (zbg f n a2) r) : zSum f n (zbg f n t) r := by
  subst hc
  have e1 : zbg f n a0 = a1 := sk.symm
  refine J r (Or.inr ⟨by rw [e1]; exact hs, ?_⟩)
  rw [e1]; unfold znt; rw [zisS_nx hs, ← e]; exact h
theorem zSu_end {f : Nat → Int32} {n a0 a1 c t : Int} (J : ∀ r9, zSumT f n (zbg f n a0) r9 → zSum f n (zbg f n t) r9) (sk : zSk f n a0 a1) (hs : ¬ zisS f n a1 c) (hc : c = 43) : zSum f n (zbg f n t) (.ok (zbg f n a1)) := by
  subst hc
  have e1 : zbg f n a0 = a1 := sk.symm
  exact J _ (Or.inl ⟨by rw [e1]; exact hs, by rw [zbg_fx sk, e1]⟩)
theorem zMvb {f : Nat → Int32} {n b a : Int} (h : a = znx f n b) : zMv f n b (zbg f n a) := by subst h; rfl
theorem zBr {f : Nat → Int32} {n p t : Int} {R : Int → zRes → Prop} {r : zRes} (e : p = zbg f n t) (h : R (zbg f n p) r) : R (zbg f n t) r := by rw [e, zbg_idem] at h; exact h
theorem zBsn {f : Nat → Int32} {n p t c d : Int} (e : p = zbg f n t) (h : ¬ zisS f n p c) (hc : c = d) : ¬ zisS f n (zbg f n t) d := by rw [← e, ← hc]; exact h
theorem zPl_allM {f : Nat → Int32} {n b a3 a5 a6 : Int} {r : zRes} (h : ¬ (zisW f n b zwDry ∨ zisW f n b zwOwner)) (h1 : zSum f n b (.ok (zbg f n a3))) (e : a5 = zbg f n a3) (h2 : zLG f n a5) (e6 : a6 = a5 + 1) (h3 : zSum f n (zbg f n a6) r) : zPlain f n b r := by
  have nx : znx f n a5 = a5 + 1 := h2.elim zisS_nx zisS_nx
  refine .all h h1 (e ▸ h2) ?_
  rw [← e]; unfold znt; rw [nx, ← e6]; exact h3
theorem zPl_bad2M {f : Nat → Int32} {n b a3 a5 : Int} (h : ¬ (zisW f n b zwDry ∨ zisW f n b zwOwner)) (h1 : zSum f n b (.ok (zbg f n a3))) (e : a5 = zbg f n a3) (h2 : ¬ zLG f n (zbg f n a3)) : zPlain f n b (.bad a5) := by
  rw [e]; exact .bad2 h h1 h2
theorem zBq {f : Nat → Int32} {n p t : Int} {R : Int → zRes → Prop} {r : zRes} (e : p = zbg f n t) (h : R p r) : R (zbg f n t) r := e ▸ h
theorem zAt_0M {f : Nat → Int32} {n b q : Int} (e : q = b) (h : zDeep f n b) : zAtom f n 0 b (.bad q) := by rw [e]; exact zAt_0 h
theorem zAt_notM {f : Nat → Int32} {n b a : Int} {k : Nat} {r : zRes} (h : zisW f n b zwNot) (e : a = znx f n b) (p : zAtom f n k (zbg f n a) r) : zAtom f n (k + 1) b r := Or.inl ⟨h, by subst e; exact p⟩
theorem zAt_parM {f : Nat → Int32} {n b a c : Int} {k : Nat} {r : zRes} (hs : zisS f n b c) (hc : c = 40) (e : a = b + 1) (p : zPar f n (zCond f n (zAtom f n k)) (zbg f n a) r) : zAtom f n (k + 1) b r := by
  subst hc
  refine zAt_s (Or.inr hs) (zDp_p hs ?_ p)
  unfold zMv zSk; rw [zisS_nx hs, ← e]; rfl
theorem zPar_shutM {f : Nat → Int32} {n b a4 a5 a6 c : Int} {C : Int → zRes → Prop} (h : C b (.ok (zbg f n a4))) (e : a5 = zbg f n a4) (hs : zisS f n a5 c) (hc : c = 41) (e6 : a6 = a5 + 1) : zPar f n C b (.ok (zbg f n a6)) := by
  subst hc
  rw [← e] at h
  refine zPar_shut h hs ?_
  unfold zMv zSk; rw [zisS_nx hs, ← e6]; rfl
theorem zPar_openM {f : Nat → Int32} {n b a4 a5 c : Int} {C : Int → zRes → Prop} (h : C b (.ok (zbg f n a4))) (e : a5 = zbg f n a4) (hs : ¬ zisS f n a5 c) (hc : c = 41) : zPar f n C b (.bad a5) := by
  subst hc
  rw [← e] at h
  exact .open_ h hs
/-- behind an atom of a condition -/
def zCoT (f : Nat → Int32) (n : Int) (A : Int → zRes → Prop) (b : Int) (r : zRes) : Prop := (¬ (zisW f n b zwAnd ∨ zisW f n b zwOr) ∧ r = .ok b) ∨ ((zisW f n b zwAnd ∨ zisW f n b zwOr) ∧ zCond f n A (znt f n b) r)
theorem zCo_t {f : Nat → Int32} {n b e : Int} {A : Int → zRes → Prop} {r : zRes} (h : A b (.ok e)) (t : zCoT f n A e r) : zCond f n A b r := by
  rcases t with ⟨h1, h2⟩ | ⟨h1, h2⟩
  · subst h2; exact .one h h1
  · exact .more h h1 h2
theorem zCo_w {f : Nat → Int32} {n a0 a1 t : Int} {A : Int → zRes → Prop} {r : zRes} (J : ∀ r9, zCoT f n A (zbg f n a0) r9 → zCond f n A (zbg f n t) r9) (h : zisW f n (zbg f n a0) zwAnd ∨ zisW f n (zbg f n a0) zwOr) (e : a1 = znx f n (zbg f n a0)) (k : zCond f n A (zbg f n a1) r) : zCond f n A (zbg f n t) r := J r (Or.inr ⟨h, by subst e; exact k⟩)
theorem zCo_end {f : Nat → Int32} {n a0 a1 t : Int} {A : Int → zRes → Prop} (J : ∀ r9, zCoT f n A (zbg f n a0) r9 → zCond f n A (zbg f n t) r9) (h : ¬ (zisW f n (zbg f n a0) zwAnd ∨ zisW f n (zbg f n a0) zwOr)) (e : a1 = zbg f n a0) : zCond f n A (zbg f n t) (.ok (zbg f n a1)) := by
  rw [e, zbg_idem]; exact J _ (Or.inl ⟨h, rfl⟩)
theorem zEv_end {f : Nat → Int32} {n a0 a1 t : Int} {A : Int → zRes → Prop} (J : ∀ r9, zCoT f n A (zbg f n a0) r9 → zCond f n A (zbg f n t) r9) (h : ¬ zisW f n (zbg f n a0) zwAnd) (e : a1 = zbg f n a0) : ¬ zisW f n (zbg f n a1) zwAnd ∧ ∀ r9, zCoT f n A (zbg f n a1) r9 → zCond f n A (zbg f n t) r9 := by
  rw [e, zbg_idem]; exact ⟨h, J⟩
/-! what is read ends within the text -/
theorem zMv_le {f : Nat → Int32} {n b b2 : Int} (h0 : 0 ≤ b) (hk : ¬ zkd f n b = 0) (m : zMv f n b b2) : b2 ≤ n := by
  have h' : ¬ n ≤ b := fun q => hk (by unfold zkd; rw [if_pos q])
  unfold zMv zSk at m
  have hx : 0 ≤ znx f n b ∧ znx f n b ≤ n := by
    unfold znx
    rw [if_neg h']
    by_cases r : zcL (f b.toNat).toInt = true
    · rw [if_pos r]
      have := zw_le (c := zcL) (f := f) (e := n.toNat) (p := b.toNat + 1) (by omega)
      omega
    · rw [if_neg r]
      by_cases t : zcD (f b.toNat).toInt = true
      · rw [if_pos t]
        have := zw_le (c := zcD) (f := f) (e := n.toNat) (p := b.toNat + 1) (by omega)
        omega
      · rw [if_neg t]; omega
  have := zw_le (c := zcS) (f := f) (e := n.toNat) (p := (znx f n b).toNat) (by omega)
  omega
def zEn (n : Int) (A : Int → zRes → Prop) : Prop := ∀ b q, 0 ≤ b → A b (.ok q) → q ≤ n
theorem zSum_en (f : Nat → Int32) (n : Int) : zEn n (zSum f n) := by
  intro b q h0 h
  refine zSum.ind (P := fun b r => 0 ≤ b → ∀ q, r = .ok q → q ≤ n) ?_ ?_ ?_ h h0 q rfl
  · intro b _ _ q e; exact zRes.bo e
  · intro b h _ h0 q e
    have l1 : znt f n b ≤ n := zMv_le h0 (zPt_z h) rfl
    rw [← zRes.okj e]; exact l1
  · intro b r h hs ih h0 q e
    have l1 : b < znt f n b := zMv_lt h0 (zPt_z h) rfl
    have l2 : znt f n b < znt f n (znt f n b) := zMv_lt (by omega) (zisS_z hs) rfl
    exact ih (by omega) q e
theorem zPlain_en (f : Nat → Int32) (n : Int) : zEn n (zPlain f n) := fun b q h0 h => by
  rcases h with ⟨h, e⟩ | ⟨h, ⟨q', h1, e⟩ | ⟨b1, h1, ⟨h2, e⟩ | ⟨h2, h3⟩⟩⟩
  · have l1 : znt f n b ≤ n := zMv_le h0 (h.elim zisW_z zisW_z) rfl
    rw [zRes.okj e]; exact l1
  · exact zRes.ob e
  · exact zRes.ob e
  · have l1 := zSum_gt f n _ _ h0 h1
    have l2 : b1 < znt f n b1 := zMv_lt (by omega) (zLG_z h2) rfl
    exact zSum_en f n _ _ (Int.le_trans (by omega) (Int.le_of_lt l2)) h3
theorem zCond_en {f : Nat → Int32} {n : Int} {A : Int → zRes → Prop} (G : zGt A) (E : zEn n A) : zEn n (zCond f n A) := by
  intro b q h0 h
  refine zCond.ind (P := fun b r => 0 ≤ b → ∀ q, r = .ok q → q ≤ n) ?_ ?_ ?_ h h0 q rfl
  · intro b q' _ _ q e; exact zRes.bo e
  · intro b b1 h _ h0 q e
    rw [← zRes.okj e]; exact E _ _ h0 h
  · intro b b1 r h hs ih h0 q e
    have l1 := G _ _ h0 h
    have l2 : b1 < znt f n b1 := zMv_lt (by omega) (hs.elim zisW_z zisW_z) rfl
    exact ih (Int.le_trans (by omega) (Int.le_of_lt l2)) q e
theorem zPar_en {f : Nat → Int32} {n : Int} {C : Int → zRes → Prop} (G : zGt C) : zEn n (zPar f n C) := fun b q h0 h => by
  rcases h with ⟨q', h, e⟩ | ⟨b1, h, ⟨hs, e⟩ | ⟨hs, e⟩⟩
  · exact zRes.ob e
  · have l1 := G _ _ h0 h
    have l2 : znt f n b1 ≤ n := zMv_le (by omega) (zisS_z hs) rfl
    rw [zRes.okj e]; exact l2
  · exact zRes.ob e
theorem zAtom_en (f : Nat → Int32) (n : Int) : ∀ k, zEn n (zAtom f n k)
  | 0 => fun b q h0 h => by
    rcases h with ⟨_, h⟩ | ⟨_, h⟩
    · exact zRes.ob h
    · exact zPlain_en f n b q h0 h
  | k + 1 => fun b q h0 h => by
    have G := zAtom_gt f n k
    have E := zAtom_en f n k
    rcases h with ⟨h1, h⟩ | ⟨_, h1, h⟩ | ⟨_, h⟩
    · have l : b < znt f n b := zMv_lt h0 (zisW_z h1) rfl
      exact E _ _ (Int.le_trans h0 (Int.le_of_lt l)) h
    · have l : b < znt f n b := zMv_lt h0 (zisS_z h1) rfl
      exact zPar_en (zCond_gt G) _ _ (Int.le_trans h0 (Int.le_of_lt l)) h
    · exact zPlain_en f n b q h0 h
theorem zLLine_en (f : Nat → Int32) (n : Int) : zEn n (zLLine f n) := fun b q h0 h => by
  rcases h with ⟨h, e⟩ | ⟨h, ⟨hn, e⟩ | ⟨⟨v, hn⟩, ⟨hi, e⟩ | ⟨hi, hc⟩⟩⟩
  · exact zRes.ob e
  · exact zRes.ob e
  · have l1 : b < znt f n b := zMv_lt h0 (h.elim zisW_z zisW_z) rfl
    have l2 : znt f n (znt f n b) ≤ n := zMv_le (by omega) (zNu_z hn) rfl
    rw [zRes.okj e]; exact l2
  · have l1 : b < znt f n b := zMv_lt h0 (h.elim zisW_z zisW_z) rfl
    have l2 : znt f n b < znt f n (znt f n b) := zMv_lt (by omega) (zNu_z hn) rfl
    have l3 : znt f n (znt f n b) < znt f n (znt f n (znt f n b)) := zMv_lt (by omega) (zisW_z hi) rfl
    exact zCond_en (zAtom_gt f n 6) (zAtom_en f n 6) _ _ (by omega) hc
/-! a line of the law -/
theorem zLL_bad1M {f : Nat → Int32} {n b q : Int} (e : q = b) (h : ¬ (zisW f n b zwRaise ∨ zisW f n b zwLower)) : zLLine f n b (.bad q) := by rw [e]; exact .bad1 h
theorem zLL_bad2M {f : Nat → Int32} {n b a q : Int} (h : zisW f n b zwRaise ∨ zisW f n b zwLower) (e : a = znx f n b) (eq : q = zbg f n a) (hn : ¬ ∃ v, zNu f n (zbg f n a) 0 30 v) : zLLine f n b (.bad q) := by
  subst e; rw [eq]; exact .bad2 h hn
theorem zLL_plainM {f : Nat → Int32} {n b a1 a2 a3 : Int} {v : Int32} (h : zisW f n b zwRaise ∨ zisW f n b zwLower) (e1 : a1 = znx f n b) (hn : zNu f n (zbg f n a1) 0 30 v) (e2 : a2 = znx f n (zbg f n a1)) (hi : ¬ zisW f n (zbg f n a2) zwIf) (e3 : a3 = zbg f n a2) : zLLine f n b (.ok (zbg f n a3)) := by
  subst e1; subst e2; rw [e3, zbg_idem]; exact .plain h ⟨v, hn⟩ hi
theorem zLL_condM {f : Nat → Int32} {n b a1 a2 a3 : Int} {v : Int32} {r : zRes} (h : zisW f n b zwRaise ∨ zisW f n b zwLower) (e1 : a1 = znx f n b) (hn : zNu f n (zbg f n a1) 0 30 v) (e2 : a2 = znx f n (zbg f n a1)) (hi : zisW f n (zbg f n a2) zwIf) (e3 : a3 = znx f n (zbg f n a2)) (hc : zCond f n (zAtom f n 6) (zbg f n a3) r) : zLLine f n b r := by
  subst e1; subst e2; subst e3; exact .cond h ⟨v, hn⟩ hi hc
/-! the lines of the law: what holds between two of them -/
def zRdJ (f : Nat → Int32) (n t c a : Int) : Prop := ∀ r9, zLines f n (zLLine f n) (12 - c).toNat (zbg f n a) r9 → zLines f n (zLLine f n) 12 (zbg f n t) r9
def zRd (f : Nat → Int32) (n t g fl c a : Int) : Prop :=
  (g = 1 ∧ fl = -1 ∧ 0 ≤ c ∧ c ≤ 12 ∧ ¬ n ≤ zbg f n t ∧ zRdJ f n t c a) ∨
  (g = 0 ∧ fl = -1 ∧ ((c = 0 ∧ n ≤ zbg f n t) ∨ (1 ≤ c ∧ c ≤ 12 ∧ ¬ n ≤ zbg f n t ∧ zLines f n (zLLine f n) 12 (zbg f n t) (.ok (12 - c))))) ∨
  (0 ≤ fl ∧ ¬ n ≤ zbg f n t ∧ zLines f n (zLLine f n) 12 (zbg f n t) (.bad fl))
theorem zRd_i1 {f : Nat → Int32} {n t g fl c a : Int} (hg : g = 1) (hf : fl = -1) (hc : c = 0) (sk : zSk f n t a) (h : a < n) : zRd f n t g fl c a := by
  have e : zbg f n t = a := zbg_sk sk
  refine Or.inl ⟨hg, hf, by omega, by omega, by omega, fun r9 h9 => ?_⟩
  rw [zbg_fx sk, ← e, show (12 - c).toNat = 12 by omega] at h9; exact h9
theorem zRd_i0 {f : Nat → Int32} {n t g fl c a : Int} (hg : g = 0) (hf : fl = -1) (hc : c = 0) (sk : zSk f n t a) (h : n ≤ a) : zRd f n t g fl c a := by
  have e : zbg f n t = a := zbg_sk sk
  exact Or.inr (Or.inl ⟨hg, hf, Or.inl ⟨hc, by omega⟩⟩)
theorem zRd_A {f : Nat → Int32} {n t g fl c a : Int} (h : zRd f n t g fl c a) (hg : ¬ g = 0) (hf : fl = -1) : (0 ≤ c ∧ c ≤ 12) ∧ ¬ n ≤ zbg f n t ∧ zRdJ f n t c a := by
  rcases h with ⟨_, _, h0, h1, h2, h3⟩ | ⟨h, _⟩ | ⟨h, _⟩
  · exact ⟨⟨h0, h1⟩, h2, h3⟩
  · exact absurd h hg
  · exact absurd h (by omega)
theorem zRd_a {f : Nat → Int32} {n t c a b1 g' fl' c' a' : Int} (hc : c = 12) (N : ¬ n ≤ zbg f n t) (J : zRdJ f n t c a) (sk : zSk f n a b1) (hf : fl' = b1) : zRd f n t g' fl' c' a' := by
  have e : zbg f n a = b1 := zbg_sk sk
  have h0 := zbg_0 f n a
  refine Or.inr (Or.inr ⟨by omega, N, ?_⟩)
  rw [hf, ← e]; exact J _ (zLi_none (by omega))
theorem zRd_b {f : Nat → Int32} {n t c a b1 g' fl' c' a' : Int} (h12 : ¬ c = 12) (B : 0 ≤ c ∧ c ≤ 12) (N : ¬ n ≤ zbg f n t) (J : zRdJ f n t c a) (sk : zSk f n a b1) (hl : zLLine f n (zbg f n b1) (.bad fl')) (h0 : 0 ≤ fl') : zRd f n t g' fl' c' a' := by
  have e : zbg f n a = b1 := zbg_sk sk
  rw [zbg_fx sk, ← e] at hl
  exact Or.inr (Or.inr ⟨h0, N, J _ (zLi_wrong (by omega) hl)⟩)
theorem zRd_c {f : Nat → Int32} {n t c a b1 a2 b2 g' fl' c' a' : Int} (h12 : ¬ c = 12) (B : 0 ≤ c ∧ c ≤ 12) (N : ¬ n ≤ zbg f n t) (J : zRdJ f n t c a) (sk : zSk f n a b1) (hl : zLLine f n (zbg f n b1) (.ok (zbg f n a2))) (sk2 : zSk f n a2 b2) (he : b2 = n) (hg : g' = 0) (hf : fl' = -1) (hc : c' = c + 1) : zRd f n t g' fl' c' a' := by
  have e : zbg f n a = b1 := zbg_sk sk
  have e2 : zbg f n a2 = b2 := zbg_sk sk2
  rw [zbg_fx sk, ← e] at hl
  refine Or.inr (Or.inl ⟨hg, hf, Or.inr ⟨by omega, by omega, N, J _ (zLi_last (by omega) hl (by omega) (by omega))⟩⟩)
theorem zRd_d {f : Nat → Int32} {n t c a b1 a2 b2 b3 k g' fl' c' a' : Int} (h12 : ¬ c = 12) (B : 0 ≤ c ∧ c ≤ 12) (N : ¬ n ≤ zbg f n t) (J : zRdJ f n t c a) (sk : zSk f n a b1) (hl : zLLine f n (zbg f n b1) (.ok (zbg f n a2))) (sk2 : zSk f n a2 b2) (ne : ¬ b2 = n) (sk3 : zSk f n b2 b3) (hs : zisS f n b3 k) (hk : k = 59) (hg : g' = 1) (hf : fl' = -1) (hc : c' = c + 1) (ha : a' = b3 + 1) : zRd f n t g' fl' c' a' := by
  subst hk
  have e : zbg f n a = b1 := zbg_sk sk
  have e2 : zbg f n a2 = b2 := zbg_sk sk2
  have e3 : zbg f n b2 = b3 := zbg_sk sk3
  have e4 : zbg f n b2 = b2 := zbg_fx sk2
  have LE := zLLine_en f n _ _ (zbg_0 f n b1) hl
  rw [zbg_fx sk, ← e] at hl
  have e5 : b3 = zbg f n a2 := by omega
  rw [e5] at hs ha
  refine Or.inl ⟨hg, hf, by omega, by omega, N, fun r9 h9 => J _ (zLi_more (m' := (12 - c').toNat) (by omega) hl (by omega) hs (zMvb (by rw [zisS_nx hs, ha])) h9)⟩
theorem zRd_e {f : Nat → Int32} {n t c a b1 a2 b2 b3 k g' fl' c' a' : Int} (h12 : ¬ c = 12) (B : 0 ≤ c ∧ c ≤ 12) (N : ¬ n ≤ zbg f n t) (J : zRdJ f n t c a) (sk : zSk f n a b1) (hl : zLLine f n (zbg f n b1) (.ok (zbg f n a2))) (sk2 : zSk f n a2 b2) (ne : ¬ b2 = n) (sk3 : zSk f n b2 b3) (hs : ¬ zisS f n b3 k) (hk : k = 59) (hf : fl' = b3) : zRd f n t g' fl' c' a' := by
  subst hk
  have e : zbg f n a = b1 := zbg_sk sk
  have e2 : zbg f n a2 = b2 := zbg_sk sk2
  have e3 : zbg f n b2 = b3 := zbg_sk sk3
  have e4 : zbg f n b2 = b2 := zbg_fx sk2
  have LE := zLLine_en f n _ _ (zbg_0 f n b1) hl
  rw [zbg_fx sk, ← e] at hl
  have e5 : b3 = zbg f n a2 := by omega
  rw [e5] at hs hf
  have h0 := zbg_0 f n a2
  refine Or.inr (Or.inr ⟨by omega, N, ?_⟩)
  rw [hf]; exact J _ (zLi_nosep (by omega) hl (by omega) hs)
/-- how the reading of the law ends: so many lines (q), or the fault's place -/
def zLawR (f : Nat → Int32) (n t q : Int) : Prop := (q = 0 ∧ n ≤ zbg f n t) ∨ ((1 ≤ q ∧ q ≤ 12) ∧ ¬ n ≤ zbg f n t ∧ zLines f n (zLLine f n) 12 (zbg f n t) (.ok (12 - q)))
def zLawB (f : Nat → Int32) (n t fl : Int) : Prop := 0 ≤ fl ∧ ¬ n ≤ zbg f n t ∧ zLines f n (zLLine f n) 12 (zbg f n t) (.bad fl)
theorem zRd_x {f : Nat → Int32} {n t g a : Int} {fl c : Int32} (h : zRd f n t g fl.toInt c.toInt a) (x : g = 0 ∨ ¬ fl.toInt = -1) : (-1) = fl ∧ zLawR f n t c.toInt ∨ 0 ≤ fl.toInt ∧ zLawB f n t fl.toInt := by
  rcases h with ⟨h1, h2, _⟩ | ⟨_, h2, h3⟩ | h
  · exact absurd x (fun o => o.elim (fun q => by omega) (fun q => q h2))
  · refine Or.inl ⟨zm1 h2, ?_⟩
    rcases h3 with h3 | ⟨h3, h4, h5, h6⟩
    · exact Or.inl h3
    · exact Or.inr ⟨⟨h3, h4⟩, h5, h6⟩
  · exact Or.inr ⟨h.1, h⟩
set_option maxRecDepth 100000 in
set_option maxHeartbeats 4000000 in
theorem m_partF (l : Launch) (g : zG) (o : Nat) (a : Nat → Nat) (th : Int32) (hi : Int32) (ac : Int32) (tp : Int32) (en : Int32) (tA : Int32) (de : Int32) (iD : Int32) (iO : Int32) (tU : Int32) (fm : Nat → Int32) (fk : Nat → Int32) (fa : Nat → Int32) (fc : Nat → Int32) (ft : Nat → Int32) (ff : Nat → Int32) (fb : Nat → Int32) (fi : Nat → Int32) (hen : 0 ≤ en.toInt ∧ en.toInt ≤ 400) (htA : 0 ≤ tA.toInt ∧ tA.toInt ≤ en.toInt + 7 - de.toInt) (hde : 0 ≤ de.toInt ∧ de.toInt ≤ 6) : zM' g l yX12_part (Cond.code yX12_part cX12_part 2 (some .int) :: zB) ({ frames := 5, cells := 0, slots := 0, locals := 108 } : Room) [.ref o] [bMo g o a th hi ac tp (-1) en tA (-1) de iD iO tU fm fk fa fc ft ff fb fi] (fun u : Int32 × Int32 × Int32 => (fun (at2 : Int32) (fl2 : Int32) (q : Int32) => some (.int q)) (u.1) (u.2.1) (u.2.2)) (fun u : Int32 × Int32 × Int32 => (fun (at2 : Int32) (fl2 : Int32) (q : Int32) => (0 ≤ at2.toInt ∧ at2.toInt ≤ en.toInt + 7 - de.toInt) ∧ (tA.toInt ≤ at2.toInt) ∧ ((-1) = fl2 ∧ zPt ft en.toInt (zbg ft en.toInt tA.toInt) ∧ at2.toInt = znx ft en.toInt (zbg ft en.toInt tA.toInt) ∨ ¬ zPt ft en.toInt (zbg ft en.toInt tA.toInt) ∧ fl2.toInt = zbg ft en.toInt tA.toInt)) (u.1) (u.2.1) (u.2.2)) (fun u : Int32 × Int32 × Int32 => (fun (at2 : Int32) (fl2 : Int32) (q : Int32) => [bMo g o a th hi ac tp (-1) en at2 fl2 de iD iO tU fm fk fa fc ft ff fb fi]) (u.1) (u.2.1) (u.2.2)) := by
  refine zM'.of (cc := cX12_part) (maxL := 2) (rt := (some .int)) (by decide) rfl (Nat.le_of_ble_eq_true rfl) ?_
  intro p e s m args below meth c A ls St hr hlocks hin hK hT hA hP hD hS hl
  obtain ⟨hx, hb, hml, hown, hts⟩ := id St
  have hl : lv_has ls 2 [(0, .ref o)] := hl
  refine lv_aload_n hx hb dX12_part_0 rfl (lv_at hl 0 rfl) ?_
  refine va_get (D := g.1) (ci := 10) (v := .int (-1)) (C := RX12) (T := TX12) (N := 20) hx hb hts izRX12 hown hK hP 0 rfl rfl 12 (by decide) (hts _ k820) (fun _ h9 => h9) rfl dX12_part_1 ?_
  refine lv_iconst (v := (-1)) hx hb dX12_part_4 (by decide) ?_
  refine lv_icmp_eq (tgt := 10) hx hb dX12_part_5 (by decide) (fun _ => ?_) (fun c1 => absurd (by decide) c1)
  refine lv_aload_n hx hb dX12_part_10 rfl (lv_at hl 0 rfl) ?_
  refine mcallV' (g := g) (q0 := 0) (ci := 10) (As := []) (rest := []) St hK hT hA hP hD hS hl.1 [0] [] rfl rfl rfl (m_skipF l g o a th hi ac tp en tA (-1) de iD iO tU fm fk fa fc ft ff fb fi hen htA hde) (cwV 0 hts (zgL (zl4 k884 k885 k886 k839) k877) rfl rfl rfl (by decide +kernel) ⟨Nat.le_of_ble_eq_true rfl, Nat.le_of_ble_eq_true rfl⟩) rfl rfl rfl rfl (Nat.le_of_ble_eq_true rfl) dX12_part_11 ⟨(Nat.le_of_ble_eq_true rfl), (Nat.le_of_ble_eq_true rfl)⟩ (fun at2_2 H locs hq3 hP hD hS => ?_)
  replace hq3 : (0 ≤ at2_2.toInt ∧ at2_2.toInt ≤ en.toInt + 7 - de.toInt) ∧ (tA.toInt ≤ at2_2.toInt) ∧ (zSk ft en.toInt tA.toInt at2_2.toInt) := hq3
  have hP : va_P g.1 vwCl (List.flatten [bMo g o a th hi ac tp (-1) en at2_2 (-1) de iD iO tU fm fk fa fc ft ff fb fi]) H := hP
  have hD : va_D A (List.flatten [bMo g o a th hi ac tp (-1) en at2_2 (-1) de iD iO tU fm fk fa fc ft ff fb fi]) := hD
  refine W.widen (k := 0) (n := 0) (Nat.le_of_ble_eq_true rfl) (Nat.le_of_ble_eq_true rfl) ?_
  refine W.eq (g2 := F0 m 14 ls []) rfl ?_
  obtain ⟨hq3_0, hq3_1, hq3_2⟩ := hq3
  refine lv_aload_n hx hb dX12_part_14 rfl (lv_at hl 0 rfl) ?_
  refine va_get (D := g.1) (ci := 10) (v := .int at2_2) (C := RX12) (T := TX12) (N := 20) hx hb hts izRX12 hown hK hP 0 rfl rfl 11 (by decide) (hts _ k878) (fun _ h9 => h9) rfl dX12_part_15 ?_
  refine lv_aload_n hx hb dX12_part_18 rfl (lv_at hl 0 rfl) ?_
  refine va_get (D := g.1) (ci := 10) (v := .int en) (C := RX12) (T := TX12) (N := 20) hx hb hts izRX12 hown hK hP 0 rfl rfl 10 (by decide) (hts _ k879) (fun _ h9 => h9) rfl dX12_part_19 ?_
  refine lv_icmp_ge (tgt := 52) hx hb dX12_part_22 (by decide) (fun cb9 => ?_) (fun cb9 => ?_)
  · skip
    have c4 : en.toInt ≤ at2_2.toInt := zle cb9 rfl rfl
    refine lv_aload_n hx hb dX12_part_52 rfl (lv_at hl 0 rfl) ?_
    refine va_ldcS (q := g.2 86) hx hb hown (zra38 hT.2.1) dX12_part_53 ?_
    refine mcallV' (g := g) (q0 := 0) (ci := 10) (As := [.ref (g.2 86)]) (rest := []) St hK hT hA hP hD hS hl.1 [0] [] rfl rfl rfl (m_hasF l g o a th hi ac tp en at2_2 (-1) de iD iO tU fm fk fa fc ft ff fb fi (g.2 86) 38 zqa38 hen hq3_0 hde rfl zla38 zna38 (zlitB zla38)) (cwV 1 hts (zgL (zl4 k899 k900 k901 k839) k889) rfl rfl rfl (by decide +kernel) ⟨Nat.le_of_ble_eq_true rfl, Nat.le_of_ble_eq_true rfl⟩) rfl rfl rfl rfl (Nat.le_of_ble_eq_true rfl) dX12_part_55 ⟨(Nat.le_of_ble_eq_true rfl), (Nat.le_of_ble_eq_true rfl)⟩ (fun u_ H locs hq7 hP hD hS => ?_)
    obtain ⟨at2_5, r_6⟩ := u_
    replace hq7 : (0 ≤ at2_5.toInt ∧ at2_5.toInt ≤ en.toInt + 7 - de.toInt) ∧ (at2_2.toInt ≤ at2_5.toInt) ∧ (r_6 = 1 ∧ zisW ft en.toInt (zbg ft en.toInt at2_2.toInt) zqa38.2.2.2 ∧ at2_5.toInt = znx ft en.toInt (zbg ft en.toInt at2_2.toInt) ∧ at2_2.toInt < at2_5.toInt ∧ at2_5.toInt ≤ en.toInt ∨ r_6 = 0 ∧ ¬ zisW ft en.toInt (zbg ft en.toInt at2_2.toInt) zqa38.2.2.2 ∧ at2_5.toInt = zbg ft en.toInt at2_2.toInt) := hq7
    have hP : va_P g.1 vwCl (List.flatten [bMo g o a th hi ac tp (-1) en at2_5 (-1) de iD iO tU fm fk fa fc ft ff fb fi]) H := hP
    have hD : va_D A (List.flatten [bMo g o a th hi ac tp (-1) en at2_5 (-1) de iD iO tU fm fk fa fc ft ff fb fi]) := hD
    refine W.widen (k := 0) (n := 0) (Nat.le_of_ble_eq_true rfl) (Nat.le_of_ble_eq_true rfl) ?_
    refine W.eq (g2 := F0 m 58 ls [.int r_6]) rfl ?_
    obtain ⟨hq7_0, hq7_1, hq7_2⟩ := hq7
    rcases hq7_2 with ⟨rfl, hq7_k, hq7_km⟩ | ⟨rfl, hq7_k, hq7_km⟩
    · skip
      refine lv_if_eq (tgt := 65) hx hb dX12_part_58 (by decide) (fun c8 => absurd c8 (by decide)) (fun _ => ?_)
      refine lv_iconst (v := 0) hx hb dX12_part_61 (by decide) ?_
      refine lv_goto (tgt := 131) hx hb dX12_part_62 (by decide) ?_
      refine lv_istore_n (lv' := [(1, .int 0), (0, .ref o)]) hx hb dX12_part_131 rfl hl (by decide) rfl (fun ls hl => ?_)
      refine lv_iload_n hx hb dX12_part_132 rfl (lv_at hl 0 rfl) ?_
      refine lv_iconst (v := (-1)) hx hb dX12_part_133 (by decide) ?_
      refine lv_icmp_ne (tgt := 147) hx hb dX12_part_134 (by decide) (fun _ => ?_) (fun c9 => absurd c9 (by decide))
      refine lv_aload_n hx hb dX12_part_147 rfl (lv_at hl 1 rfl) ?_
      refine va_get (D := g.1) (ci := 10) (v := .ref (a 5)) (C := RX12) (T := TX12) (N := 20) hx hb hts izRX12 hown hK hP 0 rfl rfl 14 (by decide) (hts _ k821) (fun _ h9 => h9) rfl dX12_part_148 ?_
      refine lv_iload_n hx hb dX12_part_151 rfl (lv_at hl 0 rfl) ?_
      refine va_iald hx hb hK hP 6 0 rfl rfl (zin rfl) dX12_part_152 ?_
      refine zg (fun x_10 => ?_)
      have hP : va_P g.1 vwCl (List.flatten [bMo g o a th hi ac tp (-1) en at2_5 (-1) de iD iO tU fm fk fa fc ft ff fb fi]) H := hP
      have hD : va_D A (List.flatten [bMo g o a th hi ac tp (-1) en at2_5 (-1) de iD iO tU fm fk fa fc ft ff fb fi]) := hD
      exact mret_i hx hb hr hlocks hS (Nat.le_of_ble_eq_true rfl) (Nat.le_of_ble_eq_true rfl) dX12_part_153 (at2_5, -1, x_10) rfl (show (0 ≤ at2_5.toInt ∧ at2_5.toInt ≤ en.toInt + 7 - de.toInt) ∧ (tA.toInt ≤ at2_5.toInt) ∧ ((-1) = (-1) ∧ zPt ft en.toInt (zbg ft en.toInt tA.toInt) ∧ at2_5.toInt = znx ft en.toInt (zbg ft en.toInt tA.toInt) ∨ ¬ zPt ft en.toInt (zbg ft en.toInt tA.toInt) ∧ ((-1) : Int32).toInt = zbg ft en.toInt tA.toInt) from ⟨(by first | assumption | omega | exact Or.inl (by decide) | exact Or.inr (by omega)), (by first | assumption | omega | exact Or.inl (by decide) | exact Or.inr (by omega)), (Or.inl ⟨rfl, (Or.inl (Or.inl (zBy (show _ = zbg ft en.toInt tA.toInt from hq3_2) hq7_k))), zBx (show _ = zbg ft en.toInt tA.toInt from hq3_2) hq7_km.1⟩)⟩) hP hD
    · skip
      refine lv_if_eq (tgt := 65) hx hb dX12_part_58 (by decide) (fun _ => ?_) (fun c11 => absurd (by decide) c11)
      refine lv_aload_n hx hb dX12_part_65 rfl (lv_at hl 0 rfl) ?_
      refine va_ldcS (q := g.2 88) hx hb hown (zra39 hT.2.1) dX12_part_66 ?_
      refine mcallV' (g := g) (q0 := 0) (ci := 10) (As := [.ref (g.2 88)]) (rest := []) St hK hT hA hP hD hS hl.1 [0] [] rfl rfl rfl (m_hasF l g o a th hi ac tp en at2_5 (-1) de iD iO tU fm fk fa fc ft ff fb fi (g.2 88) 39 zqa39 hen hq7_0 hde rfl zla39 zna39 (zlitB zla39)) (cwV 1 hts (zgL (zl4 k899 k900 k901 k839) k889) rfl rfl rfl (by decide +kernel) ⟨Nat.le_of_ble_eq_true rfl, Nat.le_of_ble_eq_true rfl⟩) rfl rfl rfl rfl (Nat.le_of_ble_eq_true rfl) dX12_part_68 ⟨(Nat.le_of_ble_eq_true rfl), (Nat.le_of_ble_eq_true rfl)⟩ (fun u_ H locs hq14 hP hD hS => ?_)
      obtain ⟨at2_12, r_13⟩ := u_
      replace hq14 : (0 ≤ at2_12.toInt ∧ at2_12.toInt ≤ en.toInt + 7 - de.toInt) ∧ (at2_5.toInt ≤ at2_12.toInt) ∧ (r_13 = 1 ∧ zisW ft en.toInt (zbg ft en.toInt at2_5.toInt) zqa39.2.2.2 ∧ at2_12.toInt = znx ft en.toInt (zbg ft en.toInt at2_5.toInt) ∧ at2_5.toInt < at2_12.toInt ∧ at2_12.toInt ≤ en.toInt ∨ r_13 = 0 ∧ ¬ zisW ft en.toInt (zbg ft en.toInt at2_5.toInt) zqa39.2.2.2 ∧ at2_12.toInt = zbg ft en.toInt at2_5.toInt) := hq14
      have hP : va_P g.1 vwCl (List.flatten [bMo g o a th hi ac tp (-1) en at2_12 (-1) de iD iO tU fm fk fa fc ft ff fb fi]) H := hP
      have hD : va_D A (List.flatten [bMo g o a th hi ac tp (-1) en at2_12 (-1) de iD iO tU fm fk fa fc ft ff fb fi]) := hD
      refine W.widen (k := 0) (n := 0) (Nat.le_of_ble_eq_true rfl) (Nat.le_of_ble_eq_true rfl) ?_
      refine W.eq (g2 := F0 m 71 ls [.int r_13]) rfl ?_
      obtain ⟨hq14_0, hq14_1, hq14_2⟩ := hq14
      rcases hq14_2 with ⟨rfl, hq14_k, hq14_km⟩ | ⟨rfl, hq14_k, hq14_km⟩
      · skip
        refine lv_if_eq (tgt := 78) hx hb dX12_part_71 (by decide) (fun c15 => absurd c15 (by decide)) (fun _ => ?_)
        refine lv_iconst (v := 1) hx hb dX12_part_74 (by decide) ?_
        refine lv_goto (tgt := 131) hx hb dX12_part_75 (by decide) ?_
        refine lv_istore_n (lv' := [(1, .int 1), (0, .ref o)]) hx hb dX12_part_131 rfl hl (by decide) rfl (fun ls hl => ?_)
        refine lv_iload_n hx hb dX12_part_132 rfl (lv_at hl 0 rfl) ?_
        refine lv_iconst (v := (-1)) hx hb dX12_part_133 (by decide) ?_
        refine lv_icmp_ne (tgt := 147) hx hb dX12_part_134 (by decide) (fun _ => ?_) (fun c16 => absurd c16 (by decide))
        refine lv_aload_n hx hb dX12_part_147 rfl (lv_at hl 1 rfl) ?_
        refine va_get (D := g.1) (ci := 10) (v := .ref (a 5)) (C := RX12) (T := TX12) (N := 20) hx hb hts izRX12 hown hK hP 0 rfl rfl 14 (by decide) (hts _ k821) (fun _ h9 => h9) rfl dX12_part_148 ?_
        refine lv_iload_n hx hb dX12_part_151 rfl (lv_at hl 0 rfl) ?_
        refine va_iald hx hb hK hP 6 0 rfl rfl (zin rfl) dX12_part_152 ?_
        refine zg (fun x_17 => ?_)
        have hP : va_P g.1 vwCl (List.flatten [bMo g o a th hi ac tp (-1) en at2_12 (-1) de iD iO tU fm fk fa fc ft ff fb fi]) H := hP
        have hD : va_D A (List.flatten [bMo g o a th hi ac tp (-1) en at2_12 (-1) de iD iO tU fm fk fa fc ft ff fb fi]) := hD
        exact mret_i hx hb hr hlocks hS (Nat.le_of_ble_eq_true rfl) (Nat.le_of_ble_eq_true rfl) dX12_part_153 (at2_12, -1, x_17) rfl (show (0 ≤ at2_12.toInt ∧ at2_12.toInt ≤ en.toInt + 7 - de.toInt) ∧ (tA.toInt ≤ at2_12.toInt) ∧ ((-1) = (-1) ∧ zPt ft en.toInt (zbg ft en.toInt tA.toInt) ∧ at2_12.toInt = znx ft en.toInt (zbg ft en.toInt tA.toInt) ∨ ¬ zPt ft en.toInt (zbg ft en.toInt tA.toInt) ∧ ((-1) : Int32).toInt = zbg ft en.toInt tA.toInt) from ⟨(by first | assumption | omega | exact Or.inl (by decide) | exact Or.inr (by omega)), (by first | assumption | omega | exact Or.inl (by decide) | exact Or.inr (by omega)), (Or.inl ⟨rfl, (Or.inl (Or.inr (Or.inl (zBy (zBe (show _ = zbg ft en.toInt tA.toInt from hq3_2) hq7_km) hq14_k)))), zBx (zBe (show _ = zbg ft en.toInt tA.toInt from hq3_2) hq7_km) hq14_km.1⟩)⟩) hP hD
      · skip
        refine lv_if_eq (tgt := 78) hx hb dX12_part_71 (by decide) (fun _ => ?_) (fun c18 => absurd (by decide) c18)
        refine lv_aload_n hx hb dX12_part_78 rfl (lv_at hl 0 rfl) ?_
        refine va_ldcS (q := g.2 90) hx hb hown (zra40 hT.2.1) dX12_part_79 ?_
        refine mcallV' (g := g) (q0 := 0) (ci := 10) (As := [.ref (g.2 90)]) (rest := []) St hK hT hA hP hD hS hl.1 [0] [] rfl rfl rfl (m_hasF l g o a th hi ac tp en at2_12 (-1) de iD iO tU fm fk fa fc ft ff fb fi (g.2 90) 40 zqa40 hen hq14_0 hde rfl zla40 zna40 (zlitB zla40)) (cwV 1 hts (zgL (zl4 k899 k900 k901 k839) k889) rfl rfl rfl (by decide +kernel) ⟨Nat.le_of_ble_eq_true rfl, Nat.le_of_ble_eq_true rfl⟩) rfl rfl rfl rfl (Nat.le_of_ble_eq_true rfl) dX12_part_81 ⟨(Nat.le_of_ble_eq_true rfl), (Nat.le_of_ble_eq_true rfl)⟩ (fun u_ H locs hq21 hP hD hS => ?_)
        obtain ⟨at2_19, r_20⟩ := u_
        replace hq21 : (0 ≤ at2_19.toInt ∧ at2_19.toInt ≤ en.toInt + 7 - de.toInt) ∧ (at2_12.toInt ≤ at2_19.toInt) ∧ (r_20 = 1 ∧ zisW ft en.toInt (zbg ft en.toInt at2_12.toInt) zqa40.2.2.2 ∧ at2_19.toInt = znx ft en.toInt (zbg ft en.toInt at2_12.toInt) ∧ at2_12.toInt < at2_19.toInt ∧ at2_19.toInt ≤ en.toInt ∨ r_20 = 0 ∧ ¬ zisW ft en.toInt (zbg ft en.toInt at2_12.toInt) zqa40.2.2.2 ∧ at2_19.toInt = zbg ft en.toInt at2_12.toInt) := hq21
        have hP : va_P g.1 vwCl (List.flatten [bMo g o a th hi ac tp (-1) en at2_19 (-1) de iD iO tU fm fk fa fc ft ff fb fi]) H := hP
        have hD : va_D A (List.flatten [bMo g o a th hi ac tp (-1) en at2_19 (-1) de iD iO tU fm fk fa fc ft ff fb fi]) := hD
        refine W.widen (k := 0) (n := 0) (Nat.le_of_ble_eq_true rfl) (Nat.le_of_ble_eq_true rfl) ?_
        refine W.eq (g2 := F0 m 84 ls [.int r_20]) rfl ?_
        obtain ⟨hq21_0, hq21_1, hq21_2⟩ := hq21
        rcases hq21_2 with ⟨rfl, hq21_k, hq21_km⟩ | ⟨rfl, hq21_k, hq21_km⟩
        · skip
          refine lv_if_eq (tgt := 91) hx hb dX12_part_84 (by decide) (fun c22 => absurd c22 (by decide)) (fun _ => ?_)
          refine lv_iconst (v := 2) hx hb dX12_part_87 (by decide) ?_
          refine lv_goto (tgt := 131) hx hb dX12_part_88 (by decide) ?_
          refine lv_istore_n (lv' := [(1, .int 2), (0, .ref o)]) hx hb dX12_part_131 rfl hl (by decide) rfl (fun ls hl => ?_)
          refine lv_iload_n hx hb dX12_part_132 rfl (lv_at hl 0 rfl) ?_
          refine lv_iconst (v := (-1)) hx hb dX12_part_133 (by decide) ?_
          refine lv_icmp_ne (tgt := 147) hx hb dX12_part_134 (by decide) (fun _ => ?_) (fun c23 => absurd c23 (by decide))
          refine lv_aload_n hx hb dX12_part_147 rfl (lv_at hl 1 rfl) ?_
          refine va_get (D := g.1) (ci := 10) (v := .ref (a 5)) (C := RX12) (T := TX12) (N := 20) hx hb hts izRX12 hown hK hP 0 rfl rfl 14 (by decide) (hts _ k821) (fun _ h9 => h9) rfl dX12_part_148 ?_
          refine lv_iload_n hx hb dX12_part_151 rfl (lv_at hl 0 rfl) ?_
          refine va_iald hx hb hK hP 6 0 rfl rfl (zin rfl) dX12_part_152 ?_
          refine zg (fun x_24 => ?_)
          have hP : va_P g.1 vwCl (List.flatten [bMo g o a th hi ac tp (-1) en at2_19 (-1) de iD iO tU fm fk fa fc ft ff fb fi]) H := hP
          have hD : va_D A (List.flatten [bMo g o a th hi ac tp (-1) en at2_19 (-1) de iD iO tU fm fk fa fc ft ff fb fi]) := hD
          exact mret_i hx hb hr hlocks hS (Nat.le_of_ble_eq_true rfl) (Nat.le_of_ble_eq_true rfl) dX12_part_153 (at2_19, -1, x_24) rfl (show (0 ≤ at2_19.toInt ∧ at2_19.toInt ≤ en.toInt + 7 - de.toInt) ∧ (tA.toInt ≤ at2_19.toInt) ∧ ((-1) = (-1) ∧ zPt ft en.toInt (zbg ft en.toInt tA.toInt) ∧ at2_19.toInt = znx ft en.toInt (zbg ft en.toInt tA.toInt) ∨ ¬ zPt ft en.toInt (zbg ft en.toInt tA.toInt) ∧ ((-1) : Int32).toInt = zbg ft en.toInt tA.toInt) from ⟨(by first | assumption | omega | exact Or.inl (by decide) | exact Or.inr (by omega)), (by first | assumption | omega | exact Or.inl (by decide) | exact Or.inr (by omega)), (Or.inl ⟨rfl, (Or.inl (Or.inr (Or.inr (Or.inl (zBy (zBe (zBe (show _ = zbg ft en.toInt tA.toInt from hq3_2) hq7_km) hq14_km) hq21_k))))), zBx (zBe (zBe (show _ = zbg ft en.toInt tA.toInt from hq3_2) hq7_km) hq14_km) hq21_km.1⟩)⟩) hP hD
        · skip
          refine lv_if_eq (tgt := 91) hx hb dX12_part_84 (by decide) (fun _ => ?_) (fun c25 => absurd (by decide) c25)
          refine lv_aload_n hx hb dX12_part_91 rfl (lv_at hl 0 rfl) ?_
          refine va_ldcS (q := g.2 92) hx hb hown (zra41 hT.2.1) dX12_part_92 ?_
          refine mcallV' (g := g) (q0 := 0) (ci := 10) (As := [.ref (g.2 92)]) (rest := []) St hK hT hA hP hD hS hl.1 [0] [] rfl rfl rfl (m_hasF l g o a th hi ac tp en at2_19 (-1) de iD iO tU fm fk fa fc ft ff fb fi (g.2 92) 41 zqa41 hen hq21_0 hde rfl zla41 zna41 (zlitB zla41)) (cwV 1 hts (zgL (zl4 k899 k900 k901 k839) k889) rfl rfl rfl (by decide +kernel) ⟨Nat.le_of_ble_eq_true rfl, Nat.le_of_ble_eq_true rfl⟩) rfl rfl rfl rfl (Nat.le_of_ble_eq_true rfl) dX12_part_94 ⟨(Nat.le_of_ble_eq_true rfl), (Nat.le_of_ble_eq_true rfl)⟩ (fun u_ H locs hq28 hP hD hS => ?_)
          obtain ⟨at2_26, r_27⟩ := u_
          replace hq28 : (0 ≤ at2_26.toInt ∧ at2_26.toInt ≤ en.toInt + 7 - de.toInt) ∧ (at2_19.toInt ≤ at2_26.toInt) ∧ (r_27 = 1 ∧ zisW ft en.toInt (zbg ft en.toInt at2_19.toInt) zqa41.2.2.2 ∧ at2_26.toInt = znx ft en.toInt (zbg ft en.toInt at2_19.toInt) ∧ at2_19.toInt < at2_26.toInt ∧ at2_26.toInt ≤ en.toInt ∨ r_27 = 0 ∧ ¬ zisW ft en.toInt (zbg ft en.toInt at2_19.toInt) zqa41.2.2.2 ∧ at2_26.toInt = zbg ft en.toInt at2_19.toInt) := hq28
          have hP : va_P g.1 vwCl (List.flatten [bMo g o a th hi ac tp (-1) en at2_26 (-1) de iD iO tU fm fk fa fc ft ff fb fi]) H := hP
          have hD : va_D A (List.flatten [bMo g o a th hi ac tp (-1) en at2_26 (-1) de iD iO tU fm fk fa fc ft ff fb fi]) := hD
          refine W.widen (k := 0) (n := 0) (Nat.le_of_ble_eq_true rfl) (Nat.le_of_ble_eq_true rfl) ?_
          refine W.eq (g2 := F0 m 97 ls [.int r_27]) rfl ?_
          obtain ⟨hq28_0, hq28_1, hq28_2⟩ := hq28
          rcases hq28_2 with ⟨rfl, hq28_k, hq28_km⟩ | ⟨rfl, hq28_k, hq28_km⟩
          · skip
            refine lv_if_eq (tgt := 104) hx hb dX12_part_97 (by decide) (fun c29 => absurd c29 (by decide)) (fun _ => ?_)
            refine lv_iconst (v := 3) hx hb dX12_part_100 (by decide) ?_
            refine lv_goto (tgt := 131) hx hb dX12_part_101 (by decide) ?_
            refine lv_istore_n (lv' := [(1, .int 3), (0, .ref o)]) hx hb dX12_part_131 rfl hl (by decide) rfl (fun ls hl => ?_)
            refine lv_iload_n hx hb dX12_part_132 rfl (lv_at hl 0 rfl) ?_
            refine lv_iconst (v := (-1)) hx hb dX12_part_133 (by decide) ?_
            refine lv_icmp_ne (tgt := 147) hx hb dX12_part_134 (by decide) (fun _ => ?_) (fun c30 => absurd c30 (by decide))
            refine lv_aload_n hx hb dX12_part_147 rfl (lv_at hl 1 rfl) ?_
            refine va_get (D := g.1) (ci := 10) (v := .ref (a 5)) (C := RX12) (T := TX12) (N := 20) hx hb hts izRX12 hown hK hP 0 rfl rfl 14 (by decide) (hts _ k821) (fun _ h9 => h9) rfl dX12_part_148 ?_
            refine lv_iload_n hx hb dX12_part_151 rfl (lv_at hl 0 rfl) ?_
            refine va_iald hx hb hK hP 6 0 rfl rfl (zin rfl) dX12_part_152 ?_
            refine zg (fun x_31 => ?_)
            have hP : va_P g.1 vwCl (List.flatten [bMo g o a th hi ac tp (-1) en at2_26 (-1) de iD iO tU fm fk fa fc ft ff fb fi]) H := hP
            have hD : va_D A (List.flatten [bMo g o a th hi ac tp (-1) en at2_26 (-1) de iD iO tU fm fk fa fc ft ff fb fi]) := hD
            exact mret_i hx hb hr hlocks hS (Nat.le_of_ble_eq_true rfl) (Nat.le_of_ble_eq_true rfl) dX12_part_153 (at2_26, -1, x_31) rfl (show (0 ≤ at2_26.toInt ∧ at2_26.toInt ≤ en.toInt + 7 - de.toInt) ∧ (tA.toInt ≤ at2_26.toInt) ∧ ((-1) = (-1) ∧ zPt ft en.toInt (zbg ft en.toInt tA.toInt) ∧ at2_26.toInt = znx ft en.toInt (zbg ft en.toInt tA.toInt) ∨ ¬ zPt ft en.toInt (zbg ft en.toInt tA.toInt) ∧ ((-1) : Int32).toInt = zbg ft en.toInt tA.toInt) from ⟨(by first | assumption | omega | exact Or.inl (by decide) | exact Or.inr (by omega)), (by first | assumption | omega | exact Or.inl (by decide) | exact Or.inr (by omega)), (Or.inl ⟨rfl, (Or.inl (Or.inr (Or.inr (Or.inr (Or.inl (zBy (zBe (zBe (zBe (show _ = zbg ft en.toInt tA.toInt from hq3_2) hq7_km) hq14_km) hq21_km) hq28_k)))))), zBx (zBe (zBe (zBe (show _ = zbg ft en.toInt tA.toInt from hq3_2) hq7_km) hq14_km) hq21_km) hq28_km.1⟩)⟩) hP hD
          · skip
            refine lv_if_eq (tgt := 104) hx hb dX12_part_97 (by decide) (fun _ => ?_) (fun c32 => absurd (by decide) c32)
            refine lv_aload_n hx hb dX12_part_104 rfl (lv_at hl 0 rfl) ?_
            refine va_ldcS (q := g.2 94) hx hb hown (zra42 hT.2.1) dX12_part_105 ?_
            refine mcallV' (g := g) (q0 := 0) (ci := 10) (As := [.ref (g.2 94)]) (rest := []) St hK hT hA hP hD hS hl.1 [0] [] rfl rfl rfl (m_hasF l g o a th hi ac tp en at2_26 (-1) de iD iO tU fm fk fa fc ft ff fb fi (g.2 94) 42 zqa42 hen hq28_0 hde rfl zla42 zna42 (zlitB zla42)) (cwV 1 hts (zgL (zl4 k899 k900 k901 k839) k889) rfl rfl rfl (by decide +kernel) ⟨Nat.le_of_ble_eq_true rfl, Nat.le_of_ble_eq_true rfl⟩) rfl rfl rfl rfl (Nat.le_of_ble_eq_true rfl) dX12_part_107 ⟨(Nat.le_of_ble_eq_true rfl), (Nat.le_of_ble_eq_true rfl)⟩ (fun u_ H locs hq35 hP hD hS => ?_)
            obtain ⟨at2_33, r_34⟩ := u_
            replace hq35 : (0 ≤ at2_33.toInt ∧ at2_33.toInt ≤ en.toInt + 7 - de.toInt) ∧ (at2_26.toInt ≤ at2_33.toInt) ∧ (r_34 = 1 ∧ zisW ft en.toInt (zbg ft en.toInt at2_26.toInt) zqa42.2.2.2 ∧ at2_33.toInt = znx ft en.toInt (zbg ft en.toInt at2_26.toInt) ∧ at2_26.toInt < at2_33.toInt ∧ at2_33.toInt ≤ en.toInt ∨ r_34 = 0 ∧ ¬ zisW ft en.toInt (zbg ft en.toInt at2_26.toInt) zqa42.2.2.2 ∧ at2_33.toInt = zbg ft en.toInt at2_26.toInt) := hq35
            have hP : va_P g.1 vwCl (List.flatten [bMo g o a th hi ac tp (-1) en at2_33 (-1) de iD iO tU fm fk fa fc ft ff fb fi]) H := hP
            have hD : va_D A (List.flatten [bMo g o a th hi ac tp (-1) en at2_33 (-1) de iD iO tU fm fk fa fc ft ff fb fi]) := hD
            refine W.widen (k := 0) (n := 0) (Nat.le_of_ble_eq_true rfl) (Nat.le_of_ble_eq_true rfl) ?_
            refine W.eq (g2 := F0 m 110 ls [.int r_34]) rfl ?_
            obtain ⟨hq35_0, hq35_1, hq35_2⟩ := hq35
            rcases hq35_2 with ⟨rfl, hq35_k, hq35_km⟩ | ⟨rfl, hq35_k, hq35_km⟩
            · skip
              refine lv_if_eq (tgt := 117) hx hb dX12_part_110 (by decide) (fun c36 => absurd c36 (by decide)) (fun _ => ?_)
              refine lv_iconst (v := 4) hx hb dX12_part_113 (by decide) ?_
              refine lv_goto (tgt := 131) hx hb dX12_part_114 (by decide) ?_
              refine lv_istore_n (lv' := [(1, .int 4), (0, .ref o)]) hx hb dX12_part_131 rfl hl (by decide) rfl (fun ls hl => ?_)
              refine lv_iload_n hx hb dX12_part_132 rfl (lv_at hl 0 rfl) ?_
              refine lv_iconst (v := (-1)) hx hb dX12_part_133 (by decide) ?_
              refine lv_icmp_ne (tgt := 147) hx hb dX12_part_134 (by decide) (fun _ => ?_) (fun c37 => absurd c37 (by decide))
              refine lv_aload_n hx hb dX12_part_147 rfl (lv_at hl 1 rfl) ?_
              refine va_get (D := g.1) (ci := 10) (v := .ref (a 5)) (C := RX12) (T := TX12) (N := 20) hx hb hts izRX12 hown hK hP 0 rfl rfl 14 (by decide) (hts _ k821) (fun _ h9 => h9) rfl dX12_part_148 ?_
              refine lv_iload_n hx hb dX12_part_151 rfl (lv_at hl 0 rfl) ?_
              refine va_iald hx hb hK hP 6 0 rfl rfl (zin rfl) dX12_part_152 ?_
              refine zg (fun x_38 => ?_)
              have hP : va_P g.1 vwCl (List.flatten [bMo g o a th hi ac tp (-1) en at2_33 (-1) de iD iO tU fm fk fa fc ft ff fb fi]) H := hP
              have hD : va_D A (List.flatten [bMo g o a th hi ac tp (-1) en at2_33 (-1) de iD iO tU fm fk fa fc ft ff fb fi]) := hD
              exact mret_i hx hb hr hlocks hS (Nat.le_of_ble_eq_true rfl) (Nat.le_of_ble_eq_true rfl) dX12_part_153 (at2_33, -1, x_38) rfl (show (0 ≤ at2_33.toInt ∧ at2_33.toInt ≤ en.toInt + 7 - de.toInt) ∧ (tA.toInt ≤ at2_33.toInt) ∧ ((-1) = (-1) ∧ zPt ft en.toInt (zbg ft en.toInt tA.toInt) ∧ at2_33.toInt = znx ft en.toInt (zbg ft en.toInt tA.toInt) ∨ ¬ zPt ft en.toInt (zbg ft en.toInt tA.toInt) ∧ ((-1) : Int32).toInt = zbg ft en.toInt tA.toInt) from ⟨(by first | assumption | omega | exact Or.inl (by decide) | exact Or.inr (by omega)), (by first | assumption | omega | exact Or.inl (by decide) | exact Or.inr (by omega)), (Or.inl ⟨rfl, (Or.inl (Or.inr (Or.inr (Or.inr (Or.inr (Or.inl (zBy (zBe (zBe (zBe (zBe (show _ = zbg ft en.toInt tA.toInt from hq3_2) hq7_km) hq14_km) hq21_km) hq28_km) hq35_k))))))), zBx (zBe (zBe (zBe (zBe (show _ = zbg ft en.toInt tA.toInt from hq3_2) hq7_km) hq14_km) hq21_km) hq28_km) hq35_km.1⟩)⟩) hP hD
            · skip
              refine lv_if_eq (tgt := 117) hx hb dX12_part_110 (by decide) (fun _ => ?_) (fun c39 => absurd (by decide) c39)
              refine lv_aload_n hx hb dX12_part_117 rfl (lv_at hl 0 rfl) ?_
              refine va_ldcS (q := g.2 84) hx hb hown (zra37 hT.2.1) dX12_part_118 ?_
              refine mcallV' (g := g) (q0 := 0) (ci := 10) (As := [.ref (g.2 84)]) (rest := []) St hK hT hA hP hD hS hl.1 [0] [] rfl rfl rfl (m_hasF l g o a th hi ac tp en at2_33 (-1) de iD iO tU fm fk fa fc ft ff fb fi (g.2 84) 37 zqa37 hen hq35_0 hde rfl zla37 zna37 (zlitB zla37)) (cwV 1 hts (zgL (zl4 k899 k900 k901 k839) k889) rfl rfl rfl (by decide +kernel) ⟨Nat.le_of_ble_eq_true rfl, Nat.le_of_ble_eq_true rfl⟩) rfl rfl rfl rfl (Nat.le_of_ble_eq_true rfl) dX12_part_120 ⟨(Nat.le_of_ble_eq_true rfl), (Nat.le_of_ble_eq_true rfl)⟩ (fun u_ H locs hq42 hP hD hS => ?_)
              obtain ⟨at2_40, r_41⟩ := u_
              replace hq42 : (0 ≤ at2_40.toInt ∧ at2_40.toInt ≤ en.toInt + 7 - de.toInt) ∧ (at2_33.toInt ≤ at2_40.toInt) ∧ (r_41 = 1 ∧ zisW ft en.toInt (zbg ft en.toInt at2_33.toInt) zqa37.2.2.2 ∧ at2_40.toInt = znx ft en.toInt (zbg ft en.toInt at2_33.toInt) ∧ at2_33.toInt < at2_40.toInt ∧ at2_40.toInt ≤ en.toInt ∨ r_41 = 0 ∧ ¬ zisW ft en.toInt (zbg ft en.toInt at2_33.toInt) zqa37.2.2.2 ∧ at2_40.toInt = zbg ft en.toInt at2_33.toInt) := hq42
              have hP : va_P g.1 vwCl (List.flatten [bMo g o a th hi ac tp (-1) en at2_40 (-1) de iD iO tU fm fk fa fc ft ff fb fi]) H := hP
              have hD : va_D A (List.flatten [bMo g o a th hi ac tp (-1) en at2_40 (-1) de iD iO tU fm fk fa fc ft ff fb fi]) := hD
              refine W.widen (k := 0) (n := 0) (Nat.le_of_ble_eq_true rfl) (Nat.le_of_ble_eq_true rfl) ?_
              refine W.eq (g2 := F0 m 123 ls [.int r_41]) rfl ?_
              obtain ⟨hq42_0, hq42_1, hq42_2⟩ := hq42
              rcases hq42_2 with ⟨rfl, hq42_k, hq42_km⟩ | ⟨rfl, hq42_k, hq42_km⟩
              · skip
                refine lv_if_eq (tgt := 130) hx hb dX12_part_123 (by decide) (fun c43 => absurd c43 (by decide)) (fun _ => ?_)
                refine lv_iconst (v := 5) hx hb dX12_part_126 (by decide) ?_
                refine lv_goto (tgt := 131) hx hb dX12_part_127 (by decide) ?_
                refine lv_istore_n (lv' := [(1, .int 5), (0, .ref o)]) hx hb dX12_part_131 rfl hl (by decide) rfl (fun ls hl => ?_)
                refine lv_iload_n hx hb dX12_part_132 rfl (lv_at hl 0 rfl) ?_
                refine lv_iconst (v := (-1)) hx hb dX12_part_133 (by decide) ?_
                refine lv_icmp_ne (tgt := 147) hx hb dX12_part_134 (by decide) (fun _ => ?_) (fun c44 => absurd c44 (by decide))
                refine lv_aload_n hx hb dX12_part_147 rfl (lv_at hl 1 rfl) ?_
                refine va_get (D := g.1) (ci := 10) (v := .ref (a 5)) (C := RX12) (T := TX12) (N := 20) hx hb hts izRX12 hown hK hP 0 rfl rfl 14 (by decide) (hts _ k821) (fun _ h9 => h9) rfl dX12_part_148 ?_
                refine lv_iload_n hx hb dX12_part_151 rfl (lv_at hl 0 rfl) ?_
                refine va_iald hx hb hK hP 6 0 rfl rfl (zin rfl) dX12_part_152 ?_
                refine zg (fun x_45 => ?_)
                have hP : va_P g.1 vwCl (List.flatten [bMo g o a th hi ac tp (-1) en at2_40 (-1) de iD iO tU fm fk fa fc ft ff fb fi]) H := hP
                have hD : va_D A (List.flatten [bMo g o a th hi ac tp (-1) en at2_40 (-1) de iD iO tU fm fk fa fc ft ff fb fi]) := hD
                exact mret_i hx hb hr hlocks hS (Nat.le_of_ble_eq_true rfl) (Nat.le_of_ble_eq_true rfl) dX12_part_153 (at2_40, -1, x_45) rfl (show (0 ≤ at2_40.toInt ∧ at2_40.toInt ≤ en.toInt + 7 - de.toInt) ∧ (tA.toInt ≤ at2_40.toInt) ∧ ((-1) = (-1) ∧ zPt ft en.toInt (zbg ft en.toInt tA.toInt) ∧ at2_40.toInt = znx ft en.toInt (zbg ft en.toInt tA.toInt) ∨ ¬ zPt ft en.toInt (zbg ft en.toInt tA.toInt) ∧ ((-1) : Int32).toInt = zbg ft en.toInt tA.toInt) from ⟨(by first | assumption | omega | exact Or.inl (by decide) | exact Or.inr (by omega)), (by first | assumption | omega | exact Or.inl (by decide) | exact Or.inr (by omega)), (Or.inl ⟨rfl, (Or.inl (Or.inr (Or.inr (Or.inr (Or.inr (Or.inr ((zBy (zBe (zBe (zBe (zBe (zBe (show _ = zbg ft en.toInt tA.toInt from hq3_2) hq7_km) hq14_km) hq21_km) hq28_km) hq35_km) hq42_k)))))))), zBx (zBe (zBe (zBe (zBe (zBe (show _ = zbg ft en.toInt tA.toInt from hq3_2) hq7_km) hq14_km) hq21_km) hq28_km) hq35_km) hq42_km.1⟩)⟩) hP hD
              · skip
                refine lv_if_eq (tgt := 130) hx hb dX12_part_123 (by decide) (fun _ => ?_) (fun c46 => absurd (by decide) c46)
                refine lv_iconst (v := (-1)) hx hb dX12_part_130 (by decide) ?_
                refine lv_istore_n (lv' := [(1, .int (-1)), (0, .ref o)]) hx hb dX12_part_131 rfl hl (by decide) rfl (fun ls hl => ?_)
                refine lv_iload_n hx hb dX12_part_132 rfl (lv_at hl 0 rfl) ?_
                refine lv_iconst (v := (-1)) hx hb dX12_part_133 (by decide) ?_
                refine lv_icmp_ne (tgt := 147) hx hb dX12_part_134 (by decide) (fun c47 => absurd (by decide) c47) (fun _ => ?_)
                refine lv_aload_n hx hb dX12_part_137 rfl (lv_at hl 1 rfl) ?_
                refine lv_aload_n hx hb dX12_part_138 rfl (lv_at hl 1 rfl) ?_
                refine va_get (D := g.1) (ci := 10) (v := .int at2_40) (C := RX12) (T := TX12) (N := 20) hx hb hts izRX12 hown hK hP 0 rfl rfl 11 (by decide) (hts _ k878) (fun _ h9 => h9) rfl dX12_part_139 ?_
                refine mcallV' (g := g) (q0 := 0) (ci := 10) (As := [.int at2_40]) (rest := []) St hK hT hA hP hD hS hl.1 [0] [] rfl rfl rfl (m_wrongF l g o a th hi ac tp (-1) en at2_40 de iD iO tU fm fk fa fc ft ff fb fi at2_40 ) (cwV 1 hts (zgL (zl4 k895 k896 k897 k839) k890) rfl rfl rfl (by decide +kernel) ⟨Nat.le_of_ble_eq_true rfl, Nat.le_of_ble_eq_true rfl⟩) rfl rfl rfl rfl (Nat.le_of_ble_eq_true rfl) dX12_part_142 ⟨(Nat.le_of_ble_eq_true rfl), (Nat.le_of_ble_eq_true rfl)⟩ (fun _u H locs hq48 hP hD hS => ?_)
                have hP : va_P g.1 vwCl (List.flatten [bMo g o a th hi ac tp (-1) en at2_40 at2_40 de iD iO tU fm fk fa fc ft ff fb fi]) H := hP
                have hD : va_D A (List.flatten [bMo g o a th hi ac tp (-1) en at2_40 at2_40 de iD iO tU fm fk fa fc ft ff fb fi]) := hD
                refine W.widen (k := 0) (n := 0) (Nat.le_of_ble_eq_true rfl) (Nat.le_of_ble_eq_true rfl) ?_
                refine W.eq (g2 := F0 m 145 ls []) rfl ?_
                refine lv_iconst (v := 0) hx hb dX12_part_145 (by decide) ?_
                have hP : va_P g.1 vwCl (List.flatten [bMo g o a th hi ac tp (-1) en at2_40 at2_40 de iD iO tU fm fk fa fc ft ff fb fi]) H := hP
                have hD : va_D A (List.flatten [bMo g o a th hi ac tp (-1) en at2_40 at2_40 de iD iO tU fm fk fa fc ft ff fb fi]) := hD
                exact mret_i hx hb hr hlocks hS (Nat.le_of_ble_eq_true rfl) (Nat.le_of_ble_eq_true rfl) dX12_part_146 (at2_40, at2_40, (0 : Int32)) rfl (show (0 ≤ at2_40.toInt ∧ at2_40.toInt ≤ en.toInt + 7 - de.toInt) ∧ (tA.toInt ≤ at2_40.toInt) ∧ ((-1) = at2_40 ∧ zPt ft en.toInt (zbg ft en.toInt tA.toInt) ∧ at2_40.toInt = znx ft en.toInt (zbg ft en.toInt tA.toInt) ∨ ¬ zPt ft en.toInt (zbg ft en.toInt tA.toInt) ∧ at2_40.toInt = zbg ft en.toInt tA.toInt) from ⟨(by first | assumption | omega | exact Or.inl (by decide) | exact Or.inr (by omega)), (by first | assumption | omega | exact Or.inl (by decide) | exact Or.inr (by omega)), (Or.inr ⟨zPt_n (zBw (show _ = zbg ft en.toInt tA.toInt from hq3_2) hq7_k) (zBw (zBe (show _ = zbg ft en.toInt tA.toInt from hq3_2) hq7_km) hq14_k) (zBw (zBe (zBe (show _ = zbg ft en.toInt tA.toInt from hq3_2) hq7_km) hq14_km) hq21_k) (zBw (zBe (zBe (zBe (show _ = zbg ft en.toInt tA.toInt from hq3_2) hq7_km) hq14_km) hq21_km) hq28_k) (zBw (zBe (zBe (zBe (zBe (show _ = zbg ft en.toInt tA.toInt from hq3_2) hq7_km) hq14_km) hq21_km) hq28_km) hq35_k) (zBw (zBe (zBe (zBe (zBe (zBe (show _ = zbg ft en.toInt tA.toInt from hq3_2) hq7_km) hq14_km) hq21_km) hq28_km) hq35_km) hq42_k) (by rw [← (show at2_2.toInt = zbg ft en.toInt tA.toInt from hq3_2)]; exact zNu_e (by omega)), (zBe (zBe (zBe (zBe (zBe (zBe (show _ = zbg ft en.toInt tA.toInt from hq3_2) hq7_km) hq14_km) hq21_km) hq28_km) hq35_km) hq42_km)⟩)⟩) hP hD
  · skip
    have c49 : at2_2.toInt < en.toInt := zlti (Int32.not_le.mp cb9) rfl rfl
    have n50 : at2_2.toInt ≤ 399 := zL1 (b := 400) c49 hen.2 (by decide)
    refine lv_aload_n hx hb dX12_part_25 rfl (lv_at hl 0 rfl) ?_
    refine lv_aload_n hx hb dX12_part_26 rfl (lv_at hl 0 rfl) ?_
    refine va_get (D := g.1) (ci := 10) (v := .int at2_2) (C := RX12) (T := TX12) (N := 20) hx hb hts izRX12 hown hK hP 0 rfl rfl 11 (by decide) (hts _ k878) (fun _ h9 => h9) rfl dX12_part_27 ?_
    refine mcallV' (g := g) (q0 := 0) (ci := 10) (As := [.int at2_2]) (rest := []) St hK hT hA hP hD hS hl.1 [0] [] rfl rfl rfl (m_letterF l g o a th hi ac tp en at2_2 (-1) de iD iO tU fm fk fa fc ft ff fb fi at2_2 (by first | assumption | omega | decide | exact Or.inl (by decide) | exact Or.inr (by decide))) (cwV 1 hts (zgL (zl4 k880 k881 k882 k839) k875) rfl rfl rfl (by decide +kernel) ⟨Nat.le_of_ble_eq_true rfl, Nat.le_of_ble_eq_true rfl⟩) rfl rfl rfl rfl (Nat.le_of_ble_eq_true rfl) dX12_part_30 ⟨(Nat.le_of_ble_eq_true rfl), (Nat.le_of_ble_eq_true rfl)⟩ (fun _u H locs hq51 hP hD hS => ?_)
    have hP : va_P g.1 vwCl (List.flatten [bMo g o a th hi ac tp (-1) en at2_2 (-1) de iD iO tU fm fk fa fc ft ff fb fi]) H := hP
    have hD : va_D A (List.flatten [bMo g o a th hi ac tp (-1) en at2_2 (-1) de iD iO tU fm fk fa fc ft ff fb fi]) := hD
    refine W.widen (k := 0) (n := 0) (Nat.le_of_ble_eq_true rfl) (Nat.le_of_ble_eq_true rfl) ?_
    refine W.eq (g2 := F0 m 33 ls [.int (ft at2_2.toNatClampNeg)]) rfl ?_
    refine lv_bipush (v := 48) hx hb dX12_part_33 (by decide) ?_
    refine lv_bipush (v := 57) hx hb dX12_part_35 (by decide) ?_
    have hL48 : (48 : Int32).toInt = 48 := by decide
    have hL57 : (57 : Int32).toInt = 57 := by decide
    refine mcallS' (g := g) (As := [.int (ft at2_2.toNatClampNeg), .int 48, .int 57]) (rest := []) St hK hT hA hP hD hS hl.1 [] [0] rfl rfl rfl (m_isIn l g (ft at2_2.toNatClampNeg) 48 57 ) (va_cwS 3 hts (zgL (zl3 k837 k838 k839) k826) rfl rfl rfl (by decide +kernel) ⟨Nat.le_of_ble_eq_true rfl, Nat.le_of_ble_eq_true rfl⟩) rfl rfl (Nat.le_of_ble_eq_true rfl) dX12_part_37 ⟨(Nat.le_of_ble_eq_true rfl), (Nat.le_of_ble_eq_true rfl)⟩ (fun q_52 H locs hq53 hP hD hS => ?_)
    replace hq53 : (q_52 = 1 ∧ (48 : Int32).toInt ≤ (ft at2_2.toNatClampNeg).toInt ∧ (ft at2_2.toNatClampNeg).toInt ≤ (57 : Int32).toInt ∨ q_52 = 0 ∧ ((ft at2_2.toNatClampNeg).toInt < (48 : Int32).toInt ∨ (57 : Int32).toInt < (ft at2_2.toNatClampNeg).toInt)) := hq53
    have hP : va_P g.1 vwCl (List.flatten [bMo g o a th hi ac tp (-1) en at2_2 (-1) de iD iO tU fm fk fa fc ft ff fb fi]) H := hP
    have hD : va_D A (List.flatten [bMo g o a th hi ac tp (-1) en at2_2 (-1) de iD iO tU fm fk fa fc ft ff fb fi]) := hD
    refine W.widen (k := 0) (n := 0) (Nat.le_of_ble_eq_true rfl) (Nat.le_of_ble_eq_true rfl) ?_
    refine W.eq (g2 := F0 m 40 ls [.int q_52]) rfl ?_
    rcases hq53 with ⟨rfl, hq53_k⟩ | ⟨rfl, hq53_k⟩
    · skip
      refine lv_if_eq (tgt := 52) hx hb dX12_part_40 (by decide) (fun c54 => absurd c54 (by decide)) (fun _ => ?_)
      refine lv_aload_n hx hb dX12_part_43 rfl (lv_at hl 0 rfl) ?_
      refine lv_iconst (v := 0) hx hb dX12_part_44 (by decide) ?_
      refine lv_sipush (v := 999) hx hb dX12_part_45 (by decide) ?_
      have hL0 : (0 : Int32).toInt = 0 := by decide
      have hL999 : (999 : Int32).toInt = 999 := by decide
      refine mcallV' (g := g) (q0 := 0) (ci := 10) (As := [.int 0, .int 999]) (rest := []) St hK hT hA hP hD hS hl.1 [0] [] rfl rfl rfl (m_figuresF l g o a th hi ac tp en at2_2 de iD iO tU fm fk fa fc ft ff fb fi 0 999 hen hq3_0 hde) (cwV 2 hts (zgL (zl4 k902 k903 k904 k839) k898) rfl rfl rfl (by decide +kernel) ⟨Nat.le_of_ble_eq_true rfl, Nat.le_of_ble_eq_true rfl⟩) rfl rfl rfl rfl (Nat.le_of_ble_eq_true rfl) dX12_part_48 ⟨(Nat.le_of_ble_eq_true rfl), (Nat.le_of_ble_eq_true rfl)⟩ (fun u_ H locs hq58 hP hD hS => ?_)
      obtain ⟨at2_55, fl2_56, r_57⟩ := u_
      replace hq58 : (0 ≤ at2_55.toInt ∧ at2_55.toInt ≤ en.toInt + 7 - de.toInt) ∧ (at2_2.toInt ≤ at2_55.toInt) ∧ (zNu ft en.toInt (zbg ft en.toInt at2_2.toInt) (0 : Int32).toInt (999 : Int32).toInt r_57 ∧ at2_55.toInt = znx ft en.toInt (zbg ft en.toInt at2_2.toInt) ∧ (-1) = fl2_56 ∨ fl2_56.toInt = zbg ft en.toInt at2_2.toInt ∧ ¬ ∃ v9, zNu ft en.toInt (zbg ft en.toInt at2_2.toInt) (0 : Int32).toInt (999 : Int32).toInt v9) := hq58
      have hP : va_P g.1 vwCl (List.flatten [bMo g o a th hi ac tp (-1) en at2_55 fl2_56 de iD iO tU fm fk fa fc ft ff fb fi]) H := hP
      have hD : va_D A (List.flatten [bMo g o a th hi ac tp (-1) en at2_55 fl2_56 de iD iO tU fm fk fa fc ft ff fb fi]) := hD
      refine W.widen (k := 0) (n := 0) (Nat.le_of_ble_eq_true rfl) (Nat.le_of_ble_eq_true rfl) ?_
      refine W.eq (g2 := F0 m 51 ls [.int r_57]) rfl ?_
      obtain ⟨hq58_0, hq58_1, hq58_2⟩ := hq58
      rcases hq58_2 with ⟨hq58_k, hq58_km, rfl⟩ | ⟨hq58_k, hq58_km⟩
      · skip
        have w59 : 0 ≤ r_57.toInt ∧ r_57.toInt ≤ 999 := ⟨(by have h9 := hq58_k.2.2.1; omega), (by have h9 := hq58_k.2.2.2; omega)⟩
        have hP : va_P g.1 vwCl (List.flatten [bMo g o a th hi ac tp (-1) en at2_55 (-1) de iD iO tU fm fk fa fc ft ff fb fi]) H := hP
        have hD : va_D A (List.flatten [bMo g o a th hi ac tp (-1) en at2_55 (-1) de iD iO tU fm fk fa fc ft ff fb fi]) := hD
        exact mret_i hx hb hr hlocks hS (Nat.le_of_ble_eq_true rfl) (Nat.le_of_ble_eq_true rfl) dX12_part_51 (at2_55, -1, r_57) rfl (show (0 ≤ at2_55.toInt ∧ at2_55.toInt ≤ en.toInt + 7 - de.toInt) ∧ (tA.toInt ≤ at2_55.toInt) ∧ ((-1) = (-1) ∧ zPt ft en.toInt (zbg ft en.toInt tA.toInt) ∧ at2_55.toInt = znx ft en.toInt (zbg ft en.toInt tA.toInt) ∨ ¬ zPt ft en.toInt (zbg ft en.toInt tA.toInt) ∧ ((-1) : Int32).toInt = zbg ft en.toInt tA.toInt) from ⟨(by first | assumption | omega | exact Or.inl (by decide) | exact Or.inr (by omega)), (by first | assumption | omega | exact Or.inl (by decide) | exact Or.inr (by omega)), (Or.inl ⟨rfl, (Or.inr ⟨_, zBv (show _ = zbg ft en.toInt tA.toInt from hq3_2) hq58_k⟩), zBx (show _ = zbg ft en.toInt tA.toInt from hq3_2) hq58_km⟩)⟩) hP hD
      · skip
        have hP : va_P g.1 vwCl (List.flatten [bMo g o a th hi ac tp (-1) en at2_55 fl2_56 de iD iO tU fm fk fa fc ft ff fb fi]) H := hP
        have hD : va_D A (List.flatten [bMo g o a th hi ac tp (-1) en at2_55 fl2_56 de iD iO tU fm fk fa fc ft ff fb fi]) := hD
        exact mret_i hx hb hr hlocks hS (Nat.le_of_ble_eq_true rfl) (Nat.le_of_ble_eq_true rfl) dX12_part_51 (at2_55, fl2_56, r_57) rfl (show (0 ≤ at2_55.toInt ∧ at2_55.toInt ≤ en.toInt + 7 - de.toInt) ∧ (tA.toInt ≤ at2_55.toInt) ∧ ((-1) = fl2_56 ∧ zPt ft en.toInt (zbg ft en.toInt tA.toInt) ∧ at2_55.toInt = znx ft en.toInt (zbg ft en.toInt tA.toInt) ∨ ¬ zPt ft en.toInt (zbg ft en.toInt tA.toInt) ∧ fl2_56.toInt = zbg ft en.toInt tA.toInt) from ⟨(by first | assumption | omega | exact Or.inl (by decide) | exact Or.inr (by omega)), (by first | assumption | omega | exact Or.inl (by decide) | exact Or.inr (by omega)), (Or.inr ⟨zPt_n (by rw [← (show at2_2.toInt = zbg ft en.toInt tA.toInt from hq3_2)]; exact zkd_figW hq53_k) (by rw [← (show at2_2.toInt = zbg ft en.toInt tA.toInt from hq3_2)]; exact zkd_figW hq53_k) (by rw [← (show at2_2.toInt = zbg ft en.toInt tA.toInt from hq3_2)]; exact zkd_figW hq53_k) (by rw [← (show at2_2.toInt = zbg ft en.toInt tA.toInt from hq3_2)]; exact zkd_figW hq53_k) (by rw [← (show at2_2.toInt = zbg ft en.toInt tA.toInt from hq3_2)]; exact zkd_figW hq53_k) (by rw [← (show at2_2.toInt = zbg ft en.toInt tA.toInt from hq3_2)]; exact zkd_figW hq53_k) (zBn (show _ = zbg ft en.toInt tA.toInt from hq3_2) hq58_km), zBe (show _ = zbg ft en.toInt tA.toInt from hq3_2) hq58_k⟩)⟩) hP hD
    · skip
      refine lv_if_eq (tgt := 52) hx hb dX12_part_40 (by decide) (fun _ => ?_) (fun c60 => absurd (by decide) c60)
      refine lv_aload_n hx hb dX12_part_52 rfl (lv_at hl 0 rfl) ?_
      refine va_ldcS (q := g.2 86) hx hb hown (zra38 hT.2.1) dX12_part_53 ?_
      refine mcallV' (g := g) (q0 := 0) (ci := 10) (As := [.ref (g.2 86)]) (rest := []) St hK hT hA hP hD hS hl.1 [0] [] rfl rfl rfl (m_hasF l g o a th hi ac tp en at2_2 (-1) de iD iO tU fm fk fa fc ft ff fb fi (g.2 86) 38 zqa38 hen hq3_0 hde rfl zla38 zna38 (zlitB zla38)) (cwV 1 hts (zgL (zl4 k899 k900 k901 k839) k889) rfl rfl rfl (by decide +kernel) ⟨Nat.le_of_ble_eq_true rfl, Nat.le_of_ble_eq_true rfl⟩) rfl rfl rfl rfl (Nat.le_of_ble_eq_true rfl) dX12_part_55 ⟨(Nat.le_of_ble_eq_true rfl), (Nat.le_of_ble_eq_true rfl)⟩ (fun u_ H locs hq63 hP hD hS => ?_)
      obtain ⟨at2_61, r_62⟩ := u_
      replace hq63 : (0 ≤ at2_61.toInt ∧ at2_61.toInt ≤ en.toInt + 7 - de.toInt) ∧ (at2_2.toInt ≤ at2_61.toInt) ∧ (r_62 = 1 ∧ zisW ft en.toInt (zbg ft en.toInt at2_2.toInt) zqa38.2.2.2 ∧ at2_61.toInt = znx ft en.toInt (zbg ft en.toInt at2_2.toInt) ∧ at2_2.toInt < at2_61.toInt ∧ at2_61.toInt ≤ en.toInt ∨ r_62 = 0 ∧ ¬ zisW ft en.toInt (zbg ft en.toInt at2_2.toInt) zqa38.2.2.2 ∧ at2_61.toInt = zbg ft en.toInt at2_2.toInt) := hq63
      have hP : va_P g.1 vwCl (List.flatten [bMo g o a th hi ac tp (-1) en at2_61 (-1) de iD iO tU fm fk fa fc ft ff fb fi]) H := hP
      have hD : va_D A (List.flatten [bMo g o a th hi ac tp (-1) en at2_61 (-1) de iD iO tU fm fk fa fc ft ff fb fi]) := hD
      refine W.widen (k := 0) (n := 0) (Nat.le_of_ble_eq_true rfl) (Nat.le_of_ble_eq_true rfl) ?_
      refine W.eq (g2 := F0 m 58 ls [.int r_62]) rfl ?_
      obtain ⟨hq63_0, hq63_1, hq63_2⟩ := hq63
      rcases hq63_2 with ⟨rfl, hq63_k, hq63_km⟩ | ⟨rfl, hq63_k, hq63_km⟩
      · skip
        refine lv_if_eq (tgt := 65) hx hb dX12_part_58 (by decide) (fun c64 => absurd c64 (by decide)) (fun _ => ?_)
        refine lv_iconst (v := 0) hx hb dX12_part_61 (by decide) ?_
        refine lv_goto (tgt := 131) hx hb dX12_part_62 (by decide) ?_
        refine lv_istore_n (lv' := [(1, .int 0), (0, .ref o)]) hx hb dX12_part_131 rfl hl (by decide) rfl (fun ls hl => ?_)
        refine lv_iload_n hx hb dX12_part_132 rfl (lv_at hl 0 rfl) ?_
        refine lv_iconst (v := (-1)) hx hb dX12_part_133 (by decide) ?_
        refine lv_icmp_ne (tgt := 147) hx hb dX12_part_134 (by decide) (fun _ => ?_) (fun c65 => absurd c65 (by decide))
        refine lv_aload_n hx hb dX12_part_147 rfl (lv_at hl 1 rfl) ?_
        refine va_get (D := g.1) (ci := 10) (v := .ref (a 5)) (C := RX12) (T := TX12) (N := 20) hx hb hts izRX12 hown hK hP 0 rfl rfl 14 (by decide) (hts _ k821) (fun _ h9 => h9) rfl dX12_part_148 ?_
        refine lv_iload_n hx hb dX12_part_151 rfl (lv_at hl 0 rfl) ?_
        refine va_iald hx hb hK hP 6 0 rfl rfl (zin rfl) dX12_part_152 ?_
        refine zg (fun x_66 => ?_)
        have hP : va_P g.1 vwCl (List.flatten [bMo g o a th hi ac tp (-1) en at2_61 (-1) de iD iO tU fm fk fa fc ft ff fb fi]) H := hP
        have hD : va_D A (List.flatten [bMo g o a th hi ac tp (-1) en at2_61 (-1) de iD iO tU fm fk fa fc ft ff fb fi]) := hD
        exact mret_i hx hb hr hlocks hS (Nat.le_of_ble_eq_true rfl) (Nat.le_of_ble_eq_true rfl) dX12_part_153 (at2_61, -1, x_66) rfl (show (0 ≤ at2_61.toInt ∧ at2_61.toInt ≤ en.toInt + 7 - de.toInt) ∧ (tA.toInt ≤ at2_61.toInt) ∧ ((-1) = (-1) ∧ zPt ft en.toInt (zbg ft en.toInt tA.toInt) ∧ at2_61.toInt = znx ft en.toInt (zbg ft en.toInt tA.toInt) ∨ ¬ zPt ft en.toInt (zbg ft en.toInt tA.toInt) ∧ ((-1) : Int32).toInt = zbg ft en.toInt tA.toInt) from ⟨(by first | assumption | omega | exact Or.inl (by decide) | exact Or.inr (by omega)), (by first | assumption | omega | exact Or.inl (by decide) | exact Or.inr (by omega)), (Or.inl ⟨rfl, (Or.inl (Or.inl (zBy (show _ = zbg ft en.toInt tA.toInt from hq3_2) hq63_k))), zBx (show _ = zbg ft en.toInt tA.toInt from hq3_2) hq63_km.1⟩)⟩) hP hD
      · skip
        refine lv_if_eq (tgt := 65) hx hb dX12_part_58 (by decide) (fun _ => ?_) (fun c67 => absurd (by decide) c67)
        refine lv_aload_n hx hb dX12_part_65 rfl (lv_at hl 0 rfl) ?_
        refine va_ldcS (q := g.2 88) hx hb hown (zra39 hT.2.1) dX12_part_66 ?_
        refine mcallV' (g := g) (q0 := 0) (ci := 10) (As := [.ref (g.2 88)]) (rest := []) St hK hT hA hP hD hS hl.1 [0] [] rfl rfl rfl (m_hasF l g o a th hi ac tp en at2_61 (-1) de iD iO tU fm fk fa fc ft ff fb fi (g.2 88) 39 zqa39 hen hq63_0 hde rfl zla39 zna39 (zlitB zla39)) (cwV 1 hts (zgL (zl4 k899 k900 k901 k839) k889) rfl rfl rfl (by decide +kernel) ⟨Nat.le_of_ble_eq_true rfl, Nat.le_of_ble_eq_true rfl⟩) rfl rfl rfl rfl (Nat.le_of_ble_eq_true rfl) dX12_part_68 ⟨(Nat.le_of_ble_eq_true rfl), (Nat.le_of_ble_eq_true rfl)⟩ (fun u_ H locs hq70 hP hD hS => ?_)
        obtain ⟨at2_68, r_69⟩ := u_
        replace hq70 : (0 ≤ at2_68.toInt ∧ at2_68.toInt ≤ en.toInt + 7 - de.toInt) ∧ (at2_61.toInt ≤ at2_68.toInt) ∧ (r_69 = 1 ∧ zisW ft en.toInt (zbg ft en.toInt at2_61.toInt) zqa39.2.2.2 ∧ at2_68.toInt = znx ft en.toInt (zbg ft en.toInt at2_61.toInt) ∧ at2_61.toInt < at2_68.toInt ∧ at2_68.toInt ≤ en.toInt ∨ r_69 = 0 ∧ ¬ zisW ft en.toInt (zbg ft en.toInt at2_61.toInt) zqa39.2.2.2 ∧ at2_68.toInt = zbg ft en.toInt at2_61.toInt) := hq70
        have hP : va_P g.1 vwCl (List.flatten [bMo g o a th hi ac tp (-1) en at2_68 (-1) de iD iO tU fm fk fa fc ft ff fb fi]) H := hP
        have hD : va_D A (List.flatten [bMo g o a th hi ac tp (-1) en at2_68 (-1) de iD iO tU fm fk fa fc ft ff fb fi]) := hD
        refine W.widen (k := 0) (n := 0) (Nat.le_of_ble_eq_true rfl) (Nat.le_of_ble_eq_true rfl) ?_
        refine W.eq (g2 := F0 m 71 ls [.int r_69]) rfl ?_
        obtain ⟨hq70_0, hq70_1, hq70_2⟩ := hq70
        rcases hq70_2 with ⟨rfl, hq70_k, hq70_km⟩ | ⟨rfl, hq70_k, hq70_km⟩
        · skip
          refine lv_if_eq (tgt := 78) hx hb dX12_part_71 (by decide) (fun c71 => absurd c71 (by decide)) (fun _ => ?_)
          refine lv_iconst (v := 1) hx hb dX12_part_74 (by decide) ?_
          refine lv_goto (tgt := 131) hx hb dX12_part_75 (by decide) ?_
          refine lv_istore_n (lv' := [(1, .int 1), (0, .ref o)]) hx hb dX12_part_131 rfl hl (by decide) rfl (fun ls hl => ?_)
          refine lv_iload_n hx hb dX12_part_132 rfl (lv_at hl 0 rfl) ?_
          refine lv_iconst (v := (-1)) hx hb dX12_part_133 (by decide) ?_
          refine lv_icmp_ne (tgt := 147) hx hb dX12_part_134 (by decide) (fun _ => ?_) (fun c72 => absurd c72 (by decide))
          refine lv_aload_n hx hb dX12_part_147 rfl (lv_at hl 1 rfl) ?_
          refine va_get (D := g.1) (ci := 10) (v := .ref (a 5)) (C := RX12) (T := TX12) (N := 20) hx hb hts izRX12 hown hK hP 0 rfl rfl 14 (by decide) (hts _ k821) (fun _ h9 => h9) rfl dX12_part_148 ?_
          refine lv_iload_n hx hb dX12_part_151 rfl (lv_at hl 0 rfl) ?_
          refine va_iald hx hb hK hP 6 0 rfl rfl (zin rfl) dX12_part_152 ?_
          refine zg (fun x_73 => ?_)
          have hP : va_P g.1 vwCl (List.flatten [bMo g o a th hi ac tp (-1) en at2_68 (-1) de iD iO tU fm fk fa fc ft ff fb fi]) H := hP
          have hD : va_D A (List.flatten [bMo g o a th hi ac tp (-1) en at2_68 (-1) de iD iO tU fm fk fa fc ft ff fb fi]) := hD
          exact mret_i hx hb hr hlocks hS (Nat.le_of_ble_eq_true rfl) (Nat.le_of_ble_eq_true rfl) dX12_part_153 (at2_68, -1, x_73) rfl (show (0 ≤ at2_68.toInt ∧ at2_68.toInt ≤ en.toInt + 7 - de.toInt) ∧ (tA.toInt ≤ at2_68.toInt) ∧ ((-1) = (-1) ∧ zPt ft en.toInt (zbg ft en.toInt tA.toInt) ∧ at2_68.toInt = znx ft en.toInt (zbg ft en.toInt tA.toInt) ∨ ¬ zPt ft en.toInt (zbg ft en.toInt tA.toInt) ∧ ((-1) : Int32).toInt = zbg ft en.toInt tA.toInt) from ⟨(by first | assumption | omega | exact Or.inl (by decide) | exact Or.inr (by omega)), (by first | assumption | omega | exact Or.inl (by decide) | exact Or.inr (by omega)), (Or.inl ⟨rfl, (Or.inl (Or.inr (Or.inl (zBy (zBe (show _ = zbg ft en.toInt tA.toInt from hq3_2) hq63_km) hq70_k)))), zBx (zBe (show _ = zbg ft en.toInt tA.toInt from hq3_2) hq63_km) hq70_km.1⟩)⟩) hP hD
        · skip
          refine lv_if_eq (tgt := 78) hx hb dX12_part_71 (by decide) (fun _ => ?_) (fun c74 => absurd (by decide) c74)
          refine lv_aload_n hx hb dX12_part_78 rfl (lv_at hl 0 rfl) ?_
          refine va_ldcS (q := g.2 90) hx hb hown (zra40 hT.2.1) dX12_part_79 ?_
          refine mcallV' (g := g) (q0 := 0) (ci := 10) (As := [.ref (g.2 90)]) (rest := []) St hK hT hA hP hD hS hl.1 [0] [] rfl rfl rfl (m_hasF l g o a th hi ac tp en at2_68 (-1) de iD iO tU fm fk fa fc ft ff fb fi (g.2 90) 40 zqa40 hen hq70_0 hde rfl zla40 zna40 (zlitB zla40)) (cwV 1 hts (zgL (zl4 k899 k900 k901 k839) k889) rfl rfl rfl (by decide +kernel) ⟨Nat.le_of_ble_eq_true rfl, Nat.le_of_ble_eq_true rfl⟩) rfl rfl rfl rfl (Nat.le_of_ble_eq_true rfl) dX12_part_81 ⟨(Nat.le_of_ble_eq_true rfl), (Nat.le_of_ble_eq_true rfl)⟩ (fun u_ H locs hq77 hP hD hS => ?_)
          obtain ⟨at2_75, r_76⟩ := u_
          replace hq77 : (0 ≤ at2_75.toInt ∧ at2_75.toInt ≤ en.toInt + 7 - de.toInt) ∧ (at2_68.toInt ≤ at2_75.toInt) ∧ (r_76 = 1 ∧ zisW ft en.toInt (zbg ft en.toInt at2_68.toInt) zqa40.2.2.2 ∧ at2_75.toInt = znx ft en.toInt (zbg ft en.toInt at2_68.toInt) ∧ at2_68.toInt < at2_75.toInt ∧ at2_75.toInt ≤ en.toInt ∨ r_76 = 0 ∧ ¬ zisW ft en.toInt (zbg ft en.toInt at2_68.toInt) zqa40.2.2.2 ∧ at2_75.toInt = zbg ft en.toInt at2_68.toInt) := hq77
          have hP : va_P g.1 vwCl (List.flatten [bMo g o a th hi ac tp (-1) en at2_75 (-1) de iD iO tU fm fk fa fc ft ff fb fi]) H := hP
          have hD : va_D A (List.flatten [bMo g o a th hi ac tp (-1) en at2_75 (-1) de iD iO tU fm fk fa fc ft ff fb fi]) := hD
          refine W.widen (k := 0) (n := 0) (Nat.le_of_ble_eq_true rfl) (Nat.le_of_ble_eq_true rfl) ?_
          refine W.eq (g2 := F0 m 84 ls [.int r_76]) rfl ?_
          obtain ⟨hq77_0, hq77_1, hq77_2⟩ := hq77
          rcases hq77_2 with ⟨rfl, hq77_k, hq77_km⟩ | ⟨rfl, hq77_k, hq77_km⟩
          · skip
            refine lv_if_eq (tgt := 91) hx hb dX12_part_84 (by decide) (fun c78 => absurd c78 (by decide)) (fun _ => ?_)
            refine lv_iconst (v := 2) hx hb dX12_part_87 (by decide) ?_
            refine lv_goto (tgt := 131) hx hb dX12_part_88 (by decide) ?_
            refine lv_istore_n (lv' := [(1, .int 2), (0, .ref o)]) hx hb dX12_part_131 rfl hl (by decide) rfl (fun ls hl => ?_)
            refine lv_iload_n hx hb dX12_part_132 rfl (lv_at hl 0 rfl) ?_
            refine lv_iconst (v := (-1)) hx hb dX12_part_133 (by decide) ?_
            refine lv_icmp_ne (tgt := 147) hx hb dX12_part_134 (by decide) (fun _ => ?_) (fun c79 => absurd c79 (by decide))
            refine lv_aload_n hx hb dX12_part_147 rfl (lv_at hl 1 rfl) ?_
            refine va_get (D := g.1) (ci := 10) (v := .ref (a 5)) (C := RX12) (T := TX12) (N := 20) hx hb hts izRX12 hown hK hP 0 rfl rfl 14 (by decide) (hts _ k821) (fun _ h9 => h9) rfl dX12_part_148 ?_
            refine lv_iload_n hx hb dX12_part_151 rfl (lv_at hl 0 rfl) ?_
            refine va_iald hx hb hK hP 6 0 rfl rfl (zin rfl) dX12_part_152 ?_
            refine zg (fun x_80 => ?_)
            have hP : va_P g.1 vwCl (List.flatten [bMo g o a th hi ac tp (-1) en at2_75 (-1) de iD iO tU fm fk fa fc ft ff fb fi]) H := hP
            have hD : va_D A (List.flatten [bMo g o a th hi ac tp (-1) en at2_75 (-1) de iD iO tU fm fk fa fc ft ff fb fi]) := hD
            exact mret_i hx hb hr hlocks hS (Nat.le_of_ble_eq_true rfl) (Nat.le_of_ble_eq_true rfl) dX12_part_153 (at2_75, -1, x_80) rfl (show (0 ≤ at2_75.toInt ∧ at2_75.toInt ≤ en.toInt + 7 - de.toInt) ∧ (tA.toInt ≤ at2_75.toInt) ∧ ((-1) = (-1) ∧ zPt ft en.toInt (zbg ft en.toInt tA.toInt) ∧ at2_75.toInt = znx ft en.toInt (zbg ft en.toInt tA.toInt) ∨ ¬ zPt ft en.toInt (zbg ft en.toInt tA.toInt) ∧ ((-1) : Int32).toInt = zbg ft en.toInt tA.toInt) from ⟨(by first | assumption | omega | exact Or.inl (by decide) | exact Or.inr (by omega)), (by first | assumption | omega | exact Or.inl (by decide) | exact Or.inr (by omega)), (Or.inl ⟨rfl, (Or.inl (Or.inr (Or.inr (Or.inl (zBy (zBe (zBe (show _ = zbg ft en.toInt tA.toInt from hq3_2) hq63_km) hq70_km) hq77_k))))), zBx (zBe (zBe (show _ = zbg ft en.toInt tA.toInt from hq3_2) hq63_km) hq70_km) hq77_km.1⟩)⟩) hP hD
          · skip
            refine lv_if_eq (tgt := 91) hx hb dX12_part_84 (by decide) (fun _ => ?_) (fun c81 => absurd (by decide) c81)
            refine lv_aload_n hx hb dX12_part_91 rfl (lv_at hl 0 rfl) ?_
            refine va_ldcS (q := g.2 92) hx hb hown (zra41 hT.2.1) dX12_part_92 ?_
            refine mcallV' (g := g) (q0 := 0) (ci := 10) (As := [.ref (g.2 92)]) (rest := []) St hK hT hA hP hD hS hl.1 [0] [] rfl rfl rfl (m_hasF l g o a th hi ac tp en at2_75 (-1) de iD iO tU fm fk fa fc ft ff fb fi (g.2 92) 41 zqa41 hen hq77_0 hde rfl zla41 zna41 (zlitB zla41)) (cwV 1 hts (zgL (zl4 k899 k900 k901 k839) k889) rfl rfl rfl (by decide +kernel) ⟨Nat.le_of_ble_eq_true rfl, Nat.le_of_ble_eq_true rfl⟩) rfl rfl rfl rfl (Nat.le_of_ble_eq_true rfl) dX12_part_94 ⟨(Nat.le_of_ble_eq_true rfl), (Nat.le_of_ble_eq_true rfl)⟩ (fun u_ H locs hq84 hP hD hS => ?_)
            obtain ⟨at2_82, r_83⟩ := u_
            replace hq84 : (0 ≤ at2_82.toInt ∧ at2_82.toInt ≤ en.toInt + 7 - de.toInt) ∧ (at2_75.toInt ≤ at2_82.toInt) ∧ (r_83 = 1 ∧ zisW ft en.toInt (zbg ft en.toInt at2_75.toInt) zqa41.2.2.2 ∧ at2_82.toInt = znx ft en.toInt (zbg ft en.toInt at2_75.toInt) ∧ at2_75.toInt < at2_82.toInt ∧ at2_82.toInt ≤ en.toInt ∨ r_83 = 0 ∧ ¬ zisW ft en.toInt (zbg ft en.toInt at2_75.toInt) zqa41.2.2.2 ∧ at2_82.toInt = zbg ft en.toInt at2_75.toInt) := hq84
            have hP : va_P g.1 vwCl (List.flatten [bMo g o a th hi ac tp (-1) en at2_82 (-1) de iD iO tU fm fk fa fc ft ff fb fi]) H := hP
            have hD : va_D A (List.flatten [bMo g o a th hi ac tp (-1) en at2_82 (-1) de iD iO tU fm fk fa fc ft ff fb fi]) := hD
            refine W.widen (k := 0) (n := 0) (Nat.le_of_ble_eq_true rfl) (Nat.le_of_ble_eq_true rfl) ?_
            refine W.eq (g2 := F0 m 97 ls [.int r_83]) rfl ?_
            obtain ⟨hq84_0, hq84_1, hq84_2⟩ := hq84
            rcases hq84_2 with ⟨rfl, hq84_k, hq84_km⟩ | ⟨rfl, hq84_k, hq84_km⟩
            · skip
              refine lv_if_eq (tgt := 104) hx hb dX12_part_97 (by decide) (fun c85 => absurd c85 (by decide)) (fun _ => ?_)
              refine lv_iconst (v := 3) hx hb dX12_part_100 (by decide) ?_
              refine lv_goto (tgt := 131) hx hb dX12_part_101 (by decide) ?_
              refine lv_istore_n (lv' := [(1, .int 3), (0, .ref o)]) hx hb dX12_part_131 rfl hl (by decide) rfl (fun ls hl => ?_)
              refine lv_iload_n hx hb dX12_part_132 rfl (lv_at hl 0 rfl) ?_
              refine lv_iconst (v := (-1)) hx hb dX12_part_133 (by decide) ?_
              refine lv_icmp_ne (tgt := 147) hx hb dX12_part_134 (by decide) (fun _ => ?_) (fun c86 => absurd c86 (by decide))
              refine lv_aload_n hx hb dX12_part_147 rfl (lv_at hl 1 rfl) ?_
              refine va_get (D := g.1) (ci := 10) (v := .ref (a 5)) (C := RX12) (T := TX12) (N := 20) hx hb hts izRX12 hown hK hP 0 rfl rfl 14 (by decide) (hts _ k821) (fun _ h9 => h9) rfl dX12_part_148 ?_
              refine lv_iload_n hx hb dX12_part_151 rfl (lv_at hl 0 rfl) ?_
              refine va_iald hx hb hK hP 6 0 rfl rfl (zin rfl) dX12_part_152 ?_
              refine zg (fun x_87 => ?_)
              have hP : va_P g.1 vwCl (List.flatten [bMo g o a th hi ac tp (-1) en at2_82 (-1) de iD iO tU fm fk fa fc ft ff fb fi]) H := hP
              have hD : va_D A (List.flatten [bMo g o a th hi ac tp (-1) en at2_82 (-1) de iD iO tU fm fk fa fc ft ff fb fi]) := hD
              exact mret_i hx hb hr hlocks hS (Nat.le_of_ble_eq_true rfl) (Nat.le_of_ble_eq_true rfl) dX12_part_153 (at2_82, -1, x_87) rfl (show (0 ≤ at2_82.toInt ∧ at2_82.toInt ≤ en.toInt + 7 - de.toInt) ∧ (tA.toInt ≤ at2_82.toInt) ∧ ((-1) = (-1) ∧ zPt ft en.toInt (zbg ft en.toInt tA.toInt) ∧ at2_82.toInt = znx ft en.toInt (zbg ft en.toInt tA.toInt) ∨ ¬ zPt ft en.toInt (zbg ft en.toInt tA.toInt) ∧ ((-1) : Int32).toInt = zbg ft en.toInt tA.toInt) from ⟨(by first | assumption | omega | exact Or.inl (by decide) | exact Or.inr (by omega)), (by first | assumption | omega | exact Or.inl (by decide) | exact Or.inr (by omega)), (Or.inl ⟨rfl, (Or.inl (Or.inr (Or.inr (Or.inr (Or.inl (zBy (zBe (zBe (zBe (show _ = zbg ft en.toInt tA.toInt from hq3_2) hq63_km) hq70_km) hq77_km) hq84_k)))))), zBx (zBe (zBe (zBe (show _ = zbg ft en.toInt tA.toInt from hq3_2) hq63_km) hq70_km) hq77_km) hq84_km.1⟩)⟩) hP hD
            · skip
              refine lv_if_eq (tgt := 104) hx hb dX12_part_97 (by decide) (fun _ => ?_) (fun c88 => absurd (by decide) c88)
              refine lv_aload_n hx hb dX12_part_104 rfl (lv_at hl 0 rfl) ?_
              refine va_ldcS (q := g.2 94) hx hb hown (zra42 hT.2.1) dX12_part_105 ?_
              refine mcallV' (g := g) (q0 := 0) (ci := 10) (As := [.ref (g.2 94)]) (rest := []) St hK hT hA hP hD hS hl.1 [0] [] rfl rfl rfl (m_hasF l g o a th hi ac tp en at2_82 (-1) de iD iO tU fm fk fa fc ft ff fb fi (g.2 94) 42 zqa42 hen hq84_0 hde rfl zla42 zna42 (zlitB zla42)) (cwV 1 hts (zgL (zl4 k899 k900 k901 k839) k889) rfl rfl rfl (by decide +kernel) ⟨Nat.le_of_ble_eq_true rfl, Nat.le_of_ble_eq_true rfl⟩) rfl rfl rfl rfl (Nat.le_of_ble_eq_true rfl) dX12_part_107 ⟨(Nat.le_of_ble_eq_true rfl), (Nat.le_of_ble_eq_true rfl)⟩ (fun u_ H locs hq91 hP hD hS => ?_)
              obtain ⟨at2_89, r_90⟩ := u_
              replace hq91 : (0 ≤ at2_89.toInt ∧ at2_89.toInt ≤ en.toInt + 7 - de.toInt) ∧ (at2_82.toInt ≤ at2_89.toInt) ∧ (r_90 = 1 ∧ zisW ft en.toInt (zbg ft en.toInt at2_82.toInt) zqa42.2.2.2 ∧ at2_89.toInt = znx ft en.toInt (zbg ft en.toInt at2_82.toInt) ∧ at2_82.toInt < at2_89.toInt ∧ at2_89.toInt ≤ en.toInt ∨ r_90 = 0 ∧ ¬ zisW ft en.toInt (zbg ft en.toInt at2_82.toInt) zqa42.2.2.2 ∧ at2_89.toInt = zbg ft en.toInt at2_82.toInt) := hq91
              have hP : va_P g.1 vwCl (List.flatten [bMo g o a th hi ac tp (-1) en at2_89 (-1) de iD iO tU fm fk fa fc ft ff fb fi]) H := hP
              have hD : va_D A (List.flatten [bMo g o a th hi ac tp (-1) en at2_89 (-1) de iD iO tU fm fk fa fc ft ff fb fi]) := hD
              refine W.widen (k := 0) (n := 0) (Nat.le_of_ble_eq_true rfl) (Nat.le_of_ble_eq_true rfl) ?_
              refine W.eq (g2 := F0 m 110 ls [.int r_90]) rfl ?_
              obtain ⟨hq91_0, hq91_1, hq91_2⟩ := hq91
              rcases hq91_2 with ⟨rfl, hq91_k, hq91_km⟩ | ⟨rfl, hq91_k, hq91_km⟩
              · skip
                refine lv_if_eq (tgt := 117) hx hb dX12_part_110 (by decide) (fun c92 => absurd c92 (by decide)) (fun _ => ?_)
                refine lv_iconst (v := 4) hx hb dX12_part_113 (by decide) ?_
                refine lv_goto (tgt := 131) hx hb dX12_part_114 (by decide) ?_
                refine lv_istore_n (lv' := [(1, .int 4), (0, .ref o)]) hx hb dX12_part_131 rfl hl (by decide) rfl (fun ls hl => ?_)
                refine lv_iload_n hx hb dX12_part_132 rfl (lv_at hl 0 rfl) ?_
                refine lv_iconst (v := (-1)) hx hb dX12_part_133 (by decide) ?_
                refine lv_icmp_ne (tgt := 147) hx hb dX12_part_134 (by decide) (fun _ => ?_) (fun c93 => absurd c93 (by decide))
                refine lv_aload_n hx hb dX12_part_147 rfl (lv_at hl 1 rfl) ?_
                refine va_get (D := g.1) (ci := 10) (v := .ref (a 5)) (C := RX12) (T := TX12) (N := 20) hx hb hts izRX12 hown hK hP 0 rfl rfl 14 (by decide) (hts _ k821) (fun _ h9 => h9) rfl dX12_part_148 ?_
                refine lv_iload_n hx hb dX12_part_151 rfl (lv_at hl 0 rfl) ?_
                refine va_iald hx hb hK hP 6 0 rfl rfl (zin rfl) dX12_part_152 ?_
                refine zg (fun x_94 => ?_)
                have hP : va_P g.1 vwCl (List.flatten [bMo g o a th hi ac tp (-1) en at2_89 (-1) de iD iO tU fm fk fa fc ft ff fb fi]) H := hP
                have hD : va_D A (List.flatten [bMo g o a th hi ac tp (-1) en at2_89 (-1) de iD iO tU fm fk fa fc ft ff fb fi]) := hD
                exact mret_i hx hb hr hlocks hS (Nat.le_of_ble_eq_true rfl) (Nat.le_of_ble_eq_true rfl) dX12_part_153 (at2_89, -1, x_94) rfl (show (0 ≤ at2_89.toInt ∧ at2_89.toInt ≤ en.toInt + 7 - de.toInt) ∧ (tA.toInt ≤ at2_89.toInt) ∧ ((-1) = (-1) ∧ zPt ft en.toInt (zbg ft en.toInt tA.toInt) ∧ at2_89.toInt = znx ft en.toInt (zbg ft en.toInt tA.toInt) ∨ ¬ zPt ft en.toInt (zbg ft en.toInt tA.toInt) ∧ ((-1) : Int32).toInt = zbg ft en.toInt tA.toInt) from ⟨(by first | assumption | omega | exact Or.inl (by decide) | exact Or.inr (by omega)), (by first | assumption | omega | exact Or.inl (by decide) | exact Or.inr (by omega)), (Or.inl ⟨rfl, (Or.inl (Or.inr (Or.inr (Or.inr (Or.inr (Or.inl (zBy (zBe (zBe (zBe (zBe (show _ = zbg ft en.toInt tA.toInt from hq3_2) hq63_km) hq70_km) hq77_km) hq84_km) hq91_k))))))), zBx (zBe (zBe (zBe (zBe (show _ = zbg ft en.toInt tA.toInt from hq3_2) hq63_km) hq70_km) hq77_km) hq84_km) hq91_km.1⟩)⟩) hP hD
              · skip
                refine lv_if_eq (tgt := 117) hx hb dX12_part_110 (by decide) (fun _ => ?_) (fun c95 => absurd (by decide) c95)
                refine lv_aload_n hx hb dX12_part_117 rfl (lv_at hl 0 rfl) ?_
                refine va_ldcS (q := g.2 84) hx hb hown (zra37 hT.2.1) dX12_part_118 ?_
                refine mcallV' (g := g) (q0 := 0) (ci := 10) (As := [.ref (g.2 84)]) (rest := []) St hK hT hA hP hD hS hl.1 [0] [] rfl rfl rfl (m_hasF l g o a th hi ac tp en at2_89 (-1) de iD iO tU fm fk fa fc ft ff fb fi (g.2 84) 37 zqa37 hen hq91_0 hde rfl zla37 zna37 (zlitB zla37)) (cwV 1 hts (zgL (zl4 k899 k900 k901 k839) k889) rfl rfl rfl (by decide +kernel) ⟨Nat.le_of_ble_eq_true rfl, Nat.le_of_ble_eq_true rfl⟩) rfl rfl rfl rfl (Nat.le_of_ble_eq_true rfl) dX12_part_120 ⟨(Nat.le_of_ble_eq_true rfl), (Nat.le_of_ble_eq_true rfl)⟩ (fun u_ H locs hq98 hP hD hS => ?_)
                obtain ⟨at2_96, r_97⟩ := u_
                replace hq98 : (0 ≤ at2_96.toInt ∧ at2_96.toInt ≤ en.toInt + 7 - de.toInt) ∧ (at2_89.toInt ≤ at2_96.toInt) ∧ (r_97 = 1 ∧ zisW ft en.toInt (zbg ft en.toInt at2_89.toInt) zqa37.2.2.2 ∧ at2_96.toInt = znx ft en.toInt (zbg ft en.toInt at2_89.toInt) ∧ at2_89.toInt < at2_96.toInt ∧ at2_96.toInt ≤ en.toInt ∨ r_97 = 0 ∧ ¬ zisW ft en.toInt (zbg ft en.toInt at2_89.toInt) zqa37.2.2.2 ∧ at2_96.toInt = zbg ft en.toInt at2_89.toInt) := hq98
                have hP : va_P g.1 vwCl (List.flatten [bMo g o a th hi ac tp (-1) en at2_96 (-1) de iD iO tU fm fk fa fc ft ff fb fi]) H := hP
                have hD : va_D A (List.flatten [bMo g o a th hi ac tp (-1) en at2_96 (-1) de iD iO tU fm fk fa fc ft ff fb fi]) := hD
                refine W.widen (k := 0) (n := 0) (Nat.le_of_ble_eq_true rfl) (Nat.le_of_ble_eq_true rfl) ?_
                refine W.eq (g2 := F0 m 123 ls [.int r_97]) rfl ?_
                obtain ⟨hq98_0, hq98_1, hq98_2⟩ := hq98
                rcases hq98_2 with ⟨rfl, hq98_k, hq98_km⟩ | ⟨rfl, hq98_k, hq98_km⟩
                · skip
                  refine lv_if_eq (tgt := 130) hx hb dX12_part_123 (by decide) (fun c99 => absurd c99 (by decide)) (fun _ => ?_)
                  refine lv_iconst (v := 5) hx hb dX12_part_126 (by decide) ?_
                  refine lv_goto (tgt := 131) hx hb dX12_part_127 (by decide) ?_
                  refine lv_istore_n (lv' := [(1, .int 5), (0, .ref o)]) hx hb dX12_part_131 rfl hl (by decide) rfl (fun ls hl => ?_)
                  refine lv_iload_n hx hb dX12_part_132 rfl (lv_at hl 0 rfl) ?_
                  refine lv_iconst (v := (-1)) hx hb dX12_part_133 (by decide) ?_
                  refine lv_icmp_ne (tgt := 147) hx hb dX12_part_134 (by decide) (fun _ => ?_) (fun c100 => absurd c100 (by decide))
                  refine lv_aload_n hx hb dX12_part_147 rfl (lv_at hl 1 rfl) ?_
                  refine va_get (D := g.1) (ci := 10) (v := .ref (a 5)) (C := RX12) (T := TX12) (N := 20) hx hb hts izRX12 hown hK hP 0 rfl rfl 14 (by decide) (hts _ k821) (fun _ h9 => h9) rfl dX12_part_148 ?_
                  refine lv_iload_n hx hb dX12_part_151 rfl (lv_at hl 0 rfl) ?_
                  refine va_iald hx hb hK hP 6 0 rfl rfl (zin rfl) dX12_part_152 ?_
                  refine zg (fun x_101 => ?_)
                  have hP : va_P g.1 vwCl (List.flatten [bMo g o a th hi ac tp (-1) en at2_96 (-1) de iD iO tU fm fk fa fc ft ff fb fi]) H := hP
                  have hD : va_D A (List.flatten [bMo g o a th hi ac tp (-1) en at2_96 (-1) de iD iO tU fm fk fa fc ft ff fb fi]) := hD
                  exact mret_i hx hb hr hlocks hS (Nat.le_of_ble_eq_true rfl) (Nat.le_of_ble_eq_true rfl) dX12_part_153 (at2_96, -1, x_101) rfl (show (0 ≤ at2_96.toInt ∧ at2_96.toInt ≤ en.toInt + 7 - de.toInt) ∧ (tA.toInt ≤ at2_96.toInt) ∧ ((-1) = (-1) ∧ zPt ft en.toInt (zbg ft en.toInt tA.toInt) ∧ at2_96.toInt = znx ft en.toInt (zbg ft en.toInt tA.toInt) ∨ ¬ zPt ft en.toInt (zbg ft en.toInt tA.toInt) ∧ ((-1) : Int32).toInt = zbg ft en.toInt tA.toInt) from ⟨(by first | assumption | omega | exact Or.inl (by decide) | exact Or.inr (by omega)), (by first | assumption | omega | exact Or.inl (by decide) | exact Or.inr (by omega)), (Or.inl ⟨rfl, (Or.inl (Or.inr (Or.inr (Or.inr (Or.inr (Or.inr ((zBy (zBe (zBe (zBe (zBe (zBe (show _ = zbg ft en.toInt tA.toInt from hq3_2) hq63_km) hq70_km) hq77_km) hq84_km) hq91_km) hq98_k)))))))), zBx (zBe (zBe (zBe (zBe (zBe (show _ = zbg ft en.toInt tA.toInt from hq3_2) hq63_km) hq70_km) hq77_km) hq84_km) hq91_km) hq98_km.1⟩)⟩) hP hD
                · skip
                  refine lv_if_eq (tgt := 130) hx hb dX12_part_123 (by decide) (fun _ => ?_) (fun c102 => absurd (by decide) c102)
                  refine lv_iconst (v := (-1)) hx hb dX12_part_130 (by decide) ?_
                  refine lv_istore_n (lv' := [(1, .int (-1)), (0, .ref o)]) hx hb dX12_part_131 rfl hl (by decide) rfl (fun ls hl => ?_)
                  refine lv_iload_n hx hb dX12_part_132 rfl (lv_at hl 0 rfl) ?_
                  refine lv_iconst (v := (-1)) hx hb dX12_part_133 (by decide) ?_
                  refine lv_icmp_ne (tgt := 147) hx hb dX12_part_134 (by decide) (fun c103 => absurd (by decide) c103) (fun _ => ?_)
                  refine lv_aload_n hx hb dX12_part_137 rfl (lv_at hl 1 rfl) ?_
                  refine lv_aload_n hx hb dX12_part_138 rfl (lv_at hl 1 rfl) ?_
                  refine va_get (D := g.1) (ci := 10) (v := .int at2_96) (C := RX12) (T := TX12) (N := 20) hx hb hts izRX12 hown hK hP 0 rfl rfl 11 (by decide) (hts _ k878) (fun _ h9 => h9) rfl dX12_part_139 ?_
                  refine mcallV' (g := g) (q0 := 0) (ci := 10) (As := [.int at2_96]) (rest := []) St hK hT hA hP hD hS hl.1 [0] [] rfl rfl rfl (m_wrongF l g o a th hi ac tp (-1) en at2_96 de iD iO tU fm fk fa fc ft ff fb fi at2_96 ) (cwV 1 hts (zgL (zl4 k895 k896 k897 k839) k890) rfl rfl rfl (by decide +kernel) ⟨Nat.le_of_ble_eq_true rfl, Nat.le_of_ble_eq_true rfl⟩) rfl rfl rfl rfl (Nat.le_of_ble_eq_true rfl) dX12_part_142 ⟨(Nat.le_of_ble_eq_true rfl), (Nat.le_of_ble_eq_true rfl)⟩ (fun _u H locs hq104 hP hD hS => ?_)
                  have hP : va_P g.1 vwCl (List.flatten [bMo g o a th hi ac tp (-1) en at2_96 at2_96 de iD iO tU fm fk fa fc ft ff fb fi]) H := hP
                  have hD : va_D A (List.flatten [bMo g o a th hi ac tp (-1) en at2_96 at2_96 de iD iO tU fm fk fa fc ft ff fb fi]) := hD
                  refine W.widen (k := 0) (n := 0) (Nat.le_of_ble_eq_true rfl) (Nat.le_of_ble_eq_true rfl) ?_
                  refine W.eq (g2 := F0 m 145 ls []) rfl ?_
                  refine lv_iconst (v := 0) hx hb dX12_part_145 (by decide) ?_
                  have hP : va_P g.1 vwCl (List.flatten [bMo g o a th hi ac tp (-1) en at2_96 at2_96 de iD iO tU fm fk fa fc ft ff fb fi]) H := hP
                  have hD : va_D A (List.flatten [bMo g o a th hi ac tp (-1) en at2_96 at2_96 de iD iO tU fm fk fa fc ft ff fb fi]) := hD
                  exact mret_i hx hb hr hlocks hS (Nat.le_of_ble_eq_true rfl) (Nat.le_of_ble_eq_true rfl) dX12_part_146 (at2_96, at2_96, (0 : Int32)) rfl (show (0 ≤ at2_96.toInt ∧ at2_96.toInt ≤ en.toInt + 7 - de.toInt) ∧ (tA.toInt ≤ at2_96.toInt) ∧ ((-1) = at2_96 ∧ zPt ft en.toInt (zbg ft en.toInt tA.toInt) ∧ at2_96.toInt = znx ft en.toInt (zbg ft en.toInt tA.toInt) ∨ ¬ zPt ft en.toInt (zbg ft en.toInt tA.toInt) ∧ at2_96.toInt = zbg ft en.toInt tA.toInt) from ⟨(by first | assumption | omega | exact Or.inl (by decide) | exact Or.inr (by omega)), (by first | assumption | omega | exact Or.inl (by decide) | exact Or.inr (by omega)), (Or.inr ⟨zPt_n (zBw (show _ = zbg ft en.toInt tA.toInt from hq3_2) hq63_k) (zBw (zBe (show _ = zbg ft en.toInt tA.toInt from hq3_2) hq63_km) hq70_k) (zBw (zBe (zBe (show _ = zbg ft en.toInt tA.toInt from hq3_2) hq63_km) hq70_km) hq77_k) (zBw (zBe (zBe (zBe (show _ = zbg ft en.toInt tA.toInt from hq3_2) hq63_km) hq70_km) hq77_km) hq84_k) (zBw (zBe (zBe (zBe (zBe (show _ = zbg ft en.toInt tA.toInt from hq3_2) hq63_km) hq70_km) hq77_km) hq84_km) hq91_k) (zBw (zBe (zBe (zBe (zBe (zBe (show _ = zbg ft en.toInt tA.toInt from hq3_2) hq63_km) hq70_km) hq77_km) hq84_km) hq91_km) hq98_k) (by rw [← (show at2_2.toInt = zbg ft en.toInt tA.toInt from hq3_2)]; exact zkd_figN hq53_k), (zBe (zBe (zBe (zBe (zBe (zBe (show _ = zbg ft en.toInt tA.toInt from hq3_2) hq63_km) hq70_km) hq77_km) hq84_km) hq91_km) hq98_km)⟩)⟩) hP hD
set_option maxRecDepth 100000 in
set_option maxHeartbeats 4000000 in
theorem m_sumF (l : Launch) (g : zG) (o : Nat) (a : Nat → Nat) (th : Int32) (hi : Int32) (ac : Int32) (tp : Int32) (en : Int32) (tA : Int32) (de : Int32) (iD : Int32) (iO : Int32) (tU : Int32) (fm : Nat → Int32) (fk : Nat → Int32) (fa : Nat → Int32) (fc : Nat → Int32) (ft : Nat → Int32) (ff : Nat → Int32) (fb : Nat → Int32) (fi : Nat → Int32) (hen : 0 ≤ en.toInt ∧ en.toInt ≤ 400) (htA : 0 ≤ tA.toInt ∧ tA.toInt ≤ en.toInt + 7 - de.toInt) (hde : 0 ≤ de.toInt ∧ de.toInt ≤ 6) : zM' g l yX12_sum (Cond.code yX12_sum cX12_sum 2 (some .int) :: zB) ({ frames := 6, cells := 0, slots := 0, locals := 129 } : Room) [.ref o] [bMo g o a th hi ac tp (-1) en tA (-1) de iD iO tU fm fk fa fc ft ff fb fi] (fun u : Int32 × Int32 × Int32 => (fun (at2 : Int32) (fl2 : Int32) (q : Int32) => some (.int q)) (u.1) (u.2.1) (u.2.2)) (fun u : Int32 × Int32 × Int32 => (fun (at2 : Int32) (fl2 : Int32) (q : Int32) => (0 ≤ at2.toInt ∧ at2.toInt ≤ en.toInt + 7 - de.toInt) ∧ (tA.toInt ≤ at2.toInt) ∧ ((-1) = fl2 ∧ zSum ft en.toInt (zbg ft en.toInt tA.toInt) (.ok (zbg ft en.toInt at2.toInt)) ∨ 0 ≤ fl2.toInt ∧ zSum ft en.toInt (zbg ft en.toInt tA.toInt) (.bad fl2.toInt))) (u.1) (u.2.1) (u.2.2)) (fun u : Int32 × Int32 × Int32 => (fun (at2 : Int32) (fl2 : Int32) (q : Int32) => [bMo g o a th hi ac tp (-1) en at2 fl2 de iD iO tU fm fk fa fc ft ff fb fi]) (u.1) (u.2.1) (u.2.2)) := by
  refine zM'.of (cc := cX12_sum) (maxL := 2) (rt := (some .int)) (by decide) rfl (Nat.le_of_ble_eq_true rfl) ?_
  intro p e s m args below meth c A ls St hr hlocks hin hK hT hA hP hD hS hl
  obtain ⟨hx, hb, hml, hown, hts⟩ := id St
  have hl : lv_has ls 2 [(0, .ref o)] := hl
  refine lv_aload_n hx hb dX12_sum_0 rfl (lv_at hl 0 rfl) ?_
  refine mcallV' (g := g) (q0 := 0) (ci := 10) (As := []) (rest := []) St hK hT hA hP hD hS hl.1 [0] [] rfl rfl rfl (m_partF l g o a th hi ac tp en tA de iD iO tU fm fk fa fc ft ff fb fi hen htA hde) (cwV 0 hts (zgL (zl4 k935 k936 k937 k839) k934) rfl rfl rfl (by decide +kernel) ⟨Nat.le_of_ble_eq_true rfl, Nat.le_of_ble_eq_true rfl⟩) rfl rfl rfl rfl (Nat.le_of_ble_eq_true rfl) dX12_sum_1 ⟨(Nat.le_of_ble_eq_true rfl), (Nat.le_of_ble_eq_true rfl)⟩ (fun u_ H locs hq4 hP hD hS => ?_)
  obtain ⟨at2_1, fl2_2, q_3⟩ := u_
  replace hq4 : (0 ≤ at2_1.toInt ∧ at2_1.toInt ≤ en.toInt + 7 - de.toInt) ∧ (tA.toInt ≤ at2_1.toInt) ∧ ((-1) = fl2_2 ∧ zPt ft en.toInt (zbg ft en.toInt tA.toInt) ∧ at2_1.toInt = znx ft en.toInt (zbg ft en.toInt tA.toInt) ∨ ¬ zPt ft en.toInt (zbg ft en.toInt tA.toInt) ∧ fl2_2.toInt = zbg ft en.toInt tA.toInt) := hq4
  have hP : va_P g.1 vwCl (List.flatten [bMo g o a th hi ac tp (-1) en at2_1 fl2_2 de iD iO tU fm fk fa fc ft ff fb fi]) H := hP
  have hD : va_D A (List.flatten [bMo g o a th hi ac tp (-1) en at2_1 fl2_2 de iD iO tU fm fk fa fc ft ff fb fi]) := hD
  refine W.widen (k := 0) (n := 0) (Nat.le_of_ble_eq_true rfl) (Nat.le_of_ble_eq_true rfl) ?_
  refine W.eq (g2 := F0 m 4 ls [.int q_3]) rfl ?_
  obtain ⟨hq4_0, hq4_1, hq4_2⟩ := hq4
  rcases hq4_2 with ⟨rfl, hq4_k, hq4_km⟩ | ⟨hq4_k, hq4_km⟩
  · skip
    refine lv_istore_n (lv' := [(1, .int q_3), (0, .ref o)]) hx hb dX12_sum_4 rfl hl (by decide) rfl (fun ls hl => ?_)
    have hl := lv_sub (l' := [(0, .ref o), (1, .int q_3)]) hl [1, 0] rfl
    have LP5_13 : ∀ (kf : Nat) (x_5 : Int32) (x_6 : Int32) (x_7 : Int32), (0 ≤ x_6.toInt ∧ x_6.toInt ≤ 407) → (tA.toInt ≤ x_6.toInt) → (x_6.toInt ≤ en.toInt + 7 - de.toInt) → (-1 ≤ x_7.toInt) → ((x_7.toInt = -1 ∧ ∀ r9, zSumT ft en.toInt (zbg ft en.toInt x_6.toInt) r9 → zSum ft en.toInt (zbg ft en.toInt tA.toInt) r9) ∨ (0 ≤ x_7.toInt ∧ zSum ft en.toInt (zbg ft en.toInt tA.toInt) (.bad x_7.toInt))) → ∀ (H : Heap) (locs : List Loc) (ls : Array Slot), ((en.toInt + 8 - x_6.toInt).toNat) < kf → va_P g.1 vwCl (List.flatten [bMo g o a th hi ac tp (-1) en x_6 x_7 de iD iO tU fm fk fa fc ft ff fb fi]) H → va_D A (List.flatten [bMo g o a th hi ac tp (-1) en x_6 x_7 de iD iO tU fm fk fa fc ft ff fb fi]) → va_S A s.heap H locs → lv_has ls 2 [(0, .ref o), (1, .int x_5)] → W p l e ({ frames := 6, cells := 0, slots := 0, locals := 129 } : Room) s m args below meth c H locs (0) (0) (zF g (fun u : Int32 × Int32 × Int32 => (fun (at2 : Int32) (fl2 : Int32) (q : Int32) => some (.int q)) (u.1) (u.2.1) (u.2.2)) (fun u : Int32 × Int32 × Int32 => (fun (at2 : Int32) (fl2 : Int32) (q : Int32) => (0 ≤ at2.toInt ∧ at2.toInt ≤ en.toInt + 7 - de.toInt) ∧ (tA.toInt ≤ at2.toInt) ∧ ((-1) = fl2 ∧ zSum ft en.toInt (zbg ft en.toInt tA.toInt) (.ok (zbg ft en.toInt at2.toInt)) ∨ 0 ≤ fl2.toInt ∧ zSum ft en.toInt (zbg ft en.toInt tA.toInt) (.bad fl2.toInt))) (u.1) (u.2.1) (u.2.2)) (fun u : Int32 × Int32 × Int32 => (fun (at2 : Int32) (fl2 : Int32) (q : Int32) => [bMo g o a th hi ac tp (-1) en at2 fl2 de iD iO tU fm fk fa fc ft ff fb fi]) (u.1) (u.2.1) (u.2.2)) ({ frames := 6, cells := 0, slots := 0, locals := 129 } : Room) below args s A) (F0 m 5 ls []) := by
      intro kf
      induction kf with
      | zero => intro x_5 x_6 x_7 i8 i9 i10 i11 i12 H locs ls hk; exact absurd hk (Nat.not_lt_zero _)
      | succ kf ih5_14 =>
        intro x_5 x_6 x_7 i8 i9 i10 i11 i12 H locs ls hk5_14 hP hD hS hl
        refine lv_aload_n hx hb dX12_sum_5 rfl (lv_at hl 0 rfl) ?_
        refine va_get (D := g.1) (ci := 10) (v := .int x_7) (C := RX12) (T := TX12) (N := 20) hx hb hts izRX12 hown hK hP 0 rfl rfl 12 (by decide) (hts _ k820) (fun _ h9 => h9) rfl dX12_sum_6 ?_
        refine lv_iconst (v := (-1)) hx hb dX12_sum_9 (by decide) ?_
        refine lv_icmp_ne (tgt := 42) hx hb dX12_sum_10 (by decide) (fun cb9 => ?_) (fun cb9 => ?_)
        · skip
          have c15 : ¬ x_7.toInt = (-1) := zne cb9 rfl (by decide)
          refine lv_iload_n hx hb dX12_sum_42 rfl (lv_at hl 1 rfl) ?_
          have hP : va_P g.1 vwCl (List.flatten [bMo g o a th hi ac tp (-1) en x_6 x_7 de iD iO tU fm fk fa fc ft ff fb fi]) H := hP
          have hD : va_D A (List.flatten [bMo g o a th hi ac tp (-1) en x_6 x_7 de iD iO tU fm fk fa fc ft ff fb fi]) := hD
          exact mret_i hx hb hr hlocks hS (Nat.le_of_ble_eq_true rfl) (Nat.le_of_ble_eq_true rfl) dX12_sum_43 (x_6, x_7, x_5) rfl (show (0 ≤ x_6.toInt ∧ x_6.toInt ≤ en.toInt + 7 - de.toInt) ∧ (tA.toInt ≤ x_6.toInt) ∧ ((-1) = x_7 ∧ zSum ft en.toInt (zbg ft en.toInt tA.toInt) (.ok (zbg ft en.toInt x_6.toInt)) ∨ 0 ≤ x_7.toInt ∧ zSum ft en.toInt (zbg ft en.toInt tA.toInt) (.bad x_7.toInt)) from ⟨(by first | assumption | omega | exact Or.inl (by decide) | exact Or.inr (by omega)), (by first | assumption | omega | exact Or.inl (by decide) | exact Or.inr (by omega)), (Or.inr (i12.resolve_left (fun h9 => by have := h9.1; omega)))⟩) hP hD
        · skip
          have c16 : x_7.toInt = (-1) := zeq cb9 rfl (by decide)
          have n17 : (-1) ≤ x_7.toInt := Int.le_trans (Int.le_refl _) (Int.le_of_eq c16.symm)
          have n18 : x_7.toInt ≤ (-1) := Int.le_trans (Int.le_of_eq c16) (Int.le_refl _)
          have w19 : ∀ r9, zSumT ft en.toInt (zbg ft en.toInt x_6.toInt) r9 → zSum ft en.toInt (zbg ft en.toInt tA.toInt) r9 := (i12.resolve_right (fun h9 => by have := h9.1; omega)).2
          have w20 : x_7 = -1 := (zm1 (by omega)).symm
          subst w20
          refine lv_aload_n hx hb dX12_sum_13 rfl (lv_at hl 0 rfl) ?_
          refine lv_bipush (v := 43) hx hb dX12_sum_14 (by decide) ?_
          have hL43 : (43 : Int32).toInt = 43 := by decide
          refine mcallV' (g := g) (q0 := 0) (ci := 10) (As := [.int 43]) (rest := []) St hK hT hA hP hD hS hl.1 [0] [] rfl rfl rfl (m_isSignF l g o a th hi ac tp en x_6 (-1) de iD iO tU fm fk fa fc ft ff fb fi 43 hen (by first | assumption | omega | decide | exact Or.inl (by decide) | exact Or.inr (by decide)) hde (by first | assumption | omega | decide | exact Or.inl (by decide) | exact Or.inr (by decide))) (cwV 1 hts (zgL (zl4 k938 k939 k940 k839) k883) rfl rfl rfl (by decide +kernel) ⟨Nat.le_of_ble_eq_true rfl, Nat.le_of_ble_eq_true rfl⟩) rfl rfl rfl rfl (Nat.le_of_ble_eq_true rfl) dX12_sum_16 ⟨(Nat.le_of_ble_eq_true rfl), (Nat.le_of_ble_eq_true rfl)⟩ (fun u_ H locs hq23 hP hD hS => ?_)
          obtain ⟨at2_21, q_22⟩ := u_
          replace hq23 : (0 ≤ at2_21.toInt ∧ at2_21.toInt ≤ en.toInt + 7 - de.toInt) ∧ (x_6.toInt ≤ at2_21.toInt) ∧ (zSk ft en.toInt x_6.toInt at2_21.toInt) ∧ (q_22 = 1 ∧ zisS ft en.toInt at2_21.toInt (43 : Int32).toInt ∧ at2_21.toInt < en.toInt ∨ q_22 = 0 ∧ ¬ zisS ft en.toInt at2_21.toInt (43 : Int32).toInt) := hq23
          have hP : va_P g.1 vwCl (List.flatten [bMo g o a th hi ac tp (-1) en at2_21 (-1) de iD iO tU fm fk fa fc ft ff fb fi]) H := hP
          have hD : va_D A (List.flatten [bMo g o a th hi ac tp (-1) en at2_21 (-1) de iD iO tU fm fk fa fc ft ff fb fi]) := hD
          refine W.widen (k := 0) (n := 0) (Nat.le_of_ble_eq_true rfl) (Nat.le_of_ble_eq_true rfl) ?_
          refine W.eq (g2 := F0 m 19 ls [.int q_22]) rfl ?_
          obtain ⟨hq23_0, hq23_1, hq23_2, hq23_3⟩ := hq23
          rcases hq23_3 with ⟨rfl, hq23_k⟩ | ⟨rfl, hq23_k⟩
          · skip
            refine lv_if_eq (tgt := 42) hx hb dX12_sum_19 (by decide) (fun c24 => absurd c24 (by decide)) (fun _ => ?_)
            refine lv_aload_n hx hb dX12_sum_22 rfl (lv_at hl 0 rfl) ?_
            refine lv_dup hx hb dX12_sum_23 rfl ?_
            refine va_get (D := g.1) (ci := 10) (v := .int at2_21) (C := RX12) (T := TX12) (N := 20) hx hb hts izRX12 hown hK hP 0 rfl rfl 11 (by decide) (hts _ k878) (fun _ h9 => h9) rfl dX12_sum_24 ?_
            refine lv_iconst (v := 1) hx hb dX12_sum_27 (by decide) ?_
            refine lv_iadd hx hb dX12_sum_28 ?_
            refine zgv (zadd (i := at2_21.toInt) (j := 1) rfl (by decide) (by omega)) (fun x_25 hx_25 => ?_)
            refine va_put (D := g.1) (ci := 10) (v := .int x_25) (ty := .int) (C := RX12) (T := TX12) (N := 20) hx hb hts izRX12 tyX12 tyX12_ok nmX12 hown hK hP hD hS 0 rfl rfl 11 (by decide) (hts _ k878) (fun _ h9 => h9) rfl (by decide +kernel) rfl rfl (Nat.le_of_ble_eq_true rfl) dX12_sum_29 (fun H locs hP hD hS => ?_)
            have hP : va_P g.1 vwCl (List.flatten [bMo g o a th hi ac tp (-1) en x_25 (-1) de iD iO tU fm fk fa fc ft ff fb fi]) H := hP
            have hD : va_D A (List.flatten [bMo g o a th hi ac tp (-1) en x_25 (-1) de iD iO tU fm fk fa fc ft ff fb fi]) := hD
            refine lv_iload_n hx hb dX12_sum_32 rfl (lv_at hl 1 rfl) ?_
            refine lv_aload_n hx hb dX12_sum_33 rfl (lv_at hl 0 rfl) ?_
            refine mcallV' (g := g) (q0 := 0) (ci := 10) (As := []) (rest := [.int x_5]) St hK hT hA hP hD hS hl.1 [0] [] rfl rfl rfl (m_partF l g o a th hi ac tp en x_25 de iD iO tU fm fk fa fc ft ff fb fi hen (by first | assumption | omega | decide | exact Or.inl (by decide) | exact Or.inr (by decide)) hde) (cwV 0 hts (zgL (zl4 k935 k936 k937 k839) k934) rfl rfl rfl (by decide +kernel) ⟨Nat.le_of_ble_eq_true rfl, Nat.le_of_ble_eq_true rfl⟩) rfl rfl rfl rfl (Nat.le_of_ble_eq_true rfl) dX12_sum_34 ⟨(Nat.le_of_ble_eq_true rfl), (Nat.le_of_ble_eq_true rfl)⟩ (fun u_ H locs hq29 hP hD hS => ?_)
            obtain ⟨at2_26, fl2_27, q_28⟩ := u_
            replace hq29 : (0 ≤ at2_26.toInt ∧ at2_26.toInt ≤ en.toInt + 7 - de.toInt) ∧ (x_25.toInt ≤ at2_26.toInt) ∧ ((-1) = fl2_27 ∧ zPt ft en.toInt (zbg ft en.toInt x_25.toInt) ∧ at2_26.toInt = znx ft en.toInt (zbg ft en.toInt x_25.toInt) ∨ ¬ zPt ft en.toInt (zbg ft en.toInt x_25.toInt) ∧ fl2_27.toInt = zbg ft en.toInt x_25.toInt) := hq29
            have hP : va_P g.1 vwCl (List.flatten [bMo g o a th hi ac tp (-1) en at2_26 fl2_27 de iD iO tU fm fk fa fc ft ff fb fi]) H := hP
            have hD : va_D A (List.flatten [bMo g o a th hi ac tp (-1) en at2_26 fl2_27 de iD iO tU fm fk fa fc ft ff fb fi]) := hD
            refine W.widen (k := 0) (n := 0) (Nat.le_of_ble_eq_true rfl) (Nat.le_of_ble_eq_true rfl) ?_
            refine W.eq (g2 := F0 m 37 ls [.int q_28, .int x_5]) rfl ?_
            obtain ⟨hq29_0, hq29_1, hq29_2⟩ := hq29
            rcases hq29_2 with ⟨rfl, hq29_k, hq29_km⟩ | ⟨hq29_k, hq29_km⟩
            · skip
              refine lv_iadd hx hb dX12_sum_37 ?_
              refine zg (fun x_30 => ?_)
              refine lv_istore_n (lv' := [(1, .int x_30), (0, .ref o)]) hx hb dX12_sum_38 rfl hl (by decide) rfl (fun ls hl => ?_)
              refine lv_goto (tgt := 5) hx hb dX12_sum_39 (by decide) ?_
              have hl := lv_sub (l' := [(0, .ref o), (1, .int x_30)]) hl [1, 0] rfl
              have hLn1 : ((-1) : Int32).toInt = (-1) := by decide
              have hP : va_P g.1 vwCl (List.flatten [bMo g o a th hi ac tp (-1) en at2_26 (-1) de iD iO tU fm fk fa fc ft ff fb fi]) H := hP
              have hD : va_D A (List.flatten [bMo g o a th hi ac tp (-1) en at2_26 (-1) de iD iO tU fm fk fa fc ft ff fb fi]) := hD
              exact ih5_14 x_30 at2_26 (-1) (by first | omega | assumption | decide) (by first | omega | assumption | decide) (by first | omega | assumption | decide) (by first | omega | assumption | decide) (Or.inl ⟨by decide, fun r9 h9 => zSu_plus (w19) hq23_2 hq23_k.1 (by decide) (by omega) (zSu_t hq29_k hq29_km h9)⟩) H _ ls (by omega)  hP hD hS (lv_sub hl [0, 1] rfl)
            · skip
              refine lv_iadd hx hb dX12_sum_37 ?_
              refine zg (fun x_31 => ?_)
              have w32 : 0 ≤ fl2_27.toInt := zB0 hq29_km
              refine lv_istore_n (lv' := [(1, .int x_31), (0, .ref o)]) hx hb dX12_sum_38 rfl hl (by decide) rfl (fun ls hl => ?_)
              refine lv_goto (tgt := 5) hx hb dX12_sum_39 (by decide) ?_
              have hl := lv_sub (l' := [(0, .ref o), (1, .int x_31)]) hl [1, 0] rfl
              have hP : va_P g.1 vwCl (List.flatten [bMo g o a th hi ac tp (-1) en at2_26 fl2_27 de iD iO tU fm fk fa fc ft ff fb fi]) H := hP
              have hD : va_D A (List.flatten [bMo g o a th hi ac tp (-1) en at2_26 fl2_27 de iD iO tU fm fk fa fc ft ff fb fi]) := hD
              exact ih5_14 x_31 at2_26 fl2_27 (by first | omega | assumption | decide) (by first | omega | assumption | decide) (by first | omega | assumption | decide) (by first | omega | assumption | decide) (Or.inr ⟨zB0 hq29_km, zSu_plus (w19) hq23_2 hq23_k.1 (by decide) (by omega) (by rw [hq29_km]; exact .wrong hq29_k)⟩) H _ ls (by omega)  hP hD hS (lv_sub hl [0, 1] rfl)
          · skip
            refine lv_if_eq (tgt := 42) hx hb dX12_sum_19 (by decide) (fun _ => ?_) (fun c33 => absurd (by decide) c33)
            refine lv_iload_n hx hb dX12_sum_42 rfl (lv_at hl 1 rfl) ?_
            have hP : va_P g.1 vwCl (List.flatten [bMo g o a th hi ac tp (-1) en at2_21 (-1) de iD iO tU fm fk fa fc ft ff fb fi]) H := hP
            have hD : va_D A (List.flatten [bMo g o a th hi ac tp (-1) en at2_21 (-1) de iD iO tU fm fk fa fc ft ff fb fi]) := hD
            exact mret_i hx hb hr hlocks hS (Nat.le_of_ble_eq_true rfl) (Nat.le_of_ble_eq_true rfl) dX12_sum_43 (at2_21, -1, x_5) rfl (show (0 ≤ at2_21.toInt ∧ at2_21.toInt ≤ en.toInt + 7 - de.toInt) ∧ (tA.toInt ≤ at2_21.toInt) ∧ ((-1) = (-1) ∧ zSum ft en.toInt (zbg ft en.toInt tA.toInt) (.ok (zbg ft en.toInt at2_21.toInt)) ∨ 0 ≤ ((-1) : Int32).toInt ∧ zSum ft en.toInt (zbg ft en.toInt tA.toInt) (.bad ((-1) : Int32).toInt)) from ⟨(by first | assumption | omega | exact Or.inl (by decide) | exact Or.inr (by omega)), (by first | assumption | omega | exact Or.inl (by decide) | exact Or.inr (by omega)), (Or.inl ⟨rfl, zSu_end (w19) hq23_2 hq23_k (by decide)⟩)⟩) hP hD
    have hLn1 : ((-1) : Int32).toInt = (-1) := by decide
    have hP : va_P g.1 vwCl (List.flatten [bMo g o a th hi ac tp (-1) en at2_1 (-1) de iD iO tU fm fk fa fc ft ff fb fi]) H := hP
    have hD : va_D A (List.flatten [bMo g o a th hi ac tp (-1) en at2_1 (-1) de iD iO tU fm fk fa fc ft ff fb fi]) := hD
    exact LP5_13 _ q_3 at2_1 (-1) (by first | omega | assumption | decide) hq4_1 (by first | omega | assumption | decide) (by first | omega | assumption | decide) (Or.inl ⟨by decide, fun r9 h9 => zSu_t hq4_k hq4_km h9⟩) H _ ls (Nat.lt_succ_self _)  hP hD hS (lv_sub hl [0, 1] rfl)
  · skip
    have w34 : 0 ≤ fl2_2.toInt := zB0 hq4_km
    refine lv_istore_n (lv' := [(1, .int q_3), (0, .ref o)]) hx hb dX12_sum_4 rfl hl (by decide) rfl (fun ls hl => ?_)
    have hl := lv_sub (l' := [(0, .ref o), (1, .int q_3)]) hl [1, 0] rfl
    have LP5_43 : ∀ (kf : Nat) (x_35 : Int32) (x_36 : Int32) (x_37 : Int32), (0 ≤ x_36.toInt ∧ x_36.toInt ≤ 407) → (tA.toInt ≤ x_36.toInt) → (x_36.toInt ≤ en.toInt + 7 - de.toInt) → (-1 ≤ x_37.toInt) → ((x_37.toInt = -1 ∧ ∀ r9, zSumT ft en.toInt (zbg ft en.toInt x_36.toInt) r9 → zSum ft en.toInt (zbg ft en.toInt tA.toInt) r9) ∨ (0 ≤ x_37.toInt ∧ zSum ft en.toInt (zbg ft en.toInt tA.toInt) (.bad x_37.toInt))) → ∀ (H : Heap) (locs : List Loc) (ls : Array Slot), ((en.toInt + 8 - x_36.toInt).toNat) < kf → va_P g.1 vwCl (List.flatten [bMo g o a th hi ac tp (-1) en x_36 x_37 de iD iO tU fm fk fa fc ft ff fb fi]) H → va_D A (List.flatten [bMo g o a th hi ac tp (-1) en x_36 x_37 de iD iO tU fm fk fa fc ft ff fb fi]) → va_S A s.heap H locs → lv_has ls 2 [(0, .ref o), (1, .int x_35)] → W p l e ({ frames := 6, cells := 0, slots := 0, locals := 129 } : Room) s m args below meth c H locs (0) (0) (zF g (fun u : Int32 × Int32 × Int32 => (fun (at2 : Int32) (fl2 : Int32) (q : Int32) => some (.int q)) (u.1) (u.2.1) (u.2.2)) (fun u : Int32 × Int32 × Int32 => (fun (at2 : Int32) (fl2 : Int32) (q : Int32) => (0 ≤ at2.toInt ∧ at2.toInt ≤ en.toInt + 7 - de.toInt) ∧ (tA.toInt ≤ at2.toInt) ∧ ((-1) = fl2 ∧ zSum ft en.toInt (zbg ft en.toInt tA.toInt) (.ok (zbg ft en.toInt at2.toInt)) ∨ 0 ≤ fl2.toInt ∧ zSum ft en.toInt (zbg ft en.toInt tA.toInt) (.bad fl2.toInt))) (u.1) (u.2.1) (u.2.2)) (fun u : Int32 × Int32 × Int32 => (fun (at2 : Int32) (fl2 : Int32) (q : Int32) => [bMo g o a th hi ac tp (-1) en at2 fl2 de iD iO tU fm fk fa fc ft ff fb fi]) (u.1) (u.2.1) (u.2.2)) ({ frames := 6, cells := 0, slots := 0, locals := 129 } : Room) below args s A) (F0 m 5 ls []) := by
      intro kf
      induction kf with
      | zero => intro x_35 x_36 x_37 i38 i39 i40 i41 i42 H locs ls hk; exact absurd hk (Nat.not_lt_zero _)
      | succ kf ih5_44 =>
        intro x_35 x_36 x_37 i38 i39 i40 i41 i42 H locs ls hk5_44 hP hD hS hl
        refine lv_aload_n hx hb dX12_sum_5 rfl (lv_at hl 0 rfl) ?_
        refine va_get (D := g.1) (ci := 10) (v := .int x_37) (C := RX12) (T := TX12) (N := 20) hx hb hts izRX12 hown hK hP 0 rfl rfl 12 (by decide) (hts _ k820) (fun _ h9 => h9) rfl dX12_sum_6 ?_
        refine lv_iconst (v := (-1)) hx hb dX12_sum_9 (by decide) ?_
        refine lv_icmp_ne (tgt := 42) hx hb dX12_sum_10 (by decide) (fun cb9 => ?_) (fun cb9 => ?_)
        · skip
          have c45 : ¬ x_37.toInt = (-1) := zne cb9 rfl (by decide)
          refine lv_iload_n hx hb dX12_sum_42 rfl (lv_at hl 1 rfl) ?_
          have hP : va_P g.1 vwCl (List.flatten [bMo g o a th hi ac tp (-1) en x_36 x_37 de iD iO tU fm fk fa fc ft ff fb fi]) H := hP
          have hD : va_D A (List.flatten [bMo g o a th hi ac tp (-1) en x_36 x_37 de iD iO tU fm fk fa fc ft ff fb fi]) := hD
          exact mret_i hx hb hr hlocks hS (Nat.le_of_ble_eq_true rfl) (Nat.le_of_ble_eq_true rfl) dX12_sum_43 (x_36, x_37, x_35) rfl (show (0 ≤ x_36.toInt ∧ x_36.toInt ≤ en.toInt + 7 - de.toInt) ∧ (tA.toInt ≤ x_36.toInt) ∧ ((-1) = x_37 ∧ zSum ft en.toInt (zbg ft en.toInt tA.toInt) (.ok (zbg ft en.toInt x_36.toInt)) ∨ 0 ≤ x_37.toInt ∧ zSum ft en.toInt (zbg ft en.toInt tA.toInt) (.bad x_37.toInt)) from ⟨(by first | assumption | omega | exact Or.inl (by decide) | exact Or.inr (by omega)), (by first | assumption | omega | exact Or.inl (by decide) | exact Or.inr (by omega)), (Or.inr (i42.resolve_left (fun h9 => by have := h9.1; omega)))⟩) hP hD
        · skip
          have c46 : x_37.toInt = (-1) := zeq cb9 rfl (by decide)
          have n47 : (-1) ≤ x_37.toInt := Int.le_trans (Int.le_refl _) (Int.le_of_eq c46.symm)
          have n48 : x_37.toInt ≤ (-1) := Int.le_trans (Int.le_of_eq c46) (Int.le_refl _)
          have w49 : ∀ r9, zSumT ft en.toInt (zbg ft en.toInt x_36.toInt) r9 → zSum ft en.toInt (zbg ft en.toInt tA.toInt) r9 := (i42.resolve_right (fun h9 => by have := h9.1; omega)).2
          have w50 : x_37 = -1 := (zm1 (by omega)).symm
          subst w50
          refine lv_aload_n hx hb dX12_sum_13 rfl (lv_at hl 0 rfl) ?_
          refine lv_bipush (v := 43) hx hb dX12_sum_14 (by decide) ?_
          have hL43 : (43 : Int32).toInt = 43 := by decide
          refine mcallV' (g := g) (q0 := 0) (ci := 10) (As := [.int 43]) (rest := []) St hK hT hA hP hD hS hl.1 [0] [] rfl rfl rfl (m_isSignF l g o a th hi ac tp en x_36 (-1) de iD iO tU fm fk fa fc ft ff fb fi 43 hen (by first | assumption | omega | decide | exact Or.inl (by decide) | exact Or.inr (by decide)) hde (by first | assumption | omega | decide | exact Or.inl (by decide) | exact Or.inr (by decide))) (cwV 1 hts (zgL (zl4 k938 k939 k940 k839) k883) rfl rfl rfl (by decide +kernel) ⟨Nat.le_of_ble_eq_true rfl, Nat.le_of_ble_eq_true rfl⟩) rfl rfl rfl rfl (Nat.le_of_ble_eq_true rfl) dX12_sum_16 ⟨(Nat.le_of_ble_eq_true rfl), (Nat.le_of_ble_eq_true rfl)⟩ (fun u_ H locs hq53 hP hD hS => ?_)
          obtain ⟨at2_51, q_52⟩ := u_
          replace hq53 : (0 ≤ at2_51.toInt ∧ at2_51.toInt ≤ en.toInt + 7 - de.toInt) ∧ (x_36.toInt ≤ at2_51.toInt) ∧ (zSk ft en.toInt x_36.toInt at2_51.toInt) ∧ (q_52 = 1 ∧ zisS ft en.toInt at2_51.toInt (43 : Int32).toInt ∧ at2_51.toInt < en.toInt ∨ q_52 = 0 ∧ ¬ zisS ft en.toInt at2_51.toInt (43 : Int32).toInt) := hq53
          have hP : va_P g.1 vwCl (List.flatten [bMo g o a th hi ac tp (-1) en at2_51 (-1) de iD iO tU fm fk fa fc ft ff fb fi]) H := hP
          have hD : va_D A (List.flatten [bMo g o a th hi ac tp (-1) en at2_51 (-1) de iD iO tU fm fk fa fc ft ff fb fi]) := hD
          refine W.widen (k := 0) (n := 0) (Nat.le_of_ble_eq_true rfl) (Nat.le_of_ble_eq_true rfl) ?_
          refine W.eq (g2 := F0 m 19 ls [.int q_52]) rfl ?_
          obtain ⟨hq53_0, hq53_1, hq53_2, hq53_3⟩ := hq53
          rcases hq53_3 with ⟨rfl, hq53_k⟩ | ⟨rfl, hq53_k⟩
          · skip
            refine lv_if_eq (tgt := 42) hx hb dX12_sum_19 (by decide) (fun c54 => absurd c54 (by decide)) (fun _ => ?_)
            refine lv_aload_n hx hb dX12_sum_22 rfl (lv_at hl 0 rfl) ?_
            refine lv_dup hx hb dX12_sum_23 rfl ?_
            refine va_get (D := g.1) (ci := 10) (v := .int at2_51) (C := RX12) (T := TX12) (N := 20) hx hb hts izRX12 hown hK hP 0 rfl rfl 11 (by decide) (hts _ k878) (fun _ h9 => h9) rfl dX12_sum_24 ?_
            refine lv_iconst (v := 1) hx hb dX12_sum_27 (by decide) ?_
            refine lv_iadd hx hb dX12_sum_28 ?_
            refine zgv (zadd (i := at2_51.toInt) (j := 1) rfl (by decide) (by omega)) (fun x_55 hx_55 => ?_)
            refine va_put (D := g.1) (ci := 10) (v := .int x_55) (ty := .int) (C := RX12) (T := TX12) (N := 20) hx hb hts izRX12 tyX12 tyX12_ok nmX12 hown hK hP hD hS 0 rfl rfl 11 (by decide) (hts _ k878) (fun _ h9 => h9) rfl (by decide +kernel) rfl rfl (Nat.le_of_ble_eq_true rfl) dX12_sum_29 (fun H locs hP hD hS => ?_)
            have hP : va_P g.1 vwCl (List.flatten [bMo g o a th hi ac tp (-1) en x_55 (-1) de iD iO tU fm fk fa fc ft ff fb fi]) H := hP
            have hD : va_D A (List.flatten [bMo g o a th hi ac tp (-1) en x_55 (-1) de iD iO tU fm fk fa fc ft ff fb fi]) := hD
            refine lv_iload_n hx hb dX12_sum_32 rfl (lv_at hl 1 rfl) ?_
            refine lv_aload_n hx hb dX12_sum_33 rfl (lv_at hl 0 rfl) ?_
            refine mcallV' (g := g) (q0 := 0) (ci := 10) (As := []) (rest := [.int x_35]) St hK hT hA hP hD hS hl.1 [0] [] rfl rfl rfl (m_partF l g o a th hi ac tp en x_55 de iD iO tU fm fk fa fc ft ff fb fi hen (by first | assumption | omega | decide | exact Or.inl (by decide) | exact Or.inr (by decide)) hde) (cwV 0 hts (zgL (zl4 k935 k936 k937 k839) k934) rfl rfl rfl (by decide +kernel) ⟨Nat.le_of_ble_eq_true rfl, Nat.le_of_ble_eq_true rfl⟩) rfl rfl rfl rfl (Nat.le_of_ble_eq_true rfl) dX12_sum_34 ⟨(Nat.le_of_ble_eq_true rfl), (Nat.le_of_ble_eq_true rfl)⟩ (fun u_ H locs hq59 hP hD hS => ?_)
            obtain ⟨at2_56, fl2_57, q_58⟩ := u_
            replace hq59 : (0 ≤ at2_56.toInt ∧ at2_56.toInt ≤ en.toInt + 7 - de.toInt) ∧ (x_55.toInt ≤ at2_56.toInt) ∧ ((-1) = fl2_57 ∧ zPt ft en.toInt (zbg ft en.toInt x_55.toInt) ∧ at2_56.toInt = znx ft en.toInt (zbg ft en.toInt x_55.toInt) ∨ ¬ zPt ft en.toInt (zbg ft en.toInt x_55.toInt) ∧ fl2_57.toInt = zbg ft en.toInt x_55.toInt) := hq59
            have hP : va_P g.1 vwCl (List.flatten [bMo g o a th hi ac tp (-1) en at2_56 fl2_57 de iD iO tU fm fk fa fc ft ff fb fi]) H := hP
            have hD : va_D A (List.flatten [bMo g o a th hi ac tp (-1) en at2_56 fl2_57 de iD iO tU fm fk fa fc ft ff fb fi]) := hD
            refine W.widen (k := 0) (n := 0) (Nat.le_of_ble_eq_true rfl) (Nat.le_of_ble_eq_true rfl) ?_
            refine W.eq (g2 := F0 m 37 ls [.int q_58, .int x_35]) rfl ?_
            obtain ⟨hq59_0, hq59_1, hq59_2⟩ := hq59
            rcases hq59_2 with ⟨rfl, hq59_k, hq59_km⟩ | ⟨hq59_k, hq59_km⟩
            · skip
              refine lv_iadd hx hb dX12_sum_37 ?_
              refine zg (fun x_60 => ?_)
              refine lv_istore_n (lv' := [(1, .int x_60), (0, .ref o)]) hx hb dX12_sum_38 rfl hl (by decide) rfl (fun ls hl => ?_)
              refine lv_goto (tgt := 5) hx hb dX12_sum_39 (by decide) ?_
              have hl := lv_sub (l' := [(0, .ref o), (1, .int x_60)]) hl [1, 0] rfl
              have hLn1 : ((-1) : Int32).toInt = (-1) := by decide
              have hP : va_P g.1 vwCl (List.flatten [bMo g o a th hi ac tp (-1) en at2_56 (-1) de iD iO tU fm fk fa fc ft ff fb fi]) H := hP
              have hD : va_D A (List.flatten [bMo g o a th hi ac tp (-1) en at2_56 (-1) de iD iO tU fm fk fa fc ft ff fb fi]) := hD
              exact ih5_44 x_60 at2_56 (-1) (by first | omega | assumption | decide) (by first | omega | assumption | decide) (by first | omega | assumption | decide) (by first | omega | assumption | decide) (Or.inl ⟨by decide, fun r9 h9 => zSu_plus (w49) hq53_2 hq53_k.1 (by decide) (by omega) (zSu_t hq59_k hq59_km h9)⟩) H _ ls (by omega)  hP hD hS (lv_sub hl [0, 1] rfl)
            · skip
              refine lv_iadd hx hb dX12_sum_37 ?_
              refine zg (fun x_61 => ?_)
              have w62 : 0 ≤ fl2_57.toInt := zB0 hq59_km
              refine lv_istore_n (lv' := [(1, .int x_61), (0, .ref o)]) hx hb dX12_sum_38 rfl hl (by decide) rfl (fun ls hl => ?_)
              refine lv_goto (tgt := 5) hx hb dX12_sum_39 (by decide) ?_
              have hl := lv_sub (l' := [(0, .ref o), (1, .int x_61)]) hl [1, 0] rfl
              have hP : va_P g.1 vwCl (List.flatten [bMo g o a th hi ac tp (-1) en at2_56 fl2_57 de iD iO tU fm fk fa fc ft ff fb fi]) H := hP
              have hD : va_D A (List.flatten [bMo g o a th hi ac tp (-1) en at2_56 fl2_57 de iD iO tU fm fk fa fc ft ff fb fi]) := hD
              exact ih5_44 x_61 at2_56 fl2_57 (by first | omega | assumption | decide) (by first | omega | assumption | decide) (by first | omega | assumption | decide) (by first | omega | assumption | decide) (Or.inr ⟨zB0 hq59_km, zSu_plus (w49) hq53_2 hq53_k.1 (by decide) (by omega) (by rw [hq59_km]; exact .wrong hq59_k)⟩) H _ ls (by omega)  hP hD hS (lv_sub hl [0, 1] rfl)
          · skip
            refine lv_if_eq (tgt := 42) hx hb dX12_sum_19 (by decide) (fun _ => ?_) (fun c63 => absurd (by decide) c63)
            refine lv_iload_n hx hb dX12_sum_42 rfl (lv_at hl 1 rfl) ?_
            have hP : va_P g.1 vwCl (List.flatten [bMo g o a th hi ac tp (-1) en at2_51 (-1) de iD iO tU fm fk fa fc ft ff fb fi]) H := hP
            have hD : va_D A (List.flatten [bMo g o a th hi ac tp (-1) en at2_51 (-1) de iD iO tU fm fk fa fc ft ff fb fi]) := hD
            exact mret_i hx hb hr hlocks hS (Nat.le_of_ble_eq_true rfl) (Nat.le_of_ble_eq_true rfl) dX12_sum_43 (at2_51, -1, x_35) rfl (show (0 ≤ at2_51.toInt ∧ at2_51.toInt ≤ en.toInt + 7 - de.toInt) ∧ (tA.toInt ≤ at2_51.toInt) ∧ ((-1) = (-1) ∧ zSum ft en.toInt (zbg ft en.toInt tA.toInt) (.ok (zbg ft en.toInt at2_51.toInt)) ∨ 0 ≤ ((-1) : Int32).toInt ∧ zSum ft en.toInt (zbg ft en.toInt tA.toInt) (.bad ((-1) : Int32).toInt)) from ⟨(by first | assumption | omega | exact Or.inl (by decide) | exact Or.inr (by omega)), (by first | assumption | omega | exact Or.inl (by decide) | exact Or.inr (by omega)), (Or.inl ⟨rfl, zSu_end (w49) hq53_2 hq53_k (by decide)⟩)⟩) hP hD
    have hP : va_P g.1 vwCl (List.flatten [bMo g o a th hi ac tp (-1) en at2_1 fl2_2 de iD iO tU fm fk fa fc ft ff fb fi]) H := hP
    have hD : va_D A (List.flatten [bMo g o a th hi ac tp (-1) en at2_1 fl2_2 de iD iO tU fm fk fa fc ft ff fb fi]) := hD
    exact LP5_43 _ q_3 at2_1 fl2_2 (by first | omega | assumption | decide) hq4_1 (by first | omega | assumption | decide) (by first | omega | assumption | decide) (Or.inr ⟨zB0 hq4_km, by rw [hq4_km]; exact .wrong hq4_k⟩) H _ ls (Nat.lt_succ_self _)  hP hD hS (lv_sub hl [0, 1] rfl)
set_option maxRecDepth 100000 in
set_option maxHeartbeats 4000000 in
theorem m_plainF (l : Launch) (g : zG) (o : Nat) (a : Nat → Nat) (th : Int32) (hi : Int32) (ac : Int32) (tp : Int32) (en : Int32) (tA : Int32) (de : Int32) (iD : Int32) (iO : Int32) (tU : Int32) (fm : Nat → Int32) (fk : Nat → Int32) (fa : Nat → Int32) (fc : Nat → Int32) (ft : Nat → Int32) (ff : Nat → Int32) (fb : Nat → Int32) (fi : Nat → Int32) (hiD : 0 ≤ iD.toInt ∧ iD.toInt ≤ 1) (hiO : 0 ≤ iO.toInt ∧ iO.toInt ≤ 1) (hen : 0 ≤ en.toInt ∧ en.toInt ≤ 400) (htA : 0 ≤ tA.toInt ∧ tA.toInt ≤ en.toInt + 7 - de.toInt) (hde : 0 ≤ de.toInt ∧ de.toInt ≤ 6) : zM' g l yX12_plain (Cond.code yX12_plain cX12_plain 4 (some .boolean) :: zB) ({ frames := 7, cells := 0, slots := 0, locals := 150 } : Room) [.ref o] [bMo g o a th hi ac tp (-1) en tA (-1) de iD iO tU fm fk fa fc ft ff fb fi] (fun u : Int32 × Int32 × Int32 => (fun (at2 : Int32) (fl2 : Int32) (q : Int32) => some (.int q)) (u.1) (u.2.1) (u.2.2)) (fun u : Int32 × Int32 × Int32 => (fun (at2 : Int32) (fl2 : Int32) (q : Int32) => (0 ≤ at2.toInt ∧ at2.toInt ≤ en.toInt + 7 - de.toInt) ∧ (tA.toInt ≤ at2.toInt) ∧ (0 ≤ q.toInt ∧ q.toInt ≤ 1) ∧ ((-1) = fl2 ∧ zPlain ft en.toInt (zbg ft en.toInt tA.toInt) (.ok (zbg ft en.toInt at2.toInt)) ∨ 0 ≤ fl2.toInt ∧ zPlain ft en.toInt (zbg ft en.toInt tA.toInt) (.bad fl2.toInt))) (u.1) (u.2.1) (u.2.2)) (fun u : Int32 × Int32 × Int32 => (fun (at2 : Int32) (fl2 : Int32) (q : Int32) => [bMo g o a th hi ac tp (-1) en at2 fl2 de iD iO tU fm fk fa fc ft ff fb fi]) (u.1) (u.2.1) (u.2.2)) := by
  refine zM'.of (cc := cX12_plain) (maxL := 4) (rt := (some .boolean)) (by decide) rfl (Nat.le_of_ble_eq_true rfl) ?_
  intro p e s m args below meth c A ls St hr hlocks hin hK hT hA hP hD hS hl
  obtain ⟨hx, hb, hml, hown, hts⟩ := id St
  have hl : lv_has ls 4 [(0, .ref o)] := hl
  refine lv_aload_n hx hb dX12_plain_0 rfl (lv_at hl 0 rfl) ?_
  refine va_ldcS (q := g.2 64) hx hb hown (zra27 hT.2.1) dX12_plain_1 ?_
  refine mcallV' (g := g) (q0 := 0) (ci := 10) (As := [.ref (g.2 64)]) (rest := []) St hK hT hA hP hD hS hl.1 [0] [] rfl rfl rfl (m_hasF l g o a th hi ac tp en tA (-1) de iD iO tU fm fk fa fc ft ff fb fi (g.2 64) 27 zqa27 hen htA hde rfl zla27 zna27 (zlitB zla27)) (cwV 1 hts (zgL (zl4 k899 k900 k901 k839) k889) rfl rfl rfl (by decide +kernel) ⟨Nat.le_of_ble_eq_true rfl, Nat.le_of_ble_eq_true rfl⟩) rfl rfl rfl rfl (Nat.le_of_ble_eq_true rfl) dX12_plain_3 ⟨(Nat.le_of_ble_eq_true rfl), (Nat.le_of_ble_eq_true rfl)⟩ (fun u_ H locs hq3 hP hD hS => ?_)
  obtain ⟨at2_1, r_2⟩ := u_
  replace hq3 : (0 ≤ at2_1.toInt ∧ at2_1.toInt ≤ en.toInt + 7 - de.toInt) ∧ (tA.toInt ≤ at2_1.toInt) ∧ (r_2 = 1 ∧ zisW ft en.toInt (zbg ft en.toInt tA.toInt) zqa27.2.2.2 ∧ at2_1.toInt = znx ft en.toInt (zbg ft en.toInt tA.toInt) ∧ tA.toInt < at2_1.toInt ∧ at2_1.toInt ≤ en.toInt ∨ r_2 = 0 ∧ ¬ zisW ft en.toInt (zbg ft en.toInt tA.toInt) zqa27.2.2.2 ∧ at2_1.toInt = zbg ft en.toInt tA.toInt) := hq3
  have hP : va_P g.1 vwCl (List.flatten [bMo g o a th hi ac tp (-1) en at2_1 (-1) de iD iO tU fm fk fa fc ft ff fb fi]) H := hP
  have hD : va_D A (List.flatten [bMo g o a th hi ac tp (-1) en at2_1 (-1) de iD iO tU fm fk fa fc ft ff fb fi]) := hD
  refine W.widen (k := 0) (n := 0) (Nat.le_of_ble_eq_true rfl) (Nat.le_of_ble_eq_true rfl) ?_
  refine W.eq (g2 := F0 m 6 ls [.int r_2]) rfl ?_
  obtain ⟨hq3_0, hq3_1, hq3_2⟩ := hq3
  rcases hq3_2 with ⟨rfl, hq3_k, hq3_km⟩ | ⟨rfl, hq3_k, hq3_km⟩
  · skip
    refine lv_if_eq (tgt := 14) hx hb dX12_plain_6 (by decide) (fun c4 => absurd c4 (by decide)) (fun _ => ?_)
    refine lv_aload_n hx hb dX12_plain_9 rfl (lv_at hl 0 rfl) ?_
    refine va_get (D := g.1) (ci := 10) (v := .int iD) (C := RX12) (T := TX12) (N := 20) hx hb hts izRX12 hown hK hP 0 rfl rfl 15 (by decide) (hts _ k942) (fun _ h9 => h9) rfl dX12_plain_10 ?_
    have hP : va_P g.1 vwCl (List.flatten [bMo g o a th hi ac tp (-1) en at2_1 (-1) de iD iO tU fm fk fa fc ft ff fb fi]) H := hP
    have hD : va_D A (List.flatten [bMo g o a th hi ac tp (-1) en at2_1 (-1) de iD iO tU fm fk fa fc ft ff fb fi]) := hD
    exact mret_z hx hb hr hlocks hS (Nat.le_of_ble_eq_true rfl) (Nat.le_of_ble_eq_true rfl) dX12_plain_13 (at2_1, -1, iD) rfl (by first | assumption | exact zb01 (by omega)) (show (0 ≤ at2_1.toInt ∧ at2_1.toInt ≤ en.toInt + 7 - de.toInt) ∧ (tA.toInt ≤ at2_1.toInt) ∧ (0 ≤ iD.toInt ∧ iD.toInt ≤ 1) ∧ ((-1) = (-1) ∧ zPlain ft en.toInt (zbg ft en.toInt tA.toInt) (.ok (zbg ft en.toInt at2_1.toInt)) ∨ 0 ≤ ((-1) : Int32).toInt ∧ zPlain ft en.toInt (zbg ft en.toInt tA.toInt) (.bad ((-1) : Int32).toInt)) from ⟨(by first | assumption | omega | exact Or.inl (by decide) | exact Or.inr (by omega)), (by first | assumption | omega | exact Or.inl (by decide) | exact Or.inr (by omega)), (by first | assumption | decide | omega), (Or.inl ⟨rfl, zPl_word (Or.inl hq3_k) (zMvb hq3_km.1)⟩)⟩) hP hD
  · skip
    refine lv_if_eq (tgt := 14) hx hb dX12_plain_6 (by decide) (fun _ => ?_) (fun c5 => absurd (by decide) c5)
    refine lv_aload_n hx hb dX12_plain_14 rfl (lv_at hl 0 rfl) ?_
    refine va_ldcS (q := g.2 96) hx hb hown (zra43 hT.2.1) dX12_plain_15 ?_
    refine mcallV' (g := g) (q0 := 0) (ci := 10) (As := [.ref (g.2 96)]) (rest := []) St hK hT hA hP hD hS hl.1 [0] [] rfl rfl rfl (m_hasF l g o a th hi ac tp en at2_1 (-1) de iD iO tU fm fk fa fc ft ff fb fi (g.2 96) 43 zqa43 hen hq3_0 hde rfl zla43 zna43 (zlitB zla43)) (cwV 1 hts (zgL (zl4 k899 k900 k901 k839) k889) rfl rfl rfl (by decide +kernel) ⟨Nat.le_of_ble_eq_true rfl, Nat.le_of_ble_eq_true rfl⟩) rfl rfl rfl rfl (Nat.le_of_ble_eq_true rfl) dX12_plain_17 ⟨(Nat.le_of_ble_eq_true rfl), (Nat.le_of_ble_eq_true rfl)⟩ (fun u_ H locs hq8 hP hD hS => ?_)
    obtain ⟨at2_6, r_7⟩ := u_
    replace hq8 : (0 ≤ at2_6.toInt ∧ at2_6.toInt ≤ en.toInt + 7 - de.toInt) ∧ (at2_1.toInt ≤ at2_6.toInt) ∧ (r_7 = 1 ∧ zisW ft en.toInt (zbg ft en.toInt at2_1.toInt) zqa43.2.2.2 ∧ at2_6.toInt = znx ft en.toInt (zbg ft en.toInt at2_1.toInt) ∧ at2_1.toInt < at2_6.toInt ∧ at2_6.toInt ≤ en.toInt ∨ r_7 = 0 ∧ ¬ zisW ft en.toInt (zbg ft en.toInt at2_1.toInt) zqa43.2.2.2 ∧ at2_6.toInt = zbg ft en.toInt at2_1.toInt) := hq8
    have hP : va_P g.1 vwCl (List.flatten [bMo g o a th hi ac tp (-1) en at2_6 (-1) de iD iO tU fm fk fa fc ft ff fb fi]) H := hP
    have hD : va_D A (List.flatten [bMo g o a th hi ac tp (-1) en at2_6 (-1) de iD iO tU fm fk fa fc ft ff fb fi]) := hD
    refine W.widen (k := 0) (n := 0) (Nat.le_of_ble_eq_true rfl) (Nat.le_of_ble_eq_true rfl) ?_
    refine W.eq (g2 := F0 m 20 ls [.int r_7]) rfl ?_
    obtain ⟨hq8_0, hq8_1, hq8_2⟩ := hq8
    rcases hq8_2 with ⟨rfl, hq8_k, hq8_km⟩ | ⟨rfl, hq8_k, hq8_km⟩
    · skip
      refine lv_if_eq (tgt := 28) hx hb dX12_plain_20 (by decide) (fun c9 => absurd c9 (by decide)) (fun _ => ?_)
      refine lv_aload_n hx hb dX12_plain_23 rfl (lv_at hl 0 rfl) ?_
      refine va_get (D := g.1) (ci := 10) (v := .int iO) (C := RX12) (T := TX12) (N := 20) hx hb hts izRX12 hown hK hP 0 rfl rfl 16 (by decide) (hts _ k943) (fun _ h9 => h9) rfl dX12_plain_24 ?_
      have hP : va_P g.1 vwCl (List.flatten [bMo g o a th hi ac tp (-1) en at2_6 (-1) de iD iO tU fm fk fa fc ft ff fb fi]) H := hP
      have hD : va_D A (List.flatten [bMo g o a th hi ac tp (-1) en at2_6 (-1) de iD iO tU fm fk fa fc ft ff fb fi]) := hD
      exact mret_z hx hb hr hlocks hS (Nat.le_of_ble_eq_true rfl) (Nat.le_of_ble_eq_true rfl) dX12_plain_27 (at2_6, -1, iO) rfl (by first | assumption | exact zb01 (by omega)) (show (0 ≤ at2_6.toInt ∧ at2_6.toInt ≤ en.toInt + 7 - de.toInt) ∧ (tA.toInt ≤ at2_6.toInt) ∧ (0 ≤ iO.toInt ∧ iO.toInt ≤ 1) ∧ ((-1) = (-1) ∧ zPlain ft en.toInt (zbg ft en.toInt tA.toInt) (.ok (zbg ft en.toInt at2_6.toInt)) ∨ 0 ≤ ((-1) : Int32).toInt ∧ zPlain ft en.toInt (zbg ft en.toInt tA.toInt) (.bad ((-1) : Int32).toInt)) from ⟨(by first | assumption | omega | exact Or.inl (by decide) | exact Or.inr (by omega)), (by first | assumption | omega | exact Or.inl (by decide) | exact Or.inr (by omega)), (by first | assumption | decide | omega), (Or.inl ⟨rfl, zPl_word (Or.inr (zBy hq3_km hq8_k)) (zMvb (zBx hq3_km hq8_km.1))⟩)⟩) hP hD
    · skip
      refine lv_if_eq (tgt := 28) hx hb dX12_plain_20 (by decide) (fun _ => ?_) (fun c10 => absurd (by decide) c10)
      refine lv_aload_n hx hb dX12_plain_28 rfl (lv_at hl 0 rfl) ?_
      refine mcallV' (g := g) (q0 := 0) (ci := 10) (As := []) (rest := []) St hK hT hA hP hD hS hl.1 [0] [] rfl rfl rfl (m_sumF l g o a th hi ac tp en at2_6 de iD iO tU fm fk fa fc ft ff fb fi hen hq8_0 hde) (cwV 0 hts (zgL (zl4 k944 k945 k946 k839) k941) rfl rfl rfl (by decide +kernel) ⟨Nat.le_of_ble_eq_true rfl, Nat.le_of_ble_eq_true rfl⟩) rfl rfl rfl rfl (Nat.le_of_ble_eq_true rfl) dX12_plain_29 ⟨(Nat.le_of_ble_eq_true rfl), (Nat.le_of_ble_eq_true rfl)⟩ (fun u_ H locs hq14 hP hD hS => ?_)
      obtain ⟨at2_11, fl2_12, q_13⟩ := u_
      replace hq14 : (0 ≤ at2_11.toInt ∧ at2_11.toInt ≤ en.toInt + 7 - de.toInt) ∧ (at2_6.toInt ≤ at2_11.toInt) ∧ ((-1) = fl2_12 ∧ zSum ft en.toInt (zbg ft en.toInt at2_6.toInt) (.ok (zbg ft en.toInt at2_11.toInt)) ∨ 0 ≤ fl2_12.toInt ∧ zSum ft en.toInt (zbg ft en.toInt at2_6.toInt) (.bad fl2_12.toInt)) := hq14
      have hP : va_P g.1 vwCl (List.flatten [bMo g o a th hi ac tp (-1) en at2_11 fl2_12 de iD iO tU fm fk fa fc ft ff fb fi]) H := hP
      have hD : va_D A (List.flatten [bMo g o a th hi ac tp (-1) en at2_11 fl2_12 de iD iO tU fm fk fa fc ft ff fb fi]) := hD
      refine W.widen (k := 0) (n := 0) (Nat.le_of_ble_eq_true rfl) (Nat.le_of_ble_eq_true rfl) ?_
      refine W.eq (g2 := F0 m 32 ls [.int q_13]) rfl ?_
      obtain ⟨hq14_0, hq14_1, hq14_2⟩ := hq14
      rcases hq14_2 with ⟨rfl, hq14_k⟩ | ⟨hq14_k, hq14_km⟩
      · skip
        refine lv_istore_n (lv' := [(1, .int q_13), (0, .ref o)]) hx hb dX12_plain_32 rfl hl (by decide) rfl (fun ls hl => ?_)
        refine lv_aload_n hx hb dX12_plain_33 rfl (lv_at hl 1 rfl) ?_
        refine va_get (D := g.1) (ci := 10) (v := .int (-1)) (C := RX12) (T := TX12) (N := 20) hx hb hts izRX12 hown hK hP 0 rfl rfl 12 (by decide) (hts _ k820) (fun _ h9 => h9) rfl dX12_plain_34 ?_
        refine lv_iconst (v := (-1)) hx hb dX12_plain_37 (by decide) ?_
        refine lv_icmp_eq (tgt := 43) hx hb dX12_plain_38 (by decide) (fun _ => ?_) (fun c15 => absurd (by decide) c15)
        refine lv_aload_n hx hb dX12_plain_43 rfl (lv_at hl 1 rfl) ?_
        refine lv_bipush (v := 60) hx hb dX12_plain_44 (by decide) ?_
        have hL60 : (60 : Int32).toInt = 60 := by decide
        refine mcallV' (g := g) (q0 := 0) (ci := 10) (As := [.int 60]) (rest := []) St hK hT hA hP hD hS hl.1 [0] [] rfl rfl rfl (m_isSignF l g o a th hi ac tp en at2_11 (-1) de iD iO tU fm fk fa fc ft ff fb fi 60 hen hq14_0 hde (by first | assumption | omega | decide | exact Or.inl (by decide) | exact Or.inr (by decide))) (cwV 1 hts (zgL (zl4 k938 k939 k940 k839) k883) rfl rfl rfl (by decide +kernel) ⟨Nat.le_of_ble_eq_true rfl, Nat.le_of_ble_eq_true rfl⟩) rfl rfl rfl rfl (Nat.le_of_ble_eq_true rfl) dX12_plain_46 ⟨(Nat.le_of_ble_eq_true rfl), (Nat.le_of_ble_eq_true rfl)⟩ (fun u_ H locs hq18 hP hD hS => ?_)
        obtain ⟨at2_16, q_17⟩ := u_
        replace hq18 : (0 ≤ at2_16.toInt ∧ at2_16.toInt ≤ en.toInt + 7 - de.toInt) ∧ (at2_11.toInt ≤ at2_16.toInt) ∧ (zSk ft en.toInt at2_11.toInt at2_16.toInt) ∧ (q_17 = 1 ∧ zisS ft en.toInt at2_16.toInt (60 : Int32).toInt ∧ at2_16.toInt < en.toInt ∨ q_17 = 0 ∧ ¬ zisS ft en.toInt at2_16.toInt (60 : Int32).toInt) := hq18
        have hP : va_P g.1 vwCl (List.flatten [bMo g o a th hi ac tp (-1) en at2_16 (-1) de iD iO tU fm fk fa fc ft ff fb fi]) H := hP
        have hD : va_D A (List.flatten [bMo g o a th hi ac tp (-1) en at2_16 (-1) de iD iO tU fm fk fa fc ft ff fb fi]) := hD
        refine W.widen (k := 0) (n := 0) (Nat.le_of_ble_eq_true rfl) (Nat.le_of_ble_eq_true rfl) ?_
        refine W.eq (g2 := F0 m 49 ls [.int q_17]) rfl ?_
        obtain ⟨hq18_0, hq18_1, hq18_2, hq18_3⟩ := hq18
        rcases hq18_3 with ⟨rfl, hq18_k⟩ | ⟨rfl, hq18_k⟩
        · skip
          refine lv_istore_n (lv' := [(2, .int 1), (1, .int q_13), (0, .ref o)]) hx hb dX12_plain_49 rfl hl (by decide) rfl (fun ls hl => ?_)
          refine lv_iload_n hx hb dX12_plain_50 rfl (lv_at hl 0 rfl) ?_
          refine lv_if_ne (tgt := 73) hx hb dX12_plain_51 (by decide) (fun _ => ?_) (fun c19 => absurd c19 (by decide))
          refine lv_aload_n hx hb dX12_plain_73 rfl (lv_at hl 2 rfl) ?_
          refine lv_dup hx hb dX12_plain_74 rfl ?_
          refine va_get (D := g.1) (ci := 10) (v := .int at2_16) (C := RX12) (T := TX12) (N := 20) hx hb hts izRX12 hown hK hP 0 rfl rfl 11 (by decide) (hts _ k878) (fun _ h9 => h9) rfl dX12_plain_75 ?_
          refine lv_iconst (v := 1) hx hb dX12_plain_78 (by decide) ?_
          refine lv_iadd hx hb dX12_plain_79 ?_
          refine zgv (zadd (i := at2_16.toInt) (j := 1) rfl (by decide) (by omega)) (fun x_20 hx_20 => ?_)
          refine va_put (D := g.1) (ci := 10) (v := .int x_20) (ty := .int) (C := RX12) (T := TX12) (N := 20) hx hb hts izRX12 tyX12 tyX12_ok nmX12 hown hK hP hD hS 0 rfl rfl 11 (by decide) (hts _ k878) (fun _ h9 => h9) rfl (by decide +kernel) rfl rfl (Nat.le_of_ble_eq_true rfl) dX12_plain_80 (fun H locs hP hD hS => ?_)
          have hP : va_P g.1 vwCl (List.flatten [bMo g o a th hi ac tp (-1) en x_20 (-1) de iD iO tU fm fk fa fc ft ff fb fi]) H := hP
          have hD : va_D A (List.flatten [bMo g o a th hi ac tp (-1) en x_20 (-1) de iD iO tU fm fk fa fc ft ff fb fi]) := hD
          refine lv_aload_n hx hb dX12_plain_83 rfl (lv_at hl 2 rfl) ?_
          refine mcallV' (g := g) (q0 := 0) (ci := 10) (As := []) (rest := []) St hK hT hA hP hD hS hl.1 [0] [] rfl rfl rfl (m_sumF l g o a th hi ac tp en x_20 de iD iO tU fm fk fa fc ft ff fb fi hen (by first | assumption | omega | decide | exact Or.inl (by decide) | exact Or.inr (by decide)) hde) (cwV 0 hts (zgL (zl4 k944 k945 k946 k839) k941) rfl rfl rfl (by decide +kernel) ⟨Nat.le_of_ble_eq_true rfl, Nat.le_of_ble_eq_true rfl⟩) rfl rfl rfl rfl (Nat.le_of_ble_eq_true rfl) dX12_plain_84 ⟨(Nat.le_of_ble_eq_true rfl), (Nat.le_of_ble_eq_true rfl)⟩ (fun u_ H locs hq24 hP hD hS => ?_)
          obtain ⟨at2_21, fl2_22, q_23⟩ := u_
          replace hq24 : (0 ≤ at2_21.toInt ∧ at2_21.toInt ≤ en.toInt + 7 - de.toInt) ∧ (x_20.toInt ≤ at2_21.toInt) ∧ ((-1) = fl2_22 ∧ zSum ft en.toInt (zbg ft en.toInt x_20.toInt) (.ok (zbg ft en.toInt at2_21.toInt)) ∨ 0 ≤ fl2_22.toInt ∧ zSum ft en.toInt (zbg ft en.toInt x_20.toInt) (.bad fl2_22.toInt)) := hq24
          have hP : va_P g.1 vwCl (List.flatten [bMo g o a th hi ac tp (-1) en at2_21 fl2_22 de iD iO tU fm fk fa fc ft ff fb fi]) H := hP
          have hD : va_D A (List.flatten [bMo g o a th hi ac tp (-1) en at2_21 fl2_22 de iD iO tU fm fk fa fc ft ff fb fi]) := hD
          refine W.widen (k := 0) (n := 0) (Nat.le_of_ble_eq_true rfl) (Nat.le_of_ble_eq_true rfl) ?_
          refine W.eq (g2 := F0 m 87 ls [.int q_23]) rfl ?_
          obtain ⟨hq24_0, hq24_1, hq24_2⟩ := hq24
          rcases hq24_2 with ⟨rfl, hq24_k⟩ | ⟨hq24_k, hq24_km⟩
          · skip
            refine lv_istore_n (lv' := [(3, .int q_23), (2, .int 1), (1, .int q_13), (0, .ref o)]) hx hb dX12_plain_87 rfl hl (by decide) rfl (fun ls hl => ?_)
            refine lv_iload_n hx hb dX12_plain_88 rfl (lv_at hl 1 rfl) ?_
            refine lv_if_eq (tgt := 105) hx hb dX12_plain_89 (by decide) (fun c25 => absurd c25 (by decide)) (fun _ => ?_)
            refine lv_iload_n hx hb dX12_plain_92 rfl (lv_at hl 2 rfl) ?_
            refine lv_iload_n hx hb dX12_plain_93 rfl (lv_at hl 0 rfl) ?_
            refine lv_icmp_ge (tgt := 101) hx hb dX12_plain_94 (by decide) (fun cb9 => ?_) (fun cb9 => ?_)
            · skip
              have c26 : q_23.toInt ≤ q_13.toInt := zle cb9 rfl rfl
              refine lv_iconst (v := 0) hx hb dX12_plain_101 (by decide) ?_
              refine lv_goto (tgt := 115) hx hb dX12_plain_102 (by decide) ?_
              have hL0 : (0 : Int32).toInt = 0 := by decide
              have hP : va_P g.1 vwCl (List.flatten [bMo g o a th hi ac tp (-1) en at2_21 (-1) de iD iO tU fm fk fa fc ft ff fb fi]) H := hP
              have hD : va_D A (List.flatten [bMo g o a th hi ac tp (-1) en at2_21 (-1) de iD iO tU fm fk fa fc ft ff fb fi]) := hD
              exact mret_z hx hb hr hlocks hS (Nat.le_of_ble_eq_true rfl) (Nat.le_of_ble_eq_true rfl) dX12_plain_115 (at2_21, -1, (0 : Int32)) rfl (by decide) (show (0 ≤ at2_21.toInt ∧ at2_21.toInt ≤ en.toInt + 7 - de.toInt) ∧ (tA.toInt ≤ at2_21.toInt) ∧ (0 ≤ (0 : Int32).toInt ∧ (0 : Int32).toInt ≤ 1) ∧ ((-1) = (-1) ∧ zPlain ft en.toInt (zbg ft en.toInt tA.toInt) (.ok (zbg ft en.toInt at2_21.toInt)) ∨ 0 ≤ ((-1) : Int32).toInt ∧ zPlain ft en.toInt (zbg ft en.toInt tA.toInt) (.bad ((-1) : Int32).toInt)) from ⟨(by first | assumption | omega | exact Or.inl (by decide) | exact Or.inr (by omega)), (by first | assumption | omega | exact Or.inl (by decide) | exact Or.inr (by omega)), (by first | assumption | decide | omega), (Or.inl ⟨rfl, zPl_allM (zor_n hq3_k (zBw hq3_km hq8_k)) (zBr (R := zSum ft en.toInt) (zBe hq3_km hq8_km) hq14_k) (show _ = zbg ft en.toInt _ from hq18_2) (Or.inl hq18_k.1) (by omega) hq24_k⟩)⟩) hP hD
            · skip
              have c27 : q_13.toInt < q_23.toInt := zlti (Int32.not_le.mp cb9) rfl rfl
              refine lv_iconst (v := 1) hx hb dX12_plain_97 (by decide) ?_
              refine lv_goto (tgt := 115) hx hb dX12_plain_98 (by decide) ?_
              have hL1 : (1 : Int32).toInt = 1 := by decide
              have hP : va_P g.1 vwCl (List.flatten [bMo g o a th hi ac tp (-1) en at2_21 (-1) de iD iO tU fm fk fa fc ft ff fb fi]) H := hP
              have hD : va_D A (List.flatten [bMo g o a th hi ac tp (-1) en at2_21 (-1) de iD iO tU fm fk fa fc ft ff fb fi]) := hD
              exact mret_z hx hb hr hlocks hS (Nat.le_of_ble_eq_true rfl) (Nat.le_of_ble_eq_true rfl) dX12_plain_115 (at2_21, -1, (1 : Int32)) rfl (by decide) (show (0 ≤ at2_21.toInt ∧ at2_21.toInt ≤ en.toInt + 7 - de.toInt) ∧ (tA.toInt ≤ at2_21.toInt) ∧ (0 ≤ (1 : Int32).toInt ∧ (1 : Int32).toInt ≤ 1) ∧ ((-1) = (-1) ∧ zPlain ft en.toInt (zbg ft en.toInt tA.toInt) (.ok (zbg ft en.toInt at2_21.toInt)) ∨ 0 ≤ ((-1) : Int32).toInt ∧ zPlain ft en.toInt (zbg ft en.toInt tA.toInt) (.bad ((-1) : Int32).toInt)) from ⟨(by first | assumption | omega | exact Or.inl (by decide) | exact Or.inr (by omega)), (by first | assumption | omega | exact Or.inl (by decide) | exact Or.inr (by omega)), (by first | assumption | decide | omega), (Or.inl ⟨rfl, zPl_allM (zor_n hq3_k (zBw hq3_km hq8_k)) (zBr (R := zSum ft en.toInt) (zBe hq3_km hq8_km) hq14_k) (show _ = zbg ft en.toInt _ from hq18_2) (Or.inl hq18_k.1) (by omega) hq24_k⟩)⟩) hP hD
          · skip
            refine lv_istore_n (lv' := [(3, .int q_23), (2, .int 1), (1, .int q_13), (0, .ref o)]) hx hb dX12_plain_87 rfl hl (by decide) rfl (fun ls hl => ?_)
            refine lv_iload_n hx hb dX12_plain_88 rfl (lv_at hl 1 rfl) ?_
            refine lv_if_eq (tgt := 105) hx hb dX12_plain_89 (by decide) (fun c28 => absurd c28 (by decide)) (fun _ => ?_)
            refine lv_iload_n hx hb dX12_plain_92 rfl (lv_at hl 2 rfl) ?_
            refine lv_iload_n hx hb dX12_plain_93 rfl (lv_at hl 0 rfl) ?_
            refine lv_icmp_ge (tgt := 101) hx hb dX12_plain_94 (by decide) (fun cb9 => ?_) (fun cb9 => ?_)
            · skip
              have c29 : q_23.toInt ≤ q_13.toInt := zle cb9 rfl rfl
              refine lv_iconst (v := 0) hx hb dX12_plain_101 (by decide) ?_
              refine lv_goto (tgt := 115) hx hb dX12_plain_102 (by decide) ?_
              have hL0 : (0 : Int32).toInt = 0 := by decide
              have hP : va_P g.1 vwCl (List.flatten [bMo g o a th hi ac tp (-1) en at2_21 fl2_22 de iD iO tU fm fk fa fc ft ff fb fi]) H := hP
              have hD : va_D A (List.flatten [bMo g o a th hi ac tp (-1) en at2_21 fl2_22 de iD iO tU fm fk fa fc ft ff fb fi]) := hD
              exact mret_z hx hb hr hlocks hS (Nat.le_of_ble_eq_true rfl) (Nat.le_of_ble_eq_true rfl) dX12_plain_115 (at2_21, fl2_22, (0 : Int32)) rfl (by decide) (show (0 ≤ at2_21.toInt ∧ at2_21.toInt ≤ en.toInt + 7 - de.toInt) ∧ (tA.toInt ≤ at2_21.toInt) ∧ (0 ≤ (0 : Int32).toInt ∧ (0 : Int32).toInt ≤ 1) ∧ ((-1) = fl2_22 ∧ zPlain ft en.toInt (zbg ft en.toInt tA.toInt) (.ok (zbg ft en.toInt at2_21.toInt)) ∨ 0 ≤ fl2_22.toInt ∧ zPlain ft en.toInt (zbg ft en.toInt tA.toInt) (.bad fl2_22.toInt)) from ⟨(by first | assumption | omega | exact Or.inl (by decide) | exact Or.inr (by omega)), (by first | assumption | omega | exact Or.inl (by decide) | exact Or.inr (by omega)), (by first | assumption | decide | omega), (Or.inr ⟨hq24_k, zPl_allM (zor_n hq3_k (zBw hq3_km hq8_k)) (zBr (R := zSum ft en.toInt) (zBe hq3_km hq8_km) hq14_k) (show _ = zbg ft en.toInt _ from hq18_2) (Or.inl hq18_k.1) (by omega) hq24_km⟩)⟩) hP hD
            · skip
              have c30 : q_13.toInt < q_23.toInt := zlti (Int32.not_le.mp cb9) rfl rfl
              refine lv_iconst (v := 1) hx hb dX12_plain_97 (by decide) ?_
              refine lv_goto (tgt := 115) hx hb dX12_plain_98 (by decide) ?_
              have hL1 : (1 : Int32).toInt = 1 := by decide
              have hP : va_P g.1 vwCl (List.flatten [bMo g o a th hi ac tp (-1) en at2_21 fl2_22 de iD iO tU fm fk fa fc ft ff fb fi]) H := hP
              have hD : va_D A (List.flatten [bMo g o a th hi ac tp (-1) en at2_21 fl2_22 de iD iO tU fm fk fa fc ft ff fb fi]) := hD
              exact mret_z hx hb hr hlocks hS (Nat.le_of_ble_eq_true rfl) (Nat.le_of_ble_eq_true rfl) dX12_plain_115 (at2_21, fl2_22, (1 : Int32)) rfl (by decide) (show (0 ≤ at2_21.toInt ∧ at2_21.toInt ≤ en.toInt + 7 - de.toInt) ∧ (tA.toInt ≤ at2_21.toInt) ∧ (0 ≤ (1 : Int32).toInt ∧ (1 : Int32).toInt ≤ 1) ∧ ((-1) = fl2_22 ∧ zPlain ft en.toInt (zbg ft en.toInt tA.toInt) (.ok (zbg ft en.toInt at2_21.toInt)) ∨ 0 ≤ fl2_22.toInt ∧ zPlain ft en.toInt (zbg ft en.toInt tA.toInt) (.bad fl2_22.toInt)) from ⟨(by first | assumption | omega | exact Or.inl (by decide) | exact Or.inr (by omega)), (by first | assumption | omega | exact Or.inl (by decide) | exact Or.inr (by omega)), (by first | assumption | decide | omega), (Or.inr ⟨hq24_k, zPl_allM (zor_n hq3_k (zBw hq3_km hq8_k)) (zBr (R := zSum ft en.toInt) (zBe hq3_km hq8_km) hq14_k) (show _ = zbg ft en.toInt _ from hq18_2) (Or.inl hq18_k.1) (by omega) hq24_km⟩)⟩) hP hD
        · skip
          refine lv_istore_n (lv' := [(2, .int 0), (1, .int q_13), (0, .ref o)]) hx hb dX12_plain_49 rfl hl (by decide) rfl (fun ls hl => ?_)
          refine lv_iload_n hx hb dX12_plain_50 rfl (lv_at hl 0 rfl) ?_
          refine lv_if_ne (tgt := 73) hx hb dX12_plain_51 (by decide) (fun c31 => absurd (by decide) c31) (fun _ => ?_)
          refine lv_aload_n hx hb dX12_plain_54 rfl (lv_at hl 2 rfl) ?_
          refine lv_bipush (v := 62) hx hb dX12_plain_55 (by decide) ?_
          have hL62 : (62 : Int32).toInt = 62 := by decide
          refine mcallV' (g := g) (q0 := 0) (ci := 10) (As := [.int 62]) (rest := []) St hK hT hA hP hD hS hl.1 [0] [] rfl rfl rfl (m_isSignF l g o a th hi ac tp en at2_16 (-1) de iD iO tU fm fk fa fc ft ff fb fi 62 hen hq18_0 hde (by first | assumption | omega | decide | exact Or.inl (by decide) | exact Or.inr (by decide))) (cwV 1 hts (zgL (zl4 k938 k939 k940 k839) k883) rfl rfl rfl (by decide +kernel) ⟨Nat.le_of_ble_eq_true rfl, Nat.le_of_ble_eq_true rfl⟩) rfl rfl rfl rfl (Nat.le_of_ble_eq_true rfl) dX12_plain_57 ⟨(Nat.le_of_ble_eq_true rfl), (Nat.le_of_ble_eq_true rfl)⟩ (fun u_ H locs hq34 hP hD hS => ?_)
          obtain ⟨at2_32, q_33⟩ := u_
          replace hq34 : (0 ≤ at2_32.toInt ∧ at2_32.toInt ≤ en.toInt + 7 - de.toInt) ∧ (at2_16.toInt ≤ at2_32.toInt) ∧ (zSk ft en.toInt at2_16.toInt at2_32.toInt) ∧ (q_33 = 1 ∧ zisS ft en.toInt at2_32.toInt (62 : Int32).toInt ∧ at2_32.toInt < en.toInt ∨ q_33 = 0 ∧ ¬ zisS ft en.toInt at2_32.toInt (62 : Int32).toInt) := hq34
          have hP : va_P g.1 vwCl (List.flatten [bMo g o a th hi ac tp (-1) en at2_32 (-1) de iD iO tU fm fk fa fc ft ff fb fi]) H := hP
          have hD : va_D A (List.flatten [bMo g o a th hi ac tp (-1) en at2_32 (-1) de iD iO tU fm fk fa fc ft ff fb fi]) := hD
          refine W.widen (k := 0) (n := 0) (Nat.le_of_ble_eq_true rfl) (Nat.le_of_ble_eq_true rfl) ?_
          refine W.eq (g2 := F0 m 60 ls [.int q_33]) rfl ?_
          obtain ⟨hq34_0, hq34_1, hq34_2, hq34_3⟩ := hq34
          rcases hq34_3 with ⟨rfl, hq34_k⟩ | ⟨rfl, hq34_k⟩
          · skip
            refine lv_if_ne (tgt := 73) hx hb dX12_plain_60 (by decide) (fun _ => ?_) (fun c35 => absurd c35 (by decide))
            refine lv_aload_n hx hb dX12_plain_73 rfl (lv_at hl 2 rfl) ?_
            refine lv_dup hx hb dX12_plain_74 rfl ?_
            refine va_get (D := g.1) (ci := 10) (v := .int at2_32) (C := RX12) (T := TX12) (N := 20) hx hb hts izRX12 hown hK hP 0 rfl rfl 11 (by decide) (hts _ k878) (fun _ h9 => h9) rfl dX12_plain_75 ?_
            refine lv_iconst (v := 1) hx hb dX12_plain_78 (by decide) ?_
            refine lv_iadd hx hb dX12_plain_79 ?_
            refine zgv (zadd (i := at2_32.toInt) (j := 1) rfl (by decide) (by omega)) (fun x_36 hx_36 => ?_)
            refine va_put (D := g.1) (ci := 10) (v := .int x_36) (ty := .int) (C := RX12) (T := TX12) (N := 20) hx hb hts izRX12 tyX12 tyX12_ok nmX12 hown hK hP hD hS 0 rfl rfl 11 (by decide) (hts _ k878) (fun _ h9 => h9) rfl (by decide +kernel) rfl rfl (Nat.le_of_ble_eq_true rfl) dX12_plain_80 (fun H locs hP hD hS => ?_)
            have hP : va_P g.1 vwCl (List.flatten [bMo g o a th hi ac tp (-1) en x_36 (-1) de iD iO tU fm fk fa fc ft ff fb fi]) H := hP
            have hD : va_D A (List.flatten [bMo g o a th hi ac tp (-1) en x_36 (-1) de iD iO tU fm fk fa fc ft ff fb fi]) := hD
            refine lv_aload_n hx hb dX12_plain_83 rfl (lv_at hl 2 rfl) ?_
            refine mcallV' (g := g) (q0 := 0) (ci := 10) (As := []) (rest := []) St hK hT hA hP hD hS hl.1 [0] [] rfl rfl rfl (m_sumF l g o a th hi ac tp en x_36 de iD iO tU fm fk fa fc ft ff fb fi hen (by first | assumption | omega | decide | exact Or.inl (by decide) | exact Or.inr (by decide)) hde) (cwV 0 hts (zgL (zl4 k944 k945 k946 k839) k941) rfl rfl rfl (by decide +kernel) ⟨Nat.le_of_ble_eq_true rfl, Nat.le_of_ble_eq_true rfl⟩) rfl rfl rfl rfl (Nat.le_of_ble_eq_true rfl) dX12_plain_84 ⟨(Nat.le_of_ble_eq_true rfl), (Nat.le_of_ble_eq_true rfl)⟩ (fun u_ H locs hq40 hP hD hS => ?_)
            obtain ⟨at2_37, fl2_38, q_39⟩ := u_
            replace hq40 : (0 ≤ at2_37.toInt ∧ at2_37.toInt ≤ en.toInt + 7 - de.toInt) ∧ (x_36.toInt ≤ at2_37.toInt) ∧ ((-1) = fl2_38 ∧ zSum ft en.toInt (zbg ft en.toInt x_36.toInt) (.ok (zbg ft en.toInt at2_37.toInt)) ∨ 0 ≤ fl2_38.toInt ∧ zSum ft en.toInt (zbg ft en.toInt x_36.toInt) (.bad fl2_38.toInt)) := hq40
            have hP : va_P g.1 vwCl (List.flatten [bMo g o a th hi ac tp (-1) en at2_37 fl2_38 de iD iO tU fm fk fa fc ft ff fb fi]) H := hP
            have hD : va_D A (List.flatten [bMo g o a th hi ac tp (-1) en at2_37 fl2_38 de iD iO tU fm fk fa fc ft ff fb fi]) := hD
            refine W.widen (k := 0) (n := 0) (Nat.le_of_ble_eq_true rfl) (Nat.le_of_ble_eq_true rfl) ?_
            refine W.eq (g2 := F0 m 87 ls [.int q_39]) rfl ?_
            obtain ⟨hq40_0, hq40_1, hq40_2⟩ := hq40
            rcases hq40_2 with ⟨rfl, hq40_k⟩ | ⟨hq40_k, hq40_km⟩
            · skip
              refine lv_istore_n (lv' := [(3, .int q_39), (2, .int 0), (1, .int q_13), (0, .ref o)]) hx hb dX12_plain_87 rfl hl (by decide) rfl (fun ls hl => ?_)
              refine lv_iload_n hx hb dX12_plain_88 rfl (lv_at hl 1 rfl) ?_
              refine lv_if_eq (tgt := 105) hx hb dX12_plain_89 (by decide) (fun _ => ?_) (fun c41 => absurd (by decide) c41)
              refine lv_iload_n hx hb dX12_plain_105 rfl (lv_at hl 2 rfl) ?_
              refine lv_iload_n hx hb dX12_plain_106 rfl (lv_at hl 0 rfl) ?_
              refine lv_icmp_le (tgt := 114) hx hb dX12_plain_107 (by decide) (fun cb9 => ?_) (fun cb9 => ?_)
              · skip
                have c42 : q_13.toInt ≤ q_39.toInt := zle cb9 rfl rfl
                refine lv_iconst (v := 0) hx hb dX12_plain_114 (by decide) ?_
                have hL0 : (0 : Int32).toInt = 0 := by decide
                have hP : va_P g.1 vwCl (List.flatten [bMo g o a th hi ac tp (-1) en at2_37 (-1) de iD iO tU fm fk fa fc ft ff fb fi]) H := hP
                have hD : va_D A (List.flatten [bMo g o a th hi ac tp (-1) en at2_37 (-1) de iD iO tU fm fk fa fc ft ff fb fi]) := hD
                exact mret_z hx hb hr hlocks hS (Nat.le_of_ble_eq_true rfl) (Nat.le_of_ble_eq_true rfl) dX12_plain_115 (at2_37, -1, (0 : Int32)) rfl (by decide) (show (0 ≤ at2_37.toInt ∧ at2_37.toInt ≤ en.toInt + 7 - de.toInt) ∧ (tA.toInt ≤ at2_37.toInt) ∧ (0 ≤ (0 : Int32).toInt ∧ (0 : Int32).toInt ≤ 1) ∧ ((-1) = (-1) ∧ zPlain ft en.toInt (zbg ft en.toInt tA.toInt) (.ok (zbg ft en.toInt at2_37.toInt)) ∨ 0 ≤ ((-1) : Int32).toInt ∧ zPlain ft en.toInt (zbg ft en.toInt tA.toInt) (.bad ((-1) : Int32).toInt)) from ⟨(by first | assumption | omega | exact Or.inl (by decide) | exact Or.inr (by omega)), (by first | assumption | omega | exact Or.inl (by decide) | exact Or.inr (by omega)), (by first | assumption | decide | omega), (Or.inl ⟨rfl, zPl_allM (zor_n hq3_k (zBw hq3_km hq8_k)) (zBr (R := zSum ft en.toInt) (zBe hq3_km hq8_km) hq14_k) (zBe (show _ = zbg ft en.toInt _ from hq18_2) (show _ = zbg ft en.toInt _ from hq34_2)) (Or.inr hq34_k.1) (by omega) hq40_k⟩)⟩) hP hD
              · skip
                have c43 : q_39.toInt < q_13.toInt := zlti (Int32.not_le.mp cb9) rfl rfl
                refine lv_iconst (v := 1) hx hb dX12_plain_110 (by decide) ?_
                refine lv_goto (tgt := 115) hx hb dX12_plain_111 (by decide) ?_
                have hL1 : (1 : Int32).toInt = 1 := by decide
                have hP : va_P g.1 vwCl (List.flatten [bMo g o a th hi ac tp (-1) en at2_37 (-1) de iD iO tU fm fk fa fc ft ff fb fi]) H := hP
                have hD : va_D A (List.flatten [bMo g o a th hi ac tp (-1) en at2_37 (-1) de iD iO tU fm fk fa fc ft ff fb fi]) := hD
                exact mret_z hx hb hr hlocks hS (Nat.le_of_ble_eq_true rfl) (Nat.le_of_ble_eq_true rfl) dX12_plain_115 (at2_37, -1, (1 : Int32)) rfl (by decide) (show (0 ≤ at2_37.toInt ∧ at2_37.toInt ≤ en.toInt + 7 - de.toInt) ∧ (tA.toInt ≤ at2_37.toInt) ∧ (0 ≤ (1 : Int32).toInt ∧ (1 : Int32).toInt ≤ 1) ∧ ((-1) = (-1) ∧ zPlain ft en.toInt (zbg ft en.toInt tA.toInt) (.ok (zbg ft en.toInt at2_37.toInt)) ∨ 0 ≤ ((-1) : Int32).toInt ∧ zPlain ft en.toInt (zbg ft en.toInt tA.toInt) (.bad ((-1) : Int32).toInt)) from ⟨(by first | assumption | omega | exact Or.inl (by decide) | exact Or.inr (by omega)), (by first | assumption | omega | exact Or.inl (by decide) | exact Or.inr (by omega)), (by first | assumption | decide | omega), (Or.inl ⟨rfl, zPl_allM (zor_n hq3_k (zBw hq3_km hq8_k)) (zBr (R := zSum ft en.toInt) (zBe hq3_km hq8_km) hq14_k) (zBe (show _ = zbg ft en.toInt _ from hq18_2) (show _ = zbg ft en.toInt _ from hq34_2)) (Or.inr hq34_k.1) (by omega) hq40_k⟩)⟩) hP hD
            · skip
              refine lv_istore_n (lv' := [(3, .int q_39), (2, .int 0), (1, .int q_13), (0, .ref o)]) hx hb dX12_plain_87 rfl hl (by decide) rfl (fun ls hl => ?_)
              refine lv_iload_n hx hb dX12_plain_88 rfl (lv_at hl 1 rfl) ?_
              refine lv_if_eq (tgt := 105) hx hb dX12_plain_89 (by decide) (fun _ => ?_) (fun c44 => absurd (by decide) c44)
              refine lv_iload_n hx hb dX12_plain_105 rfl (lv_at hl 2 rfl) ?_
              refine lv_iload_n hx hb dX12_plain_106 rfl (lv_at hl 0 rfl) ?_
              refine lv_icmp_le (tgt := 114) hx hb dX12_plain_107 (by decide) (fun cb9 => ?_) (fun cb9 => ?_)
              · skip
                have c45 : q_13.toInt ≤ q_39.toInt := zle cb9 rfl rfl
                refine lv_iconst (v := 0) hx hb dX12_plain_114 (by decide) ?_
                have hL0 : (0 : Int32).toInt = 0 := by decide
                have hP : va_P g.1 vwCl (List.flatten [bMo g o a th hi ac tp (-1) en at2_37 fl2_38 de iD iO tU fm fk fa fc ft ff fb fi]) H := hP
                have hD : va_D A (List.flatten [bMo g o a th hi ac tp (-1) en at2_37 fl2_38 de iD iO tU fm fk fa fc ft ff fb fi]) := hD
                exact mret_z hx hb hr hlocks hS (Nat.le_of_ble_eq_true rfl) (Nat.le_of_ble_eq_true rfl) dX12_plain_115 (at2_37, fl2_38, (0 : Int32)) rfl (by decide) (show (0 ≤ at2_37.toInt ∧ at2_37.toInt ≤ en.toInt + 7 - de.toInt) ∧ (tA.toInt ≤ at2_37.toInt) ∧ (0 ≤ (0 : Int32).toInt ∧ (0 : Int32).toInt ≤ 1) ∧ ((-1) = fl2_38 ∧ zPlain ft en.toInt (zbg ft en.toInt tA.toInt) (.ok (zbg ft en.toInt at2_37.toInt)) ∨ 0 ≤ fl2_38.toInt ∧ zPlain ft en.toInt (zbg ft en.toInt tA.toInt) (.bad fl2_38.toInt)) from ⟨(by first | assumption | omega | exact Or.inl (by decide) | exact Or.inr (by omega)), (by first | assumption | omega | exact Or.inl (by decide) | exact Or.inr (by omega)), (by first | assumption | decide | omega), (Or.inr ⟨hq40_k, zPl_allM (zor_n hq3_k (zBw hq3_km hq8_k)) (zBr (R := zSum ft en.toInt) (zBe hq3_km hq8_km) hq14_k) (zBe (show _ = zbg ft en.toInt _ from hq18_2) (show _ = zbg ft en.toInt _ from hq34_2)) (Or.inr hq34_k.1) (by omega) hq40_km⟩)⟩) hP hD
              · skip
                have c46 : q_39.toInt < q_13.toInt := zlti (Int32.not_le.mp cb9) rfl rfl
                refine lv_iconst (v := 1) hx hb dX12_plain_110 (by decide) ?_
                refine lv_goto (tgt := 115) hx hb dX12_plain_111 (by decide) ?_
                have hL1 : (1 : Int32).toInt = 1 := by decide
                have hP : va_P g.1 vwCl (List.flatten [bMo g o a th hi ac tp (-1) en at2_37 fl2_38 de iD iO tU fm fk fa fc ft ff fb fi]) H := hP
                have hD : va_D A (List.flatten [bMo g o a th hi ac tp (-1) en at2_37 fl2_38 de iD iO tU fm fk fa fc ft ff fb fi]) := hD
                exact mret_z hx hb hr hlocks hS (Nat.le_of_ble_eq_true rfl) (Nat.le_of_ble_eq_true rfl) dX12_plain_115 (at2_37, fl2_38, (1 : Int32)) rfl (by decide) (show (0 ≤ at2_37.toInt ∧ at2_37.toInt ≤ en.toInt + 7 - de.toInt) ∧ (tA.toInt ≤ at2_37.toInt) ∧ (0 ≤ (1 : Int32).toInt ∧ (1 : Int32).toInt ≤ 1) ∧ ((-1) = fl2_38 ∧ zPlain ft en.toInt (zbg ft en.toInt tA.toInt) (.ok (zbg ft en.toInt at2_37.toInt)) ∨ 0 ≤ fl2_38.toInt ∧ zPlain ft en.toInt (zbg ft en.toInt tA.toInt) (.bad fl2_38.toInt)) from ⟨(by first | assumption | omega | exact Or.inl (by decide) | exact Or.inr (by omega)), (by first | assumption | omega | exact Or.inl (by decide) | exact Or.inr (by omega)), (by first | assumption | decide | omega), (Or.inr ⟨hq40_k, zPl_allM (zor_n hq3_k (zBw hq3_km hq8_k)) (zBr (R := zSum ft en.toInt) (zBe hq3_km hq8_km) hq14_k) (zBe (show _ = zbg ft en.toInt _ from hq18_2) (show _ = zbg ft en.toInt _ from hq34_2)) (Or.inr hq34_k.1) (by omega) hq40_km⟩)⟩) hP hD
          · skip
            refine lv_if_ne (tgt := 73) hx hb dX12_plain_60 (by decide) (fun c47 => absurd (by decide) c47) (fun _ => ?_)
            refine lv_aload_n hx hb dX12_plain_63 rfl (lv_at hl 2 rfl) ?_
            refine lv_aload_n hx hb dX12_plain_64 rfl (lv_at hl 2 rfl) ?_
            refine va_get (D := g.1) (ci := 10) (v := .int at2_32) (C := RX12) (T := TX12) (N := 20) hx hb hts izRX12 hown hK hP 0 rfl rfl 11 (by decide) (hts _ k878) (fun _ h9 => h9) rfl dX12_plain_65 ?_
            refine mcallV' (g := g) (q0 := 0) (ci := 10) (As := [.int at2_32]) (rest := []) St hK hT hA hP hD hS hl.1 [0] [] rfl rfl rfl (m_wrongF l g o a th hi ac tp (-1) en at2_32 de iD iO tU fm fk fa fc ft ff fb fi at2_32 ) (cwV 1 hts (zgL (zl4 k895 k896 k897 k839) k890) rfl rfl rfl (by decide +kernel) ⟨Nat.le_of_ble_eq_true rfl, Nat.le_of_ble_eq_true rfl⟩) rfl rfl rfl rfl (Nat.le_of_ble_eq_true rfl) dX12_plain_68 ⟨(Nat.le_of_ble_eq_true rfl), (Nat.le_of_ble_eq_true rfl)⟩ (fun _u H locs hq48 hP hD hS => ?_)
            have hP : va_P g.1 vwCl (List.flatten [bMo g o a th hi ac tp (-1) en at2_32 at2_32 de iD iO tU fm fk fa fc ft ff fb fi]) H := hP
            have hD : va_D A (List.flatten [bMo g o a th hi ac tp (-1) en at2_32 at2_32 de iD iO tU fm fk fa fc ft ff fb fi]) := hD
            refine W.widen (k := 0) (n := 0) (Nat.le_of_ble_eq_true rfl) (Nat.le_of_ble_eq_true rfl) ?_
            refine W.eq (g2 := F0 m 71 ls []) rfl ?_
            refine lv_iconst (v := 0) hx hb dX12_plain_71 (by decide) ?_
            have hL0 : (0 : Int32).toInt = 0 := by decide
            have hP : va_P g.1 vwCl (List.flatten [bMo g o a th hi ac tp (-1) en at2_32 at2_32 de iD iO tU fm fk fa fc ft ff fb fi]) H := hP
            have hD : va_D A (List.flatten [bMo g o a th hi ac tp (-1) en at2_32 at2_32 de iD iO tU fm fk fa fc ft ff fb fi]) := hD
            exact mret_z hx hb hr hlocks hS (Nat.le_of_ble_eq_true rfl) (Nat.le_of_ble_eq_true rfl) dX12_plain_72 (at2_32, at2_32, (0 : Int32)) rfl (by decide) (show (0 ≤ at2_32.toInt ∧ at2_32.toInt ≤ en.toInt + 7 - de.toInt) ∧ (tA.toInt ≤ at2_32.toInt) ∧ (0 ≤ (0 : Int32).toInt ∧ (0 : Int32).toInt ≤ 1) ∧ ((-1) = at2_32 ∧ zPlain ft en.toInt (zbg ft en.toInt tA.toInt) (.ok (zbg ft en.toInt at2_32.toInt)) ∨ 0 ≤ at2_32.toInt ∧ zPlain ft en.toInt (zbg ft en.toInt tA.toInt) (.bad at2_32.toInt)) from ⟨(by first | assumption | omega | exact Or.inl (by decide) | exact Or.inr (by omega)), (by first | assumption | omega | exact Or.inl (by decide) | exact Or.inr (by omega)), (by first | assumption | decide | omega), (Or.inr ⟨(by omega), zPl_bad2M (zor_n hq3_k (zBw hq3_km hq8_k)) (zBr (R := zSum ft en.toInt) (zBe hq3_km hq8_km) hq14_k) (zBe (show _ = zbg ft en.toInt _ from hq18_2) (show _ = zbg ft en.toInt _ from hq34_2)) (zor_n (zBsn (show _ = zbg ft en.toInt _ from hq18_2) hq18_k (by decide)) (zBsn (zBe (show _ = zbg ft en.toInt _ from hq18_2) (show _ = zbg ft en.toInt _ from hq34_2)) hq34_k (by decide)))⟩)⟩) hP hD
      · skip
        refine lv_istore_n (lv' := [(1, .int q_13), (0, .ref o)]) hx hb dX12_plain_32 rfl hl (by decide) rfl (fun ls hl => ?_)
        refine lv_aload_n hx hb dX12_plain_33 rfl (lv_at hl 1 rfl) ?_
        refine va_get (D := g.1) (ci := 10) (v := .int fl2_12) (C := RX12) (T := TX12) (N := 20) hx hb hts izRX12 hown hK hP 0 rfl rfl 12 (by decide) (hts _ k820) (fun _ h9 => h9) rfl dX12_plain_34 ?_
        refine lv_iconst (v := (-1)) hx hb dX12_plain_37 (by decide) ?_
        refine lv_icmp_eq (tgt := 43) hx hb dX12_plain_38 (by decide) (fun cb9 => ?_) (fun cb9 => ?_)
        · skip
          exact absurd (show fl2_12.toInt = (-1) from zeq cb9 rfl (by decide)) (zDeq2 (a := 0) (b := (-1)) hq14_k (Int.le_refl _) (by decide))
        · skip
          have c50 : ¬ fl2_12.toInt = (-1) := zne cb9 rfl (by decide)
          refine lv_iconst (v := 0) hx hb dX12_plain_41 (by decide) ?_
          have hL0 : (0 : Int32).toInt = 0 := by decide
          have hP : va_P g.1 vwCl (List.flatten [bMo g o a th hi ac tp (-1) en at2_11 fl2_12 de iD iO tU fm fk fa fc ft ff fb fi]) H := hP
          have hD : va_D A (List.flatten [bMo g o a th hi ac tp (-1) en at2_11 fl2_12 de iD iO tU fm fk fa fc ft ff fb fi]) := hD
          exact mret_z hx hb hr hlocks hS (Nat.le_of_ble_eq_true rfl) (Nat.le_of_ble_eq_true rfl) dX12_plain_42 (at2_11, fl2_12, (0 : Int32)) rfl (by decide) (show (0 ≤ at2_11.toInt ∧ at2_11.toInt ≤ en.toInt + 7 - de.toInt) ∧ (tA.toInt ≤ at2_11.toInt) ∧ (0 ≤ (0 : Int32).toInt ∧ (0 : Int32).toInt ≤ 1) ∧ ((-1) = fl2_12 ∧ zPlain ft en.toInt (zbg ft en.toInt tA.toInt) (.ok (zbg ft en.toInt at2_11.toInt)) ∨ 0 ≤ fl2_12.toInt ∧ zPlain ft en.toInt (zbg ft en.toInt tA.toInt) (.bad fl2_12.toInt)) from ⟨(by first | assumption | omega | exact Or.inl (by decide) | exact Or.inr (by omega)), (by first | assumption | omega | exact Or.inl (by decide) | exact Or.inr (by omega)), (by first | assumption | decide | omega), (Or.inr ⟨hq14_k, .bad1 (zor_n hq3_k (zBw hq3_km hq8_k)) (zBr (R := zSum ft en.toInt) (zBe hq3_km hq8_km) hq14_km)⟩)⟩) hP hD
set_option maxRecDepth 100000 in
set_option maxHeartbeats 4000000 in
theorem m_atom6F (l : Launch) (g : zG) (o : Nat) (a : Nat → Nat) (th : Int32) (hi : Int32) (ac : Int32) (tp : Int32) (en : Int32) (tA : Int32) (iD : Int32) (iO : Int32) (tU : Int32) (fm : Nat → Int32) (fk : Nat → Int32) (fa : Nat → Int32) (fc : Nat → Int32) (ft : Nat → Int32) (ff : Nat → Int32) (fb : Nat → Int32) (fi : Nat → Int32) (hiD : 0 ≤ iD.toInt ∧ iD.toInt ≤ 1) (hiO : 0 ≤ iO.toInt ∧ iO.toInt ≤ 1) (hen : 0 ≤ en.toInt ∧ en.toInt ≤ 400) (htA : 0 ≤ tA.toInt ∧ tA.toInt ≤ en.toInt + 7 - 6) (hde : 0 ≤ 6 ∧ 6 ≤ 6) : zM' g l yX12_atom (Cond.code yX12_atom cX12_atom 4 (some .boolean) :: zB) ({ frames := 8, cells := 0, slots := 0, locals := 173 } : Room) [.ref o] [bMo g o a th hi ac tp (-1) en tA (-1) 6 iD iO tU fm fk fa fc ft ff fb fi] (fun u : Int32 × Int32 × Int32 => (fun (at2 : Int32) (fl2 : Int32) (q : Int32) => some (.int q)) (u.1) (u.2.1) (u.2.2)) (fun u : Int32 × Int32 × Int32 => (fun (at2 : Int32) (fl2 : Int32) (q : Int32) => (0 ≤ at2.toInt ∧ at2.toInt ≤ en.toInt + 7 - 6) ∧ (tA.toInt ≤ at2.toInt) ∧ (0 ≤ q.toInt ∧ q.toInt ≤ 1) ∧ ((-1) = fl2 ∧ zAtom ft en.toInt 0 (zbg ft en.toInt tA.toInt) (.ok (zbg ft en.toInt at2.toInt)) ∨ 0 ≤ fl2.toInt ∧ zAtom ft en.toInt 0 (zbg ft en.toInt tA.toInt) (.bad fl2.toInt))) (u.1) (u.2.1) (u.2.2)) (fun u : Int32 × Int32 × Int32 => (fun (at2 : Int32) (fl2 : Int32) (q : Int32) => [bMo g o a th hi ac tp (-1) en at2 fl2 6 iD iO tU fm fk fa fc ft ff fb fi]) (u.1) (u.2.1) (u.2.2)) := by
  refine zM'.of (cc := cX12_atom) (maxL := 4) (rt := (some .boolean)) (by decide) rfl (Nat.le_of_ble_eq_true rfl) ?_
  intro p e s m args below meth c A ls St hr hlocks hin hK hT hA hP hD hS hl
  obtain ⟨hx, hb, hml, hown, hts⟩ := id St
  have hl : lv_has ls 4 [(0, .ref o)] := hl
  refine lv_aload_n hx hb dX12_atom_0 rfl (lv_at hl 0 rfl) ?_
  refine va_get (D := g.1) (ci := 10) (v := .int (-1)) (C := RX12) (T := TX12) (N := 20) hx hb hts izRX12 hown hK hP 0 rfl rfl 12 (by decide) (hts _ k820) (fun _ h9 => h9) rfl dX12_atom_1 ?_
  refine lv_iconst (v := (-1)) hx hb dX12_atom_4 (by decide) ?_
  refine lv_icmp_eq (tgt := 10) hx hb dX12_atom_5 (by decide) (fun _ => ?_) (fun c1 => absurd (by decide) c1)
  refine lv_aload_n hx hb dX12_atom_10 rfl (lv_at hl 0 rfl) ?_
  have hL6 : (6 : Int32).toInt = 6 := by decide
  refine mcallV' (g := g) (q0 := 0) (ci := 10) (As := []) (rest := []) St hK hT hA hP hD hS hl.1 [0] [] rfl rfl rfl (m_hereF l g o a th hi ac tp en tA (-1) 6 iD iO tU fm fk fa fc ft ff fb fi hen (by first | assumption | omega | decide | exact Or.inl (by decide) | exact Or.inr (by decide)) (by decide)) (cwV 0 hts (zgL (zl4 k892 k893 k894 k839) k891) rfl rfl rfl (by decide +kernel) ⟨Nat.le_of_ble_eq_true rfl, Nat.le_of_ble_eq_true rfl⟩) rfl rfl rfl rfl (Nat.le_of_ble_eq_true rfl) dX12_atom_11 ⟨(Nat.le_of_ble_eq_true rfl), (Nat.le_of_ble_eq_true rfl)⟩ (fun at2_2 H locs hq3 hP hD hS => ?_)
  replace hq3 : (0 ≤ at2_2.toInt ∧ at2_2.toInt ≤ en.toInt + 7 - (6 : Int32).toInt) ∧ (tA.toInt ≤ at2_2.toInt) ∧ (zSk ft en.toInt tA.toInt at2_2.toInt) := hq3
  have hP : va_P g.1 vwCl (List.flatten [bMo g o a th hi ac tp (-1) en at2_2 (-1) 6 iD iO tU fm fk fa fc ft ff fb fi]) H := hP
  have hD : va_D A (List.flatten [bMo g o a th hi ac tp (-1) en at2_2 (-1) 6 iD iO tU fm fk fa fc ft ff fb fi]) := hD
  refine W.widen (k := 0) (n := 0) (Nat.le_of_ble_eq_true rfl) (Nat.le_of_ble_eq_true rfl) ?_
  refine W.eq (g2 := F0 m 14 ls [.int at2_2]) rfl ?_
  obtain ⟨hq3_0, hq3_1, hq3_2⟩ := hq3
  refine lv_istore_n (lv' := [(1, .int at2_2), (0, .ref o)]) hx hb dX12_atom_14 rfl hl (by decide) rfl (fun ls hl => ?_)
  refine lv_aload_n hx hb dX12_atom_15 rfl (lv_at hl 1 rfl) ?_
  refine va_ldcS (q := g.2 98) hx hb hown (zra44 hT.2.1) dX12_atom_16 ?_
  refine mcallV' (g := g) (q0 := 0) (ci := 10) (As := [.ref (g.2 98)]) (rest := []) St hK hT hA hP hD hS hl.1 [0] [] rfl rfl rfl (m_hasF l g o a th hi ac tp en at2_2 (-1) 6 iD iO tU fm fk fa fc ft ff fb fi (g.2 98) 44 zqa44 hen hq3_0 (by decide) rfl zla44 zna44 (zlitB zla44)) (cwV 1 hts (zgL (zl4 k899 k900 k901 k839) k889) rfl rfl rfl (by decide +kernel) ⟨Nat.le_of_ble_eq_true rfl, Nat.le_of_ble_eq_true rfl⟩) rfl rfl rfl rfl (Nat.le_of_ble_eq_true rfl) dX12_atom_18 ⟨(Nat.le_of_ble_eq_true rfl), (Nat.le_of_ble_eq_true rfl)⟩ (fun u_ H locs hq6 hP hD hS => ?_)
  obtain ⟨at2_4, r_5⟩ := u_
  replace hq6 : (0 ≤ at2_4.toInt ∧ at2_4.toInt ≤ en.toInt + 7 - (6 : Int32).toInt) ∧ (at2_2.toInt ≤ at2_4.toInt) ∧ (r_5 = 1 ∧ zisW ft en.toInt (zbg ft en.toInt at2_2.toInt) zqa44.2.2.2 ∧ at2_4.toInt = znx ft en.toInt (zbg ft en.toInt at2_2.toInt) ∧ at2_2.toInt < at2_4.toInt ∧ at2_4.toInt ≤ en.toInt ∨ r_5 = 0 ∧ ¬ zisW ft en.toInt (zbg ft en.toInt at2_2.toInt) zqa44.2.2.2 ∧ at2_4.toInt = zbg ft en.toInt at2_2.toInt) := hq6
  have hP : va_P g.1 vwCl (List.flatten [bMo g o a th hi ac tp (-1) en at2_4 (-1) 6 iD iO tU fm fk fa fc ft ff fb fi]) H := hP
  have hD : va_D A (List.flatten [bMo g o a th hi ac tp (-1) en at2_4 (-1) 6 iD iO tU fm fk fa fc ft ff fb fi]) := hD
  refine W.widen (k := 0) (n := 0) (Nat.le_of_ble_eq_true rfl) (Nat.le_of_ble_eq_true rfl) ?_
  refine W.eq (g2 := F0 m 21 ls [.int r_5]) rfl ?_
  obtain ⟨hq6_0, hq6_1, hq6_2⟩ := hq6
  rcases hq6_2 with ⟨rfl, hq6_k, hq6_km⟩ | ⟨rfl, hq6_k, hq6_km⟩
  · skip
    refine lv_istore_n (lv' := [(2, .int 1), (1, .int at2_2), (0, .ref o)]) hx hb dX12_atom_21 rfl hl (by decide) rfl (fun ls hl => ?_)
    refine lv_iload_n hx hb dX12_atom_22 rfl (lv_at hl 0 rfl) ?_
    refine lv_if_ne (tgt := 40) hx hb dX12_atom_23 (by decide) (fun _ => ?_) (fun c7 => absurd c7 (by decide))
    refine lv_aload_n hx hb dX12_atom_40 rfl (lv_at hl 2 rfl) ?_
    refine va_get (D := g.1) (ci := 10) (v := .int 6) (C := RX12) (T := TX12) (N := 20) hx hb hts izRX12 hown hK hP 0 rfl rfl 13 (by decide) (hts _ k933) (fun _ h9 => h9) rfl dX12_atom_41 ?_
    refine lv_bipush (v := 6) hx hb dX12_atom_44 (by decide) ?_
    refine lv_icmp_ne (tgt := 56) hx hb dX12_atom_46 (by decide) (fun c8 => absurd (by decide) c8) (fun _ => ?_)
    refine lv_aload_n hx hb dX12_atom_49 rfl (lv_at hl 2 rfl) ?_
    refine lv_iload_n hx hb dX12_atom_50 rfl (lv_at hl 1 rfl) ?_
    refine mcallV' (g := g) (q0 := 0) (ci := 10) (As := [.int at2_2]) (rest := []) St hK hT hA hP hD hS hl.1 [0] [] rfl rfl rfl (m_wrongF l g o a th hi ac tp (-1) en at2_4 6 iD iO tU fm fk fa fc ft ff fb fi at2_2 ) (cwV 1 hts (zgL (zl4 k895 k896 k897 k839) k890) rfl rfl rfl (by decide +kernel) ⟨Nat.le_of_ble_eq_true rfl, Nat.le_of_ble_eq_true rfl⟩) rfl rfl rfl rfl (Nat.le_of_ble_eq_true rfl) dX12_atom_51 ⟨(Nat.le_of_ble_eq_true rfl), (Nat.le_of_ble_eq_true rfl)⟩ (fun _u H locs hq9 hP hD hS => ?_)
    have hP : va_P g.1 vwCl (List.flatten [bMo g o a th hi ac tp (-1) en at2_4 at2_2 6 iD iO tU fm fk fa fc ft ff fb fi]) H := hP
    have hD : va_D A (List.flatten [bMo g o a th hi ac tp (-1) en at2_4 at2_2 6 iD iO tU fm fk fa fc ft ff fb fi]) := hD
    refine W.widen (k := 0) (n := 0) (Nat.le_of_ble_eq_true rfl) (Nat.le_of_ble_eq_true rfl) ?_
    refine W.eq (g2 := F0 m 54 ls []) rfl ?_
    refine lv_iconst (v := 0) hx hb dX12_atom_54 (by decide) ?_
    have hL0 : (0 : Int32).toInt = 0 := by decide
    have hP : va_P g.1 vwCl (List.flatten [bMo g o a th hi ac tp (-1) en at2_4 at2_2 6 iD iO tU fm fk fa fc ft ff fb fi]) H := hP
    have hD : va_D A (List.flatten [bMo g o a th hi ac tp (-1) en at2_4 at2_2 6 iD iO tU fm fk fa fc ft ff fb fi]) := hD
    exact mret_z hx hb hr hlocks hS (Nat.le_of_ble_eq_true rfl) (Nat.le_of_ble_eq_true rfl) dX12_atom_55 (at2_4, at2_2, (0 : Int32)) rfl (by decide) (show (0 ≤ at2_4.toInt ∧ at2_4.toInt ≤ en.toInt + 7 - 6) ∧ (tA.toInt ≤ at2_4.toInt) ∧ (0 ≤ (0 : Int32).toInt ∧ (0 : Int32).toInt ≤ 1) ∧ ((-1) = at2_2 ∧ zAtom ft en.toInt 0 (zbg ft en.toInt tA.toInt) (.ok (zbg ft en.toInt at2_4.toInt)) ∨ 0 ≤ at2_2.toInt ∧ zAtom ft en.toInt 0 (zbg ft en.toInt tA.toInt) (.bad at2_2.toInt)) from ⟨(by first | assumption | omega | exact Or.inl (by decide) | exact Or.inr (by omega)), (by first | assumption | omega | exact Or.inl (by decide) | exact Or.inr (by omega)), (by first | assumption | decide | omega), (Or.inr ⟨(by omega), zAt_0M (show _ = zbg ft en.toInt _ from hq3_2) (Or.inl (zBy (show _ = zbg ft en.toInt _ from hq3_2) hq6_k))⟩)⟩) hP hD
  · skip
    refine lv_istore_n (lv' := [(2, .int 0), (1, .int at2_2), (0, .ref o)]) hx hb dX12_atom_21 rfl hl (by decide) rfl (fun ls hl => ?_)
    refine lv_iload_n hx hb dX12_atom_22 rfl (lv_at hl 0 rfl) ?_
    refine lv_if_ne (tgt := 40) hx hb dX12_atom_23 (by decide) (fun c10 => absurd (by decide) c10) (fun _ => ?_)
    refine lv_aload_n hx hb dX12_atom_26 rfl (lv_at hl 2 rfl) ?_
    refine lv_bipush (v := 40) hx hb dX12_atom_27 (by decide) ?_
    have hL40 : (40 : Int32).toInt = 40 := by decide
    refine mcallV' (g := g) (q0 := 0) (ci := 10) (As := [.int 40]) (rest := []) St hK hT hA hP hD hS hl.1 [0] [] rfl rfl rfl (m_isSignF l g o a th hi ac tp en at2_4 (-1) 6 iD iO tU fm fk fa fc ft ff fb fi 40 hen hq6_0 (by decide) (by first | assumption | omega | decide | exact Or.inl (by decide) | exact Or.inr (by decide))) (cwV 1 hts (zgL (zl4 k938 k939 k940 k839) k883) rfl rfl rfl (by decide +kernel) ⟨Nat.le_of_ble_eq_true rfl, Nat.le_of_ble_eq_true rfl⟩) rfl rfl rfl rfl (Nat.le_of_ble_eq_true rfl) dX12_atom_29 ⟨(Nat.le_of_ble_eq_true rfl), (Nat.le_of_ble_eq_true rfl)⟩ (fun u_ H locs hq13 hP hD hS => ?_)
    obtain ⟨at2_11, q_12⟩ := u_
    replace hq13 : (0 ≤ at2_11.toInt ∧ at2_11.toInt ≤ en.toInt + 7 - (6 : Int32).toInt) ∧ (at2_4.toInt ≤ at2_11.toInt) ∧ (zSk ft en.toInt at2_4.toInt at2_11.toInt) ∧ (q_12 = 1 ∧ zisS ft en.toInt at2_11.toInt (40 : Int32).toInt ∧ at2_11.toInt < en.toInt ∨ q_12 = 0 ∧ ¬ zisS ft en.toInt at2_11.toInt (40 : Int32).toInt) := hq13
    have hP : va_P g.1 vwCl (List.flatten [bMo g o a th hi ac tp (-1) en at2_11 (-1) 6 iD iO tU fm fk fa fc ft ff fb fi]) H := hP
    have hD : va_D A (List.flatten [bMo g o a th hi ac tp (-1) en at2_11 (-1) 6 iD iO tU fm fk fa fc ft ff fb fi]) := hD
    refine W.widen (k := 0) (n := 0) (Nat.le_of_ble_eq_true rfl) (Nat.le_of_ble_eq_true rfl) ?_
    refine W.eq (g2 := F0 m 32 ls [.int q_12]) rfl ?_
    obtain ⟨hq13_0, hq13_1, hq13_2, hq13_3⟩ := hq13
    rcases hq13_3 with ⟨rfl, hq13_k⟩ | ⟨rfl, hq13_k⟩
    · skip
      refine lv_if_ne (tgt := 40) hx hb dX12_atom_32 (by decide) (fun _ => ?_) (fun c14 => absurd c14 (by decide))
      refine lv_aload_n hx hb dX12_atom_40 rfl (lv_at hl 2 rfl) ?_
      refine va_get (D := g.1) (ci := 10) (v := .int 6) (C := RX12) (T := TX12) (N := 20) hx hb hts izRX12 hown hK hP 0 rfl rfl 13 (by decide) (hts _ k933) (fun _ h9 => h9) rfl dX12_atom_41 ?_
      refine lv_bipush (v := 6) hx hb dX12_atom_44 (by decide) ?_
      refine lv_icmp_ne (tgt := 56) hx hb dX12_atom_46 (by decide) (fun c15 => absurd (by decide) c15) (fun _ => ?_)
      refine lv_aload_n hx hb dX12_atom_49 rfl (lv_at hl 2 rfl) ?_
      refine lv_iload_n hx hb dX12_atom_50 rfl (lv_at hl 1 rfl) ?_
      refine mcallV' (g := g) (q0 := 0) (ci := 10) (As := [.int at2_2]) (rest := []) St hK hT hA hP hD hS hl.1 [0] [] rfl rfl rfl (m_wrongF l g o a th hi ac tp (-1) en at2_11 6 iD iO tU fm fk fa fc ft ff fb fi at2_2 ) (cwV 1 hts (zgL (zl4 k895 k896 k897 k839) k890) rfl rfl rfl (by decide +kernel) ⟨Nat.le_of_ble_eq_true rfl, Nat.le_of_ble_eq_true rfl⟩) rfl rfl rfl rfl (Nat.le_of_ble_eq_true rfl) dX12_atom_51 ⟨(Nat.le_of_ble_eq_true rfl), (Nat.le_of_ble_eq_true rfl)⟩ (fun _u H locs hq16 hP hD hS => ?_)
      have hP : va_P g.1 vwCl (List.flatten [bMo g o a th hi ac tp (-1) en at2_11 at2_2 6 iD iO tU fm fk fa fc ft ff fb fi]) H := hP
      have hD : va_D A (List.flatten [bMo g o a th hi ac tp (-1) en at2_11 at2_2 6 iD iO tU fm fk fa fc ft ff fb fi]) := hD
      refine W.widen (k := 0) (n := 0) (Nat.le_of_ble_eq_true rfl) (Nat.le_of_ble_eq_true rfl) ?_
      refine W.eq (g2 := F0 m 54 ls []) rfl ?_
      refine lv_iconst (v := 0) hx hb dX12_atom_54 (by decide) ?_
      have hL0 : (0 : Int32).toInt = 0 := by decide
      have hP : va_P g.1 vwCl (List.flatten [bMo g o a th hi ac tp (-1) en at2_11 at2_2 6 iD iO tU fm fk fa fc ft ff fb fi]) H := hP
      have hD : va_D A (List.flatten [bMo g o a th hi ac tp (-1) en at2_11 at2_2 6 iD iO tU fm fk fa fc ft ff fb fi]) := hD
      exact mret_z hx hb hr hlocks hS (Nat.le_of_ble_eq_true rfl) (Nat.le_of_ble_eq_true rfl) dX12_atom_55 (at2_11, at2_2, (0 : Int32)) rfl (by decide) (show (0 ≤ at2_11.toInt ∧ at2_11.toInt ≤ en.toInt + 7 - 6) ∧ (tA.toInt ≤ at2_11.toInt) ∧ (0 ≤ (0 : Int32).toInt ∧ (0 : Int32).toInt ≤ 1) ∧ ((-1) = at2_2 ∧ zAtom ft en.toInt 0 (zbg ft en.toInt tA.toInt) (.ok (zbg ft en.toInt at2_11.toInt)) ∨ 0 ≤ at2_2.toInt ∧ zAtom ft en.toInt 0 (zbg ft en.toInt tA.toInt) (.bad at2_2.toInt)) from ⟨(by first | assumption | omega | exact Or.inl (by decide) | exact Or.inr (by omega)), (by first | assumption | omega | exact Or.inl (by decide) | exact Or.inr (by omega)), (by first | assumption | decide | omega), (Or.inr ⟨(by omega), zAt_0M (show _ = zbg ft en.toInt _ from hq3_2) (Or.inr (zBq (R := fun b9 _ => zisS ft en.toInt b9 40) (r := .ok 0) (zBe (zBe (show _ = zbg ft en.toInt _ from hq3_2) hq6_km) (show _ = zbg ft en.toInt _ from hq13_2)) hq13_k.1))⟩)⟩) hP hD
    · skip
      refine lv_if_ne (tgt := 40) hx hb dX12_atom_32 (by decide) (fun c17 => absurd (by decide) c17) (fun _ => ?_)
      refine lv_aload_n hx hb dX12_atom_35 rfl (lv_at hl 2 rfl) ?_
      refine mcallV' (g := g) (q0 := 0) (ci := 10) (As := []) (rest := []) St hK hT hA hP hD hS hl.1 [0] [] rfl rfl rfl (m_plainF l g o a th hi ac tp en at2_11 6 iD iO tU fm fk fa fc ft ff fb fi hiD hiO hen hq13_0 (by decide)) (cwV 0 hts (zgL (zl4 k948 k949 k950 k839) k947) rfl rfl rfl (by decide +kernel) ⟨Nat.le_of_ble_eq_true rfl, Nat.le_of_ble_eq_true rfl⟩) rfl rfl rfl rfl (Nat.le_of_ble_eq_true rfl) dX12_atom_36 ⟨(Nat.le_of_ble_eq_true rfl), (Nat.le_of_ble_eq_true rfl)⟩ (fun u_ H locs hq21 hP hD hS => ?_)
      obtain ⟨at2_18, fl2_19, q_20⟩ := u_
      replace hq21 : (0 ≤ at2_18.toInt ∧ at2_18.toInt ≤ en.toInt + 7 - (6 : Int32).toInt) ∧ (at2_11.toInt ≤ at2_18.toInt) ∧ (0 ≤ q_20.toInt ∧ q_20.toInt ≤ 1) ∧ ((-1) = fl2_19 ∧ zPlain ft en.toInt (zbg ft en.toInt at2_11.toInt) (.ok (zbg ft en.toInt at2_18.toInt)) ∨ 0 ≤ fl2_19.toInt ∧ zPlain ft en.toInt (zbg ft en.toInt at2_11.toInt) (.bad fl2_19.toInt)) := hq21
      have hP : va_P g.1 vwCl (List.flatten [bMo g o a th hi ac tp (-1) en at2_18 fl2_19 6 iD iO tU fm fk fa fc ft ff fb fi]) H := hP
      have hD : va_D A (List.flatten [bMo g o a th hi ac tp (-1) en at2_18 fl2_19 6 iD iO tU fm fk fa fc ft ff fb fi]) := hD
      refine W.widen (k := 0) (n := 0) (Nat.le_of_ble_eq_true rfl) (Nat.le_of_ble_eq_true rfl) ?_
      refine W.eq (g2 := F0 m 39 ls [.int q_20]) rfl ?_
      obtain ⟨hq21_0, hq21_1, hq21_2, hq21_3⟩ := hq21
      rcases hq21_3 with ⟨rfl, hq21_k⟩ | ⟨hq21_k, hq21_km⟩
      · skip
        have hP : va_P g.1 vwCl (List.flatten [bMo g o a th hi ac tp (-1) en at2_18 (-1) 6 iD iO tU fm fk fa fc ft ff fb fi]) H := hP
        have hD : va_D A (List.flatten [bMo g o a th hi ac tp (-1) en at2_18 (-1) 6 iD iO tU fm fk fa fc ft ff fb fi]) := hD
        exact mret_z hx hb hr hlocks hS (Nat.le_of_ble_eq_true rfl) (Nat.le_of_ble_eq_true rfl) dX12_atom_39 (at2_18, -1, q_20) rfl (by first | assumption | exact zb01 (by omega)) (show (0 ≤ at2_18.toInt ∧ at2_18.toInt ≤ en.toInt + 7 - 6) ∧ (tA.toInt ≤ at2_18.toInt) ∧ (0 ≤ q_20.toInt ∧ q_20.toInt ≤ 1) ∧ ((-1) = (-1) ∧ zAtom ft en.toInt 0 (zbg ft en.toInt tA.toInt) (.ok (zbg ft en.toInt at2_18.toInt)) ∨ 0 ≤ ((-1) : Int32).toInt ∧ zAtom ft en.toInt 0 (zbg ft en.toInt tA.toInt) (.bad ((-1) : Int32).toInt)) from ⟨(by first | assumption | omega | exact Or.inl (by decide) | exact Or.inr (by omega)), (by first | assumption | omega | exact Or.inl (by decide) | exact Or.inr (by omega)), (by first | assumption | decide | omega), (Or.inl ⟨rfl, zAt_pl (zor_n (zBw (show _ = zbg ft en.toInt _ from hq3_2) hq6_k) (zBsn (zBe (zBe (show _ = zbg ft en.toInt _ from hq3_2) hq6_km) (show _ = zbg ft en.toInt _ from hq13_2)) hq13_k (by decide))) (zBr (R := zPlain ft en.toInt) (zBe (zBe (show _ = zbg ft en.toInt _ from hq3_2) hq6_km) (show _ = zbg ft en.toInt _ from hq13_2)) hq21_k)⟩)⟩) hP hD
      · skip
        have hP : va_P g.1 vwCl (List.flatten [bMo g o a th hi ac tp (-1) en at2_18 fl2_19 6 iD iO tU fm fk fa fc ft ff fb fi]) H := hP
        have hD : va_D A (List.flatten [bMo g o a th hi ac tp (-1) en at2_18 fl2_19 6 iD iO tU fm fk fa fc ft ff fb fi]) := hD
        exact mret_z hx hb hr hlocks hS (Nat.le_of_ble_eq_true rfl) (Nat.le_of_ble_eq_true rfl) dX12_atom_39 (at2_18, fl2_19, q_20) rfl (by first | assumption | exact zb01 (by omega)) (show (0 ≤ at2_18.toInt ∧ at2_18.toInt ≤ en.toInt + 7 - 6) ∧ (tA.toInt ≤ at2_18.toInt) ∧ (0 ≤ q_20.toInt ∧ q_20.toInt ≤ 1) ∧ ((-1) = fl2_19 ∧ zAtom ft en.toInt 0 (zbg ft en.toInt tA.toInt) (.ok (zbg ft en.toInt at2_18.toInt)) ∨ 0 ≤ fl2_19.toInt ∧ zAtom ft en.toInt 0 (zbg ft en.toInt tA.toInt) (.bad fl2_19.toInt)) from ⟨(by first | assumption | omega | exact Or.inl (by decide) | exact Or.inr (by omega)), (by first | assumption | omega | exact Or.inl (by decide) | exact Or.inr (by omega)), (by first | assumption | decide | omega), (Or.inr ⟨hq21_k, zAt_pl (zor_n (zBw (show _ = zbg ft en.toInt _ from hq3_2) hq6_k) (zBsn (zBe (zBe (show _ = zbg ft en.toInt _ from hq3_2) hq6_km) (show _ = zbg ft en.toInt _ from hq13_2)) hq13_k (by decide))) (zBr (R := zPlain ft en.toInt) (zBe (zBe (show _ = zbg ft en.toInt _ from hq3_2) hq6_km) (show _ = zbg ft en.toInt _ from hq13_2)) hq21_km)⟩)⟩) hP hD
set_option maxRecDepth 100000 in
set_option maxHeartbeats 4000000 in
theorem m_every6F (l : Launch) (g : zG) (o : Nat) (a : Nat → Nat) (th : Int32) (hi : Int32) (ac : Int32) (tp : Int32) (en : Int32) (tA : Int32) (iD : Int32) (iO : Int32) (tU : Int32) (fm : Nat → Int32) (fk : Nat → Int32) (fa : Nat → Int32) (fc : Nat → Int32) (ft : Nat → Int32) (ff : Nat → Int32) (fb : Nat → Int32) (fi : Nat → Int32) (hiD : 0 ≤ iD.toInt ∧ iD.toInt ≤ 1) (hiO : 0 ≤ iO.toInt ∧ iO.toInt ≤ 1) (hen : 0 ≤ en.toInt ∧ en.toInt ≤ 400) (htA : 0 ≤ tA.toInt ∧ tA.toInt ≤ en.toInt + 7 - 6) (hde : 0 ≤ 6 ∧ 6 ≤ 6) : zM' g l yX12_every (Cond.code yX12_every cX12_every 3 (some .boolean) :: zB) ({ frames := 9, cells := 0, slots := 0, locals := 196 } : Room) [.ref o] [bMo g o a th hi ac tp (-1) en tA (-1) 6 iD iO tU fm fk fa fc ft ff fb fi] (fun u : Int32 × Int32 × Int32 => (fun (at2 : Int32) (fl2 : Int32) (q : Int32) => some (.int q)) (u.1) (u.2.1) (u.2.2)) (fun u : Int32 × Int32 × Int32 => (fun (at2 : Int32) (fl2 : Int32) (q : Int32) => (0 ≤ at2.toInt ∧ at2.toInt ≤ en.toInt + 7 - 6) ∧ (tA.toInt ≤ at2.toInt) ∧ (0 ≤ q.toInt ∧ q.toInt ≤ 1) ∧ ((-1) = fl2 ∧ (¬ zisW ft en.toInt (zbg ft en.toInt at2.toInt) zwAnd ∧ ∀ r9, zCoT ft en.toInt (zAtom ft en.toInt 0) (zbg ft en.toInt at2.toInt) r9 → zCond ft en.toInt (zAtom ft en.toInt 0) (zbg ft en.toInt tA.toInt) r9) ∨ 0 ≤ fl2.toInt ∧ zCond ft en.toInt (zAtom ft en.toInt 0) (zbg ft en.toInt tA.toInt) (.bad fl2.toInt))) (u.1) (u.2.1) (u.2.2)) (fun u : Int32 × Int32 × Int32 => (fun (at2 : Int32) (fl2 : Int32) (q : Int32) => [bMo g o a th hi ac tp (-1) en at2 fl2 6 iD iO tU fm fk fa fc ft ff fb fi]) (u.1) (u.2.1) (u.2.2)) := by
  refine zM'.of (cc := cX12_every) (maxL := 3) (rt := (some .boolean)) (by decide) rfl (Nat.le_of_ble_eq_true rfl) ?_
  intro p e s m args below meth c A ls St hr hlocks hin hK hT hA hP hD hS hl
  obtain ⟨hx, hb, hml, hown, hts⟩ := id St
  have hl : lv_has ls 3 [(0, .ref o)] := hl
  refine lv_aload_n hx hb dX12_every_0 rfl (lv_at hl 0 rfl) ?_
  refine mcallV' (g := g) (q0 := 0) (ci := 10) (As := []) (rest := []) St hK hT hA hP hD hS hl.1 [0] [] rfl rfl rfl (m_atom6F l g o a th hi ac tp en tA iD iO tU fm fk fa fc ft ff fb fi hiD hiO hen htA hde) (cwV 0 hts (zgL (zl4 k951 k952 k953 k839) k962) rfl rfl rfl (by decide +kernel) ⟨Nat.le_of_ble_eq_true rfl, Nat.le_of_ble_eq_true rfl⟩) rfl rfl rfl rfl (Nat.le_of_ble_eq_true rfl) dX12_every_1 ⟨(Nat.le_of_ble_eq_true rfl), (Nat.le_of_ble_eq_true rfl)⟩ (fun u_ H locs hq4 hP hD hS => ?_)
  obtain ⟨at2_1, fl2_2, q_3⟩ := u_
  replace hq4 : (0 ≤ at2_1.toInt ∧ at2_1.toInt ≤ en.toInt + 7 - 6) ∧ (tA.toInt ≤ at2_1.toInt) ∧ (0 ≤ q_3.toInt ∧ q_3.toInt ≤ 1) ∧ ((-1) = fl2_2 ∧ zAtom ft en.toInt 0 (zbg ft en.toInt tA.toInt) (.ok (zbg ft en.toInt at2_1.toInt)) ∨ 0 ≤ fl2_2.toInt ∧ zAtom ft en.toInt 0 (zbg ft en.toInt tA.toInt) (.bad fl2_2.toInt)) := hq4
  have hP : va_P g.1 vwCl (List.flatten [bMo g o a th hi ac tp (-1) en at2_1 fl2_2 6 iD iO tU fm fk fa fc ft ff fb fi]) H := hP
  have hD : va_D A (List.flatten [bMo g o a th hi ac tp (-1) en at2_1 fl2_2 6 iD iO tU fm fk fa fc ft ff fb fi]) := hD
  refine W.widen (k := 0) (n := 0) (Nat.le_of_ble_eq_true rfl) (Nat.le_of_ble_eq_true rfl) ?_
  refine W.eq (g2 := F0 m 4 ls [.int q_3]) rfl ?_
  obtain ⟨hq4_0, hq4_1, hq4_2, hq4_3⟩ := hq4
  rcases hq4_3 with ⟨rfl, hq4_k⟩ | ⟨hq4_k, hq4_km⟩
  · skip
    refine lv_istore_n (lv' := [(1, .int q_3), (0, .ref o)]) hx hb dX12_every_4 rfl hl (by decide) rfl (fun ls hl => ?_)
    have hl := lv_sub (l' := [(0, .ref o), (1, .int q_3)]) hl [1, 0] rfl
    have LP5_15 : ∀ (kf : Nat) (x_5 : Int32) (x_6 : Int32) (x_7 : Int32), (0 ≤ x_5.toInt ∧ x_5.toInt ≤ 1) → (0 ≤ x_6.toInt ∧ x_6.toInt ≤ 407) → ((-1) ≤ x_7.toInt) → (tA.toInt ≤ x_6.toInt) → (x_6.toInt ≤ en.toInt + 7 - 6) → (-1 ≤ x_7.toInt) → ((x_7.toInt = -1 ∧ ∀ r9, zCoT ft en.toInt (zAtom ft en.toInt 0) (zbg ft en.toInt x_6.toInt) r9 → zCond ft en.toInt (zAtom ft en.toInt 0) (zbg ft en.toInt tA.toInt) r9) ∨ (0 ≤ x_7.toInt ∧ zCond ft en.toInt (zAtom ft en.toInt 0) (zbg ft en.toInt tA.toInt) (.bad x_7.toInt))) → ∀ (H : Heap) (locs : List Loc) (ls : Array Slot), ((en.toInt + 8 - x_6.toInt).toNat) < kf → va_P g.1 vwCl (List.flatten [bMo g o a th hi ac tp (-1) en x_6 x_7 6 iD iO tU fm fk fa fc ft ff fb fi]) H → va_D A (List.flatten [bMo g o a th hi ac tp (-1) en x_6 x_7 6 iD iO tU fm fk fa fc ft ff fb fi]) → va_S A s.heap H locs → lv_has ls 3 [(0, .ref o), (1, .int x_5)] → W p l e ({ frames := 9, cells := 0, slots := 0, locals := 196 } : Room) s m args below meth c H locs (0) (0) (zF g (fun u : Int32 × Int32 × Int32 => (fun (at2 : Int32) (fl2 : Int32) (q : Int32) => some (.int q)) (u.1) (u.2.1) (u.2.2)) (fun u : Int32 × Int32 × Int32 => (fun (at2 : Int32) (fl2 : Int32) (q : Int32) => (0 ≤ at2.toInt ∧ at2.toInt ≤ en.toInt + 7 - 6) ∧ (tA.toInt ≤ at2.toInt) ∧ (0 ≤ q.toInt ∧ q.toInt ≤ 1) ∧ ((-1) = fl2 ∧ (¬ zisW ft en.toInt (zbg ft en.toInt at2.toInt) zwAnd ∧ ∀ r9, zCoT ft en.toInt (zAtom ft en.toInt 0) (zbg ft en.toInt at2.toInt) r9 → zCond ft en.toInt (zAtom ft en.toInt 0) (zbg ft en.toInt tA.toInt) r9) ∨ 0 ≤ fl2.toInt ∧ zCond ft en.toInt (zAtom ft en.toInt 0) (zbg ft en.toInt tA.toInt) (.bad fl2.toInt))) (u.1) (u.2.1) (u.2.2)) (fun u : Int32 × Int32 × Int32 => (fun (at2 : Int32) (fl2 : Int32) (q : Int32) => [bMo g o a th hi ac tp (-1) en at2 fl2 6 iD iO tU fm fk fa fc ft ff fb fi]) (u.1) (u.2.1) (u.2.2)) ({ frames := 9, cells := 0, slots := 0, locals := 196 } : Room) below args s A) (F0 m 5 ls []) := by
      intro kf
      induction kf with
      | zero => intro x_5 x_6 x_7 i8 i9 i10 i11 i12 i13 i14 H locs ls hk; exact absurd hk (Nat.not_lt_zero _)
      | succ kf ih5_16 =>
        intro x_5 x_6 x_7 i8 i9 i10 i11 i12 i13 i14 H locs ls hk5_16 hP hD hS hl
        refine lv_aload_n hx hb dX12_every_5 rfl (lv_at hl 0 rfl) ?_
        refine va_get (D := g.1) (ci := 10) (v := .int x_7) (C := RX12) (T := TX12) (N := 20) hx hb hts izRX12 hown hK hP 0 rfl rfl 12 (by decide) (hts _ k820) (fun _ h9 => h9) rfl dX12_every_6 ?_
        refine lv_iconst (v := (-1)) hx hb dX12_every_9 (by decide) ?_
        refine lv_icmp_ne (tgt := 44) hx hb dX12_every_10 (by decide) (fun cb9 => ?_) (fun cb9 => ?_)
        · skip
          have c17 : ¬ x_7.toInt = (-1) := zne cb9 rfl (by decide)
          have n18 : 0 ≤ x_7.toInt := zN1 c17 i10 (by decide)
          refine lv_iload_n hx hb dX12_every_44 rfl (lv_at hl 1 rfl) ?_
          have hP : va_P g.1 vwCl (List.flatten [bMo g o a th hi ac tp (-1) en x_6 x_7 6 iD iO tU fm fk fa fc ft ff fb fi]) H := hP
          have hD : va_D A (List.flatten [bMo g o a th hi ac tp (-1) en x_6 x_7 6 iD iO tU fm fk fa fc ft ff fb fi]) := hD
          exact mret_z hx hb hr hlocks hS (Nat.le_of_ble_eq_true rfl) (Nat.le_of_ble_eq_true rfl) dX12_every_45 (x_6, x_7, x_5) rfl (by first | assumption | exact zb01 (by omega)) (show (0 ≤ x_6.toInt ∧ x_6.toInt ≤ en.toInt + 7 - 6) ∧ (tA.toInt ≤ x_6.toInt) ∧ (0 ≤ x_5.toInt ∧ x_5.toInt ≤ 1) ∧ ((-1) = x_7 ∧ (¬ zisW ft en.toInt (zbg ft en.toInt x_6.toInt) zwAnd ∧ ∀ r9, zCoT ft en.toInt (zAtom ft en.toInt 0) (zbg ft en.toInt x_6.toInt) r9 → zCond ft en.toInt (zAtom ft en.toInt 0) (zbg ft en.toInt tA.toInt) r9) ∨ 0 ≤ x_7.toInt ∧ zCond ft en.toInt (zAtom ft en.toInt 0) (zbg ft en.toInt tA.toInt) (.bad x_7.toInt)) from ⟨(by first | assumption | omega | exact Or.inl (by decide) | exact Or.inr (by omega)), (by first | assumption | omega | exact Or.inl (by decide) | exact Or.inr (by omega)), (by first | assumption | decide | omega), (Or.inr (i14.resolve_left (fun h9 => by have := h9.1; omega)))⟩) hP hD
        · skip
          have c19 : x_7.toInt = (-1) := zeq cb9 rfl (by decide)
          have n20 : x_7.toInt ≤ (-1) := Int.le_trans (Int.le_of_eq c19) (Int.le_refl _)
          have w21 : ∀ r9, zCoT ft en.toInt (zAtom ft en.toInt 0) (zbg ft en.toInt x_6.toInt) r9 → zCond ft en.toInt (zAtom ft en.toInt 0) (zbg ft en.toInt tA.toInt) r9 := (i14.resolve_right (fun h9 => by have := h9.1; omega)).2
          have w22 : x_7 = -1 := (zm1 (by omega)).symm
          subst w22
          refine lv_aload_n hx hb dX12_every_13 rfl (lv_at hl 0 rfl) ?_
          refine va_ldcS (q := g.2 100) hx hb hown (zra45 hT.2.1) dX12_every_14 ?_
          have hL6 : (6 : Int32).toInt = 6 := by decide
          refine mcallV' (g := g) (q0 := 0) (ci := 10) (As := [.ref (g.2 100)]) (rest := []) St hK hT hA hP hD hS hl.1 [0] [] rfl rfl rfl (m_hasF l g o a th hi ac tp en x_6 (-1) 6 iD iO tU fm fk fa fc ft ff fb fi (g.2 100) 45 zqa45 hen (by first | assumption | omega | decide | exact Or.inl (by decide) | exact Or.inr (by decide)) (by decide) rfl zla45 zna45 (zlitB zla45)) (cwV 1 hts (zgL (zl4 k899 k900 k901 k839) k889) rfl rfl rfl (by decide +kernel) ⟨Nat.le_of_ble_eq_true rfl, Nat.le_of_ble_eq_true rfl⟩) rfl rfl rfl rfl (Nat.le_of_ble_eq_true rfl) dX12_every_16 ⟨(Nat.le_of_ble_eq_true rfl), (Nat.le_of_ble_eq_true rfl)⟩ (fun u_ H locs hq25 hP hD hS => ?_)
          obtain ⟨at2_23, r_24⟩ := u_
          replace hq25 : (0 ≤ at2_23.toInt ∧ at2_23.toInt ≤ en.toInt + 7 - (6 : Int32).toInt) ∧ (x_6.toInt ≤ at2_23.toInt) ∧ (r_24 = 1 ∧ zisW ft en.toInt (zbg ft en.toInt x_6.toInt) zqa45.2.2.2 ∧ at2_23.toInt = znx ft en.toInt (zbg ft en.toInt x_6.toInt) ∧ x_6.toInt < at2_23.toInt ∧ at2_23.toInt ≤ en.toInt ∨ r_24 = 0 ∧ ¬ zisW ft en.toInt (zbg ft en.toInt x_6.toInt) zqa45.2.2.2 ∧ at2_23.toInt = zbg ft en.toInt x_6.toInt) := hq25
          have hP : va_P g.1 vwCl (List.flatten [bMo g o a th hi ac tp (-1) en at2_23 (-1) 6 iD iO tU fm fk fa fc ft ff fb fi]) H := hP
          have hD : va_D A (List.flatten [bMo g o a th hi ac tp (-1) en at2_23 (-1) 6 iD iO tU fm fk fa fc ft ff fb fi]) := hD
          refine W.widen (k := 0) (n := 0) (Nat.le_of_ble_eq_true rfl) (Nat.le_of_ble_eq_true rfl) ?_
          refine W.eq (g2 := F0 m 19 ls [.int r_24]) rfl ?_
          obtain ⟨hq25_0, hq25_1, hq25_2⟩ := hq25
          rcases hq25_2 with ⟨rfl, hq25_k, hq25_km⟩ | ⟨rfl, hq25_k, hq25_km⟩
          · skip
            refine lv_if_eq (tgt := 44) hx hb dX12_every_19 (by decide) (fun c26 => absurd c26 (by decide)) (fun _ => ?_)
            refine lv_aload_n hx hb dX12_every_22 rfl (lv_at hl 0 rfl) ?_
            refine mcallV' (g := g) (q0 := 0) (ci := 10) (As := []) (rest := []) St hK hT hA hP hD hS hl.1 [0] [] rfl rfl rfl (m_atom6F l g o a th hi ac tp en at2_23 iD iO tU fm fk fa fc ft ff fb fi hiD hiO hen (by first | assumption | omega | decide | exact Or.inl (by decide) | exact Or.inr (by decide)) hde) (cwV 0 hts (zgL (zl4 k951 k952 k953 k839) k962) rfl rfl rfl (by decide +kernel) ⟨Nat.le_of_ble_eq_true rfl, Nat.le_of_ble_eq_true rfl⟩) rfl rfl rfl rfl (Nat.le_of_ble_eq_true rfl) dX12_every_23 ⟨(Nat.le_of_ble_eq_true rfl), (Nat.le_of_ble_eq_true rfl)⟩ (fun u_ H locs hq30 hP hD hS => ?_)
            obtain ⟨at2_27, fl2_28, q_29⟩ := u_
            replace hq30 : (0 ≤ at2_27.toInt ∧ at2_27.toInt ≤ en.toInt + 7 - 6) ∧ (at2_23.toInt ≤ at2_27.toInt) ∧ (0 ≤ q_29.toInt ∧ q_29.toInt ≤ 1) ∧ ((-1) = fl2_28 ∧ zAtom ft en.toInt 0 (zbg ft en.toInt at2_23.toInt) (.ok (zbg ft en.toInt at2_27.toInt)) ∨ 0 ≤ fl2_28.toInt ∧ zAtom ft en.toInt 0 (zbg ft en.toInt at2_23.toInt) (.bad fl2_28.toInt)) := hq30
            have hP : va_P g.1 vwCl (List.flatten [bMo g o a th hi ac tp (-1) en at2_27 fl2_28 6 iD iO tU fm fk fa fc ft ff fb fi]) H := hP
            have hD : va_D A (List.flatten [bMo g o a th hi ac tp (-1) en at2_27 fl2_28 6 iD iO tU fm fk fa fc ft ff fb fi]) := hD
            refine W.widen (k := 0) (n := 0) (Nat.le_of_ble_eq_true rfl) (Nat.le_of_ble_eq_true rfl) ?_
            refine W.eq (g2 := F0 m 26 ls [.int q_29]) rfl ?_
            obtain ⟨hq30_0, hq30_1, hq30_2, hq30_3⟩ := hq30
            rcases hq30_3 with ⟨rfl, hq30_k⟩ | ⟨hq30_k, hq30_km⟩
            · skip
              refine lv_istore_n (lv' := [(2, .int q_29), (0, .ref o), (1, .int x_5)]) hx hb dX12_every_26 rfl hl (by decide) rfl (fun ls hl => ?_)
              refine lv_iload_n hx hb dX12_every_27 rfl (lv_at hl 2 rfl) ?_
              refine lv_if_eq (tgt := 39) hx hb dX12_every_28 (by decide) (fun cb9 => ?_) (fun cb9 => ?_)
              · skip
                have c31 : x_5.toInt = 0 := zeq cb9 rfl (by decide)
                have n32 : x_5.toInt ≤ 0 := Int.le_trans (Int.le_of_eq c31) (Int.le_refl _)
                refine lv_iconst (v := 0) hx hb dX12_every_39 (by decide) ?_
                refine lv_istore_n (lv' := [(1, .int 0), (2, .int q_29), (0, .ref o)]) hx hb dX12_every_40 rfl hl (by decide) rfl (fun ls hl => ?_)
                refine lv_goto (tgt := 5) hx hb dX12_every_41 (by decide) ?_
                have hl := lv_sub (l' := [(0, .ref o), (1, .int 0), (2, .int q_29)]) hl [2, 0, 1] rfl
                have hL0 : (0 : Int32).toInt = 0 := by decide
                have hLn1 : ((-1) : Int32).toInt = (-1) := by decide
                have hP : va_P g.1 vwCl (List.flatten [bMo g o a th hi ac tp (-1) en at2_27 (-1) 6 iD iO tU fm fk fa fc ft ff fb fi]) H := hP
                have hD : va_D A (List.flatten [bMo g o a th hi ac tp (-1) en at2_27 (-1) 6 iD iO tU fm fk fa fc ft ff fb fi]) := hD
                exact ih5_16 0 at2_27 (-1) (by decide) (by first | omega | assumption | decide) (by decide) (by first | omega | assumption | decide) (by first | omega | assumption | decide) (by first | omega | assumption | decide) (Or.inl ⟨by decide, fun r9 h9 => zCo_w w21 (Or.inl hq25_k) hq25_km.1 (zCo_t hq30_k h9)⟩) H _ ls (by omega)  hP hD hS (lv_sub hl [0, 1] rfl)
              · skip
                have c33 : ¬ x_5.toInt = 0 := zne cb9 rfl (by decide)
                have n34 : 1 ≤ x_5.toInt := zN1 c33 i8.1 (by decide)
                refine lv_iload_n hx hb dX12_every_31 rfl (lv_at hl 0 rfl) ?_
                refine lv_if_eq (tgt := 39) hx hb dX12_every_32 (by decide) (fun cb9 => ?_) (fun cb9 => ?_)
                · skip
                  have c35 : q_29.toInt = 0 := zeq cb9 rfl (by decide)
                  have n36 : q_29.toInt ≤ 0 := Int.le_trans (Int.le_of_eq c35) (Int.le_refl _)
                  refine lv_iconst (v := 0) hx hb dX12_every_39 (by decide) ?_
                  refine lv_istore_n (lv' := [(1, .int 0), (2, .int q_29), (0, .ref o)]) hx hb dX12_every_40 rfl hl (by decide) rfl (fun ls hl => ?_)
                  refine lv_goto (tgt := 5) hx hb dX12_every_41 (by decide) ?_
                  have hl := lv_sub (l' := [(0, .ref o), (1, .int 0), (2, .int q_29)]) hl [2, 0, 1] rfl
                  have hL0 : (0 : Int32).toInt = 0 := by decide
                  have hLn1 : ((-1) : Int32).toInt = (-1) := by decide
                  have hP : va_P g.1 vwCl (List.flatten [bMo g o a th hi ac tp (-1) en at2_27 (-1) 6 iD iO tU fm fk fa fc ft ff fb fi]) H := hP
                  have hD : va_D A (List.flatten [bMo g o a th hi ac tp (-1) en at2_27 (-1) 6 iD iO tU fm fk fa fc ft ff fb fi]) := hD
                  exact ih5_16 0 at2_27 (-1) (by decide) (by first | omega | assumption | decide) (by decide) (by first | omega | assumption | decide) (by first | omega | assumption | decide) (by first | omega | assumption | decide) (Or.inl ⟨by decide, fun r9 h9 => zCo_w w21 (Or.inl hq25_k) hq25_km.1 (zCo_t hq30_k h9)⟩) H _ ls (by omega)  hP hD hS (lv_sub hl [0, 1] rfl)
                · skip
                  have c37 : ¬ q_29.toInt = 0 := zne cb9 rfl (by decide)
                  have n38 : 1 ≤ q_29.toInt := zN1 c37 hq30_2.1 (by decide)
                  refine lv_iconst (v := 1) hx hb dX12_every_35 (by decide) ?_
                  refine lv_goto (tgt := 40) hx hb dX12_every_36 (by decide) ?_
                  refine lv_istore_n (lv' := [(1, .int 1), (2, .int q_29), (0, .ref o)]) hx hb dX12_every_40 rfl hl (by decide) rfl (fun ls hl => ?_)
                  refine lv_goto (tgt := 5) hx hb dX12_every_41 (by decide) ?_
                  have hl := lv_sub (l' := [(0, .ref o), (1, .int 1), (2, .int q_29)]) hl [2, 0, 1] rfl
                  have hL1 : (1 : Int32).toInt = 1 := by decide
                  have hLn1 : ((-1) : Int32).toInt = (-1) := by decide
                  have hP : va_P g.1 vwCl (List.flatten [bMo g o a th hi ac tp (-1) en at2_27 (-1) 6 iD iO tU fm fk fa fc ft ff fb fi]) H := hP
                  have hD : va_D A (List.flatten [bMo g o a th hi ac tp (-1) en at2_27 (-1) 6 iD iO tU fm fk fa fc ft ff fb fi]) := hD
                  exact ih5_16 1 at2_27 (-1) (by decide) (by first | omega | assumption | decide) (by decide) (by first | omega | assumption | decide) (by first | omega | assumption | decide) (by first | omega | assumption | decide) (Or.inl ⟨by decide, fun r9 h9 => zCo_w w21 (Or.inl hq25_k) hq25_km.1 (zCo_t hq30_k h9)⟩) H _ ls (by omega)  hP hD hS (lv_sub hl [0, 1] rfl)
            · skip
              refine lv_istore_n (lv' := [(2, .int q_29), (0, .ref o), (1, .int x_5)]) hx hb dX12_every_26 rfl hl (by decide) rfl (fun ls hl => ?_)
              refine lv_iload_n hx hb dX12_every_27 rfl (lv_at hl 2 rfl) ?_
              refine lv_if_eq (tgt := 39) hx hb dX12_every_28 (by decide) (fun cb9 => ?_) (fun cb9 => ?_)
              · skip
                have c39 : x_5.toInt = 0 := zeq cb9 rfl (by decide)
                have n40 : x_5.toInt ≤ 0 := Int.le_trans (Int.le_of_eq c39) (Int.le_refl _)
                refine lv_iconst (v := 0) hx hb dX12_every_39 (by decide) ?_
                refine lv_istore_n (lv' := [(1, .int 0), (2, .int q_29), (0, .ref o)]) hx hb dX12_every_40 rfl hl (by decide) rfl (fun ls hl => ?_)
                refine lv_goto (tgt := 5) hx hb dX12_every_41 (by decide) ?_
                have hl := lv_sub (l' := [(0, .ref o), (1, .int 0), (2, .int q_29)]) hl [2, 0, 1] rfl
                have hL0 : (0 : Int32).toInt = 0 := by decide
                have hP : va_P g.1 vwCl (List.flatten [bMo g o a th hi ac tp (-1) en at2_27 fl2_28 6 iD iO tU fm fk fa fc ft ff fb fi]) H := hP
                have hD : va_D A (List.flatten [bMo g o a th hi ac tp (-1) en at2_27 fl2_28 6 iD iO tU fm fk fa fc ft ff fb fi]) := hD
                exact ih5_16 0 at2_27 fl2_28 (by decide) (by first | omega | assumption | decide) (Int.le_trans (by decide) hq30_k) (by first | omega | assumption | decide) (by first | omega | assumption | decide) (by first | omega | assumption | decide) (Or.inr ⟨hq30_k, zCo_w w21 (Or.inl hq25_k) hq25_km.1 (.wrong hq30_km)⟩) H _ ls (by omega)  hP hD hS (lv_sub hl [0, 1] rfl)
              · skip
                have c41 : ¬ x_5.toInt = 0 := zne cb9 rfl (by decide)
                have n42 : 1 ≤ x_5.toInt := zN1 c41 i8.1 (by decide)
                refine lv_iload_n hx hb dX12_every_31 rfl (lv_at hl 0 rfl) ?_
                refine lv_if_eq (tgt := 39) hx hb dX12_every_32 (by decide) (fun cb9 => ?_) (fun cb9 => ?_)
                · skip
                  have c43 : q_29.toInt = 0 := zeq cb9 rfl (by decide)
                  have n44 : q_29.toInt ≤ 0 := Int.le_trans (Int.le_of_eq c43) (Int.le_refl _)
                  refine lv_iconst (v := 0) hx hb dX12_every_39 (by decide) ?_
                  refine lv_istore_n (lv' := [(1, .int 0), (2, .int q_29), (0, .ref o)]) hx hb dX12_every_40 rfl hl (by decide) rfl (fun ls hl => ?_)
                  refine lv_goto (tgt := 5) hx hb dX12_every_41 (by decide) ?_
                  have hl := lv_sub (l' := [(0, .ref o), (1, .int 0), (2, .int q_29)]) hl [2, 0, 1] rfl
                  have hL0 : (0 : Int32).toInt = 0 := by decide
                  have hP : va_P g.1 vwCl (List.flatten [bMo g o a th hi ac tp (-1) en at2_27 fl2_28 6 iD iO tU fm fk fa fc ft ff fb fi]) H := hP
                  have hD : va_D A (List.flatten [bMo g o a th hi ac tp (-1) en at2_27 fl2_28 6 iD iO tU fm fk fa fc ft ff fb fi]) := hD
                  exact ih5_16 0 at2_27 fl2_28 (by decide) (by first | omega | assumption | decide) (Int.le_trans (by decide) hq30_k) (by first | omega | assumption | decide) (by first | omega | assumption | decide) (by first | omega | assumption | decide) (Or.inr ⟨hq30_k, zCo_w w21 (Or.inl hq25_k) hq25_km.1 (.wrong hq30_km)⟩) H _ ls (by omega)  hP hD hS (lv_sub hl [0, 1] rfl)
                · skip
                  have c45 : ¬ q_29.toInt = 0 := zne cb9 rfl (by decide)
                  have n46 : 1 ≤ q_29.toInt := zN1 c45 hq30_2.1 (by decide)
                  refine lv_iconst (v := 1) hx hb dX12_every_35 (by decide) ?_
                  refine lv_goto (tgt := 40) hx hb dX12_every_36 (by decide) ?_
                  refine lv_istore_n (lv' := [(1, .int 1), (2, .int q_29), (0, .ref o)]) hx hb dX12_every_40 rfl hl (by decide) rfl (fun ls hl => ?_)
                  refine lv_goto (tgt := 5) hx hb dX12_every_41 (by decide) ?_
                  have hl := lv_sub (l' := [(0, .ref o), (1, .int 1), (2, .int q_29)]) hl [2, 0, 1] rfl
                  have hL1 : (1 : Int32).toInt = 1 := by decide
                  have hP : va_P g.1 vwCl (List.flatten [bMo g o a th hi ac tp (-1) en at2_27 fl2_28 6 iD iO tU fm fk fa fc ft ff fb fi]) H := hP
                  have hD : va_D A (List.flatten [bMo g o a th hi ac tp (-1) en at2_27 fl2_28 6 iD iO tU fm fk fa fc ft ff fb fi]) := hD
                  exact ih5_16 1 at2_27 fl2_28 (by decide) (by first | omega | assumption | decide) (Int.le_trans (by decide) hq30_k) (by first | omega | assumption | decide) (by first | omega | assumption | decide) (by first | omega | assumption | decide) (Or.inr ⟨hq30_k, zCo_w w21 (Or.inl hq25_k) hq25_km.1 (.wrong hq30_km)⟩) H _ ls (by omega)  hP hD hS (lv_sub hl [0, 1] rfl)
          · skip
            refine lv_if_eq (tgt := 44) hx hb dX12_every_19 (by decide) (fun _ => ?_) (fun c47 => absurd (by decide) c47)
            refine lv_iload_n hx hb dX12_every_44 rfl (lv_at hl 1 rfl) ?_
            have hP : va_P g.1 vwCl (List.flatten [bMo g o a th hi ac tp (-1) en at2_23 (-1) 6 iD iO tU fm fk fa fc ft ff fb fi]) H := hP
            have hD : va_D A (List.flatten [bMo g o a th hi ac tp (-1) en at2_23 (-1) 6 iD iO tU fm fk fa fc ft ff fb fi]) := hD
            exact mret_z hx hb hr hlocks hS (Nat.le_of_ble_eq_true rfl) (Nat.le_of_ble_eq_true rfl) dX12_every_45 (at2_23, -1, x_5) rfl (by first | assumption | exact zb01 (by omega)) (show (0 ≤ at2_23.toInt ∧ at2_23.toInt ≤ en.toInt + 7 - 6) ∧ (tA.toInt ≤ at2_23.toInt) ∧ (0 ≤ x_5.toInt ∧ x_5.toInt ≤ 1) ∧ ((-1) = (-1) ∧ (¬ zisW ft en.toInt (zbg ft en.toInt at2_23.toInt) zwAnd ∧ ∀ r9, zCoT ft en.toInt (zAtom ft en.toInt 0) (zbg ft en.toInt at2_23.toInt) r9 → zCond ft en.toInt (zAtom ft en.toInt 0) (zbg ft en.toInt tA.toInt) r9) ∨ 0 ≤ ((-1) : Int32).toInt ∧ zCond ft en.toInt (zAtom ft en.toInt 0) (zbg ft en.toInt tA.toInt) (.bad ((-1) : Int32).toInt)) from ⟨(by first | assumption | omega | exact Or.inl (by decide) | exact Or.inr (by omega)), (by first | assumption | omega | exact Or.inl (by decide) | exact Or.inr (by omega)), (by first | assumption | decide | omega), (Or.inl ⟨rfl, zEv_end w21 hq25_k hq25_km⟩)⟩) hP hD
    have hLn1 : ((-1) : Int32).toInt = (-1) := by decide
    have hP : va_P g.1 vwCl (List.flatten [bMo g o a th hi ac tp (-1) en at2_1 (-1) 6 iD iO tU fm fk fa fc ft ff fb fi]) H := hP
    have hD : va_D A (List.flatten [bMo g o a th hi ac tp (-1) en at2_1 (-1) 6 iD iO tU fm fk fa fc ft ff fb fi]) := hD
    exact LP5_15 _ q_3 at2_1 (-1) ⟨hq4_2.1, hq4_2.2⟩ (by first | omega | assumption | decide) (by decide) hq4_1 (by first | omega | assumption | decide) (by first | omega | assumption | decide) (Or.inl ⟨by decide, fun r9 h9 => zCo_t hq4_k h9⟩) H _ ls (Nat.lt_succ_self _)  hP hD hS (lv_sub hl [0, 1] rfl)
  · skip
    refine lv_istore_n (lv' := [(1, .int q_3), (0, .ref o)]) hx hb dX12_every_4 rfl hl (by decide) rfl (fun ls hl => ?_)
    have hl := lv_sub (l' := [(0, .ref o), (1, .int q_3)]) hl [1, 0] rfl
    have LP5_58 : ∀ (kf : Nat) (x_48 : Int32) (x_49 : Int32) (x_50 : Int32), (0 ≤ x_48.toInt ∧ x_48.toInt ≤ 1) → (0 ≤ x_49.toInt ∧ x_49.toInt ≤ 407) → ((-1) ≤ x_50.toInt) → (tA.toInt ≤ x_49.toInt) → (x_49.toInt ≤ en.toInt + 7 - 6) → (-1 ≤ x_50.toInt) → ((x_50.toInt = -1 ∧ ∀ r9, zCoT ft en.toInt (zAtom ft en.toInt 0) (zbg ft en.toInt x_49.toInt) r9 → zCond ft en.toInt (zAtom ft en.toInt 0) (zbg ft en.toInt tA.toInt) r9) ∨ (0 ≤ x_50.toInt ∧ zCond ft en.toInt (zAtom ft en.toInt 0) (zbg ft en.toInt tA.toInt) (.bad x_50.toInt))) → ∀ (H : Heap) (locs : List Loc) (ls : Array Slot), ((en.toInt + 8 - x_49.toInt).toNat) < kf → va_P g.1 vwCl (List.flatten [bMo g o a th hi ac tp (-1) en x_49 x_50 6 iD iO tU fm fk fa fc ft ff fb fi]) H → va_D A (List.flatten [bMo g o a th hi ac tp (-1) en x_49 x_50 6 iD iO tU fm fk fa fc ft ff fb fi]) → va_S A s.heap H locs → lv_has ls 3 [(0, .ref o), (1, .int x_48)] → W p l e ({ frames := 9, cells := 0, slots := 0, locals := 196 } : Room) s m args below meth c H locs (0) (0) (zF g (fun u : Int32 × Int32 × Int32 => (fun (at2 : Int32) (fl2 : Int32) (q : Int32) => some (.int q)) (u.1) (u.2.1) (u.2.2)) (fun u : Int32 × Int32 × Int32 => (fun (at2 : Int32) (fl2 : Int32) (q : Int32) => (0 ≤ at2.toInt ∧ at2.toInt ≤ en.toInt + 7 - 6) ∧ (tA.toInt ≤ at2.toInt) ∧ (0 ≤ q.toInt ∧ q.toInt ≤ 1) ∧ ((-1) = fl2 ∧ (¬ zisW ft en.toInt (zbg ft en.toInt at2.toInt) zwAnd ∧ ∀ r9, zCoT ft en.toInt (zAtom ft en.toInt 0) (zbg ft en.toInt at2.toInt) r9 → zCond ft en.toInt (zAtom ft en.toInt 0) (zbg ft en.toInt tA.toInt) r9) ∨ 0 ≤ fl2.toInt ∧ zCond ft en.toInt (zAtom ft en.toInt 0) (zbg ft en.toInt tA.toInt) (.bad fl2.toInt))) (u.1) (u.2.1) (u.2.2)) (fun u : Int32 × Int32 × Int32 => (fun (at2 : Int32) (fl2 : Int32) (q : Int32) => [bMo g o a th hi ac tp (-1) en at2 fl2 6 iD iO tU fm fk fa fc ft ff fb fi]) (u.1) (u.2.1) (u.2.2)) ({ frames := 9, cells := 0, slots := 0, locals := 196 } : Room) below args s A) (F0 m 5 ls []) := by
      intro kf
      induction kf with
      | zero => intro x_48 x_49 x_50 i51 i52 i53 i54 i55 i56 i57 H locs ls hk; exact absurd hk (Nat.not_lt_zero _)
      | succ kf ih5_59 =>
        intro x_48 x_49 x_50 i51 i52 i53 i54 i55 i56 i57 H locs ls hk5_59 hP hD hS hl
        refine lv_aload_n hx hb dX12_every_5 rfl (lv_at hl 0 rfl) ?_
        refine va_get (D := g.1) (ci := 10) (v := .int x_50) (C := RX12) (T := TX12) (N := 20) hx hb hts izRX12 hown hK hP 0 rfl rfl 12 (by decide) (hts _ k820) (fun _ h9 => h9) rfl dX12_every_6 ?_
        refine lv_iconst (v := (-1)) hx hb dX12_every_9 (by decide) ?_
        refine lv_icmp_ne (tgt := 44) hx hb dX12_every_10 (by decide) (fun cb9 => ?_) (fun cb9 => ?_)
        · skip
          have c60 : ¬ x_50.toInt = (-1) := zne cb9 rfl (by decide)
          have n61 : 0 ≤ x_50.toInt := zN1 c60 i53 (by decide)
          refine lv_iload_n hx hb dX12_every_44 rfl (lv_at hl 1 rfl) ?_
          have hP : va_P g.1 vwCl (List.flatten [bMo g o a th hi ac tp (-1) en x_49 x_50 6 iD iO tU fm fk fa fc ft ff fb fi]) H := hP
          have hD : va_D A (List.flatten [bMo g o a th hi ac tp (-1) en x_49 x_50 6 iD iO tU fm fk fa fc ft ff fb fi]) := hD
          exact mret_z hx hb hr hlocks hS (Nat.le_of_ble_eq_true rfl) (Nat.le_of_ble_eq_true rfl) dX12_every_45 (x_49, x_50, x_48) rfl (by first | assumption | exact zb01 (by omega)) (show (0 ≤ x_49.toInt ∧ x_49.toInt ≤ en.toInt + 7 - 6) ∧ (tA.toInt ≤ x_49.toInt) ∧ (0 ≤ x_48.toInt ∧ x_48.toInt ≤ 1) ∧ ((-1) = x_50 ∧ (¬ zisW ft en.toInt (zbg ft en.toInt x_49.toInt) zwAnd ∧ ∀ r9, zCoT ft en.toInt (zAtom ft en.toInt 0) (zbg ft en.toInt x_49.toInt) r9 → zCond ft en.toInt (zAtom ft en.toInt 0) (zbg ft en.toInt tA.toInt) r9) ∨ 0 ≤ x_50.toInt ∧ zCond ft en.toInt (zAtom ft en.toInt 0) (zbg ft en.toInt tA.toInt) (.bad x_50.toInt)) from ⟨(by first | assumption | omega | exact Or.inl (by decide) | exact Or.inr (by omega)), (by first | assumption | omega | exact Or.inl (by decide) | exact Or.inr (by omega)), (by first | assumption | decide | omega), (Or.inr (i57.resolve_left (fun h9 => by have := h9.1; omega)))⟩) hP hD
        · skip
          have c62 : x_50.toInt = (-1) := zeq cb9 rfl (by decide)
          have n63 : x_50.toInt ≤ (-1) := Int.le_trans (Int.le_of_eq c62) (Int.le_refl _)
          have w64 : ∀ r9, zCoT ft en.toInt (zAtom ft en.toInt 0) (zbg ft en.toInt x_49.toInt) r9 → zCond ft en.toInt (zAtom ft en.toInt 0) (zbg ft en.toInt tA.toInt) r9 := (i57.resolve_right (fun h9 => by have := h9.1; omega)).2
          have w65 : x_50 = -1 := (zm1 (by omega)).symm
          subst w65
          refine lv_aload_n hx hb dX12_every_13 rfl (lv_at hl 0 rfl) ?_
          refine va_ldcS (q := g.2 100) hx hb hown (zra45 hT.2.1) dX12_every_14 ?_
          have hL6 : (6 : Int32).toInt = 6 := by decide
          refine mcallV' (g := g) (q0 := 0) (ci := 10) (As := [.ref (g.2 100)]) (rest := []) St hK hT hA hP hD hS hl.1 [0] [] rfl rfl rfl (m_hasF l g o a th hi ac tp en x_49 (-1) 6 iD iO tU fm fk fa fc ft ff fb fi (g.2 100) 45 zqa45 hen (by first | assumption | omega | decide | exact Or.inl (by decide) | exact Or.inr (by decide)) (by decide) rfl zla45 zna45 (zlitB zla45)) (cwV 1 hts (zgL (zl4 k899 k900 k901 k839) k889) rfl rfl rfl (by decide +kernel) ⟨Nat.le_of_ble_eq_true rfl, Nat.le_of_ble_eq_true rfl⟩) rfl rfl rfl rfl (Nat.le_of_ble_eq_true rfl) dX12_every_16 ⟨(Nat.le_of_ble_eq_true rfl), (Nat.le_of_ble_eq_true rfl)⟩ (fun u_ H locs hq68 hP hD hS => ?_)
          obtain ⟨at2_66, r_67⟩ := u_
          replace hq68 : (0 ≤ at2_66.toInt ∧ at2_66.toInt ≤ en.toInt + 7 - (6 : Int32).toInt) ∧ (x_49.toInt ≤ at2_66.toInt) ∧ (r_67 = 1 ∧ zisW ft en.toInt (zbg ft en.toInt x_49.toInt) zqa45.2.2.2 ∧ at2_66.toInt = znx ft en.toInt (zbg ft en.toInt x_49.toInt) ∧ x_49.toInt < at2_66.toInt ∧ at2_66.toInt ≤ en.toInt ∨ r_67 = 0 ∧ ¬ zisW ft en.toInt (zbg ft en.toInt x_49.toInt) zqa45.2.2.2 ∧ at2_66.toInt = zbg ft en.toInt x_49.toInt) := hq68
          have hP : va_P g.1 vwCl (List.flatten [bMo g o a th hi ac tp (-1) en at2_66 (-1) 6 iD iO tU fm fk fa fc ft ff fb fi]) H := hP
          have hD : va_D A (List.flatten [bMo g o a th hi ac tp (-1) en at2_66 (-1) 6 iD iO tU fm fk fa fc ft ff fb fi]) := hD
          refine W.widen (k := 0) (n := 0) (Nat.le_of_ble_eq_true rfl) (Nat.le_of_ble_eq_true rfl) ?_
          refine W.eq (g2 := F0 m 19 ls [.int r_67]) rfl ?_
          obtain ⟨hq68_0, hq68_1, hq68_2⟩ := hq68
          rcases hq68_2 with ⟨rfl, hq68_k, hq68_km⟩ | ⟨rfl, hq68_k, hq68_km⟩
          · skip
            refine lv_if_eq (tgt := 44) hx hb dX12_every_19 (by decide) (fun c69 => absurd c69 (by decide)) (fun _ => ?_)
            refine lv_aload_n hx hb dX12_every_22 rfl (lv_at hl 0 rfl) ?_
            refine mcallV' (g := g) (q0 := 0) (ci := 10) (As := []) (rest := []) St hK hT hA hP hD hS hl.1 [0] [] rfl rfl rfl (m_atom6F l g o a th hi ac tp en at2_66 iD iO tU fm fk fa fc ft ff fb fi hiD hiO hen (by first | assumption | omega | decide | exact Or.inl (by decide) | exact Or.inr (by decide)) hde) (cwV 0 hts (zgL (zl4 k951 k952 k953 k839) k962) rfl rfl rfl (by decide +kernel) ⟨Nat.le_of_ble_eq_true rfl, Nat.le_of_ble_eq_true rfl⟩) rfl rfl rfl rfl (Nat.le_of_ble_eq_true rfl) dX12_every_23 ⟨(Nat.le_of_ble_eq_true rfl), (Nat.le_of_ble_eq_true rfl)⟩ (fun u_ H locs hq73 hP hD hS => ?_)
            obtain ⟨at2_70, fl2_71, q_72⟩ := u_
            replace hq73 : (0 ≤ at2_70.toInt ∧ at2_70.toInt ≤ en.toInt + 7 - 6) ∧ (at2_66.toInt ≤ at2_70.toInt) ∧ (0 ≤ q_72.toInt ∧ q_72.toInt ≤ 1) ∧ ((-1) = fl2_71 ∧ zAtom ft en.toInt 0 (zbg ft en.toInt at2_66.toInt) (.ok (zbg ft en.toInt at2_70.toInt)) ∨ 0 ≤ fl2_71.toInt ∧ zAtom ft en.toInt 0 (zbg ft en.toInt at2_66.toInt) (.bad fl2_71.toInt)) := hq73
            have hP : va_P g.1 vwCl (List.flatten [bMo g o a th hi ac tp (-1) en at2_70 fl2_71 6 iD iO tU fm fk fa fc ft ff fb fi]) H := hP
            have hD : va_D A (List.flatten [bMo g o a th hi ac tp (-1) en at2_70 fl2_71 6 iD iO tU fm fk fa fc ft ff fb fi]) := hD
            refine W.widen (k := 0) (n := 0) (Nat.le_of_ble_eq_true rfl) (Nat.le_of_ble_eq_true rfl) ?_
            refine W.eq (g2 := F0 m 26 ls [.int q_72]) rfl ?_
            obtain ⟨hq73_0, hq73_1, hq73_2, hq73_3⟩ := hq73
            rcases hq73_3 with ⟨rfl, hq73_k⟩ | ⟨hq73_k, hq73_km⟩
            · skip
              refine lv_istore_n (lv' := [(2, .int q_72), (0, .ref o), (1, .int x_48)]) hx hb dX12_every_26 rfl hl (by decide) rfl (fun ls hl => ?_)
              refine lv_iload_n hx hb dX12_every_27 rfl (lv_at hl 2 rfl) ?_
              refine lv_if_eq (tgt := 39) hx hb dX12_every_28 (by decide) (fun cb9 => ?_) (fun cb9 => ?_)
              · skip
                have c74 : x_48.toInt = 0 := zeq cb9 rfl (by decide)
                have n75 : x_48.toInt ≤ 0 := Int.le_trans (Int.le_of_eq c74) (Int.le_refl _)
                refine lv_iconst (v := 0) hx hb dX12_every_39 (by decide) ?_
                refine lv_istore_n (lv' := [(1, .int 0), (2, .int q_72), (0, .ref o)]) hx hb dX12_every_40 rfl hl (by decide) rfl (fun ls hl => ?_)
                refine lv_goto (tgt := 5) hx hb dX12_every_41 (by decide) ?_
                have hl := lv_sub (l' := [(0, .ref o), (1, .int 0), (2, .int q_72)]) hl [2, 0, 1] rfl
                have hL0 : (0 : Int32).toInt = 0 := by decide
                have hLn1 : ((-1) : Int32).toInt = (-1) := by decide
                have hP : va_P g.1 vwCl (List.flatten [bMo g o a th hi ac tp (-1) en at2_70 (-1) 6 iD iO tU fm fk fa fc ft ff fb fi]) H := hP
                have hD : va_D A (List.flatten [bMo g o a th hi ac tp (-1) en at2_70 (-1) 6 iD iO tU fm fk fa fc ft ff fb fi]) := hD
                exact ih5_59 0 at2_70 (-1) (by decide) (by first | omega | assumption | decide) (by decide) (by first | omega | assumption | decide) (by first | omega | assumption | decide) (by first | omega | assumption | decide) (Or.inl ⟨by decide, fun r9 h9 => zCo_w w64 (Or.inl hq68_k) hq68_km.1 (zCo_t hq73_k h9)⟩) H _ ls (by omega)  hP hD hS (lv_sub hl [0, 1] rfl)
              · skip
                have c76 : ¬ x_48.toInt = 0 := zne cb9 rfl (by decide)
                have n77 : 1 ≤ x_48.toInt := zN1 c76 i51.1 (by decide)
                refine lv_iload_n hx hb dX12_every_31 rfl (lv_at hl 0 rfl) ?_
                refine lv_if_eq (tgt := 39) hx hb dX12_every_32 (by decide) (fun cb9 => ?_) (fun cb9 => ?_)
                · skip
                  have c78 : q_72.toInt = 0 := zeq cb9 rfl (by decide)
                  have n79 : q_72.toInt ≤ 0 := Int.le_trans (Int.le_of_eq c78) (Int.le_refl _)
                  refine lv_iconst (v := 0) hx hb dX12_every_39 (by decide) ?_
                  refine lv_istore_n (lv' := [(1, .int 0), (2, .int q_72), (0, .ref o)]) hx hb dX12_every_40 rfl hl (by decide) rfl (fun ls hl => ?_)
                  refine lv_goto (tgt := 5) hx hb dX12_every_41 (by decide) ?_
                  have hl := lv_sub (l' := [(0, .ref o), (1, .int 0), (2, .int q_72)]) hl [2, 0, 1] rfl
                  have hL0 : (0 : Int32).toInt = 0 := by decide
                  have hLn1 : ((-1) : Int32).toInt = (-1) := by decide
                  have hP : va_P g.1 vwCl (List.flatten [bMo g o a th hi ac tp (-1) en at2_70 (-1) 6 iD iO tU fm fk fa fc ft ff fb fi]) H := hP
                  have hD : va_D A (List.flatten [bMo g o a th hi ac tp (-1) en at2_70 (-1) 6 iD iO tU fm fk fa fc ft ff fb fi]) := hD
                  exact ih5_59 0 at2_70 (-1) (by decide) (by first | omega | assumption | decide) (by decide) (by first | omega | assumption | decide) (by first | omega | assumption | decide) (by first | omega | assumption | decide) (Or.inl ⟨by decide, fun r9 h9 => zCo_w w64 (Or.inl hq68_k) hq68_km.1 (zCo_t hq73_k h9)⟩) H _ ls (by omega)  hP hD hS (lv_sub hl [0, 1] rfl)
                · skip
                  have c80 : ¬ q_72.toInt = 0 := zne cb9 rfl (by decide)
                  have n81 : 1 ≤ q_72.toInt := zN1 c80 hq73_2.1 (by decide)
                  refine lv_iconst (v := 1) hx hb dX12_every_35 (by decide) ?_
                  refine lv_goto (tgt := 40) hx hb dX12_every_36 (by decide) ?_
                  refine lv_istore_n (lv' := [(1, .int 1), (2, .int q_72), (0, .ref o)]) hx hb dX12_every_40 rfl hl (by decide) rfl (fun ls hl => ?_)
                  refine lv_goto (tgt := 5) hx hb dX12_every_41 (by decide) ?_
                  have hl := lv_sub (l' := [(0, .ref o), (1, .int 1), (2, .int q_72)]) hl [2, 0, 1] rfl
                  have hL1 : (1 : Int32).toInt = 1 := by decide
                  have hLn1 : ((-1) : Int32).toInt = (-1) := by decide
                  have hP : va_P g.1 vwCl (List.flatten [bMo g o a th hi ac tp (-1) en at2_70 (-1) 6 iD iO tU fm fk fa fc ft ff fb fi]) H := hP
                  have hD : va_D A (List.flatten [bMo g o a th hi ac tp (-1) en at2_70 (-1) 6 iD iO tU fm fk fa fc ft ff fb fi]) := hD
                  exact ih5_59 1 at2_70 (-1) (by decide) (by first | omega | assumption | decide) (by decide) (by first | omega | assumption | decide) (by first | omega | assumption | decide) (by first | omega | assumption | decide) (Or.inl ⟨by decide, fun r9 h9 => zCo_w w64 (Or.inl hq68_k) hq68_km.1 (zCo_t hq73_k h9)⟩) H _ ls (by omega)  hP hD hS (lv_sub hl [0, 1] rfl)
            · skip
              refine lv_istore_n (lv' := [(2, .int q_72), (0, .ref o), (1, .int x_48)]) hx hb dX12_every_26 rfl hl (by decide) rfl (fun ls hl => ?_)
              refine lv_iload_n hx hb dX12_every_27 rfl (lv_at hl 2 rfl) ?_
              refine lv_if_eq (tgt := 39) hx hb dX12_every_28 (by decide) (fun cb9 => ?_) (fun cb9 => ?_)
              · skip
                have c82 : x_48.toInt = 0 := zeq cb9 rfl (by decide)
                have n83 : x_48.toInt ≤ 0 := Int.le_trans (Int.le_of_eq c82) (Int.le_refl _)
                refine lv_iconst (v := 0) hx hb dX12_every_39 (by decide) ?_
                refine lv_istore_n (lv' := [(1, .int 0), (2, .int q_72), (0, .ref o)]) hx hb dX12_every_40 rfl hl (by decide) rfl (fun ls hl => ?_)
                refine lv_goto (tgt := 5) hx hb dX12_every_41 (by decide) ?_
                have hl := lv_sub (l' := [(0, .ref o), (1, .int 0), (2, .int q_72)]) hl [2, 0, 1] rfl
                have hL0 : (0 : Int32).toInt = 0 := by decide
                have hP : va_P g.1 vwCl (List.flatten [bMo g o a th hi ac tp (-1) en at2_70 fl2_71 6 iD iO tU fm fk fa fc ft ff fb fi]) H := hP
                have hD : va_D A (List.flatten [bMo g o a th hi ac tp (-1) en at2_70 fl2_71 6 iD iO tU fm fk fa fc ft ff fb fi]) := hD
                exact ih5_59 0 at2_70 fl2_71 (by decide) (by first | omega | assumption | decide) (Int.le_trans (by decide) hq73_k) (by first | omega | assumption | decide) (by first | omega | assumption | decide) (by first | omega | assumption | decide) (Or.inr ⟨hq73_k, zCo_w w64 (Or.inl hq68_k) hq68_km.1 (.wrong hq73_km)⟩) H _ ls (by omega)  hP hD hS (lv_sub hl [0, 1] rfl)
              · skip
                have c84 : ¬ x_48.toInt = 0 := zne cb9 rfl (by decide)
                have n85 : 1 ≤ x_48.toInt := zN1 c84 i51.1 (by decide)
                refine lv_iload_n hx hb dX12_every_31 rfl (lv_at hl 0 rfl) ?_
                refine lv_if_eq (tgt := 39) hx hb dX12_every_32 (by decide) (fun cb9 => ?_) (fun cb9 => ?_)
                · skip
                  have c86 : q_72.toInt = 0 := zeq cb9 rfl (by decide)
                  have n87 : q_72.toInt ≤ 0 := Int.le_trans (Int.le_of_eq c86) (Int.le_refl _)
                  refine lv_iconst (v := 0) hx hb dX12_every_39 (by decide) ?_
                  refine lv_istore_n (lv' := [(1, .int 0), (2, .int q_72), (0, .ref o)]) hx hb dX12_every_40 rfl hl (by decide) rfl (fun ls hl => ?_)
                  refine lv_goto (tgt := 5) hx hb dX12_every_41 (by decide) ?_
                  have hl := lv_sub (l' := [(0, .ref o), (1, .int 0), (2, .int q_72)]) hl [2, 0, 1] rfl
                  have hL0 : (0 : Int32).toInt = 0 := by decide
                  have hP : va_P g.1 vwCl (List.flatten [bMo g o a th hi ac tp (-1) en at2_70 fl2_71 6 iD iO tU fm fk fa fc ft ff fb fi]) H := hP
                  have hD : va_D A (List.flatten [bMo g o a th hi ac tp (-1) en at2_70 fl2_71 6 iD iO tU fm fk fa fc ft ff fb fi]) := hD
                  exact ih5_59 0 at2_70 fl2_71 (by decide) (by first | omega | assumption | decide) (Int.le_trans (by decide) hq73_k) (by first | omega | assumption | decide) (by first | omega | assumption | decide) (by first | omega | assumption | decide) (Or.inr ⟨hq73_k, zCo_w w64 (Or.inl hq68_k) hq68_km.1 (.wrong hq73_km)⟩) H _ ls (by omega)  hP hD hS (lv_sub hl [0, 1] rfl)
                · skip
                  have c88 : ¬ q_72.toInt = 0 := zne cb9 rfl (by decide)
                  have n89 : 1 ≤ q_72.toInt := zN1 c88 hq73_2.1 (by decide)
                  refine lv_iconst (v := 1) hx hb dX12_every_35 (by decide) ?_
                  refine lv_goto (tgt := 40) hx hb dX12_every_36 (by decide) ?_
                  refine lv_istore_n (lv' := [(1, .int 1), (2, .int q_72), (0, .ref o)]) hx hb dX12_every_40 rfl hl (by decide) rfl (fun ls hl => ?_)
                  refine lv_goto (tgt := 5) hx hb dX12_every_41 (by decide) ?_
                  have hl := lv_sub (l' := [(0, .ref o), (1, .int 1), (2, .int q_72)]) hl [2, 0, 1] rfl
                  have hL1 : (1 : Int32).toInt = 1 := by decide
                  have hP : va_P g.1 vwCl (List.flatten [bMo g o a th hi ac tp (-1) en at2_70 fl2_71 6 iD iO tU fm fk fa fc ft ff fb fi]) H := hP
                  have hD : va_D A (List.flatten [bMo g o a th hi ac tp (-1) en at2_70 fl2_71 6 iD iO tU fm fk fa fc ft ff fb fi]) := hD
                  exact ih5_59 1 at2_70 fl2_71 (by decide) (by first | omega | assumption | decide) (Int.le_trans (by decide) hq73_k) (by first | omega | assumption | decide) (by first | omega | assumption | decide) (by first | omega | assumption | decide) (Or.inr ⟨hq73_k, zCo_w w64 (Or.inl hq68_k) hq68_km.1 (.wrong hq73_km)⟩) H _ ls (by omega)  hP hD hS (lv_sub hl [0, 1] rfl)
          · skip
            refine lv_if_eq (tgt := 44) hx hb dX12_every_19 (by decide) (fun _ => ?_) (fun c90 => absurd (by decide) c90)
            refine lv_iload_n hx hb dX12_every_44 rfl (lv_at hl 1 rfl) ?_
            have hP : va_P g.1 vwCl (List.flatten [bMo g o a th hi ac tp (-1) en at2_66 (-1) 6 iD iO tU fm fk fa fc ft ff fb fi]) H := hP
            have hD : va_D A (List.flatten [bMo g o a th hi ac tp (-1) en at2_66 (-1) 6 iD iO tU fm fk fa fc ft ff fb fi]) := hD
            exact mret_z hx hb hr hlocks hS (Nat.le_of_ble_eq_true rfl) (Nat.le_of_ble_eq_true rfl) dX12_every_45 (at2_66, -1, x_48) rfl (by first | assumption | exact zb01 (by omega)) (show (0 ≤ at2_66.toInt ∧ at2_66.toInt ≤ en.toInt + 7 - 6) ∧ (tA.toInt ≤ at2_66.toInt) ∧ (0 ≤ x_48.toInt ∧ x_48.toInt ≤ 1) ∧ ((-1) = (-1) ∧ (¬ zisW ft en.toInt (zbg ft en.toInt at2_66.toInt) zwAnd ∧ ∀ r9, zCoT ft en.toInt (zAtom ft en.toInt 0) (zbg ft en.toInt at2_66.toInt) r9 → zCond ft en.toInt (zAtom ft en.toInt 0) (zbg ft en.toInt tA.toInt) r9) ∨ 0 ≤ ((-1) : Int32).toInt ∧ zCond ft en.toInt (zAtom ft en.toInt 0) (zbg ft en.toInt tA.toInt) (.bad ((-1) : Int32).toInt)) from ⟨(by first | assumption | omega | exact Or.inl (by decide) | exact Or.inr (by omega)), (by first | assumption | omega | exact Or.inl (by decide) | exact Or.inr (by omega)), (by first | assumption | decide | omega), (Or.inl ⟨rfl, zEv_end w64 hq68_k hq68_km⟩)⟩) hP hD
    have hP : va_P g.1 vwCl (List.flatten [bMo g o a th hi ac tp (-1) en at2_1 fl2_2 6 iD iO tU fm fk fa fc ft ff fb fi]) H := hP
    have hD : va_D A (List.flatten [bMo g o a th hi ac tp (-1) en at2_1 fl2_2 6 iD iO tU fm fk fa fc ft ff fb fi]) := hD
    exact LP5_58 _ q_3 at2_1 fl2_2 ⟨hq4_2.1, hq4_2.2⟩ (by first | omega | assumption | decide) (Int.le_trans (by decide) hq4_k) hq4_1 (by first | omega | assumption | decide) (by first | omega | assumption | decide) (Or.inr ⟨hq4_k, .wrong hq4_km⟩) H _ ls (Nat.lt_succ_self _)  hP hD hS (lv_sub hl [0, 1] rfl)
