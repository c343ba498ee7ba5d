/-! the model's reader of the town -/
theorem zkp3 {f : Nat → Int32} {x v : Int32} (h : 11 ≤ x.toInt) : (upd f x.toNatClampNeg v 0).toInt = (f 0).toInt ∧ (upd f x.toNatClampNeg v 3).toInt = (f 3).toInt ∧ (upd f x.toNatClampNeg v 4).toInt = (f 4).toInt := by
  rw [zcl]; unfold upd
  refine ⟨?_, ?_, ?_⟩ <;> rw [if_neg (by omega)]
theorem zkp5 {f : Nat → Int32} {x v : Int32} (h : 5 ≤ x.toInt) : (upd f x.toNatClampNeg v 0).toInt = (f 0).toInt ∧ (upd f x.toNatClampNeg v 3).toInt = (f 3).toInt ∧ (upd f x.toNatClampNeg v 4).toInt = (f 4).toInt := by
  rw [zcl]; unfold upd
  refine ⟨?_, ?_, ?_⟩ <;> rw [if_neg (by omega)]
theorem zNt_v {f : Nat → Int32} {n b a lo hi : Int} {v : Int32} (e : a = znx f n b) (h : zNu f n (zbg f n a) lo hi v) : zNu f n (znt f n b) lo hi v := by subst e; exact h
theorem zNt_n {f : Nat → Int32} {n b a lo hi : Int} (e : a = znx f n b) (h : ¬ ∃ v, zNu f n (zbg f n a) lo hi v) : ¬ ∃ v, zNu f n (znt f n b) lo hi v := by subst e; exact h
theorem zNt_x {f : Nat → Int32} {n b a a2 : Int} (e : a = znx f n b) (h : a2 = znx f n (zbg f n a)) : a2 = znx f n (znt f n b) := by subst e; exact h
theorem zNt_q {f : Nat → Int32} {n b a q : Int} (e : a = znx f n b) (h : q = zbg f n a) : q = znt f n b := by subst e; exact h
theorem zWt_y {f : Nat → Int32} {n b a : Int} {bs : List Int32} (e : a = znx f n b) (h : zisW f n (zbg f n a) bs) : zisW f n (znt f n b) bs := by subst e; exact h
theorem zWt_n {f : Nat → Int32} {n b a : Int} {bs : List Int32} (e : a = znx f n b) (h : ¬ zisW f n (zbg f n a) bs) : ¬ zisW f n (znt f n b) bs := by subst e; exact h
theorem zNN_bM {f : Nat → Int32} {n lo hi lo' hi' b q : Int} {K : Int → Int → zTs → Prop} (e1 : lo' = lo) (e2 : hi' = hi) (h : ¬ ∃ v, zNu f n b lo' hi' v) (eq : q = b) : zNN f n lo hi b K (.bad q) := zNN_n e1 e2 eq h
theorem zNN_yM {f : Nat → Int32} {n lo hi lo' hi' b : Int} {K : Int → Int → zTs → Prop} {r : zTs} {v : Int32} (e1 : lo' = lo) (e2 : hi' = hi) (h : zNu f n b lo' hi' v) (k : K v.toInt (znt f n b) r) : zNN f n lo hi b K r := by
  subst e1; subst e2; exact Or.inl ⟨v, h, k⟩
theorem zW1_yM {f : Nat → Int32} {n b : Int} {bs : List Int32} {K : Int → zTs → Prop} {r : zTs} (h : zisW f n b bs) (k : K (znt f n b) r) : zW1 f n bs b K r := Or.inl ⟨h, k⟩
theorem zKp3_yM {f : Nat → Int32} {n v u b a p : Int} (e : a = znx f n b) (h : zisW f n (zbg f n a) zwDry) (e2 : p = znx f n (zbg f n a)) : zKp3 f n v u (znt f n b) (.ok (zbg f n p) (0, v, u, 1)) := by
  subst e; subst e2; exact Or.inl ⟨h, rfl⟩
theorem zKp3_nM {f : Nat → Int32} {n v u b a p : Int} (e : a = znx f n b) (h : ¬ zisW f n (zbg f n a) zwDry) (e2 : p = zbg f n a) : zKp3 f n v u (znt f n b) (.ok (zbg f n p) (0, v, u, 0)) := by
  subst e; rw [e2, zbg_idem]; exact Or.inr ⟨h, rfl⟩
theorem zNt_b {f : Nat → Int32} {n b a : Int} (e : a = znx f n b) : znt f n b = zbg f n a := by subst e; rfl
theorem zNu_b {f : Nat → Int32} {n b b' lo hi : Int} {v : Int32} (e : b = b') (h : zNu f n b' lo hi v) : zNu f n b lo hi v := by subst e; exact h
theorem zNn_b {f : Nat → Int32} {n b b' lo hi : Int} (e : b = b') (h : ¬ ∃ v, zNu f n b' lo hi v) : ¬ ∃ v, zNu f n b lo hi v := by subst e; exact h
theorem zW_b {f : Nat → Int32} {n b b' : Int} {bs : List Int32} (e : b = b') (h : zisW f n b' bs) : zisW f n b bs := by subst e; exact h
theorem zWn_b {f : Nat → Int32} {n b b' : Int} {bs : List Int32} (e : b = b') (h : ¬ zisW f n b' bs) : ¬ zisW f n b bs := by subst e; exact h
theorem zTP_iM {f : Nat → Int32} {n pe b : Int} {r : zTs} (h : pe < 8) (k : zNN f n 0 99 (znt f n b) (zKp1 f n) r) : zTPerson f n pe b r := Or.inr ⟨h, k⟩
theorem zTW_iM {f : Nat → Int32} {n wo b : Int} {r : zTs} (h : wo < 6) (k : zNN f n 1 99 (znt f n b) (zKw1 f n) r) : zTWork f n wo b r := Or.inr ⟨h, k⟩
/-- figures from b on: so many -/
theorem zdg_n {f : Nat → Int32} {n pe x b c q : Int} (h0 : 0 ≤ b) (hc : 0 ≤ c) (hz : zw zcD f n.toNat b.toNat = (b + c).toNat) (h : ¬ c = pe) (eq : q = b) : zKt2 f n pe x b (.bad q) := by
  rw [eq]
  refine Or.inr ⟨fun o => ?_, rfl⟩
  have := znx_d h0 o.1
  rw [hz] at this
  omega
theorem zdg_y {f : Nat → Int32} {n pe x b c a : Int} (h0 : 0 ≤ b) (hc : 1 ≤ c) (hz : zw zcD f n.toNat b.toNat = (b + c).toNat) (h : c = pe) (ea : a = b + c) : zKt2 f n pe x b (.ok (zbg f n a) (2, x, b, 0)) := by
  have hb : b < n ∧ zcD (f b.toNat).toInt = true := by
    by_cases q : b.toNat < n.toNat ∧ zcD (f b.toNat).toInt = true
    · exact ⟨by omega, q.2⟩
    · rw [zw_n q] at hz; omega
  have h' : ¬ n ≤ b := by omega
  have hl' : ¬ zcL (f b.toNat).toInt = true := by rw [zcDL hb.2]; decide
  have hkd : zkd f n b = 2 := by
    unfold zkd
    rw [if_neg h', if_neg hl', if_pos hb.2]
  have hnx : znx f n b = b + c := by rw [znx_d h0 hkd, hz]; omega
  refine Or.inl ⟨⟨hkd, by omega⟩, ?_⟩
  unfold znt; rw [hnx, ← ea]
theorem zdg_0 {f : Nat → Int32} {n B c : Int} (e : c = 0) : zw zcD f n.toNat B.toNat = zw zcD f n.toNat (B + c).toNat := by subst e; rw [Int.add_zero]
theorem zdg_s {f : Nat → Int32} {n B c c' : Int} (x : Int32) (h : zw zcD f n.toNat B.toNat = zw zcD f n.toNat (B + c).toNat) (hx : x.toInt = B + c) (h0 : 0 ≤ x.toInt) (hl : x.toInt < n) (hd : zcD (f x.toNatClampNeg).toInt = true) (e : c' = c + 1) : zw zcD f n.toNat B.toNat = zw zcD f n.toNat (B + c').toNat := by
  rw [zcl] at hd
  rw [h, show (B + c).toNat = x.toInt.toNat by omega, zw_s (by omega) hd, show x.toInt.toNat + 1 = (B + c').toNat by omega]
theorem zdg_e1 {f : Nat → Int32} {n B c : Int} (h : zw zcD f n.toNat B.toNat = zw zcD f n.toNat (B + c).toNat) (hl : n ≤ B + c) (h0 : 0 ≤ B + c) : zw zcD f n.toNat B.toNat = (B + c).toNat := h.trans (zw_n (fun q => absurd q.1 (by omega)))
theorem zdg_e2 {f : Nat → Int32} {n B c : Int} (x : Int32) (h : zw zcD f n.toNat B.toNat = zw zcD f n.toNat (B + c).toNat) (hx : x.toInt = B + c) (hd : zcD (f x.toNatClampNeg).toInt = false) : zw zcD f n.toNat B.toNat = (B + c).toNat := by
  rw [zcl] at hd
  rw [h, show (B + c).toNat = x.toInt.toNat by omega]
  exact zw_n (fun q => by rw [hd] at q; exact absurd q.2 (by decide))
theorem zKt2_b {f : Nat → Int32} {n pe x b b' a : Int} (e : b' = b) (h : zKt2 f n pe x b (.ok a (2, x, b, 0))) : zKt2 f n pe x b' (.ok a (2, x, b, 0)) := by subst e; exact h
theorem zKt2_bn {f : Nat → Int32} {n pe x b b' q : Int} (e : b' = b) (h : zKt2 f n pe x b (.bad q)) : zKt2 f n pe x b' (.bad q) := by subst e; exact h
theorem zTP_b {f : Nat → Int32} {n pe b b' : Int} {r : zTs} (e : b = b') (h : zTPerson f n pe b r) : zTPerson f n pe b' r := by subst e; exact h
theorem zTW_b {f : Nat → Int32} {n wo b b' : Int} {r : zTs} (e : b = b') (h : zTWork f n wo b r) : zTWork f n wo b' r := by subst e; exact h
theorem zBat {f : Nat → Int32} {n q t b : Int} (e : b = zbg f n t) (h : q = znx f n (zbg f n t)) : q = znx f n b := by rw [e]; exact h
theorem zTO_o {f : Nat → Int32} {n lo hi lo' hi' a p pe wo pe2 wo2 k : Int} (e1 : lo' = lo) (e2 : hi' = hi) (h : ∃ v, zNu f n (zbg f n a) lo' hi' v) (e : p = znx f n (zbg f n a)) (hk0 : ¬ k = 0) (hk1 : ¬ k = 1) (hp : pe2 = pe) (hw : wo2 = wo) : zTO (fun r => zNN f n lo hi (zbg f n a) (zKo k) r) (zbg f n p) pe pe2 wo wo2 := by
  obtain ⟨v, h⟩ := h
  subst e1; subst e2
  exact ⟨(k, v.toInt, 0, 0), Or.inl ⟨v, h, congrArg (fun q9 => zTs.ok q9 _) (zNt_b e).symm⟩, zcp_n hk0 hp, zcw_n hk1 hw⟩
theorem zTO_s {f : Nat → Int32} {n hi lo' hi' l2 h2' a a1 p pe wo pe2 wo2 : Int} {x : Int32} (e1 : lo' = 0) (e2 : hi' = hi - 1) (h1 : zNu f n (zbg f n a) lo' hi' x) (m1 : a1 = znx f n (zbg f n a)) (e3 : l2 = 0) (e4 : h2' = 99) (h2 : ∃ v, zNu f n (zbg f n a1) l2 h2' v) (m2 : p = znx f n (zbg f n a1)) (hp : pe2 = pe) (hw : wo2 = wo) : zTO (zKsh f n hi (zbg f n a)) (zbg f n p) pe pe2 wo wo2 := by
  obtain ⟨v, h2⟩ := h2
  subst e1; subst e2; subst e3; subst e4
  refine ⟨(3, x.toInt, v.toInt, 0), Or.inl ⟨x, h1, Or.inl ⟨v, zNu_b (zNt_b m1) h2, ?_⟩⟩, zcp_n (by decide) hp, zcw_n (by decide) hw⟩
  exact congrArg (fun q9 => zTs.ok q9 _) (zNt_b (m2.trans (congrArg (znx f n) (zNt_b m1).symm))).symm
theorem zTL_mM {f : Nat → Int32} {n pe wo b a : Int} {r : zTs} (k : Nat) (hk : k + 2 < 8) (h : zisW f n b (zwT (k + 2))) (e : a = znx f n b) (t : zTX f n pe (k + 2) (zbg f n a) r) : zTLine f n pe wo b r := by
  subst e; exact Or.inl ⟨k + 2, hk, h, t⟩
/-! the lines of the town: what holds between two of them -/
theorem zNN_en {f : Nat → Int32} {n lo hi b q : Int} {c : zCm} {K : Int → Int → zTs → Prop} {P : Prop} (h0 : 0 ≤ b) (D : ∀ v b2, 0 ≤ b2 → b2 ≤ n → K v b2 (.ok q c) → P) (h : zNN f n lo hi b K (.ok q c)) : P := by
  rcases h with ⟨v, a, k⟩ | ⟨_, e⟩
  · exact D _ _ (zbg_0 _ _ _) (zMv_le h0 (zNu_z a) rfl) k
  · exact zTs.ob e
theorem zW1_en {f : Nat → Int32} {n b q : Int} {bs : List Int32} {c : zCm} {K : Int → zTs → Prop} {P : Prop} (h0 : 0 ≤ b) (D : ∀ b2, 0 ≤ b2 → b2 ≤ n → K b2 (.ok q c) → P) (h : zW1 f n bs b K (.ok q c)) : P := by
  rcases h with ⟨a, k⟩ | ⟨_, e⟩
  · exact D _ (zbg_0 _ _ _) (zMv_le h0 (zisW_z a) rfl) k
  · exact zTs.ob e
theorem zKo_en {f : Nat → Int32} {n lo hi k b q : Int} {c : zCm} (h0 : 0 ≤ b) (h : zNN f n lo hi b (zKo k) (.ok q c)) : q ≤ n := by
  refine zNN_en (K := zKo k) h0 (fun v b2 h1 h2 k => ?_) h
  have e := (zTs.okj k).1
  omega
theorem zTLine_en {f : Nat → Int32} {n pe wo b q : Int} {c : zCm} (h0 : 0 ≤ b) (h : zTLine f n pe wo b (.ok q c)) : q ≤ n := by
  rcases h with ⟨k, hk, hw, t⟩ | ⟨_, e⟩
  · have hb : 0 ≤ znt f n b := zbg_0 _ _ _
    rcases (show k = 0 ∨ k = 1 ∨ k = 2 ∨ k = 3 ∨ k = 4 ∨ k = 5 ∨ k = 6 ∨ k = 7 by omega) with e | e | e | e | e | e | e | e <;> subst e
    · rcases (show zTPerson f n pe b (.ok q c) from t) with ⟨_, e⟩ | ⟨_, t⟩
      · exact zTs.ob e
      · refine zNN_en (K := zKp1 f n) hb (fun v b2 h1 h2 k => zW1_en (bs := zwPurse) (K := zKp2 f n v) h1 (fun b3 h3 h4 k => zNN_en (lo := 0) (hi := 999) (K := zKp3 f n v) h3 (fun u b4 h5 h6 k => ?_) k) k) t
        rcases k with ⟨d, e⟩ | ⟨_, e⟩
        · have l : znt f n b4 ≤ n := zMv_le h5 (zisW_z d) rfl
          have e := (zTs.okj e).1
          omega
        · have e := (zTs.okj e).1
          omega
    · rcases (show zTWork f n wo b (.ok q c) from t) with ⟨_, e⟩ | ⟨_, t⟩
      · exact zTs.ob e
      · refine zNN_en (K := zKw1 f n) hb (fun v b2 h1 h2 k => zW1_en (bs := zwNeed) (K := zKw2 f n v) h1 (fun b3 h3 h4 k => zNN_en (lo := 0) (hi := 799) (K := zKw3 f n v) h3 (fun u b4 h5 h6 k => zW1_en (bs := zwGain) (K := zKw4 f n v u) h5 (fun b5 h7 h8 k => zNN_en (lo := 0) (hi := 20) (K := zKw5 v u) h7 (fun g b6 h9 h10 k => ?_) k) k) k) k) t
        have e := (zTs.okj k).1
        omega
    · refine zNN_en (K := zKt2 f n pe) hb (fun v b2 h1 h2 k => ?_) (show zNN f n 0 (pe - 1) (znt f n b) (zKt2 f n pe) (.ok q c) from t)
      rcases k with ⟨d, e⟩ | ⟨_, e⟩
      · have l : znt f n b2 ≤ n := zMv_le h1 (fun o => absurd (d.1.symm.trans o) (by decide)) rfl
        have e := (zTs.okj e).1
        omega
      · exact zTs.ob e
    · refine zNN_en (K := zKs1 f n) hb (fun v b2 h1 h2 k => zNN_en (lo := 0) (hi := 99) (K := zKs2 v) h1 (fun u b3 h3 h4 k => ?_) k) (show zNN f n 0 (pe - 1) (znt f n b) (zKs1 f n) (.ok q c) from t)
      have e := (zTs.okj k).1
      omega
    · exact zKo_en hb (show zNN f n 0 999 (znt f n b) (zKo 4) (.ok q c) from t)
    · exact zKo_en hb (show zNN f n 1 30 (znt f n b) (zKo 5) (.ok q c) from t)
    · exact zKo_en hb (show zNN f n 0 100 (znt f n b) (zKo 6) (.ok q c) from t)
    · exact zKo_en hb (show zNN f n 0 999 (znt f n b) (zKo 7) (.ok q c) from t)
  · exact zTs.ob e
theorem zTO_en {f : Nat → Int32} {n p w b q p' w' : Int} (h0 : 0 ≤ b) (h : zTO (zTLine f n p w b) q p p' w w') : q ≤ n := by
  obtain ⟨c, hc, _⟩ := h
  exact zTLine_en h0 hc
def zTdJ (f : Nat → Int32) (n t P W c a p w : Int) : Prop := ∀ r9, zTLs f n (14 - c).toNat p w (zbg f n a) r9 → zTLs f n 14 P W (zbg f n t) r9
def zTd (f : Nat → Int32) (n t P W g fl c a p w : Int) : Prop :=
  (g = 1 ∧ fl = -1 ∧ 0 ≤ c ∧ c ≤ 14 ∧ ¬ n ≤ zbg f n t ∧ zTdJ f n t P W c a p w) ∨
  (g = 0 ∧ fl = -1 ∧ ((c = 0 ∧ n ≤ zbg f n t ∧ p = P ∧ w = W) ∨ (1 ≤ c ∧ c ≤ 14 ∧ ¬ n ≤ zbg f n t ∧ zTLs f n 14 P W (zbg f n t) (.ok (14 - c) p w)))) ∨
  (0 ≤ fl ∧ ¬ n ≤ zbg f n t ∧ zTLs f n 14 P W (zbg f n t) (.bad fl))
theorem zTd_i1 {f : Nat → Int32} {n t P W g fl c a p w : Int} (hg : g = 1) (hf : fl = -1) (hc : c = 0) (sk : zSk f n t a) (h : a < n) (hp : p = P) (hw : w = W) : zTd f n t P W g fl c a p w := by
  have e : zbg f n t = a := zbg_sk sk
  subst hp; subst hw
  refine Or.inl ⟨hg, hf, by omega, by omega, by omega, fun r9 h9 => ?_⟩
  rw [zbg_fx sk, ← e, show (14 - c).toNat = 14 by omega] at h9; exact h9
theorem zTd_i0 {f : Nat → Int32} {n t P W g fl c a p w : Int} (hg : g = 0) (hf : fl = -1) (hc : c = 0) (sk : zSk f n t a) (h : n ≤ a) (hp : p = P) (hw : w = W) : zTd f n t P W g fl c a p w := by
  have e : zbg f n t = a := zbg_sk sk
  exact Or.inr (Or.inl ⟨hg, hf, Or.inl ⟨hc, by omega, hp, hw⟩⟩)
theorem zTd_A {f : Nat → Int32} {n t P W g fl c a p w : Int} (h : zTd f n t P W g fl c a p w) (hg : ¬ g = 0) (hf : fl = -1) : (0 ≤ c ∧ c ≤ 14) ∧ ¬ n ≤ zbg f n t ∧ zTdJ f n t P W c a p w := by
  rcases h with ⟨_, _, h0, h1, h2, h3⟩ | ⟨h, _⟩ | ⟨h, _⟩
  · exact ⟨⟨h0, h1⟩, h2, h3⟩
  · exact absurd h hg
  · exact absurd h (by omega)
theorem zTd_a {f : Nat → Int32} {n t P W c a p w b1 g' fl' c' a' p' w' : Int} (hc : c = 14) (N : ¬ n ≤ zbg f n t) (J : zTdJ f n t P W c a p w) (sk : zSk f n a b1) (hf : fl' = b1) : zTd f n t P W g' fl' c' a' p' w' := by
  have e : zbg f n a = b1 := zbg_sk sk
  have h0 := zbg_0 f n a
  refine Or.inr (Or.inr ⟨by omega, N, ?_⟩)
  rw [hf, ← e]; exact J _ (zTl_none (by omega) rfl)
theorem zTd_b {f : Nat → Int32} {n t P W c a p w b1 g' fl' c' a' p' w' : Int} (h14 : ¬ c = 14) (B : 0 ≤ c ∧ c ≤ 14) (N : ¬ n ≤ zbg f n t) (J : zTdJ f n t P W c a p w) (sk : zSk f n a b1) (hl : zTLine f n p w (zbg f n b1) (.bad fl')) (h0 : 0 ≤ fl') : zTd f n t P W g' fl' c' a' p' w' := by
  have e : zbg f n a = b1 := zbg_sk sk
  rw [zbg_fx sk, ← e] at hl
  exact Or.inr (Or.inr ⟨h0, N, J _ (zTl_wrong (by omega) hl)⟩)
theorem zTd_c {f : Nat → Int32} {n t P W c a p w b1 a2 b2 g' fl' c' a' p' w' : Int} (h14 : ¬ c = 14) (B : 0 ≤ c ∧ c ≤ 14) (N : ¬ n ≤ zbg f n t) (J : zTdJ f n t P W c a p w) (sk : zSk f n a b1) (hl : zTO (zTLine f n p w (zbg f n b1)) (zbg f n a2) p p' w w') (sk2 : zSk f n a2 b2) (he : b2 = n) (hg : g' = 0) (hf : fl' = -1) (hc : c' = c + 1) : zTd f n t P W g' fl' c' a' p' w' := by
  have e : zbg f n a = b1 := zbg_sk sk
  have e2 : zbg f n a2 = b2 := zbg_sk sk2
  rw [zbg_fx sk, ← e] at hl
  exact Or.inr (Or.inl ⟨hg, hf, Or.inr ⟨by omega, by omega, N, J _ (zTl_last (by omega) hl (by omega) (by omega))⟩⟩)
theorem zTd_d {f : Nat → Int32} {n t P W c a p w b1 a2 b2 b3 k g' fl' c' a' p' w' : Int} (h14 : ¬ c = 14) (B : 0 ≤ c ∧ c ≤ 14) (N : ¬ n ≤ zbg f n t) (J : zTdJ f n t P W c a p w) (sk : zSk f n a b1) (hl : zTO (zTLine f n p w (zbg f n b1)) (zbg f n a2) p p' w w') (sk2 : zSk f n a2 b2) (ne : ¬ b2 = n) (sk3 : zSk f n b2 b3) (hs : zisS f n b3 k) (hk : k = 59) (hg : g' = 1) (hf : fl' = -1) (hc : c' = c + 1) (ha : a' = b3 + 1) : zTd f n t P W g' fl' c' a' p' w' := by
  subst hk
  have e : zbg f n a = b1 := zbg_sk sk
  have e2 : zbg f n a2 = b2 := zbg_sk sk2
  have e3 : zbg f n b2 = b3 := zbg_sk sk3
  have e4 : zbg f n b2 = b2 := zbg_fx sk2
  rw [zbg_fx sk, ← e] at hl
  have le := zTO_en (zbg_0 f n a) hl
  have e5 : b3 = zbg f n a2 := by omega
  rw [e5] at hs ha
  exact Or.inl ⟨hg, hf, by omega, by omega, N, fun r9 h9 => J _ (zTl_more (m' := (14 - c').toNat) (by omega) hl (by omega) hs (zMvb (by rw [zisS_nx hs, ha])) h9)⟩
theorem zTd_e {f : Nat → Int32} {n t P W c a p w b1 a2 b2 b3 k g' fl' c' a' p' w' : Int} (h14 : ¬ c = 14) (B : 0 ≤ c ∧ c ≤ 14) (N : ¬ n ≤ zbg f n t) (J : zTdJ f n t P W c a p w) (sk : zSk f n a b1) (hl : zTO (zTLine f n p w (zbg f n b1)) (zbg f n a2) p p' w w') (sk2 : zSk f n a2 b2) (ne : ¬ b2 = n) (sk3 : zSk f n b2 b3) (hs : ¬ zisS f n b3 k) (hk : k = 59) (hf : fl' = b3) : zTd f n t P W g' fl' c' a' p' w' := by
  subst hk
  have e : zbg f n a = b1 := zbg_sk sk
  have e2 : zbg f n a2 = b2 := zbg_sk sk2
  have e3 : zbg f n b2 = b3 := zbg_sk sk3
  have e4 : zbg f n b2 = b2 := zbg_fx sk2
  rw [zbg_fx sk, ← e] at hl
  have le := zTO_en (zbg_0 f n a) hl
  have e5 : b3 = zbg f n a2 := by omega
  rw [e5] at hs hf
  have h0 := zbg_0 f n a2
  refine Or.inr (Or.inr ⟨by omega, N, ?_⟩)
  rw [hf]; exact J _ (zTl_nosep (by omega) hl (by omega) hs rfl)
def zTwR (f : Nat → Int32) (n t P W p w : Int) : Prop := (n ≤ zbg f n t ∧ p = P ∧ w = W) ∨ (¬ n ≤ zbg f n t ∧ ∃ m, zTLs f n 14 P W (zbg f n t) (.ok m p w))
def zTwB (f : Nat → Int32) (n t P W fl : Int) : Prop := ¬ n ≤ zbg f n t ∧ zTLs f n 14 P W (zbg f n t) (.bad fl)
theorem zTd_x {f : Nat → Int32} {n t P W g a p w c : Int} {fl : Int32} (h : zTd f n t P W g fl.toInt c a p w) (x : g = 0 ∨ ¬ fl.toInt = -1) : (-1) = fl ∧ zTwR f n t P W p w ∨ 0 ≤ fl.toInt ∧ zTwB f n t P W fl.toInt := by
  rcases h with ⟨h1, h2, _⟩ | ⟨_, h2, h3⟩ | h
  · exact absurd x (fun o => o.elim (fun q => by omega) (fun q => q h2))
  · refine Or.inl ⟨zm1 h2, ?_⟩
    rcases h3 with ⟨_, h3⟩ | ⟨_, _, h5, h6⟩
    · exact Or.inl h3
    · exact Or.inr ⟨h5, _, h6⟩
  · exact Or.inr ⟨h.1, h.2⟩
theorem zTwR_det {f : Nat → Int32} {n t P W p w p' w' : Int} (h : zTwR f n t P W p w) (h' : zTwR f n t P W p' w') : p = p' ∧ w = w' := by
  rcases h with ⟨a, b, c⟩ | ⟨a, m, c⟩
  · rcases h' with ⟨a', b', c'⟩ | ⟨a', _⟩
    · exact ⟨b.trans b'.symm, c.trans c'.symm⟩
    · exact absurd a a'
  · rcases h' with ⟨a', _⟩ | ⟨_, m', c'⟩
    · exact absurd a' a
    · exact (zTq.okj (zTLs_det f n 14 _ _ _ _ _ c c')).2
theorem zTwRB {f : Nat → Int32} {n t P W p w fl : Int} (h : zTwR f n t P W p w) (h' : zTwB f n t P W fl) : False := by
  rcases h with ⟨a, _⟩ | ⟨_, m, c⟩
  · exact h'.1 a
  · exact zTq.ob (zTLs_det f n 14 _ _ _ _ _ c h'.2)
theorem zTwB_det {f : Nat → Int32} {n t P W q q' : Int} (h : zTwB f n t P W q) (h' : zTwB f n t P W q') : q = q' := zTq.badj (zTLs_det f n 14 _ _ _ _ _ h.2 h'.2)
set_option maxRecDepth 100000 in
set_option maxHeartbeats 4000000 in
theorem m_figuresX (l : Launch) (g : zG) (o : Nat) (a : Nat → Nat) (th : Int32) (hi : Int32) (ac : Int32) (tp : Int32) (en : Int32) (tA : Int32) (fl : Int32) (de : Int32) (iD : Int32) (iO : Int32) (tU : Int32) (fm : Nat → Int32) (fk : Nat → Int32) (fa : Nat → Int32) (fc : Nat → Int32) (ft : Nat → Int32) (ff : Nat → Int32) (fb : Nat → Int32) (fi : Nat → Int32) (lw : Int32) (hg : Int32) (hen : 0 ≤ en.toInt ∧ en.toInt ≤ 400) (htA : 0 ≤ tA.toInt ∧ tA.toInt ≤ en.toInt + 7 - de.toInt) (hde : 0 ≤ de.toInt ∧ de.toInt ≤ 6) (hfl0 : 0 ≤ fl.toInt) : zM' g l yX12_figures (Cond.code yX12_figures cX12_figures 5 (some .int) :: zB) ({ frames := 0, cells := 0, slots := 0, locals := 0 } : Room) [.ref o, .int lw, .int hg] [bMo g o a th hi ac tp (-1) en tA fl de iD iO tU fm fk fa fc ft ff fb fi] (fun _ : Unit => some (.int 0)) (fun _ : Unit => True) (fun _ : Unit => [bMo g o a th hi ac tp (-1) en tA fl de iD iO tU fm fk fa fc ft ff fb fi]) := by
  refine zM'.of (cc := cX12_figures) (maxL := 5) (rt := (some .int)) (by decide) rfl (Nat.le_of_ble_eq_true rfl) ?_
  intro p e s m args below meth c A ls St hr hlocks hin hK hT hA hP hD hS hl
  obtain ⟨hx, hb, hml, hown, hts⟩ := id St
  have hl : lv_has ls 5 [(0, .ref o), (1, .int lw), (2, .int hg)] := hl
  refine lv_aload_n hx hb dX12_figures_0 rfl (lv_at hl 0 rfl) ?_
  refine va_get (D := g.1) (ci := 10) (v := .int fl) (C := RX12) (T := TX12) (N := 20) hx hb hts izRX12 hown hK hP 0 rfl rfl 12 (by decide) (hts _ k820) (fun _ h9 => h9) rfl dX12_figures_1 ?_
  refine lv_iconst (v := (-1)) hx hb dX12_figures_4 (by decide) ?_
  refine lv_icmp_eq (tgt := 10) hx hb dX12_figures_5 (by decide) (fun cb9 => ?_) (fun cb9 => ?_)
  · skip
    exact absurd (show fl.toInt = (-1) from zeq cb9 rfl (by decide)) (zDeq2 (a := 0) (b := (-1)) hfl0 (Int.le_refl _) (by decide))
  · skip
    have c2 : ¬ fl.toInt = (-1) := zne cb9 rfl (by decide)
    refine lv_iconst (v := 0) hx hb dX12_figures_8 (by decide) ?_
    have hP : va_P g.1 vwCl (List.flatten [bMo g o a th hi ac tp (-1) en tA fl de iD iO tU fm fk fa fc ft ff fb fi]) s.heap := hP
    have hD : va_D A (List.flatten [bMo g o a th hi ac tp (-1) en tA fl de iD iO tU fm fk fa fc ft ff fb fi]) := hD
    exact mret_i hx hb hr hlocks hS (Nat.le_of_ble_eq_true rfl) (Nat.le_of_ble_eq_true rfl) dX12_figures_9 () rfl trivial hP hD
set_option maxRecDepth 100000 in
set_option maxHeartbeats 4000000 in
theorem m_afterX (l : Launch) (g : zG) (o : Nat) (a : Nat → Nat) (th : Int32) (hi : Int32) (ac : Int32) (tp : Int32) (en : Int32) (tA : Int32) (fl : Int32) (de : Int32) (iD : Int32) (iO : Int32) (tU : Int32) (fm : Nat → Int32) (fk : Nat → Int32) (fa : Nat → Int32) (fc : Nat → Int32) (ft : Nat → Int32) (ff : Nat → Int32) (fb : Nat → Int32) (fi : Nat → Int32) (lw : Int32) (hg : Int32) (k : Nat) (j : Nat) (q : String × Nat × String × List Int32) (hen : 0 ≤ en.toInt ∧ en.toInt ≤ 400) (htA : 0 ≤ tA.toInt ∧ tA.toInt ≤ en.toInt + 7 - de.toInt) (hde : 0 ≤ de.toInt ∧ de.toInt ≤ 6) (hfl0 : 0 ≤ fl.toInt) (hk9 : k = g.2 (10 + 2 * j)) (hj9 : zLit[j]? = some q) (hql : 1 ≤ q.2.2.2.length ∧ q.2.2.2.length ≤ 7) (hbs : ∀ i : Nat, i < q.2.2.2.length → 97 ≤ (q.2.2.2.getD i 0).toInt ∧ (q.2.2.2.getD i 0).toInt ≤ 122) : zM' g l yX12_after (Cond.code yX12_after cX12_after 4 (some .int) :: zB) ({ frames := 1, cells := 0, slots := 0, locals := 24 } : Room) [.ref o, .ref k, .int lw, .int hg] [bMo g o a th hi ac tp (-1) en tA fl de iD iO tU fm fk fa fc ft ff fb fi] (fun _ : Unit => some (.int 0)) (fun _ : Unit => True) (fun _ : Unit => [bMo g o a th hi ac tp (-1) en tA fl de iD iO tU fm fk fa fc ft ff fb fi]) := by
  refine zM'.of (cc := cX12_after) (maxL := 4) (rt := (some .int)) (by decide) rfl (Nat.le_of_ble_eq_true rfl) ?_
  intro p e s m args below meth c A ls St hr hlocks hin hK hT hA hP hD hS hl
  obtain ⟨hx, hb, hml, hown, hts⟩ := id St
  have hl : lv_has ls 4 [(0, .ref o), (1, .ref k), (2, .int lw), (3, .int hg)] := hl
  refine lv_aload_n hx hb dX12_after_0 rfl (lv_at hl 0 rfl) ?_
  refine va_get (D := g.1) (ci := 10) (v := .int fl) (C := RX12) (T := TX12) (N := 20) hx hb hts izRX12 hown hK hP 0 rfl rfl 12 (by decide) (hts _ k820) (fun _ h9 => h9) rfl dX12_after_1 ?_
  refine lv_iconst (v := (-1)) hx hb dX12_after_4 (by decide) ?_
  refine lv_icmp_ne (tgt := 24) hx hb dX12_after_5 (by decide) (fun cb9 => ?_) (fun cb9 => ?_)
  · skip
    have c1 : ¬ fl.toInt = (-1) := zne cb9 rfl (by decide)
    refine lv_aload_n hx hb dX12_after_24 rfl (lv_at hl 0 rfl) ?_
    refine lv_iload_n hx hb dX12_after_25 rfl (lv_at hl 2 rfl) ?_
    refine lv_iload_n hx hb dX12_after_26 rfl (lv_at hl 3 rfl) ?_
    refine mcallV' (g := g) (q0 := 0) (ci := 10) (As := [.int lw, .int hg]) (rest := []) St hK hT hA hP hD hS hl.1 [0] [] rfl rfl rfl (m_figuresX l g o a th hi ac tp en tA fl de iD iO tU fm fk fa fc ft ff fb fi lw hg hen htA hde hfl0) (cwV 2 hts (zgL (zl4 k902 k903 k904 k839) k898) rfl rfl rfl (by decide +kernel) ⟨Nat.le_of_ble_eq_true rfl, Nat.le_of_ble_eq_true rfl⟩) rfl rfl rfl rfl (Nat.le_of_ble_eq_true rfl) dX12_after_27 ⟨(Nat.le_of_ble_eq_true rfl), (Nat.le_of_ble_eq_true rfl)⟩ (fun _u H locs hq2 hP hD hS => ?_)
    have hP : va_P g.1 vwCl (List.flatten [bMo g o a th hi ac tp (-1) en tA fl de iD iO tU fm fk fa fc ft ff fb fi]) H := hP
    have hD : va_D A (List.flatten [bMo g o a th hi ac tp (-1) en tA fl de iD iO tU fm fk fa fc ft ff fb fi]) := hD
    refine W.widen (k := 0) (n := 0) (Nat.le_of_ble_eq_true rfl) (Nat.le_of_ble_eq_true rfl) ?_
    refine W.eq (g2 := F0 m 30 ls [.int 0]) rfl ?_
    have hP : va_P g.1 vwCl (List.flatten [bMo g o a th hi ac tp (-1) en tA fl de iD iO tU fm fk fa fc ft ff fb fi]) H := hP
    have hD : va_D A (List.flatten [bMo g o a th hi ac tp (-1) en tA fl de iD iO tU fm fk fa fc ft ff fb fi]) := hD
    exact mret_i hx hb hr hlocks hS (Nat.le_of_ble_eq_true rfl) (Nat.le_of_ble_eq_true rfl) dX12_after_30 () rfl trivial hP hD
  · skip
    exact absurd (show fl.toInt = (-1) from zeq cb9 rfl (by decide)) (zDeq2 (a := 0) (b := (-1)) hfl0 (Int.le_refl _) (by decide))
set_option maxRecDepth 100000 in
set_option maxHeartbeats 4000000 in
theorem m_wrongX (l : Launch) (g : zG) (o : Nat) (a : Nat → Nat) (th : Int32) (hi : Int32) (ac : Int32) (tp : Int32) (ba : Int32) (en : Int32) (tA : Int32) (fl : Int32) (de : Int32) (iD : Int32) (iO : Int32) (tU : Int32) (fm : Nat → Int32) (fk : Nat → Int32) (fa : Nat → Int32) (fc : Nat → Int32) (ft : Nat → Int32) (ff : Nat → Int32) (fb : Nat → Int32) (fi : Nat → Int32) (where_ : Int32) (hfl0 : 0 ≤ fl.toInt) : zM' g l yX12_wrong (Cond.code yX12_wrong cX12_wrong 2 none :: zB) ({ frames := 0, cells := 0, slots := 0, locals := 0 } : Room) [.ref o, .int where_] [bMo g o a th hi ac tp ba en tA fl de iD iO tU fm fk fa fc ft ff fb fi] (fun _ : Unit => none) (fun _ : Unit => True) (fun _ : Unit => [bMo g o a th hi ac tp ba en tA fl de iD iO tU fm fk fa fc ft ff fb fi]) := by
  refine zM'.of (cc := cX12_wrong) (maxL := 2) (rt := none) (by decide) rfl (Nat.le_of_ble_eq_true rfl) ?_
  intro p e s m args below meth c A ls St hr hlocks hin hK hT hA hP hD hS hl
  obtain ⟨hx, hb, hml, hown, hts⟩ := id St
  have hl : lv_has ls 2 [(0, .ref o), (1, .int where_)] := hl
  refine lv_aload_n hx hb dX12_wrong_0 rfl (lv_at hl 0 rfl) ?_
  refine va_get (D := g.1) (ci := 10) (v := .int fl) (C := RX12) (T := TX12) (N := 20) hx hb hts izRX12 hown hK hP 0 rfl rfl 12 (by decide) (hts _ k820) (fun _ h9 => h9) rfl dX12_wrong_1 ?_
  refine lv_iconst (v := (-1)) hx hb dX12_wrong_4 (by decide) ?_
  refine lv_icmp_ne (tgt := 13) hx hb dX12_wrong_5 (by decide) (fun cb9 => ?_) (fun cb9 => ?_)
  · skip
    have c1 : ¬ fl.toInt = (-1) := zne cb9 rfl (by decide)
    have hP : va_P g.1 vwCl (List.flatten [bMo g o a th hi ac tp ba en tA fl de iD iO tU fm fk fa fc ft ff fb fi]) s.heap := hP
    have hD : va_D A (List.flatten [bMo g o a th hi ac tp ba en tA fl de iD iO tU fm fk fa fc ft ff fb fi]) := hD
    exact mret_v hx hb hr hlocks hS (Nat.le_of_ble_eq_true rfl) (Nat.le_of_ble_eq_true rfl) dX12_wrong_13 () rfl trivial hP hD
  · skip
    exact absurd (show fl.toInt = (-1) from zeq cb9 rfl (by decide)) (zDeq2 (a := 0) (b := (-1)) hfl0 (Int.le_refl _) (by decide))
set_option maxRecDepth 100000 in
set_option maxHeartbeats 4000000 in
theorem m_afterF (l : Launch) (g : zG) (o : Nat) (a : Nat → Nat) (th : Int32) (hi : Int32) (ac : Int32) (tp : Int32) (en : Int32) (tA : Int32) (de : Int32) (iD : Int32) (iO : Int32) (tU : Int32) (fm : Nat → Int32) (fk : Nat → Int32) (fa : Nat → Int32) (fc : Nat → Int32) (ft : Nat → Int32) (ff : Nat → Int32) (fb : Nat → Int32) (fi : Nat → Int32) (lw : Int32) (hg : Int32) (k : Nat) (j : Nat) (q : String × Nat × String × List Int32) (hen : 0 ≤ en.toInt ∧ en.toInt ≤ 400) (htA : 0 ≤ tA.toInt ∧ tA.toInt ≤ en.toInt + 7 - de.toInt) (hde : 0 ≤ de.toInt ∧ de.toInt ≤ 6) (hk9 : k = g.2 (10 + 2 * j)) (hj9 : zLit[j]? = some q) (hql : 1 ≤ q.2.2.2.length ∧ q.2.2.2.length ≤ 7) (hbs : ∀ i : Nat, i < q.2.2.2.length → 97 ≤ (q.2.2.2.getD i 0).toInt ∧ (q.2.2.2.getD i 0).toInt ≤ 122) : zM' g l yX12_after (Cond.code yX12_after cX12_after 4 (some .int) :: zB) ({ frames := 5, cells := 0, slots := 0, locals := 108 } : Room) [.ref o, .ref k, .int lw, .int hg] [bMo g o a th hi ac tp (-1) en tA (-1) de iD iO tU fm fk fa fc ft ff fb fi] (fun u : Int32 × Int32 × Int32 => (fun (at2 : Int32) (fl2 : Int32) (r : Int32) => some (.int r)) (u.1) (u.2.1) (u.2.2)) (fun u : Int32 × Int32 × Int32 => (fun (at2 : Int32) (fl2 : Int32) (r : Int32) => (0 ≤ at2.toInt ∧ at2.toInt ≤ en.toInt + 7 - de.toInt) ∧ (tA.toInt ≤ at2.toInt) ∧ (zisW ft en.toInt (zbg ft en.toInt tA.toInt) q.2.2.2 ∧ zNu ft en.toInt (znt ft en.toInt (zbg ft en.toInt tA.toInt)) lw.toInt hg.toInt r ∧ at2.toInt = znx ft en.toInt (znt ft en.toInt (zbg ft en.toInt tA.toInt)) ∧ (-1) = fl2 ∨ zisW ft en.toInt (zbg ft en.toInt tA.toInt) q.2.2.2 ∧ (¬ ∃ v9, zNu ft en.toInt (znt ft en.toInt (zbg ft en.toInt tA.toInt)) lw.toInt hg.toInt v9) ∧ fl2.toInt = znt ft en.toInt (zbg ft en.toInt tA.toInt) ∨ ¬ zisW ft en.toInt (zbg ft en.toInt tA.toInt) q.2.2.2 ∧ fl2.toInt = zbg ft en.toInt tA.toInt)) (u.1) (u.2.1) (u.2.2)) (fun u : Int32 × Int32 × Int32 => (fun (at2 : Int32) (fl2 : Int32) (r : Int32) => [bMo g o a th hi ac tp (-1) en at2 fl2 de iD iO tU fm fk fa fc ft ff fb fi]) (u.1) (u.2.1) (u.2.2)) := by
  refine zM'.of (cc := cX12_after) (maxL := 4) (rt := (some .int)) (by decide) rfl (Nat.le_of_ble_eq_true rfl) ?_
  intro p e s m args below meth c A ls St hr hlocks hin hK hT hA hP hD hS hl
  obtain ⟨hx, hb, hml, hown, hts⟩ := id St
  have hl : lv_has ls 4 [(0, .ref o), (1, .ref k), (2, .int lw), (3, .int hg)] := hl
  refine lv_aload_n hx hb dX12_after_0 rfl (lv_at hl 0 rfl) ?_
  refine va_get (D := g.1) (ci := 10) (v := .int (-1)) (C := RX12) (T := TX12) (N := 20) hx hb hts izRX12 hown hK hP 0 rfl rfl 12 (by decide) (hts _ k820) (fun _ h9 => h9) rfl dX12_after_1 ?_
  refine lv_iconst (v := (-1)) hx hb dX12_after_4 (by decide) ?_
  refine lv_icmp_ne (tgt := 24) hx hb dX12_after_5 (by decide) (fun c1 => absurd (by decide) c1) (fun _ => ?_)
  refine lv_aload_n hx hb dX12_after_8 rfl (lv_at hl 0 rfl) ?_
  refine lv_aload_n hx hb dX12_after_9 rfl (lv_at hl 1 rfl) ?_
  refine mcallV' (g := g) (q0 := 0) (ci := 10) (As := [.ref k]) (rest := []) St hK hT hA hP hD hS hl.1 [0] [] rfl rfl rfl (m_hasF l g o a th hi ac tp en tA (-1) de iD iO tU fm fk fa fc ft ff fb fi k j q hen htA hde hk9 hj9 hql hbs) (cwV 1 hts (zgL (zl4 k899 k900 k901 k839) k889) rfl rfl rfl (by decide +kernel) ⟨Nat.le_of_ble_eq_true rfl, Nat.le_of_ble_eq_true rfl⟩) rfl rfl rfl rfl (Nat.le_of_ble_eq_true rfl) dX12_after_10 ⟨(Nat.le_of_ble_eq_true rfl), (Nat.le_of_ble_eq_true rfl)⟩ (fun u_ H locs hq4 hP hD hS => ?_)
  obtain ⟨at2_2, r_3⟩ := u_
  replace hq4 : (0 ≤ at2_2.toInt ∧ at2_2.toInt ≤ en.toInt + 7 - de.toInt) ∧ (tA.toInt ≤ at2_2.toInt) ∧ (r_3 = 1 ∧ zisW ft en.toInt (zbg ft en.toInt tA.toInt) q.2.2.2 ∧ at2_2.toInt = znx ft en.toInt (zbg ft en.toInt tA.toInt) ∧ tA.toInt < at2_2.toInt ∧ at2_2.toInt ≤ en.toInt ∨ r_3 = 0 ∧ ¬ zisW ft en.toInt (zbg ft en.toInt tA.toInt) q.2.2.2 ∧ at2_2.toInt = zbg ft en.toInt tA.toInt) := hq4
  have hP : va_P g.1 vwCl (List.flatten [bMo g o a th hi ac tp (-1) en at2_2 (-1) de iD iO tU fm fk fa fc ft ff fb fi]) H := hP
  have hD : va_D A (List.flatten [bMo g o a th hi ac tp (-1) en at2_2 (-1) de iD iO tU fm fk fa fc ft ff fb fi]) := hD
  refine W.widen (k := 0) (n := 0) (Nat.le_of_ble_eq_true rfl) (Nat.le_of_ble_eq_true rfl) ?_
  refine W.eq (g2 := F0 m 13 ls [.int r_3]) rfl ?_
  obtain ⟨hq4_0, hq4_1, hq4_2⟩ := hq4
  rcases hq4_2 with ⟨rfl, hq4_k, hq4_km⟩ | ⟨rfl, hq4_k, hq4_km⟩
  · skip
    refine lv_if_ne (tgt := 24) hx hb dX12_after_13 (by decide) (fun _ => ?_) (fun c5 => absurd c5 (by decide))
    refine lv_aload_n hx hb dX12_after_24 rfl (lv_at hl 0 rfl) ?_
    refine lv_iload_n hx hb dX12_after_25 rfl (lv_at hl 2 rfl) ?_
    refine lv_iload_n hx hb dX12_after_26 rfl (lv_at hl 3 rfl) ?_
    refine mcallV' (g := g) (q0 := 0) (ci := 10) (As := [.int lw, .int hg]) (rest := []) St hK hT hA hP hD hS hl.1 [0] [] rfl rfl rfl (m_figuresF l g o a th hi ac tp en at2_2 de iD iO tU fm fk fa fc ft ff fb fi lw hg hen hq4_0 hde) (cwV 2 hts (zgL (zl4 k902 k903 k904 k839) k898) rfl rfl rfl (by decide +kernel) ⟨Nat.le_of_ble_eq_true rfl, Nat.le_of_ble_eq_true rfl⟩) rfl rfl rfl rfl (Nat.le_of_ble_eq_true rfl) dX12_after_27 ⟨(Nat.le_of_ble_eq_true rfl), (Nat.le_of_ble_eq_true rfl)⟩ (fun u_ H locs hq9 hP hD hS => ?_)
    obtain ⟨at2_6, fl2_7, r_8⟩ := u_
    replace hq9 : (0 ≤ at2_6.toInt ∧ at2_6.toInt ≤ en.toInt + 7 - de.toInt) ∧ (at2_2.toInt ≤ at2_6.toInt) ∧ (zNu ft en.toInt (zbg ft en.toInt at2_2.toInt) lw.toInt hg.toInt r_8 ∧ at2_6.toInt = znx ft en.toInt (zbg ft en.toInt at2_2.toInt) ∧ (-1) = fl2_7 ∨ fl2_7.toInt = zbg ft en.toInt at2_2.toInt ∧ ¬ ∃ v9, zNu ft en.toInt (zbg ft en.toInt at2_2.toInt) lw.toInt hg.toInt v9) := hq9
    have hP : va_P g.1 vwCl (List.flatten [bMo g o a th hi ac tp (-1) en at2_6 fl2_7 de iD iO tU fm fk fa fc ft ff fb fi]) H := hP
    have hD : va_D A (List.flatten [bMo g o a th hi ac tp (-1) en at2_6 fl2_7 de iD iO tU fm fk fa fc ft ff fb fi]) := hD
    refine W.widen (k := 0) (n := 0) (Nat.le_of_ble_eq_true rfl) (Nat.le_of_ble_eq_true rfl) ?_
    refine W.eq (g2 := F0 m 30 ls [.int r_8]) rfl ?_
    obtain ⟨hq9_0, hq9_1, hq9_2⟩ := hq9
    rcases hq9_2 with ⟨hq9_k, hq9_km, rfl⟩ | ⟨hq9_k, hq9_km⟩
    · skip
      have hP : va_P g.1 vwCl (List.flatten [bMo g o a th hi ac tp (-1) en at2_6 (-1) de iD iO tU fm fk fa fc ft ff fb fi]) H := hP
      have hD : va_D A (List.flatten [bMo g o a th hi ac tp (-1) en at2_6 (-1) de iD iO tU fm fk fa fc ft ff fb fi]) := hD
      exact mret_i hx hb hr hlocks hS (Nat.le_of_ble_eq_true rfl) (Nat.le_of_ble_eq_true rfl) dX12_after_30 (at2_6, -1, r_8) rfl (show (0 ≤ at2_6.toInt ∧ at2_6.toInt ≤ en.toInt + 7 - de.toInt) ∧ (tA.toInt ≤ at2_6.toInt) ∧ (zisW ft en.toInt (zbg ft en.toInt tA.toInt) q.2.2.2 ∧ zNu ft en.toInt (znt ft en.toInt (zbg ft en.toInt tA.toInt)) lw.toInt hg.toInt r_8 ∧ at2_6.toInt = znx ft en.toInt (znt ft en.toInt (zbg ft en.toInt tA.toInt)) ∧ (-1) = (-1) ∨ zisW ft en.toInt (zbg ft en.toInt tA.toInt) q.2.2.2 ∧ (¬ ∃ v9, zNu ft en.toInt (znt ft en.toInt (zbg ft en.toInt tA.toInt)) lw.toInt hg.toInt v9) ∧ ((-1) : Int32).toInt = znt ft en.toInt (zbg ft en.toInt tA.toInt) ∨ ¬ zisW ft en.toInt (zbg ft en.toInt tA.toInt) q.2.2.2 ∧ ((-1) : Int32).toInt = zbg ft en.toInt tA.toInt) from ⟨(by first | assumption | omega | exact Or.inl (by decide) | exact Or.inr (by omega)), (by first | assumption | omega | exact Or.inl (by decide) | exact Or.inr (by omega)), (Or.inl ⟨hq4_k, (zNt_v hq4_km.1 hq9_k), (zNt_x hq4_km.1 hq9_km), rfl⟩)⟩) hP hD
    · skip
      have hP : va_P g.1 vwCl (List.flatten [bMo g o a th hi ac tp (-1) en at2_6 fl2_7 de iD iO tU fm fk fa fc ft ff fb fi]) H := hP
      have hD : va_D A (List.flatten [bMo g o a th hi ac tp (-1) en at2_6 fl2_7 de iD iO tU fm fk fa fc ft ff fb fi]) := hD
      exact mret_i hx hb hr hlocks hS (Nat.le_of_ble_eq_true rfl) (Nat.le_of_ble_eq_true rfl) dX12_after_30 (at2_6, fl2_7, r_8) rfl (show (0 ≤ at2_6.toInt ∧ at2_6.toInt ≤ en.toInt + 7 - de.toInt) ∧ (tA.toInt ≤ at2_6.toInt) ∧ (zisW ft en.toInt (zbg ft en.toInt tA.toInt) q.2.2.2 ∧ zNu ft en.toInt (znt ft en.toInt (zbg ft en.toInt tA.toInt)) lw.toInt hg.toInt r_8 ∧ at2_6.toInt = znx ft en.toInt (znt ft en.toInt (zbg ft en.toInt tA.toInt)) ∧ (-1) = fl2_7 ∨ zisW ft en.toInt (zbg ft en.toInt tA.toInt) q.2.2.2 ∧ (¬ ∃ v9, zNu ft en.toInt (znt ft en.toInt (zbg ft en.toInt tA.toInt)) lw.toInt hg.toInt v9) ∧ fl2_7.toInt = znt ft en.toInt (zbg ft en.toInt tA.toInt) ∨ ¬ zisW ft en.toInt (zbg ft en.toInt tA.toInt) q.2.2.2 ∧ fl2_7.toInt = zbg ft en.toInt tA.toInt) from ⟨(by first | assumption | omega | exact Or.inl (by decide) | exact Or.inr (by omega)), (by first | assumption | omega | exact Or.inl (by decide) | exact Or.inr (by omega)), (Or.inr (Or.inl ⟨hq4_k, (zNt_n hq4_km.1 hq9_km), (zNt_q hq4_km.1 hq9_k)⟩))⟩) hP hD
  · skip
    refine lv_if_ne (tgt := 24) hx hb dX12_after_13 (by decide) (fun c11 => absurd (by decide) c11) (fun _ => ?_)
    refine lv_aload_n hx hb dX12_after_16 rfl (lv_at hl 0 rfl) ?_
    refine lv_aload_n hx hb dX12_after_17 rfl (lv_at hl 0 rfl) ?_
    refine va_get (D := g.1) (ci := 10) (v := .int at2_2) (C := RX12) (T := TX12) (N := 20) hx hb hts izRX12 hown hK hP 0 rfl rfl 11 (by decide) (hts _ k878) (fun _ h9 => h9) rfl dX12_after_18 ?_
    refine mcallV' (g := g) (q0 := 0) (ci := 10) (As := [.int at2_2]) (rest := []) St hK hT hA hP hD hS hl.1 [0] [] rfl rfl rfl (m_wrongF l g o a th hi ac tp (-1) en at2_2 de iD iO tU fm fk fa fc ft ff fb fi at2_2 ) (cwV 1 hts (zgL (zl4 k895 k896 k897 k839) k890) rfl rfl rfl (by decide +kernel) ⟨Nat.le_of_ble_eq_true rfl, Nat.le_of_ble_eq_true rfl⟩) rfl rfl rfl rfl (Nat.le_of_ble_eq_true rfl) dX12_after_21 ⟨(Nat.le_of_ble_eq_true rfl), (Nat.le_of_ble_eq_true rfl)⟩ (fun _u H locs hq12 hP hD hS => ?_)
    have hP : va_P g.1 vwCl (List.flatten [bMo g o a th hi ac tp (-1) en at2_2 at2_2 de iD iO tU fm fk fa fc ft ff fb fi]) H := hP
    have hD : va_D A (List.flatten [bMo g o a th hi ac tp (-1) en at2_2 at2_2 de iD iO tU fm fk fa fc ft ff fb fi]) := hD
    refine W.widen (k := 0) (n := 0) (Nat.le_of_ble_eq_true rfl) (Nat.le_of_ble_eq_true rfl) ?_
    refine W.eq (g2 := F0 m 24 ls []) rfl ?_
    refine lv_aload_n hx hb dX12_after_24 rfl (lv_at hl 0 rfl) ?_
    refine lv_iload_n hx hb dX12_after_25 rfl (lv_at hl 2 rfl) ?_
    refine lv_iload_n hx hb dX12_after_26 rfl (lv_at hl 3 rfl) ?_
    refine mcallV' (g := g) (q0 := 0) (ci := 10) (As := [.int lw, .int hg]) (rest := []) St hK hT hA hP hD hS hl.1 [0] [] rfl rfl rfl (m_figuresX l g o a th hi ac tp en at2_2 at2_2 de iD iO tU fm fk fa fc ft ff fb fi lw hg hen hq4_0 hde (by first | assumption | omega | decide | exact Or.inl (by decide) | exact Or.inr (by decide))) (cwV 2 hts (zgL (zl4 k902 k903 k904 k839) k898) rfl rfl rfl (by decide +kernel) ⟨Nat.le_of_ble_eq_true rfl, Nat.le_of_ble_eq_true rfl⟩) rfl rfl rfl rfl (Nat.le_of_ble_eq_true rfl) dX12_after_27 ⟨(Nat.le_of_ble_eq_true rfl), (Nat.le_of_ble_eq_true rfl)⟩ (fun _u H locs hq13 hP hD hS => ?_)
    have hP : va_P g.1 vwCl (List.flatten [bMo g o a th hi ac tp (-1) en at2_2 at2_2 de iD iO tU fm fk fa fc ft ff fb fi]) H := hP
    have hD : va_D A (List.flatten [bMo g o a th hi ac tp (-1) en at2_2 at2_2 de iD iO tU fm fk fa fc ft ff fb fi]) := hD
    refine W.widen (k := 0) (n := 0) (Nat.le_of_ble_eq_true rfl) (Nat.le_of_ble_eq_true rfl) ?_
    refine W.eq (g2 := F0 m 30 ls [.int 0]) rfl ?_
    have hP : va_P g.1 vwCl (List.flatten [bMo g o a th hi ac tp (-1) en at2_2 at2_2 de iD iO tU fm fk fa fc ft ff fb fi]) H := hP
    have hD : va_D A (List.flatten [bMo g o a th hi ac tp (-1) en at2_2 at2_2 de iD iO tU fm fk fa fc ft ff fb fi]) := hD
    exact mret_i hx hb hr hlocks hS (Nat.le_of_ble_eq_true rfl) (Nat.le_of_ble_eq_true rfl) dX12_after_30 (at2_2, at2_2, (0 : Int32)) rfl (show (0 ≤ at2_2.toInt ∧ at2_2.toInt ≤ en.toInt + 7 - de.toInt) ∧ (tA.toInt ≤ at2_2.toInt) ∧ (zisW ft en.toInt (zbg ft en.toInt tA.toInt) q.2.2.2 ∧ zNu ft en.toInt (znt ft en.toInt (zbg ft en.toInt tA.toInt)) lw.toInt hg.toInt 0 ∧ at2_2.toInt = znx ft en.toInt (znt ft en.toInt (zbg ft en.toInt tA.toInt)) ∧ (-1) = at2_2 ∨ zisW ft en.toInt (zbg ft en.toInt tA.toInt) q.2.2.2 ∧ (¬ ∃ v9, zNu ft en.toInt (znt ft en.toInt (zbg ft en.toInt tA.toInt)) lw.toInt hg.toInt v9) ∧ at2_2.toInt = znt ft en.toInt (zbg ft en.toInt tA.toInt) ∨ ¬ zisW ft en.toInt (zbg ft en.toInt tA.toInt) q.2.2.2 ∧ at2_2.toInt = zbg ft en.toInt tA.toInt) from ⟨(by first | assumption | omega | exact Or.inl (by decide) | exact Or.inr (by omega)), (by first | assumption | omega | exact Or.inl (by decide) | exact Or.inr (by omega)), (Or.inr (Or.inr ⟨hq4_k, hq4_km⟩))⟩) hP hD
