/-! the model's reader of the town -/
theorem zkp3 {f : Nat → Int32} {x v : Int32} (h : 11 ≤ x.toInt) : (upd f x.toNatClampNeg v 0).toInt = (f 0).toInt ∧ (upd f x.toNatClampNeg v 3).toInt = (f 3).toInt ∧ (upd f x.toNatClampNeg v 4).toInt = (f 4).toInt := by
  rw [zcl]; unfold upd
  refine ⟨?_, ?_, ?_⟩ <;> rw [if_neg (by omega)]
theorem zkp5 {f : Nat → Int32} {x v : Int32} (h : 5 ≤ x.toInt) : (upd f x.toNatClampNeg v 0).toInt = (f 0).toInt ∧ (upd f x.toNatClampNeg v 3).toInt = (f 3).toInt ∧ (upd f x.toNatClampNeg v 4).toInt = (f 4).toInt := by
  rw [zcl]; unfold upd
  refine ⟨?_, ?_, ?_⟩ <;> rw [if_neg (by omega)]
theorem zNt_v {f : Nat → Int32} {n b a lo hi : Int} {v : Int32} (e : a = znx f n b) (h : zNu f n (zbg f n a) lo hi v) : zNu f n (znt f n b) lo hi v := by subst e; exact h
theorem zNt_n {f : Nat → Int32} {n b a lo hi : Int} (e : a = znx f n b) (h : ¬ ∃ v, zNu f n (zbg f n a) lo hi v) : ¬ ∃ v, zNu f n (znt f n b) lo hi v := by subst e; exact h
theorem zNt_x {f : Nat → Int32} {n b a a2 : Int} (e : a = znx f n b) (h : a2 = znx f n (zbg f n a)) : a2 = znx f n (znt f n b) := by subst e; exact h
theorem zNt_q {f : Nat → Int32} {n b a q : Int} (e : a = znx f n b) (h : q = zbg f n a) : q = znt f n b := by subst e; exact h
theorem zWt_y {f : Nat → Int32} {n b a : Int} {bs : List Int32} (e : a = znx f n b) (h : zisW f n (zbg f n a) bs) : zisW f n (znt f n b) bs := by subst e; exact h
theorem zWt_n {f : Nat → Int32} {n b a : Int} {bs : List Int32} (e : a = znx f n b) (h : ¬ zisW f n (zbg f n a) bs) : ¬ zisW f n (znt f n b) bs := by subst e; exact h
theorem zNN_bM {f : Nat → Int32} {n lo hi lo' hi' b q : Int} {K : Int → Int → zTs → Prop} (e1 : lo' = lo) (e2 : hi' = hi) (h : ¬ ∃ v, zNu f n b lo' hi' v) (eq : q = b) : zNN f n lo hi b K (.bad q) := zNN_n e1 e2 eq h
theorem zNN_yM {f : Nat → Int32} {n lo hi lo' hi' b : Int} {K : Int → Int → zTs → Prop} {r : zTs} {v : Int32} (e1 : lo' = lo) (e2 : hi' = hi) (h : zNu f n b lo' hi' v) (k : K v.toInt (znt f n b) r) : zNN f n lo hi b K r := by
  subst e1; subst e2; exact Or.inl ⟨v, h, k⟩
theorem zW1_yM {f : Nat → Int32} {n b : Int} {bs : List Int32} {K : Int → zTs → Prop} {r : zTs} (h : zisW f n b bs) (k : K (znt f n b) r) : zW1 f n bs b K r := Or.inl ⟨h, k⟩
theorem zKp3_yM {f : Nat → Int32} {n v u b a p : Int} (e : a = znx f n b) (h : zisW f n (zbg f n a) zwDry) (e2 : p = znx f n (zbg f n a)) : zKp3 f n v u (znt f n b) (.ok (zbg f n p) (0, v, u, 1)) := by
  subst e; subst e2; exact Or.inl ⟨h, rfl⟩
theorem zKp3_nM {f : Nat → Int32} {n v u b a p : Int} (e : a = znx f n b) (h : ¬ zisW f n (zbg f n a) zwDry) (e2 : p = zbg f n a) : zKp3 f n v u (znt f n b) (.ok (zbg f n p) (0, v, u, 0)) := by
  subst e; rw [e2, zbg_idem]; exact Or.inr ⟨h, rfl⟩
theorem zNt_b {f : Nat → Int32} {n b a : Int} (e : a = znx f n b) : znt f n b = zbg f n a := by subst e; rfl
theorem zNu_b {f : Nat → Int32} {n b b' lo hi : Int} {v : Int32} (e : b = b') (h : zNu f n b' lo hi v) : zNu f n b lo hi v := by subst e; exact h
theorem zNn_b {f : Nat → Int32} {n b b' lo hi : Int} (e : b = b') (h : ¬ ∃ v, zNu f n b' lo hi v) : ¬ ∃ v, zNu f n b lo hi v := by subst e; exact h
theorem zW_b {f : Nat → Int32} {n b b' : Int} {bs : List Int32} (e : b = b') (h : zisW f n b' bs) : zisW f n b bs := by subst e; exact h
theorem zWn_b {f : Nat → Int32} {n b b' : Int} {bs : List Int32} (e : b = b') (h : ¬ zisW f n b' bs) : ¬ zisW f n b bs := by subst e; exact h
theorem zTP_iM {f : Nat → Int32} {n pe b : Int} {r : zTs} (h : pe < 8) (k : zNN f n 0 99 (znt f n b) (zKp1 f n) r) : zTPerson f n pe b r := Or.inr ⟨h, k⟩
theorem zTW_iM {f : Nat → Int32} {n wo b : Int} {r : zTs} (h : wo < 6) (k : zNN f n 1 99 (znt f n b) (zKw1 f n) r) : zTWork f n wo b r := Or.inr ⟨h, k⟩
/-- figures from b on: so many -/
theorem zdg_n {f : Nat → Int32} {n pe x b c q : Int} (h0 : 0 ≤ b) (hc : 0 ≤ c) (hz : zw zcD f n.toNat b.toNat = (b + c).toNat) (h : ¬ c = pe) (eq : q = b) : zKt2 f n pe x b (.bad q) := by
  rw [eq]
  refine Or.inr ⟨fun o => ?_, rfl⟩
  have := znx_d h0 o.1
  rw [hz] at this
  omega
theorem zdg_y {f : Nat → Int32} {n pe x b c a : Int} (h0 : 0 ≤ b) (hc : 1 ≤ c) (hz : zw zcD f n.toNat b.toNat = (b + c).toNat) (h : c = pe) (ea : a = b + c) : zKt2 f n pe x b (.ok (zbg f n a) (2, x, b, 0)) := by
  have hb : b < n ∧ zcD (f b.toNat).toInt = true := by
    by_cases q : b.toNat < n.toNat ∧ zcD (f b.toNat).toInt = true
    · exact ⟨by omega, q.2⟩
    · rw [zw_n q] at hz; omega
  have h' : ¬ n ≤ b := by omega
  have hl' : ¬ zcL (f b.toNat).toInt = true := by rw [zcDL hb.2]; decide
  have hkd : zkd f n b = 2 := by
    unfold zkd
    rw [if_neg h', if_neg hl', if_pos hb.2]
  have hnx : znx f n b = b + c := by rw [znx_d h0 hkd, hz]; omega
  refine Or.inl ⟨⟨hkd, by omega⟩, ?_⟩
  unfold znt; rw [hnx, ← ea]
theorem zdg_0 {f : Nat → Int32} {n B c : Int} (e : c = 0) : zw zcD f n.toNat B.toNat = zw zcD f n.toNat (B + c).toNat := by subst e; rw [Int.add_zero]
theorem zdg_s {f : Nat → Int32} {n B c c' : Int} (x : Int32) (h : zw zcD f n.toNat B.toNat = zw zcD f n.toNat (B + c).toNat) (hx : x.toInt = B + c) (h0 : 0 ≤ x.toInt) (hl : x.toInt < n) (hd : zcD (f x.toNatClampNeg).toInt = true) (e : c' = c + 1) : zw zcD f n.toNat B.toNat = zw zcD f n.toNat (B + c').toNat := by
  rw [zcl] at hd
  rw [h, show (B + c).toNat = x.toInt.toNat by omega, zw_s (by omega) hd, show x.toInt.toNat + 1 = (B + c').toNat by omega]
theorem zdg_e1 {f : Nat → Int32} {n B c : Int} (h : zw zcD f n.toNat B.toNat = zw zcD f n.toNat (B + c).toNat) (hl : n ≤ B + c) (h0 : 0 ≤ B + c) : zw zcD f n.toNat B.toNat = (B + c).toNat := h.trans (zw_n (fun q => absurd q.1 (by omega)))
theorem zdg_e2 {f : Nat → Int32} {n B c : Int} (x : Int32) (h : zw zcD f n.toNat B.toNat = zw zcD f n.toNat (B + c).toNat) (hx : x.toInt = B + c) (hd : zcD (f x.toNatClampNeg).toInt = false) : zw zcD f n.toNat B.toNat = (B + c).toNat := by
  rw [zcl] at hd
  rw [h, show (B + c).toNat = x.toInt.toNat by omega]
  exact zw_n (fun q => by rw [hd] at q; exact absurd q.2 (by decide))
theorem zKt2_b {f : Nat → Int32} {n pe x b b' a : Int} (e : b' = b) (h : zKt2 f n pe x b (.ok a (2, x, b, 0))) : zKt2 f n pe x b' (.ok a (2, x, b, 0)) := by subst e; exact h
theorem zKt2_bn {f : Nat → Int32} {n pe x b b' q : Int} (e : b' = b) (h : zKt2 f n pe x b (.bad q)) : zKt2 f n pe x b' (.bad q) := by subst e; exact h
theorem zTP_b {f : Nat → Int32} {n pe b b' : Int} {r : zTs} (e : b = b') (h : zTPerson f n pe b r) : zTPerson f n pe b' r := by subst e; exact h
theorem zTW_b {f : Nat → Int32} {n wo b b' : Int} {r : zTs} (e : b = b') (h : zTWork f n wo b r) : zTWork f n wo b' r := by subst e; exact h
theorem zBat {f : Nat → Int32} {n q t b : Int} (e : b = zbg f n t) (h : q = znx f n (zbg f n t)) : q = znx f n b := by rw [e]; exact h
theorem zTO_o {f : Nat → Int32} {n lo hi lo' hi' a p pe wo pe2 wo2 k : Int} (e1 : lo' = lo) (e2 : hi' = hi) (h : ∃ v, zNu f n (zbg f n a) lo' hi' v) (e : p = znx f n (zbg f n a)) (hk0 : ¬ k = 0) (hk1 : ¬ k = 1) (hp : pe2 = pe) (hw : wo2 = wo) : zTO (fun r => zNN f n lo hi (zbg f n a) (zKo k) r) (zbg f n p) pe pe2 wo wo2 := by
  obtain ⟨v, h⟩ := h
  subst e1; subst e2
  exact ⟨(k, v.toInt, 0, 0), Or.inl ⟨v, h, congrArg (fun q9 => zTs.ok q9 _) (zNt_b e).symm⟩, zcp_n hk0 hp, zcw_n hk1 hw⟩
theorem zTO_s {f : Nat → Int32} {n hi lo' hi' l2 h2' a a1 p pe wo pe2 wo2 : Int} {x : Int32} (e1 : lo' = 0) (e2 : hi' = hi - 1) (h1 : zNu f n (zbg f n a) lo' hi' x) (m1 : a1 = znx f n (zbg f n a)) (e3 : l2 = 0) (e4 : h2' = 99) (h2 : ∃ v, zNu f n (zbg f n a1) l2 h2' v) (m2 : p = znx f n (zbg f n a1)) (hp : pe2 = pe) (hw : wo2 = wo) : zTO (zKsh f n hi (zbg f n a)) (zbg f n p) pe pe2 wo wo2 := by
  obtain ⟨v, h2⟩ := h2
  subst e1; subst e2; subst e3; subst e4
  refine ⟨(3, x.toInt, v.toInt, 0), Or.inl ⟨x, h1, Or.inl ⟨v, zNu_b (zNt_b m1) h2, ?_⟩⟩, zcp_n (by decide) hp, zcw_n (by decide) hw⟩
  exact congrArg (fun q9 => zTs.ok q9 _) (zNt_b (m2.trans (congrArg (znx f n) (zNt_b m1).symm))).symm
theorem zTL_mM {f : Nat → Int32} {n pe wo b a : Int} {r : zTs} (k : Nat) (hk : k + 2 < 8) (h : zisW f n b (zwT (k + 2))) (e : a = znx f n b) (t : zTX f n pe (k + 2) (zbg f n a) r) : zTLine f n pe wo b r := by
  subst e; exact Or.inl ⟨k + 2, hk, h, t⟩
/-! the lines of the town: what holds between two of them -/
theorem zNN_en {f : Nat → Int32} {n lo hi b q : Int} {c : zCm} {K : Int → Int → zTs → Prop} {P : Prop} (h0 : 0 ≤ b) (D : ∀ v b2, 0 ≤ b2 → b2 ≤ n → K v b2 (.ok q c) → P) (h : zNN f n lo hi b K (.ok q c)) : P := by
  rcases h with ⟨v, a, k⟩ | ⟨_, e⟩
  · exact D _ _ (zbg_0 _ _ _) (zMv_le h0 (zNu_z a) rfl) k
  · exact zTs.ob e
theorem zW1_en {f : Nat → Int32} {n b q : Int} {bs : List Int32} {c : zCm} {K : Int → zTs → Prop} {P : Prop} (h0 : 0 ≤ b) (D : ∀ b2, 0 ≤ b2 → b2 ≤ n → K b2 (.ok q c) → P) (h : zW1 f n bs b K (.ok q c)) : P := by
  rcases h with ⟨a, k⟩ | ⟨_, e⟩
  · exact D _ (zbg_0 _ _ _) (zMv_le h0 (zisW_z a) rfl) k
  · exact zTs.ob e
theorem zKo_en {f : Nat → Int32} {n lo hi k b q : Int} {c : zCm} (h0 : 0 ≤ b) (h : zNN f n lo hi b (zKo k) (.ok q c)) : q ≤ n := by
  refine zNN_en (K := zKo k) h0 (fun v b2 h1 h2 k => ?_) h
  have e := (zTs.okj k).1
  omega
theorem zTLine_en {f : Nat → Int32} {n pe wo b q : Int} {c : zCm} (h0 : 0 ≤ b) (h : zTLine f n pe wo b (.ok q c)) : q ≤ n := by
  rcases h with ⟨k, hk, hw, t⟩ | ⟨_, e⟩
  · have hb : 0 ≤ znt f n b := zbg_0 _ _ _
    rcases (show k = 0 ∨ k = 1 ∨ k = 2 ∨ k = 3 ∨ k = 4 ∨ k = 5 ∨ k = 6 ∨ k = 7 by omega) with e | e | e | e | e | e | e | e <;> subst e
    · rcases (show zTPerson f n pe b (.ok q c) from t) with ⟨_, e⟩ | ⟨_, t⟩
      · exact zTs.ob e
      · refine zNN_en (K := zKp1 f n) hb (fun v b2 h1 h2 k => zW1_en (bs := zwPurse) (K := zKp2 f n v) h1 (fun b3 h3 h4 k => zNN_en (lo := 0) (hi := 999) (K := zKp3 f n v) h3 (fun u b4 h5 h6 k => ?_) k) k) t
        rcases k with ⟨d, e⟩ | ⟨_, e⟩
        · have l : znt f n b4 ≤ n := zMv_le h5 (zisW_z d) rfl
          have e := (zTs.okj e).1
          omega
        · have e := (zTs.okj e).1
          omega
    · rcases (show zTWork f n wo b (.ok q c) from t) with ⟨_, e⟩ | ⟨_, t⟩
      · exact zTs.ob e
      · refine zNN_en (K := zKw1 f n) hb (fun v b2 h1 h2 k => zW1_en (bs := zwNeed) (K := zKw2 f n v) h1 (fun b3 h3 h4 k => zNN_en (lo := 0) (hi := 799) (K := zKw3 f n v) h3 (fun u b4 h5 h6 k => zW1_en (bs := zwGain) (K := zKw4 f n v u) h5 (fun b5 h7 h8 k => zNN_en (lo := 0) (hi := 20) (K := zKw5 v u) h7 (fun g b6 h9 h10 k => ?_) k) k) k) k) t
        have e := (zTs.okj k).1
        omega
    · refine zNN_en (K := zKt2 f n pe) hb (fun v b2 h1 h2 k => ?_) (show zNN f n 0 (pe - 1) (znt f n b) (zKt2 f n pe) (.ok q c) from t)
      rcases k with ⟨d, e⟩ | ⟨_, e⟩
      · have l : znt f n b2 ≤ n := zMv_le h1 (fun o => absurd (d.1.symm.trans o) (by decide)) rfl
        have e := (zTs.okj e).1
        omega
      · exact zTs.ob e
    · refine zNN_en (K := zKs1 f n) hb (fun v b2 h1 h2 k => zNN_en (lo := 0) (hi := 99) (K := zKs2 v) h1 (fun u b3 h3 h4 k => ?_) k) (show zNN f n 0 (pe - 1) (znt f n b) (zKs1 f n) (.ok q c) from t)
      have e := (zTs.okj k).1
      omega
    · exact zKo_en hb (show zNN f n 0 999 (znt f n b) (zKo 4) (.ok q c) from t)
    · exact zKo_en hb (show zNN f n 1 30 (znt f n b) (zKo 5) (.ok q c) from t)
    · exact zKo_en hb (show zNN f n 0 100 (znt f n b) (zKo 6) (.ok q c) from t)
    · exact zKo_en hb (show zNN f n 0 999 (znt f n b) (zKo 7) (.ok q c) from t)
  · exact zTs.ob e
theorem zTO_en {f : Nat → Int32} {n p w b q p' w' : Int} (h0 : 0 ≤ b) (h : zTO (zTLine f n p w b) q p p' w w') : q ≤ n := by
  obtain ⟨c, hc, _⟩ := h
  exact zTLine_en h0 hc
def zTdJ (f : Nat → Int32) (n t P W c a p w : Int) : Prop := ∀ r9, zTLs f n (14 - c).toNat p w (zbg f n a) r9 → zTLs f n 14 P W (zbg f n t) r9
def zTd (f : Nat → Int32) (n t P W g fl c a p w : Int) : Prop :=
  (g = 1 ∧ fl = -1 ∧ 0 ≤ c ∧ c ≤ 14 ∧ ¬ n ≤ zbg f n t ∧ zTdJ f n t P W c a p w) ∨
  (g = 0 ∧ fl = -1 ∧ ((c = 0 ∧ n ≤ zbg f n t ∧ p = P ∧ w = W) ∨ (1 ≤ c ∧ c ≤ 14 ∧ ¬ n ≤ zbg f n t ∧ zTLs f n 14 P W (zbg f n t) (.ok (14 - c) p w)))) ∨
  (0 ≤ fl ∧ ¬ n ≤ zbg f n t ∧ zTLs f n 14 P W (zbg f n t) (.bad fl))
theorem zTd_i1 {f : Nat → Int32} {n t P W g fl c a p w : Int} (hg : g = 1) (hf : fl = -1) (hc : c = 0) (sk : zSk f n t a) (h : a < n) (hp : p = P) (hw : w = W) : zTd f n t P W g fl c a p w := by
  have e : zbg f n t = a := zbg_sk sk
  subst hp; subst hw
  refine Or.inl ⟨hg, hf, by omega, by omega, by omega, fun r9 h9 => ?_⟩
  rw [zbg_fx sk, ← e, show (14 - c).toNat = 14 by omega] at h9; exact h9
theorem zTd_i0 {f : Nat → Int32} {n t P W g fl c a p w : Int} (hg : g = 0) (hf : fl = -1) (hc : c = 0) (sk : zSk f n t a) (h : n ≤ a) (hp : p = P) (hw : w = W) : zTd f n t P W g fl c a p w := by
  have e : zbg f n t = a := zbg_sk sk
  exact Or.inr (Or.inl ⟨hg, hf, Or.inl ⟨hc, by omega, hp, hw⟩⟩)
theorem zTd_A {f : Nat → Int32} {n t P W g fl c a p w : Int} (h : zTd f n t P W g fl c a p w) (hg : ¬ g = 0) (hf : fl = -1) : (0 ≤ c ∧ c ≤ 14) ∧ ¬ n ≤ zbg f n t ∧ zTdJ f n t P W c a p w := by
  rcases h with ⟨_, _, h0, h1, h2, h3⟩ | ⟨h, _⟩ | ⟨h, _⟩
  · exact ⟨⟨h0, h1⟩, h2, h3⟩
  · exact absurd h hg
  · exact absurd h (by omega)
theorem zTd_a {f : Nat → Int32} {n t P W c a p w b1 g' fl' c' a' p' w' : Int} (hc : c = 14) (N : ¬ n ≤ zbg f n t) (J : zTdJ f n t P W c a p w) (sk : zSk f n a b1) (hf : fl' = b1) : zTd f n t P W g' fl' c' a' p' w' := by
  have e : zbg f n a = b1 := zbg_sk sk
  have h0 := zbg_0 f n a
  refine Or.inr (Or.inr ⟨by omega, N, ?_⟩)
  rw [hf, ← e]; exact J _ (zTl_none (by omega) rfl)
theorem zTd_b {f : Nat → Int32} {n t P W c a p w b1 g' fl' c' a' p' w' : Int} (h14 : ¬ c = 14) (B : 0 ≤ c ∧ c ≤ 14) (N : ¬ n ≤ zbg f n t) (J : zTdJ f n t P W c a p w) (sk : zSk f n a b1) (hl : zTLine f n p w (zbg f n b1) (.bad fl')) (h0 : 0 ≤ fl') : zTd f n t P W g' fl' c' a' p' w' := by
  have e : zbg f n a = b1 := zbg_sk sk
  rw [zbg_fx sk, ← e] at hl
  exact Or.inr (Or.inr ⟨h0, N, J _ (zTl_wrong (by omega) hl)⟩)
theorem zTd_c {f : Nat → Int32} {n t P W c a p w b1 a2 b2 g' fl' c' a' p' w' : Int} (h14 : ¬ c = 14) (B : 0 ≤ c ∧ c ≤ 14) (N : ¬ n ≤ zbg f n t) (J : zTdJ f n t P W c a p w) (sk : zSk f n a b1) (hl : zTO (zTLine f n p w (zbg f n b1)) (zbg f n a2) p p' w w') (sk2 : zSk f n a2 b2) (he : b2 = n) (hg : g' = 0) (hf : fl' = -1) (hc : c' = c + 1) : zTd f n t P W g' fl' c' a' p' w' := by
  have e : zbg f n a = b1 := zbg_sk sk
  have e2 : zbg f n a2 = b2 := zbg_sk sk2
  rw [zbg_fx sk, ← e] at hl
  exact Or.inr (Or.inl ⟨hg, hf, Or.inr ⟨by omega, by omega, N, J _ (zTl_last (by omega) hl (by omega) (by omega))⟩⟩)
theorem zTd_d {f : Nat → Int32} {n t P W c a p w b1 a2 b2 b3 k g' fl' c' a' p' w' : Int} (h14 : ¬ c = 14) (B : 0 ≤ c ∧ c ≤ 14) (N : ¬ n ≤ zbg f n t) (J : zTdJ f n t P W c a p w) (sk : zSk f n a b1) (hl : zTO (zTLine f n p w (zbg f n b1)) (zbg f n a2) p p' w w') (sk2 : zSk f n a2 b2) (ne : ¬ b2 = n) (sk3 : zSk f n b2 b3) (hs : zisS f n b3 k) (hk : k = 59) (hg : g' = 1) (hf : fl' = -1) (hc : c' = c + 1) (ha : a' = b3 + 1) : zTd f n t P W g' fl' c' a' p' w' := by
  subst hk
  have e : zbg f n a = b1 := zbg_sk sk
  have e2 : zbg f n a2 = b2 := zbg_sk sk2
  have e3 : zbg f n b2 = b3 := zbg_sk sk3
  have e4 : zbg f n b2 = b2 := zbg_fx sk2
  rw [zbg_fx sk, ← e] at hl
  have le := zTO_en (zbg_0 f n a) hl
  have e5 : b3 = zbg f n a2 := by omega
  rw [e5] at hs ha
  exact Or.inl ⟨hg, hf, by omega, by omega, N, fun r9 h9 => J _ (zTl_more (m' := (14 - c').toNat) (by omega) hl (by omega) hs (zMvb (by rw [zisS_nx hs, ha])) h9)⟩
theorem zTd_e {f : Nat → Int32} {n t P W c a p w b1 a2 b2 b3 k g' fl' c' a' p' w' : Int} (h14 : ¬ c = 14) (B : 0 ≤ c ∧ c ≤ 14) (N : ¬ n ≤ zbg f n t) (J : zTdJ f n t P W c a p w) (sk : zSk f n a b1) (hl : zTO (zTLine f n p w (zbg f n b1)) (zbg f n a2) p p' w w') (sk2 : zSk f n a2 b2) (ne : ¬ b2 = n) (sk3 : zSk f n b2 b3) (hs : ¬ zisS f n b3 k) (hk : k = 59) (hf : fl' = b3) : zTd f n t P W g' fl' c' a' p' w' := by
  subst hk
  have e : zbg f n a = b1 := zbg_sk sk
  have e2 : zbg f n a2 = b2 := zbg_sk sk2
  have e3 : zbg f n b2 = b3 := zbg_sk sk3
  have e4 : zbg f n b2 = b2 := zbg_fx sk2
  rw [zbg_fx sk, ← e] at hl
  have le := zTO_en (zbg_0 f n a) hl
  have e5 : b3 = zbg f n a2 := by omega
  rw [e5] at hs hf
  have h0 := zbg_0 f n a2
  refine Or.inr (Or.inr ⟨by omega, N, ?_⟩)
  rw [hf]; exact J _ (zTl_nosep (by omega) hl (by omega) hs rfl)
def zTwR (f : Nat → Int32) (n t P W p w : Int) : Prop := (n ≤ zbg f n t ∧ p = P ∧ w = W) ∨ (¬ n ≤ zbg f n t ∧ ∃ m, zTLs f n 14 P W (zbg f n t) (.ok m p w))
def zTwB (f : Nat → Int32) (n t P W fl : Int) : Prop := ¬ n ≤ zbg f n t ∧ zTLs f n 14 P W (zbg f n t) (.bad fl)
theorem zTd_x {f : Nat → Int32} {n t P W g a p w c : Int} {fl : Int32} (h : zTd f n t P W g fl.toInt c a p w) (x : g = 0 ∨ ¬ fl.toInt = -1) : (-1) = fl ∧ zTwR f n t P W p w ∨ 0 ≤ fl.toInt ∧ zTwB f n t P W fl.toInt := by
  rcases h with ⟨h1, h2, _⟩ | ⟨_, h2, h3⟩ | h
  · exact absurd x (fun o => o.elim (fun q => by omega) (fun q => q h2))
  · refine Or.inl ⟨zm1 h2, ?_⟩
    rcases h3 with ⟨_, h3⟩ | ⟨_, _, h5, h6⟩
    · exact Or.inl h3
    · exact Or.inr ⟨h5, _, h6⟩
  · exact Or.inr ⟨h.1, h.2⟩
theorem zTwR_det {f : Nat → Int32} {n t P W p w p' w' : Int} (h : zTwR f n t P W p w) (h' : zTwR f n t P W p' w') : p = p' ∧ w = w' := by
  rcases h with ⟨a, b, c⟩ | ⟨a, m, c⟩
  · rcases h' with ⟨a', b', c'⟩ | ⟨a', _⟩
    · exact ⟨b.trans b'.symm, c.trans c'.symm⟩
    · exact absurd a a'
  · rcases h' with ⟨a', _⟩ | ⟨_, m', c'⟩
    · exact absurd a' a
    · exact (zTq.okj (zTLs_det f n 14 _ _ _ _ _ c c')).2
theorem zTwRB {f : Nat → Int32} {n t P W p w fl : Int} (h : zTwR f n t P W p w) (h' : zTwB f n t P W fl) : False := by
  rcases h with ⟨a, _⟩ | ⟨_, m, c⟩
  · exact h'.1 a
  · exact zTq.ob (zTLs_det f n 14 _ _ _ _ _ c h'.2)
theorem zTwB_det {f : Nat → Int32} {n t P W q q' : Int} (h : zTwB f n t P W q) (h' : zTwB f n t P W q') : q = q' := zTq.badj (zTLs_det f n 14 _ _ _ _ _ h.2 h'.2)
set_option maxRecDepth 100000 in
set_option maxHeartbeats 4000000 in
theorem m_figuresX (l : Launch) (g : zG) (o : Nat) (a : Nat → Nat) (th : Int32) (hi : Int32) (ac : Int32) (tp : Int32) (en : Int32) (tA : Int32) (fl : Int32) (de : Int32) (iD : Int32) (iO : Int32) (tU : Int32) (fm : Nat → Int32) (fk : Nat → Int32) (fa : Nat → Int32) (fc : Nat → Int32) (ft : Nat → Int32) (ff : Nat → Int32) (fb : Nat → Int32) (fi : Nat → Int32) (lw : Int32) (hg : Int32) (hen : 0 ≤ en.toInt ∧ en.toInt ≤ 400) (htA : 0 ≤ tA.toInt ∧ tA.toInt ≤ en.toInt + 7 - de.toInt) (hde : 0 ≤ de.toInt ∧ de.toInt ≤ 6) (hfl0 : 0 ≤ fl.toInt) : zM' g l yX12_figures (Cond.code yX12_figures cX12_figures 5 (some .int) :: zB) ({ frames := 0, cells := 0, slots := 0, locals := 0 } : Room) [.ref o, .int lw, .int hg] [bMo g o a th hi ac tp (-1) en tA fl de iD iO tU fm fk fa fc ft ff fb fi] (fun _ : Unit => some (.int 0)) (fun _ : Unit => True) (fun _ : Unit => [bMo g o a th hi ac tp (-1) en tA fl de iD iO tU fm fk fa fc ft ff fb fi]) := by
  refine zM'.of (cc := cX12_figures) (maxL := 5) (rt := (some .int)) (by decide) rfl (Nat.le_of_ble_eq_true rfl) ?_
  intro p e s m args below meth c A ls St hr hlocks hin hK hT hA hP hD hS hl
  obtain ⟨hx, hb, hml, hown, hts⟩ := id St
  have hl : lv_has ls 5 [(0, .ref o), (1, .int lw), (2, .int hg)] := hl
  refine lv_aload_n hx hb dX12_figures_0 rfl (lv_at hl 0 rfl) ?_
  refine va_get (D := g.1) (ci := 10) (v := .int fl) (C := RX12) (T := TX12) (N := 20) hx hb hts izRX12 hown hK hP 0 rfl rfl 12 (by decide) (hts _ k820) (fun _ h9 => h9) rfl dX12_figures_1 ?_
  refine lv_iconst (v := (-1)) hx hb dX12_figures_4 (by decide) ?_
  refine lv_icmp_eq (tgt := 10) hx hb dX12_figures_5 (by decide) (fun cb9 => ?_) (fun cb9 => ?_)
  · skip
    exact absurd (show fl.toInt = (-1) from zeq cb9 rfl (by decide)) (zDeq2 (a := 0) (b := (-1)) hfl0 (Int.le_refl _) (by decide))
  · skip
    have c2 : ¬ fl.toInt = (-1) := zne cb9 rfl (by decide)
    refine lv_iconst (v := 0) hx hb dX12_figures_8 (by decide) ?_
    have hP : va_P g.1 vwCl (List.flatten [bMo g o a th hi ac tp (-1) en tA fl de iD iO tU fm fk fa fc ft ff fb fi]) s.heap := hP
    have hD : va_D A (List.flatten [bMo g o a th hi ac tp (-1) en tA fl de iD iO tU fm fk fa fc ft ff fb fi]) := hD
    exact mret_i hx hb hr hlocks hS (Nat.le_of_ble_eq_true rfl) (Nat.le_of_ble_eq_true rfl) dX12_figures_9 () rfl trivial hP hD
set_option maxRecDepth 100000 in
set_option maxHeartbeats 4000000 in
theorem m_afterX (l : Launch) (g : zG) (o : Nat) (a : Nat → Nat) (th : Int32) (hi : Int32) (ac : Int32) (tp : Int32) (en : Int32) (tA : Int32) (fl : Int32) (de : Int32) (iD : Int32) (iO : Int32) (tU : Int32) (fm : Nat → Int32) (fk : Nat → Int32) (fa : Nat → Int32) (fc : Nat → Int32) (ft : Nat → Int32) (ff : Nat → Int32) (fb : Nat → Int32) (fi : Nat → Int32) (lw : Int32) (hg : Int32) (k : Nat) (j : Nat) (q : String × Nat × String × List Int32) (hen : 0 ≤ en.toInt ∧ en.toInt ≤ 400) (htA : 0 ≤ tA.toInt ∧ tA.toInt ≤ en.toInt + 7 - de.toInt) (hde : 0 ≤ de.toInt ∧ de.toInt ≤ 6) (hfl0 : 0 ≤ fl.toInt) (hk9 : k = g.2 (10 + 2 * j)) (hj9 : zLit[j]? = some q) (hql : 1 ≤ q.2.2.2.length ∧ q.2.2.2.length ≤ 7) (hbs : ∀ i : Nat, i < q.2.2.2.length → 97 ≤ (q.2.2.2.getD i 0).toInt ∧ (q.2.2.2.getD i 0).toInt ≤ 122) : zM' g l yX12_after (Cond.code yX12_after cX12_after 4 (some .int) :: zB) ({ frames := 1, cells := 0, slots := 0, locals := 24 } : Room) [.ref o, .ref k, .int lw, .int hg] [bMo g o a th hi ac tp (-1) en tA fl de iD iO tU fm fk fa fc ft ff fb fi] (fun _ : Unit => some (.int 0)) (fun _ : Unit => True) (fun _ : Unit => [bMo g o a th hi ac tp (-1) en tA fl de iD iO tU fm fk fa fc ft ff fb fi]) := by
  refine zM'.of (cc := cX12_after) (maxL := 4) (rt := (some .int)) (by decide) rfl (Nat.le_of_ble_eq_true rfl) ?_
  intro p e s m args below meth c A ls St hr hlocks hin hK hT hA hP hD hS hl
  obtain ⟨hx, hb, hml, hown, hts⟩ := id St
  have hl : lv_has ls 4 [(0, .ref o), (1, .ref k), (2, .int lw), (3, .int hg)] := hl
  refine lv_aload_n hx hb dX12_after_0 rfl (lv_at hl 0 rfl) ?_
  refine va_get (D := g.1) (ci := 10) (v := .int fl) (C := RX12) (T := TX12) (N := 20) hx hb hts izRX12 hown hK hP 0 rfl rfl 12 (by decide) (hts _ k820) (fun _ h9 => h9) rfl dX12_after_1 ?_
  refine lv_iconst (v := (-1)) hx hb dX12_after_4 (by decide) ?_
  refine lv_icmp_ne (tgt := 24) hx hb dX12_after_5 (by decide) (fun cb9 => ?_) (fun cb9 => ?_)
  · skip
    have c1 : ¬ fl.toInt = (-1) := zne cb9 rfl (by decide)
    refine lv_aload_n hx hb dX12_after_24 rfl (lv_at hl 0 rfl) ?_
    refine lv_iload_n hx hb dX12_after_25 rfl (lv_at hl 2 rfl) ?_
    refine lv_iload_n hx hb dX12_after_26 rfl (lv_at hl 3 rfl) ?_
    refine mcallV' (g := g) (q0 := 0) (ci := 10) (As := [.int lw, .int hg]) (rest := []) St hK hT hA hP hD hS hl.1 [0] [] rfl rfl rfl (m_figuresX l g o a th hi ac tp en tA fl de iD iO tU fm fk fa fc ft ff fb fi lw hg hen htA hde hfl0) (cwV 2 hts (zgL (zl4 k902 k903 k904 k839) k898) rfl rfl rfl (by decide +kernel) ⟨Nat.le_of_ble_eq_true rfl, Nat.le_of_ble_eq_true rfl⟩) rfl rfl rfl rfl (Nat.le_of_ble_eq_true rfl) dX12_after_27 ⟨(Nat.le_of_ble_eq_true rfl), (Nat.le_of_ble_eq_true rfl)⟩ (fun _u H locs hq2 hP hD hS => ?_)
    have hP : va_P g.1 vwCl (List.flatten [bMo g o a th hi ac tp (-1) en tA fl de iD iO tU fm fk fa fc ft ff fb fi]) H := hP
    have hD : va_D A (List.flatten [bMo g o a th hi ac tp (-1) en tA fl de iD iO tU fm fk fa fc ft ff fb fi]) := hD
    refine W.widen (k := 0) (n := 0) (Nat.le_of_ble_eq_true rfl) (Nat.le_of_ble_eq_true rfl) ?_
    refine W.eq (g2 := F0 m 30 ls [.int 0]) rfl ?_
    have hP : va_P g.1 vwCl (List.flatten [bMo g o a th hi ac tp (-1) en tA fl de iD iO tU fm fk fa fc ft ff fb fi]) H := hP
    have hD : va_D A (List.flatten [bMo g o a th hi ac tp (-1) en tA fl de iD iO tU fm fk fa fc ft ff fb fi]) := hD
    exact mret_i hx hb hr hlocks hS (Nat.le_of_ble_eq_true rfl) (Nat.le_of_ble_eq_true rfl) dX12_after_30 () rfl trivial hP hD
  · skip
    exact absurd (show fl.toInt = (-1) from zeq cb9 rfl (by decide)) (zDeq2 (a := 0) (b := (-1)) hfl0 (Int.le_refl _) (by decide))
set_option maxRecDepth 100000 in
set_option maxHeartbeats 4000000 in
theorem m_wrongX (l : Launch) (g : zG) (o : Nat) (a : Nat → Nat) (th : Int32) (hi : Int32) (ac : Int32) (tp : Int32) (ba : Int32) (en : Int32) (tA : Int32) (fl : Int32) (de : Int32) (iD : Int32) (iO : Int32) (tU : Int32) (fm : Nat → Int32) (fk : Nat → Int32) (fa : Nat → Int32) (fc : Nat → Int32) (ft : Nat → Int32) (ff : Nat → Int32) (fb : Nat → Int32) (fi : Nat → Int32) (where_ : Int32) (hfl0 : 0 ≤ fl.toInt) : zM' g l yX12_wrong (Cond.code yX12_wrong cX12_wrong 2 none :: zB) ({ frames := 0, cells := 0, slots := 0, locals := 0 } : Room) [.ref o, .int where_] [bMo g o a th hi ac tp ba en tA fl de iD iO tU fm fk fa fc ft ff fb fi] (fun _ : Unit => none) (fun _ : Unit => True) (fun _ : Unit => [bMo g o a th hi ac tp ba en tA fl de iD iO tU fm fk fa fc ft ff fb fi]) := by
  refine zM'.of (cc := cX12_wrong) (maxL := 2) (rt := none) (by decide) rfl (Nat.le_of_ble_eq_true rfl) ?_
  intro p e s m args below meth c A ls St hr hlocks hin hK hT hA hP hD hS hl
  obtain ⟨hx, hb, hml, hown, hts⟩ := id St
  have hl : lv_has ls 2 [(0, .ref o), (1, .int where_)] := hl
  refine lv_aload_n hx hb dX12_wrong_0 rfl (lv_at hl 0 rfl) ?_
  refine va_get (D := g.1) (ci := 10) (v := .int fl) (C := RX12) (T := TX12) (N := 20) hx hb hts izRX12 hown hK hP 0 rfl rfl 12 (by decide) (hts _ k820) (fun _ h9 => h9) rfl dX12_wrong_1 ?_
  refine lv_iconst (v := (-1)) hx hb dX12_wrong_4 (by decide) ?_
  refine lv_icmp_ne (tgt := 13) hx hb dX12_wrong_5 (by decide) (fun cb9 => ?_) (fun cb9 => ?_)
  · skip
    have c1 : ¬ fl.toInt = (-1) := zne cb9 rfl (by decide)
    have hP : va_P g.1 vwCl (List.flatten [bMo g o a th hi ac tp ba en tA fl de iD iO tU fm fk fa fc ft ff fb fi]) s.heap := hP
    have hD : va_D A (List.flatten [bMo g o a th hi ac tp ba en tA fl de iD iO tU fm fk fa fc ft ff fb fi]) := hD
    exact mret_v hx hb hr hlocks hS (Nat.le_of_ble_eq_true rfl) (Nat.le_of_ble_eq_true rfl) dX12_wrong_13 () rfl trivial hP hD
  · skip
    exact absurd (show fl.toInt = (-1) from zeq cb9 rfl (by decide)) (zDeq2 (a := 0) (b := (-1)) hfl0 (Int.le_refl _) (by decide))
set_option maxRecDepth 100000 in
set_option maxHeartbeats 4000000 in
theorem m_afterF (l : Launch) (g : zG) (o : Nat) (a : Nat → Nat) (th : Int32) (hi : Int32) (ac : Int32) (tp : Int32) (en : Int32) (tA : Int32) (de : Int32) (iD : Int32) (iO : Int32) (tU : Int32) (fm : Nat → Int32) (fk : Nat → Int32) (fa : Nat → Int32) (fc : Nat → Int32) (ft : Nat → Int32) (ff : Nat → Int32) (fb : Nat → Int32) (fi : Nat → Int32) (lw : Int32) (hg : Int32) (k : Nat) (j : Nat) (q : String × Nat × String × List Int32) (hen : 0 ≤ en.toInt ∧ en.toInt ≤ 400) (htA : 0 ≤ tA.toInt ∧ tA.toInt ≤ en.toInt + 7 - de.toInt) (hde : 0 ≤ de.toInt ∧ de.toInt ≤ 6) (hk9 : k = g.2 (10 + 2 * j)) (hj9 : zLit[j]? = some q) (hql : 1 ≤ q.2.2.2.length ∧ q.2.2.2.length ≤ 7) (hbs : ∀ i : Nat, i < q.2.2.2.length → 97 ≤ (q.2.2.2.getD i 0).toInt ∧ (q.2.2.2.getD i 0).toInt ≤ 122) : zM' g l yX12_after (Cond.code yX12_after cX12_after 4 (some .int) :: zB) ({ frames := 5, cells := 0, slots := 0, locals := 108 } : Room) [.ref o, .ref k, .int lw, .int hg] [bMo g o a th hi ac tp (-1) en tA (-1) de iD iO tU fm fk fa fc ft ff fb fi] (fun u : Int32 × Int32 × Int32 => (fun (at2 : Int32) (fl2 : Int32) (r : Int32) => some (.int r)) (u.1) (u.2.1) (u.2.2)) (fun u : Int32 × Int32 × Int32 => (fun (at2 : Int32) (fl2 : Int32) (r : Int32) => (0 ≤ at2.toInt ∧ at2.toInt ≤ en.toInt + 7 - de.toInt) ∧ (tA.toInt ≤ at2.toInt) ∧ (zisW ft en.toInt (zbg ft en.toInt tA.toInt) q.2.2.2 ∧ zNu ft en.toInt (znt ft en.toInt (zbg ft en.toInt tA.toInt)) lw.toInt hg.toInt r ∧ at2.toInt = znx ft en.toInt (znt ft en.toInt (zbg ft en.toInt tA.toInt)) ∧ (-1) = fl2 ∨ zisW ft en.toInt (zbg ft en.toInt tA.toInt) q.2.2.2 ∧ (¬ ∃ v9, zNu ft en.toInt (znt ft en.toInt (zbg ft en.toInt tA.toInt)) lw.toInt hg.toInt v9) ∧ fl2.toInt = znt ft en.toInt (zbg ft en.toInt tA.toInt) ∨ ¬ zisW ft en.toInt (zbg ft en.toInt tA.toInt) q.2.2.2 ∧ fl2.toInt = zbg ft en.toInt tA.toInt)) (u.1) (u.2.1) (u.2.2)) (fun u : Int32 × Int32 × Int32 => (fun (at2 : Int32) (fl2 : Int32) (r : Int32) => [bMo g o a th hi ac tp (-1) en at2 fl2 de iD iO tU fm fk fa fc ft ff fb fi]) (u.1) (u.2.1) (u.2.2)) := by
  refine zM'.of (cc := cX12_after) (maxL := 4) (rt := (some .int)) (by decide) rfl (Nat.le_of_ble_eq_true rfl) ?_
  intro p e s m args below meth c A ls St hr hlocks hin hK hT hA hP hD hS hl
  obtain ⟨hx, hb, hml, hown, hts⟩ := id St
  have hl : lv_has ls 4 [(0, .ref o), (1, .ref k), (2, .int lw), (3, .int hg)] := hl
  refine lv_aload_n hx hb dX12_after_0 rfl (lv_at hl 0 rfl) ?_
  refine va_get (D := g.1) (ci := 10) (v := .int (-1)) (C := RX12) (T := TX12) (N := 20) hx hb hts izRX12 hown hK hP 0 rfl rfl 12 (by decide) (hts _ k820) (fun _ h9 => h9) rfl dX12_after_1 ?_
  refine lv_iconst (v := (-1)) hx hb dX12_after_4 (by decide) ?_
  refine lv_icmp_ne (tgt := 24) hx hb dX12_after_5 (by decide) (fun c1 => absurd (by decide) c1) (fun _ => ?_)
  refine lv_aload_n hx hb dX12_after_8 rfl (lv_at hl 0 rfl) ?_
  refine lv_aload_n hx hb dX12_after_9 rfl (lv_at hl 1 rfl) ?_
  refine mcallV' (g := g) (q0 := 0) (ci := 10) (As := [.ref k]) (rest := []) St hK hT hA hP hD hS hl.1 [0] [] rfl rfl rfl (m_hasF l g o a th hi ac tp en tA (-1) de iD iO tU fm fk fa fc ft ff fb fi k j q hen htA hde hk9 hj9 hql hbs) (cwV 1 hts (zgL (zl4 k899 k900 k901 k839) k889) rfl rfl rfl (by decide +kernel) ⟨Nat.le_of_ble_eq_true rfl, Nat.le_of_ble_eq_true rfl⟩) rfl rfl rfl rfl (Nat.le_of_ble_eq_true rfl) dX12_after_10 ⟨(Nat.le_of_ble_eq_true rfl), (Nat.le_of_ble_eq_true rfl)⟩ (fun u_ H locs hq4 hP hD hS => ?_)
  obtain ⟨at2_2, r_3⟩ := u_
  replace hq4 : (0 ≤ at2_2.toInt ∧ at2_2.toInt ≤ en.toInt + 7 - de.toInt) ∧ (tA.toInt ≤ at2_2.toInt) ∧ (r_3 = 1 ∧ zisW ft en.toInt (zbg ft en.toInt tA.toInt) q.2.2.2 ∧ at2_2.toInt = znx ft en.toInt (zbg ft en.toInt tA.toInt) ∧ tA.toInt < at2_2.toInt ∧ at2_2.toInt ≤ en.toInt ∨ r_3 = 0 ∧ ¬ zisW ft en.toInt (zbg ft en.toInt tA.toInt) q.2.2.2 ∧ at2_2.toInt = zbg ft en.toInt tA.toInt) := hq4
  have hP : va_P g.1 vwCl (List.flatten [bMo g o a th hi ac tp (-1) en at2_2 (-1) de iD iO tU fm fk fa fc ft ff fb fi]) H := hP
  have hD : va_D A (List.flatten [bMo g o a th hi ac tp (-1) en at2_2 (-1) de iD iO tU fm fk fa fc ft ff fb fi]) := hD
  refine W.widen (k := 0) (n := 0) (Nat.le_of_ble_eq_true rfl) (Nat.le_of_ble_eq_true rfl) ?_
  refine W.eq (g2 := F0 m 13 ls [.int r_3]) rfl ?_
  obtain ⟨hq4_0, hq4_1, hq4_2⟩ := hq4
  rcases hq4_2 with ⟨rfl, hq4_k, hq4_km⟩ | ⟨rfl, hq4_k, hq4_km⟩
  · skip
    refine lv_if_ne (tgt := 24) hx hb dX12_after_13 (by decide) (fun _ => ?_) (fun c5 => absurd c5 (by decide))
    refine lv_aload_n hx hb dX12_after_24 rfl (lv_at hl 0 rfl) ?_
    refine lv_iload_n hx hb dX12_after_25 rfl (lv_at hl 2 rfl) ?_
    refine lv_iload_n hx hb dX12_after_26 rfl (lv_at hl 3 rfl) ?_
    refine mcallV' (g := g) (q0 := 0) (ci := 10) (As := [.int lw, .int hg]) (rest := []) St hK hT hA hP hD hS hl.1 [0] [] rfl rfl rfl (m_figuresF l g o a th hi ac tp en at2_2 de iD iO tU fm fk fa fc ft ff fb fi lw hg hen hq4_0 hde) (cwV 2 hts (zgL (zl4 k902 k903 k904 k839) k898) rfl rfl rfl (by decide +kernel) ⟨Nat.le_of_ble_eq_true rfl, Nat.le_of_ble_eq_true rfl⟩) rfl rfl rfl rfl (Nat.le_of_ble_eq_true rfl) dX12_after_27 ⟨(Nat.le_of_ble_eq_true rfl), (Nat.le_of_ble_eq_true rfl)⟩ (fun u_ H locs hq9 hP hD hS => ?_)
    obtain ⟨at2_6, fl2_7, r_8⟩ := u_
    replace hq9 : (0 ≤ at2_6.toInt ∧ at2_6.toInt ≤ en.toInt + 7 - de.toInt) ∧ (at2_2.toInt ≤ at2_6.toInt) ∧ (zNu ft en.toInt (zbg ft en.toInt at2_2.toInt) lw.toInt hg.toInt r_8 ∧ at2_6.toInt = znx ft en.toInt (zbg ft en.toInt at2_2.toInt) ∧ (-1) = fl2_7 ∨ fl2_7.toInt = zbg ft en.toInt at2_2.toInt ∧ ¬ ∃ v9, zNu ft en.toInt (zbg ft en.toInt at2_2.toInt) lw.toInt hg.toInt v9) := hq9
    have hP : va_P g.1 vwCl (List.flatten [bMo g o a th hi ac tp (-1) en at2_6 fl2_7 de iD iO tU fm fk fa fc ft ff fb fi]) H := hP
    have hD : va_D A (List.flatten [bMo g o a th hi ac tp (-1) en at2_6 fl2_7 de iD iO tU fm fk fa fc ft ff fb fi]) := hD
    refine W.widen (k := 0) (n := 0) (Nat.le_of_ble_eq_true rfl) (Nat.le_of_ble_eq_true rfl) ?_
    refine W.eq (g2 := F0 m 30 ls [.int r_8]) rfl ?_
    obtain ⟨hq9_0, hq9_1, hq9_2⟩ := hq9
    rcases hq9_2 with ⟨hq9_k, hq9_km, rfl⟩ | ⟨hq9_k, hq9_km⟩
    · skip
      have hP : va_P g.1 vwCl (List.flatten [bMo g o a th hi ac tp (-1) en at2_6 (-1) de iD iO tU fm fk fa fc ft ff fb fi]) H := hP
      have hD : va_D A (List.flatten [bMo g o a th hi ac tp (-1) en at2_6 (-1) de iD iO tU fm fk fa fc ft ff fb fi]) := hD
      exact mret_i hx hb hr hlocks hS (Nat.le_of_ble_eq_true rfl) (Nat.le_of_ble_eq_true rfl) dX12_after_30 (at2_6, -1, r_8) rfl (show (0 ≤ at2_6.toInt ∧ at2_6.toInt ≤ en.toInt + 7 - de.toInt) ∧ (tA.toInt ≤ at2_6.toInt) ∧ (zisW ft en.toInt (zbg ft en.toInt tA.toInt) q.2.2.2 ∧ zNu ft en.toInt (znt ft en.toInt (zbg ft en.toInt tA.toInt)) lw.toInt hg.toInt r_8 ∧ at2_6.toInt = znx ft en.toInt (znt ft en.toInt (zbg ft en.toInt tA.toInt)) ∧ (-1) = (-1) ∨ zisW ft en.toInt (zbg ft en.toInt tA.toInt) q.2.2.2 ∧ (¬ ∃ v9, zNu ft en.toInt (znt ft en.toInt (zbg ft en.toInt tA.toInt)) lw.toInt hg.toInt v9) ∧ ((-1) : Int32).toInt = znt ft en.toInt (zbg ft en.toInt tA.toInt) ∨ ¬ zisW ft en.toInt (zbg ft en.toInt tA.toInt) q.2.2.2 ∧ ((-1) : Int32).toInt = zbg ft en.toInt tA.toInt) from ⟨(by first | assumption | omega | exact Or.inl (by decide) | exact Or.inr (by omega)), (by first | assumption | omega | exact Or.inl (by decide) | exact Or.inr (by omega)), (Or.inl ⟨hq4_k, (zNt_v hq4_km.1 hq9_k), (zNt_x hq4_km.1 hq9_km), rfl⟩)⟩) hP hD
    · skip
      have hP : va_P g.1 vwCl (List.flatten [bMo g o a th hi ac tp (-1) en at2_6 fl2_7 de iD iO tU fm fk fa fc ft ff fb fi]) H := hP
      have hD : va_D A (List.flatten [bMo g o a th hi ac tp (-1) en at2_6 fl2_7 de iD iO tU fm fk fa fc ft ff fb fi]) := hD
      exact mret_i hx hb hr hlocks hS (Nat.le_of_ble_eq_true rfl) (Nat.le_of_ble_eq_true rfl) dX12_after_30 (at2_6, fl2_7, r_8) rfl (show (0 ≤ at2_6.toInt ∧ at2_6.toInt ≤ en.toInt + 7 - de.toInt) ∧ (tA.toInt ≤ at2_6.toInt) ∧ (zisW ft en.toInt (zbg ft en.toInt tA.toInt) q.2.2.2 ∧ zNu ft en.toInt (znt ft en.toInt (zbg ft en.toInt tA.toInt)) lw.toInt hg.toInt r_8 ∧ at2_6.toInt = znx ft en.toInt (znt ft en.toInt (zbg ft en.toInt tA.toInt)) ∧ (-1) = fl2_7 ∨ zisW ft en.toInt (zbg ft en.toInt tA.toInt) q.2.2.2 ∧ (¬ ∃ v9, zNu ft en.toInt (znt ft en.toInt (zbg ft en.toInt tA.toInt)) lw.toInt hg.toInt v9) ∧ fl2_7.toInt = znt ft en.toInt (zbg ft en.toInt tA.toInt) ∨ ¬ zisW ft en.toInt (zbg ft en.toInt tA.toInt) q.2.2.2 ∧ fl2_7.toInt = zbg ft en.toInt tA.toInt) from ⟨(by first | assumption | omega | exact Or.inl (by decide) | exact Or.inr (by omega)), (by first | assumption | omega | exact Or.inl (by decide) | exact Or.inr (by omega)), (Or.inr (Or.inl ⟨hq4_k, (zNt_n hq4_km.1 hq9_km), (zNt_q hq4_km.1 hq9_k)⟩))⟩) hP hD
  · skip
    refine lv_if_ne (tgt := 24) hx hb dX12_after_13 (by decide) (fun c11 => absurd (by decide) c11) (fun _ => ?_)
    refine lv_aload_n hx hb dX12_after_16 rfl (lv_at hl 0 rfl) ?_
    refine lv_aload_n hx hb dX12_after_17 rfl (lv_at hl 0 rfl) ?_
    refine va_get (D := g.1) (ci := 10) (v := .int at2_2) (C := RX12) (T := TX12) (N := 20) hx hb hts izRX12 hown hK hP 0 rfl rfl 11 (by decide) (hts _ k878) (fun _ h9 => h9) rfl dX12_after_18 ?_
    refine mcallV' (g := g) (q0 := 0) (ci := 10) (As := [.int at2_2]) (rest := []) St hK hT hA hP hD hS hl.1 [0] [] rfl rfl rfl (m_wrongF l g o a th hi ac tp (-1) en at2_2 de iD iO tU fm fk fa fc ft ff fb fi at2_2 ) (cwV 1 hts (zgL (zl4 k895 k896 k897 k839) k890) rfl rfl rfl (by decide +kernel) ⟨Nat.le_of_ble_eq_true rfl, Nat.le_of_ble_eq_true rfl⟩) rfl rfl rfl rfl (Nat.le_of_ble_eq_true rfl) dX12_after_21 ⟨(Nat.le_of_ble_eq_true rfl), (Nat.le_of_ble_eq_true rfl)⟩ (fun _u H locs hq12 hP hD hS => ?_)
    have hP : va_P g.1 vwCl (List.flatten [bMo g o a th hi ac tp (-1) en at2_2 at2_2 de iD iO tU fm fk fa fc ft ff fb fi]) H := hP
    have hD : va_D A (List.flatten [bMo g o a th hi ac tp (-1) en at2_2 at2_2 de iD iO tU fm fk fa fc ft ff fb fi]) := hD
    refine W.widen (k := 0) (n := 0) (Nat.le_of_ble_eq_true rfl) (Nat.le_of_ble_eq_true rfl) ?_
    refine W.eq (g2 := F0 m 24 ls []) rfl ?_
    refine lv_aload_n hx hb dX12_after_24 rfl (lv_at hl 0 rfl) ?_
    refine lv_iload_n hx hb dX12_after_25 rfl (lv_at hl 2 rfl) ?_
    refine lv_iload_n hx hb dX12_after_26 rfl (lv_at hl 3 rfl) ?_
    refine mcallV' (g := g) (q0 := 0) (ci := 10) (As := [.int lw, .int hg]) (rest := []) St hK hT hA hP hD hS hl.1 [0] [] rfl rfl rfl (m_figuresX l g o a th hi ac tp en at2_2 at2_2 de iD iO tU fm fk fa fc ft ff fb fi lw hg hen hq4_0 hde (by first | assumption | omega | decide | exact Or.inl (by decide) | exact Or.inr (by decide))) (cwV 2 hts (zgL (zl4 k902 k903 k904 k839) k898) rfl rfl rfl (by decide +kernel) ⟨Nat.le_of_ble_eq_true rfl, Nat.le_of_ble_eq_true rfl⟩) rfl rfl rfl rfl (Nat.le_of_ble_eq_true rfl) dX12_after_27 ⟨(Nat.le_of_ble_eq_true rfl), (Nat.le_of_ble_eq_true rfl)⟩ (fun _u H locs hq13 hP hD hS => ?_)
    have hP : va_P g.1 vwCl (List.flatten [bMo g o a th hi ac tp (-1) en at2_2 at2_2 de iD iO tU fm fk fa fc ft ff fb fi]) H := hP
    have hD : va_D A (List.flatten [bMo g o a th hi ac tp (-1) en at2_2 at2_2 de iD iO tU fm fk fa fc ft ff fb fi]) := hD
    refine W.widen (k := 0) (n := 0) (Nat.le_of_ble_eq_true rfl) (Nat.le_of_ble_eq_true rfl) ?_
    refine W.eq (g2 := F0 m 30 ls [.int 0]) rfl ?_
    have hP : va_P g.1 vwCl (List.flatten [bMo g o a th hi ac tp (-1) en at2_2 at2_2 de iD iO tU fm fk fa fc ft ff fb fi]) H := hP
    have hD : va_D A (List.flatten [bMo g o a th hi ac tp (-1) en at2_2 at2_2 de iD iO tU fm fk fa fc ft ff fb fi]) := hD
    exact mret_i hx hb hr hlocks hS (Nat.le_of_ble_eq_true rfl) (Nat.le_of_ble_eq_true rfl) dX12_after_30 (at2_2, at2_2, (0 : Int32)) rfl (show (0 ≤ at2_2.toInt ∧ at2_2.toInt ≤ en.toInt + 7 - de.toInt) ∧ (tA.toInt ≤ at2_2.toInt) ∧ (zisW ft en.toInt (zbg ft en.toInt tA.toInt) q.2.2.2 ∧ zNu ft en.toInt (znt ft en.toInt (zbg ft en.toInt tA.toInt)) lw.toInt hg.toInt 0 ∧ at2_2.toInt = znx ft en.toInt (znt ft en.toInt (zbg ft en.toInt tA.toInt)) ∧ (-1) = at2_2 ∨ zisW ft en.toInt (zbg ft en.toInt tA.toInt) q.2.2.2 ∧ (¬ ∃ v9, zNu ft en.toInt (znt ft en.toInt (zbg ft en.toInt tA.toInt)) lw.toInt hg.toInt v9) ∧ at2_2.toInt = znt ft en.toInt (zbg ft en.toInt tA.toInt) ∨ ¬ zisW ft en.toInt (zbg ft en.toInt tA.toInt) q.2.2.2 ∧ at2_2.toInt = zbg ft en.toInt tA.toInt) from ⟨(by first | assumption | omega | exact Or.inl (by decide) | exact Or.inr (by omega)), (by first | assumption | omega | exact Or.inl (by decide) | exact Or.inr (by omega)), (Or.inr (Or.inr ⟨hq4_k, hq4_km⟩))⟩) hP hD
set_option maxRecDepth 100000 in
set_option maxHeartbeats 8000000 in
theorem m_personLineF (l : Launch) (g : zG) (o : Nat) (a : Nat → Nat) (th : Int32) (hi : Int32) (ac : Int32) (tp : Int32) (en : Int32) (tA : Int32) (de : Int32) (iD : Int32) (iO : Int32) (tU : Int32) (fm : Nat → Int32) (fk : Nat → Int32) (fa : Nat → Int32) (fc : Nat → Int32) (ft : Nat → Int32) (ff : Nat → Int32) (fb : Nat → Int32) (fi : Nat → Int32) (b0 : Int32) (rfm : rM fm) (hen : 0 ≤ en.toInt ∧ en.toInt ≤ 400) (htA : 0 ≤ tA.toInt ∧ tA.toInt ≤ en.toInt + 7 - de.toInt) (hde : 0 ≤ de.toInt ∧ de.toInt ≤ 6) (hb0 : 0 ≤ b0.toInt) (hat : tA.toInt = znx ft en.toInt b0.toInt) : zM' g l yX12_personLine (Cond.code yX12_personLine cX12_personLine 6 none :: zB) ({ frames := 6, cells := 0, slots := 0, locals := 131 } : Room) [.ref o, .int b0] [bMo g o a th hi ac tp (-1) en tA (-1) de iD iO tU fm fk fa fc ft ff fb fi] (fun u : Int32 × Int32 × (Nat → Int32) => (fun (at2 : Int32) (fl2 : Int32) (fm2 : Nat → Int32) => none) (u.1) (u.2.1) (u.2.2)) (fun u : Int32 × Int32 × (Nat → Int32) => (fun (at2 : Int32) (fl2 : Int32) (fm2 : Nat → Int32) => (rM fm2) ∧ (0 ≤ at2.toInt ∧ at2.toInt ≤ en.toInt + 7 - de.toInt) ∧ (tA.toInt ≤ at2.toInt) ∧ ((fm2 0).toInt = (fm 0).toInt) ∧ ((-1) = fl2 ∧ zTO (zTPerson ft en.toInt (fm 3).toInt b0.toInt) (zbg ft en.toInt at2.toInt) (fm 3).toInt (fm2 3).toInt (fm 4).toInt (fm2 4).toInt ∨ 0 ≤ fl2.toInt ∧ zTPerson ft en.toInt (fm 3).toInt b0.toInt (.bad fl2.toInt))) (u.1) (u.2.1) (u.2.2)) (fun u : Int32 × Int32 × (Nat → Int32) => (fun (at2 : Int32) (fl2 : Int32) (fm2 : Nat → Int32) => [bMo g o a th hi ac tp (-1) en at2 fl2 de iD iO tU fm2 fk fa fc ft ff fb fi]) (u.1) (u.2.1) (u.2.2)) := by
  refine zM'.of (cc := cX12_personLine) (maxL := 6) (rt := none) (by decide) rfl (Nat.le_of_ble_eq_true rfl) ?_
  intro p e s m args below meth c A ls St hr hlocks hin hK hT hA hP hD hS hl
  obtain ⟨hx, hb, hml, hown, hts⟩ := id St
  have hl : lv_has ls 6 [(0, .ref o), (1, .int b0)] := hl
  refine lv_aload_n hx hb dX12_personLine_0 rfl (lv_at hl 0 rfl) ?_
  refine va_get (D := g.1) (ci := 10) (v := .ref (a 0)) (C := RX12) (T := TX12) (N := 20) hx hb hts izRX12 hown hK hP 0 rfl rfl 1 (by decide) (hts _ k815) (fun _ h9 => h9) rfl dX12_personLine_1 ?_
  refine lv_iconst (v := 3) hx hb dX12_personLine_4 (by decide) ?_
  refine va_iald hx hb hK hP 1 0 rfl rfl (zin rfl) dX12_personLine_5 ?_
  refine zgq (r := fm 3) rfl (rM3 rfm) (fun x_1 hx_1 => ?_)
  refine lv_bipush (v := 8) hx hb dX12_personLine_6 (by decide) ?_
  refine lv_icmp_ne (tgt := 16) hx hb dX12_personLine_8 (by decide) (fun cb9 => ?_) (fun cb9 => ?_)
  · skip
    have c2 : ¬ x_1.toInt = 8 := zne cb9 rfl (by decide)
    have n3 : x_1.toInt ≤ 7 := zN2 c2 hx_1.2.1 (by decide)
    refine lv_aload_n hx hb dX12_personLine_16 rfl (lv_at hl 0 rfl) ?_
    refine lv_iconst (v := 0) hx hb dX12_personLine_17 (by decide) ?_
    refine lv_bipush (v := 99) hx hb dX12_personLine_18 (by decide) ?_
    have hL0 : (0 : Int32).toInt = 0 := by decide
    have hL99 : (99 : Int32).toInt = 99 := by decide
    refine mcallV' (g := g) (q0 := 0) (ci := 10) (As := [.int 0, .int 99]) (rest := []) St hK hT hA hP hD hS hl.1 [0] [] rfl rfl rfl (m_figuresF l g o a th hi ac tp en tA de iD iO tU fm fk fa fc ft ff fb fi 0 99 hen htA hde) (cwV 2 hts (zgL (zl4 k902 k903 k904 k839) k898) rfl rfl rfl (by decide +kernel) ⟨Nat.le_of_ble_eq_true rfl, Nat.le_of_ble_eq_true rfl⟩) rfl rfl rfl rfl (Nat.le_of_ble_eq_true rfl) dX12_personLine_20 ⟨(Nat.le_of_ble_eq_true rfl), (Nat.le_of_ble_eq_true rfl)⟩ (fun u_ H locs hq7 hP hD hS => ?_)
    obtain ⟨at2_4, fl2_5, r_6⟩ := u_
    replace hq7 : (0 ≤ at2_4.toInt ∧ at2_4.toInt ≤ en.toInt + 7 - de.toInt) ∧ (tA.toInt ≤ at2_4.toInt) ∧ (zNu ft en.toInt (zbg ft en.toInt tA.toInt) (0 : Int32).toInt (99 : Int32).toInt r_6 ∧ at2_4.toInt = znx ft en.toInt (zbg ft en.toInt tA.toInt) ∧ (-1) = fl2_5 ∨ fl2_5.toInt = zbg ft en.toInt tA.toInt ∧ ¬ ∃ v9, zNu ft en.toInt (zbg ft en.toInt tA.toInt) (0 : Int32).toInt (99 : Int32).toInt v9) := hq7
    have hP : va_P g.1 vwCl (List.flatten [bMo g o a th hi ac tp (-1) en at2_4 fl2_5 de iD iO tU fm fk fa fc ft ff fb fi]) H := hP
    have hD : va_D A (List.flatten [bMo g o a th hi ac tp (-1) en at2_4 fl2_5 de iD iO tU fm fk fa fc ft ff fb fi]) := hD
    refine W.widen (k := 0) (n := 0) (Nat.le_of_ble_eq_true rfl) (Nat.le_of_ble_eq_true rfl) ?_
    refine W.eq (g2 := F0 m 23 ls [.int r_6]) rfl ?_
    obtain ⟨hq7_0, hq7_1, hq7_2⟩ := hq7
    rcases hq7_2 with ⟨hq7_k, hq7_km, rfl⟩ | ⟨hq7_k, hq7_km⟩
    · skip
      have w8 : 0 ≤ r_6.toInt ∧ r_6.toInt ≤ 99 := ⟨(by have h9 := hq7_k.2.2.1; omega), (by have h9 := hq7_k.2.2.2; omega)⟩
      refine lv_istore_n (lv' := [(2, .int r_6), (0, .ref o), (1, .int b0)]) hx hb dX12_personLine_23 rfl hl (by decide) rfl (fun ls hl => ?_)
      refine lv_aload_n hx hb dX12_personLine_24 rfl (lv_at hl 1 rfl) ?_
      refine va_ldcS (q := g.2 62) hx hb hown (zra26 hT.2.1) dX12_personLine_25 ?_
      refine lv_iconst (v := 0) hx hb dX12_personLine_27 (by decide) ?_
      refine lv_sipush (v := 999) hx hb dX12_personLine_28 (by decide) ?_
      have hL999 : (999 : Int32).toInt = 999 := by decide
      refine mcallV' (g := g) (q0 := 0) (ci := 10) (As := [.ref (g.2 62), .int 0, .int 999]) (rest := []) St hK hT hA hP hD hS hl.1 [0] [] rfl rfl rfl (m_afterF l g o a th hi ac tp en at2_4 de iD iO tU fm fk fa fc ft ff fb fi 0 999 (g.2 62) 26 zqa26 hen hq7_0 hde rfl zla26 zna26 (zlitB zla26)) (cwV 3 hts (zgL (zl4 k906 k907 k908 k839) k905) rfl rfl rfl (by decide +kernel) ⟨Nat.le_of_ble_eq_true rfl, Nat.le_of_ble_eq_true rfl⟩) rfl rfl rfl rfl (Nat.le_of_ble_eq_true rfl) dX12_personLine_31 ⟨(Nat.le_of_ble_eq_true rfl), (Nat.le_of_ble_eq_true rfl)⟩ (fun u_ H locs hq12 hP hD hS => ?_)
      obtain ⟨at2_9, fl2_10, r_11⟩ := u_
      replace hq12 : (0 ≤ at2_9.toInt ∧ at2_9.toInt ≤ en.toInt + 7 - de.toInt) ∧ (at2_4.toInt ≤ at2_9.toInt) ∧ (zisW ft en.toInt (zbg ft en.toInt at2_4.toInt) zqa26.2.2.2 ∧ zNu ft en.toInt (znt ft en.toInt (zbg ft en.toInt at2_4.toInt)) (0 : Int32).toInt (999 : Int32).toInt r_11 ∧ at2_9.toInt = znx ft en.toInt (znt ft en.toInt (zbg ft en.toInt at2_4.toInt)) ∧ (-1) = fl2_10 ∨ zisW ft en.toInt (zbg ft en.toInt at2_4.toInt) zqa26.2.2.2 ∧ (¬ ∃ v9, zNu ft en.toInt (znt ft en.toInt (zbg ft en.toInt at2_4.toInt)) (0 : Int32).toInt (999 : Int32).toInt v9) ∧ fl2_10.toInt = znt ft en.toInt (zbg ft en.toInt at2_4.toInt) ∨ ¬ zisW ft en.toInt (zbg ft en.toInt at2_4.toInt) zqa26.2.2.2 ∧ fl2_10.toInt = zbg ft en.toInt at2_4.toInt) := hq12
      have hP : va_P g.1 vwCl (List.flatten [bMo g o a th hi ac tp (-1) en at2_9 fl2_10 de iD iO tU fm fk fa fc ft ff fb fi]) H := hP
      have hD : va_D A (List.flatten [bMo g o a th hi ac tp (-1) en at2_9 fl2_10 de iD iO tU fm fk fa fc ft ff fb fi]) := hD
      refine W.widen (k := 0) (n := 0) (Nat.le_of_ble_eq_true rfl) (Nat.le_of_ble_eq_true rfl) ?_
      refine W.eq (g2 := F0 m 34 ls [.int r_11]) rfl ?_
      obtain ⟨hq12_0, hq12_1, hq12_2⟩ := hq12
      rcases hq12_2 with ⟨hq12_k, hq12_kn, hq12_km, rfl⟩ | ⟨hq12_k, hq12_kn, hq12_km⟩ | ⟨hq12_k, hq12_km⟩
      · skip
        have w13 : 0 ≤ r_11.toInt ∧ r_11.toInt ≤ 999 := ⟨(by have h9 := hq12_kn.2.2.1; omega), (by have h9 := hq12_kn.2.2.2; omega)⟩
        refine lv_istore_n (lv' := [(3, .int r_11), (2, .int r_6), (0, .ref o), (1, .int b0)]) hx hb dX12_personLine_34 rfl hl (by decide) rfl (fun ls hl => ?_)
        refine lv_aload_n hx hb dX12_personLine_35 rfl (lv_at hl 2 rfl) ?_
        refine va_get (D := g.1) (ci := 10) (v := .int (-1)) (C := RX12) (T := TX12) (N := 20) hx hb hts izRX12 hown hK hP 0 rfl rfl 12 (by decide) (hts _ k820) (fun _ h9 => h9) rfl dX12_personLine_36 ?_
        refine lv_iconst (v := (-1)) hx hb dX12_personLine_39 (by decide) ?_
        refine lv_icmp_ne (tgt := 56) hx hb dX12_personLine_40 (by decide) (fun c14 => absurd (by decide) c14) (fun _ => ?_)
        refine lv_aload_n hx hb dX12_personLine_43 rfl (lv_at hl 2 rfl) ?_
        refine va_ldcS (q := g.2 64) hx hb hown (zra27 hT.2.1) dX12_personLine_44 ?_
        refine mcallV' (g := g) (q0 := 0) (ci := 10) (As := [.ref (g.2 64)]) (rest := []) St hK hT hA hP hD hS hl.1 [0] [] rfl rfl rfl (m_hasF l g o a th hi ac tp en at2_9 (-1) de iD iO tU fm fk fa fc ft ff fb fi (g.2 64) 27 zqa27 hen hq12_0 hde rfl zla27 zna27 (zlitB zla27)) (cwV 1 hts (zgL (zl4 k899 k900 k901 k839) k889) rfl rfl rfl (by decide +kernel) ⟨Nat.le_of_ble_eq_true rfl, Nat.le_of_ble_eq_true rfl⟩) rfl rfl rfl rfl (Nat.le_of_ble_eq_true rfl) dX12_personLine_46 ⟨(Nat.le_of_ble_eq_true rfl), (Nat.le_of_ble_eq_true rfl)⟩ (fun u_ H locs hq17 hP hD hS => ?_)
        obtain ⟨at2_15, r_16⟩ := u_
        replace hq17 : (0 ≤ at2_15.toInt ∧ at2_15.toInt ≤ en.toInt + 7 - de.toInt) ∧ (at2_9.toInt ≤ at2_15.toInt) ∧ (r_16 = 1 ∧ zisW ft en.toInt (zbg ft en.toInt at2_9.toInt) zqa27.2.2.2 ∧ at2_15.toInt = znx ft en.toInt (zbg ft en.toInt at2_9.toInt) ∧ at2_9.toInt < at2_15.toInt ∧ at2_15.toInt ≤ en.toInt ∨ r_16 = 0 ∧ ¬ zisW ft en.toInt (zbg ft en.toInt at2_9.toInt) zqa27.2.2.2 ∧ at2_15.toInt = zbg ft en.toInt at2_9.toInt) := hq17
        have hP : va_P g.1 vwCl (List.flatten [bMo g o a th hi ac tp (-1) en at2_15 (-1) de iD iO tU fm fk fa fc ft ff fb fi]) H := hP
        have hD : va_D A (List.flatten [bMo g o a th hi ac tp (-1) en at2_15 (-1) de iD iO tU fm fk fa fc ft ff fb fi]) := hD
        refine W.widen (k := 0) (n := 0) (Nat.le_of_ble_eq_true rfl) (Nat.le_of_ble_eq_true rfl) ?_
        refine W.eq (g2 := F0 m 49 ls [.int r_16]) rfl ?_
        obtain ⟨hq17_0, hq17_1, hq17_2⟩ := hq17
        rcases hq17_2 with ⟨rfl, hq17_k, hq17_km⟩ | ⟨rfl, hq17_k, hq17_km⟩
        · skip
          refine lv_if_eq (tgt := 56) hx hb dX12_personLine_49 (by decide) (fun c18 => absurd c18 (by decide)) (fun _ => ?_)
          refine lv_iconst (v := 1) hx hb dX12_personLine_52 (by decide) ?_
          refine lv_goto (tgt := 57) hx hb dX12_personLine_53 (by decide) ?_
          refine lv_istore (lv' := [(4, .int 1), (3, .int r_11), (2, .int r_6), (0, .ref o), (1, .int b0)]) hx hb dX12_personLine_57 hl (by decide) rfl (fun ls hl => ?_)
          refine lv_aload_n hx hb dX12_personLine_59 rfl (lv_at hl 3 rfl) ?_
          refine va_get (D := g.1) (ci := 10) (v := .int (-1)) (C := RX12) (T := TX12) (N := 20) hx hb hts izRX12 hown hK hP 0 rfl rfl 12 (by decide) (hts _ k820) (fun _ h9 => h9) rfl dX12_personLine_60 ?_
          refine lv_iconst (v := (-1)) hx hb dX12_personLine_63 (by decide) ?_
          refine lv_icmp_eq (tgt := 68) hx hb dX12_personLine_64 (by decide) (fun _ => ?_) (fun c19 => absurd (by decide) c19)
          refine lv_aload_n hx hb dX12_personLine_68 rfl (lv_at hl 3 rfl) ?_
          refine va_get (D := g.1) (ci := 10) (v := .ref (a 0)) (C := RX12) (T := TX12) (N := 20) hx hb hts izRX12 hown hK hP 0 rfl rfl 1 (by decide) (hts _ k815) (fun _ h9 => h9) rfl dX12_personLine_69 ?_
          refine lv_iconst (v := 3) hx hb dX12_personLine_72 (by decide) ?_
          refine va_iald hx hb hK hP 1 0 rfl rfl (zin rfl) dX12_personLine_73 ?_
          refine zgq (r := fm 3) rfl (rM3 rfm) (fun x_20 hx_20 => ?_)
          refine lv_istore (lv' := [(5, .int x_20), (4, .int 1), (3, .int r_11), (2, .int r_6), (0, .ref o), (1, .int b0)]) hx hb dX12_personLine_74 hl (by decide) rfl (fun ls hl => ?_)
          have w21 : 0 ≤ x_20.toInt ∧ x_20.toInt ≤ 7 := by omega
          refine lv_aload_n hx hb dX12_personLine_76 rfl (lv_at hl 4 rfl) ?_
          refine lv_iload hx hb dX12_personLine_77 (lv_at hl 0 rfl) ?_
          refine lv_iconst (v := 0) hx hb dX12_personLine_79 (by decide) ?_
          refine lv_iload_n hx hb dX12_personLine_80 rfl (lv_at hl 3 rfl) ?_
          refine mcallV' (g := g) (q0 := 0) (ci := 10) (As := [.int x_20, .int 0, .int r_6]) (rest := []) St hK hT hA hP hD hS hl.1 [0] [] rfl rfl rfl (m_put l g o a th hi ac tp (-1) en at2_15 (-1) de iD iO tU fm fk fa fc ft ff fb fi x_20 0 r_6 rfm (⟨w21.1, w21.2⟩) (by decide)) (cwV 3 hts (zgL (zl4 k909 k910 k911 k839) k832) rfl rfl rfl (by decide +kernel) ⟨Nat.le_of_ble_eq_true rfl, Nat.le_of_ble_eq_true rfl⟩) rfl rfl rfl rfl (Nat.le_of_ble_eq_true rfl) dX12_personLine_81 ⟨(Nat.le_of_ble_eq_true rfl), (Nat.le_of_ble_eq_true rfl)⟩ (fun fm2_22 H locs hq23 hP hD hS => ?_)
          replace hq23 : ((fm2_22 0).toInt = (fm 0).toInt ∧ (fm2_22 3).toInt = (fm 3).toInt ∧ (fm2_22 4).toInt = (fm 4).toInt) ∧ (rM fm2_22) ∧ ((fm2_22 3).toInt = (fm 3).toInt ∧ (fm2_22 4).toInt = (fm 4).toInt) := hq23
          have hP : va_P g.1 vwCl (List.flatten [bMo g o a th hi ac tp (-1) en at2_15 (-1) de iD iO tU fm2_22 fk fa fc ft ff fb fi]) H := hP
          have hD : va_D A (List.flatten [bMo g o a th hi ac tp (-1) en at2_15 (-1) de iD iO tU fm2_22 fk fa fc ft ff fb fi]) := hD
          refine W.widen (k := 0) (n := 0) (Nat.le_of_ble_eq_true rfl) (Nat.le_of_ble_eq_true rfl) ?_
          refine W.eq (g2 := F0 m 84 ls []) rfl ?_
          obtain ⟨hq23_0, rfm2_22, hq23_2⟩ := hq23
          refine lv_aload_n hx hb dX12_personLine_84 rfl (lv_at hl 4 rfl) ?_
          refine lv_iload hx hb dX12_personLine_85 (lv_at hl 0 rfl) ?_
          refine lv_iconst (v := 1) hx hb dX12_personLine_87 (by decide) ?_
          refine lv_iload_n hx hb dX12_personLine_88 rfl (lv_at hl 2 rfl) ?_
          have hL1 : (1 : Int32).toInt = 1 := by decide
          refine mcallV' (g := g) (q0 := 0) (ci := 10) (As := [.int x_20, .int 1, .int r_11]) (rest := []) St hK hT hA hP hD hS hl.1 [0] [] rfl rfl rfl (m_put l g o a th hi ac tp (-1) en at2_15 (-1) de iD iO tU fm2_22 fk fa fc ft ff fb fi x_20 1 r_11 rfm2_22 (⟨w21.1, w21.2⟩) (by decide)) (cwV 3 hts (zgL (zl4 k909 k910 k911 k839) k832) rfl rfl rfl (by decide +kernel) ⟨Nat.le_of_ble_eq_true rfl, Nat.le_of_ble_eq_true rfl⟩) rfl rfl rfl rfl (Nat.le_of_ble_eq_true rfl) dX12_personLine_89 ⟨(Nat.le_of_ble_eq_true rfl), (Nat.le_of_ble_eq_true rfl)⟩ (fun fm2_24 H locs hq25 hP hD hS => ?_)
          replace hq25 : ((fm2_24 0).toInt = (fm2_22 0).toInt ∧ (fm2_24 3).toInt = (fm2_22 3).toInt ∧ (fm2_24 4).toInt = (fm2_22 4).toInt) ∧ (rM fm2_24) ∧ ((fm2_24 3).toInt = (fm2_22 3).toInt ∧ (fm2_24 4).toInt = (fm2_22 4).toInt) := hq25
          have hP : va_P g.1 vwCl (List.flatten [bMo g o a th hi ac tp (-1) en at2_15 (-1) de iD iO tU fm2_24 fk fa fc ft ff fb fi]) H := hP
          have hD : va_D A (List.flatten [bMo g o a th hi ac tp (-1) en at2_15 (-1) de iD iO tU fm2_24 fk fa fc ft ff fb fi]) := hD
          refine W.widen (k := 0) (n := 0) (Nat.le_of_ble_eq_true rfl) (Nat.le_of_ble_eq_true rfl) ?_
          refine W.eq (g2 := F0 m 92 ls []) rfl ?_
          obtain ⟨hq25_0, rfm2_24, hq25_2⟩ := hq25
          refine lv_aload_n hx hb dX12_personLine_92 rfl (lv_at hl 4 rfl) ?_
          refine lv_iload hx hb dX12_personLine_93 (lv_at hl 0 rfl) ?_
          refine lv_iconst (v := 2) hx hb dX12_personLine_95 (by decide) ?_
          refine lv_iconst (v := 0) hx hb dX12_personLine_96 (by decide) ?_
          have hL2 : (2 : Int32).toInt = 2 := by decide
          refine mcallV' (g := g) (q0 := 0) (ci := 10) (As := [.int x_20, .int 2, .int 0]) (rest := []) St hK hT hA hP hD hS hl.1 [0] [] rfl rfl rfl (m_put l g o a th hi ac tp (-1) en at2_15 (-1) de iD iO tU fm2_24 fk fa fc ft ff fb fi x_20 2 0 rfm2_24 (⟨w21.1, w21.2⟩) (by decide)) (cwV 3 hts (zgL (zl4 k909 k910 k911 k839) k832) rfl rfl rfl (by decide +kernel) ⟨Nat.le_of_ble_eq_true rfl, Nat.le_of_ble_eq_true rfl⟩) rfl rfl rfl rfl (Nat.le_of_ble_eq_true rfl) dX12_personLine_97 ⟨(Nat.le_of_ble_eq_true rfl), (Nat.le_of_ble_eq_true rfl)⟩ (fun fm2_26 H locs hq27 hP hD hS => ?_)
          replace hq27 : ((fm2_26 0).toInt = (fm2_24 0).toInt ∧ (fm2_26 3).toInt = (fm2_24 3).toInt ∧ (fm2_26 4).toInt = (fm2_24 4).toInt) ∧ (rM fm2_26) ∧ ((fm2_26 3).toInt = (fm2_24 3).toInt ∧ (fm2_26 4).toInt = (fm2_24 4).toInt) := hq27
          have hP : va_P g.1 vwCl (List.flatten [bMo g o a th hi ac tp (-1) en at2_15 (-1) de iD iO tU fm2_26 fk fa fc ft ff fb fi]) H := hP
          have hD : va_D A (List.flatten [bMo g o a th hi ac tp (-1) en at2_15 (-1) de iD iO tU fm2_26 fk fa fc ft ff fb fi]) := hD
          refine W.widen (k := 0) (n := 0) (Nat.le_of_ble_eq_true rfl) (Nat.le_of_ble_eq_true rfl) ?_
          refine W.eq (g2 := F0 m 100 ls []) rfl ?_
          obtain ⟨hq27_0, rfm2_26, hq27_2⟩ := hq27
          refine lv_aload_n hx hb dX12_personLine_100 rfl (lv_at hl 4 rfl) ?_
          refine lv_iload hx hb dX12_personLine_101 (lv_at hl 0 rfl) ?_
          refine lv_iconst (v := 3) hx hb dX12_personLine_103 (by decide) ?_
          refine lv_iload hx hb dX12_personLine_104 (lv_at hl 1 rfl) ?_
          refine lv_if_eq (tgt := 113) hx hb dX12_personLine_106 (by decide) (fun c28 => absurd c28 (by decide)) (fun _ => ?_)
          refine lv_iconst (v := 1) hx hb dX12_personLine_109 (by decide) ?_
          refine lv_goto (tgt := 114) hx hb dX12_personLine_110 (by decide) ?_
          have hL3 : (3 : Int32).toInt = 3 := by decide
          refine mcallV' (g := g) (q0 := 0) (ci := 10) (As := [.int x_20, .int 3, .int 1]) (rest := []) St hK hT hA hP hD hS hl.1 [0] [] rfl rfl rfl (m_put l g o a th hi ac tp (-1) en at2_15 (-1) de iD iO tU fm2_26 fk fa fc ft ff fb fi x_20 3 1 rfm2_26 (⟨w21.1, w21.2⟩) (by decide)) (cwV 3 hts (zgL (zl4 k909 k910 k911 k839) k832) rfl rfl rfl (by decide +kernel) ⟨Nat.le_of_ble_eq_true rfl, Nat.le_of_ble_eq_true rfl⟩) rfl rfl rfl rfl (Nat.le_of_ble_eq_true rfl) dX12_personLine_114 ⟨(Nat.le_of_ble_eq_true rfl), (Nat.le_of_ble_eq_true rfl)⟩ (fun fm2_29 H locs hq30 hP hD hS => ?_)
          replace hq30 : ((fm2_29 0).toInt = (fm2_26 0).toInt ∧ (fm2_29 3).toInt = (fm2_26 3).toInt ∧ (fm2_29 4).toInt = (fm2_26 4).toInt) ∧ (rM fm2_29) ∧ ((fm2_29 3).toInt = (fm2_26 3).toInt ∧ (fm2_29 4).toInt = (fm2_26 4).toInt) := hq30
          have hP : va_P g.1 vwCl (List.flatten [bMo g o a th hi ac tp (-1) en at2_15 (-1) de iD iO tU fm2_29 fk fa fc ft ff fb fi]) H := hP
          have hD : va_D A (List.flatten [bMo g o a th hi ac tp (-1) en at2_15 (-1) de iD iO tU fm2_29 fk fa fc ft ff fb fi]) := hD
          refine W.widen (k := 0) (n := 0) (Nat.le_of_ble_eq_true rfl) (Nat.le_of_ble_eq_true rfl) ?_
          refine W.eq (g2 := F0 m 117 ls []) rfl ?_
          obtain ⟨hq30_0, rfm2_29, hq30_2⟩ := hq30
          refine lv_aload_n hx hb dX12_personLine_117 rfl (lv_at hl 4 rfl) ?_
          refine lv_iload hx hb dX12_personLine_118 (lv_at hl 0 rfl) ?_
          refine lv_iconst (v := 4) hx hb dX12_personLine_120 (by decide) ?_
          refine lv_iconst (v := (-1)) hx hb dX12_personLine_121 (by decide) ?_
          have hL4 : (4 : Int32).toInt = 4 := by decide
          refine mcallV' (g := g) (q0 := 0) (ci := 10) (As := [.int x_20, .int 4, .int (-1)]) (rest := []) St hK hT hA hP hD hS hl.1 [0] [] rfl rfl rfl (m_put l g o a th hi ac tp (-1) en at2_15 (-1) de iD iO tU fm2_29 fk fa fc ft ff fb fi x_20 4 (-1) rfm2_29 (⟨w21.1, w21.2⟩) (by decide)) (cwV 3 hts (zgL (zl4 k909 k910 k911 k839) k832) rfl rfl rfl (by decide +kernel) ⟨Nat.le_of_ble_eq_true rfl, Nat.le_of_ble_eq_true rfl⟩) rfl rfl rfl rfl (Nat.le_of_ble_eq_true rfl) dX12_personLine_122 ⟨(Nat.le_of_ble_eq_true rfl), (Nat.le_of_ble_eq_true rfl)⟩ (fun fm2_31 H locs hq32 hP hD hS => ?_)
          replace hq32 : ((fm2_31 0).toInt = (fm2_29 0).toInt ∧ (fm2_31 3).toInt = (fm2_29 3).toInt ∧ (fm2_31 4).toInt = (fm2_29 4).toInt) ∧ (rM fm2_31) ∧ ((fm2_31 3).toInt = (fm2_29 3).toInt ∧ (fm2_31 4).toInt = (fm2_29 4).toInt) := hq32
          have hP : va_P g.1 vwCl (List.flatten [bMo g o a th hi ac tp (-1) en at2_15 (-1) de iD iO tU fm2_31 fk fa fc ft ff fb fi]) H := hP
          have hD : va_D A (List.flatten [bMo g o a th hi ac tp (-1) en at2_15 (-1) de iD iO tU fm2_31 fk fa fc ft ff fb fi]) := hD
          refine W.widen (k := 0) (n := 0) (Nat.le_of_ble_eq_true rfl) (Nat.le_of_ble_eq_true rfl) ?_
          refine W.eq (g2 := F0 m 125 ls []) rfl ?_
          obtain ⟨hq32_0, rfm2_31, hq32_2⟩ := hq32
          refine lv_aload_n hx hb dX12_personLine_125 rfl (lv_at hl 4 rfl) ?_
          refine va_get (D := g.1) (ci := 10) (v := .ref (a 0)) (C := RX12) (T := TX12) (N := 20) hx hb hts izRX12 hown hK hP 0 rfl rfl 1 (by decide) (hts _ k815) (fun _ h9 => h9) rfl dX12_personLine_126 ?_
          refine lv_iconst (v := 3) hx hb dX12_personLine_129 (by decide) ?_
          refine lv_dup2_11 hx hb dX12_personLine_130 rfl rfl ?_
          refine va_iald hx hb hK hP 1 0 rfl rfl (zin rfl) dX12_personLine_131 ?_
          refine zgq (r := fm2_31 3) rfl (rM3 rfm2_31) (fun x_33 hx_33 => ?_)
          refine lv_iconst (v := 1) hx hb dX12_personLine_132 (by decide) ?_
          refine lv_iadd hx hb dX12_personLine_133 ?_
          refine zg3 (zaddK (i := x_33.toInt) (j := 1) (a' := 1) (b' := 9) rfl (by decide) hx_33.1 hx_33.2.1 (Int.le_refl _) (Int.le_refl _) (by decide)) (fun x_34 hx_34 => ?_)
          refine va_iast hx hb hK hP hD hS 1 0 rfl rfl (zin rfl) dX12_personLine_134 (fun H locs hP hD hS => ?_)
          obtain ⟨fm_35, ⟨rfm_35, hkfm_35⟩, hP, hD⟩ : ∃ fm_35 : Nat → Int32, (rM fm_35 ∧ (fm_35 0).toInt = (fm2_31 0).toInt ∧ (fm_35 3).toInt = x_34.toInt ∧ (fm_35 4).toInt = (fm2_31 4).toInt) ∧ va_P g.1 vwCl (List.flatten [bMo g o a th hi ac tp (-1) en at2_15 (-1) de iD iO tU fm_35 fk fa fc ft ff fb fi]) H ∧ va_D A (List.flatten [bMo g o a th hi ac tp (-1) en at2_15 (-1) de iD iO tU fm_35 fk fa fc ft ff fb fi]) := ⟨upd fm2_31 3 x_34, ⟨(rM_s3 rfm2_31 (show 0 ≤ x_34.toInt ∧ x_34.toInt ≤ 8 from (by omega))), rfl, rfl, rfl⟩, hP, hD⟩
          have hP : va_P g.1 vwCl (List.flatten [bMo g o a th hi ac tp (-1) en at2_15 (-1) de iD iO tU fm_35 fk fa fc ft ff fb fi]) H := hP
          have hD : va_D A (List.flatten [bMo g o a th hi ac tp (-1) en at2_15 (-1) de iD iO tU fm_35 fk fa fc ft ff fb fi]) := hD
          exact mret_v hx hb hr hlocks hS (Nat.le_of_ble_eq_true rfl) (Nat.le_of_ble_eq_true rfl) dX12_personLine_135 (at2_15, -1, fm_35) rfl (show (rM fm_35) ∧ (0 ≤ at2_15.toInt ∧ at2_15.toInt ≤ en.toInt + 7 - de.toInt) ∧ (tA.toInt ≤ at2_15.toInt) ∧ ((fm_35 0).toInt = (fm 0).toInt) ∧ ((-1) = (-1) ∧ zTO (zTPerson ft en.toInt (fm 3).toInt b0.toInt) (zbg ft en.toInt at2_15.toInt) (fm 3).toInt (fm_35 3).toInt (fm 4).toInt (fm_35 4).toInt ∨ 0 ≤ ((-1) : Int32).toInt ∧ zTPerson ft en.toInt (fm 3).toInt b0.toInt (.bad ((-1) : Int32).toInt)) from ⟨(by first | assumption | omega | exact Or.inl (by decide) | exact Or.inr (by omega) | decide), (by first | assumption | omega | exact Or.inl (by decide) | exact Or.inr (by omega) | decide), (by first | assumption | omega | exact Or.inl (by decide) | exact Or.inr (by omega) | decide), (by first | assumption | omega | exact Or.inl (by decide) | exact Or.inr (by omega) | decide), (Or.inl ⟨rfl, ⟨_, zTP_iM (by omega) (zNN_yM (by decide) (by decide) (zNu_b (zNt_b hat) hq7_k) (show zW1 _ _ _ _ _ _ from zW1_yM (zW_b (zNt_b (hq7_km.trans (congrArg (znx ft en.toInt) (zNt_b hat).symm))) hq12_k) (show zNN _ _ _ _ _ _ _ from zNN_yM (by decide) (by decide) (zNu_b (congrArg (znt ft en.toInt) (zNt_b (hq7_km.trans (congrArg (znx ft en.toInt) (zNt_b hat).symm)))) hq12_kn) (zKp3_yM (hq12_km.trans (congrArg (znx ft en.toInt) (congrArg (znt ft en.toInt) (zNt_b (hq7_km.trans (congrArg (znx ft en.toInt) (zNt_b hat).symm)))).symm)) hq17_k hq17_km.1)))), zcp_y (by omega), zcw_n (by decide) (by omega)⟩⟩)⟩) hP hD
        · skip
          refine lv_if_eq (tgt := 56) hx hb dX12_personLine_49 (by decide) (fun _ => ?_) (fun c36 => absurd (by decide) c36)
          refine lv_iconst (v := 0) hx hb dX12_personLine_56 (by decide) ?_
          refine lv_istore (lv' := [(4, .int 0), (3, .int r_11), (2, .int r_6), (0, .ref o), (1, .int b0)]) hx hb dX12_personLine_57 hl (by decide) rfl (fun ls hl => ?_)
          refine lv_aload_n hx hb dX12_personLine_59 rfl (lv_at hl 3 rfl) ?_
          refine va_get (D := g.1) (ci := 10) (v := .int (-1)) (C := RX12) (T := TX12) (N := 20) hx hb hts izRX12 hown hK hP 0 rfl rfl 12 (by decide) (hts _ k820) (fun _ h9 => h9) rfl dX12_personLine_60 ?_
          refine lv_iconst (v := (-1)) hx hb dX12_personLine_63 (by decide) ?_
          refine lv_icmp_eq (tgt := 68) hx hb dX12_personLine_64 (by decide) (fun _ => ?_) (fun c37 => absurd (by decide) c37)
          refine lv_aload_n hx hb dX12_personLine_68 rfl (lv_at hl 3 rfl) ?_
          refine va_get (D := g.1) (ci := 10) (v := .ref (a 0)) (C := RX12) (T := TX12) (N := 20) hx hb hts izRX12 hown hK hP 0 rfl rfl 1 (by decide) (hts _ k815) (fun _ h9 => h9) rfl dX12_personLine_69 ?_
          refine lv_iconst (v := 3) hx hb dX12_personLine_72 (by decide) ?_
          refine va_iald hx hb hK hP 1 0 rfl rfl (zin rfl) dX12_personLine_73 ?_
          refine zgq (r := fm 3) rfl (rM3 rfm) (fun x_38 hx_38 => ?_)
          refine lv_istore (lv' := [(5, .int x_38), (4, .int 0), (3, .int r_11), (2, .int r_6), (0, .ref o), (1, .int b0)]) hx hb dX12_personLine_74 hl (by decide) rfl (fun ls hl => ?_)
          have w39 : 0 ≤ x_38.toInt ∧ x_38.toInt ≤ 7 := by omega
          refine lv_aload_n hx hb dX12_personLine_76 rfl (lv_at hl 4 rfl) ?_
          refine lv_iload hx hb dX12_personLine_77 (lv_at hl 0 rfl) ?_
          refine lv_iconst (v := 0) hx hb dX12_personLine_79 (by decide) ?_
          refine lv_iload_n hx hb dX12_personLine_80 rfl (lv_at hl 3 rfl) ?_
          refine mcallV' (g := g) (q0 := 0) (ci := 10) (As := [.int x_38, .int 0, .int r_6]) (rest := []) St hK hT hA hP hD hS hl.1 [0] [] rfl rfl rfl (m_put l g o a th hi ac tp (-1) en at2_15 (-1) de iD iO tU fm fk fa fc ft ff fb fi x_38 0 r_6 rfm (⟨w39.1, w39.2⟩) (by decide)) (cwV 3 hts (zgL (zl4 k909 k910 k911 k839) k832) rfl rfl rfl (by decide +kernel) ⟨Nat.le_of_ble_eq_true rfl, Nat.le_of_ble_eq_true rfl⟩) rfl rfl rfl rfl (Nat.le_of_ble_eq_true rfl) dX12_personLine_81 ⟨(Nat.le_of_ble_eq_true rfl), (Nat.le_of_ble_eq_true rfl)⟩ (fun fm2_40 H locs hq41 hP hD hS => ?_)
          replace hq41 : ((fm2_40 0).toInt = (fm 0).toInt ∧ (fm2_40 3).toInt = (fm 3).toInt ∧ (fm2_40 4).toInt = (fm 4).toInt) ∧ (rM fm2_40) ∧ ((fm2_40 3).toInt = (fm 3).toInt ∧ (fm2_40 4).toInt = (fm 4).toInt) := hq41
          have hP : va_P g.1 vwCl (List.flatten [bMo g o a th hi ac tp (-1) en at2_15 (-1) de iD iO tU fm2_40 fk fa fc ft ff fb fi]) H := hP
          have hD : va_D A (List.flatten [bMo g o a th hi ac tp (-1) en at2_15 (-1) de iD iO tU fm2_40 fk fa fc ft ff fb fi]) := hD
          refine W.widen (k := 0) (n := 0) (Nat.le_of_ble_eq_true rfl) (Nat.le_of_ble_eq_true rfl) ?_
          refine W.eq (g2 := F0 m 84 ls []) rfl ?_
          obtain ⟨hq41_0, rfm2_40, hq41_2⟩ := hq41
          refine lv_aload_n hx hb dX12_personLine_84 rfl (lv_at hl 4 rfl) ?_
          refine lv_iload hx hb dX12_personLine_85 (lv_at hl 0 rfl) ?_
          refine lv_iconst (v := 1) hx hb dX12_personLine_87 (by decide) ?_
          refine lv_iload_n hx hb dX12_personLine_88 rfl (lv_at hl 2 rfl) ?_
          have hL1 : (1 : Int32).toInt = 1 := by decide
          refine mcallV' (g := g) (q0 := 0) (ci := 10) (As := [.int x_38, .int 1, .int r_11]) (rest := []) St hK hT hA hP hD hS hl.1 [0] [] rfl rfl rfl (m_put l g o a th hi ac tp (-1) en at2_15 (-1) de iD iO tU fm2_40 fk fa fc ft ff fb fi x_38 1 r_11 rfm2_40 (⟨w39.1, w39.2⟩) (by decide)) (cwV 3 hts (zgL (zl4 k909 k910 k911 k839) k832) rfl rfl rfl (by decide +kernel) ⟨Nat.le_of_ble_eq_true rfl, Nat.le_of_ble_eq_true rfl⟩) rfl rfl rfl rfl (Nat.le_of_ble_eq_true rfl) dX12_personLine_89 ⟨(Nat.le_of_ble_eq_true rfl), (Nat.le_of_ble_eq_true rfl)⟩ (fun fm2_42 H locs hq43 hP hD hS => ?_)
          replace hq43 : ((fm2_42 0).toInt = (fm2_40 0).toInt ∧ (fm2_42 3).toInt = (fm2_40 3).toInt ∧ (fm2_42 4).toInt = (fm2_40 4).toInt) ∧ (rM fm2_42) ∧ ((fm2_42 3).toInt = (fm2_40 3).toInt ∧ (fm2_42 4).toInt = (fm2_40 4).toInt) := hq43
          have hP : va_P g.1 vwCl (List.flatten [bMo g o a th hi ac tp (-1) en at2_15 (-1) de iD iO tU fm2_42 fk fa fc ft ff fb fi]) H := hP
          have hD : va_D A (List.flatten [bMo g o a th hi ac tp (-1) en at2_15 (-1) de iD iO tU fm2_42 fk fa fc ft ff fb fi]) := hD
          refine W.widen (k := 0) (n := 0) (Nat.le_of_ble_eq_true rfl) (Nat.le_of_ble_eq_true rfl) ?_
          refine W.eq (g2 := F0 m 92 ls []) rfl ?_
          obtain ⟨hq43_0, rfm2_42, hq43_2⟩ := hq43
          refine lv_aload_n hx hb dX12_personLine_92 rfl (lv_at hl 4 rfl) ?_
          refine lv_iload hx hb dX12_personLine_93 (lv_at hl 0 rfl) ?_
          refine lv_iconst (v := 2) hx hb dX12_personLine_95 (by decide) ?_
          refine lv_iconst (v := 0) hx hb dX12_personLine_96 (by decide) ?_
          have hL2 : (2 : Int32).toInt = 2 := by decide
          refine mcallV' (g := g) (q0 := 0) (ci := 10) (As := [.int x_38, .int 2, .int 0]) (rest := []) St hK hT hA hP hD hS hl.1 [0] [] rfl rfl rfl (m_put l g o a th hi ac tp (-1) en at2_15 (-1) de iD iO tU fm2_42 fk fa fc ft ff fb fi x_38 2 0 rfm2_42 (⟨w39.1, w39.2⟩) (by decide)) (cwV 3 hts (zgL (zl4 k909 k910 k911 k839) k832) rfl rfl rfl (by decide +kernel) ⟨Nat.le_of_ble_eq_true rfl, Nat.le_of_ble_eq_true rfl⟩) rfl rfl rfl rfl (Nat.le_of_ble_eq_true rfl) dX12_personLine_97 ⟨(Nat.le_of_ble_eq_true rfl), (Nat.le_of_ble_eq_true rfl)⟩ (fun fm2_44 H locs hq45 hP hD hS => ?_)
          replace hq45 : ((fm2_44 0).toInt = (fm2_42 0).toInt ∧ (fm2_44 3).toInt = (fm2_42 3).toInt ∧ (fm2_44 4).toInt = (fm2_42 4).toInt) ∧ (rM fm2_44) ∧ ((fm2_44 3).toInt = (fm2_42 3).toInt ∧ (fm2_44 4).toInt = (fm2_42 4).toInt) := hq45
          have hP : va_P g.1 vwCl (List.flatten [bMo g o a th hi ac tp (-1) en at2_15 (-1) de iD iO tU fm2_44 fk fa fc ft ff fb fi]) H := hP
          have hD : va_D A (List.flatten [bMo g o a th hi ac tp (-1) en at2_15 (-1) de iD iO tU fm2_44 fk fa fc ft ff fb fi]) := hD
          refine W.widen (k := 0) (n := 0) (Nat.le_of_ble_eq_true rfl) (Nat.le_of_ble_eq_true rfl) ?_
          refine W.eq (g2 := F0 m 100 ls []) rfl ?_
          obtain ⟨hq45_0, rfm2_44, hq45_2⟩ := hq45
          refine lv_aload_n hx hb dX12_personLine_100 rfl (lv_at hl 4 rfl) ?_
          refine lv_iload hx hb dX12_personLine_101 (lv_at hl 0 rfl) ?_
          refine lv_iconst (v := 3) hx hb dX12_personLine_103 (by decide) ?_
          refine lv_iload hx hb dX12_personLine_104 (lv_at hl 1 rfl) ?_
          refine lv_if_eq (tgt := 113) hx hb dX12_personLine_106 (by decide) (fun _ => ?_) (fun c46 => absurd (by decide) c46)
          refine lv_iconst (v := 0) hx hb dX12_personLine_113 (by decide) ?_
          have hL3 : (3 : Int32).toInt = 3 := by decide
          refine mcallV' (g := g) (q0 := 0) (ci := 10) (As := [.int x_38, .int 3, .int 0]) (rest := []) St hK hT hA hP hD hS hl.1 [0] [] rfl rfl rfl (m_put l g o a th hi ac tp (-1) en at2_15 (-1) de iD iO tU fm2_44 fk fa fc ft ff fb fi x_38 3 0 rfm2_44 (⟨w39.1, w39.2⟩) (by decide)) (cwV 3 hts (zgL (zl4 k909 k910 k911 k839) k832) rfl rfl rfl (by decide +kernel) ⟨Nat.le_of_ble_eq_true rfl, Nat.le_of_ble_eq_true rfl⟩) rfl rfl rfl rfl (Nat.le_of_ble_eq_true rfl) dX12_personLine_114 ⟨(Nat.le_of_ble_eq_true rfl), (Nat.le_of_ble_eq_true rfl)⟩ (fun fm2_47 H locs hq48 hP hD hS => ?_)
          replace hq48 : ((fm2_47 0).toInt = (fm2_44 0).toInt ∧ (fm2_47 3).toInt = (fm2_44 3).toInt ∧ (fm2_47 4).toInt = (fm2_44 4).toInt) ∧ (rM fm2_47) ∧ ((fm2_47 3).toInt = (fm2_44 3).toInt ∧ (fm2_47 4).toInt = (fm2_44 4).toInt) := hq48
          have hP : va_P g.1 vwCl (List.flatten [bMo g o a th hi ac tp (-1) en at2_15 (-1) de iD iO tU fm2_47 fk fa fc ft ff fb fi]) H := hP
          have hD : va_D A (List.flatten [bMo g o a th hi ac tp (-1) en at2_15 (-1) de iD iO tU fm2_47 fk fa fc ft ff fb fi]) := hD
          refine W.widen (k := 0) (n := 0) (Nat.le_of_ble_eq_true rfl) (Nat.le_of_ble_eq_true rfl) ?_
          refine W.eq (g2 := F0 m 117 ls []) rfl ?_
          obtain ⟨hq48_0, rfm2_47, hq48_2⟩ := hq48
          refine lv_aload_n hx hb dX12_personLine_117 rfl (lv_at hl 4 rfl) ?_
          refine lv_iload hx hb dX12_personLine_118 (lv_at hl 0 rfl) ?_
          refine lv_iconst (v := 4) hx hb dX12_personLine_120 (by decide) ?_
          refine lv_iconst (v := (-1)) hx hb dX12_personLine_121 (by decide) ?_
          have hL4 : (4 : Int32).toInt = 4 := by decide
          refine mcallV' (g := g) (q0 := 0) (ci := 10) (As := [.int x_38, .int 4, .int (-1)]) (rest := []) St hK hT hA hP hD hS hl.1 [0] [] rfl rfl rfl (m_put l g o a th hi ac tp (-1) en at2_15 (-1) de iD iO tU fm2_47 fk fa fc ft ff fb fi x_38 4 (-1) rfm2_47 (⟨w39.1, w39.2⟩) (by decide)) (cwV 3 hts (zgL (zl4 k909 k910 k911 k839) k832) rfl rfl rfl (by decide +kernel) ⟨Nat.le_of_ble_eq_true rfl, Nat.le_of_ble_eq_true rfl⟩) rfl rfl rfl rfl (Nat.le_of_ble_eq_true rfl) dX12_personLine_122 ⟨(Nat.le_of_ble_eq_true rfl), (Nat.le_of_ble_eq_true rfl)⟩ (fun fm2_49 H locs hq50 hP hD hS => ?_)
          replace hq50 : ((fm2_49 0).toInt = (fm2_47 0).toInt ∧ (fm2_49 3).toInt = (fm2_47 3).toInt ∧ (fm2_49 4).toInt = (fm2_47 4).toInt) ∧ (rM fm2_49) ∧ ((fm2_49 3).toInt = (fm2_47 3).toInt ∧ (fm2_49 4).toInt = (fm2_47 4).toInt) := hq50
          have hP : va_P g.1 vwCl (List.flatten [bMo g o a th hi ac tp (-1) en at2_15 (-1) de iD iO tU fm2_49 fk fa fc ft ff fb fi]) H := hP
          have hD : va_D A (List.flatten [bMo g o a th hi ac tp (-1) en at2_15 (-1) de iD iO tU fm2_49 fk fa fc ft ff fb fi]) := hD
          refine W.widen (k := 0) (n := 0) (Nat.le_of_ble_eq_true rfl) (Nat.le_of_ble_eq_true rfl) ?_
          refine W.eq (g2 := F0 m 125 ls []) rfl ?_
          obtain ⟨hq50_0, rfm2_49, hq50_2⟩ := hq50
          refine lv_aload_n hx hb dX12_personLine_125 rfl (lv_at hl 4 rfl) ?_
          refine va_get (D := g.1) (ci := 10) (v := .ref (a 0)) (C := RX12) (T := TX12) (N := 20) hx hb hts izRX12 hown hK hP 0 rfl rfl 1 (by decide) (hts _ k815) (fun _ h9 => h9) rfl dX12_personLine_126 ?_
          refine lv_iconst (v := 3) hx hb dX12_personLine_129 (by decide) ?_
          refine lv_dup2_11 hx hb dX12_personLine_130 rfl rfl ?_
          refine va_iald hx hb hK hP 1 0 rfl rfl (zin rfl) dX12_personLine_131 ?_
          refine zgq (r := fm2_49 3) rfl (rM3 rfm2_49) (fun x_51 hx_51 => ?_)
          refine lv_iconst (v := 1) hx hb dX12_personLine_132 (by decide) ?_
          refine lv_iadd hx hb dX12_personLine_133 ?_
          refine zg3 (zaddK (i := x_51.toInt) (j := 1) (a' := 1) (b' := 9) rfl (by decide) hx_51.1 hx_51.2.1 (Int.le_refl _) (Int.le_refl _) (by decide)) (fun x_52 hx_52 => ?_)
          refine va_iast hx hb hK hP hD hS 1 0 rfl rfl (zin rfl) dX12_personLine_134 (fun H locs hP hD hS => ?_)
          obtain ⟨fm_53, ⟨rfm_53, hkfm_53⟩, hP, hD⟩ : ∃ fm_53 : Nat → Int32, (rM fm_53 ∧ (fm_53 0).toInt = (fm2_49 0).toInt ∧ (fm_53 3).toInt = x_52.toInt ∧ (fm_53 4).toInt = (fm2_49 4).toInt) ∧ va_P g.1 vwCl (List.flatten [bMo g o a th hi ac tp (-1) en at2_15 (-1) de iD iO tU fm_53 fk fa fc ft ff fb fi]) H ∧ va_D A (List.flatten [bMo g o a th hi ac tp (-1) en at2_15 (-1) de iD iO tU fm_53 fk fa fc ft ff fb fi]) := ⟨upd fm2_49 3 x_52, ⟨(rM_s3 rfm2_49 (show 0 ≤ x_52.toInt ∧ x_52.toInt ≤ 8 from (by omega))), rfl, rfl, rfl⟩, hP, hD⟩
          have hP : va_P g.1 vwCl (List.flatten [bMo g o a th hi ac tp (-1) en at2_15 (-1) de iD iO tU fm_53 fk fa fc ft ff fb fi]) H := hP
          have hD : va_D A (List.flatten [bMo g o a th hi ac tp (-1) en at2_15 (-1) de iD iO tU fm_53 fk fa fc ft ff fb fi]) := hD
          exact mret_v hx hb hr hlocks hS (Nat.le_of_ble_eq_true rfl) (Nat.le_of_ble_eq_true rfl) dX12_personLine_135 (at2_15, -1, fm_53) rfl (show (rM fm_53) ∧ (0 ≤ at2_15.toInt ∧ at2_15.toInt ≤ en.toInt + 7 - de.toInt) ∧ (tA.toInt ≤ at2_15.toInt) ∧ ((fm_53 0).toInt = (fm 0).toInt) ∧ ((-1) = (-1) ∧ zTO (zTPerson ft en.toInt (fm 3).toInt b0.toInt) (zbg ft en.toInt at2_15.toInt) (fm 3).toInt (fm_53 3).toInt (fm 4).toInt (fm_53 4).toInt ∨ 0 ≤ ((-1) : Int32).toInt ∧ zTPerson ft en.toInt (fm 3).toInt b0.toInt (.bad ((-1) : Int32).toInt)) from ⟨(by first | assumption | omega | exact Or.inl (by decide) | exact Or.inr (by omega) | decide), (by first | assumption | omega | exact Or.inl (by decide) | exact Or.inr (by omega) | decide), (by first | assumption | omega | exact Or.inl (by decide) | exact Or.inr (by omega) | decide), (by first | assumption | omega | exact Or.inl (by decide) | exact Or.inr (by omega) | decide), (Or.inl ⟨rfl, ⟨_, zTP_iM (by omega) (zNN_yM (by decide) (by decide) (zNu_b (zNt_b hat) hq7_k) (show zW1 _ _ _ _ _ _ from zW1_yM (zW_b (zNt_b (hq7_km.trans (congrArg (znx ft en.toInt) (zNt_b hat).symm))) hq12_k) (show zNN _ _ _ _ _ _ _ from zNN_yM (by decide) (by decide) (zNu_b (congrArg (znt ft en.toInt) (zNt_b (hq7_km.trans (congrArg (znx ft en.toInt) (zNt_b hat).symm)))) hq12_kn) (zKp3_nM (hq12_km.trans (congrArg (znx ft en.toInt) (congrArg (znt ft en.toInt) (zNt_b (hq7_km.trans (congrArg (znx ft en.toInt) (zNt_b hat).symm)))).symm)) hq17_k hq17_km)))), zcp_y (by omega), zcw_n (by decide) (by omega)⟩⟩)⟩) hP hD
      · skip
        have w54 : 0 ≤ fl2_10.toInt := zB0 hq12_km
        refine lv_istore_n (lv' := [(3, .int r_11), (2, .int r_6), (0, .ref o), (1, .int b0)]) hx hb dX12_personLine_34 rfl hl (by decide) rfl (fun ls hl => ?_)
        refine lv_aload_n hx hb dX12_personLine_35 rfl (lv_at hl 2 rfl) ?_
        refine va_get (D := g.1) (ci := 10) (v := .int fl2_10) (C := RX12) (T := TX12) (N := 20) hx hb hts izRX12 hown hK hP 0 rfl rfl 12 (by decide) (hts _ k820) (fun _ h9 => h9) rfl dX12_personLine_36 ?_
        refine lv_iconst (v := (-1)) hx hb dX12_personLine_39 (by decide) ?_
        refine lv_icmp_ne (tgt := 56) hx hb dX12_personLine_40 (by decide) (fun cb9 => ?_) (fun cb9 => ?_)
        · skip
          have c55 : ¬ fl2_10.toInt = (-1) := zne cb9 rfl (by decide)
          refine lv_iconst (v := 0) hx hb dX12_personLine_56 (by decide) ?_
          refine lv_istore (lv' := [(4, .int 0), (3, .int r_11), (2, .int r_6), (0, .ref o), (1, .int b0)]) hx hb dX12_personLine_57 hl (by decide) rfl (fun ls hl => ?_)
          refine lv_aload_n hx hb dX12_personLine_59 rfl (lv_at hl 3 rfl) ?_
          refine va_get (D := g.1) (ci := 10) (v := .int fl2_10) (C := RX12) (T := TX12) (N := 20) hx hb hts izRX12 hown hK hP 0 rfl rfl 12 (by decide) (hts _ k820) (fun _ h9 => h9) rfl dX12_personLine_60 ?_
          refine lv_iconst (v := (-1)) hx hb dX12_personLine_63 (by decide) ?_
          refine lv_icmp_eq (tgt := 68) hx hb dX12_personLine_64 (by decide) (fun cb9 => ?_) (fun cb9 => ?_)
          · skip
            exact absurd (show fl2_10.toInt = (-1) from zeq cb9 rfl (by decide)) (zDeq2 (a := 0) (b := (-1)) w54 (Int.le_refl _) (by decide))
          · skip
            have c57 : ¬ fl2_10.toInt = (-1) := zne cb9 rfl (by decide)
            have hP : va_P g.1 vwCl (List.flatten [bMo g o a th hi ac tp (-1) en at2_9 fl2_10 de iD iO tU fm fk fa fc ft ff fb fi]) H := hP
            have hD : va_D A (List.flatten [bMo g o a th hi ac tp (-1) en at2_9 fl2_10 de iD iO tU fm fk fa fc ft ff fb fi]) := hD
            exact mret_v hx hb hr hlocks hS (Nat.le_of_ble_eq_true rfl) (Nat.le_of_ble_eq_true rfl) dX12_personLine_67 (at2_9, fl2_10, fm) rfl (show (rM fm) ∧ (0 ≤ at2_9.toInt ∧ at2_9.toInt ≤ en.toInt + 7 - de.toInt) ∧ (tA.toInt ≤ at2_9.toInt) ∧ ((fm 0).toInt = (fm 0).toInt) ∧ ((-1) = fl2_10 ∧ zTO (zTPerson ft en.toInt (fm 3).toInt b0.toInt) (zbg ft en.toInt at2_9.toInt) (fm 3).toInt (fm 3).toInt (fm 4).toInt (fm 4).toInt ∨ 0 ≤ fl2_10.toInt ∧ zTPerson ft en.toInt (fm 3).toInt b0.toInt (.bad fl2_10.toInt)) from ⟨(by first | assumption | omega | exact Or.inl (by decide) | exact Or.inr (by omega) | decide), (by first | assumption | omega | exact Or.inl (by decide) | exact Or.inr (by omega) | decide), (by first | assumption | omega | exact Or.inl (by decide) | exact Or.inr (by omega) | decide), (by first | assumption | omega | exact Or.inl (by decide) | exact Or.inr (by omega) | decide), (Or.inr ⟨(by omega), zTP_iM (by omega) (zNN_yM (by decide) (by decide) (zNu_b (zNt_b hat) hq7_k) (show zW1 _ _ _ _ _ _ from zW1_yM (zW_b (zNt_b (hq7_km.trans (congrArg (znx ft en.toInt) (zNt_b hat).symm))) hq12_k) (show zNN _ _ _ _ _ _ _ from zNN_bM (by decide) (by decide) (zNn_b (congrArg (znt ft en.toInt) (zNt_b (hq7_km.trans (congrArg (znx ft en.toInt) (zNt_b hat).symm)))) hq12_kn) (hq12_km.trans (congrArg (znt ft en.toInt) (zNt_b (hq7_km.trans (congrArg (znx ft en.toInt) (zNt_b hat).symm)))).symm))))⟩)⟩) hP hD
        · skip
          exact absurd (show fl2_10.toInt = (-1) from zeq cb9 rfl (by decide)) (zDeq2 (a := 0) (b := (-1)) w54 (Int.le_refl _) (by decide))
      · skip
        have w59 : 0 ≤ fl2_10.toInt := zB0 hq12_km
        refine lv_istore_n (lv' := [(3, .int r_11), (2, .int r_6), (0, .ref o), (1, .int b0)]) hx hb dX12_personLine_34 rfl hl (by decide) rfl (fun ls hl => ?_)
        refine lv_aload_n hx hb dX12_personLine_35 rfl (lv_at hl 2 rfl) ?_
        refine va_get (D := g.1) (ci := 10) (v := .int fl2_10) (C := RX12) (T := TX12) (N := 20) hx hb hts izRX12 hown hK hP 0 rfl rfl 12 (by decide) (hts _ k820) (fun _ h9 => h9) rfl dX12_personLine_36 ?_
        refine lv_iconst (v := (-1)) hx hb dX12_personLine_39 (by decide) ?_
        refine lv_icmp_ne (tgt := 56) hx hb dX12_personLine_40 (by decide) (fun cb9 => ?_) (fun cb9 => ?_)
        · skip
          have c60 : ¬ fl2_10.toInt = (-1) := zne cb9 rfl (by decide)
          refine lv_iconst (v := 0) hx hb dX12_personLine_56 (by decide) ?_
          refine lv_istore (lv' := [(4, .int 0), (3, .int r_11), (2, .int r_6), (0, .ref o), (1, .int b0)]) hx hb dX12_personLine_57 hl (by decide) rfl (fun ls hl => ?_)
          refine lv_aload_n hx hb dX12_personLine_59 rfl (lv_at hl 3 rfl) ?_
          refine va_get (D := g.1) (ci := 10) (v := .int fl2_10) (C := RX12) (T := TX12) (N := 20) hx hb hts izRX12 hown hK hP 0 rfl rfl 12 (by decide) (hts _ k820) (fun _ h9 => h9) rfl dX12_personLine_60 ?_
          refine lv_iconst (v := (-1)) hx hb dX12_personLine_63 (by decide) ?_
          refine lv_icmp_eq (tgt := 68) hx hb dX12_personLine_64 (by decide) (fun cb9 => ?_) (fun cb9 => ?_)
          · skip
            exact absurd (show fl2_10.toInt = (-1) from zeq cb9 rfl (by decide)) (zDeq2 (a := 0) (b := (-1)) w59 (Int.le_refl _) (by decide))
          · skip
            have c62 : ¬ fl2_10.toInt = (-1) := zne cb9 rfl (by decide)
            have hP : va_P g.1 vwCl (List.flatten [bMo g o a th hi ac tp (-1) en at2_9 fl2_10 de iD iO tU fm fk fa fc ft ff fb fi]) H := hP
            have hD : va_D A (List.flatten [bMo g o a th hi ac tp (-1) en at2_9 fl2_10 de iD iO tU fm fk fa fc ft ff fb fi]) := hD
            exact mret_v hx hb hr hlocks hS (Nat.le_of_ble_eq_true rfl) (Nat.le_of_ble_eq_true rfl) dX12_personLine_67 (at2_9, fl2_10, fm) rfl (show (rM fm) ∧ (0 ≤ at2_9.toInt ∧ at2_9.toInt ≤ en.toInt + 7 - de.toInt) ∧ (tA.toInt ≤ at2_9.toInt) ∧ ((fm 0).toInt = (fm 0).toInt) ∧ ((-1) = fl2_10 ∧ zTO (zTPerson ft en.toInt (fm 3).toInt b0.toInt) (zbg ft en.toInt at2_9.toInt) (fm 3).toInt (fm 3).toInt (fm 4).toInt (fm 4).toInt ∨ 0 ≤ fl2_10.toInt ∧ zTPerson ft en.toInt (fm 3).toInt b0.toInt (.bad fl2_10.toInt)) from ⟨(by first | assumption | omega | exact Or.inl (by decide) | exact Or.inr (by omega) | decide), (by first | assumption | omega | exact Or.inl (by decide) | exact Or.inr (by omega) | decide), (by first | assumption | omega | exact Or.inl (by decide) | exact Or.inr (by omega) | decide), (by first | assumption | omega | exact Or.inl (by decide) | exact Or.inr (by omega) | decide), (Or.inr ⟨(by omega), zTP_iM (by omega) (zNN_yM (by decide) (by decide) (zNu_b (zNt_b hat) hq7_k) (show zW1 _ _ _ _ _ _ from zW1_n (hq12_km.trans (zNt_b (hq7_km.trans (congrArg (znx ft en.toInt) (zNt_b hat).symm))).symm) (zWn_b (zNt_b (hq7_km.trans (congrArg (znx ft en.toInt) (zNt_b hat).symm))) hq12_k)))⟩)⟩) hP hD
        · skip
          exact absurd (show fl2_10.toInt = (-1) from zeq cb9 rfl (by decide)) (zDeq2 (a := 0) (b := (-1)) w59 (Int.le_refl _) (by decide))
    · skip
      have w64 : 0 ≤ fl2_5.toInt := zB0 hq7_k
      refine lv_istore_n (lv' := [(2, .int r_6), (0, .ref o), (1, .int b0)]) hx hb dX12_personLine_23 rfl hl (by decide) rfl (fun ls hl => ?_)
      refine lv_aload_n hx hb dX12_personLine_24 rfl (lv_at hl 1 rfl) ?_
      refine va_ldcS (q := g.2 62) hx hb hown (zra26 hT.2.1) dX12_personLine_25 ?_
      refine lv_iconst (v := 0) hx hb dX12_personLine_27 (by decide) ?_
      refine lv_sipush (v := 999) hx hb dX12_personLine_28 (by decide) ?_
      refine mcallV' (g := g) (q0 := 0) (ci := 10) (As := [.ref (g.2 62), .int 0, .int 999]) (rest := []) St hK hT hA hP hD hS hl.1 [0] [] rfl rfl rfl (m_afterX l g o a th hi ac tp en at2_4 fl2_5 de iD iO tU fm fk fa fc ft ff fb fi 0 999 (g.2 62) 26 zqa26 hen hq7_0 hde w64 rfl zla26 zna26 (zlitB zla26)) (cwV 3 hts (zgL (zl4 k906 k907 k908 k839) k905) rfl rfl rfl (by decide +kernel) ⟨Nat.le_of_ble_eq_true rfl, Nat.le_of_ble_eq_true rfl⟩) rfl rfl rfl rfl (Nat.le_of_ble_eq_true rfl) dX12_personLine_31 ⟨(Nat.le_of_ble_eq_true rfl), (Nat.le_of_ble_eq_true rfl)⟩ (fun _u H locs hq65 hP hD hS => ?_)
      have hP : va_P g.1 vwCl (List.flatten [bMo g o a th hi ac tp (-1) en at2_4 fl2_5 de iD iO tU fm fk fa fc ft ff fb fi]) H := hP
      have hD : va_D A (List.flatten [bMo g o a th hi ac tp (-1) en at2_4 fl2_5 de iD iO tU fm fk fa fc ft ff fb fi]) := hD
      refine W.widen (k := 0) (n := 0) (Nat.le_of_ble_eq_true rfl) (Nat.le_of_ble_eq_true rfl) ?_
      refine W.eq (g2 := F0 m 34 ls [.int 0]) rfl ?_
      refine lv_istore_n (lv' := [(3, .int 0), (2, .int r_6), (0, .ref o), (1, .int b0)]) hx hb dX12_personLine_34 rfl hl (by decide) rfl (fun ls hl => ?_)
      refine lv_aload_n hx hb dX12_personLine_35 rfl (lv_at hl 2 rfl) ?_
      refine va_get (D := g.1) (ci := 10) (v := .int fl2_5) (C := RX12) (T := TX12) (N := 20) hx hb hts izRX12 hown hK hP 0 rfl rfl 12 (by decide) (hts _ k820) (fun _ h9 => h9) rfl dX12_personLine_36 ?_
      refine lv_iconst (v := (-1)) hx hb dX12_personLine_39 (by decide) ?_
      refine lv_icmp_ne (tgt := 56) hx hb dX12_personLine_40 (by decide) (fun cb9 => ?_) (fun cb9 => ?_)
      · skip
        have c66 : ¬ fl2_5.toInt = (-1) := zne cb9 rfl (by decide)
        refine lv_iconst (v := 0) hx hb dX12_personLine_56 (by decide) ?_
        refine lv_istore (lv' := [(4, .int 0), (3, .int 0), (2, .int r_6), (0, .ref o), (1, .int b0)]) hx hb dX12_personLine_57 hl (by decide) rfl (fun ls hl => ?_)
        refine lv_aload_n hx hb dX12_personLine_59 rfl (lv_at hl 3 rfl) ?_
        refine va_get (D := g.1) (ci := 10) (v := .int fl2_5) (C := RX12) (T := TX12) (N := 20) hx hb hts izRX12 hown hK hP 0 rfl rfl 12 (by decide) (hts _ k820) (fun _ h9 => h9) rfl dX12_personLine_60 ?_
        refine lv_iconst (v := (-1)) hx hb dX12_personLine_63 (by decide) ?_
        refine lv_icmp_eq (tgt := 68) hx hb dX12_personLine_64 (by decide) (fun cb9 => ?_) (fun cb9 => ?_)
        · skip
          exact absurd (show fl2_5.toInt = (-1) from zeq cb9 rfl (by decide)) (zDeq2 (a := 0) (b := (-1)) w64 (Int.le_refl _) (by decide))
        · skip
          have c68 : ¬ fl2_5.toInt = (-1) := zne cb9 rfl (by decide)
          have hP : va_P g.1 vwCl (List.flatten [bMo g o a th hi ac tp (-1) en at2_4 fl2_5 de iD iO tU fm fk fa fc ft ff fb fi]) H := hP
          have hD : va_D A (List.flatten [bMo g o a th hi ac tp (-1) en at2_4 fl2_5 de iD iO tU fm fk fa fc ft ff fb fi]) := hD
          exact mret_v hx hb hr hlocks hS (Nat.le_of_ble_eq_true rfl) (Nat.le_of_ble_eq_true rfl) dX12_personLine_67 (at2_4, fl2_5, fm) rfl (show (rM fm) ∧ (0 ≤ at2_4.toInt ∧ at2_4.toInt ≤ en.toInt + 7 - de.toInt) ∧ (tA.toInt ≤ at2_4.toInt) ∧ ((fm 0).toInt = (fm 0).toInt) ∧ ((-1) = fl2_5 ∧ zTO (zTPerson ft en.toInt (fm 3).toInt b0.toInt) (zbg ft en.toInt at2_4.toInt) (fm 3).toInt (fm 3).toInt (fm 4).toInt (fm 4).toInt ∨ 0 ≤ fl2_5.toInt ∧ zTPerson ft en.toInt (fm 3).toInt b0.toInt (.bad fl2_5.toInt)) from ⟨(by first | assumption | omega | exact Or.inl (by decide) | exact Or.inr (by omega) | decide), (by first | assumption | omega | exact Or.inl (by decide) | exact Or.inr (by omega) | decide), (by first | assumption | omega | exact Or.inl (by decide) | exact Or.inr (by omega) | decide), (by first | assumption | omega | exact Or.inl (by decide) | exact Or.inr (by omega) | decide), (Or.inr ⟨(by omega), zTP_iM (by omega) (zNN_bM (by decide) (by decide) (zNn_b (zNt_b hat) hq7_km) (hq7_k.trans (zNt_b hat).symm))⟩)⟩) hP hD
      · skip
        exact absurd (show fl2_5.toInt = (-1) from zeq cb9 rfl (by decide)) (zDeq2 (a := 0) (b := (-1)) w64 (Int.le_refl _) (by decide))
  · skip
    have c70 : x_1.toInt = 8 := zeq cb9 rfl (by decide)
    have n71 : 8 ≤ x_1.toInt := Int.le_trans (Int.le_refl _) (Int.le_of_eq c70.symm)
    refine lv_aload_n hx hb dX12_personLine_11 rfl (lv_at hl 0 rfl) ?_
    refine lv_iload_n hx hb dX12_personLine_12 rfl (lv_at hl 1 rfl) ?_
    refine mcallV' (g := g) (q0 := 0) (ci := 10) (As := [.int b0]) (rest := []) St hK hT hA hP hD hS hl.1 [0] [] rfl rfl rfl (m_wrongF l g o a th hi ac tp (-1) en tA de iD iO tU fm fk fa fc ft ff fb fi b0 ) (cwV 1 hts (zgL (zl4 k895 k896 k897 k839) k890) rfl rfl rfl (by decide +kernel) ⟨Nat.le_of_ble_eq_true rfl, Nat.le_of_ble_eq_true rfl⟩) rfl rfl rfl rfl (Nat.le_of_ble_eq_true rfl) dX12_personLine_13 ⟨(Nat.le_of_ble_eq_true rfl), (Nat.le_of_ble_eq_true rfl)⟩ (fun _u H locs hq72 hP hD hS => ?_)
    have hP : va_P g.1 vwCl (List.flatten [bMo g o a th hi ac tp (-1) en tA b0 de iD iO tU fm fk fa fc ft ff fb fi]) H := hP
    have hD : va_D A (List.flatten [bMo g o a th hi ac tp (-1) en tA b0 de iD iO tU fm fk fa fc ft ff fb fi]) := hD
    refine W.widen (k := 0) (n := 0) (Nat.le_of_ble_eq_true rfl) (Nat.le_of_ble_eq_true rfl) ?_
    refine W.eq (g2 := F0 m 16 ls []) rfl ?_
    refine lv_aload_n hx hb dX12_personLine_16 rfl (lv_at hl 0 rfl) ?_
    refine lv_iconst (v := 0) hx hb dX12_personLine_17 (by decide) ?_
    refine lv_bipush (v := 99) hx hb dX12_personLine_18 (by decide) ?_
    refine mcallV' (g := g) (q0 := 0) (ci := 10) (As := [.int 0, .int 99]) (rest := []) St hK hT hA hP hD hS hl.1 [0] [] rfl rfl rfl (m_figuresX l g o a th hi ac tp en tA b0 de iD iO tU fm fk fa fc ft ff fb fi 0 99 hen htA hde hb0) (cwV 2 hts (zgL (zl4 k902 k903 k904 k839) k898) rfl rfl rfl (by decide +kernel) ⟨Nat.le_of_ble_eq_true rfl, Nat.le_of_ble_eq_true rfl⟩) rfl rfl rfl rfl (Nat.le_of_ble_eq_true rfl) dX12_personLine_20 ⟨(Nat.le_of_ble_eq_true rfl), (Nat.le_of_ble_eq_true rfl)⟩ (fun _u H locs hq73 hP hD hS => ?_)
    have hP : va_P g.1 vwCl (List.flatten [bMo g o a th hi ac tp (-1) en tA b0 de iD iO tU fm fk fa fc ft ff fb fi]) H := hP
    have hD : va_D A (List.flatten [bMo g o a th hi ac tp (-1) en tA b0 de iD iO tU fm fk fa fc ft ff fb fi]) := hD
    refine W.widen (k := 0) (n := 0) (Nat.le_of_ble_eq_true rfl) (Nat.le_of_ble_eq_true rfl) ?_
    refine W.eq (g2 := F0 m 23 ls [.int 0]) rfl ?_
    refine lv_istore_n (lv' := [(2, .int 0), (0, .ref o), (1, .int b0)]) hx hb dX12_personLine_23 rfl hl (by decide) rfl (fun ls hl => ?_)
    refine lv_aload_n hx hb dX12_personLine_24 rfl (lv_at hl 1 rfl) ?_
    refine va_ldcS (q := g.2 62) hx hb hown (zra26 hT.2.1) dX12_personLine_25 ?_
    refine lv_iconst (v := 0) hx hb dX12_personLine_27 (by decide) ?_
    refine lv_sipush (v := 999) hx hb dX12_personLine_28 (by decide) ?_
    refine mcallV' (g := g) (q0 := 0) (ci := 10) (As := [.ref (g.2 62), .int 0, .int 999]) (rest := []) St hK hT hA hP hD hS hl.1 [0] [] rfl rfl rfl (m_afterX l g o a th hi ac tp en tA b0 de iD iO tU fm fk fa fc ft ff fb fi 0 999 (g.2 62) 26 zqa26 hen htA hde hb0 rfl zla26 zna26 (zlitB zla26)) (cwV 3 hts (zgL (zl4 k906 k907 k908 k839) k905) rfl rfl rfl (by decide +kernel) ⟨Nat.le_of_ble_eq_true rfl, Nat.le_of_ble_eq_true rfl⟩) rfl rfl rfl rfl (Nat.le_of_ble_eq_true rfl) dX12_personLine_31 ⟨(Nat.le_of_ble_eq_true rfl), (Nat.le_of_ble_eq_true rfl)⟩ (fun _u H locs hq74 hP hD hS => ?_)
    have hP : va_P g.1 vwCl (List.flatten [bMo g o a th hi ac tp (-1) en tA b0 de iD iO tU fm fk fa fc ft ff fb fi]) H := hP
    have hD : va_D A (List.flatten [bMo g o a th hi ac tp (-1) en tA b0 de iD iO tU fm fk fa fc ft ff fb fi]) := hD
    refine W.widen (k := 0) (n := 0) (Nat.le_of_ble_eq_true rfl) (Nat.le_of_ble_eq_true rfl) ?_
    refine W.eq (g2 := F0 m 34 ls [.int 0]) rfl ?_
    refine lv_istore_n (lv' := [(3, .int 0), (2, .int 0), (0, .ref o), (1, .int b0)]) hx hb dX12_personLine_34 rfl hl (by decide) rfl (fun ls hl => ?_)
    refine lv_aload_n hx hb dX12_personLine_35 rfl (lv_at hl 2 rfl) ?_
    refine va_get (D := g.1) (ci := 10) (v := .int b0) (C := RX12) (T := TX12) (N := 20) hx hb hts izRX12 hown hK hP 0 rfl rfl 12 (by decide) (hts _ k820) (fun _ h9 => h9) rfl dX12_personLine_36 ?_
    refine lv_iconst (v := (-1)) hx hb dX12_personLine_39 (by decide) ?_
    refine lv_icmp_ne (tgt := 56) hx hb dX12_personLine_40 (by decide) (fun cb9 => ?_) (fun cb9 => ?_)
    · skip
      have c75 : ¬ b0.toInt = (-1) := zne cb9 rfl (by decide)
      refine lv_iconst (v := 0) hx hb dX12_personLine_56 (by decide) ?_
      refine lv_istore (lv' := [(4, .int 0), (3, .int 0), (2, .int 0), (0, .ref o), (1, .int b0)]) hx hb dX12_personLine_57 hl (by decide) rfl (fun ls hl => ?_)
      refine lv_aload_n hx hb dX12_personLine_59 rfl (lv_at hl 3 rfl) ?_
      refine va_get (D := g.1) (ci := 10) (v := .int b0) (C := RX12) (T := TX12) (N := 20) hx hb hts izRX12 hown hK hP 0 rfl rfl 12 (by decide) (hts _ k820) (fun _ h9 => h9) rfl dX12_personLine_60 ?_
      refine lv_iconst (v := (-1)) hx hb dX12_personLine_63 (by decide) ?_
      refine lv_icmp_eq (tgt := 68) hx hb dX12_personLine_64 (by decide) (fun cb9 => ?_) (fun cb9 => ?_)
      · skip
        exact absurd (show b0.toInt = (-1) from zeq cb9 rfl (by decide)) (zDeq2 (a := 0) (b := (-1)) hb0 (Int.le_refl _) (by decide))
      · skip
        have c77 : ¬ b0.toInt = (-1) := zne cb9 rfl (by decide)
        have hP : va_P g.1 vwCl (List.flatten [bMo g o a th hi ac tp (-1) en tA b0 de iD iO tU fm fk fa fc ft ff fb fi]) H := hP
        have hD : va_D A (List.flatten [bMo g o a th hi ac tp (-1) en tA b0 de iD iO tU fm fk fa fc ft ff fb fi]) := hD
        exact mret_v hx hb hr hlocks hS (Nat.le_of_ble_eq_true rfl) (Nat.le_of_ble_eq_true rfl) dX12_personLine_67 (tA, b0, fm) rfl (show (rM fm) ∧ (0 ≤ tA.toInt ∧ tA.toInt ≤ en.toInt + 7 - de.toInt) ∧ (tA.toInt ≤ tA.toInt) ∧ ((fm 0).toInt = (fm 0).toInt) ∧ ((-1) = b0 ∧ zTO (zTPerson ft en.toInt (fm 3).toInt b0.toInt) (zbg ft en.toInt tA.toInt) (fm 3).toInt (fm 3).toInt (fm 4).toInt (fm 4).toInt ∨ 0 ≤ b0.toInt ∧ zTPerson ft en.toInt (fm 3).toInt b0.toInt (.bad b0.toInt)) from ⟨(by first | assumption | omega | exact Or.inl (by decide) | exact Or.inr (by omega) | decide), (by first | assumption | omega | exact Or.inl (by decide) | exact Or.inr (by omega) | decide), (by first | assumption | omega | exact Or.inl (by decide) | exact Or.inr (by omega) | decide), (by first | assumption | omega | exact Or.inl (by decide) | exact Or.inr (by omega) | decide), (Or.inr ⟨(by omega), zTP_f (by omega) rfl⟩)⟩) hP hD
    · skip
      exact absurd (show b0.toInt = (-1) from zeq cb9 rfl (by decide)) (zDeq2 (a := 0) (b := (-1)) hb0 (Int.le_refl _) (by decide))
set_option maxRecDepth 100000 in
set_option maxHeartbeats 8000000 in
theorem m_workLineF (l : Launch) (g : zG) (o : Nat) (a : Nat → Nat) (th : Int32) (hi : Int32) (ac : Int32) (tp : Int32) (en : Int32) (tA : Int32) (de : Int32) (iD : Int32) (iO : Int32) (tU : Int32) (fm : Nat → Int32) (fk : Nat → Int32) (fa : Nat → Int32) (fc : Nat → Int32) (ft : Nat → Int32) (ff : Nat → Int32) (fb : Nat → Int32) (fi : Nat → Int32) (b0 : Int32) (rfm : rM fm) (hen : 0 ≤ en.toInt ∧ en.toInt ≤ 400) (htA : 0 ≤ tA.toInt ∧ tA.toInt ≤ en.toInt + 7 - de.toInt) (hde : 0 ≤ de.toInt ∧ de.toInt ≤ 6) (hb0 : 0 ≤ b0.toInt) (hat : tA.toInt = znx ft en.toInt b0.toInt) : zM' g l yX12_workLine (Cond.code yX12_workLine cX12_workLine 6 none :: zB) ({ frames := 6, cells := 0, slots := 0, locals := 131 } : Room) [.ref o, .int b0] [bMo g o a th hi ac tp (-1) en tA (-1) de iD iO tU fm fk fa fc ft ff fb fi] (fun u : Int32 × Int32 × (Nat → Int32) => (fun (at2 : Int32) (fl2 : Int32) (fm2 : Nat → Int32) => none) (u.1) (u.2.1) (u.2.2)) (fun u : Int32 × Int32 × (Nat → Int32) => (fun (at2 : Int32) (fl2 : Int32) (fm2 : Nat → Int32) => (rM fm2) ∧ (0 ≤ at2.toInt ∧ at2.toInt ≤ en.toInt + 7 - de.toInt) ∧ (tA.toInt ≤ at2.toInt) ∧ ((fm2 0).toInt = (fm 0).toInt) ∧ ((-1) = fl2 ∧ zTO (zTWork ft en.toInt (fm 4).toInt b0.toInt) (zbg ft en.toInt at2.toInt) (fm 3).toInt (fm2 3).toInt (fm 4).toInt (fm2 4).toInt ∨ 0 ≤ fl2.toInt ∧ zTWork ft en.toInt (fm 4).toInt b0.toInt (.bad fl2.toInt))) (u.1) (u.2.1) (u.2.2)) (fun u : Int32 × Int32 × (Nat → Int32) => (fun (at2 : Int32) (fl2 : Int32) (fm2 : Nat → Int32) => [bMo g o a th hi ac tp (-1) en at2 fl2 de iD iO tU fm2 fk fa fc ft ff fb fi]) (u.1) (u.2.1) (u.2.2)) := by
  refine zM'.of (cc := cX12_workLine) (maxL := 6) (rt := none) (by decide) rfl (Nat.le_of_ble_eq_true rfl) ?_
  intro p e s m args below meth c A ls St hr hlocks hin hK hT hA hP hD hS hl
  obtain ⟨hx, hb, hml, hown, hts⟩ := id St
  have hl : lv_has ls 6 [(0, .ref o), (1, .int b0)] := hl
  refine lv_aload_n hx hb dX12_workLine_0 rfl (lv_at hl 0 rfl) ?_
  refine va_get (D := g.1) (ci := 10) (v := .ref (a 0)) (C := RX12) (T := TX12) (N := 20) hx hb hts izRX12 hown hK hP 0 rfl rfl 1 (by decide) (hts _ k815) (fun _ h9 => h9) rfl dX12_workLine_1 ?_
  refine lv_iconst (v := 4) hx hb dX12_workLine_4 (by decide) ?_
  refine va_iald hx hb hK hP 1 0 rfl rfl (zin rfl) dX12_workLine_5 ?_
  refine zgq (r := fm 4) rfl (rM4 rfm) (fun x_1 hx_1 => ?_)
  refine lv_bipush (v := 6) hx hb dX12_workLine_6 (by decide) ?_
  refine lv_icmp_ne (tgt := 16) hx hb dX12_workLine_8 (by decide) (fun cb9 => ?_) (fun cb9 => ?_)
  · skip
    have c2 : ¬ x_1.toInt = 6 := zne cb9 rfl (by decide)
    have n3 : x_1.toInt ≤ 5 := zN2 c2 hx_1.2.1 (by decide)
    refine lv_aload_n hx hb dX12_workLine_16 rfl (lv_at hl 0 rfl) ?_
    refine lv_iconst (v := 1) hx hb dX12_workLine_17 (by decide) ?_
    refine lv_bipush (v := 99) hx hb dX12_workLine_18 (by decide) ?_
    have hL1 : (1 : Int32).toInt = 1 := by decide
    have hL99 : (99 : Int32).toInt = 99 := by decide
    refine mcallV' (g := g) (q0 := 0) (ci := 10) (As := [.int 1, .int 99]) (rest := []) St hK hT hA hP hD hS hl.1 [0] [] rfl rfl rfl (m_figuresF l g o a th hi ac tp en tA de iD iO tU fm fk fa fc ft ff fb fi 1 99 hen htA hde) (cwV 2 hts (zgL (zl4 k902 k903 k904 k839) k898) rfl rfl rfl (by decide +kernel) ⟨Nat.le_of_ble_eq_true rfl, Nat.le_of_ble_eq_true rfl⟩) rfl rfl rfl rfl (Nat.le_of_ble_eq_true rfl) dX12_workLine_20 ⟨(Nat.le_of_ble_eq_true rfl), (Nat.le_of_ble_eq_true rfl)⟩ (fun u_ H locs hq7 hP hD hS => ?_)
    obtain ⟨at2_4, fl2_5, r_6⟩ := u_
    replace hq7 : (0 ≤ at2_4.toInt ∧ at2_4.toInt ≤ en.toInt + 7 - de.toInt) ∧ (tA.toInt ≤ at2_4.toInt) ∧ (zNu ft en.toInt (zbg ft en.toInt tA.toInt) (1 : Int32).toInt (99 : Int32).toInt r_6 ∧ at2_4.toInt = znx ft en.toInt (zbg ft en.toInt tA.toInt) ∧ (-1) = fl2_5 ∨ fl2_5.toInt = zbg ft en.toInt tA.toInt ∧ ¬ ∃ v9, zNu ft en.toInt (zbg ft en.toInt tA.toInt) (1 : Int32).toInt (99 : Int32).toInt v9) := hq7
    have hP : va_P g.1 vwCl (List.flatten [bMo g o a th hi ac tp (-1) en at2_4 fl2_5 de iD iO tU fm fk fa fc ft ff fb fi]) H := hP
    have hD : va_D A (List.flatten [bMo g o a th hi ac tp (-1) en at2_4 fl2_5 de iD iO tU fm fk fa fc ft ff fb fi]) := hD
    refine W.widen (k := 0) (n := 0) (Nat.le_of_ble_eq_true rfl) (Nat.le_of_ble_eq_true rfl) ?_
    refine W.eq (g2 := F0 m 23 ls [.int r_6]) rfl ?_
    obtain ⟨hq7_0, hq7_1, hq7_2⟩ := hq7
    rcases hq7_2 with ⟨hq7_k, hq7_km, rfl⟩ | ⟨hq7_k, hq7_km⟩
    · skip
      have w8 : 1 ≤ r_6.toInt ∧ r_6.toInt ≤ 99 := ⟨(by have h9 := hq7_k.2.2.1; omega), (by have h9 := hq7_k.2.2.2; omega)⟩
      refine lv_istore_n (lv' := [(2, .int r_6), (0, .ref o), (1, .int b0)]) hx hb dX12_workLine_23 rfl hl (by decide) rfl (fun ls hl => ?_)
      refine lv_aload_n hx hb dX12_workLine_24 rfl (lv_at hl 1 rfl) ?_
      refine va_ldcS (q := g.2 66) hx hb hown (zra28 hT.2.1) dX12_workLine_25 ?_
      refine lv_iconst (v := 0) hx hb dX12_workLine_27 (by decide) ?_
      refine lv_sipush (v := 799) hx hb dX12_workLine_28 (by decide) ?_
      have hL0 : (0 : Int32).toInt = 0 := by decide
      have hL799 : (799 : Int32).toInt = 799 := by decide
      refine mcallV' (g := g) (q0 := 0) (ci := 10) (As := [.ref (g.2 66), .int 0, .int 799]) (rest := []) St hK hT hA hP hD hS hl.1 [0] [] rfl rfl rfl (m_afterF l g o a th hi ac tp en at2_4 de iD iO tU fm fk fa fc ft ff fb fi 0 799 (g.2 66) 28 zqa28 hen hq7_0 hde rfl zla28 zna28 (zlitB zla28)) (cwV 3 hts (zgL (zl4 k906 k907 k908 k839) k905) rfl rfl rfl (by decide +kernel) ⟨Nat.le_of_ble_eq_true rfl, Nat.le_of_ble_eq_true rfl⟩) rfl rfl rfl rfl (Nat.le_of_ble_eq_true rfl) dX12_workLine_31 ⟨(Nat.le_of_ble_eq_true rfl), (Nat.le_of_ble_eq_true rfl)⟩ (fun u_ H locs hq12 hP hD hS => ?_)
      obtain ⟨at2_9, fl2_10, r_11⟩ := u_
      replace hq12 : (0 ≤ at2_9.toInt ∧ at2_9.toInt ≤ en.toInt + 7 - de.toInt) ∧ (at2_4.toInt ≤ at2_9.toInt) ∧ (zisW ft en.toInt (zbg ft en.toInt at2_4.toInt) zqa28.2.2.2 ∧ zNu ft en.toInt (znt ft en.toInt (zbg ft en.toInt at2_4.toInt)) (0 : Int32).toInt (799 : Int32).toInt r_11 ∧ at2_9.toInt = znx ft en.toInt (znt ft en.toInt (zbg ft en.toInt at2_4.toInt)) ∧ (-1) = fl2_10 ∨ zisW ft en.toInt (zbg ft en.toInt at2_4.toInt) zqa28.2.2.2 ∧ (¬ ∃ v9, zNu ft en.toInt (znt ft en.toInt (zbg ft en.toInt at2_4.toInt)) (0 : Int32).toInt (799 : Int32).toInt v9) ∧ fl2_10.toInt = znt ft en.toInt (zbg ft en.toInt at2_4.toInt) ∨ ¬ zisW ft en.toInt (zbg ft en.toInt at2_4.toInt) zqa28.2.2.2 ∧ fl2_10.toInt = zbg ft en.toInt at2_4.toInt) := hq12
      have hP : va_P g.1 vwCl (List.flatten [bMo g o a th hi ac tp (-1) en at2_9 fl2_10 de iD iO tU fm fk fa fc ft ff fb fi]) H := hP
      have hD : va_D A (List.flatten [bMo g o a th hi ac tp (-1) en at2_9 fl2_10 de iD iO tU fm fk fa fc ft ff fb fi]) := hD
      refine W.widen (k := 0) (n := 0) (Nat.le_of_ble_eq_true rfl) (Nat.le_of_ble_eq_true rfl) ?_
      refine W.eq (g2 := F0 m 34 ls [.int r_11]) rfl ?_
      obtain ⟨hq12_0, hq12_1, hq12_2⟩ := hq12
      rcases hq12_2 with ⟨hq12_k, hq12_kn, hq12_km, rfl⟩ | ⟨hq12_k, hq12_kn, hq12_km⟩ | ⟨hq12_k, hq12_km⟩
      · skip
        have w13 : 0 ≤ r_11.toInt ∧ r_11.toInt ≤ 799 := ⟨(by have h9 := hq12_kn.2.2.1; omega), (by have h9 := hq12_kn.2.2.2; omega)⟩
        refine lv_istore_n (lv' := [(3, .int r_11), (2, .int r_6), (0, .ref o), (1, .int b0)]) hx hb dX12_workLine_34 rfl hl (by decide) rfl (fun ls hl => ?_)
        refine lv_aload_n hx hb dX12_workLine_35 rfl (lv_at hl 2 rfl) ?_
        refine va_ldcS (q := g.2 68) hx hb hown (zra29 hT.2.1) dX12_workLine_36 ?_
        refine lv_iconst (v := 0) hx hb dX12_workLine_38 (by decide) ?_
        refine lv_bipush (v := 20) hx hb dX12_workLine_39 (by decide) ?_
        have hL20 : (20 : Int32).toInt = 20 := by decide
        refine mcallV' (g := g) (q0 := 0) (ci := 10) (As := [.ref (g.2 68), .int 0, .int 20]) (rest := []) St hK hT hA hP hD hS hl.1 [0] [] rfl rfl rfl (m_afterF l g o a th hi ac tp en at2_9 de iD iO tU fm fk fa fc ft ff fb fi 0 20 (g.2 68) 29 zqa29 hen hq12_0 hde rfl zla29 zna29 (zlitB zla29)) (cwV 3 hts (zgL (zl4 k906 k907 k908 k839) k905) rfl rfl rfl (by decide +kernel) ⟨Nat.le_of_ble_eq_true rfl, Nat.le_of_ble_eq_true rfl⟩) rfl rfl rfl rfl (Nat.le_of_ble_eq_true rfl) dX12_workLine_41 ⟨(Nat.le_of_ble_eq_true rfl), (Nat.le_of_ble_eq_true rfl)⟩ (fun u_ H locs hq17 hP hD hS => ?_)
        obtain ⟨at2_14, fl2_15, r_16⟩ := u_
        replace hq17 : (0 ≤ at2_14.toInt ∧ at2_14.toInt ≤ en.toInt + 7 - de.toInt) ∧ (at2_9.toInt ≤ at2_14.toInt) ∧ (zisW ft en.toInt (zbg ft en.toInt at2_9.toInt) zqa29.2.2.2 ∧ zNu ft en.toInt (znt ft en.toInt (zbg ft en.toInt at2_9.toInt)) (0 : Int32).toInt (20 : Int32).toInt r_16 ∧ at2_14.toInt = znx ft en.toInt (znt ft en.toInt (zbg ft en.toInt at2_9.toInt)) ∧ (-1) = fl2_15 ∨ zisW ft en.toInt (zbg ft en.toInt at2_9.toInt) zqa29.2.2.2 ∧ (¬ ∃ v9, zNu ft en.toInt (znt ft en.toInt (zbg ft en.toInt at2_9.toInt)) (0 : Int32).toInt (20 : Int32).toInt v9) ∧ fl2_15.toInt = znt ft en.toInt (zbg ft en.toInt at2_9.toInt) ∨ ¬ zisW ft en.toInt (zbg ft en.toInt at2_9.toInt) zqa29.2.2.2 ∧ fl2_15.toInt = zbg ft en.toInt at2_9.toInt) := hq17
        have hP : va_P g.1 vwCl (List.flatten [bMo g o a th hi ac tp (-1) en at2_14 fl2_15 de iD iO tU fm fk fa fc ft ff fb fi]) H := hP
        have hD : va_D A (List.flatten [bMo g o a th hi ac tp (-1) en at2_14 fl2_15 de iD iO tU fm fk fa fc ft ff fb fi]) := hD
        refine W.widen (k := 0) (n := 0) (Nat.le_of_ble_eq_true rfl) (Nat.le_of_ble_eq_true rfl) ?_
        refine W.eq (g2 := F0 m 44 ls [.int r_16]) rfl ?_
        obtain ⟨hq17_0, hq17_1, hq17_2⟩ := hq17
        rcases hq17_2 with ⟨hq17_k, hq17_kn, hq17_km, rfl⟩ | ⟨hq17_k, hq17_kn, hq17_km⟩ | ⟨hq17_k, hq17_km⟩
        · skip
          have w18 : 0 ≤ r_16.toInt ∧ r_16.toInt ≤ 20 := ⟨(by have h9 := hq17_kn.2.2.1; omega), (by have h9 := hq17_kn.2.2.2; omega)⟩
          refine lv_istore (lv' := [(4, .int r_16), (3, .int r_11), (2, .int r_6), (0, .ref o), (1, .int b0)]) hx hb dX12_workLine_44 hl (by decide) rfl (fun ls hl => ?_)
          refine lv_aload_n hx hb dX12_workLine_46 rfl (lv_at hl 3 rfl) ?_
          refine va_get (D := g.1) (ci := 10) (v := .int (-1)) (C := RX12) (T := TX12) (N := 20) hx hb hts izRX12 hown hK hP 0 rfl rfl 12 (by decide) (hts _ k820) (fun _ h9 => h9) rfl dX12_workLine_47 ?_
          refine lv_iconst (v := (-1)) hx hb dX12_workLine_50 (by decide) ?_
          refine lv_icmp_eq (tgt := 55) hx hb dX12_workLine_51 (by decide) (fun _ => ?_) (fun c19 => absurd (by decide) c19)
          refine lv_aload_n hx hb dX12_workLine_55 rfl (lv_at hl 3 rfl) ?_
          refine va_get (D := g.1) (ci := 10) (v := .ref (a 0)) (C := RX12) (T := TX12) (N := 20) hx hb hts izRX12 hown hK hP 0 rfl rfl 1 (by decide) (hts _ k815) (fun _ h9 => h9) rfl dX12_workLine_56 ?_
          refine lv_iconst (v := 4) hx hb dX12_workLine_59 (by decide) ?_
          refine va_iald hx hb hK hP 1 0 rfl rfl (zin rfl) dX12_workLine_60 ?_
          refine zgq (r := fm 4) rfl (rM4 rfm) (fun x_20 hx_20 => ?_)
          refine lv_istore (lv' := [(5, .int x_20), (4, .int r_16), (3, .int r_11), (2, .int r_6), (0, .ref o), (1, .int b0)]) hx hb dX12_workLine_61 hl (by decide) rfl (fun ls hl => ?_)
          refine lv_aload_n hx hb dX12_workLine_63 rfl (lv_at hl 4 rfl) ?_
          refine lv_iload hx hb dX12_workLine_64 (lv_at hl 0 rfl) ?_
          refine lv_iconst (v := 0) hx hb dX12_workLine_66 (by decide) ?_
          refine lv_iload_n hx hb dX12_workLine_67 rfl (lv_at hl 3 rfl) ?_
          refine mcallV' (g := g) (q0 := 0) (ci := 10) (As := [.int x_20, .int 0, .int r_6]) (rest := []) St hK hT hA hP hD hS hl.1 [0] [] rfl rfl rfl (m_putWork l g o a th hi ac tp (-1) en at2_14 (-1) de iD iO tU fm fk fa fc ft ff fb fi x_20 0 r_6 rfm (by first | assumption | omega | decide | exact Or.inl (by decide) | exact Or.inr (by decide)) (by decide)) (cwV 3 hts (zgL (zl4 k914 k915 k916 k839) k834) rfl rfl rfl (by decide +kernel) ⟨Nat.le_of_ble_eq_true rfl, Nat.le_of_ble_eq_true rfl⟩) rfl rfl rfl rfl (Nat.le_of_ble_eq_true rfl) dX12_workLine_68 ⟨(Nat.le_of_ble_eq_true rfl), (Nat.le_of_ble_eq_true rfl)⟩ (fun fm2_21 H locs hq22 hP hD hS => ?_)
          replace hq22 : ((fm2_21 0).toInt = (fm 0).toInt ∧ (fm2_21 3).toInt = (fm 3).toInt ∧ (fm2_21 4).toInt = (fm 4).toInt) ∧ (rM fm2_21) ∧ ((fm2_21 3).toInt = (fm 3).toInt ∧ (fm2_21 4).toInt = (fm 4).toInt) := hq22
          have hP : va_P g.1 vwCl (List.flatten [bMo g o a th hi ac tp (-1) en at2_14 (-1) de iD iO tU fm2_21 fk fa fc ft ff fb fi]) H := hP
          have hD : va_D A (List.flatten [bMo g o a th hi ac tp (-1) en at2_14 (-1) de iD iO tU fm2_21 fk fa fc ft ff fb fi]) := hD
          refine W.widen (k := 0) (n := 0) (Nat.le_of_ble_eq_true rfl) (Nat.le_of_ble_eq_true rfl) ?_
          refine W.eq (g2 := F0 m 71 ls []) rfl ?_
          obtain ⟨hq22_0, rfm2_21, hq22_2⟩ := hq22
          refine lv_aload_n hx hb dX12_workLine_71 rfl (lv_at hl 4 rfl) ?_
          refine lv_iload hx hb dX12_workLine_72 (lv_at hl 0 rfl) ?_
          refine lv_iconst (v := 1) hx hb dX12_workLine_74 (by decide) ?_
          refine lv_iload_n hx hb dX12_workLine_75 rfl (lv_at hl 2 rfl) ?_
          refine mcallV' (g := g) (q0 := 0) (ci := 10) (As := [.int x_20, .int 1, .int r_11]) (rest := []) St hK hT hA hP hD hS hl.1 [0] [] rfl rfl rfl (m_putWork l g o a th hi ac tp (-1) en at2_14 (-1) de iD iO tU fm2_21 fk fa fc ft ff fb fi x_20 1 r_11 rfm2_21 (by first | assumption | omega | decide | exact Or.inl (by decide) | exact Or.inr (by decide)) (by decide)) (cwV 3 hts (zgL (zl4 k914 k915 k916 k839) k834) rfl rfl rfl (by decide +kernel) ⟨Nat.le_of_ble_eq_true rfl, Nat.le_of_ble_eq_true rfl⟩) rfl rfl rfl rfl (Nat.le_of_ble_eq_true rfl) dX12_workLine_76 ⟨(Nat.le_of_ble_eq_true rfl), (Nat.le_of_ble_eq_true rfl)⟩ (fun fm2_23 H locs hq24 hP hD hS => ?_)
          replace hq24 : ((fm2_23 0).toInt = (fm2_21 0).toInt ∧ (fm2_23 3).toInt = (fm2_21 3).toInt ∧ (fm2_23 4).toInt = (fm2_21 4).toInt) ∧ (rM fm2_23) ∧ ((fm2_23 3).toInt = (fm2_21 3).toInt ∧ (fm2_23 4).toInt = (fm2_21 4).toInt) := hq24
          have hP : va_P g.1 vwCl (List.flatten [bMo g o a th hi ac tp (-1) en at2_14 (-1) de iD iO tU fm2_23 fk fa fc ft ff fb fi]) H := hP
          have hD : va_D A (List.flatten [bMo g o a th hi ac tp (-1) en at2_14 (-1) de iD iO tU fm2_23 fk fa fc ft ff fb fi]) := hD
          refine W.widen (k := 0) (n := 0) (Nat.le_of_ble_eq_true rfl) (Nat.le_of_ble_eq_true rfl) ?_
          refine W.eq (g2 := F0 m 79 ls []) rfl ?_
          obtain ⟨hq24_0, rfm2_23, hq24_2⟩ := hq24
          refine lv_aload_n hx hb dX12_workLine_79 rfl (lv_at hl 4 rfl) ?_
          refine lv_iload hx hb dX12_workLine_80 (lv_at hl 0 rfl) ?_
          refine lv_iconst (v := 2) hx hb dX12_workLine_82 (by decide) ?_
          refine lv_iload hx hb dX12_workLine_83 (lv_at hl 1 rfl) ?_
          have hL2 : (2 : Int32).toInt = 2 := by decide
          refine mcallV' (g := g) (q0 := 0) (ci := 10) (As := [.int x_20, .int 2, .int r_16]) (rest := []) St hK hT hA hP hD hS hl.1 [0] [] rfl rfl rfl (m_putWork l g o a th hi ac tp (-1) en at2_14 (-1) de iD iO tU fm2_23 fk fa fc ft ff fb fi x_20 2 r_16 rfm2_23 (by first | assumption | omega | decide | exact Or.inl (by decide) | exact Or.inr (by decide)) (by decide)) (cwV 3 hts (zgL (zl4 k914 k915 k916 k839) k834) rfl rfl rfl (by decide +kernel) ⟨Nat.le_of_ble_eq_true rfl, Nat.le_of_ble_eq_true rfl⟩) rfl rfl rfl rfl (Nat.le_of_ble_eq_true rfl) dX12_workLine_85 ⟨(Nat.le_of_ble_eq_true rfl), (Nat.le_of_ble_eq_true rfl)⟩ (fun fm2_25 H locs hq26 hP hD hS => ?_)
          replace hq26 : ((fm2_25 0).toInt = (fm2_23 0).toInt ∧ (fm2_25 3).toInt = (fm2_23 3).toInt ∧ (fm2_25 4).toInt = (fm2_23 4).toInt) ∧ (rM fm2_25) ∧ ((fm2_25 3).toInt = (fm2_23 3).toInt ∧ (fm2_25 4).toInt = (fm2_23 4).toInt) := hq26
          have hP : va_P g.1 vwCl (List.flatten [bMo g o a th hi ac tp (-1) en at2_14 (-1) de iD iO tU fm2_25 fk fa fc ft ff fb fi]) H := hP
          have hD : va_D A (List.flatten [bMo g o a th hi ac tp (-1) en at2_14 (-1) de iD iO tU fm2_25 fk fa fc ft ff fb fi]) := hD
          refine W.widen (k := 0) (n := 0) (Nat.le_of_ble_eq_true rfl) (Nat.le_of_ble_eq_true rfl) ?_
          refine W.eq (g2 := F0 m 88 ls []) rfl ?_
          obtain ⟨hq26_0, rfm2_25, hq26_2⟩ := hq26
          refine lv_aload_n hx hb dX12_workLine_88 rfl (lv_at hl 4 rfl) ?_
          refine lv_iload hx hb dX12_workLine_89 (lv_at hl 0 rfl) ?_
          refine lv_iconst (v := 3) hx hb dX12_workLine_91 (by decide) ?_
          refine lv_iconst (v := 0) hx hb dX12_workLine_92 (by decide) ?_
          have hL3 : (3 : Int32).toInt = 3 := by decide
          refine mcallV' (g := g) (q0 := 0) (ci := 10) (As := [.int x_20, .int 3, .int 0]) (rest := []) St hK hT hA hP hD hS hl.1 [0] [] rfl rfl rfl (m_putWork l g o a th hi ac tp (-1) en at2_14 (-1) de iD iO tU fm2_25 fk fa fc ft ff fb fi x_20 3 0 rfm2_25 (by first | assumption | omega | decide | exact Or.inl (by decide) | exact Or.inr (by decide)) (by decide)) (cwV 3 hts (zgL (zl4 k914 k915 k916 k839) k834) rfl rfl rfl (by decide +kernel) ⟨Nat.le_of_ble_eq_true rfl, Nat.le_of_ble_eq_true rfl⟩) rfl rfl rfl rfl (Nat.le_of_ble_eq_true rfl) dX12_workLine_93 ⟨(Nat.le_of_ble_eq_true rfl), (Nat.le_of_ble_eq_true rfl)⟩ (fun fm2_27 H locs hq28 hP hD hS => ?_)
          replace hq28 : ((fm2_27 0).toInt = (fm2_25 0).toInt ∧ (fm2_27 3).toInt = (fm2_25 3).toInt ∧ (fm2_27 4).toInt = (fm2_25 4).toInt) ∧ (rM fm2_27) ∧ ((fm2_27 3).toInt = (fm2_25 3).toInt ∧ (fm2_27 4).toInt = (fm2_25 4).toInt) := hq28
          have hP : va_P g.1 vwCl (List.flatten [bMo g o a th hi ac tp (-1) en at2_14 (-1) de iD iO tU fm2_27 fk fa fc ft ff fb fi]) H := hP
          have hD : va_D A (List.flatten [bMo g o a th hi ac tp (-1) en at2_14 (-1) de iD iO tU fm2_27 fk fa fc ft ff fb fi]) := hD
          refine W.widen (k := 0) (n := 0) (Nat.le_of_ble_eq_true rfl) (Nat.le_of_ble_eq_true rfl) ?_
          refine W.eq (g2 := F0 m 96 ls []) rfl ?_
          obtain ⟨hq28_0, rfm2_27, hq28_2⟩ := hq28
          refine lv_aload_n hx hb dX12_workLine_96 rfl (lv_at hl 4 rfl) ?_
          refine va_get (D := g.1) (ci := 10) (v := .ref (a 0)) (C := RX12) (T := TX12) (N := 20) hx hb hts izRX12 hown hK hP 0 rfl rfl 1 (by decide) (hts _ k815) (fun _ h9 => h9) rfl dX12_workLine_97 ?_
          refine lv_iconst (v := 4) hx hb dX12_workLine_100 (by decide) ?_
          refine lv_dup2_11 hx hb dX12_workLine_101 rfl rfl ?_
          refine va_iald hx hb hK hP 1 0 rfl rfl (zin rfl) dX12_workLine_102 ?_
          refine zgq (r := fm2_27 4) rfl (rM4 rfm2_27) (fun x_29 hx_29 => ?_)
          refine lv_iconst (v := 1) hx hb dX12_workLine_103 (by decide) ?_
          refine lv_iadd hx hb dX12_workLine_104 ?_
          refine zg3 (zaddK (i := x_29.toInt) (j := 1) (a' := 1) (b' := 7) rfl (by decide) hx_29.1 hx_29.2.1 (Int.le_refl _) (Int.le_refl _) (by decide)) (fun x_30 hx_30 => ?_)
          refine va_iast hx hb hK hP hD hS 1 0 rfl rfl (zin rfl) dX12_workLine_105 (fun H locs hP hD hS => ?_)
          obtain ⟨fm_31, ⟨rfm_31, hkfm_31⟩, hP, hD⟩ : ∃ fm_31 : Nat → Int32, (rM fm_31 ∧ (fm_31 0).toInt = (fm2_27 0).toInt ∧ (fm_31 4).toInt = x_30.toInt ∧ (fm_31 3).toInt = (fm2_27 3).toInt) ∧ va_P g.1 vwCl (List.flatten [bMo g o a th hi ac tp (-1) en at2_14 (-1) de iD iO tU fm_31 fk fa fc ft ff fb fi]) H ∧ va_D A (List.flatten [bMo g o a th hi ac tp (-1) en at2_14 (-1) de iD iO tU fm_31 fk fa fc ft ff fb fi]) := ⟨upd fm2_27 4 x_30, ⟨(rM_s4 rfm2_27 (show 0 ≤ x_30.toInt ∧ x_30.toInt ≤ 6 from (by omega))), rfl, rfl, rfl⟩, hP, hD⟩
          have hP : va_P g.1 vwCl (List.flatten [bMo g o a th hi ac tp (-1) en at2_14 (-1) de iD iO tU fm_31 fk fa fc ft ff fb fi]) H := hP
          have hD : va_D A (List.flatten [bMo g o a th hi ac tp (-1) en at2_14 (-1) de iD iO tU fm_31 fk fa fc ft ff fb fi]) := hD
          exact mret_v hx hb hr hlocks hS (Nat.le_of_ble_eq_true rfl) (Nat.le_of_ble_eq_true rfl) dX12_workLine_106 (at2_14, -1, fm_31) rfl (show (rM fm_31) ∧ (0 ≤ at2_14.toInt ∧ at2_14.toInt ≤ en.toInt + 7 - de.toInt) ∧ (tA.toInt ≤ at2_14.toInt) ∧ ((fm_31 0).toInt = (fm 0).toInt) ∧ ((-1) = (-1) ∧ zTO (zTWork ft en.toInt (fm 4).toInt b0.toInt) (zbg ft en.toInt at2_14.toInt) (fm 3).toInt (fm_31 3).toInt (fm 4).toInt (fm_31 4).toInt ∨ 0 ≤ ((-1) : Int32).toInt ∧ zTWork ft en.toInt (fm 4).toInt b0.toInt (.bad ((-1) : Int32).toInt)) from ⟨(by first | assumption | omega | exact Or.inl (by decide) | exact Or.inr (by omega) | decide), (by first | assumption | omega | exact Or.inl (by decide) | exact Or.inr (by omega) | decide), (by first | assumption | omega | exact Or.inl (by decide) | exact Or.inr (by omega) | decide), (by first | assumption | omega | exact Or.inl (by decide) | exact Or.inr (by omega) | decide), (Or.inl ⟨rfl, ⟨(1, r_6.toInt, r_11.toInt, r_16.toInt), zTW_iM (by omega) (zNN_yM (by decide) (by decide) (zNu_b (zNt_b hat) hq7_k) (show zW1 _ _ _ _ _ _ from zW1_yM (zW_b (zNt_b (hq7_km.trans (congrArg (znx ft en.toInt) (zNt_b hat).symm))) hq12_k) (show zNN _ _ _ _ _ _ _ from zNN_yM (by decide) (by decide) (zNu_b (congrArg (znt ft en.toInt) (zNt_b (hq7_km.trans (congrArg (znx ft en.toInt) (zNt_b hat).symm)))) hq12_kn) (show zW1 _ _ _ _ _ _ from zW1_yM (zW_b (zNt_b (hq12_km.trans (congrArg (znx ft en.toInt) (congrArg (znt ft en.toInt) (zNt_b (hq7_km.trans (congrArg (znx ft en.toInt) (zNt_b hat).symm)))).symm))) hq17_k) (show zNN _ _ _ _ _ _ _ from zNN_yM (by decide) (by decide) (zNu_b (congrArg (znt ft en.toInt) (zNt_b (hq12_km.trans (congrArg (znx ft en.toInt) (congrArg (znt ft en.toInt) (zNt_b (hq7_km.trans (congrArg (znx ft en.toInt) (zNt_b hat).symm)))).symm)))) hq17_kn) (show zKw5 _ _ _ _ _ from congrArg (fun q9 => zTs.ok q9 _) (zNt_b (hq17_km.trans (congrArg (znx ft en.toInt) (congrArg (znt ft en.toInt) (zNt_b (hq12_km.trans (congrArg (znx ft en.toInt) (congrArg (znt ft en.toInt) (zNt_b (hq7_km.trans (congrArg (znx ft en.toInt) (zNt_b hat).symm)))).symm)))).symm))).symm)))))), zcp_n (by decide) (by omega), zcw_y (by omega)⟩⟩)⟩) hP hD
        · skip
          have w32 : 0 ≤ fl2_15.toInt := zB0 hq17_km
          refine lv_istore (lv' := [(4, .int r_16), (3, .int r_11), (2, .int r_6), (0, .ref o), (1, .int b0)]) hx hb dX12_workLine_44 hl (by decide) rfl (fun ls hl => ?_)
          refine lv_aload_n hx hb dX12_workLine_46 rfl (lv_at hl 3 rfl) ?_
          refine va_get (D := g.1) (ci := 10) (v := .int fl2_15) (C := RX12) (T := TX12) (N := 20) hx hb hts izRX12 hown hK hP 0 rfl rfl 12 (by decide) (hts _ k820) (fun _ h9 => h9) rfl dX12_workLine_47 ?_
          refine lv_iconst (v := (-1)) hx hb dX12_workLine_50 (by decide) ?_
          refine lv_icmp_eq (tgt := 55) hx hb dX12_workLine_51 (by decide) (fun cb9 => ?_) (fun cb9 => ?_)
          · skip
            exact absurd (show fl2_15.toInt = (-1) from zeq cb9 rfl (by decide)) (zDeq2 (a := 0) (b := (-1)) w32 (Int.le_refl _) (by decide))
          · skip
            have c34 : ¬ fl2_15.toInt = (-1) := zne cb9 rfl (by decide)
            have hP : va_P g.1 vwCl (List.flatten [bMo g o a th hi ac tp (-1) en at2_14 fl2_15 de iD iO tU fm fk fa fc ft ff fb fi]) H := hP
            have hD : va_D A (List.flatten [bMo g o a th hi ac tp (-1) en at2_14 fl2_15 de iD iO tU fm fk fa fc ft ff fb fi]) := hD
            exact mret_v hx hb hr hlocks hS (Nat.le_of_ble_eq_true rfl) (Nat.le_of_ble_eq_true rfl) dX12_workLine_54 (at2_14, fl2_15, fm) rfl (show (rM fm) ∧ (0 ≤ at2_14.toInt ∧ at2_14.toInt ≤ en.toInt + 7 - de.toInt) ∧ (tA.toInt ≤ at2_14.toInt) ∧ ((fm 0).toInt = (fm 0).toInt) ∧ ((-1) = fl2_15 ∧ zTO (zTWork ft en.toInt (fm 4).toInt b0.toInt) (zbg ft en.toInt at2_14.toInt) (fm 3).toInt (fm 3).toInt (fm 4).toInt (fm 4).toInt ∨ 0 ≤ fl2_15.toInt ∧ zTWork ft en.toInt (fm 4).toInt b0.toInt (.bad fl2_15.toInt)) from ⟨(by first | assumption | omega | exact Or.inl (by decide) | exact Or.inr (by omega) | decide), (by first | assumption | omega | exact Or.inl (by decide) | exact Or.inr (by omega) | decide), (by first | assumption | omega | exact Or.inl (by decide) | exact Or.inr (by omega) | decide), (by first | assumption | omega | exact Or.inl (by decide) | exact Or.inr (by omega) | decide), (Or.inr ⟨(by omega), zTW_iM (by omega) (zNN_yM (by decide) (by decide) (zNu_b (zNt_b hat) hq7_k) (show zW1 _ _ _ _ _ _ from zW1_yM (zW_b (zNt_b (hq7_km.trans (congrArg (znx ft en.toInt) (zNt_b hat).symm))) hq12_k) (show zNN _ _ _ _ _ _ _ from zNN_yM (by decide) (by decide) (zNu_b (congrArg (znt ft en.toInt) (zNt_b (hq7_km.trans (congrArg (znx ft en.toInt) (zNt_b hat).symm)))) hq12_kn) (show zW1 _ _ _ _ _ _ from zW1_yM (zW_b (zNt_b (hq12_km.trans (congrArg (znx ft en.toInt) (congrArg (znt ft en.toInt) (zNt_b (hq7_km.trans (congrArg (znx ft en.toInt) (zNt_b hat).symm)))).symm))) hq17_k) (show zNN _ _ _ _ _ _ _ from zNN_bM (by decide) (by decide) (zNn_b (congrArg (znt ft en.toInt) (zNt_b (hq12_km.trans (congrArg (znx ft en.toInt) (congrArg (znt ft en.toInt) (zNt_b (hq7_km.trans (congrArg (znx ft en.toInt) (zNt_b hat).symm)))).symm)))) hq17_kn) (hq17_km.trans (congrArg (znt ft en.toInt) (zNt_b (hq12_km.trans (congrArg (znx ft en.toInt) (congrArg (znt ft en.toInt) (zNt_b (hq7_km.trans (congrArg (znx ft en.toInt) (zNt_b hat).symm)))).symm)))).symm))))))⟩)⟩) hP hD
        · skip
          have w35 : 0 ≤ fl2_15.toInt := zB0 hq17_km
          refine lv_istore (lv' := [(4, .int r_16), (3, .int r_11), (2, .int r_6), (0, .ref o), (1, .int b0)]) hx hb dX12_workLine_44 hl (by decide) rfl (fun ls hl => ?_)
          refine lv_aload_n hx hb dX12_workLine_46 rfl (lv_at hl 3 rfl) ?_
          refine va_get (D := g.1) (ci := 10) (v := .int fl2_15) (C := RX12) (T := TX12) (N := 20) hx hb hts izRX12 hown hK hP 0 rfl rfl 12 (by decide) (hts _ k820) (fun _ h9 => h9) rfl dX12_workLine_47 ?_
          refine lv_iconst (v := (-1)) hx hb dX12_workLine_50 (by decide) ?_
          refine lv_icmp_eq (tgt := 55) hx hb dX12_workLine_51 (by decide) (fun cb9 => ?_) (fun cb9 => ?_)
          · skip
            exact absurd (show fl2_15.toInt = (-1) from zeq cb9 rfl (by decide)) (zDeq2 (a := 0) (b := (-1)) w35 (Int.le_refl _) (by decide))
          · skip
            have c37 : ¬ fl2_15.toInt = (-1) := zne cb9 rfl (by decide)
            have hP : va_P g.1 vwCl (List.flatten [bMo g o a th hi ac tp (-1) en at2_14 fl2_15 de iD iO tU fm fk fa fc ft ff fb fi]) H := hP
            have hD : va_D A (List.flatten [bMo g o a th hi ac tp (-1) en at2_14 fl2_15 de iD iO tU fm fk fa fc ft ff fb fi]) := hD
            exact mret_v hx hb hr hlocks hS (Nat.le_of_ble_eq_true rfl) (Nat.le_of_ble_eq_true rfl) dX12_workLine_54 (at2_14, fl2_15, fm) rfl (show (rM fm) ∧ (0 ≤ at2_14.toInt ∧ at2_14.toInt ≤ en.toInt + 7 - de.toInt) ∧ (tA.toInt ≤ at2_14.toInt) ∧ ((fm 0).toInt = (fm 0).toInt) ∧ ((-1) = fl2_15 ∧ zTO (zTWork ft en.toInt (fm 4).toInt b0.toInt) (zbg ft en.toInt at2_14.toInt) (fm 3).toInt (fm 3).toInt (fm 4).toInt (fm 4).toInt ∨ 0 ≤ fl2_15.toInt ∧ zTWork ft en.toInt (fm 4).toInt b0.toInt (.bad fl2_15.toInt)) from ⟨(by first | assumption | omega | exact Or.inl (by decide) | exact Or.inr (by omega) | decide), (by first | assumption | omega | exact Or.inl (by decide) | exact Or.inr (by omega) | decide), (by first | assumption | omega | exact Or.inl (by decide) | exact Or.inr (by omega) | decide), (by first | assumption | omega | exact Or.inl (by decide) | exact Or.inr (by omega) | decide), (Or.inr ⟨(by omega), zTW_iM (by omega) (zNN_yM (by decide) (by decide) (zNu_b (zNt_b hat) hq7_k) (show zW1 _ _ _ _ _ _ from zW1_yM (zW_b (zNt_b (hq7_km.trans (congrArg (znx ft en.toInt) (zNt_b hat).symm))) hq12_k) (show zNN _ _ _ _ _ _ _ from zNN_yM (by decide) (by decide) (zNu_b (congrArg (znt ft en.toInt) (zNt_b (hq7_km.trans (congrArg (znx ft en.toInt) (zNt_b hat).symm)))) hq12_kn) (show zW1 _ _ _ _ _ _ from zW1_n (hq17_km.trans (zNt_b (hq12_km.trans (congrArg (znx ft en.toInt) (congrArg (znt ft en.toInt) (zNt_b (hq7_km.trans (congrArg (znx ft en.toInt) (zNt_b hat).symm)))).symm))).symm) (zWn_b (zNt_b (hq12_km.trans (congrArg (znx ft en.toInt) (congrArg (znt ft en.toInt) (zNt_b (hq7_km.trans (congrArg (znx ft en.toInt) (zNt_b hat).symm)))).symm))) hq17_k)))))⟩)⟩) hP hD
      · skip
        have w38 : 0 ≤ fl2_10.toInt := zB0 hq12_km
        refine lv_istore_n (lv' := [(3, .int r_11), (2, .int r_6), (0, .ref o), (1, .int b0)]) hx hb dX12_workLine_34 rfl hl (by decide) rfl (fun ls hl => ?_)
        refine lv_aload_n hx hb dX12_workLine_35 rfl (lv_at hl 2 rfl) ?_
        refine va_ldcS (q := g.2 68) hx hb hown (zra29 hT.2.1) dX12_workLine_36 ?_
        refine lv_iconst (v := 0) hx hb dX12_workLine_38 (by decide) ?_
        refine lv_bipush (v := 20) hx hb dX12_workLine_39 (by decide) ?_
        refine mcallV' (g := g) (q0 := 0) (ci := 10) (As := [.ref (g.2 68), .int 0, .int 20]) (rest := []) St hK hT hA hP hD hS hl.1 [0] [] rfl rfl rfl (m_afterX l g o a th hi ac tp en at2_9 fl2_10 de iD iO tU fm fk fa fc ft ff fb fi 0 20 (g.2 68) 29 zqa29 hen hq12_0 hde w38 rfl zla29 zna29 (zlitB zla29)) (cwV 3 hts (zgL (zl4 k906 k907 k908 k839) k905) rfl rfl rfl (by decide +kernel) ⟨Nat.le_of_ble_eq_true rfl, Nat.le_of_ble_eq_true rfl⟩) rfl rfl rfl rfl (Nat.le_of_ble_eq_true rfl) dX12_workLine_41 ⟨(Nat.le_of_ble_eq_true rfl), (Nat.le_of_ble_eq_true rfl)⟩ (fun _u H locs hq39 hP hD hS => ?_)
        have hP : va_P g.1 vwCl (List.flatten [bMo g o a th hi ac tp (-1) en at2_9 fl2_10 de iD iO tU fm fk fa fc ft ff fb fi]) H := hP
        have hD : va_D A (List.flatten [bMo g o a th hi ac tp (-1) en at2_9 fl2_10 de iD iO tU fm fk fa fc ft ff fb fi]) := hD
        refine W.widen (k := 0) (n := 0) (Nat.le_of_ble_eq_true rfl) (Nat.le_of_ble_eq_true rfl) ?_
        refine W.eq (g2 := F0 m 44 ls [.int 0]) rfl ?_
        refine lv_istore (lv' := [(4, .int 0), (3, .int r_11), (2, .int r_6), (0, .ref o), (1, .int b0)]) hx hb dX12_workLine_44 hl (by decide) rfl (fun ls hl => ?_)
        refine lv_aload_n hx hb dX12_workLine_46 rfl (lv_at hl 3 rfl) ?_
        refine va_get (D := g.1) (ci := 10) (v := .int fl2_10) (C := RX12) (T := TX12) (N := 20) hx hb hts izRX12 hown hK hP 0 rfl rfl 12 (by decide) (hts _ k820) (fun _ h9 => h9) rfl dX12_workLine_47 ?_
        refine lv_iconst (v := (-1)) hx hb dX12_workLine_50 (by decide) ?_
        refine lv_icmp_eq (tgt := 55) hx hb dX12_workLine_51 (by decide) (fun cb9 => ?_) (fun cb9 => ?_)
        · skip
          exact absurd (show fl2_10.toInt = (-1) from zeq cb9 rfl (by decide)) (zDeq2 (a := 0) (b := (-1)) w38 (Int.le_refl _) (by decide))
        · skip
          have c41 : ¬ fl2_10.toInt = (-1) := zne cb9 rfl (by decide)
          have hP : va_P g.1 vwCl (List.flatten [bMo g o a th hi ac tp (-1) en at2_9 fl2_10 de iD iO tU fm fk fa fc ft ff fb fi]) H := hP
          have hD : va_D A (List.flatten [bMo g o a th hi ac tp (-1) en at2_9 fl2_10 de iD iO tU fm fk fa fc ft ff fb fi]) := hD
          exact mret_v hx hb hr hlocks hS (Nat.le_of_ble_eq_true rfl) (Nat.le_of_ble_eq_true rfl) dX12_workLine_54 (at2_9, fl2_10, fm) rfl (show (rM fm) ∧ (0 ≤ at2_9.toInt ∧ at2_9.toInt ≤ en.toInt + 7 - de.toInt) ∧ (tA.toInt ≤ at2_9.toInt) ∧ ((fm 0).toInt = (fm 0).toInt) ∧ ((-1) = fl2_10 ∧ zTO (zTWork ft en.toInt (fm 4).toInt b0.toInt) (zbg ft en.toInt at2_9.toInt) (fm 3).toInt (fm 3).toInt (fm 4).toInt (fm 4).toInt ∨ 0 ≤ fl2_10.toInt ∧ zTWork ft en.toInt (fm 4).toInt b0.toInt (.bad fl2_10.toInt)) from ⟨(by first | assumption | omega | exact Or.inl (by decide) | exact Or.inr (by omega) | decide), (by first | assumption | omega | exact Or.inl (by decide) | exact Or.inr (by omega) | decide), (by first | assumption | omega | exact Or.inl (by decide) | exact Or.inr (by omega) | decide), (by first | assumption | omega | exact Or.inl (by decide) | exact Or.inr (by omega) | decide), (Or.inr ⟨(by omega), zTW_iM (by omega) (zNN_yM (by decide) (by decide) (zNu_b (zNt_b hat) hq7_k) (show zW1 _ _ _ _ _ _ from zW1_yM (zW_b (zNt_b (hq7_km.trans (congrArg (znx ft en.toInt) (zNt_b hat).symm))) hq12_k) (show zNN _ _ _ _ _ _ _ from zNN_bM (by decide) (by decide) (zNn_b (congrArg (znt ft en.toInt) (zNt_b (hq7_km.trans (congrArg (znx ft en.toInt) (zNt_b hat).symm)))) hq12_kn) (hq12_km.trans (congrArg (znt ft en.toInt) (zNt_b (hq7_km.trans (congrArg (znx ft en.toInt) (zNt_b hat).symm)))).symm))))⟩)⟩) hP hD
      · skip
        have w42 : 0 ≤ fl2_10.toInt := zB0 hq12_km
        refine lv_istore_n (lv' := [(3, .int r_11), (2, .int r_6), (0, .ref o), (1, .int b0)]) hx hb dX12_workLine_34 rfl hl (by decide) rfl (fun ls hl => ?_)
        refine lv_aload_n hx hb dX12_workLine_35 rfl (lv_at hl 2 rfl) ?_
        refine va_ldcS (q := g.2 68) hx hb hown (zra29 hT.2.1) dX12_workLine_36 ?_
        refine lv_iconst (v := 0) hx hb dX12_workLine_38 (by decide) ?_
        refine lv_bipush (v := 20) hx hb dX12_workLine_39 (by decide) ?_
        refine mcallV' (g := g) (q0 := 0) (ci := 10) (As := [.ref (g.2 68), .int 0, .int 20]) (rest := []) St hK hT hA hP hD hS hl.1 [0] [] rfl rfl rfl (m_afterX l g o a th hi ac tp en at2_9 fl2_10 de iD iO tU fm fk fa fc ft ff fb fi 0 20 (g.2 68) 29 zqa29 hen hq12_0 hde w42 rfl zla29 zna29 (zlitB zla29)) (cwV 3 hts (zgL (zl4 k906 k907 k908 k839) k905) rfl rfl rfl (by decide +kernel) ⟨Nat.le_of_ble_eq_true rfl, Nat.le_of_ble_eq_true rfl⟩) rfl rfl rfl rfl (Nat.le_of_ble_eq_true rfl) dX12_workLine_41 ⟨(Nat.le_of_ble_eq_true rfl), (Nat.le_of_ble_eq_true rfl)⟩ (fun _u H locs hq43 hP hD hS => ?_)
        have hP : va_P g.1 vwCl (List.flatten [bMo g o a th hi ac tp (-1) en at2_9 fl2_10 de iD iO tU fm fk fa fc ft ff fb fi]) H := hP
        have hD : va_D A (List.flatten [bMo g o a th hi ac tp (-1) en at2_9 fl2_10 de iD iO tU fm fk fa fc ft ff fb fi]) := hD
        refine W.widen (k := 0) (n := 0) (Nat.le_of_ble_eq_true rfl) (Nat.le_of_ble_eq_true rfl) ?_
        refine W.eq (g2 := F0 m 44 ls [.int 0]) rfl ?_
        refine lv_istore (lv' := [(4, .int 0), (3, .int r_11), (2, .int r_6), (0, .ref o), (1, .int b0)]) hx hb dX12_workLine_44 hl (by decide) rfl (fun ls hl => ?_)
        refine lv_aload_n hx hb dX12_workLine_46 rfl (lv_at hl 3 rfl) ?_
        refine va_get (D := g.1) (ci := 10) (v := .int fl2_10) (C := RX12) (T := TX12) (N := 20) hx hb hts izRX12 hown hK hP 0 rfl rfl 12 (by decide) (hts _ k820) (fun _ h9 => h9) rfl dX12_workLine_47 ?_
        refine lv_iconst (v := (-1)) hx hb dX12_workLine_50 (by decide) ?_
        refine lv_icmp_eq (tgt := 55) hx hb dX12_workLine_51 (by decide) (fun cb9 => ?_) (fun cb9 => ?_)
        · skip
          exact absurd (show fl2_10.toInt = (-1) from zeq cb9 rfl (by decide)) (zDeq2 (a := 0) (b := (-1)) w42 (Int.le_refl _) (by decide))
        · skip
          have c45 : ¬ fl2_10.toInt = (-1) := zne cb9 rfl (by decide)
          have hP : va_P g.1 vwCl (List.flatten [bMo g o a th hi ac tp (-1) en at2_9 fl2_10 de iD iO tU fm fk fa fc ft ff fb fi]) H := hP
          have hD : va_D A (List.flatten [bMo g o a th hi ac tp (-1) en at2_9 fl2_10 de iD iO tU fm fk fa fc ft ff fb fi]) := hD
          exact mret_v hx hb hr hlocks hS (Nat.le_of_ble_eq_true rfl) (Nat.le_of_ble_eq_true rfl) dX12_workLine_54 (at2_9, fl2_10, fm) rfl (show (rM fm) ∧ (0 ≤ at2_9.toInt ∧ at2_9.toInt ≤ en.toInt + 7 - de.toInt) ∧ (tA.toInt ≤ at2_9.toInt) ∧ ((fm 0).toInt = (fm 0).toInt) ∧ ((-1) = fl2_10 ∧ zTO (zTWork ft en.toInt (fm 4).toInt b0.toInt) (zbg ft en.toInt at2_9.toInt) (fm 3).toInt (fm 3).toInt (fm 4).toInt (fm 4).toInt ∨ 0 ≤ fl2_10.toInt ∧ zTWork ft en.toInt (fm 4).toInt b0.toInt (.bad fl2_10.toInt)) from ⟨(by first | assumption | omega | exact Or.inl (by decide) | exact Or.inr (by omega) | decide), (by first | assumption | omega | exact Or.inl (by decide) | exact Or.inr (by omega) | decide), (by first | assumption | omega | exact Or.inl (by decide) | exact Or.inr (by omega) | decide), (by first | assumption | omega | exact Or.inl (by decide) | exact Or.inr (by omega) | decide), (Or.inr ⟨(by omega), zTW_iM (by omega) (zNN_yM (by decide) (by decide) (zNu_b (zNt_b hat) hq7_k) (show zW1 _ _ _ _ _ _ from zW1_n (hq12_km.trans (zNt_b (hq7_km.trans (congrArg (znx ft en.toInt) (zNt_b hat).symm))).symm) (zWn_b (zNt_b (hq7_km.trans (congrArg (znx ft en.toInt) (zNt_b hat).symm))) hq12_k)))⟩)⟩) hP hD
    · skip
      have w46 : 0 ≤ fl2_5.toInt := zB0 hq7_k
      refine lv_istore_n (lv' := [(2, .int r_6), (0, .ref o), (1, .int b0)]) hx hb dX12_workLine_23 rfl hl (by decide) rfl (fun ls hl => ?_)
      refine lv_aload_n hx hb dX12_workLine_24 rfl (lv_at hl 1 rfl) ?_
      refine va_ldcS (q := g.2 66) hx hb hown (zra28 hT.2.1) dX12_workLine_25 ?_
      refine lv_iconst (v := 0) hx hb dX12_workLine_27 (by decide) ?_
      refine lv_sipush (v := 799) hx hb dX12_workLine_28 (by decide) ?_
      refine mcallV' (g := g) (q0 := 0) (ci := 10) (As := [.ref (g.2 66), .int 0, .int 799]) (rest := []) St hK hT hA hP hD hS hl.1 [0] [] rfl rfl rfl (m_afterX l g o a th hi ac tp en at2_4 fl2_5 de iD iO tU fm fk fa fc ft ff fb fi 0 799 (g.2 66) 28 zqa28 hen hq7_0 hde w46 rfl zla28 zna28 (zlitB zla28)) (cwV 3 hts (zgL (zl4 k906 k907 k908 k839) k905) rfl rfl rfl (by decide +kernel) ⟨Nat.le_of_ble_eq_true rfl, Nat.le_of_ble_eq_true rfl⟩) rfl rfl rfl rfl (Nat.le_of_ble_eq_true rfl) dX12_workLine_31 ⟨(Nat.le_of_ble_eq_true rfl), (Nat.le_of_ble_eq_true rfl)⟩ (fun _u H locs hq47 hP hD hS => ?_)
      have hP : va_P g.1 vwCl (List.flatten [bMo g o a th hi ac tp (-1) en at2_4 fl2_5 de iD iO tU fm fk fa fc ft ff fb fi]) H := hP
      have hD : va_D A (List.flatten [bMo g o a th hi ac tp (-1) en at2_4 fl2_5 de iD iO tU fm fk fa fc ft ff fb fi]) := hD
      refine W.widen (k := 0) (n := 0) (Nat.le_of_ble_eq_true rfl) (Nat.le_of_ble_eq_true rfl) ?_
      refine W.eq (g2 := F0 m 34 ls [.int 0]) rfl ?_
      refine lv_istore_n (lv' := [(3, .int 0), (2, .int r_6), (0, .ref o), (1, .int b0)]) hx hb dX12_workLine_34 rfl hl (by decide) rfl (fun ls hl => ?_)
      refine lv_aload_n hx hb dX12_workLine_35 rfl (lv_at hl 2 rfl) ?_
      refine va_ldcS (q := g.2 68) hx hb hown (zra29 hT.2.1) dX12_workLine_36 ?_
      refine lv_iconst (v := 0) hx hb dX12_workLine_38 (by decide) ?_
      refine lv_bipush (v := 20) hx hb dX12_workLine_39 (by decide) ?_
      refine mcallV' (g := g) (q0 := 0) (ci := 10) (As := [.ref (g.2 68), .int 0, .int 20]) (rest := []) St hK hT hA hP hD hS hl.1 [0] [] rfl rfl rfl (m_afterX l g o a th hi ac tp en at2_4 fl2_5 de iD iO tU fm fk fa fc ft ff fb fi 0 20 (g.2 68) 29 zqa29 hen hq7_0 hde w46 rfl zla29 zna29 (zlitB zla29)) (cwV 3 hts (zgL (zl4 k906 k907 k908 k839) k905) rfl rfl rfl (by decide +kernel) ⟨Nat.le_of_ble_eq_true rfl, Nat.le_of_ble_eq_true rfl⟩) rfl rfl rfl rfl (Nat.le_of_ble_eq_true rfl) dX12_workLine_41 ⟨(Nat.le_of_ble_eq_true rfl), (Nat.le_of_ble_eq_true rfl)⟩ (fun _u H locs hq48 hP hD hS => ?_)
      have hP : va_P g.1 vwCl (List.flatten [bMo g o a th hi ac tp (-1) en at2_4 fl2_5 de iD iO tU fm fk fa fc ft ff fb fi]) H := hP
      have hD : va_D A (List.flatten [bMo g o a th hi ac tp (-1) en at2_4 fl2_5 de iD iO tU fm fk fa fc ft ff fb fi]) := hD
      refine W.widen (k := 0) (n := 0) (Nat.le_of_ble_eq_true rfl) (Nat.le_of_ble_eq_true rfl) ?_
      refine W.eq (g2 := F0 m 44 ls [.int 0]) rfl ?_
      refine lv_istore (lv' := [(4, .int 0), (3, .int 0), (2, .int r_6), (0, .ref o), (1, .int b0)]) hx hb dX12_workLine_44 hl (by decide) rfl (fun ls hl => ?_)
      refine lv_aload_n hx hb dX12_workLine_46 rfl (lv_at hl 3 rfl) ?_
      refine va_get (D := g.1) (ci := 10) (v := .int fl2_5) (C := RX12) (T := TX12) (N := 20) hx hb hts izRX12 hown hK hP 0 rfl rfl 12 (by decide) (hts _ k820) (fun _ h9 => h9) rfl dX12_workLine_47 ?_
      refine lv_iconst (v := (-1)) hx hb dX12_workLine_50 (by decide) ?_
      refine lv_icmp_eq (tgt := 55) hx hb dX12_workLine_51 (by decide) (fun cb9 => ?_) (fun cb9 => ?_)
      · skip
        exact absurd (show fl2_5.toInt = (-1) from zeq cb9 rfl (by decide)) (zDeq2 (a := 0) (b := (-1)) w46 (Int.le_refl _) (by decide))
      · skip
        have c50 : ¬ fl2_5.toInt = (-1) := zne cb9 rfl (by decide)
        have hP : va_P g.1 vwCl (List.flatten [bMo g o a th hi ac tp (-1) en at2_4 fl2_5 de iD iO tU fm fk fa fc ft ff fb fi]) H := hP
        have hD : va_D A (List.flatten [bMo g o a th hi ac tp (-1) en at2_4 fl2_5 de iD iO tU fm fk fa fc ft ff fb fi]) := hD
        exact mret_v hx hb hr hlocks hS (Nat.le_of_ble_eq_true rfl) (Nat.le_of_ble_eq_true rfl) dX12_workLine_54 (at2_4, fl2_5, fm) rfl (show (rM fm) ∧ (0 ≤ at2_4.toInt ∧ at2_4.toInt ≤ en.toInt + 7 - de.toInt) ∧ (tA.toInt ≤ at2_4.toInt) ∧ ((fm 0).toInt = (fm 0).toInt) ∧ ((-1) = fl2_5 ∧ zTO (zTWork ft en.toInt (fm 4).toInt b0.toInt) (zbg ft en.toInt at2_4.toInt) (fm 3).toInt (fm 3).toInt (fm 4).toInt (fm 4).toInt ∨ 0 ≤ fl2_5.toInt ∧ zTWork ft en.toInt (fm 4).toInt b0.toInt (.bad fl2_5.toInt)) from ⟨(by first | assumption | omega | exact Or.inl (by decide) | exact Or.inr (by omega) | decide), (by first | assumption | omega | exact Or.inl (by decide) | exact Or.inr (by omega) | decide), (by first | assumption | omega | exact Or.inl (by decide) | exact Or.inr (by omega) | decide), (by first | assumption | omega | exact Or.inl (by decide) | exact Or.inr (by omega) | decide), (Or.inr ⟨(by omega), zTW_iM (by omega) (zNN_bM (by decide) (by decide) (zNn_b (zNt_b hat) hq7_km) (hq7_k.trans (zNt_b hat).symm))⟩)⟩) hP hD
  · skip
    have c51 : x_1.toInt = 6 := zeq cb9 rfl (by decide)
    have n52 : 6 ≤ x_1.toInt := Int.le_trans (Int.le_refl _) (Int.le_of_eq c51.symm)
    refine lv_aload_n hx hb dX12_workLine_11 rfl (lv_at hl 0 rfl) ?_
    refine lv_iload_n hx hb dX12_workLine_12 rfl (lv_at hl 1 rfl) ?_
    refine mcallV' (g := g) (q0 := 0) (ci := 10) (As := [.int b0]) (rest := []) St hK hT hA hP hD hS hl.1 [0] [] rfl rfl rfl (m_wrongF l g o a th hi ac tp (-1) en tA de iD iO tU fm fk fa fc ft ff fb fi b0 ) (cwV 1 hts (zgL (zl4 k895 k896 k897 k839) k890) rfl rfl rfl (by decide +kernel) ⟨Nat.le_of_ble_eq_true rfl, Nat.le_of_ble_eq_true rfl⟩) rfl rfl rfl rfl (Nat.le_of_ble_eq_true rfl) dX12_workLine_13 ⟨(Nat.le_of_ble_eq_true rfl), (Nat.le_of_ble_eq_true rfl)⟩ (fun _u H locs hq53 hP hD hS => ?_)
    have hP : va_P g.1 vwCl (List.flatten [bMo g o a th hi ac tp (-1) en tA b0 de iD iO tU fm fk fa fc ft ff fb fi]) H := hP
    have hD : va_D A (List.flatten [bMo g o a th hi ac tp (-1) en tA b0 de iD iO tU fm fk fa fc ft ff fb fi]) := hD
    refine W.widen (k := 0) (n := 0) (Nat.le_of_ble_eq_true rfl) (Nat.le_of_ble_eq_true rfl) ?_
    refine W.eq (g2 := F0 m 16 ls []) rfl ?_
    refine lv_aload_n hx hb dX12_workLine_16 rfl (lv_at hl 0 rfl) ?_
    refine lv_iconst (v := 1) hx hb dX12_workLine_17 (by decide) ?_
    refine lv_bipush (v := 99) hx hb dX12_workLine_18 (by decide) ?_
    refine mcallV' (g := g) (q0 := 0) (ci := 10) (As := [.int 1, .int 99]) (rest := []) St hK hT hA hP hD hS hl.1 [0] [] rfl rfl rfl (m_figuresX l g o a th hi ac tp en tA b0 de iD iO tU fm fk fa fc ft ff fb fi 1 99 hen htA hde hb0) (cwV 2 hts (zgL (zl4 k902 k903 k904 k839) k898) rfl rfl rfl (by decide +kernel) ⟨Nat.le_of_ble_eq_true rfl, Nat.le_of_ble_eq_true rfl⟩) rfl rfl rfl rfl (Nat.le_of_ble_eq_true rfl) dX12_workLine_20 ⟨(Nat.le_of_ble_eq_true rfl), (Nat.le_of_ble_eq_true rfl)⟩ (fun _u H locs hq54 hP hD hS => ?_)
    have hP : va_P g.1 vwCl (List.flatten [bMo g o a th hi ac tp (-1) en tA b0 de iD iO tU fm fk fa fc ft ff fb fi]) H := hP
    have hD : va_D A (List.flatten [bMo g o a th hi ac tp (-1) en tA b0 de iD iO tU fm fk fa fc ft ff fb fi]) := hD
    refine W.widen (k := 0) (n := 0) (Nat.le_of_ble_eq_true rfl) (Nat.le_of_ble_eq_true rfl) ?_
    refine W.eq (g2 := F0 m 23 ls [.int 0]) rfl ?_
    refine lv_istore_n (lv' := [(2, .int 0), (0, .ref o), (1, .int b0)]) hx hb dX12_workLine_23 rfl hl (by decide) rfl (fun ls hl => ?_)
    refine lv_aload_n hx hb dX12_workLine_24 rfl (lv_at hl 1 rfl) ?_
    refine va_ldcS (q := g.2 66) hx hb hown (zra28 hT.2.1) dX12_workLine_25 ?_
    refine lv_iconst (v := 0) hx hb dX12_workLine_27 (by decide) ?_
    refine lv_sipush (v := 799) hx hb dX12_workLine_28 (by decide) ?_
    refine mcallV' (g := g) (q0 := 0) (ci := 10) (As := [.ref (g.2 66), .int 0, .int 799]) (rest := []) St hK hT hA hP hD hS hl.1 [0] [] rfl rfl rfl (m_afterX l g o a th hi ac tp en tA b0 de iD iO tU fm fk fa fc ft ff fb fi 0 799 (g.2 66) 28 zqa28 hen htA hde hb0 rfl zla28 zna28 (zlitB zla28)) (cwV 3 hts (zgL (zl4 k906 k907 k908 k839) k905) rfl rfl rfl (by decide +kernel) ⟨Nat.le_of_ble_eq_true rfl, Nat.le_of_ble_eq_true rfl⟩) rfl rfl rfl rfl (Nat.le_of_ble_eq_true rfl) dX12_workLine_31 ⟨(Nat.le_of_ble_eq_true rfl), (Nat.le_of_ble_eq_true rfl)⟩ (fun _u H locs hq55 hP hD hS => ?_)
    have hP : va_P g.1 vwCl (List.flatten [bMo g o a th hi ac tp (-1) en tA b0 de iD iO tU fm fk fa fc ft ff fb fi]) H := hP
    have hD : va_D A (List.flatten [bMo g o a th hi ac tp (-1) en tA b0 de iD iO tU fm fk fa fc ft ff fb fi]) := hD
    refine W.widen (k := 0) (n := 0) (Nat.le_of_ble_eq_true rfl) (Nat.le_of_ble_eq_true rfl) ?_
    refine W.eq (g2 := F0 m 34 ls [.int 0]) rfl ?_
    refine lv_istore_n (lv' := [(3, .int 0), (2, .int 0), (0, .ref o), (1, .int b0)]) hx hb dX12_workLine_34 rfl hl (by decide) rfl (fun ls hl => ?_)
    refine lv_aload_n hx hb dX12_workLine_35 rfl (lv_at hl 2 rfl) ?_
    refine va_ldcS (q := g.2 68) hx hb hown (zra29 hT.2.1) dX12_workLine_36 ?_
    refine lv_iconst (v := 0) hx hb dX12_workLine_38 (by decide) ?_
    refine lv_bipush (v := 20) hx hb dX12_workLine_39 (by decide) ?_
    refine mcallV' (g := g) (q0 := 0) (ci := 10) (As := [.ref (g.2 68), .int 0, .int 20]) (rest := []) St hK hT hA hP hD hS hl.1 [0] [] rfl rfl rfl (m_afterX l g o a th hi ac tp en tA b0 de iD iO tU fm fk fa fc ft ff fb fi 0 20 (g.2 68) 29 zqa29 hen htA hde hb0 rfl zla29 zna29 (zlitB zla29)) (cwV 3 hts (zgL (zl4 k906 k907 k908 k839) k905) rfl rfl rfl (by decide +kernel) ⟨Nat.le_of_ble_eq_true rfl, Nat.le_of_ble_eq_true rfl⟩) rfl rfl rfl rfl (Nat.le_of_ble_eq_true rfl) dX12_workLine_41 ⟨(Nat.le_of_ble_eq_true rfl), (Nat.le_of_ble_eq_true rfl)⟩ (fun _u H locs hq56 hP hD hS => ?_)
    have hP : va_P g.1 vwCl (List.flatten [bMo g o a th hi ac tp (-1) en tA b0 de iD iO tU fm fk fa fc ft ff fb fi]) H := hP
    have hD : va_D A (List.flatten [bMo g o a th hi ac tp (-1) en tA b0 de iD iO tU fm fk fa fc ft ff fb fi]) := hD
    refine W.widen (k := 0) (n := 0) (Nat.le_of_ble_eq_true rfl) (Nat.le_of_ble_eq_true rfl) ?_
    refine W.eq (g2 := F0 m 44 ls [.int 0]) rfl ?_
    refine lv_istore (lv' := [(4, .int 0), (3, .int 0), (2, .int 0), (0, .ref o), (1, .int b0)]) hx hb dX12_workLine_44 hl (by decide) rfl (fun ls hl => ?_)
    refine lv_aload_n hx hb dX12_workLine_46 rfl (lv_at hl 3 rfl) ?_
    refine va_get (D := g.1) (ci := 10) (v := .int b0) (C := RX12) (T := TX12) (N := 20) hx hb hts izRX12 hown hK hP 0 rfl rfl 12 (by decide) (hts _ k820) (fun _ h9 => h9) rfl dX12_workLine_47 ?_
    refine lv_iconst (v := (-1)) hx hb dX12_workLine_50 (by decide) ?_
    refine lv_icmp_eq (tgt := 55) hx hb dX12_workLine_51 (by decide) (fun cb9 => ?_) (fun cb9 => ?_)
    · skip
      exact absurd (show b0.toInt = (-1) from zeq cb9 rfl (by decide)) (zDeq2 (a := 0) (b := (-1)) hb0 (Int.le_refl _) (by decide))
    · skip
      have c58 : ¬ b0.toInt = (-1) := zne cb9 rfl (by decide)
      have hP : va_P g.1 vwCl (List.flatten [bMo g o a th hi ac tp (-1) en tA b0 de iD iO tU fm fk fa fc ft ff fb fi]) H := hP
      have hD : va_D A (List.flatten [bMo g o a th hi ac tp (-1) en tA b0 de iD iO tU fm fk fa fc ft ff fb fi]) := hD
      exact mret_v hx hb hr hlocks hS (Nat.le_of_ble_eq_true rfl) (Nat.le_of_ble_eq_true rfl) dX12_workLine_54 (tA, b0, fm) rfl (show (rM fm) ∧ (0 ≤ tA.toInt ∧ tA.toInt ≤ en.toInt + 7 - de.toInt) ∧ (tA.toInt ≤ tA.toInt) ∧ ((fm 0).toInt = (fm 0).toInt) ∧ ((-1) = b0 ∧ zTO (zTWork ft en.toInt (fm 4).toInt b0.toInt) (zbg ft en.toInt tA.toInt) (fm 3).toInt (fm 3).toInt (fm 4).toInt (fm 4).toInt ∨ 0 ≤ b0.toInt ∧ zTWork ft en.toInt (fm 4).toInt b0.toInt (.bad b0.toInt)) from ⟨(by first | assumption | omega | exact Or.inl (by decide) | exact Or.inr (by omega) | decide), (by first | assumption | omega | exact Or.inl (by decide) | exact Or.inr (by omega) | decide), (by first | assumption | omega | exact Or.inl (by decide) | exact Or.inr (by omega) | decide), (by first | assumption | omega | exact Or.inl (by decide) | exact Or.inr (by omega) | decide), (Or.inr ⟨(by omega), zTW_f (by omega) rfl⟩)⟩) hP hD
set_option maxRecDepth 100000 in
set_option maxHeartbeats 4000000 in
theorem m_tellsF (l : Launch) (g : zG) (o : Nat) (a : Nat → Nat) (th : Int32) (hi : Int32) (ac : Int32) (tp : Int32) (en : Int32) (tA : Int32) (de : Int32) (iD : Int32) (iO : Int32) (tU : Int32) (fm : Nat → Int32) (fk : Nat → Int32) (fa : Nat → Int32) (fc : Nat → Int32) (ft : Nat → Int32) (ff : Nat → Int32) (fb : Nat → Int32) (fi : Nat → Int32) (wh : Int32) (lw : Int32) (hg : Int32) (rfm : rM fm) (hen : 0 ≤ en.toInt ∧ en.toInt ≤ 400) (htA : 0 ≤ tA.toInt ∧ tA.toInt ≤ en.toInt + 7 - de.toInt) (hde : 0 ≤ de.toInt ∧ de.toInt ≤ 6) (hwh : 5 ≤ wh.toInt ∧ wh.toInt ≤ 50 ∧ ¬ wh.toInt = 9) : zM' g l yX12_tells (Cond.code yX12_tells cX12_tells 5 none :: zB) ({ frames := 4, cells := 0, slots := 0, locals := 85 } : Room) [.ref o, .int wh, .int lw, .int hg] [bMo g o a th hi ac tp (-1) en tA (-1) de iD iO tU fm fk fa fc ft ff fb fi] (fun u : Int32 × Int32 × (Nat → Int32) => (fun (at2 : Int32) (fl2 : Int32) (fm2 : Nat → Int32) => none) (u.1) (u.2.1) (u.2.2)) (fun u : Int32 × Int32 × (Nat → Int32) => (fun (at2 : Int32) (fl2 : Int32) (fm2 : Nat → Int32) => ((fm2 0).toInt = (fm 0).toInt ∧ (fm2 3).toInt = (fm 3).toInt ∧ (fm2 4).toInt = (fm 4).toInt) ∧ (rM fm2) ∧ (0 ≤ at2.toInt ∧ at2.toInt ≤ en.toInt + 7 - de.toInt) ∧ (tA.toInt ≤ at2.toInt) ∧ ((-1) = fl2 ∧ (∃ v9, zNu ft en.toInt (zbg ft en.toInt tA.toInt) lw.toInt hg.toInt v9) ∧ at2.toInt = znx ft en.toInt (zbg ft en.toInt tA.toInt) ∨ fl2.toInt = zbg ft en.toInt tA.toInt ∧ ¬ ∃ v9, zNu ft en.toInt (zbg ft en.toInt tA.toInt) lw.toInt hg.toInt v9)) (u.1) (u.2.1) (u.2.2)) (fun u : Int32 × Int32 × (Nat → Int32) => (fun (at2 : Int32) (fl2 : Int32) (fm2 : Nat → Int32) => [bMo g o a th hi ac tp (-1) en at2 fl2 de iD iO tU fm2 fk fa fc ft ff fb fi]) (u.1) (u.2.1) (u.2.2)) := by
  refine zM'.of (cc := cX12_tells) (maxL := 5) (rt := none) (by decide) rfl (Nat.le_of_ble_eq_true rfl) ?_
  intro p e s m args below meth c A ls St hr hlocks hin hK hT hA hP hD hS hl
  obtain ⟨hx, hb, hml, hown, hts⟩ := id St
  have hl : lv_has ls 5 [(0, .ref o), (1, .int wh), (2, .int lw), (3, .int hg)] := hl
  refine lv_aload_n hx hb dX12_tells_0 rfl (lv_at hl 0 rfl) ?_
  refine lv_iload_n hx hb dX12_tells_1 rfl (lv_at hl 2 rfl) ?_
  refine lv_iload_n hx hb dX12_tells_2 rfl (lv_at hl 3 rfl) ?_
  refine mcallV' (g := g) (q0 := 0) (ci := 10) (As := [.int lw, .int hg]) (rest := []) St hK hT hA hP hD hS hl.1 [0] [] rfl rfl rfl (m_figuresF l g o a th hi ac tp en tA de iD iO tU fm fk fa fc ft ff fb fi lw hg hen htA hde) (cwV 2 hts (zgL (zl4 k902 k903 k904 k839) k898) rfl rfl rfl (by decide +kernel) ⟨Nat.le_of_ble_eq_true rfl, Nat.le_of_ble_eq_true rfl⟩) rfl rfl rfl rfl (Nat.le_of_ble_eq_true rfl) dX12_tells_3 ⟨(Nat.le_of_ble_eq_true rfl), (Nat.le_of_ble_eq_true rfl)⟩ (fun u_ H locs hq4 hP hD hS => ?_)
  obtain ⟨at2_1, fl2_2, r_3⟩ := u_
  replace hq4 : (0 ≤ at2_1.toInt ∧ at2_1.toInt ≤ en.toInt + 7 - de.toInt) ∧ (tA.toInt ≤ at2_1.toInt) ∧ (zNu ft en.toInt (zbg ft en.toInt tA.toInt) lw.toInt hg.toInt r_3 ∧ at2_1.toInt = znx ft en.toInt (zbg ft en.toInt tA.toInt) ∧ (-1) = fl2_2 ∨ fl2_2.toInt = zbg ft en.toInt tA.toInt ∧ ¬ ∃ v9, zNu ft en.toInt (zbg ft en.toInt tA.toInt) lw.toInt hg.toInt v9) := hq4
  have hP : va_P g.1 vwCl (List.flatten [bMo g o a th hi ac tp (-1) en at2_1 fl2_2 de iD iO tU fm fk fa fc ft ff fb fi]) H := hP
  have hD : va_D A (List.flatten [bMo g o a th hi ac tp (-1) en at2_1 fl2_2 de iD iO tU fm fk fa fc ft ff fb fi]) := hD
  refine W.widen (k := 0) (n := 0) (Nat.le_of_ble_eq_true rfl) (Nat.le_of_ble_eq_true rfl) ?_
  refine W.eq (g2 := F0 m 6 ls [.int r_3]) rfl ?_
  obtain ⟨hq4_0, hq4_1, hq4_2⟩ := hq4
  rcases hq4_2 with ⟨hq4_k, hq4_km, rfl⟩ | ⟨hq4_k, hq4_km⟩
  · skip
    refine lv_istore (lv' := [(4, .int r_3), (0, .ref o), (1, .int wh), (2, .int lw), (3, .int hg)]) hx hb dX12_tells_6 hl (by decide) rfl (fun ls hl => ?_)
    refine lv_aload_n hx hb dX12_tells_8 rfl (lv_at hl 1 rfl) ?_
    refine va_get (D := g.1) (ci := 10) (v := .int (-1)) (C := RX12) (T := TX12) (N := 20) hx hb hts izRX12 hown hK hP 0 rfl rfl 12 (by decide) (hts _ k820) (fun _ h9 => h9) rfl dX12_tells_9 ?_
    refine lv_iconst (v := (-1)) hx hb dX12_tells_12 (by decide) ?_
    refine lv_icmp_ne (tgt := 24) hx hb dX12_tells_13 (by decide) (fun c6 => absurd (by decide) c6) (fun _ => ?_)
    refine lv_aload_n hx hb dX12_tells_16 rfl (lv_at hl 1 rfl) ?_
    refine va_get (D := g.1) (ci := 10) (v := .ref (a 0)) (C := RX12) (T := TX12) (N := 20) hx hb hts izRX12 hown hK hP 0 rfl rfl 1 (by decide) (hts _ k815) (fun _ h9 => h9) rfl dX12_tells_17 ?_
    refine lv_iload_n hx hb dX12_tells_20 rfl (lv_at hl 2 rfl) ?_
    refine lv_iload hx hb dX12_tells_21 (lv_at hl 0 rfl) ?_
    refine va_iast hx hb hK hP hD hS 1 0 rfl rfl (zinI (by omega) (by omega)) dX12_tells_23 (fun H locs hP hD hS => ?_)
    obtain ⟨fm_7, rfm_7, hkfm_7, hP, hD⟩ : ∃ fm_7 : Nat → Int32, rM fm_7 ∧ ((fm_7 0).toInt = (fm 0).toInt ∧ (fm_7 3).toInt = (fm 3).toInt ∧ (fm_7 4).toInt = (fm 4).toInt) ∧ va_P g.1 vwCl (List.flatten [bMo g o a th hi ac tp (-1) en at2_1 (-1) de iD iO tU fm_7 fk fa fc ft ff fb fi]) H ∧ va_D A (List.flatten [bMo g o a th hi ac tp (-1) en at2_1 (-1) de iD iO tU fm_7 fk fa fc ft ff fb fi]) := ⟨upd fm wh.toNatClampNeg r_3, (rM_st (j := wh.toInt) (w := r_3.toInt) rfm rfl rfl (by omega)), (zkpG (by omega)), hP, hD⟩
    have hP : va_P g.1 vwCl (List.flatten [bMo g o a th hi ac tp (-1) en at2_1 (-1) de iD iO tU fm_7 fk fa fc ft ff fb fi]) H := hP
    have hD : va_D A (List.flatten [bMo g o a th hi ac tp (-1) en at2_1 (-1) de iD iO tU fm_7 fk fa fc ft ff fb fi]) := hD
    exact mret_v hx hb hr hlocks hS (Nat.le_of_ble_eq_true rfl) (Nat.le_of_ble_eq_true rfl) dX12_tells_24 (at2_1, -1, fm_7) rfl (show ((fm_7 0).toInt = (fm 0).toInt ∧ (fm_7 3).toInt = (fm 3).toInt ∧ (fm_7 4).toInt = (fm 4).toInt) ∧ (rM fm_7) ∧ (0 ≤ at2_1.toInt ∧ at2_1.toInt ≤ en.toInt + 7 - de.toInt) ∧ (tA.toInt ≤ at2_1.toInt) ∧ ((-1) = (-1) ∧ (∃ v9, zNu ft en.toInt (zbg ft en.toInt tA.toInt) lw.toInt hg.toInt v9) ∧ at2_1.toInt = znx ft en.toInt (zbg ft en.toInt tA.toInt) ∨ ((-1) : Int32).toInt = zbg ft en.toInt tA.toInt ∧ ¬ ∃ v9, zNu ft en.toInt (zbg ft en.toInt tA.toInt) lw.toInt hg.toInt v9) from ⟨(by first | assumption | omega | exact Or.inl (by decide) | exact Or.inr (by omega) | decide), (by first | assumption | omega | exact Or.inl (by decide) | exact Or.inr (by omega) | decide), (by first | assumption | omega | exact Or.inl (by decide) | exact Or.inr (by omega) | decide), (by first | assumption | omega | exact Or.inl (by decide) | exact Or.inr (by omega) | decide), (Or.inl ⟨rfl, ⟨_, hq4_k⟩, hq4_km⟩)⟩) hP hD
  · skip
    refine lv_istore (lv' := [(4, .int r_3), (0, .ref o), (1, .int wh), (2, .int lw), (3, .int hg)]) hx hb dX12_tells_6 hl (by decide) rfl (fun ls hl => ?_)
    have w8 : 0 ≤ fl2_2.toInt := zB0 hq4_k
    refine lv_aload_n hx hb dX12_tells_8 rfl (lv_at hl 1 rfl) ?_
    refine va_get (D := g.1) (ci := 10) (v := .int fl2_2) (C := RX12) (T := TX12) (N := 20) hx hb hts izRX12 hown hK hP 0 rfl rfl 12 (by decide) (hts _ k820) (fun _ h9 => h9) rfl dX12_tells_9 ?_
    refine lv_iconst (v := (-1)) hx hb dX12_tells_12 (by decide) ?_
    refine lv_icmp_ne (tgt := 24) hx hb dX12_tells_13 (by decide) (fun cb9 => ?_) (fun cb9 => ?_)
    · skip
      have c9 : ¬ fl2_2.toInt = (-1) := zne cb9 rfl (by decide)
      have hP : va_P g.1 vwCl (List.flatten [bMo g o a th hi ac tp (-1) en at2_1 fl2_2 de iD iO tU fm fk fa fc ft ff fb fi]) H := hP
      have hD : va_D A (List.flatten [bMo g o a th hi ac tp (-1) en at2_1 fl2_2 de iD iO tU fm fk fa fc ft ff fb fi]) := hD
      exact mret_v hx hb hr hlocks hS (Nat.le_of_ble_eq_true rfl) (Nat.le_of_ble_eq_true rfl) dX12_tells_24 (at2_1, fl2_2, fm) rfl (show ((fm 0).toInt = (fm 0).toInt ∧ (fm 3).toInt = (fm 3).toInt ∧ (fm 4).toInt = (fm 4).toInt) ∧ (rM fm) ∧ (0 ≤ at2_1.toInt ∧ at2_1.toInt ≤ en.toInt + 7 - de.toInt) ∧ (tA.toInt ≤ at2_1.toInt) ∧ ((-1) = fl2_2 ∧ (∃ v9, zNu ft en.toInt (zbg ft en.toInt tA.toInt) lw.toInt hg.toInt v9) ∧ at2_1.toInt = znx ft en.toInt (zbg ft en.toInt tA.toInt) ∨ fl2_2.toInt = zbg ft en.toInt tA.toInt ∧ ¬ ∃ v9, zNu ft en.toInt (zbg ft en.toInt tA.toInt) lw.toInt hg.toInt v9) from ⟨(by first | assumption | omega | exact Or.inl (by decide) | exact Or.inr (by omega) | decide), (by first | assumption | omega | exact Or.inl (by decide) | exact Or.inr (by omega) | decide), (by first | assumption | omega | exact Or.inl (by decide) | exact Or.inr (by omega) | decide), (by first | assumption | omega | exact Or.inl (by decide) | exact Or.inr (by omega) | decide), (Or.inr ⟨hq4_k, hq4_km⟩)⟩) hP hD
    · skip
      exact absurd (show fl2_2.toInt = (-1) from zeq cb9 rfl (by decide)) (zDeq2 (a := 0) (b := (-1)) w8 (Int.le_refl _) (by decide))
set_option maxRecDepth 100000 in
set_option maxHeartbeats 4000000 in
theorem m_trustsLineF (l : Launch) (g : zG) (o : Nat) (a : Nat → Nat) (th : Int32) (hi : Int32) (ac : Int32) (tp : Int32) (en : Int32) (tA : Int32) (de : Int32) (iD : Int32) (iO : Int32) (tU : Int32) (fm : Nat → Int32) (fk : Nat → Int32) (fa : Nat → Int32) (fc : Nat → Int32) (ft : Nat → Int32) (ff : Nat → Int32) (fb : Nat → Int32) (fi : Nat → Int32) (rfm : rM fm) (hen : 0 ≤ en.toInt ∧ en.toInt ≤ 400) (htA : 0 ≤ tA.toInt ∧ tA.toInt ≤ en.toInt + 7 - de.toInt) (hde : 0 ≤ de.toInt ∧ de.toInt ≤ 6) : zM' g l yX12_trustsLine (Cond.code yX12_trustsLine cX12_trustsLine 5 none :: zB) ({ frames := 4, cells := 0, slots := 0, locals := 85 } : Room) [.ref o] [bMo g o a th hi ac tp (-1) en tA (-1) de iD iO tU fm fk fa fc ft ff fb fi] (fun u : Int32 × Int32 × (Nat → Int32) => (fun (at2 : Int32) (fl2 : Int32) (fm2 : Nat → Int32) => none) (u.1) (u.2.1) (u.2.2)) (fun u : Int32 × Int32 × (Nat → Int32) => (fun (at2 : Int32) (fl2 : Int32) (fm2 : Nat → Int32) => ((fm2 0).toInt = (fm 0).toInt ∧ (fm2 3).toInt = (fm 3).toInt ∧ (fm2 4).toInt = (fm 4).toInt) ∧ (rM fm2) ∧ (0 ≤ at2.toInt ∧ at2.toInt ≤ en.toInt + 7 - de.toInt) ∧ (tA.toInt ≤ at2.toInt) ∧ ((fm2 0).toInt = (fm 0).toInt) ∧ ((-1) = fl2 ∧ zTO (zKtr ft en.toInt (fm 3).toInt (zbg ft en.toInt tA.toInt)) (zbg ft en.toInt at2.toInt) (fm 3).toInt (fm2 3).toInt (fm 4).toInt (fm2 4).toInt ∨ 0 ≤ fl2.toInt ∧ zKtr ft en.toInt (fm 3).toInt (zbg ft en.toInt tA.toInt) (.bad fl2.toInt))) (u.1) (u.2.1) (u.2.2)) (fun u : Int32 × Int32 × (Nat → Int32) => (fun (at2 : Int32) (fl2 : Int32) (fm2 : Nat → Int32) => [bMo g o a th hi ac tp (-1) en at2 fl2 de iD iO tU fm2 fk fa fc ft ff fb fi]) (u.1) (u.2.1) (u.2.2)) := by
  refine zM'.of (cc := cX12_trustsLine) (maxL := 5) (rt := none) (by decide) rfl (Nat.le_of_ble_eq_true rfl) ?_
  intro p e s m args below meth c A ls St hr hlocks hin hK hT hA hP hD hS hl
  obtain ⟨hx, hb, hml, hown, hts⟩ := id St
  have hl : lv_has ls 5 [(0, .ref o)] := hl
  refine lv_aload_n hx hb dX12_trustsLine_0 rfl (lv_at hl 0 rfl) ?_
  refine lv_iconst (v := 0) hx hb dX12_trustsLine_1 (by decide) ?_
  refine lv_aload_n hx hb dX12_trustsLine_2 rfl (lv_at hl 0 rfl) ?_
  refine va_get (D := g.1) (ci := 10) (v := .ref (a 0)) (C := RX12) (T := TX12) (N := 20) hx hb hts izRX12 hown hK hP 0 rfl rfl 1 (by decide) (hts _ k815) (fun _ h9 => h9) rfl dX12_trustsLine_3 ?_
  refine lv_iconst (v := 3) hx hb dX12_trustsLine_6 (by decide) ?_
  refine va_iald hx hb hK hP 1 0 rfl rfl (zin rfl) dX12_trustsLine_7 ?_
  refine zgq (r := fm 3) rfl (rM3 rfm) (fun x_1 hx_1 => ?_)
  refine lv_iconst (v := 1) hx hb dX12_trustsLine_8 (by decide) ?_
  refine lv_isub hx hb dX12_trustsLine_9 ?_
  refine zg3 (zsubK (i := x_1.toInt) (j := 1) (a' := (-1)) (b' := 7) rfl (by decide) hx_1.1 hx_1.2.1 (Int.le_refl _) (Int.le_refl _) (by decide)) (fun x_2 hx_2 => ?_)
  have hL0 : (0 : Int32).toInt = 0 := by decide
  refine mcallV' (g := g) (q0 := 0) (ci := 10) (As := [.int 0, .int x_2]) (rest := []) St hK hT hA hP hD hS hl.1 [0] [] rfl rfl rfl (m_figuresF l g o a th hi ac tp en tA de iD iO tU fm fk fa fc ft ff fb fi 0 x_2 hen htA hde) (cwV 2 hts (zgL (zl4 k902 k903 k904 k839) k898) rfl rfl rfl (by decide +kernel) ⟨Nat.le_of_ble_eq_true rfl, Nat.le_of_ble_eq_true rfl⟩) rfl rfl rfl rfl (Nat.le_of_ble_eq_true rfl) dX12_trustsLine_10 ⟨(Nat.le_of_ble_eq_true rfl), (Nat.le_of_ble_eq_true rfl)⟩ (fun u_ H locs hq6 hP hD hS => ?_)
  obtain ⟨at2_3, fl2_4, r_5⟩ := u_
  replace hq6 : (0 ≤ at2_3.toInt ∧ at2_3.toInt ≤ en.toInt + 7 - de.toInt) ∧ (tA.toInt ≤ at2_3.toInt) ∧ (zNu ft en.toInt (zbg ft en.toInt tA.toInt) (0 : Int32).toInt x_2.toInt r_5 ∧ at2_3.toInt = znx ft en.toInt (zbg ft en.toInt tA.toInt) ∧ (-1) = fl2_4 ∨ fl2_4.toInt = zbg ft en.toInt tA.toInt ∧ ¬ ∃ v9, zNu ft en.toInt (zbg ft en.toInt tA.toInt) (0 : Int32).toInt x_2.toInt v9) := hq6
  have hP : va_P g.1 vwCl (List.flatten [bMo g o a th hi ac tp (-1) en at2_3 fl2_4 de iD iO tU fm fk fa fc ft ff fb fi]) H := hP
  have hD : va_D A (List.flatten [bMo g o a th hi ac tp (-1) en at2_3 fl2_4 de iD iO tU fm fk fa fc ft ff fb fi]) := hD
  refine W.widen (k := 0) (n := 0) (Nat.le_of_ble_eq_true rfl) (Nat.le_of_ble_eq_true rfl) ?_
  refine W.eq (g2 := F0 m 13 ls [.int r_5]) rfl ?_
  obtain ⟨hq6_0, hq6_1, hq6_2⟩ := hq6
  rcases hq6_2 with ⟨hq6_k, hq6_km, rfl⟩ | ⟨hq6_k, hq6_km⟩
  · skip
    have w7 : 0 ≤ r_5.toInt ∧ r_5.toInt ≤ 7 := ⟨(by have h9 := hq6_k.2.2.1; omega), (by have h9 := hq6_k.2.2.2; omega)⟩
    refine lv_istore_n (lv' := [(1, .int r_5), (0, .ref o)]) hx hb dX12_trustsLine_13 rfl hl (by decide) rfl (fun ls hl => ?_)
    refine lv_aload_n hx hb dX12_trustsLine_14 rfl (lv_at hl 1 rfl) ?_
    refine mcallV' (g := g) (q0 := 0) (ci := 10) (As := []) (rest := []) St hK hT hA hP hD hS hl.1 [0] [] rfl rfl rfl (m_hereF l g o a th hi ac tp en at2_3 (-1) de iD iO tU fm fk fa fc ft ff fb fi hen hq6_0 hde) (cwV 0 hts (zgL (zl4 k892 k893 k894 k839) k891) rfl rfl rfl (by decide +kernel) ⟨Nat.le_of_ble_eq_true rfl, Nat.le_of_ble_eq_true rfl⟩) rfl rfl rfl rfl (Nat.le_of_ble_eq_true rfl) dX12_trustsLine_15 ⟨(Nat.le_of_ble_eq_true rfl), (Nat.le_of_ble_eq_true rfl)⟩ (fun at2_8 H locs hq9 hP hD hS => ?_)
    replace hq9 : (0 ≤ at2_8.toInt ∧ at2_8.toInt ≤ en.toInt + 7 - de.toInt) ∧ (at2_3.toInt ≤ at2_8.toInt) ∧ (zSk ft en.toInt at2_3.toInt at2_8.toInt) := hq9
    have hP : va_P g.1 vwCl (List.flatten [bMo g o a th hi ac tp (-1) en at2_8 (-1) de iD iO tU fm fk fa fc ft ff fb fi]) H := hP
    have hD : va_D A (List.flatten [bMo g o a th hi ac tp (-1) en at2_8 (-1) de iD iO tU fm fk fa fc ft ff fb fi]) := hD
    refine W.widen (k := 0) (n := 0) (Nat.le_of_ble_eq_true rfl) (Nat.le_of_ble_eq_true rfl) ?_
    refine W.eq (g2 := F0 m 18 ls [.int at2_8]) rfl ?_
    obtain ⟨hq9_0, hq9_1, hq9_2⟩ := hq9
    refine lv_istore_n (lv' := [(2, .int at2_8), (1, .int r_5), (0, .ref o)]) hx hb dX12_trustsLine_18 rfl hl (by decide) rfl (fun ls hl => ?_)
    refine lv_iconst (v := 0) hx hb dX12_trustsLine_19 (by decide) ?_
    refine lv_istore_n (lv' := [(3, .int 0), (2, .int at2_8), (1, .int r_5), (0, .ref o)]) hx hb dX12_trustsLine_20 rfl hl (by decide) rfl (fun ls hl => ?_)
    have hl := lv_sub (l' := [(0, .ref o), (1, .int r_5), (2, .int at2_8), (3, .int 0)]) hl [3, 2, 1, 0] rfl
    have LP21_14 : ∀ (kf : Nat) (x_10 : Int32), (0 ≤ x_10.toInt ∧ x_10.toInt ≤ 400) → (x_10.toInt = 0 ∨ at2_8.toInt + x_10.toInt ≤ en.toInt) → (zw zcD ft en.toInt.toNat at2_8.toInt.toNat = zw zcD ft en.toInt.toNat (at2_8.toInt + x_10.toInt).toNat) → ∀ (H : Heap) (locs : List Loc) (ls : Array Slot), ((400 - x_10.toInt).toNat) < kf → va_P g.1 vwCl (List.flatten [bMo g o a th hi ac tp (-1) en at2_8 (-1) de iD iO tU fm fk fa fc ft ff fb fi]) H → va_D A (List.flatten [bMo g o a th hi ac tp (-1) en at2_8 (-1) de iD iO tU fm fk fa fc ft ff fb fi]) → va_S A s.heap H locs → lv_has ls 5 [(0, .ref o), (1, .int r_5), (2, .int at2_8), (3, .int x_10)] → W p l e ({ frames := 4, cells := 0, slots := 0, locals := 85 } : Room) s m args below meth c H locs (0) (0) (zF g (fun u : Int32 × Int32 × (Nat → Int32) => (fun (at2 : Int32) (fl2 : Int32) (fm2 : Nat → Int32) => none) (u.1) (u.2.1) (u.2.2)) (fun u : Int32 × Int32 × (Nat → Int32) => (fun (at2 : Int32) (fl2 : Int32) (fm2 : Nat → Int32) => ((fm2 0).toInt = (fm 0).toInt ∧ (fm2 3).toInt = (fm 3).toInt ∧ (fm2 4).toInt = (fm 4).toInt) ∧ (rM fm2) ∧ (0 ≤ at2.toInt ∧ at2.toInt ≤ en.toInt + 7 - de.toInt) ∧ (tA.toInt ≤ at2.toInt) ∧ ((fm2 0).toInt = (fm 0).toInt) ∧ ((-1) = fl2 ∧ zTO (zKtr ft en.toInt (fm 3).toInt (zbg ft en.toInt tA.toInt)) (zbg ft en.toInt at2.toInt) (fm 3).toInt (fm2 3).toInt (fm 4).toInt (fm2 4).toInt ∨ 0 ≤ fl2.toInt ∧ zKtr ft en.toInt (fm 3).toInt (zbg ft en.toInt tA.toInt) (.bad fl2.toInt))) (u.1) (u.2.1) (u.2.2)) (fun u : Int32 × Int32 × (Nat → Int32) => (fun (at2 : Int32) (fl2 : Int32) (fm2 : Nat → Int32) => [bMo g o a th hi ac tp (-1) en at2 fl2 de iD iO tU fm2 fk fa fc ft ff fb fi]) (u.1) (u.2.1) (u.2.2)) ({ frames := 4, cells := 0, slots := 0, locals := 85 } : Room) below args s A) (F0 m 21 ls []) := by
      intro kf
      induction kf with
      | zero => intro x_10 i11 i12 i13 H locs ls hk; exact absurd hk (Nat.not_lt_zero _)
      | succ kf ih21_15 =>
        intro x_10 i11 i12 i13 H locs ls hk21_15 hP hD hS hl
        refine lv_aload_n hx hb dX12_trustsLine_21 rfl (lv_at hl 0 rfl) ?_
        refine va_get (D := g.1) (ci := 10) (v := .int (-1)) (C := RX12) (T := TX12) (N := 20) hx hb hts izRX12 hown hK hP 0 rfl rfl 12 (by decide) (hts _ k820) (fun _ h9 => h9) rfl dX12_trustsLine_22 ?_
        refine lv_iconst (v := (-1)) hx hb dX12_trustsLine_25 (by decide) ?_
        refine lv_icmp_ne (tgt := 62) hx hb dX12_trustsLine_26 (by decide) (fun c16 => absurd (by decide) c16) (fun _ => ?_)
        refine lv_iload_n hx hb dX12_trustsLine_29 rfl (lv_at hl 2 rfl) ?_
        refine lv_iload_n hx hb dX12_trustsLine_30 rfl (lv_at hl 3 rfl) ?_
        refine lv_iadd hx hb dX12_trustsLine_31 ?_
        refine zgv (zadd (i := at2_8.toInt) (j := x_10.toInt) rfl rfl (by omega)) (fun x_17 hx_17 => ?_)
        refine lv_aload_n hx hb dX12_trustsLine_32 rfl (lv_at hl 0 rfl) ?_
        refine va_get (D := g.1) (ci := 10) (v := .int en) (C := RX12) (T := TX12) (N := 20) hx hb hts izRX12 hown hK hP 0 rfl rfl 10 (by decide) (hts _ k879) (fun _ h9 => h9) rfl dX12_trustsLine_33 ?_
        refine lv_icmp_ge (tgt := 62) hx hb dX12_trustsLine_36 (by decide) (fun cb9 => ?_) (fun cb9 => ?_)
        · skip
          have c18 : en.toInt ≤ x_17.toInt := zle cb9 rfl rfl
          refine lv_iload_n hx hb dX12_trustsLine_62 rfl (lv_at hl 3 rfl) ?_
          refine lv_aload_n hx hb dX12_trustsLine_63 rfl (lv_at hl 0 rfl) ?_
          refine va_get (D := g.1) (ci := 10) (v := .ref (a 0)) (C := RX12) (T := TX12) (N := 20) hx hb hts izRX12 hown hK hP 0 rfl rfl 1 (by decide) (hts _ k815) (fun _ h9 => h9) rfl dX12_trustsLine_64 ?_
          refine lv_iconst (v := 3) hx hb dX12_trustsLine_67 (by decide) ?_
          refine va_iald hx hb hK hP 1 0 rfl rfl (zin rfl) dX12_trustsLine_68 ?_
          refine zgq (r := fm 3) rfl (rM3 rfm) (fun x_19 hx_19 => ?_)
          refine lv_icmp_eq (tgt := 77) hx hb dX12_trustsLine_69 (by decide) (fun cb9 => ?_) (fun cb9 => ?_)
          · skip
            have c20 : x_10.toInt = x_19.toInt := zeq cb9 rfl rfl
            have n21 : x_10.toInt ≤ 8 := Int.le_trans (Int.le_of_eq c20) hx_19.2.1
            refine lv_aload_n hx hb dX12_trustsLine_77 rfl (lv_at hl 0 rfl) ?_
            refine va_get (D := g.1) (ci := 10) (v := .int (-1)) (C := RX12) (T := TX12) (N := 20) hx hb hts izRX12 hown hK hP 0 rfl rfl 12 (by decide) (hts _ k820) (fun _ h9 => h9) rfl dX12_trustsLine_78 ?_
            refine lv_iconst (v := (-1)) hx hb dX12_trustsLine_81 (by decide) ?_
            refine lv_icmp_eq (tgt := 86) hx hb dX12_trustsLine_82 (by decide) (fun _ => ?_) (fun c22 => absurd (by decide) c22)
            have w23 : 0 ≤ r_5.toInt ∧ r_5.toInt ≤ 7 := by omega
            refine lv_iconst (v := 0) hx hb dX12_trustsLine_86 (by decide) ?_
            refine lv_istore (lv' := [(4, .int 0), (0, .ref o), (1, .int r_5), (2, .int at2_8), (3, .int x_10)]) hx hb dX12_trustsLine_87 hl (by decide) rfl (fun ls hl => ?_)
            have hl := lv_sub (l' := [(0, .ref o), (1, .int r_5), (2, .int at2_8), (3, .int x_10), (4, .int 0)]) hl [1, 2, 3, 4, 0] rfl
            have LP89_28 : ∀ (kf : Nat) (x_24 : Int32) (fm_25 : Nat → Int32), (0 ≤ x_24.toInt ∧ x_24.toInt ≤ 8) → (rM fm_25) → ((fm_25 0).toInt = (fm 0).toInt ∧ (fm_25 3).toInt = (fm 3).toInt ∧ (fm_25 4).toInt = (fm 4).toInt) → ∀ (H : Heap) (locs : List Loc) (ls : Array Slot), ((9 - x_24.toInt).toNat) < kf → va_P g.1 vwCl (List.flatten [bMo g o a th hi ac tp (-1) en at2_8 (-1) de iD iO tU fm_25 fk fa fc ft ff fb fi]) H → va_D A (List.flatten [bMo g o a th hi ac tp (-1) en at2_8 (-1) de iD iO tU fm_25 fk fa fc ft ff fb fi]) → va_S A s.heap H locs → lv_has ls 5 [(0, .ref o), (1, .int r_5), (2, .int at2_8), (3, .int x_10), (4, .int x_24)] → W p l e ({ frames := 4, cells := 0, slots := 0, locals := 85 } : Room) s m args below meth c H locs (0) (0) (zF g (fun u : Int32 × Int32 × (Nat → Int32) => (fun (at2 : Int32) (fl2 : Int32) (fm2 : Nat → Int32) => none) (u.1) (u.2.1) (u.2.2)) (fun u : Int32 × Int32 × (Nat → Int32) => (fun (at2 : Int32) (fl2 : Int32) (fm2 : Nat → Int32) => ((fm2 0).toInt = (fm 0).toInt ∧ (fm2 3).toInt = (fm 3).toInt ∧ (fm2 4).toInt = (fm 4).toInt) ∧ (rM fm2) ∧ (0 ≤ at2.toInt ∧ at2.toInt ≤ en.toInt + 7 - de.toInt) ∧ (tA.toInt ≤ at2.toInt) ∧ ((fm2 0).toInt = (fm 0).toInt) ∧ ((-1) = fl2 ∧ zTO (zKtr ft en.toInt (fm 3).toInt (zbg ft en.toInt tA.toInt)) (zbg ft en.toInt at2.toInt) (fm 3).toInt (fm2 3).toInt (fm 4).toInt (fm2 4).toInt ∨ 0 ≤ fl2.toInt ∧ zKtr ft en.toInt (fm 3).toInt (zbg ft en.toInt tA.toInt) (.bad fl2.toInt))) (u.1) (u.2.1) (u.2.2)) (fun u : Int32 × Int32 × (Nat → Int32) => (fun (at2 : Int32) (fl2 : Int32) (fm2 : Nat → Int32) => [bMo g o a th hi ac tp (-1) en at2 fl2 de iD iO tU fm2 fk fa fc ft ff fb fi]) (u.1) (u.2.1) (u.2.2)) ({ frames := 4, cells := 0, slots := 0, locals := 85 } : Room) below args s A) (F0 m 89 ls []) := by
              intro kf
              induction kf with
              | zero => intro x_24 fm_25 i26 rfm_25 i27 H locs ls hk; exact absurd hk (Nat.not_lt_zero _)
              | succ kf ih89_29 =>
                intro x_24 fm_25 i26 rfm_25 i27 H locs ls hk89_29 hP hD hS hl
                refine lv_iload hx hb dX12_trustsLine_89 (lv_at hl 4 rfl) ?_
                refine lv_iload_n hx hb dX12_trustsLine_91 rfl (lv_at hl 3 rfl) ?_
                refine lv_icmp_ge (tgt := 127) hx hb dX12_trustsLine_92 (by decide) (fun cb9 => ?_) (fun cb9 => ?_)
                · skip
                  have c30 : x_10.toInt ≤ x_24.toInt := zle cb9 rfl rfl
                  refine lv_aload_n hx hb dX12_trustsLine_127 rfl (lv_at hl 0 rfl) ?_
                  refine lv_iload_n hx hb dX12_trustsLine_128 rfl (lv_at hl 2 rfl) ?_
                  refine lv_iload_n hx hb dX12_trustsLine_129 rfl (lv_at hl 3 rfl) ?_
                  refine lv_iadd hx hb dX12_trustsLine_130 ?_
                  refine zgv (zadd (i := at2_8.toInt) (j := x_10.toInt) rfl rfl (by omega)) (fun x_31 hx_31 => ?_)
                  refine va_put (D := g.1) (ci := 10) (v := .int x_31) (ty := .int) (C := RX12) (T := TX12) (N := 20) hx hb hts izRX12 tyX12 tyX12_ok nmX12 hown hK hP hD hS 0 rfl rfl 11 (by decide) (hts _ k878) (fun _ h9 => h9) rfl (by decide +kernel) rfl rfl (Nat.le_of_ble_eq_true rfl) dX12_trustsLine_131 (fun H locs hP hD hS => ?_)
                  have hP : va_P g.1 vwCl (List.flatten [bMo g o a th hi ac tp (-1) en x_31 (-1) de iD iO tU fm_25 fk fa fc ft ff fb fi]) H := hP
                  have hD : va_D A (List.flatten [bMo g o a th hi ac tp (-1) en x_31 (-1) de iD iO tU fm_25 fk fa fc ft ff fb fi]) := hD
                  have hP : va_P g.1 vwCl (List.flatten [bMo g o a th hi ac tp (-1) en x_31 (-1) de iD iO tU fm_25 fk fa fc ft ff fb fi]) H := hP
                  have hD : va_D A (List.flatten [bMo g o a th hi ac tp (-1) en x_31 (-1) de iD iO tU fm_25 fk fa fc ft ff fb fi]) := hD
                  exact mret_v hx hb hr hlocks hS (Nat.le_of_ble_eq_true rfl) (Nat.le_of_ble_eq_true rfl) dX12_trustsLine_134 (x_31, -1, fm_25) rfl (show ((fm_25 0).toInt = (fm 0).toInt ∧ (fm_25 3).toInt = (fm 3).toInt ∧ (fm_25 4).toInt = (fm 4).toInt) ∧ (rM fm_25) ∧ (0 ≤ x_31.toInt ∧ x_31.toInt ≤ en.toInt + 7 - de.toInt) ∧ (tA.toInt ≤ x_31.toInt) ∧ ((fm_25 0).toInt = (fm 0).toInt) ∧ ((-1) = (-1) ∧ zTO (zKtr ft en.toInt (fm 3).toInt (zbg ft en.toInt tA.toInt)) (zbg ft en.toInt x_31.toInt) (fm 3).toInt (fm_25 3).toInt (fm 4).toInt (fm_25 4).toInt ∨ 0 ≤ ((-1) : Int32).toInt ∧ zKtr ft en.toInt (fm 3).toInt (zbg ft en.toInt tA.toInt) (.bad ((-1) : Int32).toInt)) from ⟨(by first | assumption | omega | exact Or.inl (by decide) | exact Or.inr (by omega) | decide), (by first | assumption | omega | exact Or.inl (by decide) | exact Or.inr (by omega) | decide), (by first | assumption | omega | exact Or.inl (by decide) | exact Or.inr (by omega) | decide), (by first | assumption | omega | exact Or.inl (by decide) | exact Or.inr (by omega) | decide), (by first | assumption | omega | exact Or.inl (by decide) | exact Or.inr (by omega) | decide), (Or.inl ⟨rfl, ⟨_, zNN_yM (by decide) (by omega) hq6_k (zKt2_b ((zNt_b hq6_km).trans (zbg_sk hq9_2)) (zdg_y (by omega) (by have h9 := hq6_k.2.2.1; have h8 := hq6_k.2.2.2; omega) (zdg_e1 i13 (by omega) (by omega)) (by omega) (by omega))), zcp_n (by decide) (by omega), zcw_n (by decide) (by omega)⟩⟩)⟩) hP hD
                · skip
                  have c32 : x_24.toInt < x_10.toInt := zlti (Int32.not_le.mp cb9) rfl rfl
                  have n33 : x_24.toInt ≤ 7 := zL1 (b := 8) c32 n21 (by decide)
                  have n34 : 1 ≤ x_10.toInt := zL2 (a := 0) c32 i26.1 (by decide)
                  refine lv_aload_n hx hb dX12_trustsLine_95 rfl (lv_at hl 0 rfl) ?_
                  refine va_get (D := g.1) (ci := 10) (v := .ref (a 0)) (C := RX12) (T := TX12) (N := 20) hx hb hts izRX12 hown hK hP 0 rfl rfl 1 (by decide) (hts _ k815) (fun _ h9 => h9) rfl dX12_trustsLine_96 ?_
                  refine lv_bipush (v := 51) hx hb dX12_trustsLine_99 (by decide) ?_
                  refine lv_bipush (v := 8) hx hb dX12_trustsLine_101 (by decide) ?_
                  refine lv_iload_n hx hb dX12_trustsLine_103 rfl (lv_at hl 1 rfl) ?_
                  refine lv_imul hx hb dX12_trustsLine_104 ?_
                  refine zg3 (zmulKL (i := r_5.toInt) (n := 8) (a' := 0) (b' := 56) rfl (by decide) w23.1 w23.2 (by decide) (by decide)) (fun x_35 hx_35 => ?_)
                  refine lv_iadd hx hb dX12_trustsLine_105 ?_
                  refine zg3 (zaddK (i := 51) (j := x_35.toInt) (a' := 51) (b' := 107) (by decide) rfl (Int.le_refl _) (Int.le_refl _) hx_35.2.1 hx_35.2.2 (by decide)) (fun x_36 hx_36 => ?_)
                  refine lv_iload hx hb dX12_trustsLine_106 (lv_at hl 4 rfl) ?_
                  refine lv_iadd hx hb dX12_trustsLine_108 ?_
                  refine zg3 (zaddK (i := x_36.toInt) (j := x_24.toInt) (a' := 51) (b' := 114) rfl rfl hx_36.2.1 hx_36.2.2 i26.1 n33 (by decide)) (fun x_37 hx_37 => ?_)
                  refine lv_aload_n hx hb dX12_trustsLine_109 rfl (lv_at hl 0 rfl) ?_
                  refine lv_iload_n hx hb dX12_trustsLine_110 rfl (lv_at hl 2 rfl) ?_
                  refine lv_iload hx hb dX12_trustsLine_111 (lv_at hl 4 rfl) ?_
                  refine lv_iadd hx hb dX12_trustsLine_113 ?_
                  refine zgv (zadd (i := at2_8.toInt) (j := x_24.toInt) rfl rfl (by omega)) (fun x_38 hx_38 => ?_)
                  refine mcallV' (g := g) (q0 := 0) (ci := 10) (As := [.int x_38]) (rest := [.int x_37, .ref (a 0)]) St hK hT hA hP hD hS hl.1 [0] [] rfl rfl rfl (m_letterF l g o a th hi ac tp en at2_8 (-1) de iD iO tU fm_25 fk fa fc ft ff fb fi x_38 (by first | assumption | omega | decide | exact Or.inl (by decide) | exact Or.inr (by decide))) (cwV 1 hts (zgL (zl4 k880 k881 k882 k839) k875) rfl rfl rfl (by decide +kernel) ⟨Nat.le_of_ble_eq_true rfl, Nat.le_of_ble_eq_true rfl⟩) rfl rfl rfl rfl (Nat.le_of_ble_eq_true rfl) dX12_trustsLine_114 ⟨(Nat.le_of_ble_eq_true rfl), (Nat.le_of_ble_eq_true rfl)⟩ (fun _u H locs hq39 hP hD hS => ?_)
                  have hP : va_P g.1 vwCl (List.flatten [bMo g o a th hi ac tp (-1) en at2_8 (-1) de iD iO tU fm_25 fk fa fc ft ff fb fi]) H := hP
                  have hD : va_D A (List.flatten [bMo g o a th hi ac tp (-1) en at2_8 (-1) de iD iO tU fm_25 fk fa fc ft ff fb fi]) := hD
                  refine W.widen (k := 0) (n := 0) (Nat.le_of_ble_eq_true rfl) (Nat.le_of_ble_eq_true rfl) ?_
                  refine W.eq (g2 := F0 m 117 ls [.int (ft x_38.toNatClampNeg), .int x_37, .ref (a 0)]) rfl ?_
                  refine lv_bipush (v := 48) hx hb dX12_trustsLine_117 (by decide) ?_
                  refine lv_isub hx hb dX12_trustsLine_119 ?_
                  refine zg (fun x_40 => ?_)
                  refine va_iast hx hb hK hP hD hS 1 0 rfl rfl (zinK (a := 51) (b := 114) hx_37.2.1 hx_37.2.2 (by decide)) dX12_trustsLine_120 (fun H locs hP hD hS => ?_)
                  obtain ⟨fm_41, rfm_41, hkfm_41, hP, hD⟩ : ∃ fm_41 : Nat → Int32, rM fm_41 ∧ ((fm_41 0).toInt = (fm_25 0).toInt ∧ (fm_41 3).toInt = (fm_25 3).toInt ∧ (fm_41 4).toInt = (fm_25 4).toInt) ∧ va_P g.1 vwCl (List.flatten [bMo g o a th hi ac tp (-1) en at2_8 (-1) de iD iO tU fm_41 fk fa fc ft ff fb fi]) H ∧ va_D A (List.flatten [bMo g o a th hi ac tp (-1) en at2_8 (-1) de iD iO tU fm_41 fk fa fc ft ff fb fi]) := ⟨upd fm_25 x_37.toNatClampNeg x_40, (rM_stB rfm_25 (Int.le_trans (by decide) hx_37.2.1)), (zkpG (by omega)), hP, hD⟩
                  refine ziinc3 (n' := 1) (a' := 1) (b' := 8) (lv' := fun v9 => [(4, .int v9), (0, .ref o), (1, .int r_5), (2, .int at2_8), (3, .int x_10)]) hx hb dX12_trustsLine_121 hl (k := 4) rfl (by decide) (fun _ => rfl) (zaddK (i := x_24.toInt) (j := 1) rfl (by decide) i26.1 n33 (Int.le_refl _) (Int.le_refl _) (by decide)) (fun x_42 ls hx_42 hl => ?_)
                  refine lv_goto (tgt := 89) hx hb dX12_trustsLine_124 (by decide) ?_
                  have hl := lv_sub (l' := [(0, .ref o), (1, .int r_5), (2, .int at2_8), (3, .int x_10), (4, .int x_42)]) hl [1, 2, 3, 4, 0] rfl
                  have hP : va_P g.1 vwCl (List.flatten [bMo g o a th hi ac tp (-1) en at2_8 (-1) de iD iO tU fm_41 fk fa fc ft ff fb fi]) H := hP
                  have hD : va_D A (List.flatten [bMo g o a th hi ac tp (-1) en at2_8 (-1) de iD iO tU fm_41 fk fa fc ft ff fb fi]) := hD
                  exact ih89_29 x_42 fm_41 ⟨(Int.le_trans (by decide) hx_42.2.1), hx_42.2.2⟩ rfm_41 (by first | omega | assumption | decide) H _ ls (zmK hx_42.1 (by decide) n33 (by decide) hk89_29)  hP hD hS (lv_sub hl [0, 1, 2, 3, 4] rfl)
            have hP : va_P g.1 vwCl (List.flatten [bMo g o a th hi ac tp (-1) en at2_8 (-1) de iD iO tU fm fk fa fc ft ff fb fi]) H := hP
            have hD : va_D A (List.flatten [bMo g o a th hi ac tp (-1) en at2_8 (-1) de iD iO tU fm fk fa fc ft ff fb fi]) := hD
            exact LP89_28 _ 0 fm (by decide) rfm (by first | omega | assumption | decide) H _ ls (Nat.lt_succ_self _)  hP hD hS (lv_sub hl [0, 1, 2, 3, 4] rfl)
          · skip
            have c43 : ¬ x_10.toInt = x_19.toInt := zne cb9 rfl rfl
            refine lv_aload_n hx hb dX12_trustsLine_72 rfl (lv_at hl 0 rfl) ?_
            refine lv_iload_n hx hb dX12_trustsLine_73 rfl (lv_at hl 2 rfl) ?_
            refine mcallV' (g := g) (q0 := 0) (ci := 10) (As := [.int at2_8]) (rest := []) St hK hT hA hP hD hS hl.1 [0] [] rfl rfl rfl (m_wrongF l g o a th hi ac tp (-1) en at2_8 de iD iO tU fm fk fa fc ft ff fb fi at2_8 ) (cwV 1 hts (zgL (zl4 k895 k896 k897 k839) k890) rfl rfl rfl (by decide +kernel) ⟨Nat.le_of_ble_eq_true rfl, Nat.le_of_ble_eq_true rfl⟩) rfl rfl rfl rfl (Nat.le_of_ble_eq_true rfl) dX12_trustsLine_74 ⟨(Nat.le_of_ble_eq_true rfl), (Nat.le_of_ble_eq_true rfl)⟩ (fun _u H locs hq44 hP hD hS => ?_)
            have hP : va_P g.1 vwCl (List.flatten [bMo g o a th hi ac tp (-1) en at2_8 at2_8 de iD iO tU fm fk fa fc ft ff fb fi]) H := hP
            have hD : va_D A (List.flatten [bMo g o a th hi ac tp (-1) en at2_8 at2_8 de iD iO tU fm fk fa fc ft ff fb fi]) := hD
            refine W.widen (k := 0) (n := 0) (Nat.le_of_ble_eq_true rfl) (Nat.le_of_ble_eq_true rfl) ?_
            refine W.eq (g2 := F0 m 77 ls []) rfl ?_
            refine lv_aload_n hx hb dX12_trustsLine_77 rfl (lv_at hl 0 rfl) ?_
            refine va_get (D := g.1) (ci := 10) (v := .int at2_8) (C := RX12) (T := TX12) (N := 20) hx hb hts izRX12 hown hK hP 0 rfl rfl 12 (by decide) (hts _ k820) (fun _ h9 => h9) rfl dX12_trustsLine_78 ?_
            refine lv_iconst (v := (-1)) hx hb dX12_trustsLine_81 (by decide) ?_
            refine lv_icmp_eq (tgt := 86) hx hb dX12_trustsLine_82 (by decide) (fun cb9 => ?_) (fun cb9 => ?_)
            · skip
              exact absurd (show at2_8.toInt = (-1) from zeq cb9 rfl (by decide)) (by omega)
            · skip
              have c46 : ¬ at2_8.toInt = (-1) := zne cb9 rfl (by decide)
              have hP : va_P g.1 vwCl (List.flatten [bMo g o a th hi ac tp (-1) en at2_8 at2_8 de iD iO tU fm fk fa fc ft ff fb fi]) H := hP
              have hD : va_D A (List.flatten [bMo g o a th hi ac tp (-1) en at2_8 at2_8 de iD iO tU fm fk fa fc ft ff fb fi]) := hD
              exact mret_v hx hb hr hlocks hS (Nat.le_of_ble_eq_true rfl) (Nat.le_of_ble_eq_true rfl) dX12_trustsLine_85 (at2_8, at2_8, fm) rfl (show ((fm 0).toInt = (fm 0).toInt ∧ (fm 3).toInt = (fm 3).toInt ∧ (fm 4).toInt = (fm 4).toInt) ∧ (rM fm) ∧ (0 ≤ at2_8.toInt ∧ at2_8.toInt ≤ en.toInt + 7 - de.toInt) ∧ (tA.toInt ≤ at2_8.toInt) ∧ ((fm 0).toInt = (fm 0).toInt) ∧ ((-1) = at2_8 ∧ zTO (zKtr ft en.toInt (fm 3).toInt (zbg ft en.toInt tA.toInt)) (zbg ft en.toInt at2_8.toInt) (fm 3).toInt (fm 3).toInt (fm 4).toInt (fm 4).toInt ∨ 0 ≤ at2_8.toInt ∧ zKtr ft en.toInt (fm 3).toInt (zbg ft en.toInt tA.toInt) (.bad at2_8.toInt)) from ⟨(by first | assumption | omega | exact Or.inl (by decide) | exact Or.inr (by omega) | decide), (by first | assumption | omega | exact Or.inl (by decide) | exact Or.inr (by omega) | decide), (by first | assumption | omega | exact Or.inl (by decide) | exact Or.inr (by omega) | decide), (by first | assumption | omega | exact Or.inl (by decide) | exact Or.inr (by omega) | decide), (by first | assumption | omega | exact Or.inl (by decide) | exact Or.inr (by omega) | decide), (Or.inr ⟨(by omega), zNN_yM (by decide) (by omega) hq6_k (zKt2_bn ((zNt_b hq6_km).trans (zbg_sk hq9_2)) (zdg_n (by omega) (by omega) (zdg_e1 i13 (by omega) (by omega)) (by omega) rfl))⟩)⟩) hP hD
        · skip
          have c47 : x_17.toInt < en.toInt := zlti (Int32.not_le.mp cb9) rfl rfl
          have n48 : x_17.toInt ≤ 399 := zL1 (b := 400) c47 hen.2 (by decide)
          refine lv_aload_n hx hb dX12_trustsLine_39 rfl (lv_at hl 0 rfl) ?_
          refine lv_iload_n hx hb dX12_trustsLine_40 rfl (lv_at hl 2 rfl) ?_
          refine lv_iload_n hx hb dX12_trustsLine_41 rfl (lv_at hl 3 rfl) ?_
          refine lv_iadd hx hb dX12_trustsLine_42 ?_
          refine zgv (zadd (i := at2_8.toInt) (j := x_10.toInt) rfl rfl (by omega)) (fun x_49 hx_49 => ?_)
          refine mcallV' (g := g) (q0 := 0) (ci := 10) (As := [.int x_49]) (rest := []) St hK hT hA hP hD hS hl.1 [0] [] rfl rfl rfl (m_letterF l g o a th hi ac tp en at2_8 (-1) de iD iO tU fm fk fa fc ft ff fb fi x_49 (by first | assumption | omega | decide | exact Or.inl (by decide) | exact Or.inr (by decide))) (cwV 1 hts (zgL (zl4 k880 k881 k882 k839) k875) rfl rfl rfl (by decide +kernel) ⟨Nat.le_of_ble_eq_true rfl, Nat.le_of_ble_eq_true rfl⟩) rfl rfl rfl rfl (Nat.le_of_ble_eq_true rfl) dX12_trustsLine_43 ⟨(Nat.le_of_ble_eq_true rfl), (Nat.le_of_ble_eq_true rfl)⟩ (fun _u H locs hq50 hP hD hS => ?_)
          have hP : va_P g.1 vwCl (List.flatten [bMo g o a th hi ac tp (-1) en at2_8 (-1) de iD iO tU fm fk fa fc ft ff fb fi]) H := hP
          have hD : va_D A (List.flatten [bMo g o a th hi ac tp (-1) en at2_8 (-1) de iD iO tU fm fk fa fc ft ff fb fi]) := hD
          refine W.widen (k := 0) (n := 0) (Nat.le_of_ble_eq_true rfl) (Nat.le_of_ble_eq_true rfl) ?_
          refine W.eq (g2 := F0 m 46 ls [.int (ft x_49.toNatClampNeg)]) rfl ?_
          refine lv_bipush (v := 48) hx hb dX12_trustsLine_46 (by decide) ?_
          refine lv_bipush (v := 57) hx hb dX12_trustsLine_48 (by decide) ?_
          have hL48 : (48 : Int32).toInt = 48 := by decide
          have hL57 : (57 : Int32).toInt = 57 := by decide
          refine mcallS' (g := g) (As := [.int (ft x_49.toNatClampNeg), .int 48, .int 57]) (rest := []) St hK hT hA hP hD hS hl.1 [] [0] rfl rfl rfl (m_isIn l g (ft x_49.toNatClampNeg) 48 57 ) (va_cwS 3 hts (zgL (zl3 k837 k838 k839) k826) rfl rfl rfl (by decide +kernel) ⟨Nat.le_of_ble_eq_true rfl, Nat.le_of_ble_eq_true rfl⟩) rfl rfl (Nat.le_of_ble_eq_true rfl) dX12_trustsLine_50 ⟨(Nat.le_of_ble_eq_true rfl), (Nat.le_of_ble_eq_true rfl)⟩ (fun q_51 H locs hq52 hP hD hS => ?_)
          replace hq52 : (q_51 = 1 ∧ (48 : Int32).toInt ≤ (ft x_49.toNatClampNeg).toInt ∧ (ft x_49.toNatClampNeg).toInt ≤ (57 : Int32).toInt ∨ q_51 = 0 ∧ ((ft x_49.toNatClampNeg).toInt < (48 : Int32).toInt ∨ (57 : Int32).toInt < (ft x_49.toNatClampNeg).toInt)) := hq52
          have hP : va_P g.1 vwCl (List.flatten [bMo g o a th hi ac tp (-1) en at2_8 (-1) de iD iO tU fm fk fa fc ft ff fb fi]) H := hP
          have hD : va_D A (List.flatten [bMo g o a th hi ac tp (-1) en at2_8 (-1) de iD iO tU fm fk fa fc ft ff fb fi]) := hD
          refine W.widen (k := 0) (n := 0) (Nat.le_of_ble_eq_true rfl) (Nat.le_of_ble_eq_true rfl) ?_
          refine W.eq (g2 := F0 m 53 ls [.int q_51]) rfl ?_
          rcases hq52 with ⟨rfl, hq52_k⟩ | ⟨rfl, hq52_k⟩
          · skip
            refine lv_if_eq (tgt := 62) hx hb dX12_trustsLine_53 (by decide) (fun c53 => absurd c53 (by decide)) (fun _ => ?_)
            refine ziinc3 (n' := 1) (a' := 1) (b' := 401) (lv' := fun v9 => [(3, .int v9), (0, .ref o), (1, .int r_5), (2, .int at2_8)]) hx hb dX12_trustsLine_56 hl (k := 3) rfl (by decide) (fun _ => rfl) (zaddK (i := x_10.toInt) (j := 1) rfl (by decide) i11.1 i11.2 (Int.le_refl _) (Int.le_refl _) (by decide)) (fun x_54 ls hx_54 hl => ?_)
            refine lv_goto (tgt := 21) hx hb dX12_trustsLine_59 (by decide) ?_
            have hl := lv_sub (l' := [(0, .ref o), (1, .int r_5), (2, .int at2_8), (3, .int x_54)]) hl [1, 2, 3, 0] rfl
            have hP : va_P g.1 vwCl (List.flatten [bMo g o a th hi ac tp (-1) en at2_8 (-1) de iD iO tU fm fk fa fc ft ff fb fi]) H := hP
            have hD : va_D A (List.flatten [bMo g o a th hi ac tp (-1) en at2_8 (-1) de iD iO tU fm fk fa fc ft ff fb fi]) := hD
            exact ih21_15 x_54 (by first | omega | assumption | decide) (by first | omega | assumption | decide) (zdg_s x_49 i13 (by omega) (by omega) (by omega) (zcD_t (by omega) (by omega)) (by omega)) H _ ls (by omega)  hP hD hS (lv_sub hl [0, 1, 2, 3] rfl)
          · skip
            refine lv_if_eq (tgt := 62) hx hb dX12_trustsLine_53 (by decide) (fun _ => ?_) (fun c55 => absurd (by decide) c55)
            refine lv_iload_n hx hb dX12_trustsLine_62 rfl (lv_at hl 3 rfl) ?_
            refine lv_aload_n hx hb dX12_trustsLine_63 rfl (lv_at hl 0 rfl) ?_
            refine va_get (D := g.1) (ci := 10) (v := .ref (a 0)) (C := RX12) (T := TX12) (N := 20) hx hb hts izRX12 hown hK hP 0 rfl rfl 1 (by decide) (hts _ k815) (fun _ h9 => h9) rfl dX12_trustsLine_64 ?_
            refine lv_iconst (v := 3) hx hb dX12_trustsLine_67 (by decide) ?_
            refine va_iald hx hb hK hP 1 0 rfl rfl (zin rfl) dX12_trustsLine_68 ?_
            refine zgq (r := fm 3) rfl (rM3 rfm) (fun x_56 hx_56 => ?_)
            refine lv_icmp_eq (tgt := 77) hx hb dX12_trustsLine_69 (by decide) (fun cb9 => ?_) (fun cb9 => ?_)
            · skip
              have c57 : x_10.toInt = x_56.toInt := zeq cb9 rfl rfl
              have n58 : x_10.toInt ≤ 8 := Int.le_trans (Int.le_of_eq c57) hx_56.2.1
              refine lv_aload_n hx hb dX12_trustsLine_77 rfl (lv_at hl 0 rfl) ?_
              refine va_get (D := g.1) (ci := 10) (v := .int (-1)) (C := RX12) (T := TX12) (N := 20) hx hb hts izRX12 hown hK hP 0 rfl rfl 12 (by decide) (hts _ k820) (fun _ h9 => h9) rfl dX12_trustsLine_78 ?_
              refine lv_iconst (v := (-1)) hx hb dX12_trustsLine_81 (by decide) ?_
              refine lv_icmp_eq (tgt := 86) hx hb dX12_trustsLine_82 (by decide) (fun _ => ?_) (fun c59 => absurd (by decide) c59)
              have w60 : 0 ≤ r_5.toInt ∧ r_5.toInt ≤ 7 := by omega
              refine lv_iconst (v := 0) hx hb dX12_trustsLine_86 (by decide) ?_
              refine lv_istore (lv' := [(4, .int 0), (0, .ref o), (1, .int r_5), (2, .int at2_8), (3, .int x_10)]) hx hb dX12_trustsLine_87 hl (by decide) rfl (fun ls hl => ?_)
              have hl := lv_sub (l' := [(0, .ref o), (1, .int r_5), (2, .int at2_8), (3, .int x_10), (4, .int 0)]) hl [1, 2, 3, 4, 0] rfl
              have LP89_65 : ∀ (kf : Nat) (x_61 : Int32) (fm_62 : Nat → Int32), (0 ≤ x_61.toInt ∧ x_61.toInt ≤ 8) → (rM fm_62) → ((fm_62 0).toInt = (fm 0).toInt ∧ (fm_62 3).toInt = (fm 3).toInt ∧ (fm_62 4).toInt = (fm 4).toInt) → ∀ (H : Heap) (locs : List Loc) (ls : Array Slot), ((9 - x_61.toInt).toNat) < kf → va_P g.1 vwCl (List.flatten [bMo g o a th hi ac tp (-1) en at2_8 (-1) de iD iO tU fm_62 fk fa fc ft ff fb fi]) H → va_D A (List.flatten [bMo g o a th hi ac tp (-1) en at2_8 (-1) de iD iO tU fm_62 fk fa fc ft ff fb fi]) → va_S A s.heap H locs → lv_has ls 5 [(0, .ref o), (1, .int r_5), (2, .int at2_8), (3, .int x_10), (4, .int x_61)] → W p l e ({ frames := 4, cells := 0, slots := 0, locals := 85 } : Room) s m args below meth c H locs (0) (0) (zF g (fun u : Int32 × Int32 × (Nat → Int32) => (fun (at2 : Int32) (fl2 : Int32) (fm2 : Nat → Int32) => none) (u.1) (u.2.1) (u.2.2)) (fun u : Int32 × Int32 × (Nat → Int32) => (fun (at2 : Int32) (fl2 : Int32) (fm2 : Nat → Int32) => ((fm2 0).toInt = (fm 0).toInt ∧ (fm2 3).toInt = (fm 3).toInt ∧ (fm2 4).toInt = (fm 4).toInt) ∧ (rM fm2) ∧ (0 ≤ at2.toInt ∧ at2.toInt ≤ en.toInt + 7 - de.toInt) ∧ (tA.toInt ≤ at2.toInt) ∧ ((fm2 0).toInt = (fm 0).toInt) ∧ ((-1) = fl2 ∧ zTO (zKtr ft en.toInt (fm 3).toInt (zbg ft en.toInt tA.toInt)) (zbg ft en.toInt at2.toInt) (fm 3).toInt (fm2 3).toInt (fm 4).toInt (fm2 4).toInt ∨ 0 ≤ fl2.toInt ∧ zKtr ft en.toInt (fm 3).toInt (zbg ft en.toInt tA.toInt) (.bad fl2.toInt))) (u.1) (u.2.1) (u.2.2)) (fun u : Int32 × Int32 × (Nat → Int32) => (fun (at2 : Int32) (fl2 : Int32) (fm2 : Nat → Int32) => [bMo g o a th hi ac tp (-1) en at2 fl2 de iD iO tU fm2 fk fa fc ft ff fb fi]) (u.1) (u.2.1) (u.2.2)) ({ frames := 4, cells := 0, slots := 0, locals := 85 } : Room) below args s A) (F0 m 89 ls []) := by
                intro kf
                induction kf with
                | zero => intro x_61 fm_62 i63 rfm_62 i64 H locs ls hk; exact absurd hk (Nat.not_lt_zero _)
                | succ kf ih89_66 =>
                  intro x_61 fm_62 i63 rfm_62 i64 H locs ls hk89_66 hP hD hS hl
                  refine lv_iload hx hb dX12_trustsLine_89 (lv_at hl 4 rfl) ?_
                  refine lv_iload_n hx hb dX12_trustsLine_91 rfl (lv_at hl 3 rfl) ?_
                  refine lv_icmp_ge (tgt := 127) hx hb dX12_trustsLine_92 (by decide) (fun cb9 => ?_) (fun cb9 => ?_)
                  · skip
                    have c67 : x_10.toInt ≤ x_61.toInt := zle cb9 rfl rfl
                    refine lv_aload_n hx hb dX12_trustsLine_127 rfl (lv_at hl 0 rfl) ?_
                    refine lv_iload_n hx hb dX12_trustsLine_128 rfl (lv_at hl 2 rfl) ?_
                    refine lv_iload_n hx hb dX12_trustsLine_129 rfl (lv_at hl 3 rfl) ?_
                    refine lv_iadd hx hb dX12_trustsLine_130 ?_
                    refine zgv (zadd (i := at2_8.toInt) (j := x_10.toInt) rfl rfl (by omega)) (fun x_68 hx_68 => ?_)
                    refine va_put (D := g.1) (ci := 10) (v := .int x_68) (ty := .int) (C := RX12) (T := TX12) (N := 20) hx hb hts izRX12 tyX12 tyX12_ok nmX12 hown hK hP hD hS 0 rfl rfl 11 (by decide) (hts _ k878) (fun _ h9 => h9) rfl (by decide +kernel) rfl rfl (Nat.le_of_ble_eq_true rfl) dX12_trustsLine_131 (fun H locs hP hD hS => ?_)
                    have hP : va_P g.1 vwCl (List.flatten [bMo g o a th hi ac tp (-1) en x_68 (-1) de iD iO tU fm_62 fk fa fc ft ff fb fi]) H := hP
                    have hD : va_D A (List.flatten [bMo g o a th hi ac tp (-1) en x_68 (-1) de iD iO tU fm_62 fk fa fc ft ff fb fi]) := hD
                    have hP : va_P g.1 vwCl (List.flatten [bMo g o a th hi ac tp (-1) en x_68 (-1) de iD iO tU fm_62 fk fa fc ft ff fb fi]) H := hP
                    have hD : va_D A (List.flatten [bMo g o a th hi ac tp (-1) en x_68 (-1) de iD iO tU fm_62 fk fa fc ft ff fb fi]) := hD
                    exact mret_v hx hb hr hlocks hS (Nat.le_of_ble_eq_true rfl) (Nat.le_of_ble_eq_true rfl) dX12_trustsLine_134 (x_68, -1, fm_62) rfl (show ((fm_62 0).toInt = (fm 0).toInt ∧ (fm_62 3).toInt = (fm 3).toInt ∧ (fm_62 4).toInt = (fm 4).toInt) ∧ (rM fm_62) ∧ (0 ≤ x_68.toInt ∧ x_68.toInt ≤ en.toInt + 7 - de.toInt) ∧ (tA.toInt ≤ x_68.toInt) ∧ ((fm_62 0).toInt = (fm 0).toInt) ∧ ((-1) = (-1) ∧ zTO (zKtr ft en.toInt (fm 3).toInt (zbg ft en.toInt tA.toInt)) (zbg ft en.toInt x_68.toInt) (fm 3).toInt (fm_62 3).toInt (fm 4).toInt (fm_62 4).toInt ∨ 0 ≤ ((-1) : Int32).toInt ∧ zKtr ft en.toInt (fm 3).toInt (zbg ft en.toInt tA.toInt) (.bad ((-1) : Int32).toInt)) from ⟨(by first | assumption | omega | exact Or.inl (by decide) | exact Or.inr (by omega) | decide), (by first | assumption | omega | exact Or.inl (by decide) | exact Or.inr (by omega) | decide), (by first | assumption | omega | exact Or.inl (by decide) | exact Or.inr (by omega) | decide), (by first | assumption | omega | exact Or.inl (by decide) | exact Or.inr (by omega) | decide), (by first | assumption | omega | exact Or.inl (by decide) | exact Or.inr (by omega) | decide), (Or.inl ⟨rfl, ⟨_, zNN_yM (by decide) (by omega) hq6_k (zKt2_b ((zNt_b hq6_km).trans (zbg_sk hq9_2)) (zdg_y (by omega) (by have h9 := hq6_k.2.2.1; have h8 := hq6_k.2.2.2; omega) (zdg_e2 x_49 i13 (by omega) (zcD_f (by omega))) (by omega) (by omega))), zcp_n (by decide) (by omega), zcw_n (by decide) (by omega)⟩⟩)⟩) hP hD
                  · skip
                    have c69 : x_61.toInt < x_10.toInt := zlti (Int32.not_le.mp cb9) rfl rfl
                    have n70 : x_61.toInt ≤ 7 := zL1 (b := 8) c69 n58 (by decide)
                    have n71 : 1 ≤ x_10.toInt := zL2 (a := 0) c69 i63.1 (by decide)
                    refine lv_aload_n hx hb dX12_trustsLine_95 rfl (lv_at hl 0 rfl) ?_
                    refine va_get (D := g.1) (ci := 10) (v := .ref (a 0)) (C := RX12) (T := TX12) (N := 20) hx hb hts izRX12 hown hK hP 0 rfl rfl 1 (by decide) (hts _ k815) (fun _ h9 => h9) rfl dX12_trustsLine_96 ?_
                    refine lv_bipush (v := 51) hx hb dX12_trustsLine_99 (by decide) ?_
                    refine lv_bipush (v := 8) hx hb dX12_trustsLine_101 (by decide) ?_
                    refine lv_iload_n hx hb dX12_trustsLine_103 rfl (lv_at hl 1 rfl) ?_
                    refine lv_imul hx hb dX12_trustsLine_104 ?_
                    refine zg3 (zmulKL (i := r_5.toInt) (n := 8) (a' := 0) (b' := 56) rfl (by decide) w60.1 w60.2 (by decide) (by decide)) (fun x_72 hx_72 => ?_)
                    refine lv_iadd hx hb dX12_trustsLine_105 ?_
                    refine zg3 (zaddK (i := 51) (j := x_72.toInt) (a' := 51) (b' := 107) (by decide) rfl (Int.le_refl _) (Int.le_refl _) hx_72.2.1 hx_72.2.2 (by decide)) (fun x_73 hx_73 => ?_)
                    refine lv_iload hx hb dX12_trustsLine_106 (lv_at hl 4 rfl) ?_
                    refine lv_iadd hx hb dX12_trustsLine_108 ?_
                    refine zg3 (zaddK (i := x_73.toInt) (j := x_61.toInt) (a' := 51) (b' := 114) rfl rfl hx_73.2.1 hx_73.2.2 i63.1 n70 (by decide)) (fun x_74 hx_74 => ?_)
                    refine lv_aload_n hx hb dX12_trustsLine_109 rfl (lv_at hl 0 rfl) ?_
                    refine lv_iload_n hx hb dX12_trustsLine_110 rfl (lv_at hl 2 rfl) ?_
                    refine lv_iload hx hb dX12_trustsLine_111 (lv_at hl 4 rfl) ?_
                    refine lv_iadd hx hb dX12_trustsLine_113 ?_
                    refine zgv (zadd (i := at2_8.toInt) (j := x_61.toInt) rfl rfl (by omega)) (fun x_75 hx_75 => ?_)
                    refine mcallV' (g := g) (q0 := 0) (ci := 10) (As := [.int x_75]) (rest := [.int x_74, .ref (a 0)]) St hK hT hA hP hD hS hl.1 [0] [] rfl rfl rfl (m_letterF l g o a th hi ac tp en at2_8 (-1) de iD iO tU fm_62 fk fa fc ft ff fb fi x_75 (by first | assumption | omega | decide | exact Or.inl (by decide) | exact Or.inr (by decide))) (cwV 1 hts (zgL (zl4 k880 k881 k882 k839) k875) rfl rfl rfl (by decide +kernel) ⟨Nat.le_of_ble_eq_true rfl, Nat.le_of_ble_eq_true rfl⟩) rfl rfl rfl rfl (Nat.le_of_ble_eq_true rfl) dX12_trustsLine_114 ⟨(Nat.le_of_ble_eq_true rfl), (Nat.le_of_ble_eq_true rfl)⟩ (fun _u H locs hq76 hP hD hS => ?_)
                    have hP : va_P g.1 vwCl (List.flatten [bMo g o a th hi ac tp (-1) en at2_8 (-1) de iD iO tU fm_62 fk fa fc ft ff fb fi]) H := hP
                    have hD : va_D A (List.flatten [bMo g o a th hi ac tp (-1) en at2_8 (-1) de iD iO tU fm_62 fk fa fc ft ff fb fi]) := hD
                    refine W.widen (k := 0) (n := 0) (Nat.le_of_ble_eq_true rfl) (Nat.le_of_ble_eq_true rfl) ?_
                    refine W.eq (g2 := F0 m 117 ls [.int (ft x_75.toNatClampNeg), .int x_74, .ref (a 0)]) rfl ?_
                    refine lv_bipush (v := 48) hx hb dX12_trustsLine_117 (by decide) ?_
                    refine lv_isub hx hb dX12_trustsLine_119 ?_
                    refine zg (fun x_77 => ?_)
                    refine va_iast hx hb hK hP hD hS 1 0 rfl rfl (zinK (a := 51) (b := 114) hx_74.2.1 hx_74.2.2 (by decide)) dX12_trustsLine_120 (fun H locs hP hD hS => ?_)
                    obtain ⟨fm_78, rfm_78, hkfm_78, hP, hD⟩ : ∃ fm_78 : Nat → Int32, rM fm_78 ∧ ((fm_78 0).toInt = (fm_62 0).toInt ∧ (fm_78 3).toInt = (fm_62 3).toInt ∧ (fm_78 4).toInt = (fm_62 4).toInt) ∧ va_P g.1 vwCl (List.flatten [bMo g o a th hi ac tp (-1) en at2_8 (-1) de iD iO tU fm_78 fk fa fc ft ff fb fi]) H ∧ va_D A (List.flatten [bMo g o a th hi ac tp (-1) en at2_8 (-1) de iD iO tU fm_78 fk fa fc ft ff fb fi]) := ⟨upd fm_62 x_74.toNatClampNeg x_77, (rM_stB rfm_62 (Int.le_trans (by decide) hx_74.2.1)), (zkpG (by omega)), hP, hD⟩
                    refine ziinc3 (n' := 1) (a' := 1) (b' := 8) (lv' := fun v9 => [(4, .int v9), (0, .ref o), (1, .int r_5), (2, .int at2_8), (3, .int x_10)]) hx hb dX12_trustsLine_121 hl (k := 4) rfl (by decide) (fun _ => rfl) (zaddK (i := x_61.toInt) (j := 1) rfl (by decide) i63.1 n70 (Int.le_refl _) (Int.le_refl _) (by decide)) (fun x_79 ls hx_79 hl => ?_)
                    refine lv_goto (tgt := 89) hx hb dX12_trustsLine_124 (by decide) ?_
                    have hl := lv_sub (l' := [(0, .ref o), (1, .int r_5), (2, .int at2_8), (3, .int x_10), (4, .int x_79)]) hl [1, 2, 3, 4, 0] rfl
                    have hP : va_P g.1 vwCl (List.flatten [bMo g o a th hi ac tp (-1) en at2_8 (-1) de iD iO tU fm_78 fk fa fc ft ff fb fi]) H := hP
                    have hD : va_D A (List.flatten [bMo g o a th hi ac tp (-1) en at2_8 (-1) de iD iO tU fm_78 fk fa fc ft ff fb fi]) := hD
                    exact ih89_66 x_79 fm_78 ⟨(Int.le_trans (by decide) hx_79.2.1), hx_79.2.2⟩ rfm_78 (by first | omega | assumption | decide) H _ ls (zmK hx_79.1 (by decide) n70 (by decide) hk89_66)  hP hD hS (lv_sub hl [0, 1, 2, 3, 4] rfl)
              have hP : va_P g.1 vwCl (List.flatten [bMo g o a th hi ac tp (-1) en at2_8 (-1) de iD iO tU fm fk fa fc ft ff fb fi]) H := hP
              have hD : va_D A (List.flatten [bMo g o a th hi ac tp (-1) en at2_8 (-1) de iD iO tU fm fk fa fc ft ff fb fi]) := hD
              exact LP89_65 _ 0 fm (by decide) rfm (by first | omega | assumption | decide) H _ ls (Nat.lt_succ_self _)  hP hD hS (lv_sub hl [0, 1, 2, 3, 4] rfl)
            · skip
              have c80 : ¬ x_10.toInt = x_56.toInt := zne cb9 rfl rfl
              refine lv_aload_n hx hb dX12_trustsLine_72 rfl (lv_at hl 0 rfl) ?_
              refine lv_iload_n hx hb dX12_trustsLine_73 rfl (lv_at hl 2 rfl) ?_
              refine mcallV' (g := g) (q0 := 0) (ci := 10) (As := [.int at2_8]) (rest := []) St hK hT hA hP hD hS hl.1 [0] [] rfl rfl rfl (m_wrongF l g o a th hi ac tp (-1) en at2_8 de iD iO tU fm fk fa fc ft ff fb fi at2_8 ) (cwV 1 hts (zgL (zl4 k895 k896 k897 k839) k890) rfl rfl rfl (by decide +kernel) ⟨Nat.le_of_ble_eq_true rfl, Nat.le_of_ble_eq_true rfl⟩) rfl rfl rfl rfl (Nat.le_of_ble_eq_true rfl) dX12_trustsLine_74 ⟨(Nat.le_of_ble_eq_true rfl), (Nat.le_of_ble_eq_true rfl)⟩ (fun _u H locs hq81 hP hD hS => ?_)
              have hP : va_P g.1 vwCl (List.flatten [bMo g o a th hi ac tp (-1) en at2_8 at2_8 de iD iO tU fm fk fa fc ft ff fb fi]) H := hP
              have hD : va_D A (List.flatten [bMo g o a th hi ac tp (-1) en at2_8 at2_8 de iD iO tU fm fk fa fc ft ff fb fi]) := hD
              refine W.widen (k := 0) (n := 0) (Nat.le_of_ble_eq_true rfl) (Nat.le_of_ble_eq_true rfl) ?_
              refine W.eq (g2 := F0 m 77 ls []) rfl ?_
              refine lv_aload_n hx hb dX12_trustsLine_77 rfl (lv_at hl 0 rfl) ?_
              refine va_get (D := g.1) (ci := 10) (v := .int at2_8) (C := RX12) (T := TX12) (N := 20) hx hb hts izRX12 hown hK hP 0 rfl rfl 12 (by decide) (hts _ k820) (fun _ h9 => h9) rfl dX12_trustsLine_78 ?_
              refine lv_iconst (v := (-1)) hx hb dX12_trustsLine_81 (by decide) ?_
              refine lv_icmp_eq (tgt := 86) hx hb dX12_trustsLine_82 (by decide) (fun cb9 => ?_) (fun cb9 => ?_)
              · skip
                exact absurd (show at2_8.toInt = (-1) from zeq cb9 rfl (by decide)) (by omega)
              · skip
                have c83 : ¬ at2_8.toInt = (-1) := zne cb9 rfl (by decide)
                have hP : va_P g.1 vwCl (List.flatten [bMo g o a th hi ac tp (-1) en at2_8 at2_8 de iD iO tU fm fk fa fc ft ff fb fi]) H := hP
                have hD : va_D A (List.flatten [bMo g o a th hi ac tp (-1) en at2_8 at2_8 de iD iO tU fm fk fa fc ft ff fb fi]) := hD
                exact mret_v hx hb hr hlocks hS (Nat.le_of_ble_eq_true rfl) (Nat.le_of_ble_eq_true rfl) dX12_trustsLine_85 (at2_8, at2_8, fm) rfl (show ((fm 0).toInt = (fm 0).toInt ∧ (fm 3).toInt = (fm 3).toInt ∧ (fm 4).toInt = (fm 4).toInt) ∧ (rM fm) ∧ (0 ≤ at2_8.toInt ∧ at2_8.toInt ≤ en.toInt + 7 - de.toInt) ∧ (tA.toInt ≤ at2_8.toInt) ∧ ((fm 0).toInt = (fm 0).toInt) ∧ ((-1) = at2_8 ∧ zTO (zKtr ft en.toInt (fm 3).toInt (zbg ft en.toInt tA.toInt)) (zbg ft en.toInt at2_8.toInt) (fm 3).toInt (fm 3).toInt (fm 4).toInt (fm 4).toInt ∨ 0 ≤ at2_8.toInt ∧ zKtr ft en.toInt (fm 3).toInt (zbg ft en.toInt tA.toInt) (.bad at2_8.toInt)) from ⟨(by first | assumption | omega | exact Or.inl (by decide) | exact Or.inr (by omega) | decide), (by first | assumption | omega | exact Or.inl (by decide) | exact Or.inr (by omega) | decide), (by first | assumption | omega | exact Or.inl (by decide) | exact Or.inr (by omega) | decide), (by first | assumption | omega | exact Or.inl (by decide) | exact Or.inr (by omega) | decide), (by first | assumption | omega | exact Or.inl (by decide) | exact Or.inr (by omega) | decide), (Or.inr ⟨(by omega), zNN_yM (by decide) (by omega) hq6_k (zKt2_bn ((zNt_b hq6_km).trans (zbg_sk hq9_2)) (zdg_n (by omega) (by omega) (zdg_e2 x_49 i13 (by omega) (zcD_f (by omega))) (by omega) rfl))⟩)⟩) hP hD
    have hP : va_P g.1 vwCl (List.flatten [bMo g o a th hi ac tp (-1) en at2_8 (-1) de iD iO tU fm fk fa fc ft ff fb fi]) H := hP
    have hD : va_D A (List.flatten [bMo g o a th hi ac tp (-1) en at2_8 (-1) de iD iO tU fm fk fa fc ft ff fb fi]) := hD
    exact LP21_14 _ 0 (by decide) (by first | omega | assumption | decide) (zdg_0 (by decide)) H _ ls (Nat.lt_succ_self _)  hP hD hS (lv_sub hl [0, 1, 2, 3] rfl)
  · skip
    have w84 : 0 ≤ fl2_4.toInt := zB0 hq6_k
    refine lv_istore_n (lv' := [(1, .int r_5), (0, .ref o)]) hx hb dX12_trustsLine_13 rfl hl (by decide) rfl (fun ls hl => ?_)
    refine lv_aload_n hx hb dX12_trustsLine_14 rfl (lv_at hl 1 rfl) ?_
    refine mcallV' (g := g) (q0 := 0) (ci := 10) (As := []) (rest := []) St hK hT hA hP hD hS hl.1 [0] [] rfl rfl rfl (m_hereF l g o a th hi ac tp en at2_3 fl2_4 de iD iO tU fm fk fa fc ft ff fb fi hen hq6_0 hde) (cwV 0 hts (zgL (zl4 k892 k893 k894 k839) k891) rfl rfl rfl (by decide +kernel) ⟨Nat.le_of_ble_eq_true rfl, Nat.le_of_ble_eq_true rfl⟩) rfl rfl rfl rfl (Nat.le_of_ble_eq_true rfl) dX12_trustsLine_15 ⟨(Nat.le_of_ble_eq_true rfl), (Nat.le_of_ble_eq_true rfl)⟩ (fun at2_85 H locs hq86 hP hD hS => ?_)
    replace hq86 : (0 ≤ at2_85.toInt ∧ at2_85.toInt ≤ en.toInt + 7 - de.toInt) ∧ (at2_3.toInt ≤ at2_85.toInt) ∧ (zSk ft en.toInt at2_3.toInt at2_85.toInt) := hq86
    have hP : va_P g.1 vwCl (List.flatten [bMo g o a th hi ac tp (-1) en at2_85 fl2_4 de iD iO tU fm fk fa fc ft ff fb fi]) H := hP
    have hD : va_D A (List.flatten [bMo g o a th hi ac tp (-1) en at2_85 fl2_4 de iD iO tU fm fk fa fc ft ff fb fi]) := hD
    refine W.widen (k := 0) (n := 0) (Nat.le_of_ble_eq_true rfl) (Nat.le_of_ble_eq_true rfl) ?_
    refine W.eq (g2 := F0 m 18 ls [.int at2_85]) rfl ?_
    obtain ⟨hq86_0, hq86_1, hq86_2⟩ := hq86
    refine lv_istore_n (lv' := [(2, .int at2_85), (1, .int r_5), (0, .ref o)]) hx hb dX12_trustsLine_18 rfl hl (by decide) rfl (fun ls hl => ?_)
    refine lv_iconst (v := 0) hx hb dX12_trustsLine_19 (by decide) ?_
    refine lv_istore_n (lv' := [(3, .int 0), (2, .int at2_85), (1, .int r_5), (0, .ref o)]) hx hb dX12_trustsLine_20 rfl hl (by decide) rfl (fun ls hl => ?_)
    have hl := lv_sub (l' := [(0, .ref o), (1, .int r_5), (2, .int at2_85), (3, .int 0)]) hl [3, 2, 1, 0] rfl
    have LP21_91 : ∀ (kf : Nat) (x_87 : Int32), (0 ≤ x_87.toInt ∧ x_87.toInt ≤ 400) → (x_87.toInt = 0 ∨ at2_85.toInt + x_87.toInt ≤ en.toInt) → (zw zcD ft en.toInt.toNat at2_85.toInt.toNat = zw zcD ft en.toInt.toNat (at2_85.toInt + x_87.toInt).toNat) → ∀ (H : Heap) (locs : List Loc) (ls : Array Slot), ((400 - x_87.toInt).toNat) < kf → va_P g.1 vwCl (List.flatten [bMo g o a th hi ac tp (-1) en at2_85 fl2_4 de iD iO tU fm fk fa fc ft ff fb fi]) H → va_D A (List.flatten [bMo g o a th hi ac tp (-1) en at2_85 fl2_4 de iD iO tU fm fk fa fc ft ff fb fi]) → va_S A s.heap H locs → lv_has ls 5 [(0, .ref o), (1, .int r_5), (2, .int at2_85), (3, .int x_87)] → W p l e ({ frames := 4, cells := 0, slots := 0, locals := 85 } : Room) s m args below meth c H locs (0) (0) (zF g (fun u : Int32 × Int32 × (Nat → Int32) => (fun (at2 : Int32) (fl2 : Int32) (fm2 : Nat → Int32) => none) (u.1) (u.2.1) (u.2.2)) (fun u : Int32 × Int32 × (Nat → Int32) => (fun (at2 : Int32) (fl2 : Int32) (fm2 : Nat → Int32) => ((fm2 0).toInt = (fm 0).toInt ∧ (fm2 3).toInt = (fm 3).toInt ∧ (fm2 4).toInt = (fm 4).toInt) ∧ (rM fm2) ∧ (0 ≤ at2.toInt ∧ at2.toInt ≤ en.toInt + 7 - de.toInt) ∧ (tA.toInt ≤ at2.toInt) ∧ ((fm2 0).toInt = (fm 0).toInt) ∧ ((-1) = fl2 ∧ zTO (zKtr ft en.toInt (fm 3).toInt (zbg ft en.toInt tA.toInt)) (zbg ft en.toInt at2.toInt) (fm 3).toInt (fm2 3).toInt (fm 4).toInt (fm2 4).toInt ∨ 0 ≤ fl2.toInt ∧ zKtr ft en.toInt (fm 3).toInt (zbg ft en.toInt tA.toInt) (.bad fl2.toInt))) (u.1) (u.2.1) (u.2.2)) (fun u : Int32 × Int32 × (Nat → Int32) => (fun (at2 : Int32) (fl2 : Int32) (fm2 : Nat → Int32) => [bMo g o a th hi ac tp (-1) en at2 fl2 de iD iO tU fm2 fk fa fc ft ff fb fi]) (u.1) (u.2.1) (u.2.2)) ({ frames := 4, cells := 0, slots := 0, locals := 85 } : Room) below args s A) (F0 m 21 ls []) := by
      intro kf
      induction kf with
      | zero => intro x_87 i88 i89 i90 H locs ls hk; exact absurd hk (Nat.not_lt_zero _)
      | succ kf ih21_92 =>
        intro x_87 i88 i89 i90 H locs ls hk21_92 hP hD hS hl
        refine lv_aload_n hx hb dX12_trustsLine_21 rfl (lv_at hl 0 rfl) ?_
        refine va_get (D := g.1) (ci := 10) (v := .int fl2_4) (C := RX12) (T := TX12) (N := 20) hx hb hts izRX12 hown hK hP 0 rfl rfl 12 (by decide) (hts _ k820) (fun _ h9 => h9) rfl dX12_trustsLine_22 ?_
        refine lv_iconst (v := (-1)) hx hb dX12_trustsLine_25 (by decide) ?_
        refine lv_icmp_ne (tgt := 62) hx hb dX12_trustsLine_26 (by decide) (fun cb9 => ?_) (fun cb9 => ?_)
        · skip
          have c93 : ¬ fl2_4.toInt = (-1) := zne cb9 rfl (by decide)
          refine lv_iload_n hx hb dX12_trustsLine_62 rfl (lv_at hl 3 rfl) ?_
          refine lv_aload_n hx hb dX12_trustsLine_63 rfl (lv_at hl 0 rfl) ?_
          refine va_get (D := g.1) (ci := 10) (v := .ref (a 0)) (C := RX12) (T := TX12) (N := 20) hx hb hts izRX12 hown hK hP 0 rfl rfl 1 (by decide) (hts _ k815) (fun _ h9 => h9) rfl dX12_trustsLine_64 ?_
          refine lv_iconst (v := 3) hx hb dX12_trustsLine_67 (by decide) ?_
          refine va_iald hx hb hK hP 1 0 rfl rfl (zin rfl) dX12_trustsLine_68 ?_
          refine zgq (r := fm 3) rfl (rM3 rfm) (fun x_94 hx_94 => ?_)
          refine lv_icmp_eq (tgt := 77) hx hb dX12_trustsLine_69 (by decide) (fun cb9 => ?_) (fun cb9 => ?_)
          · skip
            have c95 : x_87.toInt = x_94.toInt := zeq cb9 rfl rfl
            have n96 : x_87.toInt ≤ 8 := Int.le_trans (Int.le_of_eq c95) hx_94.2.1
            refine lv_aload_n hx hb dX12_trustsLine_77 rfl (lv_at hl 0 rfl) ?_
            refine va_get (D := g.1) (ci := 10) (v := .int fl2_4) (C := RX12) (T := TX12) (N := 20) hx hb hts izRX12 hown hK hP 0 rfl rfl 12 (by decide) (hts _ k820) (fun _ h9 => h9) rfl dX12_trustsLine_78 ?_
            refine lv_iconst (v := (-1)) hx hb dX12_trustsLine_81 (by decide) ?_
            refine lv_icmp_eq (tgt := 86) hx hb dX12_trustsLine_82 (by decide) (fun cb9 => ?_) (fun cb9 => ?_)
            · skip
              exact absurd (show fl2_4.toInt = (-1) from zeq cb9 rfl (by decide)) (zDeq2 (a := 0) (b := (-1)) w84 (Int.le_refl _) (by decide))
            · skip
              have c98 : ¬ fl2_4.toInt = (-1) := zne cb9 rfl (by decide)
              have hP : va_P g.1 vwCl (List.flatten [bMo g o a th hi ac tp (-1) en at2_85 fl2_4 de iD iO tU fm fk fa fc ft ff fb fi]) H := hP
              have hD : va_D A (List.flatten [bMo g o a th hi ac tp (-1) en at2_85 fl2_4 de iD iO tU fm fk fa fc ft ff fb fi]) := hD
              exact mret_v hx hb hr hlocks hS (Nat.le_of_ble_eq_true rfl) (Nat.le_of_ble_eq_true rfl) dX12_trustsLine_85 (at2_85, fl2_4, fm) rfl (show ((fm 0).toInt = (fm 0).toInt ∧ (fm 3).toInt = (fm 3).toInt ∧ (fm 4).toInt = (fm 4).toInt) ∧ (rM fm) ∧ (0 ≤ at2_85.toInt ∧ at2_85.toInt ≤ en.toInt + 7 - de.toInt) ∧ (tA.toInt ≤ at2_85.toInt) ∧ ((fm 0).toInt = (fm 0).toInt) ∧ ((-1) = fl2_4 ∧ zTO (zKtr ft en.toInt (fm 3).toInt (zbg ft en.toInt tA.toInt)) (zbg ft en.toInt at2_85.toInt) (fm 3).toInt (fm 3).toInt (fm 4).toInt (fm 4).toInt ∨ 0 ≤ fl2_4.toInt ∧ zKtr ft en.toInt (fm 3).toInt (zbg ft en.toInt tA.toInt) (.bad fl2_4.toInt)) from ⟨(by first | assumption | omega | exact Or.inl (by decide) | exact Or.inr (by omega) | decide), (by first | assumption | omega | exact Or.inl (by decide) | exact Or.inr (by omega) | decide), (by first | assumption | omega | exact Or.inl (by decide) | exact Or.inr (by omega) | decide), (by first | assumption | omega | exact Or.inl (by decide) | exact Or.inr (by omega) | decide), (by first | assumption | omega | exact Or.inl (by decide) | exact Or.inr (by omega) | decide), (Or.inr ⟨(by omega), zNN_bM (by decide) (by omega) hq6_km hq6_k⟩)⟩) hP hD
          · skip
            have c99 : ¬ x_87.toInt = x_94.toInt := zne cb9 rfl rfl
            refine lv_aload_n hx hb dX12_trustsLine_72 rfl (lv_at hl 0 rfl) ?_
            refine lv_iload_n hx hb dX12_trustsLine_73 rfl (lv_at hl 2 rfl) ?_
            refine mcallV' (g := g) (q0 := 0) (ci := 10) (As := [.int at2_85]) (rest := []) St hK hT hA hP hD hS hl.1 [0] [] rfl rfl rfl (m_wrongX l g o a th hi ac tp (-1) en at2_85 fl2_4 de iD iO tU fm fk fa fc ft ff fb fi at2_85 w84) (cwV 1 hts (zgL (zl4 k895 k896 k897 k839) k890) rfl rfl rfl (by decide +kernel) ⟨Nat.le_of_ble_eq_true rfl, Nat.le_of_ble_eq_true rfl⟩) rfl rfl rfl rfl (Nat.le_of_ble_eq_true rfl) dX12_trustsLine_74 ⟨(Nat.le_of_ble_eq_true rfl), (Nat.le_of_ble_eq_true rfl)⟩ (fun _u H locs hq100 hP hD hS => ?_)
            have hP : va_P g.1 vwCl (List.flatten [bMo g o a th hi ac tp (-1) en at2_85 fl2_4 de iD iO tU fm fk fa fc ft ff fb fi]) H := hP
            have hD : va_D A (List.flatten [bMo g o a th hi ac tp (-1) en at2_85 fl2_4 de iD iO tU fm fk fa fc ft ff fb fi]) := hD
            refine W.widen (k := 0) (n := 0) (Nat.le_of_ble_eq_true rfl) (Nat.le_of_ble_eq_true rfl) ?_
            refine W.eq (g2 := F0 m 77 ls []) rfl ?_
            refine lv_aload_n hx hb dX12_trustsLine_77 rfl (lv_at hl 0 rfl) ?_
            refine va_get (D := g.1) (ci := 10) (v := .int fl2_4) (C := RX12) (T := TX12) (N := 20) hx hb hts izRX12 hown hK hP 0 rfl rfl 12 (by decide) (hts _ k820) (fun _ h9 => h9) rfl dX12_trustsLine_78 ?_
            refine lv_iconst (v := (-1)) hx hb dX12_trustsLine_81 (by decide) ?_
            refine lv_icmp_eq (tgt := 86) hx hb dX12_trustsLine_82 (by decide) (fun cb9 => ?_) (fun cb9 => ?_)
            · skip
              exact absurd (show fl2_4.toInt = (-1) from zeq cb9 rfl (by decide)) (zDeq2 (a := 0) (b := (-1)) w84 (Int.le_refl _) (by decide))
            · skip
              have c102 : ¬ fl2_4.toInt = (-1) := zne cb9 rfl (by decide)
              have hP : va_P g.1 vwCl (List.flatten [bMo g o a th hi ac tp (-1) en at2_85 fl2_4 de iD iO tU fm fk fa fc ft ff fb fi]) H := hP
              have hD : va_D A (List.flatten [bMo g o a th hi ac tp (-1) en at2_85 fl2_4 de iD iO tU fm fk fa fc ft ff fb fi]) := hD
              exact mret_v hx hb hr hlocks hS (Nat.le_of_ble_eq_true rfl) (Nat.le_of_ble_eq_true rfl) dX12_trustsLine_85 (at2_85, fl2_4, fm) rfl (show ((fm 0).toInt = (fm 0).toInt ∧ (fm 3).toInt = (fm 3).toInt ∧ (fm 4).toInt = (fm 4).toInt) ∧ (rM fm) ∧ (0 ≤ at2_85.toInt ∧ at2_85.toInt ≤ en.toInt + 7 - de.toInt) ∧ (tA.toInt ≤ at2_85.toInt) ∧ ((fm 0).toInt = (fm 0).toInt) ∧ ((-1) = fl2_4 ∧ zTO (zKtr ft en.toInt (fm 3).toInt (zbg ft en.toInt tA.toInt)) (zbg ft en.toInt at2_85.toInt) (fm 3).toInt (fm 3).toInt (fm 4).toInt (fm 4).toInt ∨ 0 ≤ fl2_4.toInt ∧ zKtr ft en.toInt (fm 3).toInt (zbg ft en.toInt tA.toInt) (.bad fl2_4.toInt)) from ⟨(by first | assumption | omega | exact Or.inl (by decide) | exact Or.inr (by omega) | decide), (by first | assumption | omega | exact Or.inl (by decide) | exact Or.inr (by omega) | decide), (by first | assumption | omega | exact Or.inl (by decide) | exact Or.inr (by omega) | decide), (by first | assumption | omega | exact Or.inl (by decide) | exact Or.inr (by omega) | decide), (by first | assumption | omega | exact Or.inl (by decide) | exact Or.inr (by omega) | decide), (Or.inr ⟨(by omega), zNN_bM (by decide) (by omega) hq6_km hq6_k⟩)⟩) hP hD
        · skip
          exact absurd (show fl2_4.toInt = (-1) from zeq cb9 rfl (by decide)) (zDeq2 (a := 0) (b := (-1)) w84 (Int.le_refl _) (by decide))
    have hP : va_P g.1 vwCl (List.flatten [bMo g o a th hi ac tp (-1) en at2_85 fl2_4 de iD iO tU fm fk fa fc ft ff fb fi]) H := hP
    have hD : va_D A (List.flatten [bMo g o a th hi ac tp (-1) en at2_85 fl2_4 de iD iO tU fm fk fa fc ft ff fb fi]) := hD
    exact LP21_91 _ 0 (by decide) (by first | omega | assumption | decide) (zdg_0 (by decide)) H _ ls (Nat.lt_succ_self _)  hP hD hS (lv_sub hl [0, 1, 2, 3] rfl)
