/-! THE TAPE'S BYTES: what feed lays, what tales are, how far they lead -/
def zsh : Nat → Int32
  | 0 => 24
  | 1 => 16
  | 2 => 8
  | _ => 0
def zbyte (v : Int32) (j : Nat) : Int32 := ((v : Int32).toUInt32 >>> ((zsh j : Int32).toUInt32 &&& Int32.toUInt32 31)).toInt32 &&& 255
def zb20 (a b c d e : Int32) (j : Nat) : Int32 := zbyte (if j < 4 then a else if j < 8 then b else if j < 12 then c else if j < 16 then d else e) (j % 4)
/-- behind n bytes that stay, k new ones -/
def zfp (f0 f : Nat → Int32) (n k : Nat) (b : Nat → Int32) : Prop := (∀ i, i < n → f i = f0 i) ∧ (∀ j, j < k → f (n + j) = b j) ∧ ∀ i, n + k ≤ i → f i = f0 i
theorem zfp0 (f : Nat → Int32) (n : Nat) (b : Nat → Int32) : zfp f f n 0 b := ⟨fun _ _ => rfl, fun j hj => absurd hj (Nat.not_lt_zero j), fun _ _ => rfl⟩
theorem zfp_s {f0 f : Nat → Int32} {n k : Nat} {b : Nat → Int32} {x v : Int32} (h : zfp f0 f n k b) (hx : x.toInt = (n : Int) + k) (hv : v = b k) : zfp f0 (upd f x.toNatClampNeg v) n (k + 1) b := by
  have e : x.toNatClampNeg = n + k := by rw [zcl]; omega
  rw [e]
  refine ⟨fun i hi => ?_, fun j hj => ?_, fun i hi => ?_⟩
  · show upd f (n + k) v i = f0 i
    unfold upd
    rw [if_neg (by omega)]; exact h.1 i hi
  · show upd f (n + k) v (n + j) = b j
    unfold upd
    by_cases q : j = k
    · rw [if_pos (by omega), q]; exact hv
    · rw [if_neg (by omega)]; exact h.2.1 j (by omega)
  · show upd f (n + k) v i = f0 i
    unfold upd
    rw [if_neg (by omega)]; exact h.2.2 i (by omega)
theorem zfp_add {f0 f f' : Nat → Int32} {n k : Nat} {b b' : Nat → Int32} (h : zfp f0 f n k b) (h' : zfp f f' (n + k) 4 b') (e : ∀ j, j < 4 → b (k + j) = b' j) : zfp f0 f' n (k + 4) b := by
  refine ⟨fun i hi => (h'.1 i (by omega)).trans (h.1 i hi), fun j hj => ?_, fun i hi => (h'.2.2 i (by omega)).trans (h.2.2 i (by omega))⟩
  rcases Nat.lt_or_ge j k with q | q
  · exact (h'.1 (n + j) (by omega)).trans (h.2.1 j q)
  · have := h'.2.1 (j - k) (by omega)
    rw [show n + k + (j - k) = n + j by omega] at this
    rw [this, ← e (j - k) (by omega), show k + (j - k) = j by omega]
theorem zfeedF {z t : Int} {f f' f2 f2' : Nat → Int32} {b : Nat → Int32} (h : f = f') (hz : z = t) (g : (380 < z → f2 = f) ∧ (z ≤ 380 → zfp f f2 z.toNat 20 b)) (g' : (380 < t → f2' = f') ∧ (t ≤ 380 → zfp f' f2' t.toNat 20 b)) : f2 = f2' := by
  subst hz h
  rcases Int.lt_or_le 380 z with c | c
  · rw [g.1 c, g'.1 c]
  · funext i
    have a := g.2 c
    have a' := g'.2 c
    rcases Nat.lt_or_ge i z.toNat with q | q
    · rw [a.1 i q, a'.1 i q]
    · rcases Nat.lt_or_ge i (z.toNat + 20) with r | r
      · have e1 := a.2.1 (i - z.toNat) (by omega)
        have e2 := a'.2.1 (i - z.toNat) (by omega)
        rw [show z.toNat + (i - z.toNat) = i by omega] at e1 e2
        rw [e1, e2]
      · rw [a.2.2 i r, a'.2.2 i r]
theorem zb4 {p : Nat → Prop} (h0 : p 0) (h1 : p 1) (h2 : p 2) (h3 : p 3) : ∀ j, j < 4 → p j := by
  intro j hj
  rcases (show j = 0 ∨ j = 1 ∨ j = 2 ∨ j = 3 by omega) with rfl | rfl | rfl | rfl <;> assumption
def zfeed (z : Int) (f f2 : Nat → Int32) (b : Nat → Int32) : Prop := (380 < z → f2 = f) ∧ (z ≤ 380 → zfp f f2 z.toNat 20 b)
theorem zfeed5 {z z1 z2 z3 z4 : Int} {f f1 f2 f3 f4 f5 : Nat → Int32} {a b c d e : Int32} (h0 : 0 ≤ z) (hz : z ≤ 380) (e1 : z1 = z + 4) (e2 : z2 = z1 + 4) (e3 : z3 = z2 + 4) (e4 : z4 = z3 + 4)
    (g1 : zfp f f1 z.toNat 4 (zbyte a)) (g2 : zfp f1 f2 z1.toNat 4 (zbyte b)) (g3 : zfp f2 f3 z2.toNat 4 (zbyte c)) (g4 : zfp f3 f4 z3.toNat 4 (zbyte d)) (g5 : zfp f4 f5 z4.toNat 4 (zbyte e)) : zfeed z f f5 (zb20 a b c d e) := by
  refine ⟨fun h => absurd h (by omega), fun _ => ?_⟩
  rw [show z1.toNat = z.toNat + 4 by omega] at g2
  rw [show z2.toNat = z.toNat + 8 by omega] at g3
  rw [show z3.toNat = z.toNat + 12 by omega] at g4
  rw [show z4.toNat = z.toNat + 16 by omega] at g5
  have k0 := zfp0 f z.toNat (zb20 a b c d e)
  have k1 := zfp_add k0 g1 (zb4 rfl rfl rfl rfl)
  have k2 := zfp_add k1 g2 (zb4 rfl rfl rfl rfl)
  have k3 := zfp_add k2 g3 (zb4 rfl rfl rfl rfl)
  have k4 := zfp_add k3 g4 (zb4 rfl rfl rfl rfl)
  exact zfp_add k4 g5 (zb4 rfl rfl rfl rfl)
/-- two tapes of one content -/
def zRT (z : Int) (f f' : Nat → Int32) : Prop := ∀ i : Nat, (i : Int) < z → f i = f' i
theorem zRT0 (f f' : Nat → Int32) : zRT 0 f f' := fun i h => absurd h (by omega)
theorem zRT_le {z z2 : Int} {f f' : Nat → Int32} (h : zRT z f f') (e : z2 ≤ z) : zRT z2 f f' := fun i hi => h i (by omega)
theorem zRT_feed {z z2 t t2 : Int} {f f' f2 f2' : Nat → Int32} {b : Nat → Int32} (h : zRT z f f') (hz : z = t) (g : zfeed z f f2 b) (g' : zfeed t f' f2' b) (h0 : 0 ≤ z) (e : (380 < z → z2 = z) ∧ (z ≤ 380 → z2 = z + 20)) : zRT z2 f2 f2' := by
  subst hz
  rcases Int.lt_or_le 380 z with c | c
  · rw [g.1 c, g'.1 c, e.1 c]; exact h
  · intro i hi
    rw [e.2 c] at hi
    rcases Nat.lt_or_ge i z.toNat with q | q
    · rw [(g.2 c).1 i q, (g'.2 c).1 i q]; exact h i (by omega)
    · have a1 := (g.2 c).2.1 (i - z.toNat) (by omega)
      have a2 := (g'.2 c).2.1 (i - z.toNat) (by omega)
      rw [show z.toNat + (i - z.toNat) = i by omega] at a1 a2
      rw [a1, a2]
/-- the first n are 0 or 1 -/
def zAl (f : Nat → Int32) (n : Int) : Prop := ∀ i : Nat, (i : Int) < n → (f i).toInt ≤ 1
theorem zAl0 (f : Nat → Int32) : zAl f 0 := fun i h => absurd h (by omega)
theorem zAl_s {f : Nat → Int32} {x : Int32} {k k' : Int} (h : zAl f k) (hx : x.toInt = k) (h0 : 0 ≤ k) (e : k' = k + 1) (hv : (f x.toNatClampNeg).toInt ≤ 1) : zAl f k' := by
  intro i hi
  rcases (show (i : Int) < k ∨ i = k.toNat by omega) with q | q
  · exact h i q
  · rw [zcl, hx] at hv; rw [q]; exact hv
theorem zAl_n {f : Nat → Int32} {x : Int32} {n : Int} (h0 : 0 ≤ x.toInt) (h1 : x.toInt < n) (hv : 1 < (f x.toNatClampNeg).toInt) : ¬ zAl f n := fun h => by
  have := h x.toInt.toNat (by omega)
  rw [zcl] at hv; omega
theorem zAl_e {f : Nat → Int32} {k n : Int} (h : zAl f k) (e : n ≤ k) : zAl f n := fun i hi => h i (by omega)
theorem zAl_R {z n : Int} {f f' : Nat → Int32} (h : zRT z f f') (e : n ≤ z) : zAl f n ↔ zAl f' n := ⟨fun q i hi => by rw [← h i (by omega)]; exact q i hi, fun q i hi => by rw [h i (by omega)]; exact q i hi⟩
/-- how many tales of water more than of none -/
def zLd (f : Nat → Int32) : Nat → Int
  | 0 => 0
  | k + 1 => zLd f k + (if (f k).toInt = 1 then 1 else -1)
theorem zLd_1 {f : Nat → Int32} {x : Int32} {y y' k' : Int} (h : y = zLd f x.toInt.toNat) (h0 : 0 ≤ x.toInt) (e : k' = x.toInt + 1) (hv : (f x.toNatClampNeg).toInt = 1) (ey : y' = y + 1) : y' = zLd f k'.toNat := by
  rw [show k'.toNat = x.toInt.toNat + 1 by omega]
  show y' = zLd f x.toInt.toNat + (if (f x.toInt.toNat).toInt = 1 then 1 else -1)
  rw [zcl] at hv
  rw [if_pos hv]; omega
theorem zLd_0 {f : Nat → Int32} {x : Int32} {y y' k' : Int} (h : y = zLd f x.toInt.toNat) (h0 : 0 ≤ x.toInt) (e : k' = x.toInt + 1) (hv : ¬ (f x.toNatClampNeg).toInt = 1) (ey : y' = y + -1) : y' = zLd f k'.toNat := by
  rw [show k'.toNat = x.toInt.toNat + 1 by omega]
  show y' = zLd f x.toInt.toNat + (if (f x.toInt.toNat).toInt = 1 then 1 else -1)
  rw [zcl] at hv
  rw [if_neg hv]; omega
theorem zLd_R {z : Int} {f f' : Nat → Int32} (h : zRT z f f') : ∀ n : Nat, (n : Int) ≤ z → zLd f n = zLd f' n
  | 0, _ => rfl
  | n + 1, hn => by
    show zLd f n + (if (f n).toInt = 1 then 1 else -1) = zLd f' n + (if (f' n).toInt = 1 then 1 else -1)
    rw [zLd_R h n (by omega), h n (by omega)]
def zodv (r c : Int32) (A B : Nat) : Int32 := ((10000 * (r.toInt64 * lN (9 ^ A))) / ((r.toInt64 * lN (9 ^ A)) + (c.toInt64 * lN (9 ^ B)))).toInt32
def zod (r : Int32) (ld : Int) : Int32 := zodv r (100 - r) ld.toNat (-ld).toNat
theorem zxninS (j : Nat) : lN (9 ^ j) * 9 = lN (9 ^ (j + 1)) := by rw [show (9 : Int64) = lN 9 from rfl, lN_mul, Nat.pow_succ]
theorem zis_0 {R : Int64} {k : Int} (h : k = 0) : R.toInt = (R * lN (9 ^ k.toNat)).toInt := by subst h; rw [show lN (9 ^ (0 : Int).toNat) = 1 from rfl, Int64.mul_one]
theorem zis_s {R y : Int64} {k k' : Int} (h : y.toInt = (R * lN (9 ^ k.toNat)).toInt) (h0 : 0 ≤ k) (e : k' = k + 1) : (y * 9).toInt = (R * lN (9 ^ k'.toNat)).toInt := by
  rw [Int64.toInt_inj.mp h, show k'.toNat = k.toNat + 1 by omega, ← zxninS, Int64.mul_assoc]
theorem zsumT {r c : Int32} {A B : Nat} (hr : 0 ≤ r.toInt ∧ r.toInt ≤ 100) (hc : c.toInt = 100 - r.toInt) (hA : A ≤ 12) (hB : B ≤ 12) : 0 < (r.toInt64 * lN (9 ^ A) + c.toInt64 * lN (9 ^ B)).toInt := by
  obtain ⟨n, h1, e1, h3⟩ := znN (x := r) rfl hr.1
  obtain ⟨k, h4, e2, h6⟩ := znN (x := c) rfl (by omega)
  have gA : 9 ^ A ≤ 9 ^ 12 := Nat.pow_le_pow_right (by decide) hA
  have gB : 9 ^ B ≤ 9 ^ 12 := Nat.pow_le_pow_right (by decide) hB
  have hA1 : 1 ≤ 9 ^ A := by have h := Nat.pow_le_pow_right (n := 9) (by decide) (Nat.zero_le A); simpa using h
  have hB1 : 1 ≤ 9 ^ B := by have h := Nat.pow_le_pow_right (n := 9) (by decide) (Nat.zero_le B); simpa using h
  have h9 : (9 : Nat) ^ 12 = 282429536481 := by decide
  rw [h9] at gA gB
  rw [e1, e2, nI_l h1, nI_l h4, lN_mul, lN_mul, lN_add]
  generalize 9 ^ A = X at gA hA1 ⊢
  generalize 9 ^ B = Y at gB hB1 ⊢
  have hn : n ≤ 100 := by omega
  have hk : k ≤ 100 := by omega
  have p1 : n * X ≤ 100 * 282429536481 := Nat.mul_le_mul hn gA
  have p2 : k * Y ≤ 100 * 282429536481 := Nat.mul_le_mul hk gB
  have p3 : n ≤ n * X := Nat.le_mul_of_pos_right n hA1
  have p4 : k ≤ k * Y := Nat.le_mul_of_pos_right k hB1
  generalize n * X = U at p1 p3 ⊢
  generalize k * Y = V at p2 p4 ⊢
  rw [show (lN (U + V)).toInt = ((U + V : Nat) : Int) from lg_ofNat_toInt (by omega)]
  omega
theorem zcmpP {x : Int64} (h : 0 < x.toInt) : 0 < lg_cmp x 0 := by
  have e0 : (0 : Int64).toInt = 0 := by decide
  unfold lg_cmp
  rw [if_pos (Int64.lt_iff_toInt_lt.mpr (by rw [e0]; exact h))]
  decide
theorem z100m {r : Int32} (hr : 0 ≤ r.toInt ∧ r.toInt ≤ 100) : ((100 : Int32) - r).toInt = 100 - r.toInt := zsub (i := 100) (j := r.toInt) (by decide) rfl (by omega)
theorem zsum2 {r : Int32} {y z : Int64} {k k2 ld : Int} (hr : 0 ≤ r.toInt ∧ r.toInt ≤ 100) (h1 : y.toInt = (r.toInt64 * lN (9 ^ k.toNat)).toInt) (h2 : z.toInt = ((100 - r : Int32).toInt64 * lN (9 ^ k2.toNat)).toInt) (hk : k ≤ 12) (hk2 : k2 ≤ 12) : 0 < lg_cmp (y + z) 0 := by
  rw [Int64.toInt_inj.mp h1, Int64.toInt_inj.mp h2]
  exact zcmpP (zsumT hr (z100m hr) (by omega) (by omega))
theorem zod_mk {r : Int32} {y z : Int64} {k k2 ld : Int} (h1 : y.toInt = (r.toInt64 * lN (9 ^ k.toNat)).toInt) (h2 : z.toInt = ((100 - r : Int32).toInt64 * lN (9 ^ k2.toNat)).toInt) (hk : k.toNat = ld.toNat) (hk2 : k2.toNat = (-ld).toNat) : (10000 * y / (y + z)).toInt32 = zod r ld := by
  rw [Int64.toInt_inj.mp h1, Int64.toInt_inj.mp h2, hk, hk2]; rfl
/-! THE FEWEST TALES -/
def zc1 (r : Int32) (s : Int) : Prop := 9900 ≤ (zod r s).toInt
def zc2 (r : Int32) (s : Int) : Prop := ¬ (r.toInt64 * lN (9 ^ (min 14 s.toNat)) < 99 * ((100 - r : Int32).toInt64 * lN (9 ^ (-s).toNat)))
theorem zc1_i {r q : Int32} {x s : Int} (h : q = zod r x) (e : x = s) (c : 9900 ≤ q.toInt) : zc1 r s := by subst e; unfold zc1; rw [← h]; exact c
theorem zc1_n {r q : Int32} {x s : Int} (h : q = zod r x) (e : x = s) (c : q.toInt < 9900) : ¬ zc1 r s := by subst e; unfold zc1; rw [← h]; omega
def zNo1 (r : Int32) (ld k : Int) : Prop := ∀ j : Nat, (j : Int) < k → ¬ zc1 r (ld + j)
def zNo2 (r : Int32) (ld k : Int) : Prop := ∀ j : Nat, (j : Int) < k → ¬ zc2 r (ld + j)
theorem zNo1_0 (r : Int32) (ld : Int) : zNo1 r ld 0 := fun j h => absurd h (by omega)
theorem zNo2_0 (r : Int32) (ld : Int) : zNo2 r ld 0 := fun j h => absurd h (by omega)
theorem zNo1_s {r : Int32} {ld k k' : Int} (h : zNo1 r ld k) (c : ¬ zc1 r (ld + k)) (h0 : 0 ≤ k) (e : k' = k + 1) : zNo1 r ld k' := by
  intro j hj
  rcases (show (j : Int) < k ∨ (j : Int) = k by omega) with q | q
  · exact h j q
  · rw [q]; exact c
theorem zNo2_s {r : Int32} {ld k k' : Int} (h : zNo2 r ld k) (c : ¬ zc2 r (ld + k)) (h0 : 0 ≤ k) (e : k' = k + 1) : zNo2 r ld k' := by
  intro j hj
  rcases (show (j : Int) < k ∨ (j : Int) = k by omega) with q | q
  · exact h j q
  · rw [q]; exact c
def zfew (r : Int32) (ld q : Int) : Prop := (0 ≤ q ∧ q ≤ 20 ∧ ld + q ≤ 12 ∧ zc1 r (ld + q) ∧ zNo1 r ld q) ∨ (q = -1 ∧ ∀ j : Nat, (j : Int) ≤ 20 → ld + j ≤ 12 → ¬ zc1 r (ld + j))
def zmor (r : Int32) (ld q : Int) : Prop := (0 ≤ q ∧ q ≤ 20 ∧ zc2 r (ld + q) ∧ zNo2 r ld q) ∨ (q = -1 ∧ ∀ j : Nat, (j : Int) ≤ 20 → ¬ zc2 r (ld + j))
theorem zlNt {a : Nat} (h : a < 2 ^ 63) : (lN a).toInt = (a : Int) := lg_ofNat_toInt h
theorem zlNl {a b : Nat} (ha : a < 2 ^ 63) (hb : b < 2 ^ 63) : lN a < lN b ↔ a < b := by rw [Int64.lt_iff_toInt_lt, zlNt ha, zlNt hb]; omega
theorem z9 (a : Nat) (h : a ≤ 14) : 1 ≤ 9 ^ a ∧ 9 ^ a ≤ 22876792454961 := by
  have h1 := Nat.pow_le_pow_right (n := 9) (by decide) (Nat.zero_le a)
  have h2 := Nat.pow_le_pow_right (n := 9) (by decide) h
  have h9 : (9 : Nat) ^ 14 = 22876792454961 := by decide
  rw [h9] at h2
  exact ⟨by simpa using h1, h2⟩
/-- both sides' test, in whole numbers -/
theorem zc2_N {r : Int32} {s : Int} {n : Nat} (hn : r = nI n) (h100 : n ≤ 100) (hs : -12 ≤ s) : zc2 r s ↔ 99 * ((100 - n) * 9 ^ (-s).toNat) ≤ n * 9 ^ (min 14 s.toNat) := by
  have hc : (100 - r : Int32) = nI (100 - n) := by
    apply Int32.toInt_inj.mp
    rw [z100m (by rw [hn, nI_toInt (by omega)]; omega), hn, nI_toInt (by omega), nI_toInt (by omega)]; omega
  obtain ⟨a1, a2⟩ := z9 (min 14 s.toNat) (by omega)
  obtain ⟨b1, b2⟩ := z9 (-s).toNat (by omega)
  unfold zc2
  rw [hc, hn, nI_l (by omega), nI_l (by omega), lN_mul, lN_mul, show (99 : Int64) = lN 99 from rfl, lN_mul]
  generalize 9 ^ (min 14 s.toNat) = X at a1 a2 ⊢
  generalize 9 ^ (-s).toNat = Y at b1 b2 ⊢
  have p1 : n * X ≤ 100 * 22876792454961 := Nat.mul_le_mul h100 a2
  have p2 : (100 - n) * Y ≤ 100 * 22876792454961 := Nat.mul_le_mul (by omega) b2
  generalize n * X = U at p1 ⊢
  generalize (100 - n) * Y = V at p2 ⊢
  rw [zlNl (by omega) (by omega)]; omega
theorem z9b (a : Nat) (h : a ≤ 12) : 1 ≤ 9 ^ a ∧ 9 ^ a ≤ 282429536481 := by
  have h1 := Nat.pow_le_pow_right (n := 9) (by decide) (Nat.zero_le a)
  have h2 := Nat.pow_le_pow_right (n := 9) (by decide) h
  have h9 : (9 : Nat) ^ 12 = 282429536481 := by decide
  rw [h9] at h2
  exact ⟨by simpa using h1, h2⟩
theorem zc1_N {r : Int32} {s : Int} {n : Nat} (hn : r = nI n) (h100 : n ≤ 100) (hs : -12 ≤ s) (hs2 : s ≤ 12) : zc1 r s ↔ 99 * ((100 - n) * 9 ^ (-s).toNat) ≤ n * 9 ^ (min 14 s.toNat) := by
  have hc : (100 - r : Int32) = nI (100 - n) := by
    apply Int32.toInt_inj.mp
    rw [z100m (by rw [hn, nI_toInt (by omega)]; omega), hn, nI_toInt (by omega), nI_toInt (by omega)]; omega
  rw [show min 14 s.toNat = s.toNat by omega]
  obtain ⟨a1, a2⟩ := z9b s.toNat (by omega)
  obtain ⟨b1, b2⟩ := z9b (-s).toNat (by omega)
  unfold zc1 zod zodv
  rw [hc, hn, nI_l (by omega), nI_l (by omega), lN_mul, lN_mul, show (10000 : Int64) = lN 10000 from rfl, lN_mul, lN_add]
  generalize 9 ^ s.toNat = X at a1 a2 ⊢
  generalize 9 ^ (-s).toNat = Y at b1 b2 ⊢
  have p1 : n * X ≤ 100 * 282429536481 := Nat.mul_le_mul h100 a2
  have p2 : (100 - n) * Y ≤ 100 * 282429536481 := Nat.mul_le_mul (by omega) b2
  have p3 : n ≤ n * X := Nat.le_mul_of_pos_right n a1
  have p4 : 100 - n ≤ (100 - n) * Y := Nat.le_mul_of_pos_right (100 - n) b1
  generalize n * X = U at p1 p3 ⊢
  generalize (100 - n) * Y = V at p2 p4 ⊢
  rw [pk_lDiv (by omega) (by omega) (by omega), lN_i]
  have hd : 10000 * U / (U + V) ≤ 10000 := Nat.div_le_of_le_mul (by rw [Nat.mul_comm]; exact Nat.mul_le_mul_right _ (by omega))
  rw [nI_toInt (by omega)]
  have hk := Nat.le_div_iff_mul_le (x := 9900) (y := 10000 * U) (show 0 < U + V by omega)
  constructor
  · intro h
    have := hk.mp (by omega)
    omega
  · intro h
    have := hk.mpr (by omega)
    omega
theorem zfewE {r : Int32} {ld q q' : Int} (hr : 0 ≤ r.toInt ∧ r.toInt ≤ 100) (hl : -12 ≤ ld ∧ ld ≤ 12) (h : zfew r ld q) (h' : zmor r ld q') : q = q' := by
  obtain ⟨n, -, hn, hn2⟩ := znN (x := r) rfl hr.1
  have h100 : n ≤ 100 := by omega
  have E : ∀ j : Nat, ld + j ≤ 12 → (zc1 r (ld + j) ↔ zc2 r (ld + j)) := fun j hj => (zc1_N hn h100 (by omega) hj).trans (zc2_N hn h100 (by omega)).symm
  have F : ∀ j : Nat, 12 < ld + j → zc2 r (ld + j) → zc2 r 12 := by
    intro j hj hz
    have h1 := (zc2_N hn h100 (by omega)).mp hz
    refine (zc2_N hn h100 (by omega)).mpr ?_
    rcases Nat.eq_zero_or_pos n with e | e
    · subst e
      rw [Nat.zero_mul] at h1
      have := (z9 (-(ld + (j : Int))).toNat (by omega)).1
      omega
    · rw [show (-(12 : Int)).toNat = 0 from rfl, show min 14 (12 : Int).toNat = 12 from rfl]
      have h9 : (9 : Nat) ^ 12 = 282429536481 := by decide
      rw [h9, Nat.pow_zero]
      omega
  have key : ∀ j : Nat, (j : Int) ≤ 20 → 12 < ld + j → (∀ i : Nat, (i : Int) < j → ¬ zc2 r (ld + i)) → ¬ zc2 r (ld + j) := by
    intro j hj h12 hm hz
    have := hm (12 - ld).toNat (by omega)
    rw [show ld + ((12 - ld).toNat : Int) = 12 by omega] at this
    exact this (F j h12 hz)
  rcases h with ⟨a1, a2, a3, a4, a5⟩ | ⟨a1, a2⟩
  · have c4 : zc2 r (ld + q) := by have := (E q.toNat (by omega)).mp (by rw [show ((q.toNat : Nat) : Int) = q by omega]; exact a4); rw [show ((q.toNat : Nat) : Int) = q by omega] at this; exact this
    have c5 : ∀ i : Nat, (i : Int) < q → ¬ zc2 r (ld + i) := fun i hi hz => a5 i hi ((E i (by omega)).mpr hz)
    rcases h' with ⟨b1, b2, b3, b4⟩ | ⟨-, b2⟩
    · rcases Int.lt_trichotomy q q' with c | c | c
      · exact absurd (show zc2 r (ld + (q.toNat : Int)) by rw [show ((q.toNat : Nat) : Int) = q by omega]; exact c4) (b4 q.toNat (by omega))
      · exact c
      · exact absurd (show zc2 r (ld + (q'.toNat : Int)) by rw [show ((q'.toNat : Nat) : Int) = q' by omega]; exact b3) (c5 q'.toNat (by omega))
    · exact absurd (show zc2 r (ld + (q.toNat : Int)) by rw [show ((q.toNat : Nat) : Int) = q by omega]; exact c4) (b2 q.toNat (by omega))
  · have c5 : ∀ j : Nat, (j : Int) ≤ 20 → ¬ zc2 r (ld + j) := by
      intro j
      induction j using Nat.strongRecOn with
      | ind j ih =>
        intro hj
        rcases Int.lt_or_le 12 (ld + j) with c | c
        · exact key j hj c (fun i hi => ih i (by omega) (by omega))
        · exact fun hz => a2 j hj c ((E j c).mpr hz)
    rcases h' with ⟨b1, b2, b3, b4⟩ | ⟨b1, -⟩
    · exact absurd (show zc2 r (ld + (q'.toNat : Int)) by rw [show ((q'.toNat : Nat) : Int) = q' by omega]; exact b3) (c5 q'.toNat (by omega))
    · rw [a1, b1]
def zoutM (a : Int64) (r : Int32) (ld : Int) : Prop := ∃ v : Int32, a = v.toInt64 ∧ zfew r ld v.toInt
theorem zc2_n {r : Int32} {A B : Nat} {s : Int} (hA : A = min 14 s.toNat) (hB : B = (-s).toNat) (c : r.toInt64 * lN (9 ^ A) < 99 * ((100 - r : Int32).toInt64 * lN (9 ^ B))) : ¬ zc2 r s := by subst hA hB; exact fun h => h c
theorem zc2_i {r : Int32} {A B : Nat} {s : Int} (hA : A = min 14 s.toNat) (hB : B = (-s).toNat) (c : ¬ r.toInt64 * lN (9 ^ A) < 99 * ((100 - r : Int32).toInt64 * lN (9 ^ B))) : zc2 r s := by subst hA hB; exact c
theorem zlc_lt {x y : Int64} (h : lg_cmp x y < 0) : x < y := by
  unfold lg_cmp at h
  by_cases c : y < x
  · rw [if_pos c] at h; exact absurd h (by decide)
  · rw [if_neg c] at h
    by_cases d : x = y
    · rw [if_pos d] at h; exact absurd h (by decide)
    · have c1 : ¬ y.toInt < x.toInt := fun q => c (Int64.lt_iff_toInt_lt.mpr q)
      have d1 : ¬ x.toInt = y.toInt := fun q => d (Int64.toInt_inj.mp q)
      exact Int64.lt_iff_toInt_lt.mpr (by omega)
theorem zlc_nl {x y : Int64} (h : ¬ lg_cmp x y < 0) : ¬ x < y := by
  intro c
  have c1 := Int64.lt_iff_toInt_lt.mp c
  refine h ?_
  unfold lg_cmp
  rw [if_neg (fun q => by have := Int64.lt_iff_toInt_lt.mp q; omega), if_neg (fun q => by rw [q] at c1; omega)]
  decide
set_option maxRecDepth 100000 in
set_option maxHeartbeats 4000000 in
theorem c_t_addF (l : Launch) (g : zG) (ta : Nat) (ab : Nat) (sz : Int32) (ln : Int32) (kd : Int32) (bg : Int32) (nx : Int32) (ft : Int32) (fb : Nat → Int32) (v : Int32) (b_sz : 0 ≤ sz.toInt ∧ sz.toInt ≤ 400) (hs4 : sz.toInt ≤ 396) : zM' g l yX6_add (Cond.code yX6_add cX6_add 3 none :: zB) ({ frames := 0, cells := 0, slots := 0, locals := 0 } : Room) [.ref ta, .int v] [bTape g ta ab sz ln kd bg nx ft fb] (fun u : Int32 × (Nat → Int32) => (fun (sz2 : Int32) (fb2 : Nat → Int32) => none) (u.1) (u.2)) (fun u : Int32 × (Nat → Int32) => (fun (sz2 : Int32) (fb2 : Nat → Int32) => (0 ≤ sz2.toInt ∧ sz2.toInt ≤ 400) ∧ (sz2.toInt = sz.toInt + 4) ∧ (zfp fb fb2 sz.toInt.toNat 4 (zbyte v))) (u.1) (u.2)) (fun u : Int32 × (Nat → Int32) => (fun (sz2 : Int32) (fb2 : Nat → Int32) => [bTape g ta ab sz2 ln kd bg nx ft fb2]) (u.1) (u.2)) := by
  refine zM'.of (cc := cX6_add) (maxL := 3) (rt := none) (by decide) rfl (Nat.le_of_ble_eq_true rfl) ?_
  intro p e s m args below meth c A ls St hr hlocks hin hK hT hA hP hD hS hl
  obtain ⟨hx, hb, hml, hown, hts⟩ := id St
  have hl : lv_has ls 3 [(0, .ref ta), (1, .int v)] := hl
  refine lv_bipush (v := 24) hx hb dX6_add_0 (by decide) ?_
  refine lv_istore_n (lv' := [(2, .int 24), (0, .ref ta), (1, .int v)]) hx hb dX6_add_2 rfl hl (by decide) rfl (fun ls hl => ?_)
  refine lv_iload_n hx hb dX6_add_3 rfl (lv_at hl 0 rfl) ?_
  refine lv_if_lt (tgt := 49) hx hb dX6_add_4 (by decide) (fun c1 => absurd c1 (by decide)) (fun _ => ?_)
  refine lv_aload_n hx hb dX6_add_7 rfl (lv_at hl 1 rfl) ?_
  refine va_get (D := g.1) (ci := 6) (v := .int sz) (C := RX6) (T := TX6) (N := 7) hx hb hts izRX6 hown hK hP 0 rfl rfl 1 (by decide) (hts _ k423) (fun _ h9 => h9) rfl dX6_add_8 ?_
  refine lv_sipush (v := 400) hx hb dX6_add_11 (by decide) ?_
  refine lv_icmp_ge (tgt := 49) hx hb dX6_add_14 (by decide) (fun cb9 => ?_) (fun cb9 => ?_)
  · skip
    exact absurd (show 400 ≤ sz.toInt from zle cb9 (by decide) rfl) (by omega)
  · skip
    have c3 : sz.toInt < 400 := zlti (Int32.not_le.mp cb9) rfl (by decide)
    refine lv_aload_n hx hb dX6_add_17 rfl (lv_at hl 1 rfl) ?_
    refine va_get (D := g.1) (ci := 6) (v := .ref ab) (C := RX6) (T := TX6) (N := 7) hx hb hts izRX6 hown hK hP 0 rfl rfl 0 (by decide) (hts _ k261) (fun _ h9 => h9) rfl dX6_add_18 ?_
    refine lv_aload_n hx hb dX6_add_21 rfl (lv_at hl 1 rfl) ?_
    refine va_get (D := g.1) (ci := 6) (v := .int sz) (C := RX6) (T := TX6) (N := 7) hx hb hts izRX6 hown hK hP 0 rfl rfl 1 (by decide) (hts _ k423) (fun _ h9 => h9) rfl dX6_add_22 ?_
    refine lv_iload_n hx hb dX6_add_25 rfl (lv_at hl 2 rfl) ?_
    refine lv_iload_n hx hb dX6_add_26 rfl (lv_at hl 0 rfl) ?_
    refine lv_iushr (v := ((v : Int32).toUInt32 >>> ((24 : Int32).toUInt32 &&& Int32.toUInt32 31)).toInt32) hx hb dX6_add_27 rfl ?_
    refine lv_sipush (v := 255) hx hb dX6_add_28 (by decide) ?_
    refine lv_iand hx hb dX6_add_31 ?_
    refine va_iast hx hb hK hP hD hS 1 0 rfl rfl (zinI (by omega) (by omega)) dX6_add_32 (fun H locs hP hD hS => ?_)
    obtain ⟨fb_4, hzfb_4, hP, hD⟩ : ∃ fb_4 : Nat → Int32, (zfp fb fb_4 sz.toInt.toNat 1 (zbyte v)) ∧ va_P g.1 vwCl (List.flatten [bTape g ta ab sz ln kd bg nx ft fb_4]) H ∧ va_D A (List.flatten [bTape g ta ab sz ln kd bg nx ft fb_4]) := ⟨upd fb sz.toNatClampNeg ((((v : Int32).toUInt32 >>> ((24 : Int32).toUInt32 &&& Int32.toUInt32 31)).toInt32) &&& 255), (zfp_s (x := sz) (zfp0 fb sz.toInt.toNat (zbyte v)) (by omega) rfl), hP, hD⟩
    refine lv_aload_n hx hb dX6_add_33 rfl (lv_at hl 1 rfl) ?_
    refine lv_dup hx hb dX6_add_34 rfl ?_
    refine va_get (D := g.1) (ci := 6) (v := .int sz) (C := RX6) (T := TX6) (N := 7) hx hb hts izRX6 hown hK hP 0 rfl rfl 1 (by decide) (hts _ k423) (fun _ h9 => h9) rfl dX6_add_35 ?_
    refine lv_iconst (v := 1) hx hb dX6_add_38 (by decide) ?_
    refine lv_iadd hx hb dX6_add_39 ?_
    refine zgv (zadd (i := sz.toInt) (j := 1) rfl (by decide) (by omega)) (fun x_5 hx_5 => ?_)
    refine va_put (D := g.1) (ci := 6) (v := .int x_5) (ty := .int) (C := RX6) (T := TX6) (N := 7) hx hb hts izRX6 tyX6 tyX6_ok nmX6 hown hK hP hD hS 0 rfl rfl 1 (by decide) (hts _ k423) (fun _ h9 => h9) rfl (by decide +kernel) rfl rfl (Nat.le_of_ble_eq_true rfl) dX6_add_40 (fun H locs hP hD hS => ?_)
    have hP : va_P g.1 vwCl (List.flatten [bTape g ta ab x_5 ln kd bg nx ft fb_4]) H := hP
    have hD : va_D A (List.flatten [bTape g ta ab x_5 ln kd bg nx ft fb_4]) := hD
    refine lv_iinc (v := 16) (lv' := [(2, .int 16), (0, .ref ta), (1, .int v)]) hx hb dX6_add_43 hl (k := 0) rfl (by decide) (by decide) rfl (fun ls hl => ?_)
    refine lv_goto (tgt := 3) hx hb dX6_add_46 (by decide) ?_
    refine lv_iload_n hx hb dX6_add_3 rfl (lv_at hl 0 rfl) ?_
    refine lv_if_lt (tgt := 49) hx hb dX6_add_4 (by decide) (fun c6 => absurd c6 (by decide)) (fun _ => ?_)
    refine lv_aload_n hx hb dX6_add_7 rfl (lv_at hl 1 rfl) ?_
    refine va_get (D := g.1) (ci := 6) (v := .int x_5) (C := RX6) (T := TX6) (N := 7) hx hb hts izRX6 hown hK hP 0 rfl rfl 1 (by decide) (hts _ k423) (fun _ h9 => h9) rfl dX6_add_8 ?_
    refine lv_sipush (v := 400) hx hb dX6_add_11 (by decide) ?_
    refine lv_icmp_ge (tgt := 49) hx hb dX6_add_14 (by decide) (fun cb9 => ?_) (fun cb9 => ?_)
    · skip
      exact absurd (show 400 ≤ x_5.toInt from zle cb9 (by decide) rfl) (by omega)
    · skip
      have c8 : x_5.toInt < 400 := zlti (Int32.not_le.mp cb9) rfl (by decide)
      refine lv_aload_n hx hb dX6_add_17 rfl (lv_at hl 1 rfl) ?_
      refine va_get (D := g.1) (ci := 6) (v := .ref ab) (C := RX6) (T := TX6) (N := 7) hx hb hts izRX6 hown hK hP 0 rfl rfl 0 (by decide) (hts _ k261) (fun _ h9 => h9) rfl dX6_add_18 ?_
      refine lv_aload_n hx hb dX6_add_21 rfl (lv_at hl 1 rfl) ?_
      refine va_get (D := g.1) (ci := 6) (v := .int x_5) (C := RX6) (T := TX6) (N := 7) hx hb hts izRX6 hown hK hP 0 rfl rfl 1 (by decide) (hts _ k423) (fun _ h9 => h9) rfl dX6_add_22 ?_
      refine lv_iload_n hx hb dX6_add_25 rfl (lv_at hl 2 rfl) ?_
      refine lv_iload_n hx hb dX6_add_26 rfl (lv_at hl 0 rfl) ?_
      refine lv_iushr (v := ((v : Int32).toUInt32 >>> ((16 : Int32).toUInt32 &&& Int32.toUInt32 31)).toInt32) hx hb dX6_add_27 rfl ?_
      refine lv_sipush (v := 255) hx hb dX6_add_28 (by decide) ?_
      refine lv_iand hx hb dX6_add_31 ?_
      refine va_iast hx hb hK hP hD hS 1 0 rfl rfl (zinI (by omega) (by omega)) dX6_add_32 (fun H locs hP hD hS => ?_)
      obtain ⟨fb_9, hzfb_9, hP, hD⟩ : ∃ fb_9 : Nat → Int32, (zfp fb fb_9 sz.toInt.toNat 2 (zbyte v)) ∧ va_P g.1 vwCl (List.flatten [bTape g ta ab x_5 ln kd bg nx ft fb_9]) H ∧ va_D A (List.flatten [bTape g ta ab x_5 ln kd bg nx ft fb_9]) := ⟨upd fb_4 x_5.toNatClampNeg ((((v : Int32).toUInt32 >>> ((16 : Int32).toUInt32 &&& Int32.toUInt32 31)).toInt32) &&& 255), (zfp_s (x := x_5) hzfb_4 (by omega) rfl), hP, hD⟩
      refine lv_aload_n hx hb dX6_add_33 rfl (lv_at hl 1 rfl) ?_
      refine lv_dup hx hb dX6_add_34 rfl ?_
      refine va_get (D := g.1) (ci := 6) (v := .int x_5) (C := RX6) (T := TX6) (N := 7) hx hb hts izRX6 hown hK hP 0 rfl rfl 1 (by decide) (hts _ k423) (fun _ h9 => h9) rfl dX6_add_35 ?_
      refine lv_iconst (v := 1) hx hb dX6_add_38 (by decide) ?_
      refine lv_iadd hx hb dX6_add_39 ?_
      refine zgv (zadd (i := x_5.toInt) (j := 1) rfl (by decide) (by omega)) (fun x_10 hx_10 => ?_)
      refine va_put (D := g.1) (ci := 6) (v := .int x_10) (ty := .int) (C := RX6) (T := TX6) (N := 7) hx hb hts izRX6 tyX6 tyX6_ok nmX6 hown hK hP hD hS 0 rfl rfl 1 (by decide) (hts _ k423) (fun _ h9 => h9) rfl (by decide +kernel) rfl rfl (Nat.le_of_ble_eq_true rfl) dX6_add_40 (fun H locs hP hD hS => ?_)
      have hP : va_P g.1 vwCl (List.flatten [bTape g ta ab x_10 ln kd bg nx ft fb_9]) H := hP
      have hD : va_D A (List.flatten [bTape g ta ab x_10 ln kd bg nx ft fb_9]) := hD
      refine lv_iinc (v := 8) (lv' := [(2, .int 8), (0, .ref ta), (1, .int v)]) hx hb dX6_add_43 hl (k := 0) rfl (by decide) (by decide) rfl (fun ls hl => ?_)
      refine lv_goto (tgt := 3) hx hb dX6_add_46 (by decide) ?_
      refine lv_iload_n hx hb dX6_add_3 rfl (lv_at hl 0 rfl) ?_
      refine lv_if_lt (tgt := 49) hx hb dX6_add_4 (by decide) (fun c11 => absurd c11 (by decide)) (fun _ => ?_)
      refine lv_aload_n hx hb dX6_add_7 rfl (lv_at hl 1 rfl) ?_
      refine va_get (D := g.1) (ci := 6) (v := .int x_10) (C := RX6) (T := TX6) (N := 7) hx hb hts izRX6 hown hK hP 0 rfl rfl 1 (by decide) (hts _ k423) (fun _ h9 => h9) rfl dX6_add_8 ?_
      refine lv_sipush (v := 400) hx hb dX6_add_11 (by decide) ?_
      refine lv_icmp_ge (tgt := 49) hx hb dX6_add_14 (by decide) (fun cb9 => ?_) (fun cb9 => ?_)
      · skip
        exact absurd (show 400 ≤ x_10.toInt from zle cb9 (by decide) rfl) (by omega)
      · skip
        have c13 : x_10.toInt < 400 := zlti (Int32.not_le.mp cb9) rfl (by decide)
        refine lv_aload_n hx hb dX6_add_17 rfl (lv_at hl 1 rfl) ?_
        refine va_get (D := g.1) (ci := 6) (v := .ref ab) (C := RX6) (T := TX6) (N := 7) hx hb hts izRX6 hown hK hP 0 rfl rfl 0 (by decide) (hts _ k261) (fun _ h9 => h9) rfl dX6_add_18 ?_
        refine lv_aload_n hx hb dX6_add_21 rfl (lv_at hl 1 rfl) ?_
        refine va_get (D := g.1) (ci := 6) (v := .int x_10) (C := RX6) (T := TX6) (N := 7) hx hb hts izRX6 hown hK hP 0 rfl rfl 1 (by decide) (hts _ k423) (fun _ h9 => h9) rfl dX6_add_22 ?_
        refine lv_iload_n hx hb dX6_add_25 rfl (lv_at hl 2 rfl) ?_
        refine lv_iload_n hx hb dX6_add_26 rfl (lv_at hl 0 rfl) ?_
        refine lv_iushr (v := ((v : Int32).toUInt32 >>> ((8 : Int32).toUInt32 &&& Int32.toUInt32 31)).toInt32) hx hb dX6_add_27 rfl ?_
        refine lv_sipush (v := 255) hx hb dX6_add_28 (by decide) ?_
        refine lv_iand hx hb dX6_add_31 ?_
        refine va_iast hx hb hK hP hD hS 1 0 rfl rfl (zinI (by omega) (by omega)) dX6_add_32 (fun H locs hP hD hS => ?_)
        obtain ⟨fb_14, hzfb_14, hP, hD⟩ : ∃ fb_14 : Nat → Int32, (zfp fb fb_14 sz.toInt.toNat 3 (zbyte v)) ∧ va_P g.1 vwCl (List.flatten [bTape g ta ab x_10 ln kd bg nx ft fb_14]) H ∧ va_D A (List.flatten [bTape g ta ab x_10 ln kd bg nx ft fb_14]) := ⟨upd fb_9 x_10.toNatClampNeg ((((v : Int32).toUInt32 >>> ((8 : Int32).toUInt32 &&& Int32.toUInt32 31)).toInt32) &&& 255), (zfp_s (x := x_10) hzfb_9 (by omega) rfl), hP, hD⟩
        refine lv_aload_n hx hb dX6_add_33 rfl (lv_at hl 1 rfl) ?_
        refine lv_dup hx hb dX6_add_34 rfl ?_
        refine va_get (D := g.1) (ci := 6) (v := .int x_10) (C := RX6) (T := TX6) (N := 7) hx hb hts izRX6 hown hK hP 0 rfl rfl 1 (by decide) (hts _ k423) (fun _ h9 => h9) rfl dX6_add_35 ?_
        refine lv_iconst (v := 1) hx hb dX6_add_38 (by decide) ?_
        refine lv_iadd hx hb dX6_add_39 ?_
        refine zgv (zadd (i := x_10.toInt) (j := 1) rfl (by decide) (by omega)) (fun x_15 hx_15 => ?_)
        refine va_put (D := g.1) (ci := 6) (v := .int x_15) (ty := .int) (C := RX6) (T := TX6) (N := 7) hx hb hts izRX6 tyX6 tyX6_ok nmX6 hown hK hP hD hS 0 rfl rfl 1 (by decide) (hts _ k423) (fun _ h9 => h9) rfl (by decide +kernel) rfl rfl (Nat.le_of_ble_eq_true rfl) dX6_add_40 (fun H locs hP hD hS => ?_)
        have hP : va_P g.1 vwCl (List.flatten [bTape g ta ab x_15 ln kd bg nx ft fb_14]) H := hP
        have hD : va_D A (List.flatten [bTape g ta ab x_15 ln kd bg nx ft fb_14]) := hD
        refine lv_iinc (v := 0) (lv' := [(2, .int 0), (0, .ref ta), (1, .int v)]) hx hb dX6_add_43 hl (k := 0) rfl (by decide) (by decide) rfl (fun ls hl => ?_)
        refine lv_goto (tgt := 3) hx hb dX6_add_46 (by decide) ?_
        refine lv_iload_n hx hb dX6_add_3 rfl (lv_at hl 0 rfl) ?_
        refine lv_if_lt (tgt := 49) hx hb dX6_add_4 (by decide) (fun c16 => absurd c16 (by decide)) (fun _ => ?_)
        refine lv_aload_n hx hb dX6_add_7 rfl (lv_at hl 1 rfl) ?_
        refine va_get (D := g.1) (ci := 6) (v := .int x_15) (C := RX6) (T := TX6) (N := 7) hx hb hts izRX6 hown hK hP 0 rfl rfl 1 (by decide) (hts _ k423) (fun _ h9 => h9) rfl dX6_add_8 ?_
        refine lv_sipush (v := 400) hx hb dX6_add_11 (by decide) ?_
        refine lv_icmp_ge (tgt := 49) hx hb dX6_add_14 (by decide) (fun cb9 => ?_) (fun cb9 => ?_)
        · skip
          exact absurd (show 400 ≤ x_15.toInt from zle cb9 (by decide) rfl) (by omega)
        · skip
          have c18 : x_15.toInt < 400 := zlti (Int32.not_le.mp cb9) rfl (by decide)
          refine lv_aload_n hx hb dX6_add_17 rfl (lv_at hl 1 rfl) ?_
          refine va_get (D := g.1) (ci := 6) (v := .ref ab) (C := RX6) (T := TX6) (N := 7) hx hb hts izRX6 hown hK hP 0 rfl rfl 0 (by decide) (hts _ k261) (fun _ h9 => h9) rfl dX6_add_18 ?_
          refine lv_aload_n hx hb dX6_add_21 rfl (lv_at hl 1 rfl) ?_
          refine va_get (D := g.1) (ci := 6) (v := .int x_15) (C := RX6) (T := TX6) (N := 7) hx hb hts izRX6 hown hK hP 0 rfl rfl 1 (by decide) (hts _ k423) (fun _ h9 => h9) rfl dX6_add_22 ?_
          refine lv_iload_n hx hb dX6_add_25 rfl (lv_at hl 2 rfl) ?_
          refine lv_iload_n hx hb dX6_add_26 rfl (lv_at hl 0 rfl) ?_
          refine lv_iushr (v := ((v : Int32).toUInt32 >>> ((0 : Int32).toUInt32 &&& Int32.toUInt32 31)).toInt32) hx hb dX6_add_27 rfl ?_
          refine lv_sipush (v := 255) hx hb dX6_add_28 (by decide) ?_
          refine lv_iand hx hb dX6_add_31 ?_
          refine va_iast hx hb hK hP hD hS 1 0 rfl rfl (zinI (by omega) (by omega)) dX6_add_32 (fun H locs hP hD hS => ?_)
          obtain ⟨fb_19, hzfb_19, hP, hD⟩ : ∃ fb_19 : Nat → Int32, (zfp fb fb_19 sz.toInt.toNat 4 (zbyte v)) ∧ va_P g.1 vwCl (List.flatten [bTape g ta ab x_15 ln kd bg nx ft fb_19]) H ∧ va_D A (List.flatten [bTape g ta ab x_15 ln kd bg nx ft fb_19]) := ⟨upd fb_14 x_15.toNatClampNeg ((((v : Int32).toUInt32 >>> ((0 : Int32).toUInt32 &&& Int32.toUInt32 31)).toInt32) &&& 255), (zfp_s (x := x_15) hzfb_14 (by omega) rfl), hP, hD⟩
          refine lv_aload_n hx hb dX6_add_33 rfl (lv_at hl 1 rfl) ?_
          refine lv_dup hx hb dX6_add_34 rfl ?_
          refine va_get (D := g.1) (ci := 6) (v := .int x_15) (C := RX6) (T := TX6) (N := 7) hx hb hts izRX6 hown hK hP 0 rfl rfl 1 (by decide) (hts _ k423) (fun _ h9 => h9) rfl dX6_add_35 ?_
          refine lv_iconst (v := 1) hx hb dX6_add_38 (by decide) ?_
          refine lv_iadd hx hb dX6_add_39 ?_
          refine zgv (zadd (i := x_15.toInt) (j := 1) rfl (by decide) (by omega)) (fun x_20 hx_20 => ?_)
          refine va_put (D := g.1) (ci := 6) (v := .int x_20) (ty := .int) (C := RX6) (T := TX6) (N := 7) hx hb hts izRX6 tyX6 tyX6_ok nmX6 hown hK hP hD hS 0 rfl rfl 1 (by decide) (hts _ k423) (fun _ h9 => h9) rfl (by decide +kernel) rfl rfl (Nat.le_of_ble_eq_true rfl) dX6_add_40 (fun H locs hP hD hS => ?_)
          have hP : va_P g.1 vwCl (List.flatten [bTape g ta ab x_20 ln kd bg nx ft fb_19]) H := hP
          have hD : va_D A (List.flatten [bTape g ta ab x_20 ln kd bg nx ft fb_19]) := hD
          refine lv_iinc (v := (-8)) (lv' := [(2, .int (-8)), (0, .ref ta), (1, .int v)]) hx hb dX6_add_43 hl (k := 0) rfl (by decide) (by decide) rfl (fun ls hl => ?_)
          refine lv_goto (tgt := 3) hx hb dX6_add_46 (by decide) ?_
          refine lv_iload_n hx hb dX6_add_3 rfl (lv_at hl 0 rfl) ?_
          refine lv_if_lt (tgt := 49) hx hb dX6_add_4 (by decide) (fun _ => ?_) (fun c21 => absurd (by decide) c21)
          have hP : va_P g.1 vwCl (List.flatten [bTape g ta ab x_20 ln kd bg nx ft fb_19]) H := hP
          have hD : va_D A (List.flatten [bTape g ta ab x_20 ln kd bg nx ft fb_19]) := hD
          exact mret_v hx hb hr hlocks hS (Nat.le_of_ble_eq_true rfl) (Nat.le_of_ble_eq_true rfl) dX6_add_49 (x_20, fb_19) rfl (show (0 ≤ x_20.toInt ∧ x_20.toInt ≤ 400) ∧ (x_20.toInt = sz.toInt + 4) ∧ (zfp fb fb_19 sz.toInt.toNat 4 (zbyte v)) from ⟨(by omega), (by omega), hzfb_19⟩) hP hD
set_option maxRecDepth 100000 in
set_option maxHeartbeats 4000000 in
theorem c_t_holdsTalesF (l : Launch) (g : zG) (ta : Nat) (ab : Nat) (sz : Int32) (ln : Int32) (kd : Int32) (bg : Int32) (nx : Int32) (ft : Int32) (fb : Nat → Int32) (n : Int32) (b_n : 0 ≤ n.toInt ∧ n.toInt ≤ 12) : zM' g l yX6_holdsTales (Cond.code yX6_holdsTales cX6_holdsTales 3 (some .boolean) :: zB) ({ frames := 0, cells := 0, slots := 0, locals := 0 } : Room) [.ref ta, .int n] [bTape g ta ab sz ln kd bg nx ft fb] (fun (q : Int32) => some (.int q)) (fun (q : Int32) => (q = 1 ∧ zAl fb n.toInt ∨ q = 0 ∧ ¬ zAl fb n.toInt)) (fun (q : Int32) => [bTape g ta ab sz ln kd bg nx ft fb]) := by
  refine zM'.of (cc := cX6_holdsTales) (maxL := 3) (rt := (some .boolean)) (by decide) rfl (Nat.le_of_ble_eq_true rfl) ?_
  intro p e s m args below meth c A ls St hr hlocks hin hK hT hA hP hD hS hl
  obtain ⟨hx, hb, hml, hown, hts⟩ := id St
  have hl : lv_has ls 3 [(0, .ref ta), (1, .int n)] := hl
  refine lv_iconst (v := 0) hx hb dX6_holdsTales_0 (by decide) ?_
  refine lv_istore_n (lv' := [(2, .int 0), (0, .ref ta), (1, .int n)]) hx hb dX6_holdsTales_1 rfl hl (by decide) rfl (fun ls hl => ?_)
  have hl := lv_sub (l' := [(0, .ref ta), (1, .int n), (2, .int 0)]) hl [1, 2, 0] rfl
  have LP2_4 : ∀ (kf : Nat) (x_1 : Int32), (0 ≤ x_1.toInt ∧ x_1.toInt ≤ 12) → (zAl fb x_1.toInt) → ∀ (H : Heap) (locs : List Loc) (ls : Array Slot), ((13 - x_1.toInt).toNat) < kf → va_P g.1 vwCl (List.flatten [bTape g ta ab sz ln kd bg nx ft fb]) H → va_D A (List.flatten [bTape g ta ab sz ln kd bg nx ft fb]) → va_S A s.heap H locs → lv_has ls 3 [(0, .ref ta), (1, .int n), (2, .int x_1)] → W p l e ({ frames := 0, cells := 0, slots := 0, locals := 0 } : Room) s m args below meth c H locs (0) (0) (zF g (fun (q : Int32) => some (.int q)) (fun (q : Int32) => (q = 1 ∧ zAl fb n.toInt ∨ q = 0 ∧ ¬ zAl fb n.toInt)) (fun (q : Int32) => [bTape g ta ab sz ln kd bg nx ft fb]) ({ frames := 0, cells := 0, slots := 0, locals := 0 } : Room) below args s A) (F0 m 2 ls []) := by
    intro kf
    induction kf with
    | zero => intro x_1 i2 i3 H locs ls hk; exact absurd hk (Nat.not_lt_zero _)
    | succ kf ih2_5 =>
      intro x_1 i2 i3 H locs ls hk2_5 hP hD hS hl
      refine lv_iload_n hx hb dX6_holdsTales_2 rfl (lv_at hl 2 rfl) ?_
      refine lv_iload_n hx hb dX6_holdsTales_3 rfl (lv_at hl 1 rfl) ?_
      refine lv_icmp_ge (tgt := 25) hx hb dX6_holdsTales_4 (by decide) (fun cb9 => ?_) (fun cb9 => ?_)
      · skip
        have c6 : n.toInt ≤ x_1.toInt := zle cb9 rfl rfl
        refine lv_iconst (v := 1) hx hb dX6_holdsTales_25 (by decide) ?_
        have hP : va_P g.1 vwCl (List.flatten [bTape g ta ab sz ln kd bg nx ft fb]) H := hP
        have hD : va_D A (List.flatten [bTape g ta ab sz ln kd bg nx ft fb]) := hD
        exact mret_z hx hb hr hlocks hS (Nat.le_of_ble_eq_true rfl) (Nat.le_of_ble_eq_true rfl) dX6_holdsTales_26 ((1 : Int32)) rfl (by decide) (show (1 = 1 ∧ zAl fb n.toInt ∨ 1 = 0 ∧ ¬ zAl fb n.toInt) from (Or.inl ⟨rfl, zAl_e i3 (by omega)⟩)) hP hD
      · skip
        have c7 : x_1.toInt < n.toInt := zlti (Int32.not_le.mp cb9) rfl rfl
        have n8 : x_1.toInt ≤ 11 := zL1 (b := 12) c7 b_n.2 (by decide)
        have n9 : 1 ≤ n.toInt := zL2 (a := 0) c7 i2.1 (by decide)
        refine lv_aload_n hx hb dX6_holdsTales_7 rfl (lv_at hl 0 rfl) ?_
        refine va_get (D := g.1) (ci := 6) (v := .ref ab) (C := RX6) (T := TX6) (N := 7) hx hb hts izRX6 hown hK hP 0 rfl rfl 0 (by decide) (hts _ k261) (fun _ h9 => h9) rfl dX6_holdsTales_8 ?_
        refine lv_iload_n hx hb dX6_holdsTales_11 rfl (lv_at hl 2 rfl) ?_
        refine va_iald hx hb hK hP 1 0 rfl rfl (zinK (a := 0) (b := 11) i2.1 n8 (by decide)) dX6_holdsTales_12 ?_
        refine lv_iconst (v := 1) hx hb dX6_holdsTales_13 (by decide) ?_
        refine lv_icmp_le (tgt := 19) hx hb dX6_holdsTales_14 (by decide) (fun cb9 => ?_) (fun cb9 => ?_)
        · skip
          have c10 : (fb x_1.toNatClampNeg).toInt ≤ 1 := zle cb9 rfl (by decide)
          have n11 : (fb x_1.toNatClampNeg).toInt ≤ 1 := Int.le_trans c10 (Int.le_refl _)
          refine ziinc3 (n' := 1) (a' := 1) (b' := 12) (lv' := fun v9 => [(2, .int v9), (0, .ref ta), (1, .int n)]) hx hb dX6_holdsTales_19 hl (k := 2) rfl (by decide) (fun _ => rfl) (zaddK (i := x_1.toInt) (j := 1) rfl (by decide) i2.1 n8 (Int.le_refl _) (Int.le_refl _) (by decide)) (fun x_12 ls hx_12 hl => ?_)
          refine lv_goto (tgt := 2) hx hb dX6_holdsTales_22 (by decide) ?_
          have hl := lv_sub (l' := [(0, .ref ta), (1, .int n), (2, .int x_12)]) hl [1, 2, 0] rfl
          have hP : va_P g.1 vwCl (List.flatten [bTape g ta ab sz ln kd bg nx ft fb]) H := hP
          have hD : va_D A (List.flatten [bTape g ta ab sz ln kd bg nx ft fb]) := hD
          exact ih2_5 x_12 ⟨(Int.le_trans (by decide) hx_12.2.1), hx_12.2.2⟩ (zAl_s (x := x_1) i3 rfl (by omega) hx_12.1 c10) H _ ls (zmK hx_12.1 (by decide) n8 (by decide) hk2_5)  hP hD hS (lv_sub hl [0, 1, 2] rfl)
        · skip
          have c13 : 1 < (fb x_1.toNatClampNeg).toInt := zlti (Int32.not_le.mp cb9) (by decide) rfl
          have n14 : 2 ≤ (fb x_1.toNatClampNeg).toInt := zL2 (a := 1) c13 (Int.le_refl _) (by decide)
          refine lv_iconst (v := 0) hx hb dX6_holdsTales_17 (by decide) ?_
          have hP : va_P g.1 vwCl (List.flatten [bTape g ta ab sz ln kd bg nx ft fb]) H := hP
          have hD : va_D A (List.flatten [bTape g ta ab sz ln kd bg nx ft fb]) := hD
          exact mret_z hx hb hr hlocks hS (Nat.le_of_ble_eq_true rfl) (Nat.le_of_ble_eq_true rfl) dX6_holdsTales_18 ((0 : Int32)) rfl (by decide) (show (0 = 1 ∧ zAl fb n.toInt ∨ 0 = 0 ∧ ¬ zAl fb n.toInt) from (Or.inr ⟨rfl, zAl_n (x := x_1) (by omega) (by omega) (by omega)⟩)) hP hD
  have hL0 : (0 : Int32).toInt = 0 := by decide
  have hP : va_P g.1 vwCl (List.flatten [bTape g ta ab sz ln kd bg nx ft fb]) s.heap := hP
  have hD : va_D A (List.flatten [bTape g ta ab sz ln kd bg nx ft fb]) := hD
  exact LP2_4 _ 0 (by decide) (zAl0 fb) s.heap _ ls (Nat.lt_succ_self _)  hP hD hS (lv_sub hl [0, 1, 2] rfl)
set_option maxRecDepth 100000 in
set_option maxHeartbeats 4000000 in
theorem c_t_leadF (l : Launch) (g : zG) (ta : Nat) (ab : Nat) (sz : Int32) (ln : Int32) (kd : Int32) (bg : Int32) (nx : Int32) (ft : Int32) (fb : Nat → Int32) (n : Int32) (b_n : 0 ≤ n.toInt ∧ n.toInt ≤ 12) : zM' g l yX6_lead (Cond.code yX6_lead cX6_lead 4 (some .int) :: zB) ({ frames := 0, cells := 0, slots := 0, locals := 0 } : Room) [.ref ta, .int n] [bTape g ta ab sz ln kd bg nx ft fb] (fun (q : Int32) => some (.int q)) (fun (q : Int32) => (-12 ≤ q.toInt ∧ q.toInt ≤ 12) ∧ (q.toInt = zLd fb n.toInt.toNat)) (fun (q : Int32) => [bTape g ta ab sz ln kd bg nx ft fb]) := by
  refine zM'.of (cc := cX6_lead) (maxL := 4) (rt := (some .int)) (by decide) rfl (Nat.le_of_ble_eq_true rfl) ?_
  intro p e s m args below meth c A ls St hr hlocks hin hK hT hA hP hD hS hl
  obtain ⟨hx, hb, hml, hown, hts⟩ := id St
  have hl : lv_has ls 4 [(0, .ref ta), (1, .int n)] := hl
  refine lv_iconst (v := 0) hx hb dX6_lead_0 (by decide) ?_
  refine lv_istore_n (lv' := [(2, .int 0), (0, .ref ta), (1, .int n)]) hx hb dX6_lead_1 rfl hl (by decide) rfl (fun ls hl => ?_)
  refine lv_iconst (v := 0) hx hb dX6_lead_2 (by decide) ?_
  refine lv_istore_n (lv' := [(3, .int 0), (2, .int 0), (0, .ref ta), (1, .int n)]) hx hb dX6_lead_3 rfl hl (by decide) rfl (fun ls hl => ?_)
  have hl := lv_sub (l' := [(0, .ref ta), (1, .int n), (2, .int 0), (3, .int 0)]) hl [2, 3, 1, 0] rfl
  have LP4_8 : ∀ (kf : Nat) (x_1 : Int32) (x_2 : Int32), ((-12) ≤ x_1.toInt ∧ x_1.toInt ≤ 12) → (0 ≤ x_2.toInt ∧ x_2.toInt ≤ 12) → ((-(x_2.toInt) ≤ x_1.toInt ∧ x_1.toInt ≤ x_2.toInt)) → (x_1.toInt = zLd fb (x_2.toInt).toNat) → (x_2.toInt ≤ n.toInt) → ∀ (H : Heap) (locs : List Loc) (ls : Array Slot), ((13 - x_2.toInt).toNat) < kf → va_P g.1 vwCl (List.flatten [bTape g ta ab sz ln kd bg nx ft fb]) H → va_D A (List.flatten [bTape g ta ab sz ln kd bg nx ft fb]) → va_S A s.heap H locs → lv_has ls 4 [(0, .ref ta), (1, .int n), (2, .int x_1), (3, .int x_2)] → W p l e ({ frames := 0, cells := 0, slots := 0, locals := 0 } : Room) s m args below meth c H locs (0) (0) (zF g (fun (q : Int32) => some (.int q)) (fun (q : Int32) => (-12 ≤ q.toInt ∧ q.toInt ≤ 12) ∧ (q.toInt = zLd fb n.toInt.toNat)) (fun (q : Int32) => [bTape g ta ab sz ln kd bg nx ft fb]) ({ frames := 0, cells := 0, slots := 0, locals := 0 } : Room) below args s A) (F0 m 4 ls []) := by
    intro kf
    induction kf with
    | zero => intro x_1 x_2 i3 i4 i5 i6 i7 H locs ls hk; exact absurd hk (Nat.not_lt_zero _)
    | succ kf ih4_9 =>
      intro x_1 x_2 i3 i4 i5 i6 i7 H locs ls hk4_9 hP hD hS hl
      refine lv_iload_n hx hb dX6_lead_4 rfl (lv_at hl 3 rfl) ?_
      refine lv_iload_n hx hb dX6_lead_5 rfl (lv_at hl 1 rfl) ?_
      refine lv_icmp_ge (tgt := 33) hx hb dX6_lead_6 (by decide) (fun cb9 => ?_) (fun cb9 => ?_)
      · skip
        have c10 : n.toInt ≤ x_2.toInt := zle cb9 rfl rfl
        refine lv_iload_n hx hb dX6_lead_33 rfl (lv_at hl 2 rfl) ?_
        have hP : va_P g.1 vwCl (List.flatten [bTape g ta ab sz ln kd bg nx ft fb]) H := hP
        have hD : va_D A (List.flatten [bTape g ta ab sz ln kd bg nx ft fb]) := hD
        exact mret_i hx hb hr hlocks hS (Nat.le_of_ble_eq_true rfl) (Nat.le_of_ble_eq_true rfl) dX6_lead_34 (x_1) rfl (show (-12 ≤ x_1.toInt ∧ x_1.toInt ≤ 12) ∧ (x_1.toInt = zLd fb n.toInt.toNat) from ⟨(by omega), (by rw [show n.toInt.toNat = x_2.toInt.toNat by omega]; exact i6)⟩) hP hD
      · skip
        have c11 : x_2.toInt < n.toInt := zlti (Int32.not_le.mp cb9) rfl rfl
        have n12 : x_2.toInt ≤ 11 := zL1 (b := 12) c11 b_n.2 (by decide)
        have n13 : 1 ≤ n.toInt := zL2 (a := 0) c11 i4.1 (by decide)
        refine lv_iload_n hx hb dX6_lead_9 rfl (lv_at hl 2 rfl) ?_
        refine lv_aload_n hx hb dX6_lead_10 rfl (lv_at hl 0 rfl) ?_
        refine va_get (D := g.1) (ci := 6) (v := .ref ab) (C := RX6) (T := TX6) (N := 7) hx hb hts izRX6 hown hK hP 0 rfl rfl 0 (by decide) (hts _ k261) (fun _ h9 => h9) rfl dX6_lead_11 ?_
        refine lv_iload_n hx hb dX6_lead_14 rfl (lv_at hl 3 rfl) ?_
        refine va_iald hx hb hK hP 1 0 rfl rfl (zinK (a := 0) (b := 11) i4.1 n12 (by decide)) dX6_lead_15 ?_
        refine lv_iconst (v := 1) hx hb dX6_lead_16 (by decide) ?_
        refine lv_icmp_ne (tgt := 24) hx hb dX6_lead_17 (by decide) (fun cb9 => ?_) (fun cb9 => ?_)
        · skip
          have c14 : ¬ (fb x_2.toNatClampNeg).toInt = 1 := zne cb9 rfl (by decide)
          refine lv_iconst (v := (-1)) hx hb dX6_lead_24 (by decide) ?_
          refine lv_iadd hx hb dX6_lead_25 ?_
          refine zg3 (zaddK (i := x_1.toInt) (j := (-1)) (a' := (-13)) (b' := 11) rfl (by decide) i3.1 i3.2 (Int.le_refl _) (Int.le_refl _) (by decide)) (fun x_15 hx_15 => ?_)
          refine lv_istore_n (lv' := [(2, .int x_15), (0, .ref ta), (1, .int n), (3, .int x_2)]) hx hb dX6_lead_26 rfl hl (by decide) rfl (fun ls hl => ?_)
          refine ziinc3 (n' := 1) (a' := 1) (b' := 12) (lv' := fun v9 => [(3, .int v9), (2, .int x_15), (0, .ref ta), (1, .int n)]) hx hb dX6_lead_27 hl (k := 3) rfl (by decide) (fun _ => rfl) (zaddK (i := x_2.toInt) (j := 1) rfl (by decide) i4.1 n12 (Int.le_refl _) (Int.le_refl _) (by decide)) (fun x_16 ls hx_16 hl => ?_)
          refine lv_goto (tgt := 4) hx hb dX6_lead_30 (by decide) ?_
          have hl := lv_sub (l' := [(0, .ref ta), (1, .int n), (2, .int x_15), (3, .int x_16)]) hl [2, 3, 1, 0] rfl
          have hP : va_P g.1 vwCl (List.flatten [bTape g ta ab sz ln kd bg nx ft fb]) H := hP
          have hD : va_D A (List.flatten [bTape g ta ab sz ln kd bg nx ft fb]) := hD
          exact ih4_9 x_15 x_16 (by first | omega | assumption | decide) ⟨(Int.le_trans (by decide) hx_16.2.1), hx_16.2.2⟩ (by first | omega | assumption | decide) (zLd_0 (x := x_2) i6 (by omega) hx_16.1 c14 (by omega)) (by first | omega | assumption | decide) H _ ls (zmK hx_16.1 (by decide) n12 (by decide) hk4_9)  hP hD hS (lv_sub hl [0, 1, 2, 3] rfl)
        · skip
          have c17 : (fb x_2.toNatClampNeg).toInt = 1 := zeq cb9 rfl (by decide)
          have n18 : 1 ≤ (fb x_2.toNatClampNeg).toInt := Int.le_trans (Int.le_refl _) (Int.le_of_eq c17.symm)
          have n19 : (fb x_2.toNatClampNeg).toInt ≤ 1 := Int.le_trans (Int.le_of_eq c17) (Int.le_refl _)
          refine lv_iconst (v := 1) hx hb dX6_lead_20 (by decide) ?_
          refine lv_goto (tgt := 25) hx hb dX6_lead_21 (by decide) ?_
          refine lv_iadd hx hb dX6_lead_25 ?_
          refine zg3 (zaddK (i := x_1.toInt) (j := 1) (a' := (-11)) (b' := 13) rfl (by decide) i3.1 i3.2 (Int.le_refl _) (Int.le_refl _) (by decide)) (fun x_20 hx_20 => ?_)
          refine lv_istore_n (lv' := [(2, .int x_20), (0, .ref ta), (1, .int n), (3, .int x_2)]) hx hb dX6_lead_26 rfl hl (by decide) rfl (fun ls hl => ?_)
          refine ziinc3 (n' := 1) (a' := 1) (b' := 12) (lv' := fun v9 => [(3, .int v9), (2, .int x_20), (0, .ref ta), (1, .int n)]) hx hb dX6_lead_27 hl (k := 3) rfl (by decide) (fun _ => rfl) (zaddK (i := x_2.toInt) (j := 1) rfl (by decide) i4.1 n12 (Int.le_refl _) (Int.le_refl _) (by decide)) (fun x_21 ls hx_21 hl => ?_)
          refine lv_goto (tgt := 4) hx hb dX6_lead_30 (by decide) ?_
          have hl := lv_sub (l' := [(0, .ref ta), (1, .int n), (2, .int x_20), (3, .int x_21)]) hl [2, 3, 1, 0] rfl
          have hP : va_P g.1 vwCl (List.flatten [bTape g ta ab sz ln kd bg nx ft fb]) H := hP
          have hD : va_D A (List.flatten [bTape g ta ab sz ln kd bg nx ft fb]) := hD
          exact ih4_9 x_20 x_21 (by first | omega | assumption | decide) ⟨(Int.le_trans (by decide) hx_21.2.1), hx_21.2.2⟩ (by first | omega | assumption | decide) (zLd_1 (x := x_2) i6 (by omega) hx_21.1 c17 (by omega)) (by first | omega | assumption | decide) H _ ls (zmK hx_21.1 (by decide) n12 (by decide) hk4_9)  hP hD hS (lv_sub hl [0, 1, 2, 3] rfl)
  have hL0 : (0 : Int32).toInt = 0 := by decide
  have hP : va_P g.1 vwCl (List.flatten [bTape g ta ab sz ln kd bg nx ft fb]) s.heap := hP
  have hD : va_D A (List.flatten [bTape g ta ab sz ln kd bg nx ft fb]) := hD
  exact LP4_8 _ 0 0 (by decide) (by decide) (by first | omega | assumption | decide) rfl (by first | omega | assumption | decide) s.heap _ ls (Nat.lt_succ_self _)  hP hD hS (lv_sub hl [0, 1, 2, 3] rfl)
set_option maxRecDepth 100000 in
set_option maxHeartbeats 4000000 in
theorem c_r_oddsF (l : Launch) (g : zG) (x1 : Int32) (ld : Int32) (b_x1 : 0 ≤ x1.toInt ∧ x1.toInt ≤ 100) (b_ld : (-12) ≤ ld.toInt ∧ ld.toInt ≤ 12) : zM' g l yX5_odds (Cond.code yX5_odds cX5_odds 7 (some .int) :: zB) ({ frames := 0, cells := 0, slots := 0, locals := 0 } : Room) [.int x1, .int ld] [] (fun (q : Int32) => some (.int q)) (fun (q : Int32) => (q = zod x1 ld.toInt)) (fun (q : Int32) => []) := by
  refine zM'.of (cc := cX5_odds) (maxL := 7) (rt := (some .int)) (by decide) rfl (Nat.le_of_ble_eq_true rfl) ?_
  intro p e s m args below meth c A ls St hr hlocks hin hK hT hA hP hD hS hl
  obtain ⟨hx, hb, hml, hown, hts⟩ := id St
  have hl : lv_has ls 7 [(0, .int x1), (1, .int ld)] := hl
  refine lv_iload_n hx hb dX5_odds_0 rfl (lv_at hl 0 rfl) ?_
  refine lv_i2l (v := (x1 : Int32).toInt64) hx hb dX5_odds_1 rfl ?_
  refine lv_lstore_n (lv' := [(2, .long ((x1 : Int32).toInt64)), (0, .int x1), (1, .int ld)]) hx hb dX5_odds_2 rfl hl (by decide) rfl (fun ls hl => ?_)
  refine lv_bipush (v := 100) hx hb dX5_odds_3 (by decide) ?_
  refine lv_iload_n hx hb dX5_odds_5 rfl (lv_at hl 1 rfl) ?_
  refine lv_isub hx hb dX5_odds_6 ?_
  refine lv_i2l (v := (100 - x1 : Int32).toInt64) hx hb dX5_odds_7 rfl ?_
  refine lv_lstore (lv' := [(4, .long ((100 - x1 : Int32).toInt64)), (2, .long ((x1 : Int32).toInt64)), (0, .int x1), (1, .int ld)]) hx hb dX5_odds_8 hl (by decide) rfl (fun ls hl => ?_)
  refine lv_iconst (v := 0) hx hb dX5_odds_10 (by decide) ?_
  refine lv_istore (lv' := [(6, .int 0), (4, .long ((100 - x1 : Int32).toInt64)), (2, .long ((x1 : Int32).toInt64)), (0, .int x1), (1, .int ld)]) hx hb dX5_odds_11 hl (by decide) rfl (fun ls hl => ?_)
  have hl := lv_sub (l' := [(0, .int x1), (1, .int ld), (2, .long ((x1 : Int32).toInt64)), (4, .long ((100 - x1 : Int32).toInt64)), (6, .int 0)]) hl [3, 4, 2, 1, 0] rfl
  have LP13_6 : ∀ (kf : Nat) (y_1 : Int64) (x_2 : Int32), (0 ≤ x_2.toInt ∧ x_2.toInt ≤ 12) → (y_1.toInt = (x1.toInt64 * lN (9 ^ (x_2.toInt).toNat)).toInt) → (x_2.toInt = 0 ∨ x_2.toInt ≤ ld.toInt) → ∀ (H : Heap) (locs : List Loc) (ls : Array Slot), ((13 - x_2.toInt).toNat) < kf → va_P g.1 vwCl (List.flatten []) H → va_D A (List.flatten []) → va_S A s.heap H locs → lv_has ls 7 [(0, .int x1), (1, .int ld), (2, .long y_1), (4, .long ((100 - x1 : Int32).toInt64)), (6, .int x_2)] → W p l e ({ frames := 0, cells := 0, slots := 0, locals := 0 } : Room) s m args below meth c H locs (0) (0) (zF g (fun (q : Int32) => some (.int q)) (fun (q : Int32) => (q = zod x1 ld.toInt)) (fun (q : Int32) => []) ({ frames := 0, cells := 0, slots := 0, locals := 0 } : Room) below args s A) (F0 m 13 ls []) := by
    intro kf
    induction kf with
    | zero => intro y_1 x_2 i3 i4 i5 H locs ls hk; exact absurd hk (Nat.not_lt_zero _)
    | succ kf ih13_7 =>
      intro y_1 x_2 i3 i4 i5 H locs ls hk13_7 hP hD hS hl
      refine lv_iload hx hb dX5_odds_13 (lv_at hl 4 rfl) ?_
      refine lv_iload_n hx hb dX5_odds_15 rfl (lv_at hl 1 rfl) ?_
      refine lv_icmp_ge (tgt := 31) hx hb dX5_odds_16 (by decide) (fun cb9 => ?_) (fun cb9 => ?_)
      · skip
        have c8 : ld.toInt ≤ x_2.toInt := zle cb9 rfl rfl
        refine lv_iconst (v := 0) hx hb dX5_odds_31 (by decide) ?_
        refine lv_istore (lv' := [(6, .int 0), (0, .int x1), (1, .int ld), (2, .long y_1), (4, .long ((100 - x1 : Int32).toInt64))]) hx hb dX5_odds_32 hl (by decide) rfl (fun ls hl => ?_)
        have hl := lv_sub (l' := [(0, .int x1), (1, .int ld), (2, .long y_1), (4, .long ((100 - x1 : Int32).toInt64)), (6, .int 0)]) hl [1, 2, 3, 4, 0] rfl
        have LP34_14 : ∀ (kf : Nat) (y_9 : Int64) (x_10 : Int32), (0 ≤ x_10.toInt ∧ x_10.toInt ≤ 12) → (y_9.toInt = ((100 - x1 : Int32).toInt64 * lN (9 ^ (x_10.toInt).toNat)).toInt) → (x_10.toInt = 0 ∨ x_10.toInt ≤ -ld.toInt) → ∀ (H : Heap) (locs : List Loc) (ls : Array Slot), ((13 - x_10.toInt).toNat) < kf → va_P g.1 vwCl (List.flatten []) H → va_D A (List.flatten []) → va_S A s.heap H locs → lv_has ls 7 [(0, .int x1), (1, .int ld), (2, .long y_1), (4, .long y_9), (6, .int x_10)] → W p l e ({ frames := 0, cells := 0, slots := 0, locals := 0 } : Room) s m args below meth c H locs (0) (0) (zF g (fun (q : Int32) => some (.int q)) (fun (q : Int32) => (q = zod x1 ld.toInt)) (fun (q : Int32) => []) ({ frames := 0, cells := 0, slots := 0, locals := 0 } : Room) below args s A) (F0 m 34 ls []) := by
          intro kf
          induction kf with
          | zero => intro y_9 x_10 i11 i12 i13 H locs ls hk; exact absurd hk (Nat.not_lt_zero _)
          | succ kf ih34_15 =>
            intro y_9 x_10 i11 i12 i13 H locs ls hk34_15 hP hD hS hl
            refine lv_iload hx hb dX5_odds_34 (lv_at hl 4 rfl) ?_
            refine lv_iload_n hx hb dX5_odds_36 rfl (lv_at hl 1 rfl) ?_
            refine lv_ineg hx hb dX5_odds_37 ?_
            refine zgv (zneg (i := ld.toInt) rfl (by omega)) (fun x_16 hx_16 => ?_)
            refine lv_icmp_ge (tgt := 55) hx hb dX5_odds_38 (by decide) (fun cb9 => ?_) (fun cb9 => ?_)
            · skip
              have c17 : x_16.toInt ≤ x_10.toInt := zle cb9 rfl rfl
              refine lv_lload_n hx hb dX5_odds_55 rfl (lv_at hl 2 rfl) ?_
              refine lv_lload hx hb dX5_odds_56 (lv_at hl 3 rfl) ?_
              refine lv_ladd hx hb dX5_odds_58 ?_
              refine lv_lconst (v := 0) hx hb dX5_odds_59 (by decide) ?_
              refine W.lcmp hx hb dX5_odds_60 ?_
              have hgt := zsum2 (ld := 0) b_x1 i4 i12 (by omega) (by omega)
              refine lv_if_gt (tgt := 68) hx hb dX5_odds_61 (by decide) (fun hnz => ?_) (fun hnz => absurd hgt hnz)
              refine lv_ldc2 (v := 10000) hx hb hown (hts _ k406) dX5_odds_68 ?_
              refine lv_lload_n hx hb dX5_odds_71 rfl (lv_at hl 2 rfl) ?_
              refine lv_lmul hx hb dX5_odds_72 ?_
              refine lv_lload_n hx hb dX5_odds_73 rfl (lv_at hl 2 rfl) ?_
              refine lv_lload hx hb dX5_odds_74 (lv_at hl 3 rfl) ?_
              refine lv_ladd hx hb dX5_odds_76 ?_
              refine lv_ldiv hx hb dX5_odds_77 (zlcN hnz) ?_
              refine lv_l2i (v := (10000 * y_1 / (y_1 + y_9) : Int64).toInt32) hx hb dX5_odds_78 rfl ?_
              have hP : va_P g.1 vwCl (List.flatten []) H := hP
              have hD : va_D A (List.flatten []) := hD
              exact mret_i hx hb hr hlocks hS (Nat.le_of_ble_eq_true rfl) (Nat.le_of_ble_eq_true rfl) dX5_odds_79 ((10000 * y_1 / (y_1 + y_9) : Int64).toInt32) rfl (show (((10000 * y_1 / (y_1 + y_9) : Int64).toInt32) = zod x1 ld.toInt) from (zod_mk (k := x_2.toInt) (k2 := x_10.toInt) i4 i12 (by omega) (by omega))) hP hD
            · skip
              have c18 : x_10.toInt < x_16.toInt := zlti (Int32.not_le.mp cb9) rfl rfl
              have n19 : 1 ≤ x_16.toInt := zL2 (a := 0) c18 i11.1 (by decide)
              refine lv_lload hx hb dX5_odds_41 (lv_at hl 3 rfl) ?_
              refine lv_ldc2 (v := 9) hx hb hown (hts _ k405) dX5_odds_43 ?_
              refine lv_lmul hx hb dX5_odds_46 ?_
              refine lv_lstore (lv' := [(4, .long (y_9 * 9)), (0, .int x1), (1, .int ld), (2, .long y_1), (6, .int x_10)]) hx hb dX5_odds_47 hl (by decide) rfl (fun ls hl => ?_)
              refine ziinc (j := x_10.toInt + 1) (lv' := fun v9 => [(6, .int v9), (4, .long (y_9 * 9)), (0, .int x1), (1, .int ld), (2, .long y_1)]) hx hb dX5_odds_49 hl (k := 4) rfl (by decide) (fun _ => rfl) (zadd (i := x_10.toInt) (j := 1) rfl (by decide) (by omega)) (fun x_20 ls hx_20 hl => ?_)
              refine lv_goto (tgt := 34) hx hb dX5_odds_52 (by decide) ?_
              have hl := lv_sub (l' := [(0, .int x1), (1, .int ld), (2, .long y_1), (4, .long (y_9 * 9)), (6, .int x_20)]) hl [2, 3, 4, 1, 0] rfl
              have hP : va_P g.1 vwCl (List.flatten []) H := hP
              have hD : va_D A (List.flatten []) := hD
              exact ih34_15 (y_9 * 9) x_20 (by first | omega | assumption | decide) (zis_s i12 (by omega) hx_20) (by first | omega | assumption | decide) H _ ls (by omega)  hP hD hS (lv_sub hl [0, 1, 2, 3, 4] rfl)
        have hL0 : (0 : Int32).toInt = 0 := by decide
        have hP : va_P g.1 vwCl (List.flatten []) H := hP
        have hD : va_D A (List.flatten []) := hD
        exact LP34_14 _ ((100 - x1 : Int32).toInt64) 0 (by decide) (zis_0 (by decide)) (by first | omega | assumption | decide) H _ ls (Nat.lt_succ_self _)  hP hD hS (lv_sub hl [0, 1, 2, 3, 4] rfl)
      · skip
        have c21 : x_2.toInt < ld.toInt := zlti (Int32.not_le.mp cb9) rfl rfl
        have n22 : x_2.toInt ≤ 11 := zL1 (b := 12) c21 b_ld.2 (by decide)
        have n23 : 1 ≤ ld.toInt := zL2 (a := 0) c21 i3.1 (by decide)
        refine lv_lload_n hx hb dX5_odds_19 rfl (lv_at hl 2 rfl) ?_
        refine lv_ldc2 (v := 9) hx hb hown (hts _ k405) dX5_odds_20 ?_
        refine lv_lmul hx hb dX5_odds_23 ?_
        refine lv_lstore_n (lv' := [(2, .long (y_1 * 9)), (0, .int x1), (1, .int ld), (4, .long ((100 - x1 : Int32).toInt64)), (6, .int x_2)]) hx hb dX5_odds_24 rfl hl (by decide) rfl (fun ls hl => ?_)
        refine ziinc3 (n' := 1) (a' := 1) (b' := 12) (lv' := fun v9 => [(6, .int v9), (2, .long (y_1 * 9)), (0, .int x1), (1, .int ld), (4, .long ((100 - x1 : Int32).toInt64))]) hx hb dX5_odds_25 hl (k := 4) rfl (by decide) (fun _ => rfl) (zaddK (i := x_2.toInt) (j := 1) rfl (by decide) i3.1 n22 (Int.le_refl _) (Int.le_refl _) (by decide)) (fun x_24 ls hx_24 hl => ?_)
        refine lv_goto (tgt := 13) hx hb dX5_odds_28 (by decide) ?_
        have hl := lv_sub (l' := [(0, .int x1), (1, .int ld), (2, .long (y_1 * 9)), (4, .long ((100 - x1 : Int32).toInt64)), (6, .int x_24)]) hl [2, 3, 1, 4, 0] rfl
        have hP : va_P g.1 vwCl (List.flatten []) H := hP
        have hD : va_D A (List.flatten []) := hD
        exact ih13_7 (y_1 * 9) x_24 ⟨(Int.le_trans (by decide) hx_24.2.1), hx_24.2.2⟩ (zis_s i4 (by omega) hx_24.1) (by first | omega | assumption | decide) H _ ls (zmK hx_24.1 (by decide) n22 (by decide) hk13_7)  hP hD hS (lv_sub hl [0, 1, 2, 3, 4] rfl)
  have hL0 : (0 : Int32).toInt = 0 := by decide
  have hP : va_P g.1 vwCl (List.flatten []) s.heap := hP
  have hD : va_D A (List.flatten []) := hD
  exact LP13_6 _ ((x1 : Int32).toInt64) 0 (by decide) (zis_0 (by decide)) (by first | omega | assumption | decide) s.heap _ ls (Nat.lt_succ_self _)  hP hD hS (lv_sub hl [0, 1, 2, 3, 4] rfl)
set_option maxRecDepth 100000 in
set_option maxHeartbeats 4000000 in
theorem c_r_fewestF (l : Launch) (g : zG) (x1 : Int32) (ld : Int32) (b_x1 : 0 ≤ x1.toInt ∧ x1.toInt ≤ 100) (b_ld : (-12) ≤ ld.toInt ∧ ld.toInt ≤ 12) : zM' g l yX5_fewestNeeded (Cond.code yX5_fewestNeeded cX5_fewestNeeded 3 (some .int) :: zB) ({ frames := 1, cells := 0, slots := 0, locals := 26 } : Room) [.int x1, .int ld] [] (fun (q : Int32) => some (.int q)) (fun (q : Int32) => (zfew x1 ld.toInt q.toInt)) (fun (q : Int32) => []) := by
  refine zM'.of (cc := cX5_fewestNeeded) (maxL := 3) (rt := (some .int)) (by decide) rfl (Nat.le_of_ble_eq_true rfl) ?_
  intro p e s m args below meth c A ls St hr hlocks hin hK hT hA hP hD hS hl
  obtain ⟨hx, hb, hml, hown, hts⟩ := id St
  have hl : lv_has ls 3 [(0, .int x1), (1, .int ld)] := hl
  refine lv_iconst (v := 0) hx hb dX5_fewestNeeded_0 (by decide) ?_
  refine lv_istore_n (lv' := [(2, .int 0), (0, .int x1), (1, .int ld)]) hx hb dX5_fewestNeeded_1 rfl hl (by decide) rfl (fun ls hl => ?_)
  have hl := lv_sub (l' := [(0, .int x1), (1, .int ld), (2, .int 0)]) hl [1, 2, 0] rfl
  have LP2_4 : ∀ (kf : Nat) (x_1 : Int32), (0 ≤ x_1.toInt ∧ x_1.toInt ≤ 21) → (zNo1 x1 ld.toInt x_1.toInt) → ∀ (H : Heap) (locs : List Loc) (ls : Array Slot), ((22 - x_1.toInt).toNat) < kf → va_P g.1 vwCl (List.flatten []) H → va_D A (List.flatten []) → va_S A s.heap H locs → lv_has ls 3 [(0, .int x1), (1, .int ld), (2, .int x_1)] → W p l e ({ frames := 1, cells := 0, slots := 0, locals := 26 } : Room) s m args below meth c H locs (0) (0) (zF g (fun (q : Int32) => some (.int q)) (fun (q : Int32) => (zfew x1 ld.toInt q.toInt)) (fun (q : Int32) => []) ({ frames := 1, cells := 0, slots := 0, locals := 26 } : Room) below args s A) (F0 m 2 ls []) := by
    intro kf
    induction kf with
    | zero => intro x_1 i2 i3 H locs ls hk; exact absurd hk (Nat.not_lt_zero _)
    | succ kf ih2_5 =>
      intro x_1 i2 i3 H locs ls hk2_5 hP hD hS hl
      refine lv_iload_n hx hb dX5_fewestNeeded_2 rfl (lv_at hl 2 rfl) ?_
      refine lv_bipush (v := 20) hx hb dX5_fewestNeeded_3 (by decide) ?_
      refine lv_icmp_gt (tgt := 37) hx hb dX5_fewestNeeded_5 (by decide) (fun cb9 => ?_) (fun cb9 => ?_)
      · skip
        have c6 : 20 < x_1.toInt := zlti cb9 (by decide) rfl
        have n7 : 21 ≤ x_1.toInt := zL2 (a := 20) c6 (Int.le_refl _) (by decide)
        refine lv_iconst (v := (-1)) hx hb dX5_fewestNeeded_37 (by decide) ?_
        have hLn1 : ((-1) : Int32).toInt = (-1) := by decide
        have hP : va_P g.1 vwCl (List.flatten []) H := hP
        have hD : va_D A (List.flatten []) := hD
        exact mret_i hx hb hr hlocks hS (Nat.le_of_ble_eq_true rfl) (Nat.le_of_ble_eq_true rfl) dX5_fewestNeeded_38 (-1) rfl (show (zfew x1 ld.toInt ((-1) : Int32).toInt) from (Or.inr ⟨(by decide), fun j h1 h2 => i3 j (by omega)⟩)) hP hD
      · skip
        have c8 : x_1.toInt ≤ 20 := zle (Int32.not_lt.mp cb9) rfl (by decide)
        have n9 : x_1.toInt ≤ 20 := Int.le_trans c8 (Int.le_refl _)
        refine lv_iload_n hx hb dX5_fewestNeeded_8 rfl (lv_at hl 1 rfl) ?_
        refine lv_iload_n hx hb dX5_fewestNeeded_9 rfl (lv_at hl 2 rfl) ?_
        refine lv_iadd hx hb dX5_fewestNeeded_10 ?_
        refine zg3 (zaddK (i := ld.toInt) (j := x_1.toInt) (a' := (-12)) (b' := 32) rfl rfl b_ld.1 b_ld.2 i2.1 n9 (by decide)) (fun x_10 hx_10 => ?_)
        refine lv_bipush (v := 12) hx hb dX5_fewestNeeded_11 (by decide) ?_
        refine lv_icmp_gt (tgt := 37) hx hb dX5_fewestNeeded_13 (by decide) (fun cb9 => ?_) (fun cb9 => ?_)
        · skip
          have c11 : 12 < x_10.toInt := zlti cb9 (by decide) rfl
          have n12 : 13 ≤ x_10.toInt := zL2 (a := 12) c11 (Int.le_refl _) (by decide)
          refine lv_iconst (v := (-1)) hx hb dX5_fewestNeeded_37 (by decide) ?_
          have hLn1 : ((-1) : Int32).toInt = (-1) := by decide
          have hP : va_P g.1 vwCl (List.flatten []) H := hP
          have hD : va_D A (List.flatten []) := hD
          exact mret_i hx hb hr hlocks hS (Nat.le_of_ble_eq_true rfl) (Nat.le_of_ble_eq_true rfl) dX5_fewestNeeded_38 (-1) rfl (show (zfew x1 ld.toInt ((-1) : Int32).toInt) from (Or.inr ⟨(by decide), fun j h1 h2 => i3 j (by omega)⟩)) hP hD
        · skip
          have c13 : x_10.toInt ≤ 12 := zle (Int32.not_lt.mp cb9) rfl (by decide)
          have n14 : x_10.toInt ≤ 12 := Int.le_trans c13 (Int.le_refl _)
          refine lv_iload_n hx hb dX5_fewestNeeded_16 rfl (lv_at hl 0 rfl) ?_
          refine lv_iload_n hx hb dX5_fewestNeeded_17 rfl (lv_at hl 1 rfl) ?_
          refine lv_iload_n hx hb dX5_fewestNeeded_18 rfl (lv_at hl 2 rfl) ?_
          refine lv_iadd hx hb dX5_fewestNeeded_19 ?_
          refine zg3 (zaddK (i := ld.toInt) (j := x_1.toInt) (a' := (-12)) (b' := 32) rfl rfl b_ld.1 b_ld.2 i2.1 n9 (by decide)) (fun x_15 hx_15 => ?_)
          refine mcallS' (g := g) (As := [.int x1, .int x_15]) (rest := []) St hK hT hA hP hD hS hl.1 [] [] rfl rfl rfl (c_r_oddsF l g x1 x_15 b_x1 (by first | assumption | omega | decide | exact Or.inl (by decide) | exact Or.inr (by decide))) (va_cwS 2 hts (zgL (zl3 k408 k409 k389) k404) rfl rfl rfl (by decide +kernel) ⟨Nat.le_of_ble_eq_true rfl, Nat.le_of_ble_eq_true rfl⟩) rfl rfl (Nat.le_of_ble_eq_true rfl) dX5_fewestNeeded_20 ⟨(Nat.le_of_ble_eq_true rfl), (Nat.le_of_ble_eq_true rfl)⟩ (fun q_16 H locs hq17 hP hD hS => ?_)
          replace hq17 : (q_16 = zod x1 x_15.toInt) := hq17
          have hP : va_P g.1 vwCl (List.flatten []) H := hP
          have hD : va_D A (List.flatten []) := hD
          refine W.widen (k := 0) (n := 0) (Nat.le_of_ble_eq_true rfl) (Nat.le_of_ble_eq_true rfl) ?_
          refine W.eq (g2 := F0 m 23 ls [.int q_16]) rfl ?_
          refine lv_sipush (v := 9900) hx hb dX5_fewestNeeded_23 (by decide) ?_
          refine lv_icmp_lt (tgt := 31) hx hb dX5_fewestNeeded_26 (by decide) (fun cb9 => ?_) (fun cb9 => ?_)
          · skip
            have c18 : q_16.toInt < 9900 := zlti cb9 rfl (by decide)
            have n19 : q_16.toInt ≤ 9899 := zL1 (b := 9900) c18 (Int.le_refl _) (by decide)
            refine ziinc3 (n' := 1) (a' := 1) (b' := 21) (lv' := fun v9 => [(2, .int v9), (0, .int x1), (1, .int ld)]) hx hb dX5_fewestNeeded_31 hl (k := 2) rfl (by decide) (fun _ => rfl) (zaddK (i := x_1.toInt) (j := 1) rfl (by decide) i2.1 n9 (Int.le_refl _) (Int.le_refl _) (by decide)) (fun x_20 ls hx_20 hl => ?_)
            refine lv_goto (tgt := 2) hx hb dX5_fewestNeeded_34 (by decide) ?_
            have hl := lv_sub (l' := [(0, .int x1), (1, .int ld), (2, .int x_20)]) hl [1, 2, 0] rfl
            have hP : va_P g.1 vwCl (List.flatten []) H := hP
            have hD : va_D A (List.flatten []) := hD
            exact ih2_5 x_20 ⟨(Int.le_trans (by decide) hx_20.2.1), hx_20.2.2⟩ (zNo1_s i3 (zc1_n hq17 (by omega) (by omega)) (by omega) hx_20.1) H _ ls (zmK hx_20.1 (by decide) n9 (by decide) hk2_5)  hP hD hS (lv_sub hl [0, 1, 2] rfl)
          · skip
            have c21 : 9900 ≤ q_16.toInt := zle (Int32.not_lt.mp cb9) (by decide) rfl
            have n22 : 9900 ≤ q_16.toInt := Int.le_trans (Int.le_refl _) c21
            refine lv_iload_n hx hb dX5_fewestNeeded_29 rfl (lv_at hl 2 rfl) ?_
            have hP : va_P g.1 vwCl (List.flatten []) H := hP
            have hD : va_D A (List.flatten []) := hD
            exact mret_i hx hb hr hlocks hS (Nat.le_of_ble_eq_true rfl) (Nat.le_of_ble_eq_true rfl) dX5_fewestNeeded_30 (x_1) rfl (show (zfew x1 ld.toInt x_1.toInt) from (Or.inl ⟨(by omega), (by omega), (by omega), (zc1_i hq17 (by omega) (by omega)), i3⟩)) hP hD
  have hL0 : (0 : Int32).toInt = 0 := by decide
  have hP : va_P g.1 vwCl (List.flatten []) s.heap := hP
  have hD : va_D A (List.flatten []) := hD
  exact LP2_4 _ 0 (by decide) (zNo1_0 _ _) s.heap _ ls (Nat.lt_succ_self _)  hP hD hS (lv_sub hl [0, 1, 2] rfl)
