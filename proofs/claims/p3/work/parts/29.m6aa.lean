/-! the model's rest: nines, the odds, what is believed as a function of the row -/
theorem zninS (j : Nat) : lN (9 ^ j) * 9 = lN (9 ^ (j + 1)) := by rw [show (9 : Int64) = lN 9 from rfl, lN_mul, Nat.pow_succ]
theorem zrivN {r c a b : Int32} (hr : 0 ≤ r.toInt ∧ r.toInt ≤ 100) (hc : c.toInt = 100 - r.toInt) (ha : 0 ≤ a.toInt ∧ a.toInt ≤ 12) (hb : 0 ≤ b.toInt ∧ b.toInt ≤ 12) : ¬ (r.toInt64 * lN (9 ^ a.toInt.toNat) + c.toInt64 * lN (9 ^ b.toInt.toNat)) = 0 := by
  obtain ⟨n, h1, e1, h3⟩ := znN (x := r) rfl hr.1
  obtain ⟨k, h4, e2, h6⟩ := znN (x := c) rfl (by omega)
  have hA : 9 ^ a.toInt.toNat ≤ 9 ^ 12 := Nat.pow_le_pow_right (by decide) (by omega)
  have hB : 9 ^ b.toInt.toNat ≤ 9 ^ 12 := Nat.pow_le_pow_right (by decide) (by omega)
  have hA1 : 1 ≤ 9 ^ a.toInt.toNat := by have h := Nat.pow_le_pow_right (n := 9) (by decide) (Nat.zero_le a.toInt.toNat); simpa using h
  have hB1 : 1 ≤ 9 ^ b.toInt.toNat := by have h := Nat.pow_le_pow_right (n := 9) (by decide) (Nat.zero_le b.toInt.toNat); simpa using h
  have h9 : (9 : Nat) ^ 12 = 282429536481 := by decide
  rw [h9] at hA hB
  rw [e1, e2, nI_l h1, nI_l h4, lN_mul, lN_mul, lN_add]
  generalize 9 ^ a.toInt.toNat = X at hA hA1 ⊢
  generalize 9 ^ b.toInt.toNat = Y at hB hB1 ⊢
  have hn : n ≤ 100 := by omega
  have hk : k ≤ 100 := by omega
  have p1 : n * X ≤ 100 * 282429536481 := Nat.mul_le_mul hn hA
  have p2 : k * Y ≤ 100 * 282429536481 := Nat.mul_le_mul hk hB
  have p3 : n ≤ n * X := Nat.le_mul_of_pos_right n hA1
  have p4 : k ≤ k * Y := Nat.le_mul_of_pos_right k hB1
  generalize n * X = U at p1 p3 ⊢
  generalize k * Y = V at p2 p4 ⊢
  intro e
  have e9 := congrArg Int64.toInt e
  rw [show (lN (U + V)).toInt = ((U + V : Nat) : Int) from lg_ofNat_toInt (by omega)] at e9
  have e0 : (0 : Int64).toInt = 0 := by decide
  rw [e0] at e9
  omega
def zbel (f : Nat → Int32) : Nat → Int32
  | 0 => 0
  | k + 1 => zbel f k + (if f (15 + 5 * k) = -1 then f (11 + 5 * k) else 0)
theorem zbelS {f : Nat → Int32} {x y k k' : Int32} (h : x.toInt = (zbel f k.toInt.toNat).toInt) (hk : k'.toInt = k.toInt + 1) (h0 : 0 ≤ k.toInt) (hy : y = if f (15 + 5 * k.toInt.toNat) = -1 then f (11 + 5 * k.toInt.toNat) else 0) : (x + y).toInt = (zbel f k'.toInt.toNat).toInt := by
  have e : k'.toInt.toNat = k.toInt.toNat + 1 := by omega
  rw [e, Int32.toInt_inj.mp h, hy]; rfl
theorem znat {x : Int32} (h : 0 ≤ x.toInt) : x = nI x.toInt.toNat := by
  obtain ⟨n, h1, e1, h3⟩ := znN (x := x) rfl h
  have : x.toInt.toNat = n := by omega
  rw [this]; exact e1
theorem zixF {f : Nat → Int32} {i : Int32} {j : Nat} (h : i.toInt = (j : Int)) : f i.toNatClampNeg = f j := by rw [zcl]; congr 1; omega
theorem zjge {n : Int32} {N j : Nat} (hn : n = nI N) (hN : N < 2 ^ 31) (c : n ≤ nI j) : N ≤ j := by
  rcases Nat.lt_or_ge j N with q | q
  · rw [hn] at c
    exact absurd c (nI_ge q hN)
  · exact q
