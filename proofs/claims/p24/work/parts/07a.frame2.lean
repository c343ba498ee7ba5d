/-- the k-th of a list -/
def zl (l : List Nat) : Nat → Nat := fun k => l.getD k 0
def zf (l : List (Nat → Int32)) : Nat → Nat → Int32 := fun k => l.getD k (fun _ => 0)
theorem zge {x : Int32} (h : ¬ x < 0) : (0 : Int32) ≤ x := Int32.not_lt.mp h
/-- an array of booleans holds such -/
def zZ (f : Nat → Int32) : Prop := ∀ i, i < 8 → fits .boolean (.int (f i)) = true
theorem zZ0 : zZ (fun _ => 0) := fun _ _ => rfl
theorem zZc {f h : Nat → Int32} (hf : zZ f) : zZ (va_cpy f h 0 0 8) := by
  intro i hi
  have e : va_cpy f h 0 0 8 i = f i := by
    show (if 0 ≤ i ∧ i < 0 + 8 then f (0 + (i - 0)) else h i) = f i
    rw [if_pos ⟨Nat.zero_le _, by omega⟩]
    congr 1
    omega
  rw [e]; exact hf i hi
theorem zZs {f : Nat → Int32} (hf : zZ f) : ∀ i, i < (Int32.toNatClampNeg 8) → fits .boolean (.int (f (Int32.toNatClampNeg 0 + i))) = true := by
  intro i hi
  have hi : i < 8 := hi
  rw [show Int32.toNatClampNeg 0 + i = i from Nat.zero_add i]
  exact hf i hi
theorem zrgA {n : Int32} (M : Nat) {m : Int32} (hm : m.toInt = M) (h : ¬ n < 0 ∧ ¬ m < n) : ∃ N : Nat, N ≤ M ∧ n = nI N := nI_of2 hm h.1 (Int32.not_lt.mp h.2)
theorem zrg100 {n : Int32} (h : ¬ n < 0 ∧ ¬ 100 < n) : ∃ N : Nat, N ≤ 100 ∧ n = nI N := zrgA 100 (by decide) h
theorem zrg60 {n : Int32} (h : ¬ n < 0 ∧ ¬ 60 < n) : ∃ N : Nat, N ≤ 100 ∧ n = nI N := by
  obtain ⟨N, h1, h2⟩ := zrgA 60 (by decide) h
  exact ⟨N, by omega, h2⟩
theorem zrg30 {n : Int32} (h : ¬ n < 0 ∧ ¬ 30 < n) : ∃ N : Nat, N ≤ 100 ∧ n = nI N := by
  obtain ⟨N, h1, h2⟩ := zrgA 30 (by decide) h
  exact ⟨N, by omega, h2⟩
theorem zrg1 {n : Int32} (h : ¬ n < 1 ∧ ¬ 60 < n) : ∃ N : Nat, N ≤ 100 ∧ n = nI N := by
  refine zrg60 ⟨fun q => h.1 ?_, h.2⟩
  exact Int32.lt_of_lt_of_le q (by decide)
theorem zgt0 {x : Int32} {m : Int32} (h : ¬ x < 1 ∧ ¬ m < x) : 0 < x := Int32.lt_of_lt_of_le (by decide) (Int32.not_lt.mp h.1)
theorem zjl {n : Int32} {N j : Nat} (hn : n = nI N) (hj : j < 2 ^ 31) (c : ¬ n ≤ nI j) : j < N := by
  rcases Nat.lt_or_ge j N with q | q
  · exact q
  · exfalso
    rw [hn] at c
    exact c (nI_le q hj)
/-- what count answers of a new object -/
def zcount (w : Int32) : Int32 := if w = 3 then -1 else if w = 5 then 20 else if w = 0 ∨ w = 1 ∨ w = 2 ∨ w = 4 ∨ w = 6 ∨ w = 7 ∨ w = 8 ∨ w = 9 ∨ w = 10 ∨ w = 11 ∨ w = 12 then 0 else -1
theorem zup0 {f : Nat → Option Nat} {j q r : Nat} (h : j ≠ 0) (e : f 0 = some r) : va_up f j (some q) 0 = some r := by
  unfold va_up
  rw [if_neg (fun z => h z.symm)]
  exact e
