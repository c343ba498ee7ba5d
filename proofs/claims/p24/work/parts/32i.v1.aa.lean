/-! THE TOWN OF BOTH SIDES: folds, turns one behind another, views; what is told of a town as functions of its rows -/
def zFo (op : Int32 → Int32 → Int32) (g : Nat → Int32) : Nat → Int32
  | 0 => 0
  | k + 1 => op (zFo op g k) (g k)
theorem zFo_c {op : Int32 → Int32 → Int32} {g g' : Nat → Int32} : ∀ n : Nat, (∀ i, i < n → g i = g' i) → zFo op g n = zFo op g' n
  | 0, _ => rfl
  | n + 1, h => by
    show op (zFo op g n) (g n) = op (zFo op g' n) (g' n)
    rw [zFo_c n (fun i hi => h i (Nat.lt_succ_of_lt hi)), h n (Nat.lt_succ_self n)]
theorem zFo_0 {op : Int32 → Int32 → Int32} {g : Nat → Int32} {n k : Int32} (hn : n.toInt = 0) (hk : k.toInt = 0) : n = zFo op g k.toInt.toNat := by
  rw [hk]; exact Int32.toInt_inj.mp (hn.trans (by decide : (0 : Int) = (0 : Int32).toInt))
theorem zFo_s {op : Int32 → Int32 → Int32} {g : Nat → Int32} {n n' k k' : Int32} (h : n = zFo op g k.toInt.toNat) (hk : k'.toInt = k.toInt + 1) (h0 : 0 ≤ k.toInt) (e : n' = op n (g k.toInt.toNat)) : n' = zFo op g k'.toInt.toNat := by
  rw [show k'.toInt.toNat = k.toInt.toNat + 1 by omega]
  show n' = op (zFo op g k.toInt.toNat) (g k.toInt.toNat)
  rw [← h]; exact e
theorem zFo_x {op : Int32 → Int32 → Int32} {g : Nat → Int32} {n k b : Int32} (h : n = zFo op g k.toInt.toNat) (e : k.toInt = b.toInt) : n = zFo op g b.toInt.toNat := by rw [← e]; exact h
abbrev zSu : (Nat → Int32) → Nat → Int32 := zFo (fun a b => a + b)
abbrev zOf : (Nat → Int32) → Nat → Int32 := zFo (fun a b => a ||| b)
def zIt {σ : Type} (F : Nat → σ → σ) (s : σ) : Nat → σ
  | 0 => s
  | k + 1 => F k (zIt F s k)
theorem zIt_0 {σ : Type} {F : Nat → σ → σ} {s s' : σ} {k : Int32} (hk : k.toInt = 0) (e : s' = s) : s' = zIt F s k.toInt.toNat := by rw [hk]; exact e
theorem zIt_s {σ : Type} {F : Nat → σ → σ} {s a a' : σ} {k k' : Int32} (h : a = zIt F s k.toInt.toNat) (hk : k'.toInt = k.toInt + 1) (h0 : 0 ≤ k.toInt) (e : a' = F k.toInt.toNat a) : a' = zIt F s k'.toInt.toNat := by
  rw [show k'.toInt.toNat = k.toInt.toNat + 1 by omega]
  show a' = F k.toInt.toNat (zIt F s k.toInt.toNat)
  rw [← h]; exact e
theorem zIt_x {σ : Type} {F : Nat → σ → σ} {s a : σ} {k b : Int32} (h : a = zIt F s k.toInt.toNat) (e : k.toInt = b.toInt) : a = zIt F s b.toInt.toNat := by rw [← e]; exact h
theorem zIt_c {σ σ' : Type} {R : σ → σ' → Prop} {F : Nat → σ → σ} {F' : Nat → σ' → σ'} {s : σ} {s' : σ'} (h : R s s') : ∀ n : Nat, (∀ k a a', k < n → R a a' → R (F k a) (F' k a')) → R (zIt F s n) (zIt F' s' n)
  | 0, _ => h
  | n + 1, H => H n _ _ (Nat.lt_succ_self n) (zIt_c h n (fun k a a' hk => H k a a' (Nat.lt_succ_of_lt hk)))
theorem zItR_0 {σ σ' : Type} {R : σ → σ' → Prop} {F : Nat → σ' → σ'} {s' : σ'} {a : σ} {k : Int32} (hk : k.toInt = 0) (e : R a s') : R a (zIt F s' k.toInt.toNat) := by rw [hk]; exact e
theorem zItR_s {σ σ' : Type} {R : σ → σ' → Prop} {F : Nat → σ' → σ'} {s' : σ'} {a a' : σ} {k k' : Int32} (h : R a (zIt F s' k.toInt.toNat)) (hk : k'.toInt = k.toInt + 1) (h0 : 0 ≤ k.toInt) (e : ∀ b, R a b → R a' (F k.toInt.toNat b)) : R a' (zIt F s' k'.toInt.toNat) := by
  rw [show k'.toInt.toNat = k.toInt.toNat + 1 by omega]
  exact e _ h
theorem zItR_x {σ σ' : Type} {R : σ → σ' → Prop} {F : Nat → σ' → σ'} {s' : σ'} {a : σ} {k b : Int32} (h : R a (zIt F s' k.toInt.toNat)) (e : k.toInt = b.toInt) : R a (zIt F s' b.toInt.toNat) := by rw [← e]; exact h
/-- rows of a town: 0 belief 1 purse 2 shares 3 till 4 dry 5 trust 6 cost 7 need 8 gain 9 state -/
abbrev zRw : Type := Nat → Nat → Int32
def zV (m : Nat → Int32) : zRw := fun r x => match r with
  | 0 => m (11 + 5 * x)
  | 1 => m (12 + 5 * x)
  | 2 => m (13 + 5 * x)
  | 3 => m (15 + 5 * x)
  | 4 => m (14 + 5 * x)
  | 5 => m (51 + x)
  | 6 => m (115 + 4 * x)
  | 7 => m (116 + 4 * x)
  | 8 => m (117 + 4 * x)
  | _ => m (118 + 4 * x)
def zEq (f f' : zRw) : Prop := (∀ r x, r < 5 → x < 8 → f r x = f' r x) ∧ (∀ x o, x < 8 → o < 8 → x ≠ o → f 5 (8 * x + o) = f' 5 (8 * x + o)) ∧ (∀ r w, 6 ≤ r → r ≤ 9 → w < 6 → f r w = f' r w)
theorem zEq_r (f : zRw) : zEq f f := ⟨fun _ _ _ _ => rfl, fun _ _ _ _ _ => rfl, fun _ _ _ _ _ => rfl⟩
theorem zEq_t {f g h : zRw} (a : zEq f g) (b : zEq g h) : zEq f h := ⟨fun r x h1 h2 => (a.1 r x h1 h2).trans (b.1 r x h1 h2), fun x o h1 h2 h3 => (a.2.1 x o h1 h2 h3).trans (b.2.1 x o h1 h2 h3), fun r w h1 h2 h3 => (a.2.2 r w h1 h2 h3).trans (b.2.2 r w h1 h2 h3)⟩
theorem zEq_s {f g : zRw} (a : zEq f g) : zEq g f := ⟨fun r x h1 h2 => (a.1 r x h1 h2).symm, fun x o h1 h2 h3 => (a.2.1 x o h1 h2 h3).symm, fun r w h1 h2 h3 => (a.2.2 r w h1 h2 h3).symm⟩
/-- one place of a row set anew -/
def zSet (f : zRw) (r x : Nat) (v : Int32) : zRw := zu f r (upd (f r) x v)
theorem zSet_i (f : zRw) (r x : Nat) (v : Int32) : zSet f r x v r x = v := by
  show (if r = r then upd (f r) x v else f r) x = v
  rw [if_pos rfl]; exact if_pos rfl
theorem zSet_x (f : zRw) (r x : Nat) (v : Int32) {y : Nat} (h : y ≠ x) : zSet f r x v r y = f r y := by
  show (if r = r then upd (f r) x v else f r) y = f r y
  rw [if_pos rfl]; exact if_neg h
theorem zSet_r (f : zRw) (r x : Nat) (v : Int32) {q : Nat} (h : q ≠ r) : zSet f r x v q = f q := if_neg h
theorem zSet_a (f : zRw) (r x : Nat) (v : Int32) (q y : Nat) : zSet f r x v q y = if q = r ∧ y = x then v else f q y := by
  by_cases a : q = r
  · subst a
    by_cases b : y = x
    · subst b; rw [zSet_i, if_pos ⟨rfl, rfl⟩]
    · rw [zSet_x f q x v b, if_neg (fun o => b o.2)]
  · rw [zSet_r f r x v a, if_neg (fun o => a o.1)]
theorem zSet_c {f f' : zRw} {r x : Nat} {v v' : Int32} (h : zEq f f') (e : v = v') : zEq (zSet f r x v) (zSet f' r x v') := by
  subst e
  refine ⟨fun q y h1 h2 => ?_, fun y o h1 h2 h3 => ?_, fun q y h1 h2 h3 => ?_⟩
  · rw [zSet_a, zSet_a, h.1 q y h1 h2]
  · rw [zSet_a, zSet_a, h.2.1 y o h1 h2 h3]
  · rw [zSet_a, zSet_a, h.2.2 q y h1 h2 h3]
/-! the model's places -/
theorem zVp0 {m : Nat → Int32} {x : Nat} {v : Int32} (hx : x < 8) : zEq (zV (upd m (11 + 5 * x) v)) (zSet (zV m) 0 x v) := by
  refine ⟨fun q y h1 h2 => ?_, fun y o h1 h2 h3 => ?_, fun q y h1 h2 h3 => ?_⟩
  · rw [zSet_a]
    rcases (show q = 0 ∨ q = 1 ∨ q = 2 ∨ q = 3 ∨ q = 4 by omega) with e | e | e | e | e <;> subst e
    · by_cases c : y = x
      · rw [if_pos ⟨rfl, c⟩, c]; exact (pk_us : upd m (11 + 5 * x) v (11 + 5 * x) = v)
      · rw [if_neg (fun o => c o.2)]; exact (pk_un (by omega) : upd m (11 + 5 * x) v (11 + 5 * y) = m (11 + 5 * y))
    · rw [if_neg (by omega)]; exact (pk_un (by omega) : upd m (11 + 5 * x) v (12 + 5 * y) = m (12 + 5 * y))
    · rw [if_neg (by omega)]; exact (pk_un (by omega) : upd m (11 + 5 * x) v (13 + 5 * y) = m (13 + 5 * y))
    · rw [if_neg (by omega)]; exact (pk_un (by omega) : upd m (11 + 5 * x) v (15 + 5 * y) = m (15 + 5 * y))
    · rw [if_neg (by omega)]; exact (pk_un (by omega) : upd m (11 + 5 * x) v (14 + 5 * y) = m (14 + 5 * y))
  · rw [zSet_a, if_neg (by omega)]; exact (pk_un (by omega) : upd m (11 + 5 * x) v (51 + (8 * y + o)) = m (51 + (8 * y + o)))
  · rw [zSet_a, if_neg (by omega)]
    rcases (show q = 6 ∨ q = 7 ∨ q = 8 ∨ q = 9 by omega) with e | e | e | e <;> subst e
    · exact (pk_un (by omega) : upd m (11 + 5 * x) v (115 + 4 * y) = m (115 + 4 * y))
    · exact (pk_un (by omega) : upd m (11 + 5 * x) v (116 + 4 * y) = m (116 + 4 * y))
    · exact (pk_un (by omega) : upd m (11 + 5 * x) v (117 + 4 * y) = m (117 + 4 * y))
    · exact (pk_un (by omega) : upd m (11 + 5 * x) v (118 + 4 * y) = m (118 + 4 * y))
theorem zVp1 {m : Nat → Int32} {x : Nat} {v : Int32} (hx : x < 8) : zEq (zV (upd m (12 + 5 * x) v)) (zSet (zV m) 1 x v) := by
  refine ⟨fun q y h1 h2 => ?_, fun y o h1 h2 h3 => ?_, fun q y h1 h2 h3 => ?_⟩
  · rw [zSet_a]
    rcases (show q = 0 ∨ q = 1 ∨ q = 2 ∨ q = 3 ∨ q = 4 by omega) with e | e | e | e | e <;> subst e
    · rw [if_neg (by omega)]; exact (pk_un (by omega) : upd m (12 + 5 * x) v (11 + 5 * y) = m (11 + 5 * y))
    · by_cases c : y = x
      · rw [if_pos ⟨rfl, c⟩, c]; exact (pk_us : upd m (12 + 5 * x) v (12 + 5 * x) = v)
      · rw [if_neg (fun o => c o.2)]; exact (pk_un (by omega) : upd m (12 + 5 * x) v (12 + 5 * y) = m (12 + 5 * y))
    · rw [if_neg (by omega)]; exact (pk_un (by omega) : upd m (12 + 5 * x) v (13 + 5 * y) = m (13 + 5 * y))
    · rw [if_neg (by omega)]; exact (pk_un (by omega) : upd m (12 + 5 * x) v (15 + 5 * y) = m (15 + 5 * y))
    · rw [if_neg (by omega)]; exact (pk_un (by omega) : upd m (12 + 5 * x) v (14 + 5 * y) = m (14 + 5 * y))
  · rw [zSet_a, if_neg (by omega)]; exact (pk_un (by omega) : upd m (12 + 5 * x) v (51 + (8 * y + o)) = m (51 + (8 * y + o)))
  · rw [zSet_a, if_neg (by omega)]
    rcases (show q = 6 ∨ q = 7 ∨ q = 8 ∨ q = 9 by omega) with e | e | e | e <;> subst e
    · exact (pk_un (by omega) : upd m (12 + 5 * x) v (115 + 4 * y) = m (115 + 4 * y))
    · exact (pk_un (by omega) : upd m (12 + 5 * x) v (116 + 4 * y) = m (116 + 4 * y))
    · exact (pk_un (by omega) : upd m (12 + 5 * x) v (117 + 4 * y) = m (117 + 4 * y))
    · exact (pk_un (by omega) : upd m (12 + 5 * x) v (118 + 4 * y) = m (118 + 4 * y))
theorem zVp2 {m : Nat → Int32} {x : Nat} {v : Int32} (hx : x < 8) : zEq (zV (upd m (13 + 5 * x) v)) (zSet (zV m) 2 x v) := by
  refine ⟨fun q y h1 h2 => ?_, fun y o h1 h2 h3 => ?_, fun q y h1 h2 h3 => ?_⟩
  · rw [zSet_a]
    rcases (show q = 0 ∨ q = 1 ∨ q = 2 ∨ q = 3 ∨ q = 4 by omega) with e | e | e | e | e <;> subst e
    · rw [if_neg (by omega)]; exact (pk_un (by omega) : upd m (13 + 5 * x) v (11 + 5 * y) = m (11 + 5 * y))
    · rw [if_neg (by omega)]; exact (pk_un (by omega) : upd m (13 + 5 * x) v (12 + 5 * y) = m (12 + 5 * y))
    · by_cases c : y = x
      · rw [if_pos ⟨rfl, c⟩, c]; exact (pk_us : upd m (13 + 5 * x) v (13 + 5 * x) = v)
      · rw [if_neg (fun o => c o.2)]; exact (pk_un (by omega) : upd m (13 + 5 * x) v (13 + 5 * y) = m (13 + 5 * y))
    · rw [if_neg (by omega)]; exact (pk_un (by omega) : upd m (13 + 5 * x) v (15 + 5 * y) = m (15 + 5 * y))
    · rw [if_neg (by omega)]; exact (pk_un (by omega) : upd m (13 + 5 * x) v (14 + 5 * y) = m (14 + 5 * y))
  · rw [zSet_a, if_neg (by omega)]; exact (pk_un (by omega) : upd m (13 + 5 * x) v (51 + (8 * y + o)) = m (51 + (8 * y + o)))
  · rw [zSet_a, if_neg (by omega)]
    rcases (show q = 6 ∨ q = 7 ∨ q = 8 ∨ q = 9 by omega) with e | e | e | e <;> subst e
    · exact (pk_un (by omega) : upd m (13 + 5 * x) v (115 + 4 * y) = m (115 + 4 * y))
    · exact (pk_un (by omega) : upd m (13 + 5 * x) v (116 + 4 * y) = m (116 + 4 * y))
    · exact (pk_un (by omega) : upd m (13 + 5 * x) v (117 + 4 * y) = m (117 + 4 * y))
    · exact (pk_un (by omega) : upd m (13 + 5 * x) v (118 + 4 * y) = m (118 + 4 * y))
theorem zVp3 {m : Nat → Int32} {x : Nat} {v : Int32} (hx : x < 8) : zEq (zV (upd m (15 + 5 * x) v)) (zSet (zV m) 3 x v) := by
  refine ⟨fun q y h1 h2 => ?_, fun y o h1 h2 h3 => ?_, fun q y h1 h2 h3 => ?_⟩
  · rw [zSet_a]
    rcases (show q = 0 ∨ q = 1 ∨ q = 2 ∨ q = 3 ∨ q = 4 by omega) with e | e | e | e | e <;> subst e
    · rw [if_neg (by omega)]; exact (pk_un (by omega) : upd m (15 + 5 * x) v (11 + 5 * y) = m (11 + 5 * y))
    · rw [if_neg (by omega)]; exact (pk_un (by omega) : upd m (15 + 5 * x) v (12 + 5 * y) = m (12 + 5 * y))
    · rw [if_neg (by omega)]; exact (pk_un (by omega) : upd m (15 + 5 * x) v (13 + 5 * y) = m (13 + 5 * y))
    · by_cases c : y = x
      · rw [if_pos ⟨rfl, c⟩, c]; exact (pk_us : upd m (15 + 5 * x) v (15 + 5 * x) = v)
      · rw [if_neg (fun o => c o.2)]; exact (pk_un (by omega) : upd m (15 + 5 * x) v (15 + 5 * y) = m (15 + 5 * y))
    · rw [if_neg (by omega)]; exact (pk_un (by omega) : upd m (15 + 5 * x) v (14 + 5 * y) = m (14 + 5 * y))
  · rw [zSet_a, if_neg (by omega)]; exact (pk_un (by omega) : upd m (15 + 5 * x) v (51 + (8 * y + o)) = m (51 + (8 * y + o)))
  · rw [zSet_a, if_neg (by omega)]
    rcases (show q = 6 ∨ q = 7 ∨ q = 8 ∨ q = 9 by omega) with e | e | e | e <;> subst e
    · exact (pk_un (by omega) : upd m (15 + 5 * x) v (115 + 4 * y) = m (115 + 4 * y))
    · exact (pk_un (by omega) : upd m (15 + 5 * x) v (116 + 4 * y) = m (116 + 4 * y))
    · exact (pk_un (by omega) : upd m (15 + 5 * x) v (117 + 4 * y) = m (117 + 4 * y))
    · exact (pk_un (by omega) : upd m (15 + 5 * x) v (118 + 4 * y) = m (118 + 4 * y))
theorem zVp4 {m : Nat → Int32} {x : Nat} {v : Int32} (hx : x < 8) : zEq (zV (upd m (14 + 5 * x) v)) (zSet (zV m) 4 x v) := by
  refine ⟨fun q y h1 h2 => ?_, fun y o h1 h2 h3 => ?_, fun q y h1 h2 h3 => ?_⟩
  · rw [zSet_a]
    rcases (show q = 0 ∨ q = 1 ∨ q = 2 ∨ q = 3 ∨ q = 4 by omega) with e | e | e | e | e <;> subst e
    · rw [if_neg (by omega)]; exact (pk_un (by omega) : upd m (14 + 5 * x) v (11 + 5 * y) = m (11 + 5 * y))
    · rw [if_neg (by omega)]; exact (pk_un (by omega) : upd m (14 + 5 * x) v (12 + 5 * y) = m (12 + 5 * y))
    · rw [if_neg (by omega)]; exact (pk_un (by omega) : upd m (14 + 5 * x) v (13 + 5 * y) = m (13 + 5 * y))
    · rw [if_neg (by omega)]; exact (pk_un (by omega) : upd m (14 + 5 * x) v (15 + 5 * y) = m (15 + 5 * y))
    · by_cases c : y = x
      · rw [if_pos ⟨rfl, c⟩, c]; exact (pk_us : upd m (14 + 5 * x) v (14 + 5 * x) = v)
      · rw [if_neg (fun o => c o.2)]; exact (pk_un (by omega) : upd m (14 + 5 * x) v (14 + 5 * y) = m (14 + 5 * y))
  · rw [zSet_a, if_neg (by omega)]; exact (pk_un (by omega) : upd m (14 + 5 * x) v (51 + (8 * y + o)) = m (51 + (8 * y + o)))
  · rw [zSet_a, if_neg (by omega)]
    rcases (show q = 6 ∨ q = 7 ∨ q = 8 ∨ q = 9 by omega) with e | e | e | e <;> subst e
    · exact (pk_un (by omega) : upd m (14 + 5 * x) v (115 + 4 * y) = m (115 + 4 * y))
    · exact (pk_un (by omega) : upd m (14 + 5 * x) v (116 + 4 * y) = m (116 + 4 * y))
    · exact (pk_un (by omega) : upd m (14 + 5 * x) v (117 + 4 * y) = m (117 + 4 * y))
    · exact (pk_un (by omega) : upd m (14 + 5 * x) v (118 + 4 * y) = m (118 + 4 * y))
theorem zVp6 {m : Nat → Int32} {x : Nat} {v : Int32} (hx : x < 6) : zEq (zV (upd m (115 + 4 * x) v)) (zSet (zV m) 6 x v) := by
  refine ⟨fun q y h1 h2 => ?_, fun y o h1 h2 h3 => ?_, fun q y h1 h2 h3 => ?_⟩
  · rw [zSet_a, if_neg (by omega)]
    rcases (show q = 0 ∨ q = 1 ∨ q = 2 ∨ q = 3 ∨ q = 4 by omega) with e | e | e | e | e <;> subst e
    · exact (pk_un (by omega) : upd m (115 + 4 * x) v (11 + 5 * y) = m (11 + 5 * y))
    · exact (pk_un (by omega) : upd m (115 + 4 * x) v (12 + 5 * y) = m (12 + 5 * y))
    · exact (pk_un (by omega) : upd m (115 + 4 * x) v (13 + 5 * y) = m (13 + 5 * y))
    · exact (pk_un (by omega) : upd m (115 + 4 * x) v (15 + 5 * y) = m (15 + 5 * y))
    · exact (pk_un (by omega) : upd m (115 + 4 * x) v (14 + 5 * y) = m (14 + 5 * y))
  · rw [zSet_a, if_neg (by omega)]; exact (pk_un (by omega) : upd m (115 + 4 * x) v (51 + (8 * y + o)) = m (51 + (8 * y + o)))
  · rw [zSet_a]
    rcases (show q = 6 ∨ q = 7 ∨ q = 8 ∨ q = 9 by omega) with e | e | e | e <;> subst e
    · by_cases c : y = x
      · rw [if_pos ⟨rfl, c⟩, c]; exact (pk_us : upd m (115 + 4 * x) v (115 + 4 * x) = v)
      · rw [if_neg (fun o => c o.2)]; exact (pk_un (by omega) : upd m (115 + 4 * x) v (115 + 4 * y) = m (115 + 4 * y))
    · rw [if_neg (by omega)]; exact (pk_un (by omega) : upd m (115 + 4 * x) v (116 + 4 * y) = m (116 + 4 * y))
    · rw [if_neg (by omega)]; exact (pk_un (by omega) : upd m (115 + 4 * x) v (117 + 4 * y) = m (117 + 4 * y))
    · rw [if_neg (by omega)]; exact (pk_un (by omega) : upd m (115 + 4 * x) v (118 + 4 * y) = m (118 + 4 * y))
theorem zVp7 {m : Nat → Int32} {x : Nat} {v : Int32} (hx : x < 6) : zEq (zV (upd m (116 + 4 * x) v)) (zSet (zV m) 7 x v) := by
  refine ⟨fun q y h1 h2 => ?_, fun y o h1 h2 h3 => ?_, fun q y h1 h2 h3 => ?_⟩
  · rw [zSet_a, if_neg (by omega)]
    rcases (show q = 0 ∨ q = 1 ∨ q = 2 ∨ q = 3 ∨ q = 4 by omega) with e | e | e | e | e <;> subst e
    · exact (pk_un (by omega) : upd m (116 + 4 * x) v (11 + 5 * y) = m (11 + 5 * y))
    · exact (pk_un (by omega) : upd m (116 + 4 * x) v (12 + 5 * y) = m (12 + 5 * y))
    · exact (pk_un (by omega) : upd m (116 + 4 * x) v (13 + 5 * y) = m (13 + 5 * y))
    · exact (pk_un (by omega) : upd m (116 + 4 * x) v (15 + 5 * y) = m (15 + 5 * y))
    · exact (pk_un (by omega) : upd m (116 + 4 * x) v (14 + 5 * y) = m (14 + 5 * y))
  · rw [zSet_a, if_neg (by omega)]; exact (pk_un (by omega) : upd m (116 + 4 * x) v (51 + (8 * y + o)) = m (51 + (8 * y + o)))
  · rw [zSet_a]
    rcases (show q = 6 ∨ q = 7 ∨ q = 8 ∨ q = 9 by omega) with e | e | e | e <;> subst e
    · rw [if_neg (by omega)]; exact (pk_un (by omega) : upd m (116 + 4 * x) v (115 + 4 * y) = m (115 + 4 * y))
    · by_cases c : y = x
      · rw [if_pos ⟨rfl, c⟩, c]; exact (pk_us : upd m (116 + 4 * x) v (116 + 4 * x) = v)
      · rw [if_neg (fun o => c o.2)]; exact (pk_un (by omega) : upd m (116 + 4 * x) v (116 + 4 * y) = m (116 + 4 * y))
    · rw [if_neg (by omega)]; exact (pk_un (by omega) : upd m (116 + 4 * x) v (117 + 4 * y) = m (117 + 4 * y))
    · rw [if_neg (by omega)]; exact (pk_un (by omega) : upd m (116 + 4 * x) v (118 + 4 * y) = m (118 + 4 * y))
theorem zVp8 {m : Nat → Int32} {x : Nat} {v : Int32} (hx : x < 6) : zEq (zV (upd m (117 + 4 * x) v)) (zSet (zV m) 8 x v) := by
  refine ⟨fun q y h1 h2 => ?_, fun y o h1 h2 h3 => ?_, fun q y h1 h2 h3 => ?_⟩
  · rw [zSet_a, if_neg (by omega)]
    rcases (show q = 0 ∨ q = 1 ∨ q = 2 ∨ q = 3 ∨ q = 4 by omega) with e | e | e | e | e <;> subst e
    · exact (pk_un (by omega) : upd m (117 + 4 * x) v (11 + 5 * y) = m (11 + 5 * y))
    · exact (pk_un (by omega) : upd m (117 + 4 * x) v (12 + 5 * y) = m (12 + 5 * y))
    · exact (pk_un (by omega) : upd m (117 + 4 * x) v (13 + 5 * y) = m (13 + 5 * y))
    · exact (pk_un (by omega) : upd m (117 + 4 * x) v (15 + 5 * y) = m (15 + 5 * y))
    · exact (pk_un (by omega) : upd m (117 + 4 * x) v (14 + 5 * y) = m (14 + 5 * y))
  · rw [zSet_a, if_neg (by omega)]; exact (pk_un (by omega) : upd m (117 + 4 * x) v (51 + (8 * y + o)) = m (51 + (8 * y + o)))
  · rw [zSet_a]
    rcases (show q = 6 ∨ q = 7 ∨ q = 8 ∨ q = 9 by omega) with e | e | e | e <;> subst e
    · rw [if_neg (by omega)]; exact (pk_un (by omega) : upd m (117 + 4 * x) v (115 + 4 * y) = m (115 + 4 * y))
    · rw [if_neg (by omega)]; exact (pk_un (by omega) : upd m (117 + 4 * x) v (116 + 4 * y) = m (116 + 4 * y))
    · by_cases c : y = x
      · rw [if_pos ⟨rfl, c⟩, c]; exact (pk_us : upd m (117 + 4 * x) v (117 + 4 * x) = v)
      · rw [if_neg (fun o => c o.2)]; exact (pk_un (by omega) : upd m (117 + 4 * x) v (117 + 4 * y) = m (117 + 4 * y))
    · rw [if_neg (by omega)]; exact (pk_un (by omega) : upd m (117 + 4 * x) v (118 + 4 * y) = m (118 + 4 * y))
theorem zVp9 {m : Nat → Int32} {x : Nat} {v : Int32} (hx : x < 6) : zEq (zV (upd m (118 + 4 * x) v)) (zSet (zV m) 9 x v) := by
  refine ⟨fun q y h1 h2 => ?_, fun y o h1 h2 h3 => ?_, fun q y h1 h2 h3 => ?_⟩
  · rw [zSet_a, if_neg (by omega)]
    rcases (show q = 0 ∨ q = 1 ∨ q = 2 ∨ q = 3 ∨ q = 4 by omega) with e | e | e | e | e <;> subst e
    · exact (pk_un (by omega) : upd m (118 + 4 * x) v (11 + 5 * y) = m (11 + 5 * y))
    · exact (pk_un (by omega) : upd m (118 + 4 * x) v (12 + 5 * y) = m (12 + 5 * y))
    · exact (pk_un (by omega) : upd m (118 + 4 * x) v (13 + 5 * y) = m (13 + 5 * y))
    · exact (pk_un (by omega) : upd m (118 + 4 * x) v (15 + 5 * y) = m (15 + 5 * y))
    · exact (pk_un (by omega) : upd m (118 + 4 * x) v (14 + 5 * y) = m (14 + 5 * y))
  · rw [zSet_a, if_neg (by omega)]; exact (pk_un (by omega) : upd m (118 + 4 * x) v (51 + (8 * y + o)) = m (51 + (8 * y + o)))
  · rw [zSet_a]
    rcases (show q = 6 ∨ q = 7 ∨ q = 8 ∨ q = 9 by omega) with e | e | e | e <;> subst e
    · rw [if_neg (by omega)]; exact (pk_un (by omega) : upd m (118 + 4 * x) v (115 + 4 * y) = m (115 + 4 * y))
    · rw [if_neg (by omega)]; exact (pk_un (by omega) : upd m (118 + 4 * x) v (116 + 4 * y) = m (116 + 4 * y))
    · rw [if_neg (by omega)]; exact (pk_un (by omega) : upd m (118 + 4 * x) v (117 + 4 * y) = m (117 + 4 * y))
    · by_cases c : y = x
      · rw [if_pos ⟨rfl, c⟩, c]; exact (pk_us : upd m (118 + 4 * x) v (118 + 4 * x) = v)
      · rw [if_neg (fun o => c o.2)]; exact (pk_un (by omega) : upd m (118 + 4 * x) v (118 + 4 * y) = m (118 + 4 * y))
theorem zVp5 {m : Nat → Int32} {x o9 : Nat} {v : Int32} (hx : x < 8) (ho : o9 < 8) : zEq (zV (upd m (51 + (8 * x + o9)) v)) (zSet (zV m) 5 (8 * x + o9) v) := by
  refine ⟨fun q y h1 h2 => ?_, fun y o h1 h2 h3 => ?_, fun q y h1 h2 h3 => ?_⟩
  · rw [zSet_a, if_neg (by omega)]
    rcases (show q = 0 ∨ q = 1 ∨ q = 2 ∨ q = 3 ∨ q = 4 by omega) with e | e | e | e | e <;> subst e
    · exact (pk_un (by omega) : upd m (51 + (8 * x + o9)) v (11 + 5 * y) = m (11 + 5 * y))
    · exact (pk_un (by omega) : upd m (51 + (8 * x + o9)) v (12 + 5 * y) = m (12 + 5 * y))
    · exact (pk_un (by omega) : upd m (51 + (8 * x + o9)) v (13 + 5 * y) = m (13 + 5 * y))
    · exact (pk_un (by omega) : upd m (51 + (8 * x + o9)) v (15 + 5 * y) = m (15 + 5 * y))
    · exact (pk_un (by omega) : upd m (51 + (8 * x + o9)) v (14 + 5 * y) = m (14 + 5 * y))
  · rw [zSet_a]
    by_cases c : 8 * y + o = 8 * x + o9
    · rw [if_pos ⟨rfl, c⟩, c]; exact (pk_us : upd m (51 + (8 * x + o9)) v (51 + (8 * x + o9)) = v)
    · rw [if_neg (fun q => c q.2)]; exact (pk_un (by omega) : upd m (51 + (8 * x + o9)) v (51 + (8 * y + o)) = m (51 + (8 * y + o)))
  · rw [zSet_a, if_neg (by omega)]
    rcases (show q = 6 ∨ q = 7 ∨ q = 8 ∨ q = 9 by omega) with e | e | e | e <;> subst e
    · exact (pk_un (by omega) : upd m (51 + (8 * x + o9)) v (115 + 4 * y) = m (115 + 4 * y))
    · exact (pk_un (by omega) : upd m (51 + (8 * x + o9)) v (116 + 4 * y) = m (116 + 4 * y))
    · exact (pk_un (by omega) : upd m (51 + (8 * x + o9)) v (117 + 4 * y) = m (117 + 4 * y))
    · exact (pk_un (by omega) : upd m (51 + (8 * x + o9)) v (118 + 4 * y) = m (118 + 4 * y))
theorem zVo {m : Nat → Int32} {i : Nat} {v : Int32} (h : i < 11 ∨ 139 ≤ i) : zEq (zV (upd m i v)) (zV m) := by
  refine ⟨fun q y h1 h2 => ?_, fun y o h1 h2 h3 => ?_, fun q y h1 h2 h3 => ?_⟩
  · rcases (show q = 0 ∨ q = 1 ∨ q = 2 ∨ q = 3 ∨ q = 4 by omega) with e | e | e | e | e <;> subst e
    · exact (pk_un (by omega) : upd m i v (11 + 5 * y) = m (11 + 5 * y))
    · exact (pk_un (by omega) : upd m i v (12 + 5 * y) = m (12 + 5 * y))
    · exact (pk_un (by omega) : upd m i v (13 + 5 * y) = m (13 + 5 * y))
    · exact (pk_un (by omega) : upd m i v (15 + 5 * y) = m (15 + 5 * y))
    · exact (pk_un (by omega) : upd m i v (14 + 5 * y) = m (14 + 5 * y))
  · exact (pk_un (by omega) : upd m i v (51 + (8 * y + o)) = m (51 + (8 * y + o)))
  · rcases (show q = 6 ∨ q = 7 ∨ q = 8 ∨ q = 9 by omega) with e | e | e | e <;> subst e
    · exact (pk_un (by omega) : upd m i v (115 + 4 * y) = m (115 + 4 * y))
    · exact (pk_un (by omega) : upd m i v (116 + 4 * y) = m (116 + 4 * y))
    · exact (pk_un (by omega) : upd m i v (117 + 4 * y) = m (117 + 4 * y))
    · exact (pk_un (by omega) : upd m i v (118 + 4 * y) = m (118 + 4 * y))
/-- two rows of the model of one view -/
theorem zV_of {m m' : Nat → Int32} (h : ∀ i, 11 ≤ i → i < 139 → m i = m' i) : zEq (zV m) (zV m') := by
  refine ⟨fun q y h1 h2 => ?_, fun y o h1 h2 h3 => ?_, fun q y h1 h2 h3 => ?_⟩
  · rcases (show q = 0 ∨ q = 1 ∨ q = 2 ∨ q = 3 ∨ q = 4 by omega) with e | e | e | e | e <;> subst e
    · exact h (11 + 5 * y) (by omega) (by omega)
    · exact h (12 + 5 * y) (by omega) (by omega)
    · exact h (13 + 5 * y) (by omega) (by omega)
    · exact h (15 + 5 * y) (by omega) (by omega)
    · exact h (14 + 5 * y) (by omega) (by omega)
  · exact h (51 + (8 * y + o)) (by omega) (by omega)
  · rcases (show q = 6 ∨ q = 7 ∨ q = 8 ∨ q = 9 by omega) with e | e | e | e <;> subst e
    · exact h (115 + 4 * y) (by omega) (by omega)
    · exact h (116 + 4 * y) (by omega) (by omega)
    · exact h (117 + 4 * y) (by omega) (by omega)
    · exact h (118 + 4 * y) (by omega) (by omega)
/-! numbers kept within bounds -/
def zCl (v : Int32) : Int32 := if v.toInt < 0 then 0 else if 99 < v.toInt then 99 else v
def zCap (v : Int32) : Int32 := if v.toInt < 9999 then v else 9999
theorem zi0 : (0 : Int32).toInt = 0 := by decide
theorem zi99 : (99 : Int32).toInt = 99 := by decide
theorem zi9k : (9999 : Int32).toInt = 9999 := by decide
theorem zCl_b (v : Int32) : 0 ≤ (zCl v).toInt ∧ (zCl v).toInt ≤ 99 := by
  unfold zCl
  by_cases a : v.toInt < 0
  · rw [if_pos a, zi0]; omega
  · rw [if_neg a]
    by_cases b : 99 < v.toInt
    · rw [if_pos b, zi99]; omega
    · rw [if_neg b]; omega
/-- as both sides make it -/
theorem zCl_of {v q : Int32} (h : (v.toInt < 0 ∧ q.toInt = 0) ∨ (99 < v.toInt ∧ q.toInt = 99) ∨ (0 ≤ v.toInt ∧ v.toInt ≤ 99 ∧ q.toInt = v.toInt)) : q = zCl v := by
  unfold zCl
  rcases h with ⟨a, b⟩ | ⟨a, b⟩ | ⟨a, b, d⟩
  · rw [if_pos a]; exact Int32.toInt_inj.mp (b.trans zi0.symm)
  · rw [if_neg (by omega), if_pos a]; exact Int32.toInt_inj.mp (b.trans zi99.symm)
  · rw [if_neg (by omega), if_neg (by omega)]; exact Int32.toInt_inj.mp d
theorem zCap_of {v q : Int32} (h : (v.toInt < 9999 ∧ q.toInt = v.toInt) ∨ (9999 ≤ v.toInt ∧ q.toInt = 9999)) : q = zCap v := by
  unfold zCap
  rcases h with ⟨a, b⟩ | ⟨a, b⟩
  · rw [if_pos a]; exact Int32.toInt_inj.mp b
  · rw [if_neg (by omega)]; exact Int32.toInt_inj.mp (b.trans zi9k.symm)
theorem zCap_m (v : Int32) : (if v < 9999 then v else 9999) = zCap v := by
  unfold zCap
  by_cases a : v.toInt < 9999
  · rw [if_pos a, if_pos (Int32.lt_iff_toInt_lt.mpr (by rw [zi9k]; exact a))]
  · rw [if_neg a, if_neg (fun q => a (by have := Int32.lt_iff_toInt_lt.mp q; rw [zi9k] at this; exact this))]
/-! what is told of a town -/
def zBit (x : Nat) : Int32 := (1 : Int32) <<< (nI x &&& 31)
theorem zBit_k {k : Int32} (h : 0 ≤ k.toInt) : (1 : Int32) <<< (k &&& 31) = zBit k.toInt.toNat := by unfold zBit; rw [← znat h]
def zBel (f : zRw) (n : Nat) : Int32 := zSu (fun x => if (f 3 x).toInt = -1 then f 0 x else 0) n
def zHs (f : zRw) (n : Nat) : Int32 := zOf (fun x => if (f 3 x).toInt = -1 then zBit x else 0) n
def zPop (s : Int32) : Int32 := zSu (fun k => (s >>> (nI k &&& 31)) &&& 1) 31
def zMean (f : zRw) (n : Nat) : Int32 := if (zPop (zHs f n)).toInt = 0 then 0 else zBel f n / zPop (zHs f n)
def zPrice (f : zRw) (n : Nat) : Int32 := zMean f n * zMean f n / 50 + 1
def zPlS (f : zRw) (n x : Nat) : Int32 := zSu (fun o => if o = x then 0 else if (f 3 o).toInt = -1 then f 5 (8 * x + o) * (f 0 o - f 0 x) else 0) n
def zPull (f : zRw) (n x : Nat) : Int32 := zPlS f n x / 40
def zTie (f : zRw) (n x : Nat) : Int32 := zSu (fun o => if o = x then 0 else if 0 < (f 5 (8 * x + o)).toInt then 1 else 0) n
def zWks (f : zRw) (n : Nat) (s : Int32) : Int32 := zOf (fun w => if (f 9 w).toInt = s.toInt then zBit w else 0) n
theorem zBel_c {f f' : zRw} {n : Nat} (h : zEq f f') (hn : n ≤ 8) : zBel f n = zBel f' n := zFo_c n (fun i hi => by
  show (if (f 3 i).toInt = -1 then f 0 i else 0) = (if (f' 3 i).toInt = -1 then f' 0 i else 0)
  rw [h.1 3 i (by omega) (by omega), h.1 0 i (by omega) (by omega)])
theorem zHs_c {f f' : zRw} {n : Nat} (h : zEq f f') (hn : n ≤ 8) : zHs f n = zHs f' n := zFo_c n (fun i hi => by
  show (if (f 3 i).toInt = -1 then zBit i else 0) = (if (f' 3 i).toInt = -1 then zBit i else 0)
  rw [h.1 3 i (by omega) (by omega)])
theorem zMean_c {f f' : zRw} {n : Nat} (h : zEq f f') (hn : n ≤ 8) : zMean f n = zMean f' n := by unfold zMean; rw [zBel_c h hn, zHs_c h hn]
theorem zPrice_c {f f' : zRw} {n : Nat} (h : zEq f f') (hn : n ≤ 8) : zPrice f n = zPrice f' n := by unfold zPrice; rw [zMean_c h hn]
theorem zPlS_c {f f' : zRw} {n x : Nat} (h : zEq f f') (hn : n ≤ 8) (hx : x < 8) : zPlS f n x = zPlS f' n x := zFo_c n (fun i hi => by
  show (if i = x then 0 else if (f 3 i).toInt = -1 then f 5 (8 * x + i) * (f 0 i - f 0 x) else 0) = (if i = x then 0 else if (f' 3 i).toInt = -1 then f' 5 (8 * x + i) * (f' 0 i - f' 0 x) else 0)
  by_cases q : i = x
  · rw [if_pos q, if_pos q]
  · rw [if_neg q, if_neg q, h.1 3 i (by omega) (by omega), h.1 0 i (by omega) (by omega), h.1 0 x (by omega) hx, h.2.1 x i hx (by omega) (fun e => q e.symm)])
theorem zPull_c {f f' : zRw} {n x : Nat} (h : zEq f f') (hn : n ≤ 8) (hx : x < 8) : zPull f n x = zPull f' n x := by unfold zPull; rw [zPlS_c h hn hx]
theorem zTie_c {f f' : zRw} {n x : Nat} (h : zEq f f') (hn : n ≤ 8) (hx : x < 8) : zTie f n x = zTie f' n x := zFo_c n (fun i hi => by
  show (if i = x then 0 else if 0 < (f 5 (8 * x + i)).toInt then 1 else 0) = (if i = x then 0 else if 0 < (f' 5 (8 * x + i)).toInt then 1 else 0)
  by_cases q : i = x
  · rw [if_pos q, if_pos q]
  · rw [if_neg q, if_neg q, h.2.1 x i hx (by omega) (fun e => q e.symm)])
theorem zWks_c {f f' : zRw} {n : Nat} {s : Int32} (h : zEq f f') (hn : n ≤ 6) : zWks f n s = zWks f' n s := zFo_c n (fun i hi => by
  show (if (f 9 i).toInt = s.toInt then zBit i else 0) = (if (f' 9 i).toInt = s.toInt then zBit i else 0)
  rw [h.2.2 9 i (by omega) (by omega) (by omega)])
/-! sets of at most eight -/
theorem zor_nI (a b : Nat) : nI a ||| nI b = nI (a ||| b) := by
  apply Int32.toBitVec_inj.1
  show BitVec.ofNat 32 a ||| BitVec.ofNat 32 b = BitVec.ofNat 32 (a ||| b)
  exact BitVec.ofNat_or.symm
theorem zOr_b {g : Nat → Int32} (hg : ∀ x, g x = 0 ∨ g x = zBit x) : ∀ n : Nat, n ≤ 8 → ∃ m : Nat, m < 2 ^ n ∧ zOf g n = nI m
  | 0, _ => ⟨0, by decide, rfl⟩
  | n + 1, hn => by
    obtain ⟨m, h1, h2⟩ := zOr_b hg n (by omega)
    have hp : 2 ^ n < 2 ^ (n + 1) := by rw [Nat.pow_succ]; have := Nat.two_pow_pos n; omega
    rcases hg n with e | e
    · refine ⟨m, by omega, ?_⟩
      show zFo (fun a b => a ||| b) g n ||| g n = nI m
      rw [e, Int32.or_zero]; exact h2
    · refine ⟨m ||| 2 ^ n, Nat.or_lt_two_pow (by omega) hp, ?_⟩
      show zFo (fun a b => a ||| b) g n ||| g n = nI (m ||| 2 ^ n)
      have hb : ∀ n, n < 8 → zBit n = nI (2 ^ n) := by decide +kernel
      rw [e, hb n (by omega), show zFo (fun a b => a ||| b) g n = nI m from h2]
      exact zor_nI m (2 ^ n)
theorem zHs_b (f : zRw) {n : Nat} (hn : n ≤ 8) : ∃ m : Nat, m < 256 ∧ zHs f n = nI m := by
  obtain ⟨m, h1, h2⟩ := zOr_b (g := fun x => if (f 3 x).toInt = -1 then zBit x else 0) (fun x => by
    by_cases q : (f 3 x).toInt = -1
    · exact Or.inr (if_pos q)
    · exact Or.inl (if_neg q)) n hn
  exact ⟨m, Nat.lt_of_lt_of_le h1 (Nat.pow_le_pow_right (by decide) hn), h2⟩
theorem zWks_b (f : zRw) (s : Int32) {n : Nat} (hn : n ≤ 6) : ∃ m : Nat, m < 256 ∧ zWks f n s = nI m := by
  obtain ⟨m, h1, h2⟩ := zOr_b (g := fun w => if (f 9 w).toInt = s.toInt then zBit w else 0) (fun x => by
    by_cases q : (f 9 x).toInt = s.toInt
    · exact Or.inr (if_pos q)
    · exact Or.inl (if_neg q)) n (by omega)
  exact ⟨m, Nat.lt_of_lt_of_le h1 (show 2 ^ n ≤ 2 ^ 8 from Nat.pow_le_pow_right (by decide) (by omega)), h2⟩
theorem zHs_i (f : zRw) {n : Nat} (hn : n ≤ 8) : 0 ≤ (zHs f n).toInt ∧ (zHs f n).toInt ≤ 255 := by
  obtain ⟨m, h1, h2⟩ := zHs_b f hn
  rw [h2, nI_toInt (by omega)]; omega
theorem zWks_i (f : zRw) (s : Int32) {n : Nat} (hn : n ≤ 6) : 0 ≤ (zWks f n s).toInt ∧ (zWks f n s).toInt ≤ 255 := by
  obtain ⟨m, h1, h2⟩ := zWks_b f s hn
  rw [h2, nI_toInt (by omega)]; omega
/-! what one turns by: a law is a number of eight facts: who, belief, mean, works, ties, day, dry, owner -/
def zEnvC (f : zRw) (pe x : Nat) (lm lg ld : Int32) : Nat → Int32 := fun k => if k = 0 then nI x else if k = 1 then f 0 x else if k = 2 then lm else if k = 3 then lg else if k = 4 then zTie f pe x else if k = 5 then ld else if k = 6 then (if (f 4 x).toInt = 1 then 1 else 0) else (if 0 < (f 2 x).toInt then 1 else 0)
def zEnv (f : zRw) (pe wo : Nat) (dy : Int32) (x : Nat) : Nat → Int32 := zEnvC f pe x (zMean f pe) (zPop (zWks f wo 1)) dy
theorem zEnvC_c {f f' : zRw} {pe x : Nat} {lm lg ld : Int32} (h : zEq f f') (hp : pe ≤ 8) (hx : x < 8) : zEnvC f pe x lm lg ld = zEnvC f' pe x lm lg ld := by
  unfold zEnvC
  rw [h.1 0 x (by omega) hx, zTie_c h hp hx, h.1 4 x (by omega) hx, h.1 2 x (by omega) hx]
theorem zEnvC_6 (f : zRw) (pe x : Nat) (lm lg ld : Int32) : zEnvC f pe x lm lg ld 6 = if (f 4 x).toInt = 1 then 1 else 0 := by
  unfold zEnvC
  rw [if_neg (by decide), if_neg (by decide), if_neg (by decide), if_neg (by decide), if_neg (by decide), if_neg (by decide), if_pos rfl]
theorem zEnvC_7 (f : zRw) (pe x : Nat) (lm lg ld : Int32) : zEnvC f pe x lm lg ld 7 = if 0 < (f 2 x).toInt then 1 else 0 := by
  unfold zEnvC
  rw [if_neg (by decide), if_neg (by decide), if_neg (by decide), if_neg (by decide), if_neg (by decide), if_neg (by decide), if_neg (by decide)]
theorem zEnv_c {f f' : zRw} {pe wo x : Nat} {dy : Int32} (h : zEq f f') (hp : pe ≤ 8) (hw : wo ≤ 6) (hx : x < 8) : zEnv f pe wo dy x = zEnv f' pe wo dy x := by
  unfold zEnv
  rw [zMean_c h hp, zWks_c h hw]
  exact zEnvC_c h hp hx
abbrev zLw : Type := (Nat → Int32) → Int32
/-! a day -/
def zTbR (L : zLw) (f : zRw) (pe wo : Nat) (dy : Int32) (x : Nat) : Int32 := if (f 3 x).toInt = -1 then zCl (f 0 x + zPull f pe x + L (zEnv f pe wo dy x)) else f 0 x
def zTB (L : zLw) (f : zRw) (pe wo : Nat) (dy : Int32) : zRw := zu f 0 (fun x => if x < pe then zTbR L f pe wo dy x else f 0 x)
theorem zTbR_c {L : zLw} {f f' : zRw} {pe wo x : Nat} {dy : Int32} (h : zEq f f') (hp : pe ≤ 8) (hw : wo ≤ 6) (hx : x < 8) : zTbR L f pe wo dy x = zTbR L f' pe wo dy x := by
  unfold zTbR
  rw [h.1 3 x (by omega) hx, h.1 0 x (by omega) hx, zPull_c h hp hx, zEnv_c h hp hw hx]
theorem zTB_0 (L : zLw) (f : zRw) (pe wo : Nat) (dy : Int32) (x : Nat) : zTB L f pe wo dy 0 x = if x < pe then zTbR L f pe wo dy x else f 0 x := rfl
theorem zTB_r (L : zLw) (f : zRw) (pe wo : Nat) (dy : Int32) {r : Nat} (h : r ≠ 0) : zTB L f pe wo dy r = f r := if_neg h
/-- two towns of one content, row by row: but for the beliefs told by one function -/
theorem zTB_of {L : zLw} {f f2 : zRw} {pe wo : Nat} {dy : Int32} (h0 : ∀ x, x < 8 → f2 0 x = if x < pe then zTbR L f pe wo dy x else f 0 x) (hr : ∀ r, 1 ≤ r → r ≤ 9 → f2 r = f r) : zEq f2 (zTB L f pe wo dy) := by
  refine ⟨fun q y h1 h2 => ?_, fun y o h1 h2 h3 => ?_, fun q y h1 h2 h3 => ?_⟩
  · by_cases e : q = 0
    · subst e; exact h0 y h2
    · rw [zTB_r L f pe wo dy e, hr q (by omega) (by omega)]
  · rw [zTB_r L f pe wo dy (by decide), hr 5 (by decide) (by decide)]
  · rw [zTB_r L f pe wo dy (by omega), hr q (by omega) (by omega)]
theorem zTB_c {L : zLw} {f f' : zRw} {pe wo : Nat} {dy : Int32} (h : zEq f f') (hp : pe ≤ 8) (hw : wo ≤ 6) : zEq (zTB L f pe wo dy) (zTB L f' pe wo dy) := by
  refine ⟨fun q y h1 h2 => ?_, fun y o h1 h2 h3 => ?_, fun q y h1 h2 h3 => ?_⟩
  · by_cases e : q = 0
    · subst e; rw [zTB_0, zTB_0, zTbR_c h hp hw h2, h.1 0 y h1 h2]
    · rw [zTB_r L f pe wo dy e, zTB_r L f' pe wo dy e]; exact h.1 q y h1 h2
  · rw [zTB_r L f pe wo dy (by decide), zTB_r L f' pe wo dy (by decide)]; exact h.2.1 y o h1 h2 h3
  · rw [zTB_r L f pe wo dy (by omega), zTB_r L f' pe wo dy (by omega)]; exact h.2.2 q y h1 h2 h3
/-- works: chest, town, how many fell -/
abbrev zKs : Type := Int32 × zRw × Int32
def zKW1 (bl : Int32) (w : Nat) (s : zKs) : zKs :=
  if (s.2.1 9 w).toInt = 0 ∧ (s.2.1 7 w).toInt ≤ bl.toInt ∧ (s.2.1 6 w).toInt ≤ s.1.toInt then (s.1 - s.2.1 6 w, zSet s.2.1 9 w 1, s.2.2)
  else if (s.2.1 9 w).toInt = 1 ∧ bl.toInt < (s.2.1 7 w).toInt then (s.1, zSet s.2.1 9 w 2, s.2.2 + 1)
  else if (s.2.1 9 w).toInt = 1 then (zCap (s.1 + s.2.1 8 w), s.2.1, s.2.2)
  else s
def zKR (a b : zKs) : Prop := a.1 = b.1 ∧ zEq a.2.1 b.2.1 ∧ a.2.2 = b.2.2
theorem zKW1_c {bl : Int32} {w : Nat} {a b : zKs} (hw : w < 6) (h : zKR a b) : zKR (zKW1 bl w a) (zKW1 bl w b) := by
  obtain ⟨h1, h2, h3⟩ := h
  have e6 := h2.2.2 6 w (by decide) (by decide) hw
  have e7 := h2.2.2 7 w (by decide) (by decide) hw
  have e8 := h2.2.2 8 w (by decide) (by decide) hw
  have e9 := h2.2.2 9 w (by decide) (by decide) hw
  unfold zKW1
  rw [e6, e7, e8, e9, h1]
  by_cases p : (b.2.1 9 w).toInt = 0 ∧ (b.2.1 7 w).toInt ≤ bl.toInt ∧ (b.2.1 6 w).toInt ≤ b.1.toInt
  · rw [if_pos p, if_pos p]; exact ⟨rfl, zSet_c h2 rfl, h3⟩
  · rw [if_neg p, if_neg p]
    by_cases q : (b.2.1 9 w).toInt = 1 ∧ bl.toInt < (b.2.1 7 w).toInt
    · rw [if_pos q, if_pos q]; exact ⟨rfl, zSet_c h2 rfl, by show a.2.2 + 1 = b.2.2 + 1; rw [h3]⟩
    · rw [if_neg q, if_neg q]
      by_cases t : (b.2.1 9 w).toInt = 1
      · rw [if_pos t, if_pos t]; exact ⟨rfl, h2, h3⟩
      · rw [if_neg t, if_neg t]; exact ⟨h1, h2, h3⟩
theorem zKW_c {bl : Int32} {n : Nat} {a b : zKs} (hn : n ≤ 6) (h : zKR a b) : zKR (zIt (zKW1 bl) a n) (zIt (zKW1 bl) b n) := zIt_c (R := zKR) h n (fun k a a' hk h => zKW1_c (by omega) h)
/-- the works leave all but the state as it was -/
theorem zKW_k {bl : Int32} {s : zKs} : ∀ n : Nat, ∀ r, r ≠ 9 → (zIt (zKW1 bl) s n).2.1 r = s.2.1 r
  | 0, _, _ => rfl
  | n + 1, r, hr => by
    have ih := zKW_k (bl := bl) (s := s) n r hr
    show (zKW1 bl n (zIt (zKW1 bl) s n)).2.1 r = s.2.1 r
    rw [← ih]
    generalize zIt (zKW1 bl) s n = t
    unfold zKW1
    by_cases p : (t.2.1 9 n).toInt = 0 ∧ (t.2.1 7 n).toInt ≤ bl.toInt ∧ (t.2.1 6 n).toInt ≤ t.1.toInt
    · rw [if_pos p]; exact zSet_r _ _ _ _ hr
    · rw [if_neg p]
      by_cases q : (t.2.1 9 n).toInt = 1 ∧ bl.toInt < (t.2.1 7 n).toInt
      · rw [if_pos q]; exact zSet_r _ _ _ _ hr
      · rw [if_neg q]
        by_cases u : (t.2.1 9 n).toInt = 1
        · rw [if_pos u]
        · rw [if_neg u]
theorem zBel_k {f f' : zRw} {n : Nat} (h3 : f 3 = f' 3) (h0 : f 0 = f' 0) : zBel f n = zBel f' n := by unfold zBel; rw [h3, h0]
/-- one who comes back: a draw, the tale told to each -/
def zDr (sd : Int32) : Int32 := 1103515245 * sd + 12345
def zDw (sd : Int32) : Int32 := (zDr sd >>> ((16 : Int32) &&& 31)) &&& 32767
def zWa (tr sd : Int32) : Bool := decide ((zDw sd - zDw sd / 100 * 100).toInt < tr.toInt)
def zSp1 (x : Nat) (wa : Bool) (o : Nat) (f : zRw) : zRw := if o = x then f else if (f 3 o).toInt = -1 then zSet f 0 o (zCl (f 0 o + (if wa = true then f 5 (8 * o + x) else -f 5 (8 * o + x)))) else f
def zSpr (pe x : Nat) (wa : Bool) (f : zRw) : zRw := zSet (zIt (zSp1 x wa) f pe) 0 x (if wa = true then 99 else 0)
theorem zSp1_c {x o : Nat} {wa : Bool} {f f' : zRw} (hx : x < 8) (ho : o < 8) (h : zEq f f') : zEq (zSp1 x wa o f) (zSp1 x wa o f') := by
  unfold zSp1
  by_cases q : o = x
  · rw [if_pos q, if_pos q]; exact h
  · rw [if_neg q, if_neg q, h.1 3 o (by omega) ho, h.1 0 o (by omega) ho, h.2.1 o x ho hx q]
    by_cases p : (f' 3 o).toInt = -1
    · rw [if_pos p, if_pos p]; exact zSet_c h rfl
    · rw [if_neg p, if_neg p]; exact h
theorem zSpr_c {pe x : Nat} {wa : Bool} {f f' : zRw} (hp : pe ≤ 8) (hx : x < 8) (h : zEq f f') : zEq (zSpr pe x wa f) (zSpr pe x wa f') := zSet_c (zIt_c (R := zEq) h pe (fun k a a' hk h => zSp1_c hx (by omega) h)) rfl
theorem zSp1_t {x o : Nat} {wa : Bool} {f : zRw} {v : Int32} : zSp1 x wa o (zSet f 3 x v) = zSet (zSp1 x wa o f) 3 x v := by
  unfold zSp1
  by_cases q : o = x
  · rw [if_pos q, if_pos q]
  · rw [if_neg q, if_neg q, zSet_x f 3 x v q, zSet_r f 3 x v (q := 0) (by decide), zSet_r f 3 x v (q := 5) (by decide)]
    by_cases p : (f 3 o).toInt = -1
    · rw [if_pos p, if_pos p]
      funext r y
      rw [zSet_a, zSet_a, zSet_a, zSet_a]
      by_cases a : r = 0 ∧ y = o
      · rw [if_pos a, if_neg (show ¬ (r = 3 ∧ y = x) from fun c => by omega), if_pos a]
      · rw [if_neg a]
        by_cases b : r = 3 ∧ y = x
        · rw [if_pos b, if_pos b]
        · rw [if_neg b, if_neg b, if_neg a]
    · rw [if_neg p, if_neg p]
theorem zSpI_t {x : Nat} {wa : Bool} {f : zRw} {v : Int32} : ∀ n : Nat, zIt (zSp1 x wa) (zSet f 3 x v) n = zSet (zIt (zSp1 x wa) f n) 3 x v
  | 0 => rfl
  | n + 1 => by
    show zSp1 x wa n (zIt (zSp1 x wa) (zSet f 3 x v) n) = zSet (zSp1 x wa n (zIt (zSp1 x wa) f n)) 3 x v
    rw [zSpI_t n, zSp1_t]
abbrev zCs : Type := zRw × Int32
def zCB1 (pe : Nat) (dy tr tl : Int32) (x : Nat) (s : zCs) : zCs :=
  if (s.1 3 x).toInt = -1 then s
  else if (s.1 3 x).toInt ≤ dy.toInt then (if tl.toInt = 0 then (zSet s.1 3 x (-1), s.2) else (zSpr pe x (zWa tr s.2) (zSet s.1 3 x (-1)), zDr s.2))
  else s
def zCR (a b : zCs) : Prop := zEq a.1 b.1 ∧ a.2 = b.2
theorem zCB1_c {pe x : Nat} {dy tr tl : Int32} {a b : zCs} (hp : pe ≤ 8) (hx : x < 8) (h : zCR a b) : zCR (zCB1 pe dy tr tl x a) (zCB1 pe dy tr tl x b) := by
  obtain ⟨h1, h2⟩ := h
  unfold zCB1
  rw [h1.1 3 x (by decide) hx]
  by_cases p : (b.1 3 x).toInt = -1
  · rw [if_pos p, if_pos p]; exact ⟨h1, h2⟩
  · rw [if_neg p, if_neg p]
    by_cases q : (b.1 3 x).toInt ≤ dy.toInt
    · rw [if_pos q, if_pos q]
      by_cases t : tl.toInt = 0
      · rw [if_pos t, if_pos t]; exact ⟨zSet_c h1 rfl, h2⟩
      · rw [if_neg t, if_neg t, h2]; exact ⟨zSpr_c hp hx (zSet_c h1 rfl), rfl⟩
    · rw [if_neg q, if_neg q]; exact ⟨h1, h2⟩
/-- chest, day, seed, town -/
abbrev zDs : Type := Int32 × Int32 × Int32 × zRw
def zDR (a b : zDs) : Prop := a.1 = b.1 ∧ a.2.1 = b.2.1 ∧ a.2.2.1 = b.2.2.1 ∧ zEq a.2.2.2 b.2.2.2
def zDk (L : zLw) (pe wo : Nat) (s : zDs) : zKs := zIt (zKW1 (zBel (zTB L s.2.2.2 pe wo s.2.1) pe)) (s.1, zTB L s.2.2.2 pe wo s.2.1, 0) wo
def zDay (L : zLw) (pe wo : Nat) (tr tl : Int32) (s : zDs) : zDs :=
  ((zDk L pe wo s).1, zCap (s.2.1 + 1), (zIt (zCB1 pe s.2.1 tr tl) ((zDk L pe wo s).2.1, s.2.2.1) pe).2, (zIt (zCB1 pe s.2.1 tr tl) ((zDk L pe wo s).2.1, s.2.2.1) pe).1)
theorem zDk_c {L : zLw} {pe wo : Nat} {a b : zDs} (hp : pe ≤ 8) (hw : wo ≤ 6) (h : zDR a b) : zKR (zDk L pe wo a) (zDk L pe wo b) := by
  obtain ⟨h1, h2, h3, h4⟩ := h
  unfold zDk
  rw [h1, h2]
  have t := zTB_c (L := L) (dy := b.2.1) h4 hp hw
  rw [zBel_c t hp]
  exact zKW_c hw ⟨rfl, t, rfl⟩
theorem zDay_c {L : zLw} {pe wo : Nat} {tr tl : Int32} {a b : zDs} (hp : pe ≤ 8) (hw : wo ≤ 6) (h : zDR a b) : zDR (zDay L pe wo tr tl a) (zDay L pe wo tr tl b) := by
  have k := zDk_c (L := L) hp hw h
  obtain ⟨h1, h2, h3, h4⟩ := h
  unfold zDay
  rw [h2, h3]
  have q := zIt_c (R := zCR) (F := zCB1 pe b.2.1 tr tl) (F' := zCB1 pe b.2.1 tr tl) (s := ((zDk L pe wo a).2.1, b.2.2.1)) (s' := ((zDk L pe wo b).2.1, b.2.2.1)) ⟨k.2.1, rfl⟩ pe (fun x a a' hx h => zCB1_c hp (by omega) h)
  exact ⟨k.1, rfl, q.2, q.1⟩
/-- so many days: with how many fell -/
abbrev zNs : Type := zDs × Int32
def zNd (L : zLw) (pe wo : Nat) (tr tl : Int32) (_ : Nat) (s : zNs) : zNs := (zDay L pe wo tr tl s.1, s.2 + (zDk L pe wo s.1).2.2)
def zNR (a b : zNs) : Prop := zDR a.1 b.1 ∧ a.2 = b.2
theorem zNd_c {L : zLw} {pe wo k : Nat} {tr tl : Int32} {a b : zNs} (hp : pe ≤ 8) (hw : wo ≤ 6) (h : zNR a b) : zNR (zNd L pe wo tr tl k a) (zNd L pe wo tr tl k b) :=
  ⟨zDay_c hp hw h.1, by show a.2 + (zDk L pe wo a.1).2.2 = b.2 + (zDk L pe wo b.1).2.2; rw [h.2, (zDk_c hp hw h.1).2.2]⟩
def zNds (L : zLw) (pe wo : Nat) (tr tl : Int32) (n : Nat) (s : zDs) : zNs := zIt (zNd L pe wo tr tl) (s, 0) n
theorem zNds_c {L : zLw} {pe wo : Nat} {tr tl : Int32} {a b : zDs} (n : Nat) (hp : pe ≤ 8) (hw : wo ≤ 6) (h : zDR a b) : zNR (zNds L pe wo tr tl n a) (zNds L pe wo tr tl n b) := by
  unfold zNds
  exact zIt_c (R := zNR) (F := zNd L pe wo tr tl) (F' := zNd L pe wo tr tl) (s := (a, 0)) (s' := (b, 0)) ⟨h, rfl⟩ n (fun _ _ _ _ h => zNd_c hp hw h)
theorem zSetI {f : zRw} {r j : Nat} {i v : Int32} (h : i.toInt = (j : Int)) : zu f r (upd (f r) i.toNatClampNeg v) = zSet f r j v := by unfold zSet; rw [zcl, h, Int.toNat_natCast]
theorem zCl_m (v : Int32) : (if 0 < (if v < 99 then v else 99) then (if v < 99 then v else 99) else 0) = zCl v := by
  apply zCl_of
  by_cases a : v < 99
  · have a1 := Int32.lt_iff_toInt_lt.mp a
    rw [zi99] at a1
    rw [if_pos a]
    by_cases b : (0 : Int32) < v
    · have b1 := Int32.lt_iff_toInt_lt.mp b
      rw [zi0] at b1
      rw [if_pos b]; omega
    · have b1 : ¬ (0 : Int32).toInt < v.toInt := fun q => b (Int32.lt_iff_toInt_lt.mpr q)
      rw [zi0] at b1
      rw [if_neg b, zi0]; omega
  · have a1 : ¬ v.toInt < (99 : Int32).toInt := fun q => a (Int32.lt_iff_toInt_lt.mpr q)
    rw [zi99] at a1
    rw [if_neg a, if_pos (by decide), zi99]; omega
/-- how the machine's library counts bits -/
def zJb (i : Int32) : Int32 :=
  (fun a : Int32 => (fun b : Int32 => (fun c : Int32 => (fun d : Int32 => (d + (d.toUInt32 >>> ((16 : Int32).toUInt32 &&& Int32.toUInt32 31)).toInt32) &&& 63) (c + (c.toUInt32 >>> ((8 : Int32).toUInt32 &&& Int32.toUInt32 31)).toInt32)) ((b + (b.toUInt32 >>> ((4 : Int32).toUInt32 &&& Int32.toUInt32 31)).toInt32) &&& 252645135)) ((a &&& 858993459) + ((a.toUInt32 >>> ((2 : Int32).toUInt32 &&& Int32.toUInt32 31)).toInt32 &&& 858993459))) (i - ((i.toUInt32 >>> ((1 : Int32).toUInt32 &&& Int32.toUInt32 31)).toInt32 &&& 1431655765))
theorem zJb_N : ∀ n, n < 256 → zJb (nI n) = zPop (nI n) := by decide +kernel
theorem zJb_p {x : Int32} (h : 0 ≤ x.toInt ∧ x.toInt ≤ 255) : zJb x = zPop x := by
  obtain ⟨n, h1, e, h3⟩ := znN (x := x) rfl h.1
  rw [e]; exact zJb_N n (by omega)
theorem zPop_N : ∀ n, n < 256 → 0 ≤ (zPop (nI n)).toInt ∧ (zPop (nI n)).toInt ≤ 8 := by decide +kernel
theorem zPop_b {x : Int32} (h : 0 ≤ x.toInt ∧ x.toInt ≤ 255) : 0 ≤ (zPop x).toInt ∧ (zPop x).toInt ≤ 8 := by
  obtain ⟨n, h1, e, h3⟩ := znN (x := x) rfl h.1
  rw [e]; exact zPop_N n (by omega)
/-! THE LAW AS CELLS: turns, left, sum, whether it is so -/
abbrev zRs : Type := Int32 × Int32 × Int32 × Int32
def zCk (c : Int32) : Int32 := c - c / 32 * 32
def zNb (c : Int32) : Int32 := c / 32
def zPv (e : Nat → Int32) (k : Int32) : Int32 := if k.toInt = 1 then e 0 else if k.toInt = 2 then e 1 else if k.toInt = 3 then e 2 else if k.toInt = 4 then e 3 else if k.toInt = 5 then e 4 else e 5
def zSx (e : Nat → Int32) (c : Int32) (s : zRs) : zRs :=
  if (zCk c).toInt = 0 then (s.1, s.2.1, s.2.2.1 + zNb c, s.2.2.2)
  else if (zCk c).toInt = 7 then (s.1, s.2.2.1, 0, s.2.2.2)
  else if (zCk c).toInt = 8 then (s.1, s.2.1, 0, if s.2.1.toInt < s.2.2.1.toInt then 1 else 0)
  else if (zCk c).toInt = 9 then (s.1, s.2.1, 0, if s.2.2.1.toInt < s.2.1.toInt then 1 else 0)
  else if (zCk c).toInt = 10 then (s.1, s.2.1, s.2.2.1, e 6)
  else if (zCk c).toInt = 11 then (s.1, s.2.1, s.2.2.1, e 7)
  else if (zCk c).toInt = 12 then (s.1, s.2.1, s.2.2.1, if s.2.2.2.toInt = 0 then 1 else 0)
  else if (zCk c).toInt = 13 then s
  else if (zCk c).toInt = 14 then s
  else if (zCk c).toInt = 15 then (s.1 + (if s.2.2.2.toInt = 0 then 0 else zNb c), s.2.1, s.2.2.1, 1)
  else if (zCk c).toInt = 16 then (s.1 - (if s.2.2.2.toInt = 0 then 0 else zNb c), s.2.1, s.2.2.1, 1)
  else (s.1, s.2.1, s.2.2.1 + zPv e (zCk c), s.2.2.2)
/-- where it goes on: the place ahead of the next -/
def zNx (c : Int32) (at_ : Int) (s : zRs) : Int :=
  if (zCk c).toInt = 13 ∧ s.2.2.2.toInt = 0 then max at_ ((zNb c).toInt - 1)
  else if (zCk c).toInt = 14 ∧ ¬ s.2.2.2.toInt = 0 then max at_ ((zNb c).toInt - 1)
  else at_
theorem zNx_ge (c : Int32) (at_ : Int) (s : zRs) : at_ ≤ zNx c at_ s := by
  unfold zNx
  by_cases p : (zCk c).toInt = 13 ∧ s.2.2.2.toInt = 0
  · rw [if_pos p]; omega
  · rw [if_neg p]
    by_cases q : (zCk c).toInt = 14 ∧ ¬ s.2.2.2.toInt = 0
    · rw [if_pos q]; omega
    · rw [if_neg q]; omega
def zRun (fc : Nat → Int32) (z : Int) (e : Nat → Int32) : Nat → Int → zRs → zRs
  | 0, _, s => s
  | n + 1, at_, s => if at_ < z then zRun fc z e n (zNx (fc at_.toNat) at_ s + 1) (zSx e (fc at_.toNat) s) else s
theorem zRun_f {fc : Nat → Int32} {z : Int} {e : Nat → Int32} : ∀ (n m : Nat) (at_ : Int) (s : zRs), (z - at_).toNat ≤ n → (z - at_).toNat ≤ m → zRun fc z e n at_ s = zRun fc z e m at_ s
  | 0, 0, _, _, _, _ => rfl
  | 0, m + 1, at_, s, h, _ => by
    show s = (if at_ < z then zRun fc z e m (zNx (fc at_.toNat) at_ s + 1) (zSx e (fc at_.toNat) s) else s)
    rw [if_neg (by omega)]
  | n + 1, 0, at_, s, _, h => by
    show (if at_ < z then zRun fc z e n (zNx (fc at_.toNat) at_ s + 1) (zSx e (fc at_.toNat) s) else s) = s
    rw [if_neg (by omega)]
  | n + 1, m + 1, at_, s, h, h' => by
    show (if at_ < z then zRun fc z e n (zNx (fc at_.toNat) at_ s + 1) (zSx e (fc at_.toNat) s) else s) = (if at_ < z then zRun fc z e m (zNx (fc at_.toNat) at_ s + 1) (zSx e (fc at_.toNat) s) else s)
    by_cases q : at_ < z
    · rw [if_pos q, if_pos q]
      have g := zNx_ge (fc at_.toNat) at_ s
      exact zRun_f n m _ _ (by omega) (by omega)
    · rw [if_neg q, if_neg q]
def zRu (fc : Nat → Int32) (z : Int) (e : Nat → Int32) (at_ : Int) (s : zRs) : zRs := zRun fc z e (z - at_).toNat at_ s
theorem zRu_s {fc : Nat → Int32} {z : Int} {e : Nat → Int32} {at_ : Int} {s : zRs} (h : at_ < z) : zRu fc z e at_ s = zRu fc z e (zNx (fc at_.toNat) at_ s + 1) (zSx e (fc at_.toNat) s) := by
  have g := zNx_ge (fc at_.toNat) at_ s
  unfold zRu
  rw [show (z - at_).toNat = (z - at_ - 1).toNat + 1 by omega]
  show (if at_ < z then zRun fc z e (z - at_ - 1).toNat (zNx (fc at_.toNat) at_ s + 1) (zSx e (fc at_.toNat) s) else s) = _
  rw [if_pos h]
  exact zRun_f _ _ _ _ (by omega) (Nat.le_refl _)
theorem zRu_x {fc : Nat → Int32} {z : Int} {e : Nat → Int32} {at_ : Int} {s : zRs} (h : z ≤ at_) : zRu fc z e at_ s = s := by
  unfold zRu
  rw [show (z - at_).toNat = 0 by omega]; rfl
def zLwR (fc : Nat → Int32) (lz ll : Int32) : zLw := fun e => if ll.toInt = -1 then (if (e 6).toInt = 0 then 0 else -1) else (zRu fc lz.toInt e 0 (0, 0, 0, 1)).1
theorem zLwR_x {fc e : Nat → Int32} {lz ll t l u so : Int32} {a : Int} (hl : ¬ ll.toInt = -1) (h : zRu fc lz.toInt e 0 (0, 0, 0, 1) = zRu fc lz.toInt e a (t, l, u, so)) (hx : lz.toInt ≤ a) : t = zLwR fc lz ll e := by
  unfold zLwR
  rw [if_neg hl, h, zRu_x hx]
theorem zLwR_0 {fc e : Nat → Int32} {lz ll : Int32} (hl : ll.toInt = -1) (h : (e 6).toInt = 0) : 0 = zLwR fc lz ll e := by unfold zLwR; rw [if_pos hl, if_pos h]
theorem zLwR_1 {fc e : Nat → Int32} {lz ll : Int32} (hl : ll.toInt = -1) (h : ¬ (e 6).toInt = 0) : -1 = zLwR fc lz ll e := by unfold zLwR; rw [if_pos hl, if_neg h]
theorem zRu_n {fc : Nat → Int32} {z : Int} {e : Nat → Int32} {a a2 : Int} {s s2 s3 : zRs} (I : s = zRu fc z e a s2) (h : a < z) (h1 : zNx (fc a.toNat) a s2 + 1 = a2) (h2 : zSx e (fc a.toNat) s2 = s3) : s = zRu fc z e a2 s3 := by
  rw [I, zRu_s h, h1, h2]
theorem zi_of {x : Int32} {k : Int32} {n : Int} (e : k = x) (h : k.toInt = n) : x.toInt = n := by rw [← e]; exact h
theorem zRuk_0 {fc : Nat → Int32} {z : Int} {e : Nat → Int32} {x7 x7b t l u so n : Int32} {s : zRs} (I : s = zRu fc z e x7.toInt (t, l, u, so)) (h : x7.toInt < z) (hn : n = fc x7.toInt.toNat / 32) (hk : (zCk (fc x7.toInt.toNat)).toInt = 0) (hb : x7b.toInt = x7.toInt + 1)  : s = zRu fc z e x7b.toInt (t, l, u + n, so) := by
  refine zRu_n I h (by unfold zNx; rw [if_neg (by omega), if_neg (by omega)]; exact hb.symm) ?_
  unfold zSx
  refine (if_pos hk).trans ?_
  exact congrArg (fun q => (t, l, u + q, so)) hn.symm
theorem zRuk_7 {fc : Nat → Int32} {z : Int} {e : Nat → Int32} {x7 x7b t l u so n : Int32} {s : zRs} (I : s = zRu fc z e x7.toInt (t, l, u, so)) (h : x7.toInt < z) (hn : n = fc x7.toInt.toNat / 32) (hk : (zCk (fc x7.toInt.toNat)).toInt = 7) (hb : x7b.toInt = x7.toInt + 1)  : s = zRu fc z e x7b.toInt (t, u, 0, so) := by
  refine zRu_n I h (by unfold zNx; rw [if_neg (by omega), if_neg (by omega)]; exact hb.symm) ?_
  unfold zSx
  refine (if_neg (by omega)).trans ?_
  refine (if_pos hk).trans ?_
  rfl
theorem zRuk_8t {fc : Nat → Int32} {z : Int} {e : Nat → Int32} {x7 x7b t l u so n : Int32} {s : zRs} (I : s = zRu fc z e x7.toInt (t, l, u, so)) (h : x7.toInt < z) (hn : n = fc x7.toInt.toNat / 32) (hk : (zCk (fc x7.toInt.toNat)).toInt = 8) (hb : x7b.toInt = x7.toInt + 1) (c : l.toInt < u.toInt) : s = zRu fc z e x7b.toInt (t, l, 0, 1) := by
  refine zRu_n I h (by unfold zNx; rw [if_neg (by omega), if_neg (by omega)]; exact hb.symm) ?_
  unfold zSx
  refine (if_neg (by omega)).trans ?_
  refine (if_neg (by omega)).trans ?_
  refine (if_pos hk).trans ?_
  show (t, l, 0, if l.toInt < u.toInt then 1 else 0) = _
  rw [if_pos c]
theorem zRuk_8f {fc : Nat → Int32} {z : Int} {e : Nat → Int32} {x7 x7b t l u so n : Int32} {s : zRs} (I : s = zRu fc z e x7.toInt (t, l, u, so)) (h : x7.toInt < z) (hn : n = fc x7.toInt.toNat / 32) (hk : (zCk (fc x7.toInt.toNat)).toInt = 8) (hb : x7b.toInt = x7.toInt + 1) (c : u.toInt ≤ l.toInt) : s = zRu fc z e x7b.toInt (t, l, 0, 0) := by
  refine zRu_n I h (by unfold zNx; rw [if_neg (by omega), if_neg (by omega)]; exact hb.symm) ?_
  unfold zSx
  refine (if_neg (by omega)).trans ?_
  refine (if_neg (by omega)).trans ?_
  refine (if_pos hk).trans ?_
  show (t, l, 0, if l.toInt < u.toInt then 1 else 0) = _
  rw [if_neg (by omega)]
theorem zRuk_9t {fc : Nat → Int32} {z : Int} {e : Nat → Int32} {x7 x7b t l u so n : Int32} {s : zRs} (I : s = zRu fc z e x7.toInt (t, l, u, so)) (h : x7.toInt < z) (hn : n = fc x7.toInt.toNat / 32) (hk : (zCk (fc x7.toInt.toNat)).toInt = 9) (hb : x7b.toInt = x7.toInt + 1) (c : u.toInt < l.toInt) : s = zRu fc z e x7b.toInt (t, l, 0, 1) := by
  refine zRu_n I h (by unfold zNx; rw [if_neg (by omega), if_neg (by omega)]; exact hb.symm) ?_
  unfold zSx
  refine (if_neg (by omega)).trans ?_
  refine (if_neg (by omega)).trans ?_
  refine (if_neg (by omega)).trans ?_
  refine (if_pos hk).trans ?_
  show (t, l, 0, if u.toInt < l.toInt then 1 else 0) = _
  rw [if_pos c]
theorem zRuk_9f {fc : Nat → Int32} {z : Int} {e : Nat → Int32} {x7 x7b t l u so n : Int32} {s : zRs} (I : s = zRu fc z e x7.toInt (t, l, u, so)) (h : x7.toInt < z) (hn : n = fc x7.toInt.toNat / 32) (hk : (zCk (fc x7.toInt.toNat)).toInt = 9) (hb : x7b.toInt = x7.toInt + 1) (c : l.toInt ≤ u.toInt) : s = zRu fc z e x7b.toInt (t, l, 0, 0) := by
  refine zRu_n I h (by unfold zNx; rw [if_neg (by omega), if_neg (by omega)]; exact hb.symm) ?_
  unfold zSx
  refine (if_neg (by omega)).trans ?_
  refine (if_neg (by omega)).trans ?_
  refine (if_neg (by omega)).trans ?_
  refine (if_pos hk).trans ?_
  show (t, l, 0, if u.toInt < l.toInt then 1 else 0) = _
  rw [if_neg (by omega)]
theorem zRuk_10 {fc : Nat → Int32} {z : Int} {e : Nat → Int32} {x7 x7b t l u so n : Int32} {s : zRs} (I : s = zRu fc z e x7.toInt (t, l, u, so)) (h : x7.toInt < z) (hn : n = fc x7.toInt.toNat / 32) (hk : (zCk (fc x7.toInt.toNat)).toInt = 10) (hb : x7b.toInt = x7.toInt + 1) {v : Int32} (c : v = e 6) : s = zRu fc z e x7b.toInt (t, l, u, v) := by
  refine zRu_n I h (by unfold zNx; rw [if_neg (by omega), if_neg (by omega)]; exact hb.symm) ?_
  unfold zSx
  refine (if_neg (by omega)).trans ?_
  refine (if_neg (by omega)).trans ?_
  refine (if_neg (by omega)).trans ?_
  refine (if_neg (by omega)).trans ?_
  refine (if_pos hk).trans ?_
  exact congrArg (fun q => (t, l, u, q)) c.symm
theorem zRuk_11 {fc : Nat → Int32} {z : Int} {e : Nat → Int32} {x7 x7b t l u so n : Int32} {s : zRs} (I : s = zRu fc z e x7.toInt (t, l, u, so)) (h : x7.toInt < z) (hn : n = fc x7.toInt.toNat / 32) (hk : (zCk (fc x7.toInt.toNat)).toInt = 11) (hb : x7b.toInt = x7.toInt + 1) {v : Int32} (c : v = e 7) : s = zRu fc z e x7b.toInt (t, l, u, v) := by
  refine zRu_n I h (by unfold zNx; rw [if_neg (by omega), if_neg (by omega)]; exact hb.symm) ?_
  unfold zSx
  refine (if_neg (by omega)).trans ?_
  refine (if_neg (by omega)).trans ?_
  refine (if_neg (by omega)).trans ?_
  refine (if_neg (by omega)).trans ?_
  refine (if_neg (by omega)).trans ?_
  refine (if_pos hk).trans ?_
  exact congrArg (fun q => (t, l, u, q)) c.symm
theorem zRuk_12t {fc : Nat → Int32} {z : Int} {e : Nat → Int32} {x7 x7b t l u so n : Int32} {s : zRs} (I : s = zRu fc z e x7.toInt (t, l, u, so)) (h : x7.toInt < z) (hn : n = fc x7.toInt.toNat / 32) (hk : (zCk (fc x7.toInt.toNat)).toInt = 12) (hb : x7b.toInt = x7.toInt + 1) (c : so.toInt = 0) : s = zRu fc z e x7b.toInt (t, l, u, 1) := by
  refine zRu_n I h (by unfold zNx; rw [if_neg (by omega), if_neg (by omega)]; exact hb.symm) ?_
  unfold zSx
  refine (if_neg (by omega)).trans ?_
  refine (if_neg (by omega)).trans ?_
  refine (if_neg (by omega)).trans ?_
  refine (if_neg (by omega)).trans ?_
  refine (if_neg (by omega)).trans ?_
  refine (if_neg (by omega)).trans ?_
  refine (if_pos hk).trans ?_
  show (t, l, u, if so.toInt = 0 then 1 else 0) = _
  rw [if_pos c]
theorem zRuk_12f {fc : Nat → Int32} {z : Int} {e : Nat → Int32} {x7 x7b t l u so n : Int32} {s : zRs} (I : s = zRu fc z e x7.toInt (t, l, u, so)) (h : x7.toInt < z) (hn : n = fc x7.toInt.toNat / 32) (hk : (zCk (fc x7.toInt.toNat)).toInt = 12) (hb : x7b.toInt = x7.toInt + 1) (c : ¬ so.toInt = 0) : s = zRu fc z e x7b.toInt (t, l, u, 0) := by
  refine zRu_n I h (by unfold zNx; rw [if_neg (by omega), if_neg (by omega)]; exact hb.symm) ?_
  unfold zSx
  refine (if_neg (by omega)).trans ?_
  refine (if_neg (by omega)).trans ?_
  refine (if_neg (by omega)).trans ?_
  refine (if_neg (by omega)).trans ?_
  refine (if_neg (by omega)).trans ?_
  refine (if_neg (by omega)).trans ?_
  refine (if_pos hk).trans ?_
  show (t, l, u, if so.toInt = 0 then 1 else 0) = _
  rw [if_neg c]
theorem zRuk_15t {fc : Nat → Int32} {z : Int} {e : Nat → Int32} {x7 x7b t l u so n : Int32} {s : zRs} (I : s = zRu fc z e x7.toInt (t, l, u, so)) (h : x7.toInt < z) (hn : n = fc x7.toInt.toNat / 32) (hk : (zCk (fc x7.toInt.toNat)).toInt = 15) (hb : x7b.toInt = x7.toInt + 1) (c : ¬ so.toInt = 0) : s = zRu fc z e x7b.toInt (t + n, l, u, 1) := by
  refine zRu_n I h (by unfold zNx; rw [if_neg (by omega), if_neg (by omega)]; exact hb.symm) ?_
  unfold zSx
  refine (if_neg (by omega)).trans ?_
  refine (if_neg (by omega)).trans ?_
  refine (if_neg (by omega)).trans ?_
  refine (if_neg (by omega)).trans ?_
  refine (if_neg (by omega)).trans ?_
  refine (if_neg (by omega)).trans ?_
  refine (if_neg (by omega)).trans ?_
  refine (if_neg (by omega)).trans ?_
  refine (if_neg (by omega)).trans ?_
  refine (if_pos hk).trans ?_
  show (t + (if so.toInt = 0 then 0 else zNb (fc x7.toInt.toNat)), l, u, (1 : Int32)) = _
  rw [if_neg c]
  exact congrArg (fun q => (t + q, l, u, (1 : Int32))) hn.symm
theorem zRuk_15f {fc : Nat → Int32} {z : Int} {e : Nat → Int32} {x7 x7b t l u so n : Int32} {s : zRs} (I : s = zRu fc z e x7.toInt (t, l, u, so)) (h : x7.toInt < z) (hn : n = fc x7.toInt.toNat / 32) (hk : (zCk (fc x7.toInt.toNat)).toInt = 15) (hb : x7b.toInt = x7.toInt + 1) (c : so.toInt = 0) : s = zRu fc z e x7b.toInt (t + 0, l, u, 1) := by
  refine zRu_n I h (by unfold zNx; rw [if_neg (by omega), if_neg (by omega)]; exact hb.symm) ?_
  unfold zSx
  refine (if_neg (by omega)).trans ?_
  refine (if_neg (by omega)).trans ?_
  refine (if_neg (by omega)).trans ?_
  refine (if_neg (by omega)).trans ?_
  refine (if_neg (by omega)).trans ?_
  refine (if_neg (by omega)).trans ?_
  refine (if_neg (by omega)).trans ?_
  refine (if_neg (by omega)).trans ?_
  refine (if_neg (by omega)).trans ?_
  refine (if_pos hk).trans ?_
  show (t + (if so.toInt = 0 then 0 else zNb (fc x7.toInt.toNat)), l, u, (1 : Int32)) = _
  rw [if_pos c]
theorem zRuk_16t {fc : Nat → Int32} {z : Int} {e : Nat → Int32} {x7 x7b t l u so n : Int32} {s : zRs} (I : s = zRu fc z e x7.toInt (t, l, u, so)) (h : x7.toInt < z) (hn : n = fc x7.toInt.toNat / 32) (hk : (zCk (fc x7.toInt.toNat)).toInt = 16) (hb : x7b.toInt = x7.toInt + 1) (c : ¬ so.toInt = 0) : s = zRu fc z e x7b.toInt (t - n, l, u, 1) := by
  refine zRu_n I h (by unfold zNx; rw [if_neg (by omega), if_neg (by omega)]; exact hb.symm) ?_
  unfold zSx
  refine (if_neg (by omega)).trans ?_
  refine (if_neg (by omega)).trans ?_
  refine (if_neg (by omega)).trans ?_
  refine (if_neg (by omega)).trans ?_
  refine (if_neg (by omega)).trans ?_
  refine (if_neg (by omega)).trans ?_
  refine (if_neg (by omega)).trans ?_
  refine (if_neg (by omega)).trans ?_
  refine (if_neg (by omega)).trans ?_
  refine (if_neg (by omega)).trans ?_
  refine (if_pos hk).trans ?_
  show (t - (if so.toInt = 0 then 0 else zNb (fc x7.toInt.toNat)), l, u, (1 : Int32)) = _
  rw [if_neg c]
  exact congrArg (fun q => (t - q, l, u, (1 : Int32))) hn.symm
theorem zRuk_16f {fc : Nat → Int32} {z : Int} {e : Nat → Int32} {x7 x7b t l u so n : Int32} {s : zRs} (I : s = zRu fc z e x7.toInt (t, l, u, so)) (h : x7.toInt < z) (hn : n = fc x7.toInt.toNat / 32) (hk : (zCk (fc x7.toInt.toNat)).toInt = 16) (hb : x7b.toInt = x7.toInt + 1) (c : so.toInt = 0) : s = zRu fc z e x7b.toInt (t - 0, l, u, 1) := by
  refine zRu_n I h (by unfold zNx; rw [if_neg (by omega), if_neg (by omega)]; exact hb.symm) ?_
  unfold zSx
  refine (if_neg (by omega)).trans ?_
  refine (if_neg (by omega)).trans ?_
  refine (if_neg (by omega)).trans ?_
  refine (if_neg (by omega)).trans ?_
  refine (if_neg (by omega)).trans ?_
  refine (if_neg (by omega)).trans ?_
  refine (if_neg (by omega)).trans ?_
  refine (if_neg (by omega)).trans ?_
  refine (if_neg (by omega)).trans ?_
  refine (if_neg (by omega)).trans ?_
  refine (if_pos hk).trans ?_
  show (t - (if so.toInt = 0 then 0 else zNb (fc x7.toInt.toNat)), l, u, (1 : Int32)) = _
  rw [if_pos c]
theorem zRuk_d {fc : Nat → Int32} {z : Int} {e : Nat → Int32} {x7 x7b t l u so n : Int32} {s : zRs} {v : Int32} (I : s = zRu fc z e x7.toInt (t, l, u, so)) (h : x7.toInt < z) (hn : n = fc x7.toInt.toNat / 32) (h0 : ∀ j, (j = 0 ∨ 7 ≤ j ∧ j ≤ 16) → ¬ (zCk (fc x7.toInt.toNat)).toInt = j) (hb : x7b.toInt = x7.toInt + 1) (c : v = zPv e (zCk (fc x7.toInt.toNat))) : s = zRu fc z e x7b.toInt (t, l, u + v, so) := by
  refine zRu_n I h (by unfold zNx; rw [if_neg (fun q => h0 13 (by omega) q.1), if_neg (fun q => h0 14 (by omega) q.1)]; exact hb.symm) ?_
  unfold zSx
  refine (if_neg (h0 0 (by omega))).trans ?_
  refine (if_neg (h0 7 (by omega))).trans ?_
  refine (if_neg (h0 8 (by omega))).trans ?_
  refine (if_neg (h0 9 (by omega))).trans ?_
  refine (if_neg (h0 10 (by omega))).trans ?_
  refine (if_neg (h0 11 (by omega))).trans ?_
  refine (if_neg (h0 12 (by omega))).trans ?_
  refine (if_neg (h0 13 (by omega))).trans ?_
  refine (if_neg (h0 14 (by omega))).trans ?_
  refine (if_neg (h0 15 (by omega))).trans ?_
  refine (if_neg (h0 16 (by omega))).trans ?_
  exact congrArg (fun q => (t, l, u + q, so)) c.symm
theorem zRuk_13f {fc : Nat → Int32} {z : Int} {e : Nat → Int32} {x7 x7b t l u so n : Int32} {s : zRs} (I : s = zRu fc z e x7.toInt (t, l, u, so)) (h : x7.toInt < z) (hn : n = fc x7.toInt.toNat / 32) (hk : (zCk (fc x7.toInt.toNat)).toInt = 13) (c : so.toInt = 0) (hb : x7b.toInt = max x7.toInt (n.toInt - 1) + 1) : s = zRu fc z e x7b.toInt (t, l, u, so) := by
  refine zRu_n I h (by unfold zNx; rw [if_pos ⟨hk, c⟩]; rw [hb, hn]; rfl) ?_
  unfold zSx
  refine (if_neg (by omega)).trans ?_
  refine (if_neg (by omega)).trans ?_
  refine (if_neg (by omega)).trans ?_
  refine (if_neg (by omega)).trans ?_
  refine (if_neg (by omega)).trans ?_
  refine (if_neg (by omega)).trans ?_
  refine (if_neg (by omega)).trans ?_
  refine (if_pos hk).trans ?_
  rfl
theorem zRuk_13t {fc : Nat → Int32} {z : Int} {e : Nat → Int32} {x7 x7b t l u so n : Int32} {s : zRs} (I : s = zRu fc z e x7.toInt (t, l, u, so)) (h : x7.toInt < z) (hn : n = fc x7.toInt.toNat / 32) (hk : (zCk (fc x7.toInt.toNat)).toInt = 13) (c : ¬ so.toInt = 0) (hb : x7b.toInt = x7.toInt + 1) : s = zRu fc z e x7b.toInt (t, l, u, so) := by
  refine zRu_n I h (by unfold zNx; rw [if_neg (fun q => c q.2), if_neg (fun q => absurd (hk.symm.trans q.1) (by decide))]; exact hb.symm) ?_
  unfold zSx
  refine (if_neg (by omega)).trans ?_
  refine (if_neg (by omega)).trans ?_
  refine (if_neg (by omega)).trans ?_
  refine (if_neg (by omega)).trans ?_
  refine (if_neg (by omega)).trans ?_
  refine (if_neg (by omega)).trans ?_
  refine (if_neg (by omega)).trans ?_
  refine (if_pos hk).trans ?_
  rfl
theorem zRuk_14t {fc : Nat → Int32} {z : Int} {e : Nat → Int32} {x7 x7b t l u so n : Int32} {s : zRs} (I : s = zRu fc z e x7.toInt (t, l, u, so)) (h : x7.toInt < z) (hn : n = fc x7.toInt.toNat / 32) (hk : (zCk (fc x7.toInt.toNat)).toInt = 14) (c : ¬ so.toInt = 0) (hb : x7b.toInt = max x7.toInt (n.toInt - 1) + 1) : s = zRu fc z e x7b.toInt (t, l, u, so) := by
  refine zRu_n I h (by unfold zNx; rw [if_neg (by omega), if_pos ⟨hk, c⟩]; rw [hb, hn]; rfl) ?_
  unfold zSx
  refine (if_neg (by omega)).trans ?_
  refine (if_neg (by omega)).trans ?_
  refine (if_neg (by omega)).trans ?_
  refine (if_neg (by omega)).trans ?_
  refine (if_neg (by omega)).trans ?_
  refine (if_neg (by omega)).trans ?_
  refine (if_neg (by omega)).trans ?_
  refine (if_neg (by omega)).trans ?_
  refine (if_pos hk).trans ?_
  rfl
theorem zRuk_14f {fc : Nat → Int32} {z : Int} {e : Nat → Int32} {x7 x7b t l u so n : Int32} {s : zRs} (I : s = zRu fc z e x7.toInt (t, l, u, so)) (h : x7.toInt < z) (hn : n = fc x7.toInt.toNat / 32) (hk : (zCk (fc x7.toInt.toNat)).toInt = 14) (c : so.toInt = 0) (hb : x7b.toInt = x7.toInt + 1) : s = zRu fc z e x7b.toInt (t, l, u, so) := by
  refine zRu_n I h (by unfold zNx; rw [if_neg (fun q => absurd (hk.symm.trans q.1) (by decide)), if_neg (fun q => q.2 c)]; exact hb.symm) ?_
  unfold zSx
  refine (if_neg (by omega)).trans ?_
  refine (if_neg (by omega)).trans ?_
  refine (if_neg (by omega)).trans ?_
  refine (if_neg (by omega)).trans ?_
  refine (if_neg (by omega)).trans ?_
  refine (if_neg (by omega)).trans ?_
  refine (if_neg (by omega)).trans ?_
  refine (if_neg (by omega)).trans ?_
  refine (if_pos hk).trans ?_
  rfl
theorem zD01 {f : zRw} {x : Nat} (h : zZ4 f) (hx : x < 8) : f 4 x = 0 ∨ f 4 x = 1 := by
  have h9 : (f 4 x == 0 || f 4 x == 1) = true := h x hx
  rcases (Bool.or_eq_true _ _).mp h9 with q | q
  · exact Or.inl (beq_iff_eq.mp q)
  · exact Or.inr (beq_iff_eq.mp q)
theorem zE6 {f : zRw} {pe x : Nat} {lm lg ld : Int32} (h : zZ4 f) (hx : x < 8) : f 4 x = zEnvC f pe x lm lg ld 6 := by
  rw [zEnvC_6]
  rcases zD01 h hx with e | e
  · rw [e, if_neg (by decide)]
  · rw [e, if_pos (by decide)]
theorem zE7t {f : zRw} {pe x : Nat} {lm lg ld : Int32} (h : 0 < (f 2 x).toInt) : 1 = zEnvC f pe x lm lg ld 7 := by
  rw [zEnvC_7, if_pos h]
theorem zE7f {f : zRw} {pe x : Nat} {lm lg ld : Int32} (h : (f 2 x).toInt ≤ 0) : 0 = zEnvC f pe x lm lg ld 7 := by
  rw [zEnvC_7, if_neg (by omega)]
theorem zPv_1 (e : Nat → Int32) : zPv e 1 = e 0 := by unfold zPv; rw [if_pos (by decide)]
theorem zPv_2 (e : Nat → Int32) : zPv e 2 = e 1 := by unfold zPv; rw [if_neg (by decide), if_pos (by decide)]
theorem zPv_3 (e : Nat → Int32) : zPv e 3 = e 2 := by unfold zPv; rw [if_neg (by decide), if_neg (by decide), if_pos (by decide)]
theorem zPv_4 (e : Nat → Int32) : zPv e 4 = e 3 := by unfold zPv; rw [if_neg (by decide), if_neg (by decide), if_neg (by decide), if_pos (by decide)]
theorem zPv_5 (e : Nat → Int32) : zPv e 5 = e 4 := by unfold zPv; rw [if_neg (by decide), if_neg (by decide), if_neg (by decide), if_neg (by decide), if_pos (by decide)]
theorem zne_i {x k : Int32} {n : Int} (hk : k.toInt = n) (h : ¬ x = k) : ¬ x.toInt = n := fun q => h (Int32.toInt_inj.mp (q.trans hk.symm))
theorem zPv_d {e : Nat → Int32} {k : Int32} (h1 : ¬ k = 1) (h2 : ¬ k = 2) (h3 : ¬ k = 3) (h4 : ¬ k = 4) (h5 : ¬ k = 5) : zPv e k = e 5 := by
  unfold zPv
  rw [if_neg (zne_i (by decide) h1), if_neg (zne_i (by decide) h2), if_neg (zne_i (by decide) h3), if_neg (zne_i (by decide) h4), if_neg (zne_i (by decide) h5)]
theorem zh0 {x c : Int32} (e : x = zCk c) (h0 : ¬ x = 0) (h7 : ¬ x = 7) (h8 : ¬ x = 8) (h9 : ¬ x = 9) (h10 : ¬ x = 10) (h11 : ¬ x = 11) (h12 : ¬ x = 12) (h13 : ¬ x = 13) (h14 : ¬ x = 14) (h15 : ¬ x = 15) (h16 : ¬ x = 16) : ∀ j : Int, (j = 0 ∨ 7 ≤ j ∧ j ≤ 16) → ¬ (zCk c).toInt = j := by
  intro j hj
  rw [← e]
  have a0 := zne_i (n := 0) (by decide) h0
  have a7 := zne_i (n := 7) (by decide) h7
  have a8 := zne_i (n := 8) (by decide) h8
  have a9 := zne_i (n := 9) (by decide) h9
  have a10 := zne_i (n := 10) (by decide) h10
  have a11 := zne_i (n := 11) (by decide) h11
  have a12 := zne_i (n := 12) (by decide) h12
  have a13 := zne_i (n := 13) (by decide) h13
  have a14 := zne_i (n := 14) (by decide) h14
  have a15 := zne_i (n := 15) (by decide) h15
  have a16 := zne_i (n := 16) (by decide) h16
  omega
theorem zh0k {c : Int32} {k : Int} (h : (zCk c).toInt = k) (hk : 1 ≤ k ∧ k ≤ 6) : ∀ j : Int, (j = 0 ∨ 7 ≤ j ∧ j ≤ 16) → ¬ (zCk c).toInt = j := fun j hj q => by omega
theorem zEq_10 {f0 f : zRw} (h : ∀ r, ¬ r = 10 → f0 r = f r) : zEq f0 f := ⟨fun r x h1 h2 => congrFun (h r (by omega)) x, fun x o h1 h2 h3 => congrFun (h 5 (by decide)) _, fun r w h1 h2 h3 => congrFun (h r (by omega)) w⟩
theorem zTI1 {f f0 f1 : zRw} {k : Nat} {v : Int32} (h : ∀ r, ¬ r = 10 → f0 r = f r) (e : f1 = zSet f0 10 k v) : ∀ r, ¬ r = 10 → f1 r = f r := fun r hr => by rw [e, zSet_r _ _ _ _ hr]; exact h r hr
theorem zTI2 {f0 f1 : zRw} {T : Nat → Int32} {k k' v : Int32} (h : ∀ j, j < k.toInt.toNat → f0 10 j = T j) (e : f1 = zSet f0 10 k.toInt.toNat v) (hk : k'.toInt = k.toInt + 1) (h0 : 0 ≤ k.toInt) (hv : v = T k.toInt.toNat) : ∀ j, j < k'.toInt.toNat → f1 10 j = T j := by
  intro j hj
  rw [e]
  by_cases q : j = k.toInt.toNat
  · rw [q, zSet_i]; exact hv
  · rw [zSet_x _ _ _ _ q]; exact h j (by omega)
theorem zTbR_h {L : zLw} {f f0 : zRw} {pe wo k : Nat} {dy : Int32} (h : ∀ r, ¬ r = 10 → f0 r = f r) (hp : pe ≤ 8) (hk : k < 8) (c : (f0 3 k).toInt = -1) : zCl (f0 0 k + zPull f0 pe k + L (zEnvC f0 pe k (zMean f pe) (zPop (zWks f wo 1)) dy)) = zTbR L f pe wo dy k := by
  have z := zEq_10 h
  unfold zTbR
  rw [← h 3 (by decide), if_pos c, zPull_c z hp hk, h 0 (by decide), zEnvC_c z hp hk]; rfl
theorem zTbR_a {L : zLw} {f f0 : zRw} {pe wo k : Nat} {dy : Int32} (h : ∀ r, ¬ r = 10 → f0 r = f r) (c : ¬ (f0 3 k).toInt = -1) : f0 0 k = zTbR L f pe wo dy k := by
  unfold zTbR
  rw [← h 3 (by decide), if_neg c, h 0 (by decide)]
theorem zTB_fin {L : zLw} {f f0 f1 : zRw} {wo : Nat} {dy k n : Int32} (h1 : ∀ r, ¬ r = 10 → f0 r = f r) (h2 : ∀ j, j < k.toInt.toNat → f0 10 j = zTbR L f n.toInt.toNat wo dy j) (e : f1 = zu f0 0 (va_cpy (f0 10) (f0 0) 0 0 n.toNatClampNeg)) (hk : k.toInt = n.toInt) : zEq f1 (zTB L f n.toInt.toNat wo dy) := by
  rw [e]
  refine zTB_of (fun x hx => ?_) (fun r h1r h9 => ?_)
  · show va_cpy (f0 10) (f0 0) 0 0 n.toInt.toNat x = _
    by_cases q : x < n.toInt.toNat
    · rw [if_pos q, pk_cpy_in (Nat.zero_le _) (by omega), Nat.zero_add, Nat.sub_zero]; exact h2 x (by omega)
    · rw [if_neg q, pk_cpy_out (Or.inr (by omega)), h1 0 (by decide)]
  · show (if r = 0 then _ else f0 r) = f r
    rw [if_neg (by omega)]; exact h1 r (by omega)
theorem zKa {bl ch q : Int32} {f f1 : zRw} {w : Nat} (h9 : (f 9 w).toInt = 0) (h7 : (f 7 w).toInt ≤ bl.toInt) (h6 : (f 6 w).toInt ≤ ch.toInt) (e : f1 = zSet f 9 w 1) : (ch - f 6 w, f1, q) = zKW1 bl w (ch, f, q) := by
  subst e; unfold zKW1; exact (if_pos ⟨h9, h7, h6⟩).symm
theorem zKb {bl ch q : Int32} {f f1 : zRw} {w : Nat} (h9 : (f 9 w).toInt = 1) (h7 : bl.toInt < (f 7 w).toInt) (e : f1 = zSet f 9 w 2) : (ch, f1, q + 1) = zKW1 bl w (ch, f, q) := by
  subst e; unfold zKW1; exact ((if_neg (fun o => absurd (h9.symm.trans o.1) (by decide))).trans (if_pos ⟨h9, h7⟩)).symm
theorem zKc {bl ch q : Int32} {f : zRw} {w : Nat} (h9 : (f 9 w).toInt = 1) (h7 : ¬ bl.toInt < (f 7 w).toInt) : (zCap (ch + f 8 w), f, q) = zKW1 bl w (ch, f, q) := by
  unfold zKW1; exact ((if_neg (fun o => absurd (h9.symm.trans o.1) (by decide))).trans ((if_neg (fun o => h7 o.2)).trans (if_pos h9))).symm
theorem zKn {bl ch q : Int32} {f : zRw} {w : Nat} (hA : ¬ ((f 9 w).toInt = 0 ∧ (f 7 w).toInt ≤ bl.toInt ∧ (f 6 w).toInt ≤ ch.toInt)) (hB : ¬ (f 9 w).toInt = 1) : (ch, f, q) = zKW1 bl w (ch, f, q) := by
  unfold zKW1; exact ((if_neg hA).trans ((if_neg (fun o => hB o.1)).trans (if_neg hB))).symm
theorem zWa_t {tr sd : Int32} (h : (zDw sd - zDw sd / 100 * 100).toInt < tr.toInt) : zWa tr sd = true := decide_eq_true h
theorem zWa_f {tr sd : Int32} (h : tr.toInt ≤ (zDw sd - zDw sd / 100 * 100).toInt) : zWa tr sd = false := decide_eq_false (by omega)
theorem zSp_s {x o : Nat} {wa : Bool} {f : zRw} (h : o = x) : f = zSp1 x wa o f := (if_pos h).symm
theorem zSp_a {x o : Nat} {wa : Bool} {f : zRw} (h : ¬ o = x) (c : ¬ (f 3 o).toInt = -1) : f = zSp1 x wa o f := ((if_neg h).trans (if_neg c)).symm
theorem zSp_t {x o : Nat} {f f1 : zRw} (h : ¬ o = x) (c : (f 3 o).toInt = -1) (e : f1 = zSet f 0 o (zCl (f 0 o + f 5 (8 * o + x)))) : f1 = zSp1 x true o f := e.trans ((if_neg h).trans (if_pos c)).symm
theorem zSp_f {x o : Nat} {f f1 : zRw} (h : ¬ o = x) (c : (f 3 o).toInt = -1) (e : f1 = zSet f 0 o (zCl (f 0 o + -f 5 (8 * o + x)))) : f1 = zSp1 x false o f := e.trans ((if_neg h).trans (if_pos c)).symm
theorem zCBa {pe x : Nat} {dy tr tl sd : Int32} {f : zRw} (h : (f 3 x).toInt = -1) : (f, sd) = zCB1 pe dy tr tl x (f, sd) := (if_pos h).symm
theorem zCBb {pe x : Nat} {dy tr tl sd : Int32} {f : zRw} (h : ¬ (f 3 x).toInt = -1) (d : ¬ (f 3 x).toInt ≤ dy.toInt) : (f, sd) = zCB1 pe dy tr tl x (f, sd) := ((if_neg h).trans (if_neg d)).symm
theorem zCBc {pe x : Nat} {dy tr tl sd : Int32} {f f1 : zRw} (h : ¬ (f 3 x).toInt = -1) (d : (f 3 x).toInt ≤ dy.toInt) (t : tl.toInt = 0) (e : f1 = zSet f 3 x (-1)) : (f1, sd) = zCB1 pe dy tr tl x (f, sd) := by
  subst e; exact ((if_neg h).trans ((if_pos d).trans (if_pos t))).symm
theorem zCBd {pe x : Nat} {dy tr tl sd : Int32} {f f1 f2 : zRw} {w : Bool} (h : ¬ (f 3 x).toInt = -1) (d : (f 3 x).toInt ≤ dy.toInt) (t : ¬ tl.toInt = 0) (e : f1 = zSet f 3 x (-1)) (hw : zWa tr sd = w) (e2 : f2 = zSpr pe x w f1) : (f2, zDr sd) = zCB1 pe dy tr tl x (f, sd) := by
  subst hw; subst e2; subst e; exact ((if_neg h).trans ((if_pos d).trans (if_neg t))).symm
theorem zPd_mk {L : zLw} {pe wo : Nat} {ch dy sd tr tl c2 s3 q : Int32} {f f1 f2 f3 : zRw} (hp : pe ≤ 8) (hw : wo ≤ 6) (t : zEq f1 (zTB L f pe wo dy)) (k : (c2, f2, q) = zIt (zKW1 (zBel f1 pe)) (ch, f1, 0) wo) (c : (f3, s3) = zIt (zCB1 pe dy tr tl) (f2, sd) pe) : zDR (c2, zCap (dy + 1), s3, f3) (zDay L pe wo tr tl (ch, dy, sd, f)) ∧ q = (zDk L pe wo (ch, dy, sd, f)).2.2 := by
  have K : zKR (c2, f2, q) (zDk L pe wo (ch, dy, sd, f)) := by
    rw [k, zBel_c t hp]
    exact zKW_c hw ⟨rfl, t, rfl⟩
  have C : zCR (f3, s3) (zIt (zCB1 pe dy tr tl) ((zDk L pe wo (ch, dy, sd, f)).2.1, sd) pe) := by
    rw [c]
    exact zIt_c (R := zCR) (F := zCB1 pe dy tr tl) (F' := zCB1 pe dy tr tl) (s := (f2, sd)) (s' := ((zDk L pe wo (ch, dy, sd, f)).2.1, sd)) ⟨K.2.1, rfl⟩ pe (fun x a a' hx h => zCB1_c hp (by omega) h)
  exact ⟨⟨K.1, rfl, C.2, C.1⟩, K.2.2⟩
set_option maxRecDepth 100000 in
set_option maxHeartbeats 4000000 in
theorem j_bitCountF (l : Launch) (g : zG) (x1 : Int32) (b_x1 : 0 ≤ x1.toInt ∧ x1.toInt ≤ 255) : zM' g l yJ6_bitCount_0f7a4 (Cond.code yJ6_bitCount_0f7a4 cJ6_bitCount_0f7a4 1 (some .int) :: zB) ({ frames := 0, cells := 0, slots := 0, locals := 0 } : Room) [.int x1] [] (fun _ : Unit => some (.int (zPop x1))) (fun _ : Unit => True) (fun _ : Unit => []) := by
  refine zM'.of (cc := cJ6_bitCount_0f7a4) (maxL := 1) (rt := (some .int)) (by decide) rfl (Nat.le_of_ble_eq_true rfl) ?_
  intro p e s m args below meth c A ls St hr hlocks hin hK hT hA hP hD hS hl
  obtain ⟨hx, hb, hml, hown, hts⟩ := id St
  have hl : lv_has ls 1 [(0, .int x1)] := hl
  refine lv_iload_n hx hb dJ6_bitCount_0f7a4_0 rfl (lv_at hl 0 rfl) ?_
  refine lv_iload_n hx hb dJ6_bitCount_0f7a4_1 rfl (lv_at hl 0 rfl) ?_
  refine lv_iconst (v := 1) hx hb dJ6_bitCount_0f7a4_2 (by decide) ?_
  refine lv_iushr (v := ((x1 : Int32).toUInt32 >>> ((1 : Int32).toUInt32 &&& Int32.toUInt32 31)).toInt32) hx hb dJ6_bitCount_0f7a4_3 rfl ?_
  refine lv_ldcw (v := 1431655765) hx hb hown (hts _ k57) dJ6_bitCount_0f7a4_4 ?_
  refine lv_iand hx hb dJ6_bitCount_0f7a4_7 ?_
  refine lv_isub hx hb dJ6_bitCount_0f7a4_8 ?_
  refine lv_istore_n (lv' := [(0, .int (x1 - ((((x1 : Int32).toUInt32 >>> ((1 : Int32).toUInt32 &&& Int32.toUInt32 31)).toInt32) &&& 1431655765)))]) hx hb dJ6_bitCount_0f7a4_9 rfl hl (by decide) rfl (fun ls hl => ?_)
  refine lv_iload_n hx hb dJ6_bitCount_0f7a4_10 rfl (lv_at hl 0 rfl) ?_
  refine lv_ldcw (v := 858993459) hx hb hown (hts _ k58) dJ6_bitCount_0f7a4_11 ?_
  refine lv_iand hx hb dJ6_bitCount_0f7a4_14 ?_
  refine lv_iload_n hx hb dJ6_bitCount_0f7a4_15 rfl (lv_at hl 0 rfl) ?_
  refine lv_iconst (v := 2) hx hb dJ6_bitCount_0f7a4_16 (by decide) ?_
  refine lv_iushr (v := ((x1 - ((((x1 : Int32).toUInt32 >>> ((1 : Int32).toUInt32 &&& Int32.toUInt32 31)).toInt32) &&& 1431655765) : Int32).toUInt32 >>> ((2 : Int32).toUInt32 &&& Int32.toUInt32 31)).toInt32) hx hb dJ6_bitCount_0f7a4_17 rfl ?_
  refine lv_ldcw (v := 858993459) hx hb hown (hts _ k58) dJ6_bitCount_0f7a4_18 ?_
  refine lv_iand hx hb dJ6_bitCount_0f7a4_21 ?_
  refine lv_iadd hx hb dJ6_bitCount_0f7a4_22 ?_
  refine lv_istore_n (lv' := [(0, .int (((x1 - ((((x1 : Int32).toUInt32 >>> ((1 : Int32).toUInt32 &&& Int32.toUInt32 31)).toInt32) &&& 1431655765)) &&& 858993459) + ((((x1 - ((((x1 : Int32).toUInt32 >>> ((1 : Int32).toUInt32 &&& Int32.toUInt32 31)).toInt32) &&& 1431655765) : Int32).toUInt32 >>> ((2 : Int32).toUInt32 &&& Int32.toUInt32 31)).toInt32) &&& 858993459)))]) hx hb dJ6_bitCount_0f7a4_23 rfl hl (by decide) rfl (fun ls hl => ?_)
  refine lv_iload_n hx hb dJ6_bitCount_0f7a4_24 rfl (lv_at hl 0 rfl) ?_
  refine lv_iload_n hx hb dJ6_bitCount_0f7a4_25 rfl (lv_at hl 0 rfl) ?_
  refine lv_iconst (v := 4) hx hb dJ6_bitCount_0f7a4_26 (by decide) ?_
  refine lv_iushr (v := ((((x1 - ((((x1 : Int32).toUInt32 >>> ((1 : Int32).toUInt32 &&& Int32.toUInt32 31)).toInt32) &&& 1431655765)) &&& 858993459) + ((((x1 - ((((x1 : Int32).toUInt32 >>> ((1 : Int32).toUInt32 &&& Int32.toUInt32 31)).toInt32) &&& 1431655765) : Int32).toUInt32 >>> ((2 : Int32).toUInt32 &&& Int32.toUInt32 31)).toInt32) &&& 858993459) : Int32).toUInt32 >>> ((4 : Int32).toUInt32 &&& Int32.toUInt32 31)).toInt32) hx hb dJ6_bitCount_0f7a4_27 rfl ?_
  refine lv_iadd hx hb dJ6_bitCount_0f7a4_28 ?_
  refine lv_ldcw (v := 252645135) hx hb hown (hts _ k59) dJ6_bitCount_0f7a4_29 ?_
  refine lv_iand hx hb dJ6_bitCount_0f7a4_32 ?_
  refine lv_istore_n (lv' := [(0, .int (((((x1 - ((((x1 : Int32).toUInt32 >>> ((1 : Int32).toUInt32 &&& Int32.toUInt32 31)).toInt32) &&& 1431655765)) &&& 858993459) + ((((x1 - ((((x1 : Int32).toUInt32 >>> ((1 : Int32).toUInt32 &&& Int32.toUInt32 31)).toInt32) &&& 1431655765) : Int32).toUInt32 >>> ((2 : Int32).toUInt32 &&& Int32.toUInt32 31)).toInt32) &&& 858993459)) + (((((x1 - ((((x1 : Int32).toUInt32 >>> ((1 : Int32).toUInt32 &&& Int32.toUInt32 31)).toInt32) &&& 1431655765)) &&& 858993459) + ((((x1 - ((((x1 : Int32).toUInt32 >>> ((1 : Int32).toUInt32 &&& Int32.toUInt32 31)).toInt32) &&& 1431655765) : Int32).toUInt32 >>> ((2 : Int32).toUInt32 &&& Int32.toUInt32 31)).toInt32) &&& 858993459) : Int32).toUInt32 >>> ((4 : Int32).toUInt32 &&& Int32.toUInt32 31)).toInt32)) &&& 252645135))]) hx hb dJ6_bitCount_0f7a4_33 rfl hl (by decide) rfl (fun ls hl => ?_)
  refine lv_iload_n hx hb dJ6_bitCount_0f7a4_34 rfl (lv_at hl 0 rfl) ?_
  refine lv_iload_n hx hb dJ6_bitCount_0f7a4_35 rfl (lv_at hl 0 rfl) ?_
  refine lv_bipush (v := 8) hx hb dJ6_bitCount_0f7a4_36 (by decide) ?_
  refine lv_iushr (v := ((((((x1 - ((((x1 : Int32).toUInt32 >>> ((1 : Int32).toUInt32 &&& Int32.toUInt32 31)).toInt32) &&& 1431655765)) &&& 858993459) + ((((x1 - ((((x1 : Int32).toUInt32 >>> ((1 : Int32).toUInt32 &&& Int32.toUInt32 31)).toInt32) &&& 1431655765) : Int32).toUInt32 >>> ((2 : Int32).toUInt32 &&& Int32.toUInt32 31)).toInt32) &&& 858993459)) + (((((x1 - ((((x1 : Int32).toUInt32 >>> ((1 : Int32).toUInt32 &&& Int32.toUInt32 31)).toInt32) &&& 1431655765)) &&& 858993459) + ((((x1 - ((((x1 : Int32).toUInt32 >>> ((1 : Int32).toUInt32 &&& Int32.toUInt32 31)).toInt32) &&& 1431655765) : Int32).toUInt32 >>> ((2 : Int32).toUInt32 &&& Int32.toUInt32 31)).toInt32) &&& 858993459) : Int32).toUInt32 >>> ((4 : Int32).toUInt32 &&& Int32.toUInt32 31)).toInt32)) &&& 252645135 : Int32).toUInt32 >>> ((8 : Int32).toUInt32 &&& Int32.toUInt32 31)).toInt32) hx hb dJ6_bitCount_0f7a4_38 rfl ?_
  refine lv_iadd hx hb dJ6_bitCount_0f7a4_39 ?_
  refine lv_istore_n (lv' := [(0, .int ((((((x1 - ((((x1 : Int32).toUInt32 >>> ((1 : Int32).toUInt32 &&& Int32.toUInt32 31)).toInt32) &&& 1431655765)) &&& 858993459) + ((((x1 - ((((x1 : Int32).toUInt32 >>> ((1 : Int32).toUInt32 &&& Int32.toUInt32 31)).toInt32) &&& 1431655765) : Int32).toUInt32 >>> ((2 : Int32).toUInt32 &&& Int32.toUInt32 31)).toInt32) &&& 858993459)) + (((((x1 - ((((x1 : Int32).toUInt32 >>> ((1 : Int32).toUInt32 &&& Int32.toUInt32 31)).toInt32) &&& 1431655765)) &&& 858993459) + ((((x1 - ((((x1 : Int32).toUInt32 >>> ((1 : Int32).toUInt32 &&& Int32.toUInt32 31)).toInt32) &&& 1431655765) : Int32).toUInt32 >>> ((2 : Int32).toUInt32 &&& Int32.toUInt32 31)).toInt32) &&& 858993459) : Int32).toUInt32 >>> ((4 : Int32).toUInt32 &&& Int32.toUInt32 31)).toInt32)) &&& 252645135) + (((((((x1 - ((((x1 : Int32).toUInt32 >>> ((1 : Int32).toUInt32 &&& Int32.toUInt32 31)).toInt32) &&& 1431655765)) &&& 858993459) + ((((x1 - ((((x1 : Int32).toUInt32 >>> ((1 : Int32).toUInt32 &&& Int32.toUInt32 31)).toInt32) &&& 1431655765) : Int32).toUInt32 >>> ((2 : Int32).toUInt32 &&& Int32.toUInt32 31)).toInt32) &&& 858993459)) + (((((x1 - ((((x1 : Int32).toUInt32 >>> ((1 : Int32).toUInt32 &&& Int32.toUInt32 31)).toInt32) &&& 1431655765)) &&& 858993459) + ((((x1 - ((((x1 : Int32).toUInt32 >>> ((1 : Int32).toUInt32 &&& Int32.toUInt32 31)).toInt32) &&& 1431655765) : Int32).toUInt32 >>> ((2 : Int32).toUInt32 &&& Int32.toUInt32 31)).toInt32) &&& 858993459) : Int32).toUInt32 >>> ((4 : Int32).toUInt32 &&& Int32.toUInt32 31)).toInt32)) &&& 252645135 : Int32).toUInt32 >>> ((8 : Int32).toUInt32 &&& Int32.toUInt32 31)).toInt32)))]) hx hb dJ6_bitCount_0f7a4_40 rfl hl (by decide) rfl (fun ls hl => ?_)
  refine lv_iload_n hx hb dJ6_bitCount_0f7a4_41 rfl (lv_at hl 0 rfl) ?_
  refine lv_iload_n hx hb dJ6_bitCount_0f7a4_42 rfl (lv_at hl 0 rfl) ?_
  refine lv_bipush (v := 16) hx hb dJ6_bitCount_0f7a4_43 (by decide) ?_
  refine lv_iushr (v := (((((((x1 - ((((x1 : Int32).toUInt32 >>> ((1 : Int32).toUInt32 &&& Int32.toUInt32 31)).toInt32) &&& 1431655765)) &&& 858993459) + ((((x1 - ((((x1 : Int32).toUInt32 >>> ((1 : Int32).toUInt32 &&& Int32.toUInt32 31)).toInt32) &&& 1431655765) : Int32).toUInt32 >>> ((2 : Int32).toUInt32 &&& Int32.toUInt32 31)).toInt32) &&& 858993459)) + (((((x1 - ((((x1 : Int32).toUInt32 >>> ((1 : Int32).toUInt32 &&& Int32.toUInt32 31)).toInt32) &&& 1431655765)) &&& 858993459) + ((((x1 - ((((x1 : Int32).toUInt32 >>> ((1 : Int32).toUInt32 &&& Int32.toUInt32 31)).toInt32) &&& 1431655765) : Int32).toUInt32 >>> ((2 : Int32).toUInt32 &&& Int32.toUInt32 31)).toInt32) &&& 858993459) : Int32).toUInt32 >>> ((4 : Int32).toUInt32 &&& Int32.toUInt32 31)).toInt32)) &&& 252645135) + (((((((x1 - ((((x1 : Int32).toUInt32 >>> ((1 : Int32).toUInt32 &&& Int32.toUInt32 31)).toInt32) &&& 1431655765)) &&& 858993459) + ((((x1 - ((((x1 : Int32).toUInt32 >>> ((1 : Int32).toUInt32 &&& Int32.toUInt32 31)).toInt32) &&& 1431655765) : Int32).toUInt32 >>> ((2 : Int32).toUInt32 &&& Int32.toUInt32 31)).toInt32) &&& 858993459)) + (((((x1 - ((((x1 : Int32).toUInt32 >>> ((1 : Int32).toUInt32 &&& Int32.toUInt32 31)).toInt32) &&& 1431655765)) &&& 858993459) + ((((x1 - ((((x1 : Int32).toUInt32 >>> ((1 : Int32).toUInt32 &&& Int32.toUInt32 31)).toInt32) &&& 1431655765) : Int32).toUInt32 >>> ((2 : Int32).toUInt32 &&& Int32.toUInt32 31)).toInt32) &&& 858993459) : Int32).toUInt32 >>> ((4 : Int32).toUInt32 &&& Int32.toUInt32 31)).toInt32)) &&& 252645135 : Int32).toUInt32 >>> ((8 : Int32).toUInt32 &&& Int32.toUInt32 31)).toInt32) : Int32).toUInt32 >>> ((16 : Int32).toUInt32 &&& Int32.toUInt32 31)).toInt32) hx hb dJ6_bitCount_0f7a4_45 rfl ?_
  refine lv_iadd hx hb dJ6_bitCount_0f7a4_46 ?_
  refine lv_istore_n (lv' := [(0, .int (((((((x1 - ((((x1 : Int32).toUInt32 >>> ((1 : Int32).toUInt32 &&& Int32.toUInt32 31)).toInt32) &&& 1431655765)) &&& 858993459) + ((((x1 - ((((x1 : Int32).toUInt32 >>> ((1 : Int32).toUInt32 &&& Int32.toUInt32 31)).toInt32) &&& 1431655765) : Int32).toUInt32 >>> ((2 : Int32).toUInt32 &&& Int32.toUInt32 31)).toInt32) &&& 858993459)) + (((((x1 - ((((x1 : Int32).toUInt32 >>> ((1 : Int32).toUInt32 &&& Int32.toUInt32 31)).toInt32) &&& 1431655765)) &&& 858993459) + ((((x1 - ((((x1 : Int32).toUInt32 >>> ((1 : Int32).toUInt32 &&& Int32.toUInt32 31)).toInt32) &&& 1431655765) : Int32).toUInt32 >>> ((2 : Int32).toUInt32 &&& Int32.toUInt32 31)).toInt32) &&& 858993459) : Int32).toUInt32 >>> ((4 : Int32).toUInt32 &&& Int32.toUInt32 31)).toInt32)) &&& 252645135) + (((((((x1 - ((((x1 : Int32).toUInt32 >>> ((1 : Int32).toUInt32 &&& Int32.toUInt32 31)).toInt32) &&& 1431655765)) &&& 858993459) + ((((x1 - ((((x1 : Int32).toUInt32 >>> ((1 : Int32).toUInt32 &&& Int32.toUInt32 31)).toInt32) &&& 1431655765) : Int32).toUInt32 >>> ((2 : Int32).toUInt32 &&& Int32.toUInt32 31)).toInt32) &&& 858993459)) + (((((x1 - ((((x1 : Int32).toUInt32 >>> ((1 : Int32).toUInt32 &&& Int32.toUInt32 31)).toInt32) &&& 1431655765)) &&& 858993459) + ((((x1 - ((((x1 : Int32).toUInt32 >>> ((1 : Int32).toUInt32 &&& Int32.toUInt32 31)).toInt32) &&& 1431655765) : Int32).toUInt32 >>> ((2 : Int32).toUInt32 &&& Int32.toUInt32 31)).toInt32) &&& 858993459) : Int32).toUInt32 >>> ((4 : Int32).toUInt32 &&& Int32.toUInt32 31)).toInt32)) &&& 252645135 : Int32).toUInt32 >>> ((8 : Int32).toUInt32 &&& Int32.toUInt32 31)).toInt32)) + ((((((((x1 - ((((x1 : Int32).toUInt32 >>> ((1 : Int32).toUInt32 &&& Int32.toUInt32 31)).toInt32) &&& 1431655765)) &&& 858993459) + ((((x1 - ((((x1 : Int32).toUInt32 >>> ((1 : Int32).toUInt32 &&& Int32.toUInt32 31)).toInt32) &&& 1431655765) : Int32).toUInt32 >>> ((2 : Int32).toUInt32 &&& Int32.toUInt32 31)).toInt32) &&& 858993459)) + (((((x1 - ((((x1 : Int32).toUInt32 >>> ((1 : Int32).toUInt32 &&& Int32.toUInt32 31)).toInt32) &&& 1431655765)) &&& 858993459) + ((((x1 - ((((x1 : Int32).toUInt32 >>> ((1 : Int32).toUInt32 &&& Int32.toUInt32 31)).toInt32) &&& 1431655765) : Int32).toUInt32 >>> ((2 : Int32).toUInt32 &&& Int32.toUInt32 31)).toInt32) &&& 858993459) : Int32).toUInt32 >>> ((4 : Int32).toUInt32 &&& Int32.toUInt32 31)).toInt32)) &&& 252645135) + (((((((x1 - ((((x1 : Int32).toUInt32 >>> ((1 : Int32).toUInt32 &&& Int32.toUInt32 31)).toInt32) &&& 1431655765)) &&& 858993459) + ((((x1 - ((((x1 : Int32).toUInt32 >>> ((1 : Int32).toUInt32 &&& Int32.toUInt32 31)).toInt32) &&& 1431655765) : Int32).toUInt32 >>> ((2 : Int32).toUInt32 &&& Int32.toUInt32 31)).toInt32) &&& 858993459)) + (((((x1 - ((((x1 : Int32).toUInt32 >>> ((1 : Int32).toUInt32 &&& Int32.toUInt32 31)).toInt32) &&& 1431655765)) &&& 858993459) + ((((x1 - ((((x1 : Int32).toUInt32 >>> ((1 : Int32).toUInt32 &&& Int32.toUInt32 31)).toInt32) &&& 1431655765) : Int32).toUInt32 >>> ((2 : Int32).toUInt32 &&& Int32.toUInt32 31)).toInt32) &&& 858993459) : Int32).toUInt32 >>> ((4 : Int32).toUInt32 &&& Int32.toUInt32 31)).toInt32)) &&& 252645135 : Int32).toUInt32 >>> ((8 : Int32).toUInt32 &&& Int32.toUInt32 31)).toInt32) : Int32).toUInt32 >>> ((16 : Int32).toUInt32 &&& Int32.toUInt32 31)).toInt32)))]) hx hb dJ6_bitCount_0f7a4_47 rfl hl (by decide) rfl (fun ls hl => ?_)
  refine lv_iload_n hx hb dJ6_bitCount_0f7a4_48 rfl (lv_at hl 0 rfl) ?_
  refine lv_bipush (v := 63) hx hb dJ6_bitCount_0f7a4_49 (by decide) ?_
  refine lv_iand hx hb dJ6_bitCount_0f7a4_51 ?_
  refine ztop (r := (zPop x1)) ((rfl : _ = zJb x1).trans (zJb_p b_x1)) ?_
  have hP : va_P g.1 vwCl (List.flatten []) s.heap := hP
  have hD : va_D A (List.flatten []) := hD
  exact mret_i hx hb hr hlocks hS (Nat.le_of_ble_eq_true rfl) (Nat.le_of_ble_eq_true rfl) dJ6_bitCount_0f7a4_52 () rfl trivial hP hD
set_option maxRecDepth 100000 in
set_option maxHeartbeats 4000000 in
theorem c_trustOfF (l : Launch) (g : zG) (o : Nat) (a : Nat → Nat) (pe : Int32) (wo : Int32) (tx : Int32) (ch : Int32) (jo : Int32) (tr : Int32) (dy : Int32) (sd : Int32) (f : Nat → Nat → Int32) (x1 : Int32) (x2 : Int32) (b_x1 : 0 ≤ x1.toInt ∧ x1.toInt ≤ 7) (b_x2 : 0 ≤ x2.toInt ∧ x2.toInt ≤ 7) : zM' g l yX9_trustOf (Cond.code yX9_trustOf cX9_trustOf 3 (some .int) :: zB) ({ frames := 0, cells := 0, slots := 0, locals := 0 } : Room) [.ref o, .int x1, .int x2] [bTown g o a pe wo tx ch jo tr dy sd f] (fun _ : Unit => some (.int (f 5 (8 * x1.toInt.toNat + x2.toInt.toNat)))) (fun _ : Unit => True) (fun _ : Unit => [bTown g o a pe wo tx ch jo tr dy sd f]) := by
  refine zM'.of (cc := cX9_trustOf) (maxL := 3) (rt := (some .int)) (by decide) rfl (Nat.le_of_ble_eq_true rfl) ?_
  intro p e s m args below meth c A ls St hr hlocks hin hK hT hA hP hD hS hl
  obtain ⟨hx, hb, hml, hown, hts⟩ := id St
  have hl : lv_has ls 3 [(0, .ref o), (1, .int x1), (2, .int x2)] := hl
  refine lv_aload_n hx hb dX9_trustOf_0 rfl (lv_at hl 0 rfl) ?_
  refine va_get (D := g.1) (ci := 7) (v := .ref (a 5)) (C := RX9) (T := TX9) (N := 19) hx hb hts izRX9 hown hK hP 0 rfl rfl 13 (by decide) (hts _ k15) (fun _ h9 => h9) rfl dX9_trustOf_1 ?_
  refine lv_iload_n hx hb dX9_trustOf_4 rfl (lv_at hl 1 rfl) ?_
  refine lv_bipush (v := 8) hx hb dX9_trustOf_5 (by decide) ?_
  refine lv_imul hx hb dX9_trustOf_7 ?_
  refine zg3 (zmulKR (i := x1.toInt) (n := 8) (a' := 0) (b' := 56) rfl (by decide) b_x1.1 b_x1.2 (by decide) (by decide)) (fun x_1 hx_1 => ?_)
  refine lv_iload_n hx hb dX9_trustOf_8 rfl (lv_at hl 2 rfl) ?_
  refine lv_iadd hx hb dX9_trustOf_9 ?_
  refine zg3 (zaddK (i := x_1.toInt) (j := x2.toInt) (a' := 0) (b' := 63) rfl rfl hx_1.2.1 hx_1.2.2 b_x2.1 b_x2.2 (by decide)) (fun x_2 hx_2 => ?_)
  refine va_iald hx hb hK hP 6 0 rfl rfl (zinK (a := 0) (b := 63) hx_2.2.1 hx_2.2.2 (by decide)) dX9_trustOf_10 ?_
  refine ztop (r := (f 5 (8 * x1.toInt.toNat + x2.toInt.toNat))) (zixF (by omega)) ?_
  have hP : va_P g.1 vwCl (List.flatten [bTown g o a pe wo tx ch jo tr dy sd f]) s.heap := hP
  have hD : va_D A (List.flatten [bTown g o a pe wo tx ch jo tr dy sd f]) := hD
  exact mret_i hx hb hr hlocks hS (Nat.le_of_ble_eq_true rfl) (Nat.le_of_ble_eq_true rfl) dX9_trustOf_11 () rfl trivial hP hD
set_option maxRecDepth 100000 in
set_option maxHeartbeats 4000000 in
theorem c_isHereF (l : Launch) (g : zG) (o : Nat) (a : Nat → Nat) (pe : Int32) (wo : Int32) (tx : Int32) (ch : Int32) (jo : Int32) (tr : Int32) (dy : Int32) (sd : Int32) (f : Nat → Nat → Int32) (x1 : Int32) (b_x1 : 0 ≤ x1.toInt ∧ x1.toInt ≤ 7) : zM' g l yX9_isHere (Cond.code yX9_isHere cX9_isHere 2 (some .boolean) :: zB) ({ frames := 0, cells := 0, slots := 0, locals := 0 } : Room) [.ref o, .int x1] [bTown g o a pe wo tx ch jo tr dy sd f] (fun (q : Int32) => some (.int q)) (fun (q : Int32) => (q = 1 ∧ (f 3 x1.toInt.toNat).toInt = -1 ∨ q = 0 ∧ ¬ (f 3 x1.toInt.toNat).toInt = -1)) (fun (q : Int32) => [bTown g o a pe wo tx ch jo tr dy sd f]) := by
  refine zM'.of (cc := cX9_isHere) (maxL := 2) (rt := (some .boolean)) (by decide) rfl (Nat.le_of_ble_eq_true rfl) ?_
  intro p e s m args below meth c A ls St hr hlocks hin hK hT hA hP hD hS hl
  obtain ⟨hx, hb, hml, hown, hts⟩ := id St
  have hl : lv_has ls 2 [(0, .ref o), (1, .int x1)] := hl
  refine lv_aload_n hx hb dX9_isHere_0 rfl (lv_at hl 0 rfl) ?_
  refine va_get (D := g.1) (ci := 7) (v := .ref (a 3)) (C := RX9) (T := TX9) (N := 19) hx hb hts izRX9 hown hK hP 0 rfl rfl 11 (by decide) (hts _ k12) (fun _ h9 => h9) rfl dX9_isHere_1 ?_
  refine lv_iload_n hx hb dX9_isHere_4 rfl (lv_at hl 1 rfl) ?_
  refine va_iald hx hb hK hP 4 0 rfl rfl (zinK (a := 0) (b := 7) b_x1.1 b_x1.2 (by decide)) dX9_isHere_5 ?_
  refine ztop (r := (f 3 x1.toInt.toNat)) rfl ?_
  refine lv_iconst (v := (-1)) hx hb dX9_isHere_6 (by decide) ?_
  refine lv_icmp_ne (tgt := 14) hx hb dX9_isHere_7 (by decide) (fun cb9 => ?_) (fun cb9 => ?_)
  · skip
    have c1 : ¬ (f 3 x1.toInt.toNat).toInt = (-1) := zne cb9 rfl (by decide)
    refine lv_iconst (v := 0) hx hb dX9_isHere_14 (by decide) ?_
    have hP : va_P g.1 vwCl (List.flatten [bTown g o a pe wo tx ch jo tr dy sd f]) s.heap := hP
    have hD : va_D A (List.flatten [bTown g o a pe wo tx ch jo tr dy sd f]) := hD
    exact mret_z hx hb hr hlocks hS (Nat.le_of_ble_eq_true rfl) (Nat.le_of_ble_eq_true rfl) dX9_isHere_15 ((0 : Int32)) rfl (by decide) (show (0 = 1 ∧ (f 3 x1.toInt.toNat).toInt = -1 ∨ 0 = 0 ∧ ¬ (f 3 x1.toInt.toNat).toInt = -1) from (by first | exact Or.inl ⟨rfl, by omega⟩ | exact Or.inr ⟨rfl, by omega⟩)) hP hD
  · skip
    have c2 : (f 3 x1.toInt.toNat).toInt = (-1) := zeq cb9 rfl (by decide)
    have n3 : (-1) ≤ (f 3 x1.toInt.toNat).toInt := Int.le_trans (Int.le_refl _) (Int.le_of_eq c2.symm)
    have n4 : (f 3 x1.toInt.toNat).toInt ≤ (-1) := Int.le_trans (Int.le_of_eq c2) (Int.le_refl _)
    refine lv_iconst (v := 1) hx hb dX9_isHere_10 (by decide) ?_
    refine lv_goto (tgt := 15) hx hb dX9_isHere_11 (by decide) ?_
    have hP : va_P g.1 vwCl (List.flatten [bTown g o a pe wo tx ch jo tr dy sd f]) s.heap := hP
    have hD : va_D A (List.flatten [bTown g o a pe wo tx ch jo tr dy sd f]) := hD
    exact mret_z hx hb hr hlocks hS (Nat.le_of_ble_eq_true rfl) (Nat.le_of_ble_eq_true rfl) dX9_isHere_15 ((1 : Int32)) rfl (by decide) (show (1 = 1 ∧ (f 3 x1.toInt.toNat).toInt = -1 ∨ 1 = 0 ∧ ¬ (f 3 x1.toInt.toNat).toInt = -1) from (by first | exact Or.inl ⟨rfl, by omega⟩ | exact Or.inr ⟨rfl, by omega⟩)) hP hD
set_option maxRecDepth 100000 in
set_option maxHeartbeats 4000000 in
theorem c_setTrustF (l : Launch) (g : zG) (o : Nat) (a : Nat → Nat) (pe : Int32) (wo : Int32) (tx : Int32) (ch : Int32) (jo : Int32) (tr : Int32) (dy : Int32) (sd : Int32) (f : Nat → Nat → Int32) (x1 : Int32) (x2 : Int32) (v : Int32) (rf : zZ4 f) (b_x1 : 0 ≤ x1.toInt ∧ x1.toInt ≤ 7) (b_x2 : 0 ≤ x2.toInt ∧ x2.toInt ≤ 7) : zM' g l yX9_setTrust (Cond.code yX9_setTrust cX9_setTrust 4 none :: zB) ({ frames := 0, cells := 0, slots := 0, locals := 0 } : Room) [.ref o, .int x1, .int x2, .int v] [bTown g o a pe wo tx ch jo tr dy sd f] (fun (f2 : Nat → Nat → Int32) => none) (fun (f2 : Nat → Nat → Int32) => (zZ4 f2) ∧ (f2 = zSet f 5 (8 * x1.toInt.toNat + x2.toInt.toNat) (v))) (fun (f2 : Nat → Nat → Int32) => [bTown g o a pe wo tx ch jo tr dy sd f2]) := by
  refine zM'.of (cc := cX9_setTrust) (maxL := 4) (rt := none) (by decide) rfl (Nat.le_of_ble_eq_true rfl) ?_
  intro p e s m args below meth c A ls St hr hlocks hin hK hT hA hP hD hS hl
  obtain ⟨hx, hb, hml, hown, hts⟩ := id St
  have hl : lv_has ls 4 [(0, .ref o), (1, .int x1), (2, .int x2), (3, .int v)] := hl
  refine lv_aload_n hx hb dX9_setTrust_0 rfl (lv_at hl 0 rfl) ?_
  refine va_get (D := g.1) (ci := 7) (v := .ref (a 5)) (C := RX9) (T := TX9) (N := 19) hx hb hts izRX9 hown hK hP 0 rfl rfl 13 (by decide) (hts _ k15) (fun _ h9 => h9) rfl dX9_setTrust_1 ?_
  refine lv_iload_n hx hb dX9_setTrust_4 rfl (lv_at hl 1 rfl) ?_
  refine lv_bipush (v := 8) hx hb dX9_setTrust_5 (by decide) ?_
  refine lv_imul hx hb dX9_setTrust_7 ?_
  refine zg3 (zmulKR (i := x1.toInt) (n := 8) (a' := 0) (b' := 56) rfl (by decide) b_x1.1 b_x1.2 (by decide) (by decide)) (fun x_1 hx_1 => ?_)
  refine lv_iload_n hx hb dX9_setTrust_8 rfl (lv_at hl 2 rfl) ?_
  refine lv_iadd hx hb dX9_setTrust_9 ?_
  refine zg3 (zaddK (i := x_1.toInt) (j := x2.toInt) (a' := 0) (b' := 63) rfl rfl hx_1.2.1 hx_1.2.2 b_x2.1 b_x2.2 (by decide)) (fun x_2 hx_2 => ?_)
  refine lv_iload_n hx hb dX9_setTrust_10 rfl (lv_at hl 3 rfl) ?_
  refine va_iast hx hb hK hP hD hS 6 0 rfl rfl (zinK (a := 0) (b := 63) hx_2.2.1 hx_2.2.2 (by decide)) dX9_setTrust_11 (fun H locs hP hD hS => ?_)
  obtain ⟨f3, rf3, ef3, hP, hD⟩ : ∃ f3 : Nat → Nat → Int32, zZ4 f3 ∧ f3 = zSet f 5 (8 * x1.toInt.toNat + x2.toInt.toNat) v ∧ va_P g.1 vwCl (List.flatten [bTown g o a pe wo tx ch jo tr dy sd f3]) H ∧ va_D A (List.flatten [bTown g o a pe wo tx ch jo tr dy sd f3]) := ⟨zu f 5 (upd (f 5) x_2.toNatClampNeg v), (zZ4_u rf (by decide)), (zSetI (by omega)), hP, hD⟩
  have hP : va_P g.1 vwCl (List.flatten [bTown g o a pe wo tx ch jo tr dy sd f3]) H := hP
  have hD : va_D A (List.flatten [bTown g o a pe wo tx ch jo tr dy sd f3]) := hD
  exact mret_v hx hb hr hlocks hS (Nat.le_of_ble_eq_true rfl) (Nat.le_of_ble_eq_true rfl) dX9_setTrust_12 (f3) rfl (show (zZ4 f3) ∧ (f3 = zSet f 5 (8 * x1.toInt.toNat + x2.toInt.toNat) (v)) from ⟨(by assumption), ef3⟩) hP hD
set_option maxRecDepth 100000 in
set_option maxHeartbeats 4000000 in
theorem c_peopleHereF (l : Launch) (g : zG) (o : Nat) (a : Nat → Nat) (pe : Int32) (wo : Int32) (tx : Int32) (ch : Int32) (jo : Int32) (tr : Int32) (dy : Int32) (sd : Int32) (f : Nat → Nat → Int32) (b_pe : 0 ≤ pe.toInt ∧ pe.toInt ≤ 8) (b_wo : 0 ≤ wo.toInt ∧ wo.toInt ≤ 6) (rf : zZ4 f) : zM' g l yX9_peopleHere (Cond.code yX9_peopleHere cX9_peopleHere 3 (some .int) :: zB) ({ frames := 1, cells := 0, slots := 0, locals := 21 } : Room) [.ref o] [bTown g o a pe wo tx ch jo tr dy sd f] (fun _ : Unit => some (.int (zHs f pe.toInt.toNat))) (fun _ : Unit => True) (fun _ : Unit => [bTown g o a pe wo tx ch jo tr dy sd f]) := by
  refine zM'.of (cc := cX9_peopleHere) (maxL := 3) (rt := (some .int)) (by decide) rfl (Nat.le_of_ble_eq_true rfl) ?_
  intro p e s m args below meth c A ls St hr hlocks hin hK hT hA hP hD hS hl
  obtain ⟨hx, hb, hml, hown, hts⟩ := id St
  have hl : lv_has ls 3 [(0, .ref o)] := hl
  refine lv_iconst (v := 0) hx hb dX9_peopleHere_0 (by decide) ?_
  refine lv_istore_n (lv' := [(1, .int 0), (0, .ref o)]) hx hb dX9_peopleHere_1 rfl hl (by decide) rfl (fun ls hl => ?_)
  refine lv_iconst (v := 0) hx hb dX9_peopleHere_2 (by decide) ?_
  refine lv_istore_n (lv' := [(2, .int 0), (1, .int 0), (0, .ref o)]) hx hb dX9_peopleHere_3 rfl hl (by decide) rfl (fun ls hl => ?_)
  have hl := lv_sub (l' := [(0, .ref o), (1, .int 0), (2, .int 0)]) hl [2, 1, 0] rfl
  have LP4_6 : ∀ (kf : Nat) (x_1 : Int32) (x_2 : Int32), (0 ≤ x_2.toInt ∧ x_2.toInt ≤ 8) → (x_1 = zOf (fun x => if (f 3 x).toInt = -1 then zBit x else 0) x_2.toInt.toNat) → (x_2.toInt ≤ pe.toInt) → ∀ (H : Heap) (locs : List Loc) (ls : Array Slot), ((9 - x_2.toInt).toNat) < kf → va_P g.1 vwCl (List.flatten [bTown g o a pe wo tx ch jo tr dy sd f]) H → va_D A (List.flatten [bTown g o a pe wo tx ch jo tr dy sd f]) → va_S A s.heap H locs → lv_has ls 3 [(0, .ref o), (1, .int x_1), (2, .int x_2)] → W p l e ({ frames := 1, cells := 0, slots := 0, locals := 21 } : Room) s m args below meth c H locs (0) (0) (zF g (fun _ : Unit => some (.int (zHs f pe.toInt.toNat))) (fun _ : Unit => True) (fun _ : Unit => [bTown g o a pe wo tx ch jo tr dy sd f]) ({ frames := 1, cells := 0, slots := 0, locals := 21 } : Room) below args s A) (F0 m 4 ls []) := by
    intro kf
    induction kf with
    | zero => intro x_1 x_2 i3 i4 i5 H locs ls hk; exact absurd hk (Nat.not_lt_zero _)
    | succ kf ih4_7 =>
      intro x_1 x_2 i3 i4 i5 H locs ls hk4_7 hP hD hS hl
      refine lv_iload_n hx hb dX9_peopleHere_4 rfl (lv_at hl 2 rfl) ?_
      refine lv_aload_n hx hb dX9_peopleHere_5 rfl (lv_at hl 0 rfl) ?_
      refine va_get (D := g.1) (ci := 7) (v := .int pe) (C := RX9) (T := TX9) (N := 19) hx hb hts izRX9 hown hK hP 0 rfl rfl 0 (by decide) (hts _ k31) (fun _ h9 => h9) rfl dX9_peopleHere_6 ?_
      refine lv_icmp_ge (tgt := 32) hx hb dX9_peopleHere_9 (by decide) (fun cb9 => ?_) (fun cb9 => ?_)
      · skip
        have c8 : pe.toInt ≤ x_2.toInt := zle cb9 rfl rfl
        refine lv_iload_n hx hb dX9_peopleHere_32 rfl (lv_at hl 1 rfl) ?_
        refine ztop (r := (zHs f pe.toInt.toNat)) (zFo_x i4 (by omega)) ?_
        have hP : va_P g.1 vwCl (List.flatten [bTown g o a pe wo tx ch jo tr dy sd f]) H := hP
        have hD : va_D A (List.flatten [bTown g o a pe wo tx ch jo tr dy sd f]) := hD
        exact mret_i hx hb hr hlocks hS (Nat.le_of_ble_eq_true rfl) (Nat.le_of_ble_eq_true rfl) dX9_peopleHere_33 () rfl trivial hP hD
      · skip
        have c9 : x_2.toInt < pe.toInt := zlti (Int32.not_le.mp cb9) rfl rfl
        have n10 : x_2.toInt ≤ 7 := zL1 (b := 8) c9 b_pe.2 (by decide)
        have n11 : 1 ≤ pe.toInt := zL2 (a := 0) c9 i3.1 (by decide)
        refine lv_aload_n hx hb dX9_peopleHere_12 rfl (lv_at hl 0 rfl) ?_
        refine lv_iload_n hx hb dX9_peopleHere_13 rfl (lv_at hl 2 rfl) ?_
        refine mcallV' (g := g) (q0 := 0) (ci := 7) (As := [.int x_2]) (rest := []) St hK hT hA hP hD hS hl.1 [0] [] rfl rfl rfl (c_isHereF l g o a pe wo tx ch jo tr dy sd f x_2 (⟨i3.1, n10⟩)) (cwV 1 hts (zgL (zl4 k53 k54 k55 k24) k51) rfl rfl rfl (by decide +kernel) ⟨Nat.le_of_ble_eq_true rfl, Nat.le_of_ble_eq_true rfl⟩) rfl rfl rfl rfl (Nat.le_of_ble_eq_true rfl) dX9_peopleHere_14 ⟨(Nat.le_of_ble_eq_true rfl), (Nat.le_of_ble_eq_true rfl)⟩ (fun q_12 H locs hq13 hP hD hS => ?_)
        replace hq13 : (q_12 = 1 ∧ (f 3 x_2.toInt.toNat).toInt = -1 ∨ q_12 = 0 ∧ ¬ (f 3 x_2.toInt.toNat).toInt = -1) := hq13
        have hP : va_P g.1 vwCl (List.flatten [bTown g o a pe wo tx ch jo tr dy sd f]) H := hP
        have hD : va_D A (List.flatten [bTown g o a pe wo tx ch jo tr dy sd f]) := hD
        refine W.widen (k := 0) (n := 0) (Nat.le_of_ble_eq_true rfl) (Nat.le_of_ble_eq_true rfl) ?_
        refine W.eq (g2 := F0 m 17 ls [.int q_12]) rfl ?_
        rcases hq13 with ⟨rfl, hq13_k⟩ | ⟨rfl, hq13_k⟩
        · skip
          refine lv_if_eq (tgt := 26) hx hb dX9_peopleHere_17 (by decide) (fun c14 => absurd c14 (by decide)) (fun _ => ?_)
          refine lv_iload_n hx hb dX9_peopleHere_20 rfl (lv_at hl 1 rfl) ?_
          refine lv_iconst (v := 1) hx hb dX9_peopleHere_21 (by decide) ?_
          refine lv_iload_n hx hb dX9_peopleHere_22 rfl (lv_at hl 2 rfl) ?_
          refine lv_ishl hx hb dX9_peopleHere_23 ?_
          refine ztop (r := (zBit x_2.toInt.toNat)) (zBit_k i3.1) ?_
          refine lv_ior hx hb dX9_peopleHere_24 ?_
          refine lv_istore_n (lv' := [(1, .int (x_1 ||| (zBit x_2.toInt.toNat))), (0, .ref o), (2, .int x_2)]) hx hb dX9_peopleHere_25 rfl hl (by decide) rfl (fun ls hl => ?_)
          refine ziinc3 (n' := 1) (a' := 1) (b' := 8) (lv' := fun v9 => [(2, .int v9), (1, .int (x_1 ||| (zBit x_2.toInt.toNat))), (0, .ref o)]) hx hb dX9_peopleHere_26 hl (k := 2) rfl (by decide) (fun _ => rfl) (zaddK (i := x_2.toInt) (j := 1) rfl (by decide) i3.1 n10 (Int.le_refl _) (Int.le_refl _) (by decide)) (fun x_15 ls hx_15 hl => ?_)
          refine lv_goto (tgt := 4) hx hb dX9_peopleHere_29 (by decide) ?_
          have hl := lv_sub (l' := [(0, .ref o), (1, .int (x_1 ||| (zBit x_2.toInt.toNat))), (2, .int x_15)]) hl [2, 1, 0] rfl
          have hP : va_P g.1 vwCl (List.flatten [bTown g o a pe wo tx ch jo tr dy sd f]) H := hP
          have hD : va_D A (List.flatten [bTown g o a pe wo tx ch jo tr dy sd f]) := hD
          exact ih4_7 (x_1 ||| (zBit x_2.toInt.toNat)) x_15 ⟨(Int.le_trans (by decide) hx_15.2.1), hx_15.2.2⟩ (zFo_s i4 hx_15.1 (by omega) (by (try dsimp only); (repeat' split) <;> first | rfl | exact (Int32.add_zero _).symm | exact Int32.or_zero.symm | (exfalso; omega))) (by first | omega | assumption | decide) H _ ls (zmK hx_15.1 (by decide) n10 (by decide) hk4_7)  hP hD hS (lv_sub hl [0, 1, 2] rfl)
        · skip
          refine lv_if_eq (tgt := 26) hx hb dX9_peopleHere_17 (by decide) (fun _ => ?_) (fun c16 => absurd (by decide) c16)
          refine ziinc3 (n' := 1) (a' := 1) (b' := 8) (lv' := fun v9 => [(2, .int v9), (0, .ref o), (1, .int x_1)]) hx hb dX9_peopleHere_26 hl (k := 2) rfl (by decide) (fun _ => rfl) (zaddK (i := x_2.toInt) (j := 1) rfl (by decide) i3.1 n10 (Int.le_refl _) (Int.le_refl _) (by decide)) (fun x_17 ls hx_17 hl => ?_)
          refine lv_goto (tgt := 4) hx hb dX9_peopleHere_29 (by decide) ?_
          have hl := lv_sub (l' := [(0, .ref o), (1, .int x_1), (2, .int x_17)]) hl [1, 2, 0] rfl
          have hP : va_P g.1 vwCl (List.flatten [bTown g o a pe wo tx ch jo tr dy sd f]) H := hP
          have hD : va_D A (List.flatten [bTown g o a pe wo tx ch jo tr dy sd f]) := hD
          exact ih4_7 x_1 x_17 ⟨(Int.le_trans (by decide) hx_17.2.1), hx_17.2.2⟩ (zFo_s i4 hx_17.1 (by omega) (by (try dsimp only); (repeat' split) <;> first | rfl | exact (Int32.add_zero _).symm | exact Int32.or_zero.symm | (exfalso; omega))) (by first | omega | assumption | decide) H _ ls (zmK hx_17.1 (by decide) n10 (by decide) hk4_7)  hP hD hS (lv_sub hl [0, 1, 2] rfl)
  have hL0 : (0 : Int32).toInt = 0 := by decide
  have hP : va_P g.1 vwCl (List.flatten [bTown g o a pe wo tx ch jo tr dy sd f]) s.heap := hP
  have hD : va_D A (List.flatten [bTown g o a pe wo tx ch jo tr dy sd f]) := hD
  exact LP4_6 _ 0 0 (by decide) (zFo_0 (by decide) (by decide)) (by first | omega | assumption | decide) s.heap _ ls (Nat.lt_succ_self _)  hP hD hS (lv_sub hl [0, 1, 2] rfl)
set_option maxRecDepth 100000 in
set_option maxHeartbeats 4000000 in
theorem c_believedF (l : Launch) (g : zG) (o : Nat) (a : Nat → Nat) (pe : Int32) (wo : Int32) (tx : Int32) (ch : Int32) (jo : Int32) (tr : Int32) (dy : Int32) (sd : Int32) (f : Nat → Nat → Int32) (b_pe : 0 ≤ pe.toInt ∧ pe.toInt ≤ 8) (b_wo : 0 ≤ wo.toInt ∧ wo.toInt ≤ 6) (rf : zZ4 f) : zM' g l yX9_believed (Cond.code yX9_believed cX9_believed 3 (some .int) :: zB) ({ frames := 1, cells := 0, slots := 0, locals := 21 } : Room) [.ref o] [bTown g o a pe wo tx ch jo tr dy sd f] (fun _ : Unit => some (.int (zBel f pe.toInt.toNat))) (fun _ : Unit => True) (fun _ : Unit => [bTown g o a pe wo tx ch jo tr dy sd f]) := by
  refine zM'.of (cc := cX9_believed) (maxL := 3) (rt := (some .int)) (by decide) rfl (Nat.le_of_ble_eq_true rfl) ?_
  intro p e s m args below meth c A ls St hr hlocks hin hK hT hA hP hD hS hl
  obtain ⟨hx, hb, hml, hown, hts⟩ := id St
  have hl : lv_has ls 3 [(0, .ref o)] := hl
  refine lv_iconst (v := 0) hx hb dX9_believed_0 (by decide) ?_
  refine lv_istore_n (lv' := [(1, .int 0), (0, .ref o)]) hx hb dX9_believed_1 rfl hl (by decide) rfl (fun ls hl => ?_)
  refine lv_iconst (v := 0) hx hb dX9_believed_2 (by decide) ?_
  refine lv_istore_n (lv' := [(2, .int 0), (1, .int 0), (0, .ref o)]) hx hb dX9_believed_3 rfl hl (by decide) rfl (fun ls hl => ?_)
  have hl := lv_sub (l' := [(0, .ref o), (1, .int 0), (2, .int 0)]) hl [2, 1, 0] rfl
  have LP4_6 : ∀ (kf : Nat) (x_1 : Int32) (x_2 : Int32), (0 ≤ x_2.toInt ∧ x_2.toInt ≤ 8) → (x_1 = zSu (fun x => if (f 3 x).toInt = -1 then f 0 x else 0) x_2.toInt.toNat) → (x_2.toInt ≤ pe.toInt) → ∀ (H : Heap) (locs : List Loc) (ls : Array Slot), ((9 - x_2.toInt).toNat) < kf → va_P g.1 vwCl (List.flatten [bTown g o a pe wo tx ch jo tr dy sd f]) H → va_D A (List.flatten [bTown g o a pe wo tx ch jo tr dy sd f]) → va_S A s.heap H locs → lv_has ls 3 [(0, .ref o), (1, .int x_1), (2, .int x_2)] → W p l e ({ frames := 1, cells := 0, slots := 0, locals := 21 } : Room) s m args below meth c H locs (0) (0) (zF g (fun _ : Unit => some (.int (zBel f pe.toInt.toNat))) (fun _ : Unit => True) (fun _ : Unit => [bTown g o a pe wo tx ch jo tr dy sd f]) ({ frames := 1, cells := 0, slots := 0, locals := 21 } : Room) below args s A) (F0 m 4 ls []) := by
    intro kf
    induction kf with
    | zero => intro x_1 x_2 i3 i4 i5 H locs ls hk; exact absurd hk (Nat.not_lt_zero _)
    | succ kf ih4_7 =>
      intro x_1 x_2 i3 i4 i5 H locs ls hk4_7 hP hD hS hl
      refine lv_iload_n hx hb dX9_believed_4 rfl (lv_at hl 2 rfl) ?_
      refine lv_aload_n hx hb dX9_believed_5 rfl (lv_at hl 0 rfl) ?_
      refine va_get (D := g.1) (ci := 7) (v := .int pe) (C := RX9) (T := TX9) (N := 19) hx hb hts izRX9 hown hK hP 0 rfl rfl 0 (by decide) (hts _ k31) (fun _ h9 => h9) rfl dX9_believed_6 ?_
      refine lv_icmp_ge (tgt := 35) hx hb dX9_believed_9 (by decide) (fun cb9 => ?_) (fun cb9 => ?_)
      · skip
        have c8 : pe.toInt ≤ x_2.toInt := zle cb9 rfl rfl
        refine lv_iload_n hx hb dX9_believed_35 rfl (lv_at hl 1 rfl) ?_
        refine ztop (r := (zBel f pe.toInt.toNat)) (zFo_x i4 (by omega)) ?_
        have hP : va_P g.1 vwCl (List.flatten [bTown g o a pe wo tx ch jo tr dy sd f]) H := hP
        have hD : va_D A (List.flatten [bTown g o a pe wo tx ch jo tr dy sd f]) := hD
        exact mret_i hx hb hr hlocks hS (Nat.le_of_ble_eq_true rfl) (Nat.le_of_ble_eq_true rfl) dX9_believed_36 () rfl trivial hP hD
      · skip
        have c9 : x_2.toInt < pe.toInt := zlti (Int32.not_le.mp cb9) rfl rfl
        have n10 : x_2.toInt ≤ 7 := zL1 (b := 8) c9 b_pe.2 (by decide)
        have n11 : 1 ≤ pe.toInt := zL2 (a := 0) c9 i3.1 (by decide)
        refine lv_aload_n hx hb dX9_believed_12 rfl (lv_at hl 0 rfl) ?_
        refine lv_iload_n hx hb dX9_believed_13 rfl (lv_at hl 2 rfl) ?_
        refine mcallV' (g := g) (q0 := 0) (ci := 7) (As := [.int x_2]) (rest := []) St hK hT hA hP hD hS hl.1 [0] [] rfl rfl rfl (c_isHereF l g o a pe wo tx ch jo tr dy sd f x_2 (⟨i3.1, n10⟩)) (cwV 1 hts (zgL (zl4 k53 k54 k55 k24) k51) rfl rfl rfl (by decide +kernel) ⟨Nat.le_of_ble_eq_true rfl, Nat.le_of_ble_eq_true rfl⟩) rfl rfl rfl rfl (Nat.le_of_ble_eq_true rfl) dX9_believed_14 ⟨(Nat.le_of_ble_eq_true rfl), (Nat.le_of_ble_eq_true rfl)⟩ (fun q_12 H locs hq13 hP hD hS => ?_)
        replace hq13 : (q_12 = 1 ∧ (f 3 x_2.toInt.toNat).toInt = -1 ∨ q_12 = 0 ∧ ¬ (f 3 x_2.toInt.toNat).toInt = -1) := hq13
        have hP : va_P g.1 vwCl (List.flatten [bTown g o a pe wo tx ch jo tr dy sd f]) H := hP
        have hD : va_D A (List.flatten [bTown g o a pe wo tx ch jo tr dy sd f]) := hD
        refine W.widen (k := 0) (n := 0) (Nat.le_of_ble_eq_true rfl) (Nat.le_of_ble_eq_true rfl) ?_
        refine W.eq (g2 := F0 m 17 ls [.int q_12]) rfl ?_
        rcases hq13 with ⟨rfl, hq13_k⟩ | ⟨rfl, hq13_k⟩
        · skip
          refine lv_if_eq (tgt := 29) hx hb dX9_believed_17 (by decide) (fun c14 => absurd c14 (by decide)) (fun _ => ?_)
          refine lv_iload_n hx hb dX9_believed_20 rfl (lv_at hl 1 rfl) ?_
          refine lv_aload_n hx hb dX9_believed_21 rfl (lv_at hl 0 rfl) ?_
          refine va_get (D := g.1) (ci := 7) (v := .ref (a 0)) (C := RX9) (T := TX9) (N := 19) hx hb hts izRX9 hown hK hP 0 rfl rfl 8 (by decide) (hts _ k9) (fun _ h9 => h9) rfl dX9_believed_22 ?_
          refine lv_iload_n hx hb dX9_believed_25 rfl (lv_at hl 2 rfl) ?_
          refine va_iald hx hb hK hP 1 0 rfl rfl (zinK (a := 0) (b := 7) i3.1 n10 (by decide)) dX9_believed_26 ?_
          refine ztop (r := (f 0 x_2.toInt.toNat)) rfl ?_
          refine lv_iadd hx hb dX9_believed_27 ?_
          refine lv_istore_n (lv' := [(1, .int (x_1 + (f 0 x_2.toInt.toNat))), (0, .ref o), (2, .int x_2)]) hx hb dX9_believed_28 rfl hl (by decide) rfl (fun ls hl => ?_)
          refine ziinc3 (n' := 1) (a' := 1) (b' := 8) (lv' := fun v9 => [(2, .int v9), (1, .int (x_1 + (f 0 x_2.toInt.toNat))), (0, .ref o)]) hx hb dX9_believed_29 hl (k := 2) rfl (by decide) (fun _ => rfl) (zaddK (i := x_2.toInt) (j := 1) rfl (by decide) i3.1 n10 (Int.le_refl _) (Int.le_refl _) (by decide)) (fun x_15 ls hx_15 hl => ?_)
          refine lv_goto (tgt := 4) hx hb dX9_believed_32 (by decide) ?_
          have hl := lv_sub (l' := [(0, .ref o), (1, .int (x_1 + (f 0 x_2.toInt.toNat))), (2, .int x_15)]) hl [2, 1, 0] rfl
          have hP : va_P g.1 vwCl (List.flatten [bTown g o a pe wo tx ch jo tr dy sd f]) H := hP
          have hD : va_D A (List.flatten [bTown g o a pe wo tx ch jo tr dy sd f]) := hD
          exact ih4_7 (x_1 + (f 0 x_2.toInt.toNat)) x_15 ⟨(Int.le_trans (by decide) hx_15.2.1), hx_15.2.2⟩ (zFo_s i4 hx_15.1 (by omega) (by (try dsimp only); (repeat' split) <;> first | rfl | exact (Int32.add_zero _).symm | exact Int32.or_zero.symm | (exfalso; omega))) (by first | omega | assumption | decide) H _ ls (zmK hx_15.1 (by decide) n10 (by decide) hk4_7)  hP hD hS (lv_sub hl [0, 1, 2] rfl)
        · skip
          refine lv_if_eq (tgt := 29) hx hb dX9_believed_17 (by decide) (fun _ => ?_) (fun c16 => absurd (by decide) c16)
          refine ziinc3 (n' := 1) (a' := 1) (b' := 8) (lv' := fun v9 => [(2, .int v9), (0, .ref o), (1, .int x_1)]) hx hb dX9_believed_29 hl (k := 2) rfl (by decide) (fun _ => rfl) (zaddK (i := x_2.toInt) (j := 1) rfl (by decide) i3.1 n10 (Int.le_refl _) (Int.le_refl _) (by decide)) (fun x_17 ls hx_17 hl => ?_)
          refine lv_goto (tgt := 4) hx hb dX9_believed_32 (by decide) ?_
          have hl := lv_sub (l' := [(0, .ref o), (1, .int x_1), (2, .int x_17)]) hl [1, 2, 0] rfl
          have hP : va_P g.1 vwCl (List.flatten [bTown g o a pe wo tx ch jo tr dy sd f]) H := hP
          have hD : va_D A (List.flatten [bTown g o a pe wo tx ch jo tr dy sd f]) := hD
          exact ih4_7 x_1 x_17 ⟨(Int.le_trans (by decide) hx_17.2.1), hx_17.2.2⟩ (zFo_s i4 hx_17.1 (by omega) (by (try dsimp only); (repeat' split) <;> first | rfl | exact (Int32.add_zero _).symm | exact Int32.or_zero.symm | (exfalso; omega))) (by first | omega | assumption | decide) H _ ls (zmK hx_17.1 (by decide) n10 (by decide) hk4_7)  hP hD hS (lv_sub hl [0, 1, 2] rfl)
  have hL0 : (0 : Int32).toInt = 0 := by decide
  have hP : va_P g.1 vwCl (List.flatten [bTown g o a pe wo tx ch jo tr dy sd f]) s.heap := hP
  have hD : va_D A (List.flatten [bTown g o a pe wo tx ch jo tr dy sd f]) := hD
  exact LP4_6 _ 0 0 (by decide) (zFo_0 (by decide) (by decide)) (by first | omega | assumption | decide) s.heap _ ls (Nat.lt_succ_self _)  hP hD hS (lv_sub hl [0, 1, 2] rfl)
set_option maxRecDepth 100000 in
set_option maxHeartbeats 4000000 in
theorem c_pullOfF (l : Launch) (g : zG) (o : Nat) (a : Nat → Nat) (pe : Int32) (wo : Int32) (tx : Int32) (ch : Int32) (jo : Int32) (tr : Int32) (dy : Int32) (sd : Int32) (f : Nat → Nat → Int32) (x1 : Int32) (b_pe : 0 ≤ pe.toInt ∧ pe.toInt ≤ 8) (b_wo : 0 ≤ wo.toInt ∧ wo.toInt ≤ 6) (rf : zZ4 f) (b_x1 : 0 ≤ x1.toInt ∧ x1.toInt ≤ 7) : zM' g l yX9_pullOf (Cond.code yX9_pullOf cX9_pullOf 4 (some .int) :: zB) ({ frames := 1, cells := 0, slots := 0, locals := 22 } : Room) [.ref o, .int x1] [bTown g o a pe wo tx ch jo tr dy sd f] (fun _ : Unit => some (.int (zPull f pe.toInt.toNat x1.toInt.toNat))) (fun _ : Unit => True) (fun _ : Unit => [bTown g o a pe wo tx ch jo tr dy sd f]) := by
  refine zM'.of (cc := cX9_pullOf) (maxL := 4) (rt := (some .int)) (by decide) rfl (Nat.le_of_ble_eq_true rfl) ?_
  intro p e s m args below meth c A ls St hr hlocks hin hK hT hA hP hD hS hl
  obtain ⟨hx, hb, hml, hown, hts⟩ := id St
  have hl : lv_has ls 4 [(0, .ref o), (1, .int x1)] := hl
  refine lv_iconst (v := 0) hx hb dX9_pullOf_0 (by decide) ?_
  refine lv_istore_n (lv' := [(2, .int 0), (0, .ref o), (1, .int x1)]) hx hb dX9_pullOf_1 rfl hl (by decide) rfl (fun ls hl => ?_)
  refine lv_iconst (v := 0) hx hb dX9_pullOf_2 (by decide) ?_
  refine lv_istore_n (lv' := [(3, .int 0), (2, .int 0), (0, .ref o), (1, .int x1)]) hx hb dX9_pullOf_3 rfl hl (by decide) rfl (fun ls hl => ?_)
  have hl := lv_sub (l' := [(0, .ref o), (1, .int x1), (2, .int 0), (3, .int 0)]) hl [2, 3, 1, 0] rfl
  have LP4_6 : ∀ (kf : Nat) (x_1 : Int32) (x_2 : Int32), (0 ≤ x_2.toInt ∧ x_2.toInt ≤ 8) → (x_1 = zSu (fun o => if o = x1.toInt.toNat then 0 else if (f 3 o).toInt = -1 then f 5 (8 * x1.toInt.toNat + o) * (f 0 o - f 0 x1.toInt.toNat) else 0) x_2.toInt.toNat) → (x_2.toInt ≤ pe.toInt) → ∀ (H : Heap) (locs : List Loc) (ls : Array Slot), ((9 - x_2.toInt).toNat) < kf → va_P g.1 vwCl (List.flatten [bTown g o a pe wo tx ch jo tr dy sd f]) H → va_D A (List.flatten [bTown g o a pe wo tx ch jo tr dy sd f]) → va_S A s.heap H locs → lv_has ls 4 [(0, .ref o), (1, .int x1), (2, .int x_1), (3, .int x_2)] → W p l e ({ frames := 1, cells := 0, slots := 0, locals := 22 } : Room) s m args below meth c H locs (0) (0) (zF g (fun _ : Unit => some (.int (zPull f pe.toInt.toNat x1.toInt.toNat))) (fun _ : Unit => True) (fun _ : Unit => [bTown g o a pe wo tx ch jo tr dy sd f]) ({ frames := 1, cells := 0, slots := 0, locals := 22 } : Room) below args s A) (F0 m 4 ls []) := by
    intro kf
    induction kf with
    | zero => intro x_1 x_2 i3 i4 i5 H locs ls hk; exact absurd hk (Nat.not_lt_zero _)
    | succ kf ih4_7 =>
      intro x_1 x_2 i3 i4 i5 H locs ls hk4_7 hP hD hS hl
      refine lv_iload_n hx hb dX9_pullOf_4 rfl (lv_at hl 3 rfl) ?_
      refine lv_aload_n hx hb dX9_pullOf_5 rfl (lv_at hl 0 rfl) ?_
      refine va_get (D := g.1) (ci := 7) (v := .int pe) (C := RX9) (T := TX9) (N := 19) hx hb hts izRX9 hown hK hP 0 rfl rfl 0 (by decide) (hts _ k31) (fun _ h9 => h9) rfl dX9_pullOf_6 ?_
      refine lv_icmp_ge (tgt := 54) hx hb dX9_pullOf_9 (by decide) (fun cb9 => ?_) (fun cb9 => ?_)
      · skip
        have c8 : pe.toInt ≤ x_2.toInt := zle cb9 rfl rfl
        refine lv_iload_n hx hb dX9_pullOf_54 rfl (lv_at hl 2 rfl) ?_
        refine lv_bipush (v := 40) hx hb dX9_pullOf_55 (by decide) ?_
        refine lv_idiv hx hb dX9_pullOf_57 (by decide) ?_
        refine ztop (r := (zPull f pe.toInt.toNat x1.toInt.toNat)) (congrArg (fun q => q / 40) (zFo_x i4 (by omega))) ?_
        have hP : va_P g.1 vwCl (List.flatten [bTown g o a pe wo tx ch jo tr dy sd f]) H := hP
        have hD : va_D A (List.flatten [bTown g o a pe wo tx ch jo tr dy sd f]) := hD
        exact mret_i hx hb hr hlocks hS (Nat.le_of_ble_eq_true rfl) (Nat.le_of_ble_eq_true rfl) dX9_pullOf_58 () rfl trivial hP hD
      · skip
        have c9 : x_2.toInt < pe.toInt := zlti (Int32.not_le.mp cb9) rfl rfl
        have n10 : x_2.toInt ≤ 7 := zL1 (b := 8) c9 b_pe.2 (by decide)
        have n11 : 1 ≤ pe.toInt := zL2 (a := 0) c9 i3.1 (by decide)
        refine lv_iload_n hx hb dX9_pullOf_12 rfl (lv_at hl 3 rfl) ?_
        refine lv_iload_n hx hb dX9_pullOf_13 rfl (lv_at hl 1 rfl) ?_
        refine lv_icmp_eq (tgt := 48) hx hb dX9_pullOf_14 (by decide) (fun cb9 => ?_) (fun cb9 => ?_)
        · skip
          have c12 : x_2.toInt = x1.toInt := zeq cb9 rfl rfl
          refine ziinc3 (n' := 1) (a' := 1) (b' := 8) (lv' := fun v9 => [(3, .int v9), (0, .ref o), (1, .int x1), (2, .int x_1)]) hx hb dX9_pullOf_48 hl (k := 3) rfl (by decide) (fun _ => rfl) (zaddK (i := x_2.toInt) (j := 1) rfl (by decide) i3.1 n10 (Int.le_refl _) (Int.le_refl _) (by decide)) (fun x_13 ls hx_13 hl => ?_)
          refine lv_goto (tgt := 4) hx hb dX9_pullOf_51 (by decide) ?_
          have hl := lv_sub (l' := [(0, .ref o), (1, .int x1), (2, .int x_1), (3, .int x_13)]) hl [1, 2, 3, 0] rfl
          have hP : va_P g.1 vwCl (List.flatten [bTown g o a pe wo tx ch jo tr dy sd f]) H := hP
          have hD : va_D A (List.flatten [bTown g o a pe wo tx ch jo tr dy sd f]) := hD
          exact ih4_7 x_1 x_13 ⟨(Int.le_trans (by decide) hx_13.2.1), hx_13.2.2⟩ (zFo_s i4 hx_13.1 (by omega) (by (try dsimp only); (repeat' split) <;> first | rfl | exact (Int32.add_zero _).symm | exact Int32.or_zero.symm | (exfalso; omega))) (by first | omega | assumption | decide) H _ ls (zmK hx_13.1 (by decide) n10 (by decide) hk4_7)  hP hD hS (lv_sub hl [0, 1, 2, 3] rfl)
        · skip
          have c14 : ¬ x_2.toInt = x1.toInt := zne cb9 rfl rfl
          refine lv_aload_n hx hb dX9_pullOf_17 rfl (lv_at hl 0 rfl) ?_
          refine lv_iload_n hx hb dX9_pullOf_18 rfl (lv_at hl 3 rfl) ?_
          refine mcallV' (g := g) (q0 := 0) (ci := 7) (As := [.int x_2]) (rest := []) St hK hT hA hP hD hS hl.1 [0] [] rfl rfl rfl (c_isHereF l g o a pe wo tx ch jo tr dy sd f x_2 (⟨i3.1, n10⟩)) (cwV 1 hts (zgL (zl4 k53 k54 k55 k24) k51) rfl rfl rfl (by decide +kernel) ⟨Nat.le_of_ble_eq_true rfl, Nat.le_of_ble_eq_true rfl⟩) rfl rfl rfl rfl (Nat.le_of_ble_eq_true rfl) dX9_pullOf_19 ⟨(Nat.le_of_ble_eq_true rfl), (Nat.le_of_ble_eq_true rfl)⟩ (fun q_15 H locs hq16 hP hD hS => ?_)
          replace hq16 : (q_15 = 1 ∧ (f 3 x_2.toInt.toNat).toInt = -1 ∨ q_15 = 0 ∧ ¬ (f 3 x_2.toInt.toNat).toInt = -1) := hq16
          have hP : va_P g.1 vwCl (List.flatten [bTown g o a pe wo tx ch jo tr dy sd f]) H := hP
          have hD : va_D A (List.flatten [bTown g o a pe wo tx ch jo tr dy sd f]) := hD
          refine W.widen (k := 0) (n := 0) (Nat.le_of_ble_eq_true rfl) (Nat.le_of_ble_eq_true rfl) ?_
          refine W.eq (g2 := F0 m 22 ls [.int q_15]) rfl ?_
          rcases hq16 with ⟨rfl, hq16_k⟩ | ⟨rfl, hq16_k⟩
          · skip
            refine lv_if_eq (tgt := 48) hx hb dX9_pullOf_22 (by decide) (fun c17 => absurd c17 (by decide)) (fun _ => ?_)
            refine lv_iload_n hx hb dX9_pullOf_25 rfl (lv_at hl 2 rfl) ?_
            refine lv_aload_n hx hb dX9_pullOf_26 rfl (lv_at hl 0 rfl) ?_
            refine lv_iload_n hx hb dX9_pullOf_27 rfl (lv_at hl 1 rfl) ?_
            refine lv_iload_n hx hb dX9_pullOf_28 rfl (lv_at hl 3 rfl) ?_
            refine mcallV' (g := g) (q0 := 0) (ci := 7) (As := [.int x1, .int x_2]) (rest := [.int x_1]) St hK hT hA hP hD hS hl.1 [0] [] rfl rfl rfl (c_trustOfF l g o a pe wo tx ch jo tr dy sd f x1 x_2 b_x1 (⟨i3.1, n10⟩)) (cwV 2 hts (zgL (zl4 k89 k90 k91 k24) k87) rfl rfl rfl (by decide +kernel) ⟨Nat.le_of_ble_eq_true rfl, Nat.le_of_ble_eq_true rfl⟩) rfl rfl rfl rfl (Nat.le_of_ble_eq_true rfl) dX9_pullOf_29 ⟨(Nat.le_of_ble_eq_true rfl), (Nat.le_of_ble_eq_true rfl)⟩ (fun _u H locs hq18 hP hD hS => ?_)
            have hP : va_P g.1 vwCl (List.flatten [bTown g o a pe wo tx ch jo tr dy sd f]) H := hP
            have hD : va_D A (List.flatten [bTown g o a pe wo tx ch jo tr dy sd f]) := hD
            refine W.widen (k := 0) (n := 0) (Nat.le_of_ble_eq_true rfl) (Nat.le_of_ble_eq_true rfl) ?_
            refine W.eq (g2 := F0 m 32 ls [.int (f 5 (8 * x1.toInt.toNat + x_2.toInt.toNat)), .int x_1]) rfl ?_
            refine lv_aload_n hx hb dX9_pullOf_32 rfl (lv_at hl 0 rfl) ?_
            refine va_get (D := g.1) (ci := 7) (v := .ref (a 0)) (C := RX9) (T := TX9) (N := 19) hx hb hts izRX9 hown hK hP 0 rfl rfl 8 (by decide) (hts _ k9) (fun _ h9 => h9) rfl dX9_pullOf_33 ?_
            refine lv_iload_n hx hb dX9_pullOf_36 rfl (lv_at hl 3 rfl) ?_
            refine va_iald hx hb hK hP 1 0 rfl rfl (zinK (a := 0) (b := 7) i3.1 n10 (by decide)) dX9_pullOf_37 ?_
            refine ztop (r := (f 0 x_2.toInt.toNat)) rfl ?_
            refine lv_aload_n hx hb dX9_pullOf_38 rfl (lv_at hl 0 rfl) ?_
            refine va_get (D := g.1) (ci := 7) (v := .ref (a 0)) (C := RX9) (T := TX9) (N := 19) hx hb hts izRX9 hown hK hP 0 rfl rfl 8 (by decide) (hts _ k9) (fun _ h9 => h9) rfl dX9_pullOf_39 ?_
            refine lv_iload_n hx hb dX9_pullOf_42 rfl (lv_at hl 1 rfl) ?_
            refine va_iald hx hb hK hP 1 0 rfl rfl (zinK (a := 0) (b := 7) b_x1.1 b_x1.2 (by decide)) dX9_pullOf_43 ?_
            refine ztop (r := (f 0 x1.toInt.toNat)) rfl ?_
            refine lv_isub hx hb dX9_pullOf_44 ?_
            refine lv_imul hx hb dX9_pullOf_45 ?_
            refine lv_iadd hx hb dX9_pullOf_46 ?_
            refine lv_istore_n (lv' := [(2, .int (x_1 + ((f 5 (8 * x1.toInt.toNat + x_2.toInt.toNat)) * ((f 0 x_2.toInt.toNat) - (f 0 x1.toInt.toNat))))), (0, .ref o), (1, .int x1), (3, .int x_2)]) hx hb dX9_pullOf_47 rfl hl (by decide) rfl (fun ls hl => ?_)
            refine ziinc3 (n' := 1) (a' := 1) (b' := 8) (lv' := fun v9 => [(3, .int v9), (2, .int (x_1 + ((f 5 (8 * x1.toInt.toNat + x_2.toInt.toNat)) * ((f 0 x_2.toInt.toNat) - (f 0 x1.toInt.toNat))))), (0, .ref o), (1, .int x1)]) hx hb dX9_pullOf_48 hl (k := 3) rfl (by decide) (fun _ => rfl) (zaddK (i := x_2.toInt) (j := 1) rfl (by decide) i3.1 n10 (Int.le_refl _) (Int.le_refl _) (by decide)) (fun x_19 ls hx_19 hl => ?_)
            refine lv_goto (tgt := 4) hx hb dX9_pullOf_51 (by decide) ?_
            have hl := lv_sub (l' := [(0, .ref o), (1, .int x1), (2, .int (x_1 + ((f 5 (8 * x1.toInt.toNat + x_2.toInt.toNat)) * ((f 0 x_2.toInt.toNat) - (f 0 x1.toInt.toNat))))), (3, .int x_19)]) hl [2, 3, 1, 0] rfl
            have hP : va_P g.1 vwCl (List.flatten [bTown g o a pe wo tx ch jo tr dy sd f]) H := hP
            have hD : va_D A (List.flatten [bTown g o a pe wo tx ch jo tr dy sd f]) := hD
            exact ih4_7 (x_1 + ((f 5 (8 * x1.toInt.toNat + x_2.toInt.toNat)) * ((f 0 x_2.toInt.toNat) - (f 0 x1.toInt.toNat)))) x_19 ⟨(Int.le_trans (by decide) hx_19.2.1), hx_19.2.2⟩ (zFo_s i4 hx_19.1 (by omega) (by (try dsimp only); (repeat' split) <;> first | rfl | exact (Int32.add_zero _).symm | exact Int32.or_zero.symm | (exfalso; omega))) (by first | omega | assumption | decide) H _ ls (zmK hx_19.1 (by decide) n10 (by decide) hk4_7)  hP hD hS (lv_sub hl [0, 1, 2, 3] rfl)
          · skip
            refine lv_if_eq (tgt := 48) hx hb dX9_pullOf_22 (by decide) (fun _ => ?_) (fun c20 => absurd (by decide) c20)
            refine ziinc3 (n' := 1) (a' := 1) (b' := 8) (lv' := fun v9 => [(3, .int v9), (0, .ref o), (1, .int x1), (2, .int x_1)]) hx hb dX9_pullOf_48 hl (k := 3) rfl (by decide) (fun _ => rfl) (zaddK (i := x_2.toInt) (j := 1) rfl (by decide) i3.1 n10 (Int.le_refl _) (Int.le_refl _) (by decide)) (fun x_21 ls hx_21 hl => ?_)
            refine lv_goto (tgt := 4) hx hb dX9_pullOf_51 (by decide) ?_
            have hl := lv_sub (l' := [(0, .ref o), (1, .int x1), (2, .int x_1), (3, .int x_21)]) hl [1, 2, 3, 0] rfl
            have hP : va_P g.1 vwCl (List.flatten [bTown g o a pe wo tx ch jo tr dy sd f]) H := hP
            have hD : va_D A (List.flatten [bTown g o a pe wo tx ch jo tr dy sd f]) := hD
            exact ih4_7 x_1 x_21 ⟨(Int.le_trans (by decide) hx_21.2.1), hx_21.2.2⟩ (zFo_s i4 hx_21.1 (by omega) (by (try dsimp only); (repeat' split) <;> first | rfl | exact (Int32.add_zero _).symm | exact Int32.or_zero.symm | (exfalso; omega))) (by first | omega | assumption | decide) H _ ls (zmK hx_21.1 (by decide) n10 (by decide) hk4_7)  hP hD hS (lv_sub hl [0, 1, 2, 3] rfl)
  have hL0 : (0 : Int32).toInt = 0 := by decide
  have hP : va_P g.1 vwCl (List.flatten [bTown g o a pe wo tx ch jo tr dy sd f]) s.heap := hP
  have hD : va_D A (List.flatten [bTown g o a pe wo tx ch jo tr dy sd f]) := hD
  exact LP4_6 _ 0 0 (by decide) (zFo_0 (by decide) (by decide)) (by first | omega | assumption | decide) s.heap _ ls (Nat.lt_succ_self _)  hP hD hS (lv_sub hl [0, 1, 2, 3] rfl)
