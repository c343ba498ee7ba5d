/-- the law of the row is this number of facts -/
def zLm (L : zLw) (fm : Nat → Int32) : Prop := ((fm 1).toInt = -1 ∧ ∀ e : Nat → Int32, L e = if (e 6).toInt = 0 then 0 else -1) ∨ (¬ (fm 1).toInt = -1 ∧ ∃ tx : Nat → Int32, (∀ k : Nat, (k : Int) < (fm 2).toInt → fm (379 + k) = tx k) ∧ ∀ e : Nat → Int32, zLwV tx (fm 2).toInt e (L e))
theorem zLm_n {L : zLw} {fm : Nat → Int32} (h : zLm L fm) (c : (fm 1).toInt = -1) : ∀ e : Nat → Int32, L e = if (e 6).toInt = 0 then 0 else -1 := by
  rcases h with h | h
  · exact h.2
  · exact absurd c h.1
theorem zLm_t {L : zLw} {fm : Nat → Int32} (h : zLm L fm) (c : ¬ (fm 1).toInt = -1) : ∃ tx : Nat → Int32, (∀ k : Nat, (k : Int) < (fm 2).toInt → fm (379 + k) = tx k) ∧ ∀ e : Nat → Int32, zLwV tx (fm 2).toInt e (L e) := by
  rcases h with h | h
  · exact absurd h.1 c
  · exact h.2
theorem zff {ff f1 f2 f3 f4 f5 f6 e : Nat → Int32} {v0 v1 v2 v3 v4 v5 : Int32} (e1 : f1 = upd ff 0 v0) (e2 : f2 = upd f1 1 v1) (e3 : f3 = upd f2 2 v2) (e4 : f4 = upd f3 3 v3) (e5 : f5 = upd f4 4 v4) (e6 : f6 = upd f5 5 v5) (h0 : v0 = e 0) (h1 : v1 = e 1) (h2 : v2 = e 2) (h3 : v3 = e 3) (h4 : v4 = e 4) (h5 : v5 = e 5) : ∀ k, k < 6 → f6 k = e k := by
  intro k hk
  subst e1; subst e2; subst e3; subst e4; subst e5; subst e6
  rcases (show k = 0 ∨ k = 1 ∨ k = 2 ∨ k = 3 ∨ k = 4 ∨ k = 5 by omega) with q | q | q | q | q | q <;> subst q
  · rw [pk_un (by decide), pk_un (by decide), pk_un (by decide), pk_un (by decide), pk_un (by decide), pk_us]; exact h0
  · rw [pk_un (by decide), pk_un (by decide), pk_un (by decide), pk_un (by decide), pk_us]; exact h1
  · rw [pk_un (by decide), pk_un (by decide), pk_un (by decide), pk_us]; exact h2
  · rw [pk_un (by decide), pk_un (by decide), pk_us]; exact h3
  · rw [pk_un (by decide), pk_us]; exact h4
  · rw [pk_us]; exact h5
theorem zhd1 {f : zRw} {pe x : Nat} {lm lg ld : Int32} (h : (f 4 x).toInt = 1) : 1 = zBi (zNz (zEnvC f pe x lm lg ld 6)) := by rw [zEnvC_6, if_pos h]; rfl
theorem zhd0 {f : zRw} {pe x : Nat} {lm lg ld : Int32} (h : ¬ (f 4 x).toInt = 1) : 0 = zBi (zNz (zEnvC f pe x lm lg ld 6)) := by rw [zEnvC_6, if_neg h]; rfl
theorem zho1 {f : zRw} {pe x : Nat} {lm lg ld : Int32} (h : 0 < (f 2 x).toInt) : 1 = zBi (zNz (zEnvC f pe x lm lg ld 7)) := by rw [zEnvC_7, if_pos h]; rfl
theorem zho0 {f : zRw} {pe x : Nat} {lm lg ld : Int32} (h : ¬ 0 < (f 2 x).toInt) : 0 = zBi (zNz (zEnvC f pe x lm lg ld 7)) := by rw [zEnvC_7, if_neg h]; rfl
theorem zdr1 {L : zLw} {fm : Nat → Int32} {f : zRw} {pe x : Nat} {lm lg ld : Int32} (hL : zLm L fm) (c : (fm 1).toInt = -1) (h : (f 4 x).toInt = 1) : -1 = L (zEnvC f pe x lm lg ld) := by
  rw [zLm_n hL c, zEnvC_6, if_pos h, if_neg (by decide)]
theorem zdr0 {L : zLw} {fm : Nat → Int32} {f : zRw} {pe x : Nat} {lm lg ld : Int32} (hL : zLm L fm) (c : (fm 1).toInt = -1) (h : ¬ (f 4 x).toInt = 1) : 0 = L (zEnvC f pe x lm lg ld) := by
  rw [zLm_n hL c, zEnvC_6, if_neg h, if_pos (by decide)]
theorem zE_0 (f : zRw) (pe x : Nat) (lm lg ld : Int32) : zEnvC f pe x lm lg ld 0 = nI x := if_pos rfl
theorem zE_1 (f : zRw) (pe x : Nat) (lm lg ld : Int32) : zEnvC f pe x lm lg ld 1 = f 0 x := (if_neg (by decide)).trans (if_pos rfl)
theorem zE_2 (f : zRw) (pe x : Nat) (lm lg ld : Int32) : zEnvC f pe x lm lg ld 2 = lm := (if_neg (by decide)).trans ((if_neg (by decide)).trans (if_pos rfl))
theorem zE_3 (f : zRw) (pe x : Nat) (lm lg ld : Int32) : zEnvC f pe x lm lg ld 3 = lg := (if_neg (by decide)).trans ((if_neg (by decide)).trans ((if_neg (by decide)).trans (if_pos rfl)))
theorem zE_4 (f : zRw) (pe x : Nat) (lm lg ld : Int32) : zEnvC f pe x lm lg ld 4 = zTie f pe x := (if_neg (by decide)).trans ((if_neg (by decide)).trans ((if_neg (by decide)).trans ((if_neg (by decide)).trans (if_pos rfl))))
theorem zE_5 (f : zRw) (pe x : Nat) (lm lg ld : Int32) : zEnvC f pe x lm lg ld 5 = ld := (if_neg (by decide)).trans ((if_neg (by decide)).trans ((if_neg (by decide)).trans ((if_neg (by decide)).trans ((if_neg (by decide)).trans (if_pos rfl)))))
theorem zLw0 {f : Nat → Int32} {n : Int} {e : Nat → Int32} {v : Int32} (h : zLwV f n e v) : (n ≤ zbg f n (0 : Int32).toInt ∧ v = 0) ∨ (¬ n ≤ zbg f n (0 : Int32).toInt ∧ zLsN f n e 12 (zbg f n (0 : Int32).toInt) 0 v) := by
  rw [zi0]; exact h
/-- what one is moved by -/
def zBvg (L : zLw) (f : zRw) (pe wo : Nat) (dy : Int32) (x : Nat) : Int32 := if (f 3 x).toInt = -1 then zPull f pe x + L (zEnv f pe wo dy x) else 0
theorem zBv_t {L : zLw} {f : zRw} {pe wo x : Nat} {dy : Int32} (h : (f 3 x).toInt = -1) : zPull f pe x + L (zEnv f pe wo dy x) = zBvg L f pe wo dy x := (if_pos h).symm
theorem zBv_f {L : zLw} {f : zRw} {pe wo x : Nat} {dy : Int32} (h : ¬ (f 3 x).toInt = -1) : 0 = zBvg L f pe wo dy x := (if_neg h).symm
def zByg (T b : Nat → Int32) (k : Int) : Prop := ∀ j : Nat, (j : Int) < k → b j = T j
theorem zBy_0 {T b : Nat → Int32} {k : Int} (h : k = 0) : zByg T b k := fun j hj => absurd hj (by omega)
theorem zBy_s {T b b1 : Nat → Int32} {k k' v : Int32} (h : zByg T b k.toInt) (e : b1 = upd b k.toInt.toNat v) (hk : k'.toInt = k.toInt + 1) (h0 : 0 ≤ k.toInt) (hv : v = T k.toInt.toNat) : zByg T b1 k'.toInt := fun j hj => by
  rw [e]
  by_cases q : j = k.toInt.toNat
  · rw [q, pk_us]; exact hv
  · rw [pk_un q]; exact h j (by omega)
/-- beliefs of the first k told anew -/
def zBl (m m2 : Nat → Int32) (T : Nat → Int32) (k : Int) : Prop := (∀ i : Nat, (i < 11 ∨ 51 ≤ i ∨ ¬ (i - 11) % 5 = 0) → m2 i = m i) ∧ ∀ j : Nat, j < 8 → m2 (11 + 5 * j) = if (j : Int) < k then T j else m (11 + 5 * j)
theorem zBl_0 {m : Nat → Int32} {T : Nat → Int32} {k : Int} (h : k = 0) : zBl m m T k := ⟨fun _ _ => rfl, fun j _ => by rw [if_neg (by omega)]⟩
theorem zBl_h {L : zLw} {m m2 m3 b : Nat → Int32} {pe wo : Nat} {dy k k' : Int32} (h : zBl m m2 (zTbR L (zV m) pe wo dy) k.toInt) (hk : k'.toInt = k.toInt + 1) (h0 : 0 ≤ k.toInt) (h8 : k.toInt < 8) (c : (zV m2 3 k.toInt.toNat).toInt = -1) (hb : b k.toInt.toNat = zBvg L (zV m) pe wo dy k.toInt.toNat) (e : m3 = upd m2 (11 + 5 * k.toInt.toNat) (zCl (zV m2 0 k.toInt.toNat + b k.toInt.toNat))) : zBl m m3 (zTbR L (zV m) pe wo dy) k'.toInt := by
  have e3 : zV m2 3 k.toInt.toNat = zV m 3 k.toInt.toNat := h.1 (15 + 5 * k.toInt.toNat) (by omega)
  have e0 : zV m2 0 k.toInt.toNat = zV m 0 k.toInt.toNat := (h.2 k.toInt.toNat (by omega)).trans (if_neg (by omega))
  rw [e3] at c
  refine ⟨fun i hi => ?_, fun j hj => ?_⟩
  · rw [e, pk_un (by omega)]; exact h.1 i hi
  · rw [e]
    by_cases q : j = k.toInt.toNat
    · rw [q, pk_us, if_pos (by omega), hb, e0]
      unfold zBvg zTbR
      rw [if_pos c, if_pos c, Int32.add_assoc]
    · rw [pk_un (by omega), h.2 j hj]
      by_cases p : (j : Int) < k.toInt
      · rw [if_pos p, if_pos (by omega)]
      · rw [if_neg p, if_neg (by omega)]
theorem zBl_a {L : zLw} {m m2 : Nat → Int32} {pe wo : Nat} {dy k k' : Int32} (h : zBl m m2 (zTbR L (zV m) pe wo dy) k.toInt) (hk : k'.toInt = k.toInt + 1) (h0 : 0 ≤ k.toInt) (h8 : k.toInt < 8) (c : ¬ (zV m2 3 k.toInt.toNat).toInt = -1) : zBl m m2 (zTbR L (zV m) pe wo dy) k'.toInt := by
  have e3 : zV m2 3 k.toInt.toNat = zV m 3 k.toInt.toNat := h.1 (15 + 5 * k.toInt.toNat) (by omega)
  rw [e3] at c
  refine ⟨h.1, fun j hj => ?_⟩
  rw [h.2 j hj]
  by_cases q : j = k.toInt.toNat
  · rw [q, if_neg (by omega), if_pos (by omega)]
    unfold zTbR
    rw [if_neg c]; rfl
  · by_cases p : (j : Int) < k.toInt
    · rw [if_pos p, if_pos (by omega)]
    · rw [if_neg p, if_neg (by omega)]
theorem zBl_V {L : zLw} {m m2 : Nat → Int32} {wo : Nat} {dy k n : Int32} (h : zBl m m2 (zTbR L (zV m) n.toInt.toNat wo dy) k.toInt) (hk : k.toInt = n.toInt) : zEq (zV m2) (zTB L (zV m) n.toInt.toNat wo dy) := by
  refine ⟨fun q y h1 h2 => ?_, fun y o h1 h2 h3 => ?_, fun q y h1 h2 h3 => ?_⟩
  · rcases (show q = 0 ∨ q = 1 ∨ q = 2 ∨ q = 3 ∨ q = 4 by omega) with e | e | e | e | e <;> subst e
    · rw [zTB_0]
      refine (h.2 y h2).trans ?_
      by_cases p : y < n.toInt.toNat
      · rw [if_pos (by omega), if_pos p]
      · rw [if_neg (by omega), if_neg p]; rfl
    · exact h.1 (12 + 5 * y) (by omega)
    · exact h.1 (13 + 5 * y) (by omega)
    · exact h.1 (15 + 5 * y) (by omega)
    · exact h.1 (14 + 5 * y) (by omega)
  · exact h.1 (51 + (8 * y + o)) (by omega)
  · rcases (show q = 6 ∨ q = 7 ∨ q = 8 ∨ q = 9 by omega) with e | e | e | e <;> subst e
    · exact h.1 (115 + 4 * y) (by omega)
    · exact h.1 (116 + 4 * y) (by omega)
    · exact h.1 (117 + 4 * y) (by omega)
    · exact h.1 (118 + 4 * y) (by omega)
/-- what days leave as it was -/
def zGk (m m2 : Nat → Int32) : Prop := ∀ i : Nat, (i < 5 ∨ i = 6 ∨ i = 7 ∨ 379 ≤ i) → m2 i = m i
theorem zGk_r (m : Nat → Int32) : zGk m m := fun _ _ => rfl
theorem zGk_t {a b c : Nat → Int32} (h : zGk a b) (k : zGk b c) : zGk a c := fun i hi => (k i hi).trans (h i hi)
theorem zGk_l {T : Nat → Int32} {m m2 : Nat → Int32} {k : Int} (h : zBl m m2 T k) : zGk m m2 := fun i hi => h.1 i (by omega)
theorem zGk_b {m m2 : Nat → Int32} (h : zBk m m2) : zGk m m2 := fun i hi => h i (by omega) (by omega) (by omega)
theorem zGk_q {m m2 : Nat → Int32} (h : zQk m m2) : zGk m m2 := fun i hi => h i (by omega)
theorem zGk_u {m m2 : Nat → Int32} {v : Int32} (h : m2 = upd m 8 v) : zGk m m2 := fun i hi => by rw [h, pk_un (by omega)]
theorem zLm_k {L : zLw} {m m2 : Nat → Int32} (h : zLm L m) (k : zGk m m2) : zLm L m2 := by
  have e1 := k 1 (by omega)
  have e2 := k 2 (by omega)
  rcases h with ⟨a, b⟩ | ⟨a, tx, b, c⟩
  · exact Or.inl ⟨by rw [e1]; exact a, b⟩
  · refine Or.inr ⟨by rw [e1]; exact a, tx, fun j hj => ?_, fun e => by rw [e2]; exact c e⟩
    rw [k (379 + j) (by omega)]
    exact b j (by rw [← e2]; exact hj)
/-! bounds are kept -/
theorem zRg_v {f f' : zRw} (h : zRg f) (h5 : f' 5 = f 5) (h0 : ∀ x, x < 8 → f' 0 x = f 0 x ∨ (0 ≤ (f' 0 x).toInt ∧ (f' 0 x).toInt ≤ 99)) : zRg f' := by
  refine ⟨fun x hx => ?_, fun x o hx ho hn => by rw [h5]; exact h.2 x o hx ho hn⟩
  rcases h0 x hx with e | e
  · rw [e]; exact h.1 x hx
  · exact e
theorem zRg_S {f : zRw} {x : Nat} {v : Int32} (h : zRg f) (hv : 0 ≤ v.toInt ∧ v.toInt ≤ 99) : zRg (zSet f 0 x v) := zRg_v h (zSet_r f 0 x v (by decide)) (fun y _ => by
  by_cases q : y = x
  · rw [q, zSet_i]; exact Or.inr hv
  · rw [zSet_x f 0 x v q]; exact Or.inl rfl)
theorem zRg_3 {f : zRw} {x : Nat} {v : Int32} (h : zRg f) : zRg (zSet f 3 x v) := zRg_v h (zSet_r f 3 x v (by decide)) (fun y _ => Or.inl (congrFun (zSet_r f 3 x v (by decide)) y))
theorem zRg_TB {L : zLw} {f : zRw} {pe wo : Nat} {dy : Int32} (h : zRg f) : zRg (zTB L f pe wo dy) := zRg_v h (zTB_r L f pe wo dy (by decide)) (fun y _ => by
  rw [zTB_0]
  by_cases q : y < pe
  · rw [if_pos q]
    unfold zTbR
    by_cases p : (f 3 y).toInt = -1
    · rw [if_pos p]; exact Or.inr (zCl_b _)
    · rw [if_neg p]; exact Or.inl rfl
  · rw [if_neg q]; exact Or.inl rfl)
theorem zRg_It {F : Nat → zRw → zRw} {f : zRw} (h : zRg f) (H : ∀ k g, zRg g → zRg (F k g)) : ∀ n : Nat, zRg (zIt F f n)
  | 0 => h
  | n + 1 => H n _ (zRg_It h H n)
theorem zRg_Sp {x : Nat} {w : Bool} {o : Nat} {f : zRw} (h : zRg f) : zRg (zSp1 x w o f) := by
  unfold zSp1
  by_cases q : o = x
  · rw [if_pos q]; exact h
  · rw [if_neg q]
    by_cases p : (f 3 o).toInt = -1
    · rw [if_pos p]; exact zRg_S h (zCl_b _)
    · rw [if_neg p]; exact h
theorem zRg_Spr {pe x : Nat} {w : Bool} {f : zRw} (h : zRg f) : zRg (zSpr pe x w f) := zRg_S (zRg_It h (fun _ _ g => zRg_Sp g) pe) (by cases w <;> decide)
theorem zRg_CB {pe x : Nat} {dy tr tl : Int32} {s : zCs} (h : zRg s.1) : zRg (zCB1 pe dy tr tl x s).1 := by
  unfold zCB1
  by_cases p : (s.1 3 x).toInt = -1
  · rw [if_pos p]; exact h
  · rw [if_neg p]
    by_cases q : (s.1 3 x).toInt ≤ dy.toInt
    · rw [if_pos q]
      by_cases t : tl.toInt = 0
      · rw [if_pos t]; exact zRg_3 h
      · rw [if_neg t]; exact zRg_Spr (zRg_3 h)
    · rw [if_neg q]; exact h
theorem zRg_CBs {pe : Nat} {dy tr tl : Int32} {s : zCs} (h : zRg s.1) : ∀ n : Nat, zRg (zIt (zCB1 pe dy tr tl) s n).1
  | 0 => h
  | n + 1 => zRg_CB (x := n) (zRg_CBs h n)
theorem zRg_day {L : zLw} {pe wo : Nat} {tr tl : Int32} {s : zDs} (h : zRg s.2.2.2) : zRg (zDay L pe wo tr tl s).2.2.2 := by
  show zRg (zIt (zCB1 pe s.2.1 tr tl) ((zDk L pe wo s).2.1, s.2.2.1) pe).1
  refine zRg_CBs (s := ((zDk L pe wo s).2.1, s.2.2.1)) ?_ pe
  have t := zRg_TB (L := L) (pe := pe) (wo := wo) (dy := s.2.1) h
  refine zRg_v t (zKW_k wo 5 (by decide)) (fun x _ => Or.inl ?_)
  exact congrFun (zKW_k (bl := zBel (zTB L s.2.2.2 pe wo s.2.1) pe) (s := (s.1, zTB L s.2.2.2 pe wo s.2.1, 0)) wo 0 (by decide)) x
/-! a day of the model -/
theorem zGd {L : zLw} {m m1 m2 m3 m4 : Nat → Int32} {q tl n k : Int32} (hp : n.toInt.toNat ≤ 8) (hw : (m 4).toInt.toNat ≤ 6) (hn : n = m 3) (l : zBl m m1 (zTbR L (zV m) n.toInt.toNat (m 4).toInt.toNat (m 8)) k.toInt) (hk : k.toInt = n.toInt) (b : zKR (m2 5, zV m2, q) (zIt (zKW1 (zBel (zV m1) (m1 3).toInt.toNat)) (m1 5, zV m1, 0) (m1 4).toInt.toNat)) (kb : zBk m1 m2) (c : zCR (zV m3, m3 10) (zIt (zCB1 (m2 3).toInt.toNat (m2 8) (m2 7) tl) (zV m2, m2 10) (m2 3).toInt.toNat)) (kq : zQk m2 m3) (e : m4 = upd m3 8 (zCap (m3 8 + 1))) :
    zDR (m4 5, m4 8, m4 10, zV m4) (zDay L n.toInt.toNat (m 4).toInt.toNat (m 7) tl (m 5, m 8, m 10, zV m)) ∧ q = (zDk L n.toInt.toNat (m 4).toInt.toNat (m 5, m 8, m 10, zV m)).2.2 ∧ zGk m m4 := by
  subst hn
  have E := zBl_V l hk
  have g1 := zGk_l l
  have g2 := zGk_t g1 (zGk_b kb)
  have g3 := zGk_t g2 (zGk_q kq)
  have m13 : m1 3 = m 3 := g1 3 (by omega)
  have m14 : m1 4 = m 4 := g1 4 (by omega)
  have m23 : m2 3 = m 3 := g2 3 (by omega)
  have m27 : m2 7 = m 7 := g2 7 (by omega)
  have m15 : m1 5 = m 5 := l.1 5 (by omega)
  have m28 : m2 8 = m 8 := (kb 8 (by omega) (by omega) (by omega)).trans (l.1 8 (by omega))
  have m210 : m2 10 = m 10 := (kb 10 (by omega) (by omega) (by omega)).trans (l.1 10 (by omega))
  have m35 : m3 5 = m2 5 := kq 5 (by omega)
  have m38 : m3 8 = m 8 := (kq 8 (by omega)).trans m28
  rw [m13, m14, m15, zBel_c E hp] at b
  have K : zKR (m2 5, zV m2, q) (zDk L (m 3).toInt.toNat (m 4).toInt.toNat (m 5, m 8, m 10, zV m)) := zKR_t b (zKW_c (b := (m 5, zTB L (zV m) (m 3).toInt.toNat (m 4).toInt.toNat (m 8), 0)) hw ⟨rfl, E, rfl⟩)
  rw [m23, m27, m28, m210] at c
  have C : zCR (zV m3, m3 10) (zIt (zCB1 (m 3).toInt.toNat (m 8) (m 7) tl) ((zDk L (m 3).toInt.toNat (m 4).toInt.toNat (m 5, m 8, m 10, zV m)).2.1, m 10) (m 3).toInt.toNat) :=
    zCR_t c (zIt_c (R := zCR) (F := zCB1 (m 3).toInt.toNat (m 8) (m 7) tl) (F' := zCB1 (m 3).toInt.toNat (m 8) (m 7) tl) (s := (zV m2, m 10)) (s' := ((zDk L (m 3).toInt.toNat (m 4).toInt.toNat (m 5, m 8, m 10, zV m)).2.1, m 10)) ⟨K.2.1, rfl⟩ _ (fun x a a' hx h => zCB1_c hp (by omega) h))
  refine ⟨⟨?_, ?_, ?_, ?_⟩, K.2.2, zGk_t g3 (zGk_u e)⟩
  · show m4 5 = _
    rw [e, pk_un (by decide), m35]; exact K.1
  · show m4 8 = zCap (m 8 + 1)
    rw [e, pk_us, m38]
  · show m4 10 = _
    rw [e, pk_un (by decide)]; exact C.2
  · refine zEq_t ?_ C.1
    show zEq (zV m4) (zV m3)
    rw [e]; exact zVo (by omega)
theorem zDR_t {a b c : zDs} (h : zDR a b) (k : zDR b c) : zDR a c := ⟨h.1.trans k.1, h.2.1.trans k.2.1, h.2.2.1.trans k.2.2.1, zEq_t h.2.2.2 k.2.2.2⟩
/-- day after day -/
theorem zNds_0 {L : zLw} {pe wo : Nat} {tr tl : Int32} {s : zDs} {k : Int32} (h : k.toInt = 0) : zNR (s, 0) (zNds L pe wo tr tl k.toInt.toNat s) := by
  rw [h]; exact ⟨⟨rfl, rfl, rfl, zEq_r _⟩, rfl⟩
theorem zNds_s {L : zLw} {pe wo : Nat} {tr tl : Int32} {s a a1 : zDs} {x q k k' : Int32} (hp : pe ≤ 8) (hw : wo ≤ 6) (h : zNR (a, x) (zNds L pe wo tr tl k.toInt.toNat s)) (hk : k'.toInt = k.toInt + 1) (h0 : 0 ≤ k.toInt) (d : zDR a1 (zDay L pe wo tr tl a)) (e : q = (zDk L pe wo a).2.2) : zNR (a1, x + q) (zNds L pe wo tr tl k'.toInt.toNat s) := by
  unfold zNds at h ⊢
  rw [show k'.toInt.toNat = k.toInt.toNat + 1 by omega]
  have r := zNd_c (L := L) (k := k.toInt.toNat) (tr := tr) (tl := tl) hp hw h
  show zNR (a1, x + q) (zNd L pe wo tr tl k.toInt.toNat (zIt (zNd L pe wo tr tl) (s, 0) k.toInt.toNat))
  refine ⟨zDR_t d r.1, ?_⟩
  rw [← r.2, e]; rfl
theorem zNds_x {L : zLw} {pe wo : Nat} {tr tl : Int32} {s : zDs} {a : zNs} {k n : Int32} (h : zNR a (zNds L pe wo tr tl k.toInt.toNat s)) (e : k.toInt = n.toInt) : zNR a (zNds L pe wo tr tl n.toInt.toNat s) := by rw [← e]; exact h
theorem zNds_h {L : zLw} {pe wo pe' wo' : Nat} {tr tl tr' : Int32} {s : zDs} {a : zNs} {k : Nat} (h : zNR a (zNds L pe wo tr tl k s)) (e1 : pe' = pe) (e2 : wo' = wo) (e3 : tr' = tr) : zNR a (zNds L pe' wo' tr' tl k s) := by subst e1; subst e2; subst e3; exact h
theorem zCR_s {pe : Nat} {dy tr tl : Int32} {s a a' : zCs} {k k' : Int32} (hp : pe ≤ 8) (h : zCR a (zIt (zCB1 pe dy tr tl) s k.toInt.toNat)) (hk : k'.toInt = k.toInt + 1) (h0 : 0 ≤ k.toInt) (h8 : k.toInt < 8) (e : zCR a' (zCB1 pe dy tr tl k.toInt.toNat a)) : zCR a' (zIt (zCB1 pe dy tr tl) s k'.toInt.toNat) := by
  rw [show k'.toInt.toNat = k.toInt.toNat + 1 by omega]
  exact zCR_t e (zCB1_c hp (by omega) h)
theorem zCR_r (a : zCs) : zCR a a := ⟨zEq_r _, rfl⟩
theorem zCR_q {pe x : Nat} {tl d8 d7 : Int32} {m m2 : Nat → Int32} {n : Int32} (h : zCR (zV m2, m2 10) (zCB1 n.toInt.toNat (m 8) (m 7) tl x (zV m, m 10))) (e3 : n.toInt.toNat = pe) (e8 : m 8 = d8) (e7 : m 7 = d7) : zCR (zV m2, m2 10) (zCB1 pe d8 d7 tl x (zV m, m 10)) := by subst e3; subst e8; subst e7; exact h
set_option maxRecDepth 100000 in
set_option maxHeartbeats 4000000 in
theorem m_turnsByG (l : Launch) (g : zG) (o : Nat) (a : Nat → Nat) (th : Int32) (hi : Int32) (ac : Int32) (tp : Int32) (ba : Int32) (en : Int32) (tA : Int32) (fl : Int32) (de : Int32) (iD : Int32) (iO : Int32) (tU : Int32) (fm : Nat → Int32) (fk : Nat → Int32) (fa : Nat → Int32) (fc : Nat → Int32) (ft : Nat → Int32) (ff : Nat → Int32) (fb : Nat → Int32) (fi : Nat → Int32) (x : Int32) (L : zLw) (rfm : rM fm) (hiD : 0 ≤ iD.toInt ∧ iD.toInt ≤ 1) (hiO : 0 ≤ iO.toInt ∧ iO.toInt ≤ 1) (b_x : 0 ≤ x.toInt ∧ x.toInt ≤ 7) (hL : zLm L fm) : zM' g l yX12_turnsBy (Cond.code yX12_turnsBy cX12_turnsBy 4 (some .int) :: zB) ({ frames := 31, cells := 0, slots := 0, locals := 688 } : Room) [.ref o, .int x] [bMo g o a th hi ac tp ba en tA fl de iD iO tU fm fk fa fc ft ff fb fi] (fun u : Int32 × Int32 × Int32 × Int32 × Int32 × Int32 × Int32 × (Nat → Int32) => (fun (ba2 : Int32) (en2 : Int32) (at2 : Int32) (de2 : Int32) (iD2 : Int32) (iO2 : Int32) (tU2 : Int32) (ff2 : Nat → Int32) => some (.int (L (zEnv (zV fm) (fm 3).toInt.toNat (fm 4).toInt.toNat (fm 8) x.toInt.toNat)))) (u.1) (u.2.1) (u.2.2.1) (u.2.2.2.1) (u.2.2.2.2.1) (u.2.2.2.2.2.1) (u.2.2.2.2.2.2.1) (u.2.2.2.2.2.2.2)) (fun u : Int32 × Int32 × Int32 × Int32 × Int32 × Int32 × Int32 × (Nat → Int32) => (fun (ba2 : Int32) (en2 : Int32) (at2 : Int32) (de2 : Int32) (iD2 : Int32) (iO2 : Int32) (tU2 : Int32) (ff2 : Nat → Int32) => (0 ≤ iO2.toInt ∧ iO2.toInt ≤ 1) ∧ (0 ≤ iD2.toInt ∧ iD2.toInt ≤ 1)) (u.1) (u.2.1) (u.2.2.1) (u.2.2.2.1) (u.2.2.2.2.1) (u.2.2.2.2.2.1) (u.2.2.2.2.2.2.1) (u.2.2.2.2.2.2.2)) (fun u : Int32 × Int32 × Int32 × Int32 × Int32 × Int32 × Int32 × (Nat → Int32) => (fun (ba2 : Int32) (en2 : Int32) (at2 : Int32) (de2 : Int32) (iD2 : Int32) (iO2 : Int32) (tU2 : Int32) (ff2 : Nat → Int32) => [bMo g o a th hi ac tp ba2 en2 at2 fl de2 iD2 iO2 tU2 fm fk fa fc ft ff2 fb fi]) (u.1) (u.2.1) (u.2.2.1) (u.2.2.2.1) (u.2.2.2.2.1) (u.2.2.2.2.2.1) (u.2.2.2.2.2.2.1) (u.2.2.2.2.2.2.2)) := by
  refine zM'.of (cc := cX12_turnsBy) (maxL := 4) (rt := (some .int)) (by decide) rfl (Nat.le_of_ble_eq_true rfl) ?_
  intro p e s m args below meth c A ls St hr hlocks hin hK hT hA hP hD hS hl
  obtain ⟨hx, hb, hml, hown, hts⟩ := id St
  have hl : lv_has ls 4 [(0, .ref o), (1, .int x)] := hl
  have hrm3 := rM3 rfm
  have hrm4 := rM4 rfm
  refine lv_aload_n hx hb dX12_turnsBy_0 rfl (lv_at hl 0 rfl) ?_
  refine va_get (D := g.1) (ci := 10) (v := .ref (a 0)) (C := RX12) (T := TX12) (N := 20) hx hb hts izRX12 hown hK hP 0 rfl rfl 1 (by decide) (hts _ k815) (fun _ h9 => h9) rfl dX12_turnsBy_1 ?_
  refine lv_iconst (v := 1) hx hb dX12_turnsBy_4 (by decide) ?_
  refine va_iald hx hb hK hP 1 0 rfl rfl (zin rfl) dX12_turnsBy_5 ?_
  refine ztop (r := (fm 1)) rfl ?_
  refine lv_iconst (v := (-1)) hx hb dX12_turnsBy_6 (by decide) ?_
  refine lv_icmp_ne (tgt := 26) hx hb dX12_turnsBy_7 (by decide) (fun cb9 => ?_) (fun cb9 => ?_)
  · skip
    have c1 : ¬ (fm 1).toInt = (-1) := zne cb9 rfl (by decide)
    refine lv_aload_n hx hb dX12_turnsBy_26 rfl (lv_at hl 0 rfl) ?_
    refine va_get (D := g.1) (ci := 10) (v := .ref (a 5)) (C := RX12) (T := TX12) (N := 20) hx hb hts izRX12 hown hK hP 0 rfl rfl 14 (by decide) (hts _ k821) (fun _ h9 => h9) rfl dX12_turnsBy_27 ?_
    refine lv_iconst (v := 0) hx hb dX12_turnsBy_30 (by decide) ?_
    refine lv_iload_n hx hb dX12_turnsBy_31 rfl (lv_at hl 1 rfl) ?_
    refine va_iast hx hb hK hP hD hS 6 0 rfl rfl (zin rfl) dX12_turnsBy_32 (fun H locs hP hD hS => ?_)
    obtain ⟨ff_2, eff_2, hP, hD⟩ : ∃ ff_2 : Nat → Int32, ff_2 = upd ff 0 x ∧ va_P g.1 vwCl (List.flatten [bMo g o a th hi ac tp ba en tA fl de iD iO tU fm fk fa fc ft ff_2 fb fi]) H ∧ va_D A (List.flatten [bMo g o a th hi ac tp ba en tA fl de iD iO tU fm fk fa fc ft ff_2 fb fi]) := ⟨upd ff 0 x, rfl, hP, hD⟩
    refine lv_aload_n hx hb dX12_turnsBy_33 rfl (lv_at hl 0 rfl) ?_
    refine va_get (D := g.1) (ci := 10) (v := .ref (a 5)) (C := RX12) (T := TX12) (N := 20) hx hb hts izRX12 hown hK hP 0 rfl rfl 14 (by decide) (hts _ k821) (fun _ h9 => h9) rfl dX12_turnsBy_34 ?_
    refine lv_iconst (v := 1) hx hb dX12_turnsBy_37 (by decide) ?_
    refine lv_aload_n hx hb dX12_turnsBy_38 rfl (lv_at hl 0 rfl) ?_
    refine lv_iload_n hx hb dX12_turnsBy_39 rfl (lv_at hl 1 rfl) ?_
    refine lv_iconst (v := 0) hx hb dX12_turnsBy_40 (by decide) ?_
    refine mcallV' (g := g) (q0 := 0) (ci := 10) (As := [.int x, .int 0]) (rest := [.int 1, .ref (a 5)]) St hK hT hA hP hD hS hl.1 [0] [] rfl rfl rfl (m_of0F l g o a th hi ac tp ba en tA fl de iD iO tU fm fk fa fc ft ff_2 fb fi x b_x) (cwV 2 hts (zgL (zl4 k842 k843 k844 k839) k831) rfl rfl rfl (by decide +kernel) ⟨Nat.le_of_ble_eq_true rfl, Nat.le_of_ble_eq_true rfl⟩) rfl rfl rfl rfl (Nat.le_of_ble_eq_true rfl) dX12_turnsBy_41 ⟨(Nat.le_of_ble_eq_true rfl), (Nat.le_of_ble_eq_true rfl)⟩ (fun _u H locs hq3 hP hD hS => ?_)
    have hP : va_P g.1 vwCl (List.flatten [bMo g o a th hi ac tp ba en tA fl de iD iO tU fm fk fa fc ft ff_2 fb fi]) H := hP
    have hD : va_D A (List.flatten [bMo g o a th hi ac tp ba en tA fl de iD iO tU fm fk fa fc ft ff_2 fb fi]) := hD
    refine W.widen (k := 0) (n := 0) (Nat.le_of_ble_eq_true rfl) (Nat.le_of_ble_eq_true rfl) ?_
    refine W.eq (g2 := F0 m 44 ls [.int (zV fm 0 x.toInt.toNat), .int 1, .ref (a 5)]) rfl ?_
    refine va_iast hx hb hK hP hD hS 6 0 rfl rfl (zin rfl) dX12_turnsBy_44 (fun H locs hP hD hS => ?_)
    obtain ⟨ff_4, eff_4, hP, hD⟩ : ∃ ff_4 : Nat → Int32, ff_4 = upd ff_2 1 (zV fm 0 x.toInt.toNat) ∧ va_P g.1 vwCl (List.flatten [bMo g o a th hi ac tp ba en tA fl de iD iO tU fm fk fa fc ft ff_4 fb fi]) H ∧ va_D A (List.flatten [bMo g o a th hi ac tp ba en tA fl de iD iO tU fm fk fa fc ft ff_4 fb fi]) := ⟨upd ff_2 1 (zV fm 0 x.toInt.toNat), rfl, hP, hD⟩
    refine lv_aload_n hx hb dX12_turnsBy_45 rfl (lv_at hl 0 rfl) ?_
    refine va_get (D := g.1) (ci := 10) (v := .ref (a 5)) (C := RX12) (T := TX12) (N := 20) hx hb hts izRX12 hown hK hP 0 rfl rfl 14 (by decide) (hts _ k821) (fun _ h9 => h9) rfl dX12_turnsBy_46 ?_
    refine lv_iconst (v := 2) hx hb dX12_turnsBy_49 (by decide) ?_
    refine lv_aload_n hx hb dX12_turnsBy_50 rfl (lv_at hl 0 rfl) ?_
    refine mcallV' (g := g) (q0 := 0) (ci := 10) (As := []) (rest := [.int 2, .ref (a 5)]) St hK hT hA hP hD hS hl.1 [0] [] rfl rfl rfl (m_meanG l g o a th hi ac tp ba en tA fl de iD iO tU fm fk fa fc ft ff_4 fb fi rfm) (cwV 0 hts (zgL (zl4 k859 k860 k861 k839) k850) rfl rfl rfl (by decide +kernel) ⟨Nat.le_of_ble_eq_true rfl, Nat.le_of_ble_eq_true rfl⟩) rfl rfl rfl rfl (Nat.le_of_ble_eq_true rfl) dX12_turnsBy_51 ⟨(Nat.le_of_ble_eq_true rfl), (Nat.le_of_ble_eq_true rfl)⟩ (fun _u H locs hq5 hP hD hS => ?_)
    have hP : va_P g.1 vwCl (List.flatten [bMo g o a th hi ac tp ba en tA fl de iD iO tU fm fk fa fc ft ff_4 fb fi]) H := hP
    have hD : va_D A (List.flatten [bMo g o a th hi ac tp ba en tA fl de iD iO tU fm fk fa fc ft ff_4 fb fi]) := hD
    refine W.widen (k := 0) (n := 0) (Nat.le_of_ble_eq_true rfl) (Nat.le_of_ble_eq_true rfl) ?_
    refine W.eq (g2 := F0 m 54 ls [.int (zMean (zV fm) (fm 3).toInt.toNat), .int 2, .ref (a 5)]) rfl ?_
    refine va_iast hx hb hK hP hD hS 6 0 rfl rfl (zin rfl) dX12_turnsBy_54 (fun H locs hP hD hS => ?_)
    obtain ⟨ff_6, eff_6, hP, hD⟩ : ∃ ff_6 : Nat → Int32, ff_6 = upd ff_4 2 (zMean (zV fm) (fm 3).toInt.toNat) ∧ va_P g.1 vwCl (List.flatten [bMo g o a th hi ac tp ba en tA fl de iD iO tU fm fk fa fc ft ff_6 fb fi]) H ∧ va_D A (List.flatten [bMo g o a th hi ac tp ba en tA fl de iD iO tU fm fk fa fc ft ff_6 fb fi]) := ⟨upd ff_4 2 (zMean (zV fm) (fm 3).toInt.toNat), rfl, hP, hD⟩
    refine lv_aload_n hx hb dX12_turnsBy_55 rfl (lv_at hl 0 rfl) ?_
    refine va_get (D := g.1) (ci := 10) (v := .ref (a 5)) (C := RX12) (T := TX12) (N := 20) hx hb hts izRX12 hown hK hP 0 rfl rfl 14 (by decide) (hts _ k821) (fun _ h9 => h9) rfl dX12_turnsBy_56 ?_
    refine lv_iconst (v := 3) hx hb dX12_turnsBy_59 (by decide) ?_
    refine lv_aload_n hx hb dX12_turnsBy_60 rfl (lv_at hl 0 rfl) ?_
    refine lv_iconst (v := 1) hx hb dX12_turnsBy_61 (by decide) ?_
    refine mcallV' (g := g) (q0 := 0) (ci := 10) (As := [.int 1]) (rest := [.int 3, .ref (a 5)]) St hK hT hA hP hD hS hl.1 [0] [] rfl rfl rfl (m_worksOfG l g o a th hi ac tp ba en tA fl de iD iO tU fm fk fa fc ft ff_6 fb fi 1 rfm) (cwV 1 hts (zgL (zl4 k990 k991 k992 k839) k863) rfl rfl rfl (by decide +kernel) ⟨Nat.le_of_ble_eq_true rfl, Nat.le_of_ble_eq_true rfl⟩) rfl rfl rfl rfl (Nat.le_of_ble_eq_true rfl) dX12_turnsBy_62 ⟨(Nat.le_of_ble_eq_true rfl), (Nat.le_of_ble_eq_true rfl)⟩ (fun _u H locs hq7 hP hD hS => ?_)
    have hP : va_P g.1 vwCl (List.flatten [bMo g o a th hi ac tp ba en tA fl de iD iO tU fm fk fa fc ft ff_6 fb fi]) H := hP
    have hD : va_D A (List.flatten [bMo g o a th hi ac tp ba en tA fl de iD iO tU fm fk fa fc ft ff_6 fb fi]) := hD
    refine W.widen (k := 0) (n := 0) (Nat.le_of_ble_eq_true rfl) (Nat.le_of_ble_eq_true rfl) ?_
    refine W.eq (g2 := F0 m 65 ls [.int (zWks (zV fm) (fm 4).toInt.toNat 1), .int 3, .ref (a 5)]) rfl ?_
    refine mcallS' (g := g) (As := [.int (zWks (zV fm) (fm 4).toInt.toNat 1)]) (rest := [.int 3, .ref (a 5)]) St hK hT hA hP hD hS hl.1 [] [0] rfl rfl rfl (m_bitsF l g (zWks (zV fm) (fm 4).toInt.toNat 1) ) (va_cwS 1 hts (zgL (zl3 k854 k855 k839) k830) rfl rfl rfl (by decide +kernel) ⟨Nat.le_of_ble_eq_true rfl, Nat.le_of_ble_eq_true rfl⟩) rfl rfl (Nat.le_of_ble_eq_true rfl) dX12_turnsBy_65 ⟨(Nat.le_of_ble_eq_true rfl), (Nat.le_of_ble_eq_true rfl)⟩ (fun _u H locs hq8 hP hD hS => ?_)
    have hP : va_P g.1 vwCl (List.flatten [bMo g o a th hi ac tp ba en tA fl de iD iO tU fm fk fa fc ft ff_6 fb fi]) H := hP
    have hD : va_D A (List.flatten [bMo g o a th hi ac tp ba en tA fl de iD iO tU fm fk fa fc ft ff_6 fb fi]) := hD
    refine W.widen (k := 0) (n := 0) (Nat.le_of_ble_eq_true rfl) (Nat.le_of_ble_eq_true rfl) ?_
    refine W.eq (g2 := F0 m 68 ls [.int (zPop (zWks (zV fm) (fm 4).toInt.toNat 1)), .int 3, .ref (a 5)]) rfl ?_
    refine va_iast hx hb hK hP hD hS 6 0 rfl rfl (zin rfl) dX12_turnsBy_68 (fun H locs hP hD hS => ?_)
    obtain ⟨ff_9, eff_9, hP, hD⟩ : ∃ ff_9 : Nat → Int32, ff_9 = upd ff_6 3 (zPop (zWks (zV fm) (fm 4).toInt.toNat 1)) ∧ va_P g.1 vwCl (List.flatten [bMo g o a th hi ac tp ba en tA fl de iD iO tU fm fk fa fc ft ff_9 fb fi]) H ∧ va_D A (List.flatten [bMo g o a th hi ac tp ba en tA fl de iD iO tU fm fk fa fc ft ff_9 fb fi]) := ⟨upd ff_6 3 (zPop (zWks (zV fm) (fm 4).toInt.toNat 1)), rfl, hP, hD⟩
    refine lv_aload_n hx hb dX12_turnsBy_69 rfl (lv_at hl 0 rfl) ?_
    refine va_get (D := g.1) (ci := 10) (v := .ref (a 5)) (C := RX12) (T := TX12) (N := 20) hx hb hts izRX12 hown hK hP 0 rfl rfl 14 (by decide) (hts _ k821) (fun _ h9 => h9) rfl dX12_turnsBy_70 ?_
    refine lv_iconst (v := 4) hx hb dX12_turnsBy_73 (by decide) ?_
    refine lv_aload_n hx hb dX12_turnsBy_74 rfl (lv_at hl 0 rfl) ?_
    refine lv_iload_n hx hb dX12_turnsBy_75 rfl (lv_at hl 1 rfl) ?_
    refine mcallV' (g := g) (q0 := 0) (ci := 10) (As := [.int x]) (rest := [.int 4, .ref (a 5)]) St hK hT hA hP hD hS hl.1 [0] [] rfl rfl rfl (m_tiesG l g o a th hi ac tp ba en tA fl de iD iO tU fm fk fa fc ft ff_9 fb fi x rfm b_x) (cwV 1 hts (zgL (zl4 k993 k994 k995 k839) k867) rfl rfl rfl (by decide +kernel) ⟨Nat.le_of_ble_eq_true rfl, Nat.le_of_ble_eq_true rfl⟩) rfl rfl rfl rfl (Nat.le_of_ble_eq_true rfl) dX12_turnsBy_76 ⟨(Nat.le_of_ble_eq_true rfl), (Nat.le_of_ble_eq_true rfl)⟩ (fun _u H locs hq10 hP hD hS => ?_)
    have hP : va_P g.1 vwCl (List.flatten [bMo g o a th hi ac tp ba en tA fl de iD iO tU fm fk fa fc ft ff_9 fb fi]) H := hP
    have hD : va_D A (List.flatten [bMo g o a th hi ac tp ba en tA fl de iD iO tU fm fk fa fc ft ff_9 fb fi]) := hD
    refine W.widen (k := 0) (n := 0) (Nat.le_of_ble_eq_true rfl) (Nat.le_of_ble_eq_true rfl) ?_
    refine W.eq (g2 := F0 m 79 ls [.int (zTie (zV fm) (fm 3).toInt.toNat x.toInt.toNat), .int 4, .ref (a 5)]) rfl ?_
    refine va_iast hx hb hK hP hD hS 6 0 rfl rfl (zin rfl) dX12_turnsBy_79 (fun H locs hP hD hS => ?_)
    obtain ⟨ff_11, eff_11, hP, hD⟩ : ∃ ff_11 : Nat → Int32, ff_11 = upd ff_9 4 (zTie (zV fm) (fm 3).toInt.toNat x.toInt.toNat) ∧ va_P g.1 vwCl (List.flatten [bMo g o a th hi ac tp ba en tA fl de iD iO tU fm fk fa fc ft ff_11 fb fi]) H ∧ va_D A (List.flatten [bMo g o a th hi ac tp ba en tA fl de iD iO tU fm fk fa fc ft ff_11 fb fi]) := ⟨upd ff_9 4 (zTie (zV fm) (fm 3).toInt.toNat x.toInt.toNat), rfl, hP, hD⟩
    refine lv_aload_n hx hb dX12_turnsBy_80 rfl (lv_at hl 0 rfl) ?_
    refine va_get (D := g.1) (ci := 10) (v := .ref (a 5)) (C := RX12) (T := TX12) (N := 20) hx hb hts izRX12 hown hK hP 0 rfl rfl 14 (by decide) (hts _ k821) (fun _ h9 => h9) rfl dX12_turnsBy_81 ?_
    refine lv_iconst (v := 5) hx hb dX12_turnsBy_84 (by decide) ?_
    refine lv_aload_n hx hb dX12_turnsBy_85 rfl (lv_at hl 0 rfl) ?_
    refine va_get (D := g.1) (ci := 10) (v := .ref (a 0)) (C := RX12) (T := TX12) (N := 20) hx hb hts izRX12 hown hK hP 0 rfl rfl 1 (by decide) (hts _ k815) (fun _ h9 => h9) rfl dX12_turnsBy_86 ?_
    refine lv_bipush (v := 8) hx hb dX12_turnsBy_89 (by decide) ?_
    refine va_iald hx hb hK hP 1 0 rfl rfl (zin rfl) dX12_turnsBy_91 ?_
    refine ztop (r := (fm 8)) rfl ?_
    refine va_iast hx hb hK hP hD hS 6 0 rfl rfl (zin rfl) dX12_turnsBy_92 (fun H locs hP hD hS => ?_)
    obtain ⟨ff_12, eff_12, hP, hD⟩ : ∃ ff_12 : Nat → Int32, ff_12 = upd ff_11 5 (fm 8) ∧ va_P g.1 vwCl (List.flatten [bMo g o a th hi ac tp ba en tA fl de iD iO tU fm fk fa fc ft ff_12 fb fi]) H ∧ va_D A (List.flatten [bMo g o a th hi ac tp ba en tA fl de iD iO tU fm fk fa fc ft ff_12 fb fi]) := ⟨upd ff_11 5 (fm 8), rfl, hP, hD⟩
    refine lv_aload_n hx hb dX12_turnsBy_93 rfl (lv_at hl 0 rfl) ?_
    refine lv_aload_n hx hb dX12_turnsBy_94 rfl (lv_at hl 0 rfl) ?_
    refine lv_iload_n hx hb dX12_turnsBy_95 rfl (lv_at hl 1 rfl) ?_
    refine lv_iconst (v := 3) hx hb dX12_turnsBy_96 (by decide) ?_
    refine mcallV' (g := g) (q0 := 0) (ci := 10) (As := [.int x, .int 3]) (rest := [.ref o]) St hK hT hA hP hD hS hl.1 [0] [] rfl rfl rfl (m_of4F l g o a th hi ac tp ba en tA fl de iD iO tU fm fk fa fc ft ff_12 fb fi x b_x) (cwV 2 hts (zgL (zl4 k842 k843 k844 k839) k831) rfl rfl rfl (by decide +kernel) ⟨Nat.le_of_ble_eq_true rfl, Nat.le_of_ble_eq_true rfl⟩) rfl rfl rfl rfl (Nat.le_of_ble_eq_true rfl) dX12_turnsBy_97 ⟨(Nat.le_of_ble_eq_true rfl), (Nat.le_of_ble_eq_true rfl)⟩ (fun _u H locs hq13 hP hD hS => ?_)
    have hP : va_P g.1 vwCl (List.flatten [bMo g o a th hi ac tp ba en tA fl de iD iO tU fm fk fa fc ft ff_12 fb fi]) H := hP
    have hD : va_D A (List.flatten [bMo g o a th hi ac tp ba en tA fl de iD iO tU fm fk fa fc ft ff_12 fb fi]) := hD
    refine W.widen (k := 0) (n := 0) (Nat.le_of_ble_eq_true rfl) (Nat.le_of_ble_eq_true rfl) ?_
    refine W.eq (g2 := F0 m 100 ls [.int (zV fm 4 x.toInt.toNat), .ref o]) rfl ?_
    refine lv_iconst (v := 1) hx hb dX12_turnsBy_100 (by decide) ?_
    refine lv_icmp_ne (tgt := 108) hx hb dX12_turnsBy_101 (by decide) (fun cb9 => ?_) (fun cb9 => ?_)
    · skip
      have c14 : ¬ (zV fm 4 x.toInt.toNat).toInt = 1 := zne cb9 rfl (by decide)
      refine lv_iconst (v := 0) hx hb dX12_turnsBy_108 (by decide) ?_
      refine va_put (D := g.1) (ci := 10) (v := .int 0) (ty := .boolean) (C := RX12) (T := TX12) (N := 20) hx hb hts izRX12 tyX12 tyX12_ok nmX12 hown hK hP hD hS 0 rfl rfl 15 (by decide) (hts _ k942) (fun _ h9 => h9) rfl (by decide +kernel) rfl rfl (Nat.le_of_ble_eq_true rfl) dX12_turnsBy_109 (fun H locs hP hD hS => ?_)
      have hP : va_P g.1 vwCl (List.flatten [bMo g o a th hi ac tp ba en tA fl de 0 iO tU fm fk fa fc ft ff_12 fb fi]) H := hP
      have hD : va_D A (List.flatten [bMo g o a th hi ac tp ba en tA fl de 0 iO tU fm fk fa fc ft ff_12 fb fi]) := hD
      refine lv_aload_n hx hb dX12_turnsBy_112 rfl (lv_at hl 0 rfl) ?_
      refine lv_aload_n hx hb dX12_turnsBy_113 rfl (lv_at hl 0 rfl) ?_
      refine lv_iload_n hx hb dX12_turnsBy_114 rfl (lv_at hl 1 rfl) ?_
      refine lv_iconst (v := 2) hx hb dX12_turnsBy_115 (by decide) ?_
      refine mcallV' (g := g) (q0 := 0) (ci := 10) (As := [.int x, .int 2]) (rest := [.ref o]) St hK hT hA hP hD hS hl.1 [0] [] rfl rfl rfl (m_of2F l g o a th hi ac tp ba en tA fl de 0 iO tU fm fk fa fc ft ff_12 fb fi x b_x) (cwV 2 hts (zgL (zl4 k842 k843 k844 k839) k831) rfl rfl rfl (by decide +kernel) ⟨Nat.le_of_ble_eq_true rfl, Nat.le_of_ble_eq_true rfl⟩) rfl rfl rfl rfl (Nat.le_of_ble_eq_true rfl) dX12_turnsBy_116 ⟨(Nat.le_of_ble_eq_true rfl), (Nat.le_of_ble_eq_true rfl)⟩ (fun _u H locs hq15 hP hD hS => ?_)
      have hP : va_P g.1 vwCl (List.flatten [bMo g o a th hi ac tp ba en tA fl de 0 iO tU fm fk fa fc ft ff_12 fb fi]) H := hP
      have hD : va_D A (List.flatten [bMo g o a th hi ac tp ba en tA fl de 0 iO tU fm fk fa fc ft ff_12 fb fi]) := hD
      refine W.widen (k := 0) (n := 0) (Nat.le_of_ble_eq_true rfl) (Nat.le_of_ble_eq_true rfl) ?_
      refine W.eq (g2 := F0 m 119 ls [.int (zV fm 2 x.toInt.toNat), .ref o]) rfl ?_
      refine lv_if_le (tgt := 126) hx hb dX12_turnsBy_119 (by decide) (fun cb9 => ?_) (fun cb9 => ?_)
      · skip
        have c16 : (zV fm 2 x.toInt.toNat).toInt ≤ 0 := zle cb9 rfl (by decide)
        have n17 : (zV fm 2 x.toInt.toNat).toInt ≤ 0 := Int.le_trans c16 (Int.le_refl _)
        refine lv_iconst (v := 0) hx hb dX12_turnsBy_126 (by decide) ?_
        refine va_put (D := g.1) (ci := 10) (v := .int 0) (ty := .boolean) (C := RX12) (T := TX12) (N := 20) hx hb hts izRX12 tyX12 tyX12_ok nmX12 hown hK hP hD hS 0 rfl rfl 16 (by decide) (hts _ k943) (fun _ h9 => h9) rfl (by decide +kernel) rfl rfl (Nat.le_of_ble_eq_true rfl) dX12_turnsBy_127 (fun H locs hP hD hS => ?_)
        have hP : va_P g.1 vwCl (List.flatten [bMo g o a th hi ac tp ba en tA fl de 0 0 tU fm fk fa fc ft ff_12 fb fi]) H := hP
        have hD : va_D A (List.flatten [bMo g o a th hi ac tp ba en tA fl de 0 0 tU fm fk fa fc ft ff_12 fb fi]) := hD
        refine lv_aload_n hx hb dX12_turnsBy_130 rfl (lv_at hl 0 rfl) ?_
        refine lv_iconst (v := 0) hx hb dX12_turnsBy_131 (by decide) ?_
        refine va_put (D := g.1) (ci := 10) (v := .int 0) (ty := .int) (C := RX12) (T := TX12) (N := 20) hx hb hts izRX12 tyX12 tyX12_ok nmX12 hown hK hP hD hS 0 rfl rfl 17 (by decide) (hts _ k963) (fun _ h9 => h9) rfl (by decide +kernel) rfl rfl (Nat.le_of_ble_eq_true rfl) dX12_turnsBy_132 (fun H locs hP hD hS => ?_)
        have hP : va_P g.1 vwCl (List.flatten [bMo g o a th hi ac tp ba en tA fl de 0 0 0 fm fk fa fc ft ff_12 fb fi]) H := hP
        have hD : va_D A (List.flatten [bMo g o a th hi ac tp ba en tA fl de 0 0 0 fm fk fa fc ft ff_12 fb fi]) := hD
        refine lv_aload_n hx hb dX12_turnsBy_135 rfl (lv_at hl 0 rfl) ?_
        refine va_get (D := g.1) (ci := 10) (v := .int fl) (C := RX12) (T := TX12) (N := 20) hx hb hts izRX12 hown hK hP 0 rfl rfl 12 (by decide) (hts _ k820) (fun _ h9 => h9) rfl dX12_turnsBy_136 ?_
        refine lv_istore_n (lv' := [(2, .int fl), (0, .ref o), (1, .int x)]) hx hb dX12_turnsBy_139 rfl hl (by decide) rfl (fun ls hl => ?_)
        refine lv_aload_n hx hb dX12_turnsBy_140 rfl (lv_at hl 1 rfl) ?_
        refine lv_iconst (v := (-1)) hx hb dX12_turnsBy_141 (by decide) ?_
        refine va_put (D := g.1) (ci := 10) (v := .int (-1)) (ty := .int) (C := RX12) (T := TX12) (N := 20) hx hb hts izRX12 tyX12 tyX12_ok nmX12 hown hK hP hD hS 0 rfl rfl 12 (by decide) (hts _ k820) (fun _ h9 => h9) rfl (by decide +kernel) rfl rfl (Nat.le_of_ble_eq_true rfl) dX12_turnsBy_142 (fun H locs hP hD hS => ?_)
        have hP : va_P g.1 vwCl (List.flatten [bMo g o a th hi ac tp ba en tA (-1) de 0 0 0 fm fk fa fc ft ff_12 fb fi]) H := hP
        have hD : va_D A (List.flatten [bMo g o a th hi ac tp ba en tA (-1) de 0 0 0 fm fk fa fc ft ff_12 fb fi]) := hD
        refine lv_aload_n hx hb dX12_turnsBy_145 rfl (lv_at hl 1 rfl) ?_
        refine lv_sipush (v := 379) hx hb dX12_turnsBy_146 (by decide) ?_
        refine va_put (D := g.1) (ci := 10) (v := .int 379) (ty := .int) (C := RX12) (T := TX12) (N := 20) hx hb hts izRX12 tyX12 tyX12_ok nmX12 hown hK hP hD hS 0 rfl rfl 9 (by decide) (hts _ k876) (fun _ h9 => h9) rfl (by decide +kernel) rfl rfl (Nat.le_of_ble_eq_true rfl) dX12_turnsBy_149 (fun H locs hP hD hS => ?_)
        have hP : va_P g.1 vwCl (List.flatten [bMo g o a th hi ac tp 379 en tA (-1) de 0 0 0 fm fk fa fc ft ff_12 fb fi]) H := hP
        have hD : va_D A (List.flatten [bMo g o a th hi ac tp 379 en tA (-1) de 0 0 0 fm fk fa fc ft ff_12 fb fi]) := hD
        refine lv_aload_n hx hb dX12_turnsBy_152 rfl (lv_at hl 1 rfl) ?_
        refine lv_aload_n hx hb dX12_turnsBy_153 rfl (lv_at hl 1 rfl) ?_
        refine va_get (D := g.1) (ci := 10) (v := .ref (a 0)) (C := RX12) (T := TX12) (N := 20) hx hb hts izRX12 hown hK hP 0 rfl rfl 1 (by decide) (hts _ k815) (fun _ h9 => h9) rfl dX12_turnsBy_154 ?_
        refine lv_iconst (v := 2) hx hb dX12_turnsBy_157 (by decide) ?_
        refine va_iald hx hb hK hP 1 0 rfl rfl (zin rfl) dX12_turnsBy_158 ?_
        refine ztop (r := (fm 2)) rfl ?_
        refine va_put (D := g.1) (ci := 10) (v := .int (fm 2)) (ty := .int) (C := RX12) (T := TX12) (N := 20) hx hb hts izRX12 tyX12 tyX12_ok nmX12 hown hK hP hD hS 0 rfl rfl 10 (by decide) (hts _ k879) (fun _ h9 => h9) rfl (by decide +kernel) rfl rfl (Nat.le_of_ble_eq_true rfl) dX12_turnsBy_159 (fun H locs hP hD hS => ?_)
        have hP : va_P g.1 vwCl (List.flatten [bMo g o a th hi ac tp 379 (fm 2) tA (-1) de 0 0 0 fm fk fa fc ft ff_12 fb fi]) H := hP
        have hD : va_D A (List.flatten [bMo g o a th hi ac tp 379 (fm 2) tA (-1) de 0 0 0 fm fk fa fc ft ff_12 fb fi]) := hD
        refine lv_aload_n hx hb dX12_turnsBy_162 rfl (lv_at hl 1 rfl) ?_
        refine lv_iconst (v := 0) hx hb dX12_turnsBy_163 (by decide) ?_
        refine va_put (D := g.1) (ci := 10) (v := .int 0) (ty := .int) (C := RX12) (T := TX12) (N := 20) hx hb hts izRX12 tyX12 tyX12_ok nmX12 hown hK hP hD hS 0 rfl rfl 11 (by decide) (hts _ k878) (fun _ h9 => h9) rfl (by decide +kernel) rfl rfl (Nat.le_of_ble_eq_true rfl) dX12_turnsBy_164 (fun H locs hP hD hS => ?_)
        have hP : va_P g.1 vwCl (List.flatten [bMo g o a th hi ac tp 379 (fm 2) 0 (-1) de 0 0 0 fm fk fa fc ft ff_12 fb fi]) H := hP
        have hD : va_D A (List.flatten [bMo g o a th hi ac tp 379 (fm 2) 0 (-1) de 0 0 0 fm fk fa fc ft ff_12 fb fi]) := hD
        refine lv_aload_n hx hb dX12_turnsBy_167 rfl (lv_at hl 1 rfl) ?_
        refine lv_iconst (v := 0) hx hb dX12_turnsBy_168 (by decide) ?_
        refine va_put (D := g.1) (ci := 10) (v := .int 0) (ty := .int) (C := RX12) (T := TX12) (N := 20) hx hb hts izRX12 tyX12 tyX12_ok nmX12 hown hK hP hD hS 0 rfl rfl 13 (by decide) (hts _ k933) (fun _ h9 => h9) rfl (by decide +kernel) rfl rfl (Nat.le_of_ble_eq_true rfl) dX12_turnsBy_169 (fun H locs hP hD hS => ?_)
        have hP : va_P g.1 vwCl (List.flatten [bMo g o a th hi ac tp 379 (fm 2) 0 (-1) 0 0 0 0 fm fk fa fc ft ff_12 fb fi]) H := hP
        have hD : va_D A (List.flatten [bMo g o a th hi ac tp 379 (fm 2) 0 (-1) 0 0 0 0 fm fk fa fc ft ff_12 fb fi]) := hD
        obtain ⟨tx, htx, hlw⟩ := zLm_t hL (by omega)
        have hff : ∀ k9 : Nat, k9 < 6 → ff_12 k9 = (zEnvC (zV fm) (fm 3).toInt.toNat x.toInt.toNat (zMean (zV fm) (fm 3).toInt.toNat) (zPop (zWks (zV fm) (fm 4).toInt.toNat 1)) (fm 8)) k9 := zff eff_2 eff_4 eff_6 eff_9 eff_11 eff_12 ((znat b_x.1).trans (zE_0 _ _ _ _ _ _).symm) (zE_1 _ _ _ _ _ _).symm (zE_2 _ _ _ _ _ _).symm (zE_3 _ _ _ _ _ _).symm (zE_4 _ _ _ _ _ _).symm (zE_5 _ _ _ _ _ _).symm
        have hdr : (0 : Int32) = zBi (zNz ((zEnvC (zV fm) (fm 3).toInt.toNat x.toInt.toNat (zMean (zV fm) (fm 3).toInt.toNat) (zPop (zWks (zV fm) (fm 4).toInt.toNat 1)) (fm 8)) 6)) := zhd0 (by omega)
        have how : (0 : Int32) = zBi (zNz ((zEnvC (zV fm) (fm 3).toInt.toNat x.toInt.toNat (zMean (zV fm) (fm 3).toInt.toNat) (zPop (zWks (zV fm) (fm 4).toInt.toNat 1)) (fm 8)) 7)) := zho0 (by omega)
        have hw9 := hlw (zEnvC (zV fm) (fm 3).toInt.toNat x.toInt.toNat (zMean (zV fm) (fm 3).toInt.toNat) (zPop (zWks (zV fm) (fm 4).toInt.toNat 1)) (fm 8))
        have hen9 := rM2 rfm
        refine lv_aload_n hx hb dX12_turnsBy_172 rfl (lv_at hl 1 rfl) ?_
        refine lv_iconst (v := 1) hx hb dX12_turnsBy_173 (by decide) ?_
        have hL0 : (0 : Int32).toInt = 0 := by decide
        refine mcallV' (g := g) (q0 := 0) (ci := 10) (As := [.int 1]) (rest := []) St hK hT hA hP hD hS hl.1 [0] [] rfl rfl rfl (m_readV l g o a th hi ac tp (fm 2) 0 0 0 0 fm fk fa fc ft ff_12 fb fi tx (zEnvC (zV fm) (fm 3).toInt.toNat x.toInt.toNat (zMean (zV fm) (fm 3).toInt.toNat) (zPop (zWks (zV fm) (fm 4).toInt.toNat 1)) (fm 8)) (L (zEnvC (zV fm) (fm 3).toInt.toNat x.toInt.toNat (zMean (zV fm) (fm 3).toInt.toNat) (zPop (zWks (zV fm) (fm 4).toInt.toNat 1)) (fm 8))) hen9 (by rw [zi0]; omega) (by decide) hff hdr how (zLw0 hw9) htx) (cwV 1 hts (zgL (zl4 k981 k982 k983 k839) k971) rfl rfl rfl (by decide +kernel) ⟨Nat.le_of_ble_eq_true rfl, Nat.le_of_ble_eq_true rfl⟩) rfl rfl rfl rfl (Nat.le_of_ble_eq_true rfl) dX12_turnsBy_174 ⟨(Nat.le_of_ble_eq_true rfl), (Nat.le_of_ble_eq_true rfl)⟩ (fun u_ H locs hq21 hP hD hS => ?_)
        obtain ⟨at2_18, tU2_19, q_20⟩ := u_
        replace hq21 : (0 ≤ at2_18.toInt ∧ at2_18.toInt ≤ (fm 2).toInt + 7 - 0) ∧ ((0 : Int32).toInt ≤ at2_18.toInt) ∧ (tU2_19 = (L (zEnvC (zV fm) (fm 3).toInt.toNat x.toInt.toNat (zMean (zV fm) (fm 3).toInt.toNat) (zPop (zWks (zV fm) (fm 4).toInt.toNat 1)) (fm 8)))) := hq21
        have hP : va_P g.1 vwCl (List.flatten [bMo g o a th hi ac tp 379 (fm 2) at2_18 (-1) 0 0 0 tU2_19 fm fk fa fc ft ff_12 fb fi]) H := hP
        have hD : va_D A (List.flatten [bMo g o a th hi ac tp 379 (fm 2) at2_18 (-1) 0 0 0 tU2_19 fm fk fa fc ft ff_12 fb fi]) := hD
        refine W.widen (k := 0) (n := 0) (Nat.le_of_ble_eq_true rfl) (Nat.le_of_ble_eq_true rfl) ?_
        refine W.eq (g2 := F0 m 177 ls [.int q_20]) rfl ?_
        obtain ⟨hq21_0, hq21_1, hq21_2⟩ := hq21
        refine lv_istore_n (lv' := [(3, .int q_20), (2, .int fl), (0, .ref o), (1, .int x)]) hx hb dX12_turnsBy_177 rfl hl (by decide) rfl (fun ls hl => ?_)
        refine lv_aload_n hx hb dX12_turnsBy_178 rfl (lv_at hl 2 rfl) ?_
        refine lv_iload_n hx hb dX12_turnsBy_179 rfl (lv_at hl 1 rfl) ?_
        refine va_put (D := g.1) (ci := 10) (v := .int fl) (ty := .int) (C := RX12) (T := TX12) (N := 20) hx hb hts izRX12 tyX12 tyX12_ok nmX12 hown hK hP hD hS 0 rfl rfl 12 (by decide) (hts _ k820) (fun _ h9 => h9) rfl (by decide +kernel) rfl rfl (Nat.le_of_ble_eq_true rfl) dX12_turnsBy_180 (fun H locs hP hD hS => ?_)
        have hP : va_P g.1 vwCl (List.flatten [bMo g o a th hi ac tp 379 (fm 2) at2_18 fl 0 0 0 tU2_19 fm fk fa fc ft ff_12 fb fi]) H := hP
        have hD : va_D A (List.flatten [bMo g o a th hi ac tp 379 (fm 2) at2_18 fl 0 0 0 tU2_19 fm fk fa fc ft ff_12 fb fi]) := hD
        refine lv_aload_n hx hb dX12_turnsBy_183 rfl (lv_at hl 2 rfl) ?_
        refine va_get (D := g.1) (ci := 10) (v := .int tU2_19) (C := RX12) (T := TX12) (N := 20) hx hb hts izRX12 hown hK hP 0 rfl rfl 17 (by decide) (hts _ k963) (fun _ h9 => h9) rfl dX12_turnsBy_184 ?_
        refine ztop (r := (L (zEnv (zV fm) (fm 3).toInt.toNat (fm 4).toInt.toNat (fm 8) x.toInt.toNat))) (show _ = L (zEnvC (zV fm) (fm 3).toInt.toNat x.toInt.toNat (zMean (zV fm) (fm 3).toInt.toNat) (zPop (zWks (zV fm) (fm 4).toInt.toNat 1)) (fm 8)) from hq21_2) ?_
        have hP : va_P g.1 vwCl (List.flatten [bMo g o a th hi ac tp 379 (fm 2) at2_18 fl 0 0 0 tU2_19 fm fk fa fc ft ff_12 fb fi]) H := hP
        have hD : va_D A (List.flatten [bMo g o a th hi ac tp 379 (fm 2) at2_18 fl 0 0 0 tU2_19 fm fk fa fc ft ff_12 fb fi]) := hD
        exact mret_i hx hb hr hlocks hS (Nat.le_of_ble_eq_true rfl) (Nat.le_of_ble_eq_true rfl) dX12_turnsBy_187 ((379 : Int32), fm 2, at2_18, (0 : Int32), (0 : Int32), (0 : Int32), tU2_19, ff_12) rfl (show (0 ≤ (0 : Int32).toInt ∧ (0 : Int32).toInt ≤ 1) ∧ (0 ≤ (0 : Int32).toInt ∧ (0 : Int32).toInt ≤ 1) from ⟨(by first | assumption | omega | decide | exact rfl | exact zb01 (by omega) | exact Or.inl (by decide) | exact Or.inr (by first | omega | decide)), (by first | assumption | omega | decide | exact rfl | exact zb01 (by omega) | exact Or.inl (by decide) | exact Or.inr (by first | omega | decide))⟩) hP hD
      · skip
        have c22 : 0 < (zV fm 2 x.toInt.toNat).toInt := zlti (Int32.not_le.mp cb9) (by decide) rfl
        have n23 : 1 ≤ (zV fm 2 x.toInt.toNat).toInt := zL2 (a := 0) c22 (Int.le_refl _) (by decide)
        refine lv_iconst (v := 1) hx hb dX12_turnsBy_122 (by decide) ?_
        refine lv_goto (tgt := 127) hx hb dX12_turnsBy_123 (by decide) ?_
        refine va_put (D := g.1) (ci := 10) (v := .int 1) (ty := .boolean) (C := RX12) (T := TX12) (N := 20) hx hb hts izRX12 tyX12 tyX12_ok nmX12 hown hK hP hD hS 0 rfl rfl 16 (by decide) (hts _ k943) (fun _ h9 => h9) rfl (by decide +kernel) rfl rfl (Nat.le_of_ble_eq_true rfl) dX12_turnsBy_127 (fun H locs hP hD hS => ?_)
        have hP : va_P g.1 vwCl (List.flatten [bMo g o a th hi ac tp ba en tA fl de 0 1 tU fm fk fa fc ft ff_12 fb fi]) H := hP
        have hD : va_D A (List.flatten [bMo g o a th hi ac tp ba en tA fl de 0 1 tU fm fk fa fc ft ff_12 fb fi]) := hD
        refine lv_aload_n hx hb dX12_turnsBy_130 rfl (lv_at hl 0 rfl) ?_
        refine lv_iconst (v := 0) hx hb dX12_turnsBy_131 (by decide) ?_
        refine va_put (D := g.1) (ci := 10) (v := .int 0) (ty := .int) (C := RX12) (T := TX12) (N := 20) hx hb hts izRX12 tyX12 tyX12_ok nmX12 hown hK hP hD hS 0 rfl rfl 17 (by decide) (hts _ k963) (fun _ h9 => h9) rfl (by decide +kernel) rfl rfl (Nat.le_of_ble_eq_true rfl) dX12_turnsBy_132 (fun H locs hP hD hS => ?_)
        have hP : va_P g.1 vwCl (List.flatten [bMo g o a th hi ac tp ba en tA fl de 0 1 0 fm fk fa fc ft ff_12 fb fi]) H := hP
        have hD : va_D A (List.flatten [bMo g o a th hi ac tp ba en tA fl de 0 1 0 fm fk fa fc ft ff_12 fb fi]) := hD
        refine lv_aload_n hx hb dX12_turnsBy_135 rfl (lv_at hl 0 rfl) ?_
        refine va_get (D := g.1) (ci := 10) (v := .int fl) (C := RX12) (T := TX12) (N := 20) hx hb hts izRX12 hown hK hP 0 rfl rfl 12 (by decide) (hts _ k820) (fun _ h9 => h9) rfl dX12_turnsBy_136 ?_
        refine lv_istore_n (lv' := [(2, .int fl), (0, .ref o), (1, .int x)]) hx hb dX12_turnsBy_139 rfl hl (by decide) rfl (fun ls hl => ?_)
        refine lv_aload_n hx hb dX12_turnsBy_140 rfl (lv_at hl 1 rfl) ?_
        refine lv_iconst (v := (-1)) hx hb dX12_turnsBy_141 (by decide) ?_
        refine va_put (D := g.1) (ci := 10) (v := .int (-1)) (ty := .int) (C := RX12) (T := TX12) (N := 20) hx hb hts izRX12 tyX12 tyX12_ok nmX12 hown hK hP hD hS 0 rfl rfl 12 (by decide) (hts _ k820) (fun _ h9 => h9) rfl (by decide +kernel) rfl rfl (Nat.le_of_ble_eq_true rfl) dX12_turnsBy_142 (fun H locs hP hD hS => ?_)
        have hP : va_P g.1 vwCl (List.flatten [bMo g o a th hi ac tp ba en tA (-1) de 0 1 0 fm fk fa fc ft ff_12 fb fi]) H := hP
        have hD : va_D A (List.flatten [bMo g o a th hi ac tp ba en tA (-1) de 0 1 0 fm fk fa fc ft ff_12 fb fi]) := hD
        refine lv_aload_n hx hb dX12_turnsBy_145 rfl (lv_at hl 1 rfl) ?_
        refine lv_sipush (v := 379) hx hb dX12_turnsBy_146 (by decide) ?_
        refine va_put (D := g.1) (ci := 10) (v := .int 379) (ty := .int) (C := RX12) (T := TX12) (N := 20) hx hb hts izRX12 tyX12 tyX12_ok nmX12 hown hK hP hD hS 0 rfl rfl 9 (by decide) (hts _ k876) (fun _ h9 => h9) rfl (by decide +kernel) rfl rfl (Nat.le_of_ble_eq_true rfl) dX12_turnsBy_149 (fun H locs hP hD hS => ?_)
        have hP : va_P g.1 vwCl (List.flatten [bMo g o a th hi ac tp 379 en tA (-1) de 0 1 0 fm fk fa fc ft ff_12 fb fi]) H := hP
        have hD : va_D A (List.flatten [bMo g o a th hi ac tp 379 en tA (-1) de 0 1 0 fm fk fa fc ft ff_12 fb fi]) := hD
        refine lv_aload_n hx hb dX12_turnsBy_152 rfl (lv_at hl 1 rfl) ?_
        refine lv_aload_n hx hb dX12_turnsBy_153 rfl (lv_at hl 1 rfl) ?_
        refine va_get (D := g.1) (ci := 10) (v := .ref (a 0)) (C := RX12) (T := TX12) (N := 20) hx hb hts izRX12 hown hK hP 0 rfl rfl 1 (by decide) (hts _ k815) (fun _ h9 => h9) rfl dX12_turnsBy_154 ?_
        refine lv_iconst (v := 2) hx hb dX12_turnsBy_157 (by decide) ?_
        refine va_iald hx hb hK hP 1 0 rfl rfl (zin rfl) dX12_turnsBy_158 ?_
        refine ztop (r := (fm 2)) rfl ?_
        refine va_put (D := g.1) (ci := 10) (v := .int (fm 2)) (ty := .int) (C := RX12) (T := TX12) (N := 20) hx hb hts izRX12 tyX12 tyX12_ok nmX12 hown hK hP hD hS 0 rfl rfl 10 (by decide) (hts _ k879) (fun _ h9 => h9) rfl (by decide +kernel) rfl rfl (Nat.le_of_ble_eq_true rfl) dX12_turnsBy_159 (fun H locs hP hD hS => ?_)
        have hP : va_P g.1 vwCl (List.flatten [bMo g o a th hi ac tp 379 (fm 2) tA (-1) de 0 1 0 fm fk fa fc ft ff_12 fb fi]) H := hP
        have hD : va_D A (List.flatten [bMo g o a th hi ac tp 379 (fm 2) tA (-1) de 0 1 0 fm fk fa fc ft ff_12 fb fi]) := hD
        refine lv_aload_n hx hb dX12_turnsBy_162 rfl (lv_at hl 1 rfl) ?_
        refine lv_iconst (v := 0) hx hb dX12_turnsBy_163 (by decide) ?_
        refine va_put (D := g.1) (ci := 10) (v := .int 0) (ty := .int) (C := RX12) (T := TX12) (N := 20) hx hb hts izRX12 tyX12 tyX12_ok nmX12 hown hK hP hD hS 0 rfl rfl 11 (by decide) (hts _ k878) (fun _ h9 => h9) rfl (by decide +kernel) rfl rfl (Nat.le_of_ble_eq_true rfl) dX12_turnsBy_164 (fun H locs hP hD hS => ?_)
        have hP : va_P g.1 vwCl (List.flatten [bMo g o a th hi ac tp 379 (fm 2) 0 (-1) de 0 1 0 fm fk fa fc ft ff_12 fb fi]) H := hP
        have hD : va_D A (List.flatten [bMo g o a th hi ac tp 379 (fm 2) 0 (-1) de 0 1 0 fm fk fa fc ft ff_12 fb fi]) := hD
        refine lv_aload_n hx hb dX12_turnsBy_167 rfl (lv_at hl 1 rfl) ?_
        refine lv_iconst (v := 0) hx hb dX12_turnsBy_168 (by decide) ?_
        refine va_put (D := g.1) (ci := 10) (v := .int 0) (ty := .int) (C := RX12) (T := TX12) (N := 20) hx hb hts izRX12 tyX12 tyX12_ok nmX12 hown hK hP hD hS 0 rfl rfl 13 (by decide) (hts _ k933) (fun _ h9 => h9) rfl (by decide +kernel) rfl rfl (Nat.le_of_ble_eq_true rfl) dX12_turnsBy_169 (fun H locs hP hD hS => ?_)
        have hP : va_P g.1 vwCl (List.flatten [bMo g o a th hi ac tp 379 (fm 2) 0 (-1) 0 0 1 0 fm fk fa fc ft ff_12 fb fi]) H := hP
        have hD : va_D A (List.flatten [bMo g o a th hi ac tp 379 (fm 2) 0 (-1) 0 0 1 0 fm fk fa fc ft ff_12 fb fi]) := hD
        obtain ⟨tx, htx, hlw⟩ := zLm_t hL (by omega)
        have hff : ∀ k9 : Nat, k9 < 6 → ff_12 k9 = (zEnvC (zV fm) (fm 3).toInt.toNat x.toInt.toNat (zMean (zV fm) (fm 3).toInt.toNat) (zPop (zWks (zV fm) (fm 4).toInt.toNat 1)) (fm 8)) k9 := zff eff_2 eff_4 eff_6 eff_9 eff_11 eff_12 ((znat b_x.1).trans (zE_0 _ _ _ _ _ _).symm) (zE_1 _ _ _ _ _ _).symm (zE_2 _ _ _ _ _ _).symm (zE_3 _ _ _ _ _ _).symm (zE_4 _ _ _ _ _ _).symm (zE_5 _ _ _ _ _ _).symm
        have hdr : (0 : Int32) = zBi (zNz ((zEnvC (zV fm) (fm 3).toInt.toNat x.toInt.toNat (zMean (zV fm) (fm 3).toInt.toNat) (zPop (zWks (zV fm) (fm 4).toInt.toNat 1)) (fm 8)) 6)) := zhd0 (by omega)
        have how : (1 : Int32) = zBi (zNz ((zEnvC (zV fm) (fm 3).toInt.toNat x.toInt.toNat (zMean (zV fm) (fm 3).toInt.toNat) (zPop (zWks (zV fm) (fm 4).toInt.toNat 1)) (fm 8)) 7)) := zho1 (by omega)
        have hw9 := hlw (zEnvC (zV fm) (fm 3).toInt.toNat x.toInt.toNat (zMean (zV fm) (fm 3).toInt.toNat) (zPop (zWks (zV fm) (fm 4).toInt.toNat 1)) (fm 8))
        have hen9 := rM2 rfm
        refine lv_aload_n hx hb dX12_turnsBy_172 rfl (lv_at hl 1 rfl) ?_
        refine lv_iconst (v := 1) hx hb dX12_turnsBy_173 (by decide) ?_
        have hL0 : (0 : Int32).toInt = 0 := by decide
        refine mcallV' (g := g) (q0 := 0) (ci := 10) (As := [.int 1]) (rest := []) St hK hT hA hP hD hS hl.1 [0] [] rfl rfl rfl (m_readV l g o a th hi ac tp (fm 2) 0 0 1 0 fm fk fa fc ft ff_12 fb fi tx (zEnvC (zV fm) (fm 3).toInt.toNat x.toInt.toNat (zMean (zV fm) (fm 3).toInt.toNat) (zPop (zWks (zV fm) (fm 4).toInt.toNat 1)) (fm 8)) (L (zEnvC (zV fm) (fm 3).toInt.toNat x.toInt.toNat (zMean (zV fm) (fm 3).toInt.toNat) (zPop (zWks (zV fm) (fm 4).toInt.toNat 1)) (fm 8))) hen9 (by rw [zi0]; omega) (by decide) hff hdr how (zLw0 hw9) htx) (cwV 1 hts (zgL (zl4 k981 k982 k983 k839) k971) rfl rfl rfl (by decide +kernel) ⟨Nat.le_of_ble_eq_true rfl, Nat.le_of_ble_eq_true rfl⟩) rfl rfl rfl rfl (Nat.le_of_ble_eq_true rfl) dX12_turnsBy_174 ⟨(Nat.le_of_ble_eq_true rfl), (Nat.le_of_ble_eq_true rfl)⟩ (fun u_ H locs hq27 hP hD hS => ?_)
        obtain ⟨at2_24, tU2_25, q_26⟩ := u_
        replace hq27 : (0 ≤ at2_24.toInt ∧ at2_24.toInt ≤ (fm 2).toInt + 7 - 0) ∧ ((0 : Int32).toInt ≤ at2_24.toInt) ∧ (tU2_25 = (L (zEnvC (zV fm) (fm 3).toInt.toNat x.toInt.toNat (zMean (zV fm) (fm 3).toInt.toNat) (zPop (zWks (zV fm) (fm 4).toInt.toNat 1)) (fm 8)))) := hq27
        have hP : va_P g.1 vwCl (List.flatten [bMo g o a th hi ac tp 379 (fm 2) at2_24 (-1) 0 0 1 tU2_25 fm fk fa fc ft ff_12 fb fi]) H := hP
        have hD : va_D A (List.flatten [bMo g o a th hi ac tp 379 (fm 2) at2_24 (-1) 0 0 1 tU2_25 fm fk fa fc ft ff_12 fb fi]) := hD
        refine W.widen (k := 0) (n := 0) (Nat.le_of_ble_eq_true rfl) (Nat.le_of_ble_eq_true rfl) ?_
        refine W.eq (g2 := F0 m 177 ls [.int q_26]) rfl ?_
        obtain ⟨hq27_0, hq27_1, hq27_2⟩ := hq27
        refine lv_istore_n (lv' := [(3, .int q_26), (2, .int fl), (0, .ref o), (1, .int x)]) hx hb dX12_turnsBy_177 rfl hl (by decide) rfl (fun ls hl => ?_)
        refine lv_aload_n hx hb dX12_turnsBy_178 rfl (lv_at hl 2 rfl) ?_
        refine lv_iload_n hx hb dX12_turnsBy_179 rfl (lv_at hl 1 rfl) ?_
        refine va_put (D := g.1) (ci := 10) (v := .int fl) (ty := .int) (C := RX12) (T := TX12) (N := 20) hx hb hts izRX12 tyX12 tyX12_ok nmX12 hown hK hP hD hS 0 rfl rfl 12 (by decide) (hts _ k820) (fun _ h9 => h9) rfl (by decide +kernel) rfl rfl (Nat.le_of_ble_eq_true rfl) dX12_turnsBy_180 (fun H locs hP hD hS => ?_)
        have hP : va_P g.1 vwCl (List.flatten [bMo g o a th hi ac tp 379 (fm 2) at2_24 fl 0 0 1 tU2_25 fm fk fa fc ft ff_12 fb fi]) H := hP
        have hD : va_D A (List.flatten [bMo g o a th hi ac tp 379 (fm 2) at2_24 fl 0 0 1 tU2_25 fm fk fa fc ft ff_12 fb fi]) := hD
        refine lv_aload_n hx hb dX12_turnsBy_183 rfl (lv_at hl 2 rfl) ?_
        refine va_get (D := g.1) (ci := 10) (v := .int tU2_25) (C := RX12) (T := TX12) (N := 20) hx hb hts izRX12 hown hK hP 0 rfl rfl 17 (by decide) (hts _ k963) (fun _ h9 => h9) rfl dX12_turnsBy_184 ?_
        refine ztop (r := (L (zEnv (zV fm) (fm 3).toInt.toNat (fm 4).toInt.toNat (fm 8) x.toInt.toNat))) (show _ = L (zEnvC (zV fm) (fm 3).toInt.toNat x.toInt.toNat (zMean (zV fm) (fm 3).toInt.toNat) (zPop (zWks (zV fm) (fm 4).toInt.toNat 1)) (fm 8)) from hq27_2) ?_
        have hP : va_P g.1 vwCl (List.flatten [bMo g o a th hi ac tp 379 (fm 2) at2_24 fl 0 0 1 tU2_25 fm fk fa fc ft ff_12 fb fi]) H := hP
        have hD : va_D A (List.flatten [bMo g o a th hi ac tp 379 (fm 2) at2_24 fl 0 0 1 tU2_25 fm fk fa fc ft ff_12 fb fi]) := hD
        exact mret_i hx hb hr hlocks hS (Nat.le_of_ble_eq_true rfl) (Nat.le_of_ble_eq_true rfl) dX12_turnsBy_187 ((379 : Int32), fm 2, at2_24, (0 : Int32), (0 : Int32), (1 : Int32), tU2_25, ff_12) rfl (show (0 ≤ (1 : Int32).toInt ∧ (1 : Int32).toInt ≤ 1) ∧ (0 ≤ (0 : Int32).toInt ∧ (0 : Int32).toInt ≤ 1) from ⟨(by first | assumption | omega | decide | exact rfl | exact zb01 (by omega) | exact Or.inl (by decide) | exact Or.inr (by first | omega | decide)), (by first | assumption | omega | decide | exact rfl | exact zb01 (by omega) | exact Or.inl (by decide) | exact Or.inr (by first | omega | decide))⟩) hP hD
    · skip
      have c28 : (zV fm 4 x.toInt.toNat).toInt = 1 := zeq cb9 rfl (by decide)
      have n29 : 1 ≤ (zV fm 4 x.toInt.toNat).toInt := Int.le_trans (Int.le_refl _) (Int.le_of_eq c28.symm)
      have n30 : (zV fm 4 x.toInt.toNat).toInt ≤ 1 := Int.le_trans (Int.le_of_eq c28) (Int.le_refl _)
      refine lv_iconst (v := 1) hx hb dX12_turnsBy_104 (by decide) ?_
      refine lv_goto (tgt := 109) hx hb dX12_turnsBy_105 (by decide) ?_
      refine va_put (D := g.1) (ci := 10) (v := .int 1) (ty := .boolean) (C := RX12) (T := TX12) (N := 20) hx hb hts izRX12 tyX12 tyX12_ok nmX12 hown hK hP hD hS 0 rfl rfl 15 (by decide) (hts _ k942) (fun _ h9 => h9) rfl (by decide +kernel) rfl rfl (Nat.le_of_ble_eq_true rfl) dX12_turnsBy_109 (fun H locs hP hD hS => ?_)
      have hP : va_P g.1 vwCl (List.flatten [bMo g o a th hi ac tp ba en tA fl de 1 iO tU fm fk fa fc ft ff_12 fb fi]) H := hP
      have hD : va_D A (List.flatten [bMo g o a th hi ac tp ba en tA fl de 1 iO tU fm fk fa fc ft ff_12 fb fi]) := hD
      refine lv_aload_n hx hb dX12_turnsBy_112 rfl (lv_at hl 0 rfl) ?_
      refine lv_aload_n hx hb dX12_turnsBy_113 rfl (lv_at hl 0 rfl) ?_
      refine lv_iload_n hx hb dX12_turnsBy_114 rfl (lv_at hl 1 rfl) ?_
      refine lv_iconst (v := 2) hx hb dX12_turnsBy_115 (by decide) ?_
      refine mcallV' (g := g) (q0 := 0) (ci := 10) (As := [.int x, .int 2]) (rest := [.ref o]) St hK hT hA hP hD hS hl.1 [0] [] rfl rfl rfl (m_of2F l g o a th hi ac tp ba en tA fl de 1 iO tU fm fk fa fc ft ff_12 fb fi x b_x) (cwV 2 hts (zgL (zl4 k842 k843 k844 k839) k831) rfl rfl rfl (by decide +kernel) ⟨Nat.le_of_ble_eq_true rfl, Nat.le_of_ble_eq_true rfl⟩) rfl rfl rfl rfl (Nat.le_of_ble_eq_true rfl) dX12_turnsBy_116 ⟨(Nat.le_of_ble_eq_true rfl), (Nat.le_of_ble_eq_true rfl)⟩ (fun _u H locs hq31 hP hD hS => ?_)
      have hP : va_P g.1 vwCl (List.flatten [bMo g o a th hi ac tp ba en tA fl de 1 iO tU fm fk fa fc ft ff_12 fb fi]) H := hP
      have hD : va_D A (List.flatten [bMo g o a th hi ac tp ba en tA fl de 1 iO tU fm fk fa fc ft ff_12 fb fi]) := hD
      refine W.widen (k := 0) (n := 0) (Nat.le_of_ble_eq_true rfl) (Nat.le_of_ble_eq_true rfl) ?_
      refine W.eq (g2 := F0 m 119 ls [.int (zV fm 2 x.toInt.toNat), .ref o]) rfl ?_
      refine lv_if_le (tgt := 126) hx hb dX12_turnsBy_119 (by decide) (fun cb9 => ?_) (fun cb9 => ?_)
      · skip
        have c32 : (zV fm 2 x.toInt.toNat).toInt ≤ 0 := zle cb9 rfl (by decide)
        have n33 : (zV fm 2 x.toInt.toNat).toInt ≤ 0 := Int.le_trans c32 (Int.le_refl _)
        refine lv_iconst (v := 0) hx hb dX12_turnsBy_126 (by decide) ?_
        refine va_put (D := g.1) (ci := 10) (v := .int 0) (ty := .boolean) (C := RX12) (T := TX12) (N := 20) hx hb hts izRX12 tyX12 tyX12_ok nmX12 hown hK hP hD hS 0 rfl rfl 16 (by decide) (hts _ k943) (fun _ h9 => h9) rfl (by decide +kernel) rfl rfl (Nat.le_of_ble_eq_true rfl) dX12_turnsBy_127 (fun H locs hP hD hS => ?_)
        have hP : va_P g.1 vwCl (List.flatten [bMo g o a th hi ac tp ba en tA fl de 1 0 tU fm fk fa fc ft ff_12 fb fi]) H := hP
        have hD : va_D A (List.flatten [bMo g o a th hi ac tp ba en tA fl de 1 0 tU fm fk fa fc ft ff_12 fb fi]) := hD
        refine lv_aload_n hx hb dX12_turnsBy_130 rfl (lv_at hl 0 rfl) ?_
        refine lv_iconst (v := 0) hx hb dX12_turnsBy_131 (by decide) ?_
        refine va_put (D := g.1) (ci := 10) (v := .int 0) (ty := .int) (C := RX12) (T := TX12) (N := 20) hx hb hts izRX12 tyX12 tyX12_ok nmX12 hown hK hP hD hS 0 rfl rfl 17 (by decide) (hts _ k963) (fun _ h9 => h9) rfl (by decide +kernel) rfl rfl (Nat.le_of_ble_eq_true rfl) dX12_turnsBy_132 (fun H locs hP hD hS => ?_)
        have hP : va_P g.1 vwCl (List.flatten [bMo g o a th hi ac tp ba en tA fl de 1 0 0 fm fk fa fc ft ff_12 fb fi]) H := hP
        have hD : va_D A (List.flatten [bMo g o a th hi ac tp ba en tA fl de 1 0 0 fm fk fa fc ft ff_12 fb fi]) := hD
        refine lv_aload_n hx hb dX12_turnsBy_135 rfl (lv_at hl 0 rfl) ?_
        refine va_get (D := g.1) (ci := 10) (v := .int fl) (C := RX12) (T := TX12) (N := 20) hx hb hts izRX12 hown hK hP 0 rfl rfl 12 (by decide) (hts _ k820) (fun _ h9 => h9) rfl dX12_turnsBy_136 ?_
        refine lv_istore_n (lv' := [(2, .int fl), (0, .ref o), (1, .int x)]) hx hb dX12_turnsBy_139 rfl hl (by decide) rfl (fun ls hl => ?_)
        refine lv_aload_n hx hb dX12_turnsBy_140 rfl (lv_at hl 1 rfl) ?_
        refine lv_iconst (v := (-1)) hx hb dX12_turnsBy_141 (by decide) ?_
        refine va_put (D := g.1) (ci := 10) (v := .int (-1)) (ty := .int) (C := RX12) (T := TX12) (N := 20) hx hb hts izRX12 tyX12 tyX12_ok nmX12 hown hK hP hD hS 0 rfl rfl 12 (by decide) (hts _ k820) (fun _ h9 => h9) rfl (by decide +kernel) rfl rfl (Nat.le_of_ble_eq_true rfl) dX12_turnsBy_142 (fun H locs hP hD hS => ?_)
        have hP : va_P g.1 vwCl (List.flatten [bMo g o a th hi ac tp ba en tA (-1) de 1 0 0 fm fk fa fc ft ff_12 fb fi]) H := hP
        have hD : va_D A (List.flatten [bMo g o a th hi ac tp ba en tA (-1) de 1 0 0 fm fk fa fc ft ff_12 fb fi]) := hD
        refine lv_aload_n hx hb dX12_turnsBy_145 rfl (lv_at hl 1 rfl) ?_
        refine lv_sipush (v := 379) hx hb dX12_turnsBy_146 (by decide) ?_
        refine va_put (D := g.1) (ci := 10) (v := .int 379) (ty := .int) (C := RX12) (T := TX12) (N := 20) hx hb hts izRX12 tyX12 tyX12_ok nmX12 hown hK hP hD hS 0 rfl rfl 9 (by decide) (hts _ k876) (fun _ h9 => h9) rfl (by decide +kernel) rfl rfl (Nat.le_of_ble_eq_true rfl) dX12_turnsBy_149 (fun H locs hP hD hS => ?_)
        have hP : va_P g.1 vwCl (List.flatten [bMo g o a th hi ac tp 379 en tA (-1) de 1 0 0 fm fk fa fc ft ff_12 fb fi]) H := hP
        have hD : va_D A (List.flatten [bMo g o a th hi ac tp 379 en tA (-1) de 1 0 0 fm fk fa fc ft ff_12 fb fi]) := hD
        refine lv_aload_n hx hb dX12_turnsBy_152 rfl (lv_at hl 1 rfl) ?_
        refine lv_aload_n hx hb dX12_turnsBy_153 rfl (lv_at hl 1 rfl) ?_
        refine va_get (D := g.1) (ci := 10) (v := .ref (a 0)) (C := RX12) (T := TX12) (N := 20) hx hb hts izRX12 hown hK hP 0 rfl rfl 1 (by decide) (hts _ k815) (fun _ h9 => h9) rfl dX12_turnsBy_154 ?_
        refine lv_iconst (v := 2) hx hb dX12_turnsBy_157 (by decide) ?_
        refine va_iald hx hb hK hP 1 0 rfl rfl (zin rfl) dX12_turnsBy_158 ?_
        refine ztop (r := (fm 2)) rfl ?_
        refine va_put (D := g.1) (ci := 10) (v := .int (fm 2)) (ty := .int) (C := RX12) (T := TX12) (N := 20) hx hb hts izRX12 tyX12 tyX12_ok nmX12 hown hK hP hD hS 0 rfl rfl 10 (by decide) (hts _ k879) (fun _ h9 => h9) rfl (by decide +kernel) rfl rfl (Nat.le_of_ble_eq_true rfl) dX12_turnsBy_159 (fun H locs hP hD hS => ?_)
        have hP : va_P g.1 vwCl (List.flatten [bMo g o a th hi ac tp 379 (fm 2) tA (-1) de 1 0 0 fm fk fa fc ft ff_12 fb fi]) H := hP
        have hD : va_D A (List.flatten [bMo g o a th hi ac tp 379 (fm 2) tA (-1) de 1 0 0 fm fk fa fc ft ff_12 fb fi]) := hD
        refine lv_aload_n hx hb dX12_turnsBy_162 rfl (lv_at hl 1 rfl) ?_
        refine lv_iconst (v := 0) hx hb dX12_turnsBy_163 (by decide) ?_
        refine va_put (D := g.1) (ci := 10) (v := .int 0) (ty := .int) (C := RX12) (T := TX12) (N := 20) hx hb hts izRX12 tyX12 tyX12_ok nmX12 hown hK hP hD hS 0 rfl rfl 11 (by decide) (hts _ k878) (fun _ h9 => h9) rfl (by decide +kernel) rfl rfl (Nat.le_of_ble_eq_true rfl) dX12_turnsBy_164 (fun H locs hP hD hS => ?_)
        have hP : va_P g.1 vwCl (List.flatten [bMo g o a th hi ac tp 379 (fm 2) 0 (-1) de 1 0 0 fm fk fa fc ft ff_12 fb fi]) H := hP
        have hD : va_D A (List.flatten [bMo g o a th hi ac tp 379 (fm 2) 0 (-1) de 1 0 0 fm fk fa fc ft ff_12 fb fi]) := hD
        refine lv_aload_n hx hb dX12_turnsBy_167 rfl (lv_at hl 1 rfl) ?_
        refine lv_iconst (v := 0) hx hb dX12_turnsBy_168 (by decide) ?_
        refine va_put (D := g.1) (ci := 10) (v := .int 0) (ty := .int) (C := RX12) (T := TX12) (N := 20) hx hb hts izRX12 tyX12 tyX12_ok nmX12 hown hK hP hD hS 0 rfl rfl 13 (by decide) (hts _ k933) (fun _ h9 => h9) rfl (by decide +kernel) rfl rfl (Nat.le_of_ble_eq_true rfl) dX12_turnsBy_169 (fun H locs hP hD hS => ?_)
        have hP : va_P g.1 vwCl (List.flatten [bMo g o a th hi ac tp 379 (fm 2) 0 (-1) 0 1 0 0 fm fk fa fc ft ff_12 fb fi]) H := hP
        have hD : va_D A (List.flatten [bMo g o a th hi ac tp 379 (fm 2) 0 (-1) 0 1 0 0 fm fk fa fc ft ff_12 fb fi]) := hD
        obtain ⟨tx, htx, hlw⟩ := zLm_t hL (by omega)
        have hff : ∀ k9 : Nat, k9 < 6 → ff_12 k9 = (zEnvC (zV fm) (fm 3).toInt.toNat x.toInt.toNat (zMean (zV fm) (fm 3).toInt.toNat) (zPop (zWks (zV fm) (fm 4).toInt.toNat 1)) (fm 8)) k9 := zff eff_2 eff_4 eff_6 eff_9 eff_11 eff_12 ((znat b_x.1).trans (zE_0 _ _ _ _ _ _).symm) (zE_1 _ _ _ _ _ _).symm (zE_2 _ _ _ _ _ _).symm (zE_3 _ _ _ _ _ _).symm (zE_4 _ _ _ _ _ _).symm (zE_5 _ _ _ _ _ _).symm
        have hdr : (1 : Int32) = zBi (zNz ((zEnvC (zV fm) (fm 3).toInt.toNat x.toInt.toNat (zMean (zV fm) (fm 3).toInt.toNat) (zPop (zWks (zV fm) (fm 4).toInt.toNat 1)) (fm 8)) 6)) := zhd1 (by omega)
        have how : (0 : Int32) = zBi (zNz ((zEnvC (zV fm) (fm 3).toInt.toNat x.toInt.toNat (zMean (zV fm) (fm 3).toInt.toNat) (zPop (zWks (zV fm) (fm 4).toInt.toNat 1)) (fm 8)) 7)) := zho0 (by omega)
        have hw9 := hlw (zEnvC (zV fm) (fm 3).toInt.toNat x.toInt.toNat (zMean (zV fm) (fm 3).toInt.toNat) (zPop (zWks (zV fm) (fm 4).toInt.toNat 1)) (fm 8))
        have hen9 := rM2 rfm
        refine lv_aload_n hx hb dX12_turnsBy_172 rfl (lv_at hl 1 rfl) ?_
        refine lv_iconst (v := 1) hx hb dX12_turnsBy_173 (by decide) ?_
        have hL0 : (0 : Int32).toInt = 0 := by decide
        refine mcallV' (g := g) (q0 := 0) (ci := 10) (As := [.int 1]) (rest := []) St hK hT hA hP hD hS hl.1 [0] [] rfl rfl rfl (m_readV l g o a th hi ac tp (fm 2) 0 1 0 0 fm fk fa fc ft ff_12 fb fi tx (zEnvC (zV fm) (fm 3).toInt.toNat x.toInt.toNat (zMean (zV fm) (fm 3).toInt.toNat) (zPop (zWks (zV fm) (fm 4).toInt.toNat 1)) (fm 8)) (L (zEnvC (zV fm) (fm 3).toInt.toNat x.toInt.toNat (zMean (zV fm) (fm 3).toInt.toNat) (zPop (zWks (zV fm) (fm 4).toInt.toNat 1)) (fm 8))) hen9 (by rw [zi0]; omega) (by decide) hff hdr how (zLw0 hw9) htx) (cwV 1 hts (zgL (zl4 k981 k982 k983 k839) k971) rfl rfl rfl (by decide +kernel) ⟨Nat.le_of_ble_eq_true rfl, Nat.le_of_ble_eq_true rfl⟩) rfl rfl rfl rfl (Nat.le_of_ble_eq_true rfl) dX12_turnsBy_174 ⟨(Nat.le_of_ble_eq_true rfl), (Nat.le_of_ble_eq_true rfl)⟩ (fun u_ H locs hq37 hP hD hS => ?_)
        obtain ⟨at2_34, tU2_35, q_36⟩ := u_
        replace hq37 : (0 ≤ at2_34.toInt ∧ at2_34.toInt ≤ (fm 2).toInt + 7 - 0) ∧ ((0 : Int32).toInt ≤ at2_34.toInt) ∧ (tU2_35 = (L (zEnvC (zV fm) (fm 3).toInt.toNat x.toInt.toNat (zMean (zV fm) (fm 3).toInt.toNat) (zPop (zWks (zV fm) (fm 4).toInt.toNat 1)) (fm 8)))) := hq37
        have hP : va_P g.1 vwCl (List.flatten [bMo g o a th hi ac tp 379 (fm 2) at2_34 (-1) 0 1 0 tU2_35 fm fk fa fc ft ff_12 fb fi]) H := hP
        have hD : va_D A (List.flatten [bMo g o a th hi ac tp 379 (fm 2) at2_34 (-1) 0 1 0 tU2_35 fm fk fa fc ft ff_12 fb fi]) := hD
        refine W.widen (k := 0) (n := 0) (Nat.le_of_ble_eq_true rfl) (Nat.le_of_ble_eq_true rfl) ?_
        refine W.eq (g2 := F0 m 177 ls [.int q_36]) rfl ?_
        obtain ⟨hq37_0, hq37_1, hq37_2⟩ := hq37
        refine lv_istore_n (lv' := [(3, .int q_36), (2, .int fl), (0, .ref o), (1, .int x)]) hx hb dX12_turnsBy_177 rfl hl (by decide) rfl (fun ls hl => ?_)
        refine lv_aload_n hx hb dX12_turnsBy_178 rfl (lv_at hl 2 rfl) ?_
        refine lv_iload_n hx hb dX12_turnsBy_179 rfl (lv_at hl 1 rfl) ?_
        refine va_put (D := g.1) (ci := 10) (v := .int fl) (ty := .int) (C := RX12) (T := TX12) (N := 20) hx hb hts izRX12 tyX12 tyX12_ok nmX12 hown hK hP hD hS 0 rfl rfl 12 (by decide) (hts _ k820) (fun _ h9 => h9) rfl (by decide +kernel) rfl rfl (Nat.le_of_ble_eq_true rfl) dX12_turnsBy_180 (fun H locs hP hD hS => ?_)
        have hP : va_P g.1 vwCl (List.flatten [bMo g o a th hi ac tp 379 (fm 2) at2_34 fl 0 1 0 tU2_35 fm fk fa fc ft ff_12 fb fi]) H := hP
        have hD : va_D A (List.flatten [bMo g o a th hi ac tp 379 (fm 2) at2_34 fl 0 1 0 tU2_35 fm fk fa fc ft ff_12 fb fi]) := hD
        refine lv_aload_n hx hb dX12_turnsBy_183 rfl (lv_at hl 2 rfl) ?_
        refine va_get (D := g.1) (ci := 10) (v := .int tU2_35) (C := RX12) (T := TX12) (N := 20) hx hb hts izRX12 hown hK hP 0 rfl rfl 17 (by decide) (hts _ k963) (fun _ h9 => h9) rfl dX12_turnsBy_184 ?_
        refine ztop (r := (L (zEnv (zV fm) (fm 3).toInt.toNat (fm 4).toInt.toNat (fm 8) x.toInt.toNat))) (show _ = L (zEnvC (zV fm) (fm 3).toInt.toNat x.toInt.toNat (zMean (zV fm) (fm 3).toInt.toNat) (zPop (zWks (zV fm) (fm 4).toInt.toNat 1)) (fm 8)) from hq37_2) ?_
        have hP : va_P g.1 vwCl (List.flatten [bMo g o a th hi ac tp 379 (fm 2) at2_34 fl 0 1 0 tU2_35 fm fk fa fc ft ff_12 fb fi]) H := hP
        have hD : va_D A (List.flatten [bMo g o a th hi ac tp 379 (fm 2) at2_34 fl 0 1 0 tU2_35 fm fk fa fc ft ff_12 fb fi]) := hD
        exact mret_i hx hb hr hlocks hS (Nat.le_of_ble_eq_true rfl) (Nat.le_of_ble_eq_true rfl) dX12_turnsBy_187 ((379 : Int32), fm 2, at2_34, (0 : Int32), (1 : Int32), (0 : Int32), tU2_35, ff_12) rfl (show (0 ≤ (0 : Int32).toInt ∧ (0 : Int32).toInt ≤ 1) ∧ (0 ≤ (1 : Int32).toInt ∧ (1 : Int32).toInt ≤ 1) from ⟨(by first | assumption | omega | decide | exact rfl | exact zb01 (by omega) | exact Or.inl (by decide) | exact Or.inr (by first | omega | decide)), (by first | assumption | omega | decide | exact rfl | exact zb01 (by omega) | exact Or.inl (by decide) | exact Or.inr (by first | omega | decide))⟩) hP hD
      · skip
        have c38 : 0 < (zV fm 2 x.toInt.toNat).toInt := zlti (Int32.not_le.mp cb9) (by decide) rfl
        have n39 : 1 ≤ (zV fm 2 x.toInt.toNat).toInt := zL2 (a := 0) c38 (Int.le_refl _) (by decide)
        refine lv_iconst (v := 1) hx hb dX12_turnsBy_122 (by decide) ?_
        refine lv_goto (tgt := 127) hx hb dX12_turnsBy_123 (by decide) ?_
        refine va_put (D := g.1) (ci := 10) (v := .int 1) (ty := .boolean) (C := RX12) (T := TX12) (N := 20) hx hb hts izRX12 tyX12 tyX12_ok nmX12 hown hK hP hD hS 0 rfl rfl 16 (by decide) (hts _ k943) (fun _ h9 => h9) rfl (by decide +kernel) rfl rfl (Nat.le_of_ble_eq_true rfl) dX12_turnsBy_127 (fun H locs hP hD hS => ?_)
        have hP : va_P g.1 vwCl (List.flatten [bMo g o a th hi ac tp ba en tA fl de 1 1 tU fm fk fa fc ft ff_12 fb fi]) H := hP
        have hD : va_D A (List.flatten [bMo g o a th hi ac tp ba en tA fl de 1 1 tU fm fk fa fc ft ff_12 fb fi]) := hD
        refine lv_aload_n hx hb dX12_turnsBy_130 rfl (lv_at hl 0 rfl) ?_
        refine lv_iconst (v := 0) hx hb dX12_turnsBy_131 (by decide) ?_
        refine va_put (D := g.1) (ci := 10) (v := .int 0) (ty := .int) (C := RX12) (T := TX12) (N := 20) hx hb hts izRX12 tyX12 tyX12_ok nmX12 hown hK hP hD hS 0 rfl rfl 17 (by decide) (hts _ k963) (fun _ h9 => h9) rfl (by decide +kernel) rfl rfl (Nat.le_of_ble_eq_true rfl) dX12_turnsBy_132 (fun H locs hP hD hS => ?_)
        have hP : va_P g.1 vwCl (List.flatten [bMo g o a th hi ac tp ba en tA fl de 1 1 0 fm fk fa fc ft ff_12 fb fi]) H := hP
        have hD : va_D A (List.flatten [bMo g o a th hi ac tp ba en tA fl de 1 1 0 fm fk fa fc ft ff_12 fb fi]) := hD
        refine lv_aload_n hx hb dX12_turnsBy_135 rfl (lv_at hl 0 rfl) ?_
        refine va_get (D := g.1) (ci := 10) (v := .int fl) (C := RX12) (T := TX12) (N := 20) hx hb hts izRX12 hown hK hP 0 rfl rfl 12 (by decide) (hts _ k820) (fun _ h9 => h9) rfl dX12_turnsBy_136 ?_
        refine lv_istore_n (lv' := [(2, .int fl), (0, .ref o), (1, .int x)]) hx hb dX12_turnsBy_139 rfl hl (by decide) rfl (fun ls hl => ?_)
        refine lv_aload_n hx hb dX12_turnsBy_140 rfl (lv_at hl 1 rfl) ?_
        refine lv_iconst (v := (-1)) hx hb dX12_turnsBy_141 (by decide) ?_
        refine va_put (D := g.1) (ci := 10) (v := .int (-1)) (ty := .int) (C := RX12) (T := TX12) (N := 20) hx hb hts izRX12 tyX12 tyX12_ok nmX12 hown hK hP hD hS 0 rfl rfl 12 (by decide) (hts _ k820) (fun _ h9 => h9) rfl (by decide +kernel) rfl rfl (Nat.le_of_ble_eq_true rfl) dX12_turnsBy_142 (fun H locs hP hD hS => ?_)
        have hP : va_P g.1 vwCl (List.flatten [bMo g o a th hi ac tp ba en tA (-1) de 1 1 0 fm fk fa fc ft ff_12 fb fi]) H := hP
        have hD : va_D A (List.flatten [bMo g o a th hi ac tp ba en tA (-1) de 1 1 0 fm fk fa fc ft ff_12 fb fi]) := hD
        refine lv_aload_n hx hb dX12_turnsBy_145 rfl (lv_at hl 1 rfl) ?_
        refine lv_sipush (v := 379) hx hb dX12_turnsBy_146 (by decide) ?_
        refine va_put (D := g.1) (ci := 10) (v := .int 379) (ty := .int) (C := RX12) (T := TX12) (N := 20) hx hb hts izRX12 tyX12 tyX12_ok nmX12 hown hK hP hD hS 0 rfl rfl 9 (by decide) (hts _ k876) (fun _ h9 => h9) rfl (by decide +kernel) rfl rfl (Nat.le_of_ble_eq_true rfl) dX12_turnsBy_149 (fun H locs hP hD hS => ?_)
        have hP : va_P g.1 vwCl (List.flatten [bMo g o a th hi ac tp 379 en tA (-1) de 1 1 0 fm fk fa fc ft ff_12 fb fi]) H := hP
        have hD : va_D A (List.flatten [bMo g o a th hi ac tp 379 en tA (-1) de 1 1 0 fm fk fa fc ft ff_12 fb fi]) := hD
        refine lv_aload_n hx hb dX12_turnsBy_152 rfl (lv_at hl 1 rfl) ?_
        refine lv_aload_n hx hb dX12_turnsBy_153 rfl (lv_at hl 1 rfl) ?_
        refine va_get (D := g.1) (ci := 10) (v := .ref (a 0)) (C := RX12) (T := TX12) (N := 20) hx hb hts izRX12 hown hK hP 0 rfl rfl 1 (by decide) (hts _ k815) (fun _ h9 => h9) rfl dX12_turnsBy_154 ?_
        refine lv_iconst (v := 2) hx hb dX12_turnsBy_157 (by decide) ?_
        refine va_iald hx hb hK hP 1 0 rfl rfl (zin rfl) dX12_turnsBy_158 ?_
        refine ztop (r := (fm 2)) rfl ?_
        refine va_put (D := g.1) (ci := 10) (v := .int (fm 2)) (ty := .int) (C := RX12) (T := TX12) (N := 20) hx hb hts izRX12 tyX12 tyX12_ok nmX12 hown hK hP hD hS 0 rfl rfl 10 (by decide) (hts _ k879) (fun _ h9 => h9) rfl (by decide +kernel) rfl rfl (Nat.le_of_ble_eq_true rfl) dX12_turnsBy_159 (fun H locs hP hD hS => ?_)
        have hP : va_P g.1 vwCl (List.flatten [bMo g o a th hi ac tp 379 (fm 2) tA (-1) de 1 1 0 fm fk fa fc ft ff_12 fb fi]) H := hP
        have hD : va_D A (List.flatten [bMo g o a th hi ac tp 379 (fm 2) tA (-1) de 1 1 0 fm fk fa fc ft ff_12 fb fi]) := hD
        refine lv_aload_n hx hb dX12_turnsBy_162 rfl (lv_at hl 1 rfl) ?_
        refine lv_iconst (v := 0) hx hb dX12_turnsBy_163 (by decide) ?_
        refine va_put (D := g.1) (ci := 10) (v := .int 0) (ty := .int) (C := RX12) (T := TX12) (N := 20) hx hb hts izRX12 tyX12 tyX12_ok nmX12 hown hK hP hD hS 0 rfl rfl 11 (by decide) (hts _ k878) (fun _ h9 => h9) rfl (by decide +kernel) rfl rfl (Nat.le_of_ble_eq_true rfl) dX12_turnsBy_164 (fun H locs hP hD hS => ?_)
        have hP : va_P g.1 vwCl (List.flatten [bMo g o a th hi ac tp 379 (fm 2) 0 (-1) de 1 1 0 fm fk fa fc ft ff_12 fb fi]) H := hP
        have hD : va_D A (List.flatten [bMo g o a th hi ac tp 379 (fm 2) 0 (-1) de 1 1 0 fm fk fa fc ft ff_12 fb fi]) := hD
        refine lv_aload_n hx hb dX12_turnsBy_167 rfl (lv_at hl 1 rfl) ?_
        refine lv_iconst (v := 0) hx hb dX12_turnsBy_168 (by decide) ?_
        refine va_put (D := g.1) (ci := 10) (v := .int 0) (ty := .int) (C := RX12) (T := TX12) (N := 20) hx hb hts izRX12 tyX12 tyX12_ok nmX12 hown hK hP hD hS 0 rfl rfl 13 (by decide) (hts _ k933) (fun _ h9 => h9) rfl (by decide +kernel) rfl rfl (Nat.le_of_ble_eq_true rfl) dX12_turnsBy_169 (fun H locs hP hD hS => ?_)
        have hP : va_P g.1 vwCl (List.flatten [bMo g o a th hi ac tp 379 (fm 2) 0 (-1) 0 1 1 0 fm fk fa fc ft ff_12 fb fi]) H := hP
        have hD : va_D A (List.flatten [bMo g o a th hi ac tp 379 (fm 2) 0 (-1) 0 1 1 0 fm fk fa fc ft ff_12 fb fi]) := hD
        obtain ⟨tx, htx, hlw⟩ := zLm_t hL (by omega)
        have hff : ∀ k9 : Nat, k9 < 6 → ff_12 k9 = (zEnvC (zV fm) (fm 3).toInt.toNat x.toInt.toNat (zMean (zV fm) (fm 3).toInt.toNat) (zPop (zWks (zV fm) (fm 4).toInt.toNat 1)) (fm 8)) k9 := zff eff_2 eff_4 eff_6 eff_9 eff_11 eff_12 ((znat b_x.1).trans (zE_0 _ _ _ _ _ _).symm) (zE_1 _ _ _ _ _ _).symm (zE_2 _ _ _ _ _ _).symm (zE_3 _ _ _ _ _ _).symm (zE_4 _ _ _ _ _ _).symm (zE_5 _ _ _ _ _ _).symm
        have hdr : (1 : Int32) = zBi (zNz ((zEnvC (zV fm) (fm 3).toInt.toNat x.toInt.toNat (zMean (zV fm) (fm 3).toInt.toNat) (zPop (zWks (zV fm) (fm 4).toInt.toNat 1)) (fm 8)) 6)) := zhd1 (by omega)
        have how : (1 : Int32) = zBi (zNz ((zEnvC (zV fm) (fm 3).toInt.toNat x.toInt.toNat (zMean (zV fm) (fm 3).toInt.toNat) (zPop (zWks (zV fm) (fm 4).toInt.toNat 1)) (fm 8)) 7)) := zho1 (by omega)
        have hw9 := hlw (zEnvC (zV fm) (fm 3).toInt.toNat x.toInt.toNat (zMean (zV fm) (fm 3).toInt.toNat) (zPop (zWks (zV fm) (fm 4).toInt.toNat 1)) (fm 8))
        have hen9 := rM2 rfm
        refine lv_aload_n hx hb dX12_turnsBy_172 rfl (lv_at hl 1 rfl) ?_
        refine lv_iconst (v := 1) hx hb dX12_turnsBy_173 (by decide) ?_
        have hL0 : (0 : Int32).toInt = 0 := by decide
        refine mcallV' (g := g) (q0 := 0) (ci := 10) (As := [.int 1]) (rest := []) St hK hT hA hP hD hS hl.1 [0] [] rfl rfl rfl (m_readV l g o a th hi ac tp (fm 2) 0 1 1 0 fm fk fa fc ft ff_12 fb fi tx (zEnvC (zV fm) (fm 3).toInt.toNat x.toInt.toNat (zMean (zV fm) (fm 3).toInt.toNat) (zPop (zWks (zV fm) (fm 4).toInt.toNat 1)) (fm 8)) (L (zEnvC (zV fm) (fm 3).toInt.toNat x.toInt.toNat (zMean (zV fm) (fm 3).toInt.toNat) (zPop (zWks (zV fm) (fm 4).toInt.toNat 1)) (fm 8))) hen9 (by rw [zi0]; omega) (by decide) hff hdr how (zLw0 hw9) htx) (cwV 1 hts (zgL (zl4 k981 k982 k983 k839) k971) rfl rfl rfl (by decide +kernel) ⟨Nat.le_of_ble_eq_true rfl, Nat.le_of_ble_eq_true rfl⟩) rfl rfl rfl rfl (Nat.le_of_ble_eq_true rfl) dX12_turnsBy_174 ⟨(Nat.le_of_ble_eq_true rfl), (Nat.le_of_ble_eq_true rfl)⟩ (fun u_ H locs hq43 hP hD hS => ?_)
        obtain ⟨at2_40, tU2_41, q_42⟩ := u_
        replace hq43 : (0 ≤ at2_40.toInt ∧ at2_40.toInt ≤ (fm 2).toInt + 7 - 0) ∧ ((0 : Int32).toInt ≤ at2_40.toInt) ∧ (tU2_41 = (L (zEnvC (zV fm) (fm 3).toInt.toNat x.toInt.toNat (zMean (zV fm) (fm 3).toInt.toNat) (zPop (zWks (zV fm) (fm 4).toInt.toNat 1)) (fm 8)))) := hq43
        have hP : va_P g.1 vwCl (List.flatten [bMo g o a th hi ac tp 379 (fm 2) at2_40 (-1) 0 1 1 tU2_41 fm fk fa fc ft ff_12 fb fi]) H := hP
        have hD : va_D A (List.flatten [bMo g o a th hi ac tp 379 (fm 2) at2_40 (-1) 0 1 1 tU2_41 fm fk fa fc ft ff_12 fb fi]) := hD
        refine W.widen (k := 0) (n := 0) (Nat.le_of_ble_eq_true rfl) (Nat.le_of_ble_eq_true rfl) ?_
        refine W.eq (g2 := F0 m 177 ls [.int q_42]) rfl ?_
        obtain ⟨hq43_0, hq43_1, hq43_2⟩ := hq43
        refine lv_istore_n (lv' := [(3, .int q_42), (2, .int fl), (0, .ref o), (1, .int x)]) hx hb dX12_turnsBy_177 rfl hl (by decide) rfl (fun ls hl => ?_)
        refine lv_aload_n hx hb dX12_turnsBy_178 rfl (lv_at hl 2 rfl) ?_
        refine lv_iload_n hx hb dX12_turnsBy_179 rfl (lv_at hl 1 rfl) ?_
        refine va_put (D := g.1) (ci := 10) (v := .int fl) (ty := .int) (C := RX12) (T := TX12) (N := 20) hx hb hts izRX12 tyX12 tyX12_ok nmX12 hown hK hP hD hS 0 rfl rfl 12 (by decide) (hts _ k820) (fun _ h9 => h9) rfl (by decide +kernel) rfl rfl (Nat.le_of_ble_eq_true rfl) dX12_turnsBy_180 (fun H locs hP hD hS => ?_)
        have hP : va_P g.1 vwCl (List.flatten [bMo g o a th hi ac tp 379 (fm 2) at2_40 fl 0 1 1 tU2_41 fm fk fa fc ft ff_12 fb fi]) H := hP
        have hD : va_D A (List.flatten [bMo g o a th hi ac tp 379 (fm 2) at2_40 fl 0 1 1 tU2_41 fm fk fa fc ft ff_12 fb fi]) := hD
        refine lv_aload_n hx hb dX12_turnsBy_183 rfl (lv_at hl 2 rfl) ?_
        refine va_get (D := g.1) (ci := 10) (v := .int tU2_41) (C := RX12) (T := TX12) (N := 20) hx hb hts izRX12 hown hK hP 0 rfl rfl 17 (by decide) (hts _ k963) (fun _ h9 => h9) rfl dX12_turnsBy_184 ?_
        refine ztop (r := (L (zEnv (zV fm) (fm 3).toInt.toNat (fm 4).toInt.toNat (fm 8) x.toInt.toNat))) (show _ = L (zEnvC (zV fm) (fm 3).toInt.toNat x.toInt.toNat (zMean (zV fm) (fm 3).toInt.toNat) (zPop (zWks (zV fm) (fm 4).toInt.toNat 1)) (fm 8)) from hq43_2) ?_
        have hP : va_P g.1 vwCl (List.flatten [bMo g o a th hi ac tp 379 (fm 2) at2_40 fl 0 1 1 tU2_41 fm fk fa fc ft ff_12 fb fi]) H := hP
        have hD : va_D A (List.flatten [bMo g o a th hi ac tp 379 (fm 2) at2_40 fl 0 1 1 tU2_41 fm fk fa fc ft ff_12 fb fi]) := hD
        exact mret_i hx hb hr hlocks hS (Nat.le_of_ble_eq_true rfl) (Nat.le_of_ble_eq_true rfl) dX12_turnsBy_187 ((379 : Int32), fm 2, at2_40, (0 : Int32), (1 : Int32), (1 : Int32), tU2_41, ff_12) rfl (show (0 ≤ (1 : Int32).toInt ∧ (1 : Int32).toInt ≤ 1) ∧ (0 ≤ (1 : Int32).toInt ∧ (1 : Int32).toInt ≤ 1) from ⟨(by first | assumption | omega | decide | exact rfl | exact zb01 (by omega) | exact Or.inl (by decide) | exact Or.inr (by first | omega | decide)), (by first | assumption | omega | decide | exact rfl | exact zb01 (by omega) | exact Or.inl (by decide) | exact Or.inr (by first | omega | decide))⟩) hP hD
  · skip
    have c44 : (fm 1).toInt = (-1) := zeq cb9 rfl (by decide)
    have n45 : (-1) ≤ (fm 1).toInt := Int.le_trans (Int.le_refl _) (Int.le_of_eq c44.symm)
    have n46 : (fm 1).toInt ≤ (-1) := Int.le_trans (Int.le_of_eq c44) (Int.le_refl _)
    refine lv_aload_n hx hb dX12_turnsBy_10 rfl (lv_at hl 0 rfl) ?_
    refine lv_iload_n hx hb dX12_turnsBy_11 rfl (lv_at hl 1 rfl) ?_
    refine lv_iconst (v := 3) hx hb dX12_turnsBy_12 (by decide) ?_
    refine mcallV' (g := g) (q0 := 0) (ci := 10) (As := [.int x, .int 3]) (rest := []) St hK hT hA hP hD hS hl.1 [0] [] rfl rfl rfl (m_of4F l g o a th hi ac tp ba en tA fl de iD iO tU fm fk fa fc ft ff fb fi x b_x) (cwV 2 hts (zgL (zl4 k842 k843 k844 k839) k831) rfl rfl rfl (by decide +kernel) ⟨Nat.le_of_ble_eq_true rfl, Nat.le_of_ble_eq_true rfl⟩) rfl rfl rfl rfl (Nat.le_of_ble_eq_true rfl) dX12_turnsBy_13 ⟨(Nat.le_of_ble_eq_true rfl), (Nat.le_of_ble_eq_true rfl)⟩ (fun _u H locs hq47 hP hD hS => ?_)
    have hP : va_P g.1 vwCl (List.flatten [bMo g o a th hi ac tp ba en tA fl de iD iO tU fm fk fa fc ft ff fb fi]) H := hP
    have hD : va_D A (List.flatten [bMo g o a th hi ac tp ba en tA fl de iD iO tU fm fk fa fc ft ff fb fi]) := hD
    refine W.widen (k := 0) (n := 0) (Nat.le_of_ble_eq_true rfl) (Nat.le_of_ble_eq_true rfl) ?_
    refine W.eq (g2 := F0 m 16 ls [.int (zV fm 4 x.toInt.toNat)]) rfl ?_
    refine lv_iconst (v := 1) hx hb dX12_turnsBy_16 (by decide) ?_
    refine lv_icmp_ne (tgt := 24) hx hb dX12_turnsBy_17 (by decide) (fun cb9 => ?_) (fun cb9 => ?_)
    · skip
      have c48 : ¬ (zV fm 4 x.toInt.toNat).toInt = 1 := zne cb9 rfl (by decide)
      refine lv_iconst (v := 0) hx hb dX12_turnsBy_24 (by decide) ?_
      refine ztop (r := (L (zEnv (zV fm) (fm 3).toInt.toNat (fm 4).toInt.toNat (fm 8) x.toInt.toNat))) (show _ = L (zEnvC (zV fm) (fm 3).toInt.toNat x.toInt.toNat (zMean (zV fm) (fm 3).toInt.toNat) (zPop (zWks (zV fm) (fm 4).toInt.toNat 1)) (fm 8)) from zdr0 hL (by omega) (by omega)) ?_
      have hP : va_P g.1 vwCl (List.flatten [bMo g o a th hi ac tp ba en tA fl de iD iO tU fm fk fa fc ft ff fb fi]) H := hP
      have hD : va_D A (List.flatten [bMo g o a th hi ac tp ba en tA fl de iD iO tU fm fk fa fc ft ff fb fi]) := hD
      exact mret_i hx hb hr hlocks hS (Nat.le_of_ble_eq_true rfl) (Nat.le_of_ble_eq_true rfl) dX12_turnsBy_25 (ba, en, tA, de, iD, iO, tU, ff) rfl (show (0 ≤ iO.toInt ∧ iO.toInt ≤ 1) ∧ (0 ≤ iD.toInt ∧ iD.toInt ≤ 1) from ⟨hiO, hiD⟩) hP hD
    · skip
      have c49 : (zV fm 4 x.toInt.toNat).toInt = 1 := zeq cb9 rfl (by decide)
      have n50 : 1 ≤ (zV fm 4 x.toInt.toNat).toInt := Int.le_trans (Int.le_refl _) (Int.le_of_eq c49.symm)
      have n51 : (zV fm 4 x.toInt.toNat).toInt ≤ 1 := Int.le_trans (Int.le_of_eq c49) (Int.le_refl _)
      refine lv_iconst (v := (-1)) hx hb dX12_turnsBy_20 (by decide) ?_
      refine lv_goto (tgt := 25) hx hb dX12_turnsBy_21 (by decide) ?_
      refine ztop (r := (L (zEnv (zV fm) (fm 3).toInt.toNat (fm 4).toInt.toNat (fm 8) x.toInt.toNat))) (show _ = L (zEnvC (zV fm) (fm 3).toInt.toNat x.toInt.toNat (zMean (zV fm) (fm 3).toInt.toNat) (zPop (zWks (zV fm) (fm 4).toInt.toNat 1)) (fm 8)) from zdr1 hL (by omega) (by omega)) ?_
      have hP : va_P g.1 vwCl (List.flatten [bMo g o a th hi ac tp ba en tA fl de iD iO tU fm fk fa fc ft ff fb fi]) H := hP
      have hD : va_D A (List.flatten [bMo g o a th hi ac tp ba en tA fl de iD iO tU fm fk fa fc ft ff fb fi]) := hD
      exact mret_i hx hb hr hlocks hS (Nat.le_of_ble_eq_true rfl) (Nat.le_of_ble_eq_true rfl) dX12_turnsBy_25 (ba, en, tA, de, iD, iO, tU, ff) rfl (show (0 ≤ iO.toInt ∧ iO.toInt ≤ 1) ∧ (0 ≤ iD.toInt ∧ iD.toInt ≤ 1) from ⟨hiO, hiD⟩) hP hD
set_option maxRecDepth 100000 in
set_option maxHeartbeats 4000000 in
theorem m_goes0G (l : Launch) (g : zG) (o : Nat) (a : Nat → Nat) (th : Int32) (hi : Int32) (ac : Int32) (tp : Int32) (ba : Int32) (en : Int32) (tA : Int32) (fl : Int32) (de : Int32) (iD : Int32) (iO : Int32) (tU : Int32) (fm : Nat → Int32) (fk : Nat → Int32) (fa : Nat → Int32) (fc : Nat → Int32) (ft : Nat → Int32) (ff : Nat → Int32) (fb : Nat → Int32) (fi : Nat → Int32) (n : Int32) (L : zLw) (rfm : rM fm) (hiD : 0 ≤ iD.toInt ∧ iD.toInt ≤ 1) (hiO : 0 ≤ iO.toInt ∧ iO.toInt ≤ 1) (b_n : 0 ≤ n.toInt ∧ n.toInt ≤ 100) (hrg : zRg (zV fm)) (hL : zLm L fm) : zM' g l yX12_goes (Cond.code yX12_goes cX12_goes 6 (some .int) :: zB) ({ frames := 32, cells := 0, slots := 0, locals := 711 } : Room) [.ref o, .int n, .int 0] [bMo g o a th hi ac tp ba en tA fl de iD iO tU fm fk fa fc ft ff fb fi] (fun u : Int32 × Int32 × Int32 × Int32 × Int32 × Int32 × Int32 × (Nat → Int32) × (Nat → Int32) × (Nat → Int32) × Int32 => (fun (ba2 : Int32) (en2 : Int32) (at2 : Int32) (de2 : Int32) (iD2 : Int32) (iO2 : Int32) (tU2 : Int32) (ff2 : Nat → Int32) (fm2 : Nat → Int32) (fb2 : Nat → Int32) (q : Int32) => some (.int q)) (u.1) (u.2.1) (u.2.2.1) (u.2.2.2.1) (u.2.2.2.2.1) (u.2.2.2.2.2.1) (u.2.2.2.2.2.2.1) (u.2.2.2.2.2.2.2.1) (u.2.2.2.2.2.2.2.2.1) (u.2.2.2.2.2.2.2.2.2.1) (u.2.2.2.2.2.2.2.2.2.2)) (fun u : Int32 × Int32 × Int32 × Int32 × Int32 × Int32 × Int32 × (Nat → Int32) × (Nat → Int32) × (Nat → Int32) × Int32 => (fun (ba2 : Int32) (en2 : Int32) (at2 : Int32) (de2 : Int32) (iD2 : Int32) (iO2 : Int32) (tU2 : Int32) (ff2 : Nat → Int32) (fm2 : Nat → Int32) (fb2 : Nat → Int32) (q : Int32) => (rM fm2) ∧ (0 ≤ iO2.toInt ∧ iO2.toInt ≤ 1) ∧ (0 ≤ iD2.toInt ∧ iD2.toInt ≤ 1) ∧ (zNR ((fm2 5, fm2 8, fm2 10, zV fm2), q) (zNds L (fm 3).toInt.toNat (fm 4).toInt.toNat (fm 7) 0 n.toInt.toNat (fm 5, fm 8, fm 10, zV fm))) ∧ (zGk fm fm2)) (u.1) (u.2.1) (u.2.2.1) (u.2.2.2.1) (u.2.2.2.2.1) (u.2.2.2.2.2.1) (u.2.2.2.2.2.2.1) (u.2.2.2.2.2.2.2.1) (u.2.2.2.2.2.2.2.2.1) (u.2.2.2.2.2.2.2.2.2.1) (u.2.2.2.2.2.2.2.2.2.2)) (fun u : Int32 × Int32 × Int32 × Int32 × Int32 × Int32 × Int32 × (Nat → Int32) × (Nat → Int32) × (Nat → Int32) × Int32 => (fun (ba2 : Int32) (en2 : Int32) (at2 : Int32) (de2 : Int32) (iD2 : Int32) (iO2 : Int32) (tU2 : Int32) (ff2 : Nat → Int32) (fm2 : Nat → Int32) (fb2 : Nat → Int32) (q : Int32) => [bMo g o a th hi ac tp ba2 en2 at2 fl de2 iD2 iO2 tU2 fm2 fk fa fc ft ff2 fb2 fi]) (u.1) (u.2.1) (u.2.2.1) (u.2.2.2.1) (u.2.2.2.2.1) (u.2.2.2.2.2.1) (u.2.2.2.2.2.2.1) (u.2.2.2.2.2.2.2.1) (u.2.2.2.2.2.2.2.2.1) (u.2.2.2.2.2.2.2.2.2.1) (u.2.2.2.2.2.2.2.2.2.2)) := by
  refine zM'.of (cc := cX12_goes) (maxL := 6) (rt := (some .int)) (by decide) rfl (Nat.le_of_ble_eq_true rfl) ?_
  intro p e s m args below meth c A ls St hr hlocks hin hK hT hA hP hD hS hl
  obtain ⟨hx, hb, hml, hown, hts⟩ := id St
  have hl : lv_has ls 6 [(0, .ref o), (1, .int n), (2, .int 0)] := hl
  have hrm3 := rM3 rfm
  have hrm4 := rM4 rfm
  refine lv_iconst (v := 0) hx hb dX12_goes_0 (by decide) ?_
  refine lv_istore_n (lv' := [(3, .int 0), (0, .ref o), (1, .int n), (2, .int 0)]) hx hb dX12_goes_1 rfl hl (by decide) rfl (fun ls hl => ?_)
  refine lv_iconst (v := 0) hx hb dX12_goes_2 (by decide) ?_
  refine lv_istore (lv' := [(4, .int 0), (3, .int 0), (0, .ref o), (1, .int n), (2, .int 0)]) hx hb dX12_goes_3 hl (by decide) rfl (fun ls hl => ?_)
  have hl := lv_sub (l' := [(0, .ref o), (1, .int n), (2, .int 0), (3, .int 0), (4, .int 0)]) hl [2, 3, 4, 1, 0] rfl
  have LP5_20 : ∀ (kf : Nat) (x_1 : Int32) (x_2 : Int32) (x_3 : Int32) (x_4 : Int32) (x_5 : Int32) (x_6 : Int32) (x_7 : Int32) (x_8 : Int32) (x_9 : Int32) (fm_10 : Nat → Int32) (ff_11 : Nat → Int32) (fb_12 : Nat → Int32), (0 ≤ x_2.toInt ∧ x_2.toInt ≤ 100) → (0 ≤ x_7.toInt ∧ x_7.toInt ≤ 1) → (0 ≤ x_8.toInt ∧ x_8.toInt ≤ 1) → (rM fm_10) → (zNR ((fm_10 5, fm_10 8, fm_10 10, zV fm_10), x_1) (zNds L (fm 3).toInt.toNat (fm 4).toInt.toNat (fm 7) 0 x_2.toInt.toNat (fm 5, fm 8, fm 10, zV fm))) → (zGk fm fm_10) → (zRg (zV fm_10)) → (x_2.toInt ≤ n.toInt) → ∀ (H : Heap) (locs : List Loc) (ls : Array Slot), ((101 - x_2.toInt).toNat) < kf → va_P g.1 vwCl (List.flatten [bMo g o a th hi ac tp x_3 x_4 x_5 fl x_6 x_7 x_8 x_9 fm_10 fk fa fc ft ff_11 fb_12 fi]) H → va_D A (List.flatten [bMo g o a th hi ac tp x_3 x_4 x_5 fl x_6 x_7 x_8 x_9 fm_10 fk fa fc ft ff_11 fb_12 fi]) → va_S A s.heap H locs → lv_has ls 6 [(0, .ref o), (1, .int n), (2, .int 0), (3, .int x_1), (4, .int x_2)] → W p l e ({ frames := 32, cells := 0, slots := 0, locals := 711 } : Room) s m args below meth c H locs (0) (0) (zF g (fun u : Int32 × Int32 × Int32 × Int32 × Int32 × Int32 × Int32 × (Nat → Int32) × (Nat → Int32) × (Nat → Int32) × Int32 => (fun (ba2 : Int32) (en2 : Int32) (at2 : Int32) (de2 : Int32) (iD2 : Int32) (iO2 : Int32) (tU2 : Int32) (ff2 : Nat → Int32) (fm2 : Nat → Int32) (fb2 : Nat → Int32) (q : Int32) => some (.int q)) (u.1) (u.2.1) (u.2.2.1) (u.2.2.2.1) (u.2.2.2.2.1) (u.2.2.2.2.2.1) (u.2.2.2.2.2.2.1) (u.2.2.2.2.2.2.2.1) (u.2.2.2.2.2.2.2.2.1) (u.2.2.2.2.2.2.2.2.2.1) (u.2.2.2.2.2.2.2.2.2.2)) (fun u : Int32 × Int32 × Int32 × Int32 × Int32 × Int32 × Int32 × (Nat → Int32) × (Nat → Int32) × (Nat → Int32) × Int32 => (fun (ba2 : Int32) (en2 : Int32) (at2 : Int32) (de2 : Int32) (iD2 : Int32) (iO2 : Int32) (tU2 : Int32) (ff2 : Nat → Int32) (fm2 : Nat → Int32) (fb2 : Nat → Int32) (q : Int32) => (rM fm2) ∧ (0 ≤ iO2.toInt ∧ iO2.toInt ≤ 1) ∧ (0 ≤ iD2.toInt ∧ iD2.toInt ≤ 1) ∧ (zNR ((fm2 5, fm2 8, fm2 10, zV fm2), q) (zNds L (fm 3).toInt.toNat (fm 4).toInt.toNat (fm 7) 0 n.toInt.toNat (fm 5, fm 8, fm 10, zV fm))) ∧ (zGk fm fm2)) (u.1) (u.2.1) (u.2.2.1) (u.2.2.2.1) (u.2.2.2.2.1) (u.2.2.2.2.2.1) (u.2.2.2.2.2.2.1) (u.2.2.2.2.2.2.2.1) (u.2.2.2.2.2.2.2.2.1) (u.2.2.2.2.2.2.2.2.2.1) (u.2.2.2.2.2.2.2.2.2.2)) (fun u : Int32 × Int32 × Int32 × Int32 × Int32 × Int32 × Int32 × (Nat → Int32) × (Nat → Int32) × (Nat → Int32) × Int32 => (fun (ba2 : Int32) (en2 : Int32) (at2 : Int32) (de2 : Int32) (iD2 : Int32) (iO2 : Int32) (tU2 : Int32) (ff2 : Nat → Int32) (fm2 : Nat → Int32) (fb2 : Nat → Int32) (q : Int32) => [bMo g o a th hi ac tp ba2 en2 at2 fl de2 iD2 iO2 tU2 fm2 fk fa fc ft ff2 fb2 fi]) (u.1) (u.2.1) (u.2.2.1) (u.2.2.2.1) (u.2.2.2.2.1) (u.2.2.2.2.2.1) (u.2.2.2.2.2.2.1) (u.2.2.2.2.2.2.2.1) (u.2.2.2.2.2.2.2.2.1) (u.2.2.2.2.2.2.2.2.2.1) (u.2.2.2.2.2.2.2.2.2.2)) ({ frames := 32, cells := 0, slots := 0, locals := 711 } : Room) below args s A) (F0 m 5 ls []) := by
    intro kf
    induction kf with
    | zero => intro x_1 x_2 x_3 x_4 x_5 x_6 x_7 x_8 x_9 fm_10 ff_11 fb_12 i13 i14 i15 rfm_10 i16 i17 i18 i19 H locs ls hk; exact absurd hk (Nat.not_lt_zero _)
    | succ kf ih5_21 =>
      intro x_1 x_2 x_3 x_4 x_5 x_6 x_7 x_8 x_9 fm_10 ff_11 fb_12 i13 i14 i15 rfm_10 i16 i17 i18 i19 H locs ls hk5_21 hP hD hS hl
      refine lv_iload hx hb dX12_goes_5 (lv_at hl 4 rfl) ?_
      refine lv_iload_n hx hb dX12_goes_7 rfl (lv_at hl 1 rfl) ?_
      refine lv_icmp_ge (tgt := 194) hx hb dX12_goes_8 (by decide) (fun cb9 => ?_) (fun cb9 => ?_)
      · skip
        have c22 : n.toInt ≤ x_2.toInt := zle cb9 rfl rfl
        refine lv_iload_n hx hb dX12_goes_194 rfl (lv_at hl 3 rfl) ?_
        have hP : va_P g.1 vwCl (List.flatten [bMo g o a th hi ac tp x_3 x_4 x_5 fl x_6 x_7 x_8 x_9 fm_10 fk fa fc ft ff_11 fb_12 fi]) H := hP
        have hD : va_D A (List.flatten [bMo g o a th hi ac tp x_3 x_4 x_5 fl x_6 x_7 x_8 x_9 fm_10 fk fa fc ft ff_11 fb_12 fi]) := hD
        exact mret_i hx hb hr hlocks hS (Nat.le_of_ble_eq_true rfl) (Nat.le_of_ble_eq_true rfl) dX12_goes_195 (x_3, x_4, x_5, x_6, x_7, x_8, x_9, ff_11, fm_10, fb_12, x_1) rfl (show (rM fm_10) ∧ (0 ≤ x_8.toInt ∧ x_8.toInt ≤ 1) ∧ (0 ≤ x_7.toInt ∧ x_7.toInt ≤ 1) ∧ (zNR ((fm_10 5, fm_10 8, fm_10 10, zV fm_10), x_1) (zNds L (fm 3).toInt.toNat (fm 4).toInt.toNat (fm 7) 0 n.toInt.toNat (fm 5, fm 8, fm 10, zV fm))) ∧ (zGk fm fm_10) from ⟨(by first | assumption | omega | decide), (by first | assumption | omega | decide), (by first | assumption | omega | decide), (zNds_x i16 (by omega)), i17⟩) hP hD
      · skip
        have c23 : x_2.toInt < n.toInt := zlti (Int32.not_le.mp cb9) rfl rfl
        have n24 : x_2.toInt ≤ 99 := zL1 (b := 100) c23 b_n.2 (by decide)
        have n25 : 1 ≤ n.toInt := zL2 (a := 0) c23 i13.1 (by decide)
        refine lv_iconst (v := 0) hx hb dX12_goes_11 (by decide) ?_
        refine lv_istore (lv' := [(5, .int 0), (0, .ref o), (1, .int n), (2, .int 0), (3, .int x_1), (4, .int x_2)]) hx hb dX12_goes_12 hl (by decide) rfl (fun ls hl => ?_)
        have hl := lv_sub (l' := [(0, .ref o), (1, .int n), (2, .int 0), (3, .int x_1), (4, .int x_2), (5, .int 0)]) hl [1, 2, 3, 4, 5, 0] rfl
        have LP14_41 : ∀ (kf : Nat) (x_26 : Int32) (x_27 : Int32) (x_28 : Int32) (x_29 : Int32) (x_30 : Int32) (x_31 : Int32) (x_32 : Int32) (x_33 : Int32) (ff_34 : Nat → Int32) (fb_35 : Nat → Int32), (0 ≤ x_26.toInt ∧ x_26.toInt ≤ 8) → (0 ≤ x_31.toInt ∧ x_31.toInt ≤ 1) → (0 ≤ x_32.toInt ∧ x_32.toInt ≤ 1) → (zByg (zBvg L (zV fm_10) (fm_10 3).toInt.toNat (fm_10 4).toInt.toNat (fm_10 8)) fb_35 x_26.toInt) → (x_26.toInt ≤ (fm_10 3).toInt) → ∀ (H : Heap) (locs : List Loc) (ls : Array Slot), ((9 - x_26.toInt).toNat) < kf → va_P g.1 vwCl (List.flatten [bMo g o a th hi ac tp x_27 x_28 x_29 fl x_30 x_31 x_32 x_33 fm_10 fk fa fc ft ff_34 fb_35 fi]) H → va_D A (List.flatten [bMo g o a th hi ac tp x_27 x_28 x_29 fl x_30 x_31 x_32 x_33 fm_10 fk fa fc ft ff_34 fb_35 fi]) → va_S A s.heap H locs → lv_has ls 6 [(0, .ref o), (1, .int n), (2, .int 0), (3, .int x_1), (4, .int x_2), (5, .int x_26)] → W p l e ({ frames := 32, cells := 0, slots := 0, locals := 711 } : Room) s m args below meth c H locs (0) (0) (zF g (fun u : Int32 × Int32 × Int32 × Int32 × Int32 × Int32 × Int32 × (Nat → Int32) × (Nat → Int32) × (Nat → Int32) × Int32 => (fun (ba2 : Int32) (en2 : Int32) (at2 : Int32) (de2 : Int32) (iD2 : Int32) (iO2 : Int32) (tU2 : Int32) (ff2 : Nat → Int32) (fm2 : Nat → Int32) (fb2 : Nat → Int32) (q : Int32) => some (.int q)) (u.1) (u.2.1) (u.2.2.1) (u.2.2.2.1) (u.2.2.2.2.1) (u.2.2.2.2.2.1) (u.2.2.2.2.2.2.1) (u.2.2.2.2.2.2.2.1) (u.2.2.2.2.2.2.2.2.1) (u.2.2.2.2.2.2.2.2.2.1) (u.2.2.2.2.2.2.2.2.2.2)) (fun u : Int32 × Int32 × Int32 × Int32 × Int32 × Int32 × Int32 × (Nat → Int32) × (Nat → Int32) × (Nat → Int32) × Int32 => (fun (ba2 : Int32) (en2 : Int32) (at2 : Int32) (de2 : Int32) (iD2 : Int32) (iO2 : Int32) (tU2 : Int32) (ff2 : Nat → Int32) (fm2 : Nat → Int32) (fb2 : Nat → Int32) (q : Int32) => (rM fm2) ∧ (0 ≤ iO2.toInt ∧ iO2.toInt ≤ 1) ∧ (0 ≤ iD2.toInt ∧ iD2.toInt ≤ 1) ∧ (zNR ((fm2 5, fm2 8, fm2 10, zV fm2), q) (zNds L (fm 3).toInt.toNat (fm 4).toInt.toNat (fm 7) 0 n.toInt.toNat (fm 5, fm 8, fm 10, zV fm))) ∧ (zGk fm fm2)) (u.1) (u.2.1) (u.2.2.1) (u.2.2.2.1) (u.2.2.2.2.1) (u.2.2.2.2.2.1) (u.2.2.2.2.2.2.1) (u.2.2.2.2.2.2.2.1) (u.2.2.2.2.2.2.2.2.1) (u.2.2.2.2.2.2.2.2.2.1) (u.2.2.2.2.2.2.2.2.2.2)) (fun u : Int32 × Int32 × Int32 × Int32 × Int32 × Int32 × Int32 × (Nat → Int32) × (Nat → Int32) × (Nat → Int32) × Int32 => (fun (ba2 : Int32) (en2 : Int32) (at2 : Int32) (de2 : Int32) (iD2 : Int32) (iO2 : Int32) (tU2 : Int32) (ff2 : Nat → Int32) (fm2 : Nat → Int32) (fb2 : Nat → Int32) (q : Int32) => [bMo g o a th hi ac tp ba2 en2 at2 fl de2 iD2 iO2 tU2 fm2 fk fa fc ft ff2 fb2 fi]) (u.1) (u.2.1) (u.2.2.1) (u.2.2.2.1) (u.2.2.2.2.1) (u.2.2.2.2.2.1) (u.2.2.2.2.2.2.1) (u.2.2.2.2.2.2.2.1) (u.2.2.2.2.2.2.2.2.1) (u.2.2.2.2.2.2.2.2.2.1) (u.2.2.2.2.2.2.2.2.2.2)) ({ frames := 32, cells := 0, slots := 0, locals := 711 } : Room) below args s A) (F0 m 14 ls []) := by
          intro kf
          induction kf with
          | zero => intro x_26 x_27 x_28 x_29 x_30 x_31 x_32 x_33 ff_34 fb_35 i36 i37 i38 i39 i40 H locs ls hk; exact absurd hk (Nat.not_lt_zero _)
          | succ kf ih14_42 =>
            intro x_26 x_27 x_28 x_29 x_30 x_31 x_32 x_33 ff_34 fb_35 i36 i37 i38 i39 i40 H locs ls hk14_42 hP hD hS hl
            have w43 : (fm_10 3).toInt = (fm 3).toInt := congrArg Int32.toInt (i17 3 (by decide))
            refine lv_iload hx hb dX12_goes_14 (lv_at hl 5 rfl) ?_
            refine lv_aload_n hx hb dX12_goes_16 rfl (lv_at hl 0 rfl) ?_
            refine va_get (D := g.1) (ci := 10) (v := .ref (a 0)) (C := RX12) (T := TX12) (N := 20) hx hb hts izRX12 hown hK hP 0 rfl rfl 1 (by decide) (hts _ k815) (fun _ h9 => h9) rfl dX12_goes_17 ?_
            refine lv_iconst (v := 3) hx hb dX12_goes_20 (by decide) ?_
            refine va_iald hx hb hK hP 1 0 rfl rfl (zin rfl) dX12_goes_21 ?_
            refine ztop (r := (fm_10 3)) rfl ?_
            refine lv_icmp_ge (tgt := 64) hx hb dX12_goes_22 (by decide) (fun cb9 => ?_) (fun cb9 => ?_)
            · skip
              have c44 : (fm_10 3).toInt ≤ x_26.toInt := zle cb9 rfl rfl
              refine lv_iconst (v := 0) hx hb dX12_goes_64 (by decide) ?_
              refine lv_istore (lv' := [(5, .int 0), (0, .ref o), (1, .int n), (2, .int 0), (3, .int x_1), (4, .int x_2)]) hx hb dX12_goes_65 hl (by decide) rfl (fun ls hl => ?_)
              have hl := lv_sub (l' := [(0, .ref o), (1, .int n), (2, .int 0), (3, .int x_1), (4, .int x_2), (5, .int 0)]) hl [1, 2, 3, 4, 5, 0] rfl
              have LP67_50 : ∀ (kf : Nat) (x_45 : Int32) (fm_46 : Nat → Int32), (0 ≤ x_45.toInt ∧ x_45.toInt ≤ 8) → (rM fm_46) → (zBl fm_10 fm_46 (zTbR L (zV fm_10) (fm_10 3).toInt.toNat (fm_10 4).toInt.toNat (fm_10 8)) x_45.toInt) → (x_45.toInt ≤ (fm_10 3).toInt) → ∀ (H : Heap) (locs : List Loc) (ls : Array Slot), ((9 - x_45.toInt).toNat) < kf → va_P g.1 vwCl (List.flatten [bMo g o a th hi ac tp x_27 x_28 x_29 fl x_30 x_31 x_32 x_33 fm_46 fk fa fc ft ff_34 fb_35 fi]) H → va_D A (List.flatten [bMo g o a th hi ac tp x_27 x_28 x_29 fl x_30 x_31 x_32 x_33 fm_46 fk fa fc ft ff_34 fb_35 fi]) → va_S A s.heap H locs → lv_has ls 6 [(0, .ref o), (1, .int n), (2, .int 0), (3, .int x_1), (4, .int x_2), (5, .int x_45)] → W p l e ({ frames := 32, cells := 0, slots := 0, locals := 711 } : Room) s m args below meth c H locs (0) (0) (zF g (fun u : Int32 × Int32 × Int32 × Int32 × Int32 × Int32 × Int32 × (Nat → Int32) × (Nat → Int32) × (Nat → Int32) × Int32 => (fun (ba2 : Int32) (en2 : Int32) (at2 : Int32) (de2 : Int32) (iD2 : Int32) (iO2 : Int32) (tU2 : Int32) (ff2 : Nat → Int32) (fm2 : Nat → Int32) (fb2 : Nat → Int32) (q : Int32) => some (.int q)) (u.1) (u.2.1) (u.2.2.1) (u.2.2.2.1) (u.2.2.2.2.1) (u.2.2.2.2.2.1) (u.2.2.2.2.2.2.1) (u.2.2.2.2.2.2.2.1) (u.2.2.2.2.2.2.2.2.1) (u.2.2.2.2.2.2.2.2.2.1) (u.2.2.2.2.2.2.2.2.2.2)) (fun u : Int32 × Int32 × Int32 × Int32 × Int32 × Int32 × Int32 × (Nat → Int32) × (Nat → Int32) × (Nat → Int32) × Int32 => (fun (ba2 : Int32) (en2 : Int32) (at2 : Int32) (de2 : Int32) (iD2 : Int32) (iO2 : Int32) (tU2 : Int32) (ff2 : Nat → Int32) (fm2 : Nat → Int32) (fb2 : Nat → Int32) (q : Int32) => (rM fm2) ∧ (0 ≤ iO2.toInt ∧ iO2.toInt ≤ 1) ∧ (0 ≤ iD2.toInt ∧ iD2.toInt ≤ 1) ∧ (zNR ((fm2 5, fm2 8, fm2 10, zV fm2), q) (zNds L (fm 3).toInt.toNat (fm 4).toInt.toNat (fm 7) 0 n.toInt.toNat (fm 5, fm 8, fm 10, zV fm))) ∧ (zGk fm fm2)) (u.1) (u.2.1) (u.2.2.1) (u.2.2.2.1) (u.2.2.2.2.1) (u.2.2.2.2.2.1) (u.2.2.2.2.2.2.1) (u.2.2.2.2.2.2.2.1) (u.2.2.2.2.2.2.2.2.1) (u.2.2.2.2.2.2.2.2.2.1) (u.2.2.2.2.2.2.2.2.2.2)) (fun u : Int32 × Int32 × Int32 × Int32 × Int32 × Int32 × Int32 × (Nat → Int32) × (Nat → Int32) × (Nat → Int32) × Int32 => (fun (ba2 : Int32) (en2 : Int32) (at2 : Int32) (de2 : Int32) (iD2 : Int32) (iO2 : Int32) (tU2 : Int32) (ff2 : Nat → Int32) (fm2 : Nat → Int32) (fb2 : Nat → Int32) (q : Int32) => [bMo g o a th hi ac tp ba2 en2 at2 fl de2 iD2 iO2 tU2 fm2 fk fa fc ft ff2 fb2 fi]) (u.1) (u.2.1) (u.2.2.1) (u.2.2.2.1) (u.2.2.2.2.1) (u.2.2.2.2.2.1) (u.2.2.2.2.2.2.1) (u.2.2.2.2.2.2.2.1) (u.2.2.2.2.2.2.2.2.1) (u.2.2.2.2.2.2.2.2.2.1) (u.2.2.2.2.2.2.2.2.2.2)) ({ frames := 32, cells := 0, slots := 0, locals := 711 } : Room) below args s A) (F0 m 67 ls []) := by
                intro kf
                induction kf with
                | zero => intro x_45 fm_46 i47 rfm_46 i48 i49 H locs ls hk; exact absurd hk (Nat.not_lt_zero _)
                | succ kf ih67_51 =>
                  intro x_45 fm_46 i47 rfm_46 i48 i49 H locs ls hk67_51 hP hD hS hl
                  have w52 : (fm_10 3).toInt = (fm 3).toInt := congrArg Int32.toInt (i17 3 (by decide))
                  have w53 : (fm_46 3).toInt = (fm_10 3).toInt := congrArg Int32.toInt (i48.1 3 (by decide))
                  refine lv_iload hx hb dX12_goes_67 (lv_at hl 5 rfl) ?_
                  refine lv_aload_n hx hb dX12_goes_69 rfl (lv_at hl 0 rfl) ?_
                  refine va_get (D := g.1) (ci := 10) (v := .ref (a 0)) (C := RX12) (T := TX12) (N := 20) hx hb hts izRX12 hown hK hP 0 rfl rfl 1 (by decide) (hts _ k815) (fun _ h9 => h9) rfl dX12_goes_70 ?_
                  refine lv_iconst (v := 3) hx hb dX12_goes_73 (by decide) ?_
                  refine va_iald hx hb hK hP 1 0 rfl rfl (zin rfl) dX12_goes_74 ?_
                  refine ztop (r := (fm_46 3)) rfl ?_
                  refine lv_icmp_ge (tgt := 106) hx hb dX12_goes_75 (by decide) (fun cb9 => ?_) (fun cb9 => ?_)
                  · skip
                    have c54 : (fm_46 3).toInt ≤ x_45.toInt := zle cb9 rfl rfl
                    refine lv_iload_n hx hb dX12_goes_106 rfl (lv_at hl 3 rfl) ?_
                    refine lv_aload_n hx hb dX12_goes_107 rfl (lv_at hl 0 rfl) ?_
                    refine mcallV' (g := g) (q0 := 0) (ci := 10) (As := []) (rest := [.int x_1]) St hK hT hA hP hD hS hl.1 [0] [] rfl rfl rfl (m_buildG l g o a th hi ac tp x_27 x_28 x_29 fl x_30 x_31 x_32 x_33 fm_46 fk fa fc ft ff_34 fb_35 fi rfm_46) (cwV 0 hts (zgL (zl4 k1022 k1023 k1024 k839) k1008) rfl rfl rfl (by decide +kernel) ⟨Nat.le_of_ble_eq_true rfl, Nat.le_of_ble_eq_true rfl⟩) rfl rfl rfl rfl (Nat.le_of_ble_eq_true rfl) dX12_goes_108 ⟨(Nat.le_of_ble_eq_true rfl), (Nat.le_of_ble_eq_true rfl)⟩ (fun u_ H locs hq57 hP hD hS => ?_)
                    obtain ⟨fm2_55, q_56⟩ := u_
                    replace hq57 : (rM fm2_55) ∧ (zKR (fm2_55 5, zV fm2_55, q_56) (zIt (zKW1 (zBel (zV fm_46) (fm_46 3).toInt.toNat)) (fm_46 5, zV fm_46, 0) (fm_46 4).toInt.toNat)) ∧ (zBk fm_46 fm2_55) := hq57
                    have hP : va_P g.1 vwCl (List.flatten [bMo g o a th hi ac tp x_27 x_28 x_29 fl x_30 x_31 x_32 x_33 fm2_55 fk fa fc ft ff_34 fb_35 fi]) H := hP
                    have hD : va_D A (List.flatten [bMo g o a th hi ac tp x_27 x_28 x_29 fl x_30 x_31 x_32 x_33 fm2_55 fk fa fc ft ff_34 fb_35 fi]) := hD
                    refine W.widen (k := 0) (n := 0) (Nat.le_of_ble_eq_true rfl) (Nat.le_of_ble_eq_true rfl) ?_
                    refine W.eq (g2 := F0 m 111 ls [.int q_56, .int x_1]) rfl ?_
                    obtain ⟨rfm2_55, hq57_1, hq57_2⟩ := hq57
                    refine lv_iadd hx hb dX12_goes_111 ?_
                    refine lv_istore_n (lv' := [(3, .int (x_1 + q_56)), (0, .ref o), (1, .int n), (2, .int 0), (4, .int x_2), (5, .int x_45)]) hx hb dX12_goes_112 rfl hl (by decide) rfl (fun ls hl => ?_)
                    refine lv_iconst (v := 0) hx hb dX12_goes_113 (by decide) ?_
                    refine lv_istore (lv' := [(5, .int 0), (3, .int (x_1 + q_56)), (0, .ref o), (1, .int n), (2, .int 0), (4, .int x_2)]) hx hb dX12_goes_114 hl (by decide) rfl (fun ls hl => ?_)
                    have hl := lv_sub (l' := [(0, .ref o), (1, .int n), (2, .int 0), (3, .int (x_1 + q_56)), (4, .int x_2), (5, .int 0)]) hl [2, 3, 4, 1, 5, 0] rfl
                    have LP116_64 : ∀ (kf : Nat) (x_58 : Int32) (fm_59 : Nat → Int32), (0 ≤ x_58.toInt ∧ x_58.toInt ≤ 8) → (rM fm_59) → (zCR (zV fm_59, fm_59 10) (zIt (zCB1 (fm2_55 3).toInt.toNat (fm2_55 8) (fm2_55 7) 0) (zV fm2_55, fm2_55 10) x_58.toInt.toNat)) → (zQk fm2_55 fm_59) → (x_58.toInt ≤ (fm2_55 3).toInt) → ∀ (H : Heap) (locs : List Loc) (ls : Array Slot), ((9 - x_58.toInt).toNat) < kf → va_P g.1 vwCl (List.flatten [bMo g o a th hi ac tp x_27 x_28 x_29 fl x_30 x_31 x_32 x_33 fm_59 fk fa fc ft ff_34 fb_35 fi]) H → va_D A (List.flatten [bMo g o a th hi ac tp x_27 x_28 x_29 fl x_30 x_31 x_32 x_33 fm_59 fk fa fc ft ff_34 fb_35 fi]) → va_S A s.heap H locs → lv_has ls 6 [(0, .ref o), (1, .int n), (2, .int 0), (3, .int (x_1 + q_56)), (4, .int x_2), (5, .int x_58)] → W p l e ({ frames := 32, cells := 0, slots := 0, locals := 711 } : Room) s m args below meth c H locs (0) (0) (zF g (fun u : Int32 × Int32 × Int32 × Int32 × Int32 × Int32 × Int32 × (Nat → Int32) × (Nat → Int32) × (Nat → Int32) × Int32 => (fun (ba2 : Int32) (en2 : Int32) (at2 : Int32) (de2 : Int32) (iD2 : Int32) (iO2 : Int32) (tU2 : Int32) (ff2 : Nat → Int32) (fm2 : Nat → Int32) (fb2 : Nat → Int32) (q : Int32) => some (.int q)) (u.1) (u.2.1) (u.2.2.1) (u.2.2.2.1) (u.2.2.2.2.1) (u.2.2.2.2.2.1) (u.2.2.2.2.2.2.1) (u.2.2.2.2.2.2.2.1) (u.2.2.2.2.2.2.2.2.1) (u.2.2.2.2.2.2.2.2.2.1) (u.2.2.2.2.2.2.2.2.2.2)) (fun u : Int32 × Int32 × Int32 × Int32 × Int32 × Int32 × Int32 × (Nat → Int32) × (Nat → Int32) × (Nat → Int32) × Int32 => (fun (ba2 : Int32) (en2 : Int32) (at2 : Int32) (de2 : Int32) (iD2 : Int32) (iO2 : Int32) (tU2 : Int32) (ff2 : Nat → Int32) (fm2 : Nat → Int32) (fb2 : Nat → Int32) (q : Int32) => (rM fm2) ∧ (0 ≤ iO2.toInt ∧ iO2.toInt ≤ 1) ∧ (0 ≤ iD2.toInt ∧ iD2.toInt ≤ 1) ∧ (zNR ((fm2 5, fm2 8, fm2 10, zV fm2), q) (zNds L (fm 3).toInt.toNat (fm 4).toInt.toNat (fm 7) 0 n.toInt.toNat (fm 5, fm 8, fm 10, zV fm))) ∧ (zGk fm fm2)) (u.1) (u.2.1) (u.2.2.1) (u.2.2.2.1) (u.2.2.2.2.1) (u.2.2.2.2.2.1) (u.2.2.2.2.2.2.1) (u.2.2.2.2.2.2.2.1) (u.2.2.2.2.2.2.2.2.1) (u.2.2.2.2.2.2.2.2.2.1) (u.2.2.2.2.2.2.2.2.2.2)) (fun u : Int32 × Int32 × Int32 × Int32 × Int32 × Int32 × Int32 × (Nat → Int32) × (Nat → Int32) × (Nat → Int32) × Int32 => (fun (ba2 : Int32) (en2 : Int32) (at2 : Int32) (de2 : Int32) (iD2 : Int32) (iO2 : Int32) (tU2 : Int32) (ff2 : Nat → Int32) (fm2 : Nat → Int32) (fb2 : Nat → Int32) (q : Int32) => [bMo g o a th hi ac tp ba2 en2 at2 fl de2 iD2 iO2 tU2 fm2 fk fa fc ft ff2 fb2 fi]) (u.1) (u.2.1) (u.2.2.1) (u.2.2.2.1) (u.2.2.2.2.1) (u.2.2.2.2.2.1) (u.2.2.2.2.2.2.1) (u.2.2.2.2.2.2.2.1) (u.2.2.2.2.2.2.2.2.1) (u.2.2.2.2.2.2.2.2.2.1) (u.2.2.2.2.2.2.2.2.2.2)) ({ frames := 32, cells := 0, slots := 0, locals := 711 } : Room) below args s A) (F0 m 116 ls []) := by
                      intro kf
                      induction kf with
                      | zero => intro x_58 fm_59 i60 rfm_59 i61 i62 i63 H locs ls hk; exact absurd hk (Nat.not_lt_zero _)
                      | succ kf ih116_65 =>
                        intro x_58 fm_59 i60 rfm_59 i61 i62 i63 H locs ls hk116_65 hP hD hS hl
                        have w66 : (fm_10 3).toInt = (fm 3).toInt := congrArg Int32.toInt (i17 3 (by decide))
                        have w67 : (fm2_55 3).toInt = (fm 3).toInt := congrArg Int32.toInt ((hq57_2 3 (by decide) (by decide) (by decide)).trans ((i48.1 3 (by decide)).trans (i17 3 (by decide))))
                        have w68 : (fm_59 3).toInt = (fm2_55 3).toInt := congrArg Int32.toInt (i62 3 (by decide))
                        have w69 : (fm_59 8).toInt = (fm2_55 8).toInt := congrArg Int32.toInt (i62 8 (by decide))
                        refine lv_iload hx hb dX12_goes_116 (lv_at hl 5 rfl) ?_
                        refine lv_aload_n hx hb dX12_goes_118 rfl (lv_at hl 0 rfl) ?_
                        refine va_get (D := g.1) (ci := 10) (v := .ref (a 0)) (C := RX12) (T := TX12) (N := 20) hx hb hts izRX12 hown hK hP 0 rfl rfl 1 (by decide) (hts _ k815) (fun _ h9 => h9) rfl dX12_goes_119 ?_
                        refine lv_iconst (v := 3) hx hb dX12_goes_122 (by decide) ?_
                        refine va_iald hx hb hK hP 1 0 rfl rfl (zin rfl) dX12_goes_123 ?_
                        refine ztop (r := (fm_59 3)) rfl ?_
                        refine lv_icmp_ge (tgt := 166) hx hb dX12_goes_124 (by decide) (fun cb9 => ?_) (fun cb9 => ?_)
                        · skip
                          have c70 : (fm_59 3).toInt ≤ x_58.toInt := zle cb9 rfl rfl
                          refine lv_aload_n hx hb dX12_goes_166 rfl (lv_at hl 0 rfl) ?_
                          refine va_get (D := g.1) (ci := 10) (v := .ref (a 0)) (C := RX12) (T := TX12) (N := 20) hx hb hts izRX12 hown hK hP 0 rfl rfl 1 (by decide) (hts _ k815) (fun _ h9 => h9) rfl dX12_goes_167 ?_
                          refine lv_bipush (v := 8) hx hb dX12_goes_170 (by decide) ?_
                          refine lv_sipush (v := 9999) hx hb dX12_goes_172 (by decide) ?_
                          refine lv_aload_n hx hb dX12_goes_175 rfl (lv_at hl 0 rfl) ?_
                          refine va_get (D := g.1) (ci := 10) (v := .ref (a 0)) (C := RX12) (T := TX12) (N := 20) hx hb hts izRX12 hown hK hP 0 rfl rfl 1 (by decide) (hts _ k815) (fun _ h9 => h9) rfl dX12_goes_176 ?_
                          refine lv_bipush (v := 8) hx hb dX12_goes_179 (by decide) ?_
                          refine va_iald hx hb hK hP 1 0 rfl rfl (zin rfl) dX12_goes_181 ?_
                          refine ztop (r := (fm_59 8)) rfl ?_
                          refine lv_iconst (v := 1) hx hb dX12_goes_182 (by decide) ?_
                          refine lv_iadd hx hb dX12_goes_183 ?_
                          refine mcallS' (g := g) (As := [.int 9999, .int ((fm_59 8) + 1)]) (rest := [.int 8, .ref (a 0)]) St hK hT hA hP hD hS hl.1 [] [0] rfl rfl rfl (m_lesser9 l g ((fm_59 8) + 1) ) (va_cwS 2 hts (zgL (zl3 k1000 k1001 k839) k827) rfl rfl rfl (by decide +kernel) ⟨Nat.le_of_ble_eq_true rfl, Nat.le_of_ble_eq_true rfl⟩) rfl rfl (Nat.le_of_ble_eq_true rfl) dX12_goes_184 ⟨(Nat.le_of_ble_eq_true rfl), (Nat.le_of_ble_eq_true rfl)⟩ (fun _u H locs hq71 hP hD hS => ?_)
                          have hP : va_P g.1 vwCl (List.flatten [bMo g o a th hi ac tp x_27 x_28 x_29 fl x_30 x_31 x_32 x_33 fm_59 fk fa fc ft ff_34 fb_35 fi]) H := hP
                          have hD : va_D A (List.flatten [bMo g o a th hi ac tp x_27 x_28 x_29 fl x_30 x_31 x_32 x_33 fm_59 fk fa fc ft ff_34 fb_35 fi]) := hD
                          refine W.widen (k := 0) (n := 0) (Nat.le_of_ble_eq_true rfl) (Nat.le_of_ble_eq_true rfl) ?_
                          refine W.eq (g2 := F0 m 187 ls [.int (zCap ((fm_59 8) + 1)), .int 8, .ref (a 0)]) rfl ?_
                          refine va_iast hx hb hK hP hD hS 1 0 rfl rfl (zin rfl) dX12_goes_187 (fun H locs hP hD hS => ?_)
                          obtain ⟨fm_72, rfm_72, efm_72, hP, hD⟩ : ∃ fm_72 : Nat → Int32, rM fm_72 ∧ fm_72 = upd fm_59 8 (zCap ((fm_59 8) + 1)) ∧ va_P g.1 vwCl (List.flatten [bMo g o a th hi ac tp x_27 x_28 x_29 fl x_30 x_31 x_32 x_33 fm_72 fk fa fc ft ff_34 fb_35 fi]) H ∧ va_D A (List.flatten [bMo g o a th hi ac tp x_27 x_28 x_29 fl x_30 x_31 x_32 x_33 fm_72 fk fa fc ft ff_34 fb_35 fi]) := ⟨upd fm_59 8 (zCap ((fm_59 8) + 1)), (rM_stL rfm_59 (by decide)), rfl, hP, hD⟩
                          have w73 := zGd (L := L) (tl := 0) (n := fm_10 3) (by have := i17 3 (by decide); rw [this]; omega) (by have := i17 4 (by decide); rw [this]; omega) rfl i48 (by omega) hq57_1 hq57_2 (zItR_x (R := zCR) i61 (by omega)) i62 efm_72
                          rw [i17 3 (by decide), i17 4 (by decide), i17 7 (by decide)] at w73
                          refine ziinc3 (n' := 1) (a' := 1) (b' := 100) (lv' := fun v9 => [(4, .int v9), (0, .ref o), (1, .int n), (2, .int 0), (3, .int (x_1 + q_56)), (5, .int x_58)]) hx hb dX12_goes_188 hl (k := 4) rfl (by decide) (fun _ => rfl) (zaddK (i := x_2.toInt) (j := 1) rfl (by decide) i13.1 n24 (Int.le_refl _) (Int.le_refl _) (by decide)) (fun x_75 ls hx_75 hl => ?_)
                          refine lv_goto (tgt := 5) hx hb dX12_goes_191 (by decide) ?_
                          have hl := lv_sub (l' := [(0, .ref o), (1, .int n), (2, .int 0), (3, .int (x_1 + q_56)), (4, .int x_75), (5, .int x_58)]) hl [1, 2, 3, 4, 0, 5] rfl
                          have hP : va_P g.1 vwCl (List.flatten [bMo g o a th hi ac tp x_27 x_28 x_29 fl x_30 x_31 x_32 x_33 fm_72 fk fa fc ft ff_34 fb_35 fi]) H := hP
                          have hD : va_D A (List.flatten [bMo g o a th hi ac tp x_27 x_28 x_29 fl x_30 x_31 x_32 x_33 fm_72 fk fa fc ft ff_34 fb_35 fi]) := hD
                          exact ih5_21 (x_1 + q_56) x_75 x_27 x_28 x_29 x_30 x_31 x_32 x_33 fm_72 ff_34 fb_35 ⟨(Int.le_trans (by decide) hx_75.2.1), hx_75.2.2⟩ ⟨i37.1, i37.2⟩ ⟨i38.1, i38.2⟩ rfm_72 (zNds_s (by omega) (by omega) i16 hx_75.1 (by omega) w73.1 w73.2.1) (zGk_t i17 w73.2.2) (zRg_c (zRg_day (L := L) (pe := (fm 3).toInt.toNat) (wo := (fm 4).toInt.toNat) (tr := fm 7) (tl := 0) (s := (fm_10 5, fm_10 8, fm_10 10, zV fm_10)) i18) (zEq_s w73.1.2.2.2)) (by first | omega | assumption | decide) H _ ls (zmK hx_75.1 (by decide) n24 (by decide) hk5_21)  hP hD hS (lv_sub hl [0, 1, 2, 3, 4] rfl)
                        · skip
                          have c76 : x_58.toInt < (fm_59 3).toInt := zlti (Int32.not_le.mp cb9) rfl rfl
                          have n77 : x_58.toInt ≤ 7 := zL1 (b := 8) c76 (rM3 rfm_59).2 (by decide)
                          have n78 : 1 ≤ (fm_59 3).toInt := zL2 (a := 0) c76 i60.1 (by decide)
                          refine lv_aload_n hx hb dX12_goes_127 rfl (lv_at hl 0 rfl) ?_
                          refine lv_iload hx hb dX12_goes_128 (lv_at hl 5 rfl) ?_
                          refine mcallV' (g := g) (q0 := 0) (ci := 10) (As := [.int x_58]) (rest := []) St hK hT hA hP hD hS hl.1 [0] [] rfl rfl rfl (m_isHereG l g o a th hi ac tp x_27 x_28 x_29 fl x_30 x_31 x_32 x_33 fm_59 fk fa fc ft ff_34 fb_35 fi x_58 (⟨i60.1, n77⟩)) (cwV 1 hts (zgL (zl4 k846 k847 k848 k839) k841) rfl rfl rfl (by decide +kernel) ⟨Nat.le_of_ble_eq_true rfl, Nat.le_of_ble_eq_true rfl⟩) rfl rfl rfl rfl (Nat.le_of_ble_eq_true rfl) dX12_goes_130 ⟨(Nat.le_of_ble_eq_true rfl), (Nat.le_of_ble_eq_true rfl)⟩ (fun q_79 H locs hq80 hP hD hS => ?_)
                          replace hq80 : (q_79 = 1 ∧ (zV fm_59 3 x_58.toInt.toNat).toInt = -1 ∨ q_79 = 0 ∧ ¬ (zV fm_59 3 x_58.toInt.toNat).toInt = -1) := hq80
                          have hP : va_P g.1 vwCl (List.flatten [bMo g o a th hi ac tp x_27 x_28 x_29 fl x_30 x_31 x_32 x_33 fm_59 fk fa fc ft ff_34 fb_35 fi]) H := hP
                          have hD : va_D A (List.flatten [bMo g o a th hi ac tp x_27 x_28 x_29 fl x_30 x_31 x_32 x_33 fm_59 fk fa fc ft ff_34 fb_35 fi]) := hD
                          refine W.widen (k := 0) (n := 0) (Nat.le_of_ble_eq_true rfl) (Nat.le_of_ble_eq_true rfl) ?_
                          refine W.eq (g2 := F0 m 133 ls [.int q_79]) rfl ?_
                          rcases hq80 with ⟨rfl, hq80_k⟩ | ⟨rfl, hq80_k⟩
                          · skip
                            refine lv_if_ne (tgt := 160) hx hb dX12_goes_133 (by decide) (fun _ => ?_) (fun c81 => absurd c81 (by decide))
                            refine ziinc3 (n' := 1) (a' := 1) (b' := 8) (lv' := fun v9 => [(5, .int v9), (0, .ref o), (1, .int n), (2, .int 0), (3, .int (x_1 + q_56)), (4, .int x_2)]) hx hb dX12_goes_160 hl (k := 5) rfl (by decide) (fun _ => rfl) (zaddK (i := x_58.toInt) (j := 1) rfl (by decide) i60.1 n77 (Int.le_refl _) (Int.le_refl _) (by decide)) (fun x_82 ls hx_82 hl => ?_)
                            refine lv_goto (tgt := 116) hx hb dX12_goes_163 (by decide) ?_
                            have hl := lv_sub (l' := [(0, .ref o), (1, .int n), (2, .int 0), (3, .int (x_1 + q_56)), (4, .int x_2), (5, .int x_82)]) hl [1, 2, 3, 4, 5, 0] rfl
                            have hP : va_P g.1 vwCl (List.flatten [bMo g o a th hi ac tp x_27 x_28 x_29 fl x_30 x_31 x_32 x_33 fm_59 fk fa fc ft ff_34 fb_35 fi]) H := hP
                            have hD : va_D A (List.flatten [bMo g o a th hi ac tp x_27 x_28 x_29 fl x_30 x_31 x_32 x_33 fm_59 fk fa fc ft ff_34 fb_35 fi]) := hD
                            exact ih116_65 x_82 fm_59 ⟨(Int.le_trans (by decide) hx_82.2.1), hx_82.2.2⟩ rfm_59 (zCR_s (by omega) i61 hx_82.1 (by omega) (by omega) (by rw [← (zCBa hq80_k)]; exact zCR_r _)) i62 (by first | omega | assumption | decide) H _ ls (zmK hx_82.1 (by decide) n77 (by decide) hk116_65)  hP hD hS (lv_sub hl [0, 1, 2, 3, 4, 5] rfl)
                          · skip
                            refine lv_if_ne (tgt := 160) hx hb dX12_goes_133 (by decide) (fun c83 => absurd (by decide) c83) (fun _ => ?_)
                            refine lv_aload_n hx hb dX12_goes_136 rfl (lv_at hl 0 rfl) ?_
                            refine lv_iload hx hb dX12_goes_137 (lv_at hl 5 rfl) ?_
                            refine lv_iconst (v := 4) hx hb dX12_goes_139 (by decide) ?_
                            refine mcallV' (g := g) (q0 := 0) (ci := 10) (As := [.int x_58, .int 4]) (rest := []) St hK hT hA hP hD hS hl.1 [0] [] rfl rfl rfl (m_of3F l g o a th hi ac tp x_27 x_28 x_29 fl x_30 x_31 x_32 x_33 fm_59 fk fa fc ft ff_34 fb_35 fi x_58 (⟨i60.1, n77⟩)) (cwV 2 hts (zgL (zl4 k842 k843 k844 k839) k831) rfl rfl rfl (by decide +kernel) ⟨Nat.le_of_ble_eq_true rfl, Nat.le_of_ble_eq_true rfl⟩) rfl rfl rfl rfl (Nat.le_of_ble_eq_true rfl) dX12_goes_140 ⟨(Nat.le_of_ble_eq_true rfl), (Nat.le_of_ble_eq_true rfl)⟩ (fun _u H locs hq84 hP hD hS => ?_)
                            have hP : va_P g.1 vwCl (List.flatten [bMo g o a th hi ac tp x_27 x_28 x_29 fl x_30 x_31 x_32 x_33 fm_59 fk fa fc ft ff_34 fb_35 fi]) H := hP
                            have hD : va_D A (List.flatten [bMo g o a th hi ac tp x_27 x_28 x_29 fl x_30 x_31 x_32 x_33 fm_59 fk fa fc ft ff_34 fb_35 fi]) := hD
                            refine W.widen (k := 0) (n := 0) (Nat.le_of_ble_eq_true rfl) (Nat.le_of_ble_eq_true rfl) ?_
                            refine W.eq (g2 := F0 m 143 ls [.int (zV fm_59 3 x_58.toInt.toNat)]) rfl ?_
                            refine lv_aload_n hx hb dX12_goes_143 rfl (lv_at hl 0 rfl) ?_
                            refine va_get (D := g.1) (ci := 10) (v := .ref (a 0)) (C := RX12) (T := TX12) (N := 20) hx hb hts izRX12 hown hK hP 0 rfl rfl 1 (by decide) (hts _ k815) (fun _ h9 => h9) rfl dX12_goes_144 ?_
                            refine lv_bipush (v := 8) hx hb dX12_goes_147 (by decide) ?_
                            refine va_iald hx hb hK hP 1 0 rfl rfl (zin rfl) dX12_goes_149 ?_
                            refine ztop (r := (fm_59 8)) rfl ?_
                            refine lv_icmp_gt (tgt := 160) hx hb dX12_goes_150 (by decide) (fun cb9 => ?_) (fun cb9 => ?_)
                            · skip
                              have c85 : (fm_59 8).toInt < (zV fm_59 3 x_58.toInt.toNat).toInt := zlti cb9 rfl rfl
                              refine ziinc3 (n' := 1) (a' := 1) (b' := 8) (lv' := fun v9 => [(5, .int v9), (0, .ref o), (1, .int n), (2, .int 0), (3, .int (x_1 + q_56)), (4, .int x_2)]) hx hb dX12_goes_160 hl (k := 5) rfl (by decide) (fun _ => rfl) (zaddK (i := x_58.toInt) (j := 1) rfl (by decide) i60.1 n77 (Int.le_refl _) (Int.le_refl _) (by decide)) (fun x_86 ls hx_86 hl => ?_)
                              refine lv_goto (tgt := 116) hx hb dX12_goes_163 (by decide) ?_
                              have hl := lv_sub (l' := [(0, .ref o), (1, .int n), (2, .int 0), (3, .int (x_1 + q_56)), (4, .int x_2), (5, .int x_86)]) hl [1, 2, 3, 4, 5, 0] rfl
                              have hP : va_P g.1 vwCl (List.flatten [bMo g o a th hi ac tp x_27 x_28 x_29 fl x_30 x_31 x_32 x_33 fm_59 fk fa fc ft ff_34 fb_35 fi]) H := hP
                              have hD : va_D A (List.flatten [bMo g o a th hi ac tp x_27 x_28 x_29 fl x_30 x_31 x_32 x_33 fm_59 fk fa fc ft ff_34 fb_35 fi]) := hD
                              exact ih116_65 x_86 fm_59 ⟨(Int.le_trans (by decide) hx_86.2.1), hx_86.2.2⟩ rfm_59 (zCR_s (by omega) i61 hx_86.1 (by omega) (by omega) (by rw [← (zCBb hq80_k (by omega))]; exact zCR_r _)) i62 (by first | omega | assumption | decide) H _ ls (zmK hx_86.1 (by decide) n77 (by decide) hk116_65)  hP hD hS (lv_sub hl [0, 1, 2, 3, 4, 5] rfl)
                            · skip
                              have c87 : (zV fm_59 3 x_58.toInt.toNat).toInt ≤ (fm_59 8).toInt := zle (Int32.not_lt.mp cb9) rfl rfl
                              refine lv_aload_n hx hb dX12_goes_153 rfl (lv_at hl 0 rfl) ?_
                              refine lv_iload hx hb dX12_goes_154 (lv_at hl 5 rfl) ?_
                              refine lv_iload_n hx hb dX12_goes_156 rfl (lv_at hl 2 rfl) ?_
                              refine mcallV' (g := g) (q0 := 0) (ci := 10) (As := [.int x_58, .int 0]) (rest := []) St hK hT hA hP hD hS hl.1 [0] [] rfl rfl rfl (m_returns0G l g o a th hi ac tp x_27 x_28 x_29 fl x_30 x_31 x_32 x_33 fm_59 fk fa fc ft ff_34 fb_35 fi x_58 (by first | assumption | omega | decide) (by first | assumption | omega | decide) hq80_k (by omega)) (cwV 2 hts (zgL (zl4 k1025 k1026 k1027 k839) k1015) rfl rfl rfl (by decide +kernel) ⟨Nat.le_of_ble_eq_true rfl, Nat.le_of_ble_eq_true rfl⟩) rfl rfl rfl rfl (Nat.le_of_ble_eq_true rfl) dX12_goes_157 ⟨(Nat.le_of_ble_eq_true rfl), (Nat.le_of_ble_eq_true rfl)⟩ (fun fm2_88 H locs hq89 hP hD hS => ?_)
                              replace hq89 : (rM fm2_88) ∧ (zCR (zV fm2_88, fm2_88 10) (zCB1 (fm_59 3).toInt.toNat (fm_59 8) (fm_59 7) 0 x_58.toInt.toNat (zV fm_59, fm_59 10))) ∧ (zQk fm_59 fm2_88) := hq89
                              have hP : va_P g.1 vwCl (List.flatten [bMo g o a th hi ac tp x_27 x_28 x_29 fl x_30 x_31 x_32 x_33 fm2_88 fk fa fc ft ff_34 fb_35 fi]) H := hP
                              have hD : va_D A (List.flatten [bMo g o a th hi ac tp x_27 x_28 x_29 fl x_30 x_31 x_32 x_33 fm2_88 fk fa fc ft ff_34 fb_35 fi]) := hD
                              refine W.widen (k := 0) (n := 0) (Nat.le_of_ble_eq_true rfl) (Nat.le_of_ble_eq_true rfl) ?_
                              refine W.eq (g2 := F0 m 160 ls []) rfl ?_
                              obtain ⟨rfm2_88, hq89_1, hq89_2⟩ := hq89
                              refine ziinc3 (n' := 1) (a' := 1) (b' := 8) (lv' := fun v9 => [(5, .int v9), (0, .ref o), (1, .int n), (2, .int 0), (3, .int (x_1 + q_56)), (4, .int x_2)]) hx hb dX12_goes_160 hl (k := 5) rfl (by decide) (fun _ => rfl) (zaddK (i := x_58.toInt) (j := 1) rfl (by decide) i60.1 n77 (Int.le_refl _) (Int.le_refl _) (by decide)) (fun x_90 ls hx_90 hl => ?_)
                              refine lv_goto (tgt := 116) hx hb dX12_goes_163 (by decide) ?_
                              have hl := lv_sub (l' := [(0, .ref o), (1, .int n), (2, .int 0), (3, .int (x_1 + q_56)), (4, .int x_2), (5, .int x_90)]) hl [1, 2, 3, 4, 5, 0] rfl
                              have hP : va_P g.1 vwCl (List.flatten [bMo g o a th hi ac tp x_27 x_28 x_29 fl x_30 x_31 x_32 x_33 fm2_88 fk fa fc ft ff_34 fb_35 fi]) H := hP
                              have hD : va_D A (List.flatten [bMo g o a th hi ac tp x_27 x_28 x_29 fl x_30 x_31 x_32 x_33 fm2_88 fk fa fc ft ff_34 fb_35 fi]) := hD
                              exact ih116_65 x_90 fm2_88 ⟨(Int.le_trans (by decide) hx_90.2.1), hx_90.2.2⟩ rfm2_88 (zCR_s (by omega) i61 hx_90.1 (by omega) (by omega) (zCR_q hq89_1 (by rw [i62 3 (by decide)]) (i62 8 (by decide)) (i62 7 (by decide)))) (zQk_t i62 hq89_2) (by first | omega | assumption | decide) H _ ls (zmK hx_90.1 (by decide) n77 (by decide) hk116_65)  hP hD hS (lv_sub hl [0, 1, 2, 3, 4, 5] rfl)
                    have hL0 : (0 : Int32).toInt = 0 := by decide
                    have hP : va_P g.1 vwCl (List.flatten [bMo g o a th hi ac tp x_27 x_28 x_29 fl x_30 x_31 x_32 x_33 fm2_55 fk fa fc ft ff_34 fb_35 fi]) H := hP
                    have hD : va_D A (List.flatten [bMo g o a th hi ac tp x_27 x_28 x_29 fl x_30 x_31 x_32 x_33 fm2_55 fk fa fc ft ff_34 fb_35 fi]) := hD
                    exact LP116_64 _ 0 fm2_55 (by decide) rfm2_55 (zItR_0 (R := zCR) (by decide) (zCR_r _)) (zQk_r _) (by rw [zi0]; exact (rM3 rfm2_55).1) H _ ls (Nat.lt_succ_self _)  hP hD hS (lv_sub hl [0, 1, 2, 3, 4, 5] rfl)
                  · skip
                    have c91 : x_45.toInt < (fm_46 3).toInt := zlti (Int32.not_le.mp cb9) rfl rfl
                    have n92 : x_45.toInt ≤ 7 := zL1 (b := 8) c91 (rM3 rfm_46).2 (by decide)
                    have n93 : 1 ≤ (fm_46 3).toInt := zL2 (a := 0) c91 i47.1 (by decide)
                    refine lv_aload_n hx hb dX12_goes_78 rfl (lv_at hl 0 rfl) ?_
                    refine lv_iload hx hb dX12_goes_79 (lv_at hl 5 rfl) ?_
                    refine mcallV' (g := g) (q0 := 0) (ci := 10) (As := [.int x_45]) (rest := []) St hK hT hA hP hD hS hl.1 [0] [] rfl rfl rfl (m_isHereG l g o a th hi ac tp x_27 x_28 x_29 fl x_30 x_31 x_32 x_33 fm_46 fk fa fc ft ff_34 fb_35 fi x_45 (⟨i47.1, n92⟩)) (cwV 1 hts (zgL (zl4 k846 k847 k848 k839) k841) rfl rfl rfl (by decide +kernel) ⟨Nat.le_of_ble_eq_true rfl, Nat.le_of_ble_eq_true rfl⟩) rfl rfl rfl rfl (Nat.le_of_ble_eq_true rfl) dX12_goes_81 ⟨(Nat.le_of_ble_eq_true rfl), (Nat.le_of_ble_eq_true rfl)⟩ (fun q_94 H locs hq95 hP hD hS => ?_)
                    replace hq95 : (q_94 = 1 ∧ (zV fm_46 3 x_45.toInt.toNat).toInt = -1 ∨ q_94 = 0 ∧ ¬ (zV fm_46 3 x_45.toInt.toNat).toInt = -1) := hq95
                    have hP : va_P g.1 vwCl (List.flatten [bMo g o a th hi ac tp x_27 x_28 x_29 fl x_30 x_31 x_32 x_33 fm_46 fk fa fc ft ff_34 fb_35 fi]) H := hP
                    have hD : va_D A (List.flatten [bMo g o a th hi ac tp x_27 x_28 x_29 fl x_30 x_31 x_32 x_33 fm_46 fk fa fc ft ff_34 fb_35 fi]) := hD
                    refine W.widen (k := 0) (n := 0) (Nat.le_of_ble_eq_true rfl) (Nat.le_of_ble_eq_true rfl) ?_
                    refine W.eq (g2 := F0 m 84 ls [.int q_94]) rfl ?_
                    rcases hq95 with ⟨rfl, hq95_k⟩ | ⟨rfl, hq95_k⟩
                    · skip
                      refine lv_if_eq (tgt := 100) hx hb dX12_goes_84 (by decide) (fun c96 => absurd c96 (by decide)) (fun _ => ?_)
                      refine lv_aload_n hx hb dX12_goes_87 rfl (lv_at hl 0 rfl) ?_
                      refine lv_iload hx hb dX12_goes_88 (lv_at hl 5 rfl) ?_
                      refine lv_aload_n hx hb dX12_goes_90 rfl (lv_at hl 0 rfl) ?_
                      refine va_get (D := g.1) (ci := 10) (v := .ref (a 6)) (C := RX12) (T := TX12) (N := 20) hx hb hts izRX12 hown hK hP 0 rfl rfl 18 (by decide) (hts _ k822) (fun _ h9 => h9) rfl dX12_goes_91 ?_
                      refine lv_iload hx hb dX12_goes_94 (lv_at hl 5 rfl) ?_
                      refine va_iald hx hb hK hP 7 0 rfl rfl (zinK (a := 0) (b := 7) i47.1 n92 (by decide)) dX12_goes_96 ?_
                      refine ztop (r := (fb_35 x_45.toInt.toNat)) rfl ?_
                      refine mcallV' (g := g) (q0 := 0) (ci := 10) (As := [.int x_45, .int (fb_35 x_45.toInt.toNat)]) (rest := []) St hK hT hA hP hD hS hl.1 [0] [] rfl rfl rfl (m_believesG l g o a th hi ac tp x_27 x_28 x_29 fl x_30 x_31 x_32 x_33 fm_46 fk fa fc ft ff_34 fb_35 fi x_45 (fb_35 x_45.toInt.toNat) rfm_46 (⟨i47.1, n92⟩)) (cwV 2 hts (zgL (zl4 k1012 k1013 k1014 k839) k1002) rfl rfl rfl (by decide +kernel) ⟨Nat.le_of_ble_eq_true rfl, Nat.le_of_ble_eq_true rfl⟩) rfl rfl rfl rfl (Nat.le_of_ble_eq_true rfl) dX12_goes_97 ⟨(Nat.le_of_ble_eq_true rfl), (Nat.le_of_ble_eq_true rfl)⟩ (fun fm2_97 H locs hq98 hP hD hS => ?_)
                      replace hq98 : (rM fm2_97) ∧ (fm2_97 = upd fm_46 (11 + 5 * x_45.toInt.toNat) (zCl (zV fm_46 0 x_45.toInt.toNat + (fb_35 x_45.toInt.toNat)))) := hq98
                      have hP : va_P g.1 vwCl (List.flatten [bMo g o a th hi ac tp x_27 x_28 x_29 fl x_30 x_31 x_32 x_33 fm2_97 fk fa fc ft ff_34 fb_35 fi]) H := hP
                      have hD : va_D A (List.flatten [bMo g o a th hi ac tp x_27 x_28 x_29 fl x_30 x_31 x_32 x_33 fm2_97 fk fa fc ft ff_34 fb_35 fi]) := hD
                      refine W.widen (k := 0) (n := 0) (Nat.le_of_ble_eq_true rfl) (Nat.le_of_ble_eq_true rfl) ?_
                      refine W.eq (g2 := F0 m 100 ls []) rfl ?_
                      obtain ⟨rfm2_97, hq98_1⟩ := hq98
                      refine ziinc3 (n' := 1) (a' := 1) (b' := 8) (lv' := fun v9 => [(5, .int v9), (0, .ref o), (1, .int n), (2, .int 0), (3, .int x_1), (4, .int x_2)]) hx hb dX12_goes_100 hl (k := 5) rfl (by decide) (fun _ => rfl) (zaddK (i := x_45.toInt) (j := 1) rfl (by decide) i47.1 n92 (Int.le_refl _) (Int.le_refl _) (by decide)) (fun x_99 ls hx_99 hl => ?_)
                      refine lv_goto (tgt := 67) hx hb dX12_goes_103 (by decide) ?_
                      have hl := lv_sub (l' := [(0, .ref o), (1, .int n), (2, .int 0), (3, .int x_1), (4, .int x_2), (5, .int x_99)]) hl [1, 2, 3, 4, 5, 0] rfl
                      have hP : va_P g.1 vwCl (List.flatten [bMo g o a th hi ac tp x_27 x_28 x_29 fl x_30 x_31 x_32 x_33 fm2_97 fk fa fc ft ff_34 fb_35 fi]) H := hP
                      have hD : va_D A (List.flatten [bMo g o a th hi ac tp x_27 x_28 x_29 fl x_30 x_31 x_32 x_33 fm2_97 fk fa fc ft ff_34 fb_35 fi]) := hD
                      exact ih67_51 x_99 fm2_97 ⟨(Int.le_trans (by decide) hx_99.2.1), hx_99.2.2⟩ rfm2_97 (zBl_h i48 hx_99.1 (by omega) (by omega) hq95_k (i39 x_45.toInt.toNat (by omega)) hq98_1) (by first | omega | assumption | decide) H _ ls (zmK hx_99.1 (by decide) n92 (by decide) hk67_51)  hP hD hS (lv_sub hl [0, 1, 2, 3, 4, 5] rfl)
                    · skip
                      refine lv_if_eq (tgt := 100) hx hb dX12_goes_84 (by decide) (fun _ => ?_) (fun c100 => absurd (by decide) c100)
                      refine ziinc3 (n' := 1) (a' := 1) (b' := 8) (lv' := fun v9 => [(5, .int v9), (0, .ref o), (1, .int n), (2, .int 0), (3, .int x_1), (4, .int x_2)]) hx hb dX12_goes_100 hl (k := 5) rfl (by decide) (fun _ => rfl) (zaddK (i := x_45.toInt) (j := 1) rfl (by decide) i47.1 n92 (Int.le_refl _) (Int.le_refl _) (by decide)) (fun x_101 ls hx_101 hl => ?_)
                      refine lv_goto (tgt := 67) hx hb dX12_goes_103 (by decide) ?_
                      have hl := lv_sub (l' := [(0, .ref o), (1, .int n), (2, .int 0), (3, .int x_1), (4, .int x_2), (5, .int x_101)]) hl [1, 2, 3, 4, 5, 0] rfl
                      have hP : va_P g.1 vwCl (List.flatten [bMo g o a th hi ac tp x_27 x_28 x_29 fl x_30 x_31 x_32 x_33 fm_46 fk fa fc ft ff_34 fb_35 fi]) H := hP
                      have hD : va_D A (List.flatten [bMo g o a th hi ac tp x_27 x_28 x_29 fl x_30 x_31 x_32 x_33 fm_46 fk fa fc ft ff_34 fb_35 fi]) := hD
                      exact ih67_51 x_101 fm_46 ⟨(Int.le_trans (by decide) hx_101.2.1), hx_101.2.2⟩ rfm_46 (zBl_a i48 hx_101.1 (by omega) (by omega) hq95_k) (by first | omega | assumption | decide) H _ ls (zmK hx_101.1 (by decide) n92 (by decide) hk67_51)  hP hD hS (lv_sub hl [0, 1, 2, 3, 4, 5] rfl)
              have hL0 : (0 : Int32).toInt = 0 := by decide
              have hP : va_P g.1 vwCl (List.flatten [bMo g o a th hi ac tp x_27 x_28 x_29 fl x_30 x_31 x_32 x_33 fm_10 fk fa fc ft ff_34 fb_35 fi]) H := hP
              have hD : va_D A (List.flatten [bMo g o a th hi ac tp x_27 x_28 x_29 fl x_30 x_31 x_32 x_33 fm_10 fk fa fc ft ff_34 fb_35 fi]) := hD
              exact LP67_50 _ 0 fm_10 (by decide) rfm_10 (zBl_0 (by decide)) (by rw [zi0]; exact (rM3 rfm_10).1) H _ ls (Nat.lt_succ_self _)  hP hD hS (lv_sub hl [0, 1, 2, 3, 4, 5] rfl)
            · skip
              have c102 : x_26.toInt < (fm_10 3).toInt := zlti (Int32.not_le.mp cb9) rfl rfl
              have n103 : x_26.toInt ≤ 7 := zL1 (b := 8) c102 (rM3 rfm_10).2 (by decide)
              have n104 : 1 ≤ (fm_10 3).toInt := zL2 (a := 0) c102 i36.1 (by decide)
              refine lv_aload_n hx hb dX12_goes_25 rfl (lv_at hl 0 rfl) ?_
              refine va_get (D := g.1) (ci := 10) (v := .ref (a 6)) (C := RX12) (T := TX12) (N := 20) hx hb hts izRX12 hown hK hP 0 rfl rfl 18 (by decide) (hts _ k822) (fun _ h9 => h9) rfl dX12_goes_26 ?_
              refine lv_iload hx hb dX12_goes_29 (lv_at hl 5 rfl) ?_
              refine lv_aload_n hx hb dX12_goes_31 rfl (lv_at hl 0 rfl) ?_
              refine lv_iload hx hb dX12_goes_32 (lv_at hl 5 rfl) ?_
              refine mcallV' (g := g) (q0 := 0) (ci := 10) (As := [.int x_26]) (rest := [.int x_26, .ref (a 6)]) St hK hT hA hP hD hS hl.1 [0] [] rfl rfl rfl (m_isHereG l g o a th hi ac tp x_27 x_28 x_29 fl x_30 x_31 x_32 x_33 fm_10 fk fa fc ft ff_34 fb_35 fi x_26 (⟨i36.1, n103⟩)) (cwV 1 hts (zgL (zl4 k846 k847 k848 k839) k841) rfl rfl rfl (by decide +kernel) ⟨Nat.le_of_ble_eq_true rfl, Nat.le_of_ble_eq_true rfl⟩) rfl rfl rfl rfl (Nat.le_of_ble_eq_true rfl) dX12_goes_34 ⟨(Nat.le_of_ble_eq_true rfl), (Nat.le_of_ble_eq_true rfl)⟩ (fun q_105 H locs hq106 hP hD hS => ?_)
              replace hq106 : (q_105 = 1 ∧ (zV fm_10 3 x_26.toInt.toNat).toInt = -1 ∨ q_105 = 0 ∧ ¬ (zV fm_10 3 x_26.toInt.toNat).toInt = -1) := hq106
              have hP : va_P g.1 vwCl (List.flatten [bMo g o a th hi ac tp x_27 x_28 x_29 fl x_30 x_31 x_32 x_33 fm_10 fk fa fc ft ff_34 fb_35 fi]) H := hP
              have hD : va_D A (List.flatten [bMo g o a th hi ac tp x_27 x_28 x_29 fl x_30 x_31 x_32 x_33 fm_10 fk fa fc ft ff_34 fb_35 fi]) := hD
              refine W.widen (k := 0) (n := 0) (Nat.le_of_ble_eq_true rfl) (Nat.le_of_ble_eq_true rfl) ?_
              refine W.eq (g2 := F0 m 37 ls [.int q_105, .int x_26, .ref (a 6)]) rfl ?_
              rcases hq106 with ⟨rfl, hq106_k⟩ | ⟨rfl, hq106_k⟩
              · skip
                refine lv_if_eq (tgt := 56) hx hb dX12_goes_37 (by decide) (fun c107 => absurd c107 (by decide)) (fun _ => ?_)
                refine lv_aload_n hx hb dX12_goes_40 rfl (lv_at hl 0 rfl) ?_
                refine lv_iload hx hb dX12_goes_41 (lv_at hl 5 rfl) ?_
                refine mcallV' (g := g) (q0 := 0) (ci := 10) (As := [.int x_26]) (rest := [.int x_26, .ref (a 6)]) St hK hT hA hP hD hS hl.1 [0] [] rfl rfl rfl (m_pullG l g o a th hi ac tp x_27 x_28 x_29 fl x_30 x_31 x_32 x_33 fm_10 fk fa fc ft ff_34 fb_35 fi x_26 rfm_10 (by first | assumption | omega | decide) i18) (cwV 1 hts (zgL (zl4 k1016 k1017 k1018 k839) k871) rfl rfl rfl (by decide +kernel) ⟨Nat.le_of_ble_eq_true rfl, Nat.le_of_ble_eq_true rfl⟩) rfl rfl rfl rfl (Nat.le_of_ble_eq_true rfl) dX12_goes_43 ⟨(Nat.le_of_ble_eq_true rfl), (Nat.le_of_ble_eq_true rfl)⟩ (fun _u H locs hq108 hP hD hS => ?_)
                have hP : va_P g.1 vwCl (List.flatten [bMo g o a th hi ac tp x_27 x_28 x_29 fl x_30 x_31 x_32 x_33 fm_10 fk fa fc ft ff_34 fb_35 fi]) H := hP
                have hD : va_D A (List.flatten [bMo g o a th hi ac tp x_27 x_28 x_29 fl x_30 x_31 x_32 x_33 fm_10 fk fa fc ft ff_34 fb_35 fi]) := hD
                refine W.widen (k := 0) (n := 0) (Nat.le_of_ble_eq_true rfl) (Nat.le_of_ble_eq_true rfl) ?_
                refine W.eq (g2 := F0 m 46 ls [.int (zPull (zV fm_10) (fm_10 3).toInt.toNat x_26.toInt.toNat), .int x_26, .ref (a 6)]) rfl ?_
                refine lv_aload_n hx hb dX12_goes_46 rfl (lv_at hl 0 rfl) ?_
                refine lv_iload hx hb dX12_goes_47 (lv_at hl 5 rfl) ?_
                refine mcallV' (g := g) (q0 := 0) (ci := 10) (As := [.int x_26]) (rest := [.int (zPull (zV fm_10) (fm_10 3).toInt.toNat x_26.toInt.toNat), .int x_26, .ref (a 6)]) St hK hT hA hP hD hS hl.1 [0] [] rfl rfl rfl (m_turnsByG l g o a th hi ac tp x_27 x_28 x_29 fl x_30 x_31 x_32 x_33 fm_10 fk fa fc ft ff_34 fb_35 fi x_26 L (by first | assumption | omega | decide) (by first | assumption | omega | decide) (by first | assumption | omega | decide) (by first | assumption | omega | decide) (zLm_k hL i17)) (cwV 1 hts (zgL (zl4 k1019 k1020 k1021 k839) k996) rfl rfl rfl (by decide +kernel) ⟨Nat.le_of_ble_eq_true rfl, Nat.le_of_ble_eq_true rfl⟩) rfl rfl rfl rfl (Nat.le_of_ble_eq_true rfl) dX12_goes_49 ⟨(Nat.le_of_ble_eq_true rfl), (Nat.le_of_ble_eq_true rfl)⟩ (fun u_ H locs hq117 hP hD hS => ?_)
                obtain ⟨ba2_109, en2_110, at2_111, de2_112, iD2_113, iO2_114, tU2_115, ff2_116⟩ := u_
                replace hq117 : (0 ≤ iO2_114.toInt ∧ iO2_114.toInt ≤ 1) ∧ (0 ≤ iD2_113.toInt ∧ iD2_113.toInt ≤ 1) := hq117
                have hP : va_P g.1 vwCl (List.flatten [bMo g o a th hi ac tp ba2_109 en2_110 at2_111 fl de2_112 iD2_113 iO2_114 tU2_115 fm_10 fk fa fc ft ff2_116 fb_35 fi]) H := hP
                have hD : va_D A (List.flatten [bMo g o a th hi ac tp ba2_109 en2_110 at2_111 fl de2_112 iD2_113 iO2_114 tU2_115 fm_10 fk fa fc ft ff2_116 fb_35 fi]) := hD
                refine W.widen (k := 0) (n := 0) (Nat.le_of_ble_eq_true rfl) (Nat.le_of_ble_eq_true rfl) ?_
                refine W.eq (g2 := F0 m 52 ls [.int (L (zEnv (zV fm_10) (fm_10 3).toInt.toNat (fm_10 4).toInt.toNat (fm_10 8) x_26.toInt.toNat)), .int (zPull (zV fm_10) (fm_10 3).toInt.toNat x_26.toInt.toNat), .int x_26, .ref (a 6)]) rfl ?_
                obtain ⟨hq117_0, hq117_1⟩ := hq117
                refine lv_iadd hx hb dX12_goes_52 ?_
                refine lv_goto (tgt := 57) hx hb dX12_goes_53 (by decide) ?_
                refine va_iast hx hb hK hP hD hS 7 0 rfl rfl (zinK (a := 0) (b := 7) i36.1 n103 (by decide)) dX12_goes_57 (fun H locs hP hD hS => ?_)
                obtain ⟨fb_118, efb_118, hP, hD⟩ : ∃ fb_118 : Nat → Int32, fb_118 = upd fb_35 x_26.toInt.toNat ((zPull (zV fm_10) (fm_10 3).toInt.toNat x_26.toInt.toNat) + (L (zEnv (zV fm_10) (fm_10 3).toInt.toNat (fm_10 4).toInt.toNat (fm_10 8) x_26.toInt.toNat))) ∧ va_P g.1 vwCl (List.flatten [bMo g o a th hi ac tp ba2_109 en2_110 at2_111 fl de2_112 iD2_113 iO2_114 tU2_115 fm_10 fk fa fc ft ff2_116 fb_118 fi]) H ∧ va_D A (List.flatten [bMo g o a th hi ac tp ba2_109 en2_110 at2_111 fl de2_112 iD2_113 iO2_114 tU2_115 fm_10 fk fa fc ft ff2_116 fb_118 fi]) := ⟨upd fb_35 x_26.toNatClampNeg ((zPull (zV fm_10) (fm_10 3).toInt.toNat x_26.toInt.toNat) + (L (zEnv (zV fm_10) (fm_10 3).toInt.toNat (fm_10 4).toInt.toNat (fm_10 8) x_26.toInt.toNat))), rfl, hP, hD⟩
                refine ziinc3 (n' := 1) (a' := 1) (b' := 8) (lv' := fun v9 => [(5, .int v9), (0, .ref o), (1, .int n), (2, .int 0), (3, .int x_1), (4, .int x_2)]) hx hb dX12_goes_58 hl (k := 5) rfl (by decide) (fun _ => rfl) (zaddK (i := x_26.toInt) (j := 1) rfl (by decide) i36.1 n103 (Int.le_refl _) (Int.le_refl _) (by decide)) (fun x_119 ls hx_119 hl => ?_)
                refine lv_goto (tgt := 14) hx hb dX12_goes_61 (by decide) ?_
                have hl := lv_sub (l' := [(0, .ref o), (1, .int n), (2, .int 0), (3, .int x_1), (4, .int x_2), (5, .int x_119)]) hl [1, 2, 3, 4, 5, 0] rfl
                have hP : va_P g.1 vwCl (List.flatten [bMo g o a th hi ac tp ba2_109 en2_110 at2_111 fl de2_112 iD2_113 iO2_114 tU2_115 fm_10 fk fa fc ft ff2_116 fb_118 fi]) H := hP
                have hD : va_D A (List.flatten [bMo g o a th hi ac tp ba2_109 en2_110 at2_111 fl de2_112 iD2_113 iO2_114 tU2_115 fm_10 fk fa fc ft ff2_116 fb_118 fi]) := hD
                exact ih14_42 x_119 ba2_109 en2_110 at2_111 de2_112 iD2_113 iO2_114 tU2_115 ff2_116 fb_118 ⟨(Int.le_trans (by decide) hx_119.2.1), hx_119.2.2⟩ ⟨hq117_1.1, hq117_1.2⟩ ⟨hq117_0.1, hq117_0.2⟩ (zBy_s i39 efb_118 hx_119.1 (by omega) (zBv_t hq106_k)) (by first | omega | assumption | decide) H _ ls (zmK hx_119.1 (by decide) n103 (by decide) hk14_42)  hP hD hS (lv_sub hl [0, 1, 2, 3, 4, 5] rfl)
              · skip
                refine lv_if_eq (tgt := 56) hx hb dX12_goes_37 (by decide) (fun _ => ?_) (fun c120 => absurd (by decide) c120)
                refine lv_iconst (v := 0) hx hb dX12_goes_56 (by decide) ?_
                refine va_iast hx hb hK hP hD hS 7 0 rfl rfl (zinK (a := 0) (b := 7) i36.1 n103 (by decide)) dX12_goes_57 (fun H locs hP hD hS => ?_)
                obtain ⟨fb_121, efb_121, hP, hD⟩ : ∃ fb_121 : Nat → Int32, fb_121 = upd fb_35 x_26.toInt.toNat 0 ∧ va_P g.1 vwCl (List.flatten [bMo g o a th hi ac tp x_27 x_28 x_29 fl x_30 x_31 x_32 x_33 fm_10 fk fa fc ft ff_34 fb_121 fi]) H ∧ va_D A (List.flatten [bMo g o a th hi ac tp x_27 x_28 x_29 fl x_30 x_31 x_32 x_33 fm_10 fk fa fc ft ff_34 fb_121 fi]) := ⟨upd fb_35 x_26.toNatClampNeg 0, rfl, hP, hD⟩
                refine ziinc3 (n' := 1) (a' := 1) (b' := 8) (lv' := fun v9 => [(5, .int v9), (0, .ref o), (1, .int n), (2, .int 0), (3, .int x_1), (4, .int x_2)]) hx hb dX12_goes_58 hl (k := 5) rfl (by decide) (fun _ => rfl) (zaddK (i := x_26.toInt) (j := 1) rfl (by decide) i36.1 n103 (Int.le_refl _) (Int.le_refl _) (by decide)) (fun x_122 ls hx_122 hl => ?_)
                refine lv_goto (tgt := 14) hx hb dX12_goes_61 (by decide) ?_
                have hl := lv_sub (l' := [(0, .ref o), (1, .int n), (2, .int 0), (3, .int x_1), (4, .int x_2), (5, .int x_122)]) hl [1, 2, 3, 4, 5, 0] rfl
                have hP : va_P g.1 vwCl (List.flatten [bMo g o a th hi ac tp x_27 x_28 x_29 fl x_30 x_31 x_32 x_33 fm_10 fk fa fc ft ff_34 fb_121 fi]) H := hP
                have hD : va_D A (List.flatten [bMo g o a th hi ac tp x_27 x_28 x_29 fl x_30 x_31 x_32 x_33 fm_10 fk fa fc ft ff_34 fb_121 fi]) := hD
                exact ih14_42 x_122 x_27 x_28 x_29 x_30 x_31 x_32 x_33 ff_34 fb_121 ⟨(Int.le_trans (by decide) hx_122.2.1), hx_122.2.2⟩ ⟨i37.1, i37.2⟩ ⟨i38.1, i38.2⟩ (zBy_s i39 efb_121 hx_122.1 (by omega) (zBv_f hq106_k)) (by first | omega | assumption | decide) H _ ls (zmK hx_122.1 (by decide) n103 (by decide) hk14_42)  hP hD hS (lv_sub hl [0, 1, 2, 3, 4, 5] rfl)
        have hL0 : (0 : Int32).toInt = 0 := by decide
        have hP : va_P g.1 vwCl (List.flatten [bMo g o a th hi ac tp x_3 x_4 x_5 fl x_6 x_7 x_8 x_9 fm_10 fk fa fc ft ff_11 fb_12 fi]) H := hP
        have hD : va_D A (List.flatten [bMo g o a th hi ac tp x_3 x_4 x_5 fl x_6 x_7 x_8 x_9 fm_10 fk fa fc ft ff_11 fb_12 fi]) := hD
        exact LP14_41 _ 0 x_3 x_4 x_5 x_6 x_7 x_8 x_9 ff_11 fb_12 (by decide) ⟨i14.1, i14.2⟩ ⟨i15.1, i15.2⟩ (zBy_0 (by decide)) (by rw [zi0]; exact (rM3 rfm_10).1) H _ ls (Nat.lt_succ_self _)  hP hD hS (lv_sub hl [0, 1, 2, 3, 4, 5] rfl)
  have hL0 : (0 : Int32).toInt = 0 := by decide
  have hP : va_P g.1 vwCl (List.flatten [bMo g o a th hi ac tp ba en tA fl de iD iO tU fm fk fa fc ft ff fb fi]) s.heap := hP
  have hD : va_D A (List.flatten [bMo g o a th hi ac tp ba en tA fl de iD iO tU fm fk fa fc ft ff fb fi]) := hD
  exact LP5_20 _ 0 0 ba en tA de iD iO tU fm ff fb (by decide) ⟨hiD.1, hiD.2⟩ ⟨hiO.1, hiO.2⟩ rfm (zNds_0 (by decide)) (zGk_r _) hrg (by first | omega | assumption | decide) s.heap _ ls (Nat.lt_succ_self _)  hP hD hS (lv_sub hl [0, 1, 2, 3, 4] rfl)
set_option maxRecDepth 100000 in
set_option maxHeartbeats 4000000 in
theorem m_goes1G (l : Launch) (g : zG) (o : Nat) (a : Nat → Nat) (th : Int32) (hi : Int32) (ac : Int32) (tp : Int32) (ba : Int32) (en : Int32) (tA : Int32) (fl : Int32) (de : Int32) (iD : Int32) (iO : Int32) (tU : Int32) (fm : Nat → Int32) (fk : Nat → Int32) (fa : Nat → Int32) (fc : Nat → Int32) (ft : Nat → Int32) (ff : Nat → Int32) (fb : Nat → Int32) (fi : Nat → Int32) (n : Int32) (L : zLw) (rfm : rM fm) (hiD : 0 ≤ iD.toInt ∧ iD.toInt ≤ 1) (hiO : 0 ≤ iO.toInt ∧ iO.toInt ≤ 1) (b_n : 0 ≤ n.toInt ∧ n.toInt ≤ 100) (hrg : zRg (zV fm)) (hL : zLm L fm) : zM' g l yX12_goes (Cond.code yX12_goes cX12_goes 6 (some .int) :: zB) ({ frames := 32, cells := 0, slots := 0, locals := 711 } : Room) [.ref o, .int n, .int 1] [bMo g o a th hi ac tp ba en tA fl de iD iO tU fm fk fa fc ft ff fb fi] (fun u : Int32 × Int32 × Int32 × Int32 × Int32 × Int32 × Int32 × (Nat → Int32) × (Nat → Int32) × (Nat → Int32) × Int32 => (fun (ba2 : Int32) (en2 : Int32) (at2 : Int32) (de2 : Int32) (iD2 : Int32) (iO2 : Int32) (tU2 : Int32) (ff2 : Nat → Int32) (fm2 : Nat → Int32) (fb2 : Nat → Int32) (q : Int32) => some (.int q)) (u.1) (u.2.1) (u.2.2.1) (u.2.2.2.1) (u.2.2.2.2.1) (u.2.2.2.2.2.1) (u.2.2.2.2.2.2.1) (u.2.2.2.2.2.2.2.1) (u.2.2.2.2.2.2.2.2.1) (u.2.2.2.2.2.2.2.2.2.1) (u.2.2.2.2.2.2.2.2.2.2)) (fun u : Int32 × Int32 × Int32 × Int32 × Int32 × Int32 × Int32 × (Nat → Int32) × (Nat → Int32) × (Nat → Int32) × Int32 => (fun (ba2 : Int32) (en2 : Int32) (at2 : Int32) (de2 : Int32) (iD2 : Int32) (iO2 : Int32) (tU2 : Int32) (ff2 : Nat → Int32) (fm2 : Nat → Int32) (fb2 : Nat → Int32) (q : Int32) => (rM fm2) ∧ (0 ≤ iO2.toInt ∧ iO2.toInt ≤ 1) ∧ (0 ≤ iD2.toInt ∧ iD2.toInt ≤ 1) ∧ (zNR ((fm2 5, fm2 8, fm2 10, zV fm2), q) (zNds L (fm 3).toInt.toNat (fm 4).toInt.toNat (fm 7) 1 n.toInt.toNat (fm 5, fm 8, fm 10, zV fm))) ∧ (zGk fm fm2)) (u.1) (u.2.1) (u.2.2.1) (u.2.2.2.1) (u.2.2.2.2.1) (u.2.2.2.2.2.1) (u.2.2.2.2.2.2.1) (u.2.2.2.2.2.2.2.1) (u.2.2.2.2.2.2.2.2.1) (u.2.2.2.2.2.2.2.2.2.1) (u.2.2.2.2.2.2.2.2.2.2)) (fun u : Int32 × Int32 × Int32 × Int32 × Int32 × Int32 × Int32 × (Nat → Int32) × (Nat → Int32) × (Nat → Int32) × Int32 => (fun (ba2 : Int32) (en2 : Int32) (at2 : Int32) (de2 : Int32) (iD2 : Int32) (iO2 : Int32) (tU2 : Int32) (ff2 : Nat → Int32) (fm2 : Nat → Int32) (fb2 : Nat → Int32) (q : Int32) => [bMo g o a th hi ac tp ba2 en2 at2 fl de2 iD2 iO2 tU2 fm2 fk fa fc ft ff2 fb2 fi]) (u.1) (u.2.1) (u.2.2.1) (u.2.2.2.1) (u.2.2.2.2.1) (u.2.2.2.2.2.1) (u.2.2.2.2.2.2.1) (u.2.2.2.2.2.2.2.1) (u.2.2.2.2.2.2.2.2.1) (u.2.2.2.2.2.2.2.2.2.1) (u.2.2.2.2.2.2.2.2.2.2)) := by
  refine zM'.of (cc := cX12_goes) (maxL := 6) (rt := (some .int)) (by decide) rfl (Nat.le_of_ble_eq_true rfl) ?_
  intro p e s m args below meth c A ls St hr hlocks hin hK hT hA hP hD hS hl
  obtain ⟨hx, hb, hml, hown, hts⟩ := id St
  have hl : lv_has ls 6 [(0, .ref o), (1, .int n), (2, .int 1)] := hl
  have hrm3 := rM3 rfm
  have hrm4 := rM4 rfm
  refine lv_iconst (v := 0) hx hb dX12_goes_0 (by decide) ?_
  refine lv_istore_n (lv' := [(3, .int 0), (0, .ref o), (1, .int n), (2, .int 1)]) hx hb dX12_goes_1 rfl hl (by decide) rfl (fun ls hl => ?_)
  refine lv_iconst (v := 0) hx hb dX12_goes_2 (by decide) ?_
  refine lv_istore (lv' := [(4, .int 0), (3, .int 0), (0, .ref o), (1, .int n), (2, .int 1)]) hx hb dX12_goes_3 hl (by decide) rfl (fun ls hl => ?_)
  have hl := lv_sub (l' := [(0, .ref o), (1, .int n), (2, .int 1), (3, .int 0), (4, .int 0)]) hl [2, 3, 4, 1, 0] rfl
  have LP5_20 : ∀ (kf : Nat) (x_1 : Int32) (x_2 : Int32) (x_3 : Int32) (x_4 : Int32) (x_5 : Int32) (x_6 : Int32) (x_7 : Int32) (x_8 : Int32) (x_9 : Int32) (fm_10 : Nat → Int32) (ff_11 : Nat → Int32) (fb_12 : Nat → Int32), (0 ≤ x_2.toInt ∧ x_2.toInt ≤ 100) → (0 ≤ x_7.toInt ∧ x_7.toInt ≤ 1) → (0 ≤ x_8.toInt ∧ x_8.toInt ≤ 1) → (rM fm_10) → (zNR ((fm_10 5, fm_10 8, fm_10 10, zV fm_10), x_1) (zNds L (fm 3).toInt.toNat (fm 4).toInt.toNat (fm 7) 1 x_2.toInt.toNat (fm 5, fm 8, fm 10, zV fm))) → (zGk fm fm_10) → (zRg (zV fm_10)) → (x_2.toInt ≤ n.toInt) → ∀ (H : Heap) (locs : List Loc) (ls : Array Slot), ((101 - x_2.toInt).toNat) < kf → va_P g.1 vwCl (List.flatten [bMo g o a th hi ac tp x_3 x_4 x_5 fl x_6 x_7 x_8 x_9 fm_10 fk fa fc ft ff_11 fb_12 fi]) H → va_D A (List.flatten [bMo g o a th hi ac tp x_3 x_4 x_5 fl x_6 x_7 x_8 x_9 fm_10 fk fa fc ft ff_11 fb_12 fi]) → va_S A s.heap H locs → lv_has ls 6 [(0, .ref o), (1, .int n), (2, .int 1), (3, .int x_1), (4, .int x_2)] → W p l e ({ frames := 32, cells := 0, slots := 0, locals := 711 } : Room) s m args below meth c H locs (0) (0) (zF g (fun u : Int32 × Int32 × Int32 × Int32 × Int32 × Int32 × Int32 × (Nat → Int32) × (Nat → Int32) × (Nat → Int32) × Int32 => (fun (ba2 : Int32) (en2 : Int32) (at2 : Int32) (de2 : Int32) (iD2 : Int32) (iO2 : Int32) (tU2 : Int32) (ff2 : Nat → Int32) (fm2 : Nat → Int32) (fb2 : Nat → Int32) (q : Int32) => some (.int q)) (u.1) (u.2.1) (u.2.2.1) (u.2.2.2.1) (u.2.2.2.2.1) (u.2.2.2.2.2.1) (u.2.2.2.2.2.2.1) (u.2.2.2.2.2.2.2.1) (u.2.2.2.2.2.2.2.2.1) (u.2.2.2.2.2.2.2.2.2.1) (u.2.2.2.2.2.2.2.2.2.2)) (fun u : Int32 × Int32 × Int32 × Int32 × Int32 × Int32 × Int32 × (Nat → Int32) × (Nat → Int32) × (Nat → Int32) × Int32 => (fun (ba2 : Int32) (en2 : Int32) (at2 : Int32) (de2 : Int32) (iD2 : Int32) (iO2 : Int32) (tU2 : Int32) (ff2 : Nat → Int32) (fm2 : Nat → Int32) (fb2 : Nat → Int32) (q : Int32) => (rM fm2) ∧ (0 ≤ iO2.toInt ∧ iO2.toInt ≤ 1) ∧ (0 ≤ iD2.toInt ∧ iD2.toInt ≤ 1) ∧ (zNR ((fm2 5, fm2 8, fm2 10, zV fm2), q) (zNds L (fm 3).toInt.toNat (fm 4).toInt.toNat (fm 7) 1 n.toInt.toNat (fm 5, fm 8, fm 10, zV fm))) ∧ (zGk fm fm2)) (u.1) (u.2.1) (u.2.2.1) (u.2.2.2.1) (u.2.2.2.2.1) (u.2.2.2.2.2.1) (u.2.2.2.2.2.2.1) (u.2.2.2.2.2.2.2.1) (u.2.2.2.2.2.2.2.2.1) (u.2.2.2.2.2.2.2.2.2.1) (u.2.2.2.2.2.2.2.2.2.2)) (fun u : Int32 × Int32 × Int32 × Int32 × Int32 × Int32 × Int32 × (Nat → Int32) × (Nat → Int32) × (Nat → Int32) × Int32 => (fun (ba2 : Int32) (en2 : Int32) (at2 : Int32) (de2 : Int32) (iD2 : Int32) (iO2 : Int32) (tU2 : Int32) (ff2 : Nat → Int32) (fm2 : Nat → Int32) (fb2 : Nat → Int32) (q : Int32) => [bMo g o a th hi ac tp ba2 en2 at2 fl de2 iD2 iO2 tU2 fm2 fk fa fc ft ff2 fb2 fi]) (u.1) (u.2.1) (u.2.2.1) (u.2.2.2.1) (u.2.2.2.2.1) (u.2.2.2.2.2.1) (u.2.2.2.2.2.2.1) (u.2.2.2.2.2.2.2.1) (u.2.2.2.2.2.2.2.2.1) (u.2.2.2.2.2.2.2.2.2.1) (u.2.2.2.2.2.2.2.2.2.2)) ({ frames := 32, cells := 0, slots := 0, locals := 711 } : Room) below args s A) (F0 m 5 ls []) := by
    intro kf
    induction kf with
    | zero => intro x_1 x_2 x_3 x_4 x_5 x_6 x_7 x_8 x_9 fm_10 ff_11 fb_12 i13 i14 i15 rfm_10 i16 i17 i18 i19 H locs ls hk; exact absurd hk (Nat.not_lt_zero _)
    | succ kf ih5_21 =>
      intro x_1 x_2 x_3 x_4 x_5 x_6 x_7 x_8 x_9 fm_10 ff_11 fb_12 i13 i14 i15 rfm_10 i16 i17 i18 i19 H locs ls hk5_21 hP hD hS hl
      refine lv_iload hx hb dX12_goes_5 (lv_at hl 4 rfl) ?_
      refine lv_iload_n hx hb dX12_goes_7 rfl (lv_at hl 1 rfl) ?_
      refine lv_icmp_ge (tgt := 194) hx hb dX12_goes_8 (by decide) (fun cb9 => ?_) (fun cb9 => ?_)
      · skip
        have c22 : n.toInt ≤ x_2.toInt := zle cb9 rfl rfl
        refine lv_iload_n hx hb dX12_goes_194 rfl (lv_at hl 3 rfl) ?_
        have hP : va_P g.1 vwCl (List.flatten [bMo g o a th hi ac tp x_3 x_4 x_5 fl x_6 x_7 x_8 x_9 fm_10 fk fa fc ft ff_11 fb_12 fi]) H := hP
        have hD : va_D A (List.flatten [bMo g o a th hi ac tp x_3 x_4 x_5 fl x_6 x_7 x_8 x_9 fm_10 fk fa fc ft ff_11 fb_12 fi]) := hD
        exact mret_i hx hb hr hlocks hS (Nat.le_of_ble_eq_true rfl) (Nat.le_of_ble_eq_true rfl) dX12_goes_195 (x_3, x_4, x_5, x_6, x_7, x_8, x_9, ff_11, fm_10, fb_12, x_1) rfl (show (rM fm_10) ∧ (0 ≤ x_8.toInt ∧ x_8.toInt ≤ 1) ∧ (0 ≤ x_7.toInt ∧ x_7.toInt ≤ 1) ∧ (zNR ((fm_10 5, fm_10 8, fm_10 10, zV fm_10), x_1) (zNds L (fm 3).toInt.toNat (fm 4).toInt.toNat (fm 7) 1 n.toInt.toNat (fm 5, fm 8, fm 10, zV fm))) ∧ (zGk fm fm_10) from ⟨(by first | assumption | omega | decide), (by first | assumption | omega | decide), (by first | assumption | omega | decide), (zNds_x i16 (by omega)), i17⟩) hP hD
      · skip
        have c23 : x_2.toInt < n.toInt := zlti (Int32.not_le.mp cb9) rfl rfl
        have n24 : x_2.toInt ≤ 99 := zL1 (b := 100) c23 b_n.2 (by decide)
        have n25 : 1 ≤ n.toInt := zL2 (a := 0) c23 i13.1 (by decide)
        refine lv_iconst (v := 0) hx hb dX12_goes_11 (by decide) ?_
        refine lv_istore (lv' := [(5, .int 0), (0, .ref o), (1, .int n), (2, .int 1), (3, .int x_1), (4, .int x_2)]) hx hb dX12_goes_12 hl (by decide) rfl (fun ls hl => ?_)
        have hl := lv_sub (l' := [(0, .ref o), (1, .int n), (2, .int 1), (3, .int x_1), (4, .int x_2), (5, .int 0)]) hl [1, 2, 3, 4, 5, 0] rfl
        have LP14_41 : ∀ (kf : Nat) (x_26 : Int32) (x_27 : Int32) (x_28 : Int32) (x_29 : Int32) (x_30 : Int32) (x_31 : Int32) (x_32 : Int32) (x_33 : Int32) (ff_34 : Nat → Int32) (fb_35 : Nat → Int32), (0 ≤ x_26.toInt ∧ x_26.toInt ≤ 8) → (0 ≤ x_31.toInt ∧ x_31.toInt ≤ 1) → (0 ≤ x_32.toInt ∧ x_32.toInt ≤ 1) → (zByg (zBvg L (zV fm_10) (fm_10 3).toInt.toNat (fm_10 4).toInt.toNat (fm_10 8)) fb_35 x_26.toInt) → (x_26.toInt ≤ (fm_10 3).toInt) → ∀ (H : Heap) (locs : List Loc) (ls : Array Slot), ((9 - x_26.toInt).toNat) < kf → va_P g.1 vwCl (List.flatten [bMo g o a th hi ac tp x_27 x_28 x_29 fl x_30 x_31 x_32 x_33 fm_10 fk fa fc ft ff_34 fb_35 fi]) H → va_D A (List.flatten [bMo g o a th hi ac tp x_27 x_28 x_29 fl x_30 x_31 x_32 x_33 fm_10 fk fa fc ft ff_34 fb_35 fi]) → va_S A s.heap H locs → lv_has ls 6 [(0, .ref o), (1, .int n), (2, .int 1), (3, .int x_1), (4, .int x_2), (5, .int x_26)] → W p l e ({ frames := 32, cells := 0, slots := 0, locals := 711 } : Room) s m args below meth c H locs (0) (0) (zF g (fun u : Int32 × Int32 × Int32 × Int32 × Int32 × Int32 × Int32 × (Nat → Int32) × (Nat → Int32) × (Nat → Int32) × Int32 => (fun (ba2 : Int32) (en2 : Int32) (at2 : Int32) (de2 : Int32) (iD2 : Int32) (iO2 : Int32) (tU2 : Int32) (ff2 : Nat → Int32) (fm2 : Nat → Int32) (fb2 : Nat → Int32) (q : Int32) => some (.int q)) (u.1) (u.2.1) (u.2.2.1) (u.2.2.2.1) (u.2.2.2.2.1) (u.2.2.2.2.2.1) (u.2.2.2.2.2.2.1) (u.2.2.2.2.2.2.2.1) (u.2.2.2.2.2.2.2.2.1) (u.2.2.2.2.2.2.2.2.2.1) (u.2.2.2.2.2.2.2.2.2.2)) (fun u : Int32 × Int32 × Int32 × Int32 × Int32 × Int32 × Int32 × (Nat → Int32) × (Nat → Int32) × (Nat → Int32) × Int32 => (fun (ba2 : Int32) (en2 : Int32) (at2 : Int32) (de2 : Int32) (iD2 : Int32) (iO2 : Int32) (tU2 : Int32) (ff2 : Nat → Int32) (fm2 : Nat → Int32) (fb2 : Nat → Int32) (q : Int32) => (rM fm2) ∧ (0 ≤ iO2.toInt ∧ iO2.toInt ≤ 1) ∧ (0 ≤ iD2.toInt ∧ iD2.toInt ≤ 1) ∧ (zNR ((fm2 5, fm2 8, fm2 10, zV fm2), q) (zNds L (fm 3).toInt.toNat (fm 4).toInt.toNat (fm 7) 1 n.toInt.toNat (fm 5, fm 8, fm 10, zV fm))) ∧ (zGk fm fm2)) (u.1) (u.2.1) (u.2.2.1) (u.2.2.2.1) (u.2.2.2.2.1) (u.2.2.2.2.2.1) (u.2.2.2.2.2.2.1) (u.2.2.2.2.2.2.2.1) (u.2.2.2.2.2.2.2.2.1) (u.2.2.2.2.2.2.2.2.2.1) (u.2.2.2.2.2.2.2.2.2.2)) (fun u : Int32 × Int32 × Int32 × Int32 × Int32 × Int32 × Int32 × (Nat → Int32) × (Nat → Int32) × (Nat → Int32) × Int32 => (fun (ba2 : Int32) (en2 : Int32) (at2 : Int32) (de2 : Int32) (iD2 : Int32) (iO2 : Int32) (tU2 : Int32) (ff2 : Nat → Int32) (fm2 : Nat → Int32) (fb2 : Nat → Int32) (q : Int32) => [bMo g o a th hi ac tp ba2 en2 at2 fl de2 iD2 iO2 tU2 fm2 fk fa fc ft ff2 fb2 fi]) (u.1) (u.2.1) (u.2.2.1) (u.2.2.2.1) (u.2.2.2.2.1) (u.2.2.2.2.2.1) (u.2.2.2.2.2.2.1) (u.2.2.2.2.2.2.2.1) (u.2.2.2.2.2.2.2.2.1) (u.2.2.2.2.2.2.2.2.2.1) (u.2.2.2.2.2.2.2.2.2.2)) ({ frames := 32, cells := 0, slots := 0, locals := 711 } : Room) below args s A) (F0 m 14 ls []) := by
          intro kf
          induction kf with
          | zero => intro x_26 x_27 x_28 x_29 x_30 x_31 x_32 x_33 ff_34 fb_35 i36 i37 i38 i39 i40 H locs ls hk; exact absurd hk (Nat.not_lt_zero _)
          | succ kf ih14_42 =>
            intro x_26 x_27 x_28 x_29 x_30 x_31 x_32 x_33 ff_34 fb_35 i36 i37 i38 i39 i40 H locs ls hk14_42 hP hD hS hl
            have w43 : (fm_10 3).toInt = (fm 3).toInt := congrArg Int32.toInt (i17 3 (by decide))
            refine lv_iload hx hb dX12_goes_14 (lv_at hl 5 rfl) ?_
            refine lv_aload_n hx hb dX12_goes_16 rfl (lv_at hl 0 rfl) ?_
            refine va_get (D := g.1) (ci := 10) (v := .ref (a 0)) (C := RX12) (T := TX12) (N := 20) hx hb hts izRX12 hown hK hP 0 rfl rfl 1 (by decide) (hts _ k815) (fun _ h9 => h9) rfl dX12_goes_17 ?_
            refine lv_iconst (v := 3) hx hb dX12_goes_20 (by decide) ?_
            refine va_iald hx hb hK hP 1 0 rfl rfl (zin rfl) dX12_goes_21 ?_
            refine ztop (r := (fm_10 3)) rfl ?_
            refine lv_icmp_ge (tgt := 64) hx hb dX12_goes_22 (by decide) (fun cb9 => ?_) (fun cb9 => ?_)
            · skip
              have c44 : (fm_10 3).toInt ≤ x_26.toInt := zle cb9 rfl rfl
              refine lv_iconst (v := 0) hx hb dX12_goes_64 (by decide) ?_
              refine lv_istore (lv' := [(5, .int 0), (0, .ref o), (1, .int n), (2, .int 1), (3, .int x_1), (4, .int x_2)]) hx hb dX12_goes_65 hl (by decide) rfl (fun ls hl => ?_)
              have hl := lv_sub (l' := [(0, .ref o), (1, .int n), (2, .int 1), (3, .int x_1), (4, .int x_2), (5, .int 0)]) hl [1, 2, 3, 4, 5, 0] rfl
              have LP67_50 : ∀ (kf : Nat) (x_45 : Int32) (fm_46 : Nat → Int32), (0 ≤ x_45.toInt ∧ x_45.toInt ≤ 8) → (rM fm_46) → (zBl fm_10 fm_46 (zTbR L (zV fm_10) (fm_10 3).toInt.toNat (fm_10 4).toInt.toNat (fm_10 8)) x_45.toInt) → (x_45.toInt ≤ (fm_10 3).toInt) → ∀ (H : Heap) (locs : List Loc) (ls : Array Slot), ((9 - x_45.toInt).toNat) < kf → va_P g.1 vwCl (List.flatten [bMo g o a th hi ac tp x_27 x_28 x_29 fl x_30 x_31 x_32 x_33 fm_46 fk fa fc ft ff_34 fb_35 fi]) H → va_D A (List.flatten [bMo g o a th hi ac tp x_27 x_28 x_29 fl x_30 x_31 x_32 x_33 fm_46 fk fa fc ft ff_34 fb_35 fi]) → va_S A s.heap H locs → lv_has ls 6 [(0, .ref o), (1, .int n), (2, .int 1), (3, .int x_1), (4, .int x_2), (5, .int x_45)] → W p l e ({ frames := 32, cells := 0, slots := 0, locals := 711 } : Room) s m args below meth c H locs (0) (0) (zF g (fun u : Int32 × Int32 × Int32 × Int32 × Int32 × Int32 × Int32 × (Nat → Int32) × (Nat → Int32) × (Nat → Int32) × Int32 => (fun (ba2 : Int32) (en2 : Int32) (at2 : Int32) (de2 : Int32) (iD2 : Int32) (iO2 : Int32) (tU2 : Int32) (ff2 : Nat → Int32) (fm2 : Nat → Int32) (fb2 : Nat → Int32) (q : Int32) => some (.int q)) (u.1) (u.2.1) (u.2.2.1) (u.2.2.2.1) (u.2.2.2.2.1) (u.2.2.2.2.2.1) (u.2.2.2.2.2.2.1) (u.2.2.2.2.2.2.2.1) (u.2.2.2.2.2.2.2.2.1) (u.2.2.2.2.2.2.2.2.2.1) (u.2.2.2.2.2.2.2.2.2.2)) (fun u : Int32 × Int32 × Int32 × Int32 × Int32 × Int32 × Int32 × (Nat → Int32) × (Nat → Int32) × (Nat → Int32) × Int32 => (fun (ba2 : Int32) (en2 : Int32) (at2 : Int32) (de2 : Int32) (iD2 : Int32) (iO2 : Int32) (tU2 : Int32) (ff2 : Nat → Int32) (fm2 : Nat → Int32) (fb2 : Nat → Int32) (q : Int32) => (rM fm2) ∧ (0 ≤ iO2.toInt ∧ iO2.toInt ≤ 1) ∧ (0 ≤ iD2.toInt ∧ iD2.toInt ≤ 1) ∧ (zNR ((fm2 5, fm2 8, fm2 10, zV fm2), q) (zNds L (fm 3).toInt.toNat (fm 4).toInt.toNat (fm 7) 1 n.toInt.toNat (fm 5, fm 8, fm 10, zV fm))) ∧ (zGk fm fm2)) (u.1) (u.2.1) (u.2.2.1) (u.2.2.2.1) (u.2.2.2.2.1) (u.2.2.2.2.2.1) (u.2.2.2.2.2.2.1) (u.2.2.2.2.2.2.2.1) (u.2.2.2.2.2.2.2.2.1) (u.2.2.2.2.2.2.2.2.2.1) (u.2.2.2.2.2.2.2.2.2.2)) (fun u : Int32 × Int32 × Int32 × Int32 × Int32 × Int32 × Int32 × (Nat → Int32) × (Nat → Int32) × (Nat → Int32) × Int32 => (fun (ba2 : Int32) (en2 : Int32) (at2 : Int32) (de2 : Int32) (iD2 : Int32) (iO2 : Int32) (tU2 : Int32) (ff2 : Nat → Int32) (fm2 : Nat → Int32) (fb2 : Nat → Int32) (q : Int32) => [bMo g o a th hi ac tp ba2 en2 at2 fl de2 iD2 iO2 tU2 fm2 fk fa fc ft ff2 fb2 fi]) (u.1) (u.2.1) (u.2.2.1) (u.2.2.2.1) (u.2.2.2.2.1) (u.2.2.2.2.2.1) (u.2.2.2.2.2.2.1) (u.2.2.2.2.2.2.2.1) (u.2.2.2.2.2.2.2.2.1) (u.2.2.2.2.2.2.2.2.2.1) (u.2.2.2.2.2.2.2.2.2.2)) ({ frames := 32, cells := 0, slots := 0, locals := 711 } : Room) below args s A) (F0 m 67 ls []) := by
                intro kf
                induction kf with
                | zero => intro x_45 fm_46 i47 rfm_46 i48 i49 H locs ls hk; exact absurd hk (Nat.not_lt_zero _)
                | succ kf ih67_51 =>
                  intro x_45 fm_46 i47 rfm_46 i48 i49 H locs ls hk67_51 hP hD hS hl
                  have w52 : (fm_10 3).toInt = (fm 3).toInt := congrArg Int32.toInt (i17 3 (by decide))
                  have w53 : (fm_46 3).toInt = (fm_10 3).toInt := congrArg Int32.toInt (i48.1 3 (by decide))
                  refine lv_iload hx hb dX12_goes_67 (lv_at hl 5 rfl) ?_
                  refine lv_aload_n hx hb dX12_goes_69 rfl (lv_at hl 0 rfl) ?_
                  refine va_get (D := g.1) (ci := 10) (v := .ref (a 0)) (C := RX12) (T := TX12) (N := 20) hx hb hts izRX12 hown hK hP 0 rfl rfl 1 (by decide) (hts _ k815) (fun _ h9 => h9) rfl dX12_goes_70 ?_
                  refine lv_iconst (v := 3) hx hb dX12_goes_73 (by decide) ?_
                  refine va_iald hx hb hK hP 1 0 rfl rfl (zin rfl) dX12_goes_74 ?_
                  refine ztop (r := (fm_46 3)) rfl ?_
                  refine lv_icmp_ge (tgt := 106) hx hb dX12_goes_75 (by decide) (fun cb9 => ?_) (fun cb9 => ?_)
                  · skip
                    have c54 : (fm_46 3).toInt ≤ x_45.toInt := zle cb9 rfl rfl
                    refine lv_iload_n hx hb dX12_goes_106 rfl (lv_at hl 3 rfl) ?_
                    refine lv_aload_n hx hb dX12_goes_107 rfl (lv_at hl 0 rfl) ?_
                    refine mcallV' (g := g) (q0 := 0) (ci := 10) (As := []) (rest := [.int x_1]) St hK hT hA hP hD hS hl.1 [0] [] rfl rfl rfl (m_buildG l g o a th hi ac tp x_27 x_28 x_29 fl x_30 x_31 x_32 x_33 fm_46 fk fa fc ft ff_34 fb_35 fi rfm_46) (cwV 0 hts (zgL (zl4 k1022 k1023 k1024 k839) k1008) rfl rfl rfl (by decide +kernel) ⟨Nat.le_of_ble_eq_true rfl, Nat.le_of_ble_eq_true rfl⟩) rfl rfl rfl rfl (Nat.le_of_ble_eq_true rfl) dX12_goes_108 ⟨(Nat.le_of_ble_eq_true rfl), (Nat.le_of_ble_eq_true rfl)⟩ (fun u_ H locs hq57 hP hD hS => ?_)
                    obtain ⟨fm2_55, q_56⟩ := u_
                    replace hq57 : (rM fm2_55) ∧ (zKR (fm2_55 5, zV fm2_55, q_56) (zIt (zKW1 (zBel (zV fm_46) (fm_46 3).toInt.toNat)) (fm_46 5, zV fm_46, 0) (fm_46 4).toInt.toNat)) ∧ (zBk fm_46 fm2_55) := hq57
                    have hP : va_P g.1 vwCl (List.flatten [bMo g o a th hi ac tp x_27 x_28 x_29 fl x_30 x_31 x_32 x_33 fm2_55 fk fa fc ft ff_34 fb_35 fi]) H := hP
                    have hD : va_D A (List.flatten [bMo g o a th hi ac tp x_27 x_28 x_29 fl x_30 x_31 x_32 x_33 fm2_55 fk fa fc ft ff_34 fb_35 fi]) := hD
                    refine W.widen (k := 0) (n := 0) (Nat.le_of_ble_eq_true rfl) (Nat.le_of_ble_eq_true rfl) ?_
                    refine W.eq (g2 := F0 m 111 ls [.int q_56, .int x_1]) rfl ?_
                    obtain ⟨rfm2_55, hq57_1, hq57_2⟩ := hq57
                    refine lv_iadd hx hb dX12_goes_111 ?_
                    refine lv_istore_n (lv' := [(3, .int (x_1 + q_56)), (0, .ref o), (1, .int n), (2, .int 1), (4, .int x_2), (5, .int x_45)]) hx hb dX12_goes_112 rfl hl (by decide) rfl (fun ls hl => ?_)
                    refine lv_iconst (v := 0) hx hb dX12_goes_113 (by decide) ?_
                    refine lv_istore (lv' := [(5, .int 0), (3, .int (x_1 + q_56)), (0, .ref o), (1, .int n), (2, .int 1), (4, .int x_2)]) hx hb dX12_goes_114 hl (by decide) rfl (fun ls hl => ?_)
                    have hl := lv_sub (l' := [(0, .ref o), (1, .int n), (2, .int 1), (3, .int (x_1 + q_56)), (4, .int x_2), (5, .int 0)]) hl [2, 3, 4, 1, 5, 0] rfl
                    have LP116_64 : ∀ (kf : Nat) (x_58 : Int32) (fm_59 : Nat → Int32), (0 ≤ x_58.toInt ∧ x_58.toInt ≤ 8) → (rM fm_59) → (zCR (zV fm_59, fm_59 10) (zIt (zCB1 (fm2_55 3).toInt.toNat (fm2_55 8) (fm2_55 7) 1) (zV fm2_55, fm2_55 10) x_58.toInt.toNat)) → (zQk fm2_55 fm_59) → (x_58.toInt ≤ (fm2_55 3).toInt) → ∀ (H : Heap) (locs : List Loc) (ls : Array Slot), ((9 - x_58.toInt).toNat) < kf → va_P g.1 vwCl (List.flatten [bMo g o a th hi ac tp x_27 x_28 x_29 fl x_30 x_31 x_32 x_33 fm_59 fk fa fc ft ff_34 fb_35 fi]) H → va_D A (List.flatten [bMo g o a th hi ac tp x_27 x_28 x_29 fl x_30 x_31 x_32 x_33 fm_59 fk fa fc ft ff_34 fb_35 fi]) → va_S A s.heap H locs → lv_has ls 6 [(0, .ref o), (1, .int n), (2, .int 1), (3, .int (x_1 + q_56)), (4, .int x_2), (5, .int x_58)] → W p l e ({ frames := 32, cells := 0, slots := 0, locals := 711 } : Room) s m args below meth c H locs (0) (0) (zF g (fun u : Int32 × Int32 × Int32 × Int32 × Int32 × Int32 × Int32 × (Nat → Int32) × (Nat → Int32) × (Nat → Int32) × Int32 => (fun (ba2 : Int32) (en2 : Int32) (at2 : Int32) (de2 : Int32) (iD2 : Int32) (iO2 : Int32) (tU2 : Int32) (ff2 : Nat → Int32) (fm2 : Nat → Int32) (fb2 : Nat → Int32) (q : Int32) => some (.int q)) (u.1) (u.2.1) (u.2.2.1) (u.2.2.2.1) (u.2.2.2.2.1) (u.2.2.2.2.2.1) (u.2.2.2.2.2.2.1) (u.2.2.2.2.2.2.2.1) (u.2.2.2.2.2.2.2.2.1) (u.2.2.2.2.2.2.2.2.2.1) (u.2.2.2.2.2.2.2.2.2.2)) (fun u : Int32 × Int32 × Int32 × Int32 × Int32 × Int32 × Int32 × (Nat → Int32) × (Nat → Int32) × (Nat → Int32) × Int32 => (fun (ba2 : Int32) (en2 : Int32) (at2 : Int32) (de2 : Int32) (iD2 : Int32) (iO2 : Int32) (tU2 : Int32) (ff2 : Nat → Int32) (fm2 : Nat → Int32) (fb2 : Nat → Int32) (q : Int32) => (rM fm2) ∧ (0 ≤ iO2.toInt ∧ iO2.toInt ≤ 1) ∧ (0 ≤ iD2.toInt ∧ iD2.toInt ≤ 1) ∧ (zNR ((fm2 5, fm2 8, fm2 10, zV fm2), q) (zNds L (fm 3).toInt.toNat (fm 4).toInt.toNat (fm 7) 1 n.toInt.toNat (fm 5, fm 8, fm 10, zV fm))) ∧ (zGk fm fm2)) (u.1) (u.2.1) (u.2.2.1) (u.2.2.2.1) (u.2.2.2.2.1) (u.2.2.2.2.2.1) (u.2.2.2.2.2.2.1) (u.2.2.2.2.2.2.2.1) (u.2.2.2.2.2.2.2.2.1) (u.2.2.2.2.2.2.2.2.2.1) (u.2.2.2.2.2.2.2.2.2.2)) (fun u : Int32 × Int32 × Int32 × Int32 × Int32 × Int32 × Int32 × (Nat → Int32) × (Nat → Int32) × (Nat → Int32) × Int32 => (fun (ba2 : Int32) (en2 : Int32) (at2 : Int32) (de2 : Int32) (iD2 : Int32) (iO2 : Int32) (tU2 : Int32) (ff2 : Nat → Int32) (fm2 : Nat → Int32) (fb2 : Nat → Int32) (q : Int32) => [bMo g o a th hi ac tp ba2 en2 at2 fl de2 iD2 iO2 tU2 fm2 fk fa fc ft ff2 fb2 fi]) (u.1) (u.2.1) (u.2.2.1) (u.2.2.2.1) (u.2.2.2.2.1) (u.2.2.2.2.2.1) (u.2.2.2.2.2.2.1) (u.2.2.2.2.2.2.2.1) (u.2.2.2.2.2.2.2.2.1) (u.2.2.2.2.2.2.2.2.2.1) (u.2.2.2.2.2.2.2.2.2.2)) ({ frames := 32, cells := 0, slots := 0, locals := 711 } : Room) below args s A) (F0 m 116 ls []) := by
                      intro kf
                      induction kf with
                      | zero => intro x_58 fm_59 i60 rfm_59 i61 i62 i63 H locs ls hk; exact absurd hk (Nat.not_lt_zero _)
                      | succ kf ih116_65 =>
                        intro x_58 fm_59 i60 rfm_59 i61 i62 i63 H locs ls hk116_65 hP hD hS hl
                        have w66 : (fm_10 3).toInt = (fm 3).toInt := congrArg Int32.toInt (i17 3 (by decide))
                        have w67 : (fm2_55 3).toInt = (fm 3).toInt := congrArg Int32.toInt ((hq57_2 3 (by decide) (by decide) (by decide)).trans ((i48.1 3 (by decide)).trans (i17 3 (by decide))))
                        have w68 : (fm_59 3).toInt = (fm2_55 3).toInt := congrArg Int32.toInt (i62 3 (by decide))
                        have w69 : (fm_59 8).toInt = (fm2_55 8).toInt := congrArg Int32.toInt (i62 8 (by decide))
                        refine lv_iload hx hb dX12_goes_116 (lv_at hl 5 rfl) ?_
                        refine lv_aload_n hx hb dX12_goes_118 rfl (lv_at hl 0 rfl) ?_
                        refine va_get (D := g.1) (ci := 10) (v := .ref (a 0)) (C := RX12) (T := TX12) (N := 20) hx hb hts izRX12 hown hK hP 0 rfl rfl 1 (by decide) (hts _ k815) (fun _ h9 => h9) rfl dX12_goes_119 ?_
                        refine lv_iconst (v := 3) hx hb dX12_goes_122 (by decide) ?_
                        refine va_iald hx hb hK hP 1 0 rfl rfl (zin rfl) dX12_goes_123 ?_
                        refine ztop (r := (fm_59 3)) rfl ?_
                        refine lv_icmp_ge (tgt := 166) hx hb dX12_goes_124 (by decide) (fun cb9 => ?_) (fun cb9 => ?_)
                        · skip
                          have c70 : (fm_59 3).toInt ≤ x_58.toInt := zle cb9 rfl rfl
                          refine lv_aload_n hx hb dX12_goes_166 rfl (lv_at hl 0 rfl) ?_
                          refine va_get (D := g.1) (ci := 10) (v := .ref (a 0)) (C := RX12) (T := TX12) (N := 20) hx hb hts izRX12 hown hK hP 0 rfl rfl 1 (by decide) (hts _ k815) (fun _ h9 => h9) rfl dX12_goes_167 ?_
                          refine lv_bipush (v := 8) hx hb dX12_goes_170 (by decide) ?_
                          refine lv_sipush (v := 9999) hx hb dX12_goes_172 (by decide) ?_
                          refine lv_aload_n hx hb dX12_goes_175 rfl (lv_at hl 0 rfl) ?_
                          refine va_get (D := g.1) (ci := 10) (v := .ref (a 0)) (C := RX12) (T := TX12) (N := 20) hx hb hts izRX12 hown hK hP 0 rfl rfl 1 (by decide) (hts _ k815) (fun _ h9 => h9) rfl dX12_goes_176 ?_
                          refine lv_bipush (v := 8) hx hb dX12_goes_179 (by decide) ?_
                          refine va_iald hx hb hK hP 1 0 rfl rfl (zin rfl) dX12_goes_181 ?_
                          refine ztop (r := (fm_59 8)) rfl ?_
                          refine lv_iconst (v := 1) hx hb dX12_goes_182 (by decide) ?_
                          refine lv_iadd hx hb dX12_goes_183 ?_
                          refine mcallS' (g := g) (As := [.int 9999, .int ((fm_59 8) + 1)]) (rest := [.int 8, .ref (a 0)]) St hK hT hA hP hD hS hl.1 [] [0] rfl rfl rfl (m_lesser9 l g ((fm_59 8) + 1) ) (va_cwS 2 hts (zgL (zl3 k1000 k1001 k839) k827) rfl rfl rfl (by decide +kernel) ⟨Nat.le_of_ble_eq_true rfl, Nat.le_of_ble_eq_true rfl⟩) rfl rfl (Nat.le_of_ble_eq_true rfl) dX12_goes_184 ⟨(Nat.le_of_ble_eq_true rfl), (Nat.le_of_ble_eq_true rfl)⟩ (fun _u H locs hq71 hP hD hS => ?_)
                          have hP : va_P g.1 vwCl (List.flatten [bMo g o a th hi ac tp x_27 x_28 x_29 fl x_30 x_31 x_32 x_33 fm_59 fk fa fc ft ff_34 fb_35 fi]) H := hP
                          have hD : va_D A (List.flatten [bMo g o a th hi ac tp x_27 x_28 x_29 fl x_30 x_31 x_32 x_33 fm_59 fk fa fc ft ff_34 fb_35 fi]) := hD
                          refine W.widen (k := 0) (n := 0) (Nat.le_of_ble_eq_true rfl) (Nat.le_of_ble_eq_true rfl) ?_
                          refine W.eq (g2 := F0 m 187 ls [.int (zCap ((fm_59 8) + 1)), .int 8, .ref (a 0)]) rfl ?_
                          refine va_iast hx hb hK hP hD hS 1 0 rfl rfl (zin rfl) dX12_goes_187 (fun H locs hP hD hS => ?_)
                          obtain ⟨fm_72, rfm_72, efm_72, hP, hD⟩ : ∃ fm_72 : Nat → Int32, rM fm_72 ∧ fm_72 = upd fm_59 8 (zCap ((fm_59 8) + 1)) ∧ va_P g.1 vwCl (List.flatten [bMo g o a th hi ac tp x_27 x_28 x_29 fl x_30 x_31 x_32 x_33 fm_72 fk fa fc ft ff_34 fb_35 fi]) H ∧ va_D A (List.flatten [bMo g o a th hi ac tp x_27 x_28 x_29 fl x_30 x_31 x_32 x_33 fm_72 fk fa fc ft ff_34 fb_35 fi]) := ⟨upd fm_59 8 (zCap ((fm_59 8) + 1)), (rM_stL rfm_59 (by decide)), rfl, hP, hD⟩
                          have w73 := zGd (L := L) (tl := 1) (n := fm_10 3) (by have := i17 3 (by decide); rw [this]; omega) (by have := i17 4 (by decide); rw [this]; omega) rfl i48 (by omega) hq57_1 hq57_2 (zItR_x (R := zCR) i61 (by omega)) i62 efm_72
                          rw [i17 3 (by decide), i17 4 (by decide), i17 7 (by decide)] at w73
                          refine ziinc3 (n' := 1) (a' := 1) (b' := 100) (lv' := fun v9 => [(4, .int v9), (0, .ref o), (1, .int n), (2, .int 1), (3, .int (x_1 + q_56)), (5, .int x_58)]) hx hb dX12_goes_188 hl (k := 4) rfl (by decide) (fun _ => rfl) (zaddK (i := x_2.toInt) (j := 1) rfl (by decide) i13.1 n24 (Int.le_refl _) (Int.le_refl _) (by decide)) (fun x_75 ls hx_75 hl => ?_)
                          refine lv_goto (tgt := 5) hx hb dX12_goes_191 (by decide) ?_
                          have hl := lv_sub (l' := [(0, .ref o), (1, .int n), (2, .int 1), (3, .int (x_1 + q_56)), (4, .int x_75), (5, .int x_58)]) hl [1, 2, 3, 4, 0, 5] rfl
                          have hP : va_P g.1 vwCl (List.flatten [bMo g o a th hi ac tp x_27 x_28 x_29 fl x_30 x_31 x_32 x_33 fm_72 fk fa fc ft ff_34 fb_35 fi]) H := hP
                          have hD : va_D A (List.flatten [bMo g o a th hi ac tp x_27 x_28 x_29 fl x_30 x_31 x_32 x_33 fm_72 fk fa fc ft ff_34 fb_35 fi]) := hD
                          exact ih5_21 (x_1 + q_56) x_75 x_27 x_28 x_29 x_30 x_31 x_32 x_33 fm_72 ff_34 fb_35 ⟨(Int.le_trans (by decide) hx_75.2.1), hx_75.2.2⟩ ⟨i37.1, i37.2⟩ ⟨i38.1, i38.2⟩ rfm_72 (zNds_s (by omega) (by omega) i16 hx_75.1 (by omega) w73.1 w73.2.1) (zGk_t i17 w73.2.2) (zRg_c (zRg_day (L := L) (pe := (fm 3).toInt.toNat) (wo := (fm 4).toInt.toNat) (tr := fm 7) (tl := 1) (s := (fm_10 5, fm_10 8, fm_10 10, zV fm_10)) i18) (zEq_s w73.1.2.2.2)) (by first | omega | assumption | decide) H _ ls (zmK hx_75.1 (by decide) n24 (by decide) hk5_21)  hP hD hS (lv_sub hl [0, 1, 2, 3, 4] rfl)
                        · skip
                          have c76 : x_58.toInt < (fm_59 3).toInt := zlti (Int32.not_le.mp cb9) rfl rfl
                          have n77 : x_58.toInt ≤ 7 := zL1 (b := 8) c76 (rM3 rfm_59).2 (by decide)
                          have n78 : 1 ≤ (fm_59 3).toInt := zL2 (a := 0) c76 i60.1 (by decide)
                          refine lv_aload_n hx hb dX12_goes_127 rfl (lv_at hl 0 rfl) ?_
                          refine lv_iload hx hb dX12_goes_128 (lv_at hl 5 rfl) ?_
                          refine mcallV' (g := g) (q0 := 0) (ci := 10) (As := [.int x_58]) (rest := []) St hK hT hA hP hD hS hl.1 [0] [] rfl rfl rfl (m_isHereG l g o a th hi ac tp x_27 x_28 x_29 fl x_30 x_31 x_32 x_33 fm_59 fk fa fc ft ff_34 fb_35 fi x_58 (⟨i60.1, n77⟩)) (cwV 1 hts (zgL (zl4 k846 k847 k848 k839) k841) rfl rfl rfl (by decide +kernel) ⟨Nat.le_of_ble_eq_true rfl, Nat.le_of_ble_eq_true rfl⟩) rfl rfl rfl rfl (Nat.le_of_ble_eq_true rfl) dX12_goes_130 ⟨(Nat.le_of_ble_eq_true rfl), (Nat.le_of_ble_eq_true rfl)⟩ (fun q_79 H locs hq80 hP hD hS => ?_)
                          replace hq80 : (q_79 = 1 ∧ (zV fm_59 3 x_58.toInt.toNat).toInt = -1 ∨ q_79 = 0 ∧ ¬ (zV fm_59 3 x_58.toInt.toNat).toInt = -1) := hq80
                          have hP : va_P g.1 vwCl (List.flatten [bMo g o a th hi ac tp x_27 x_28 x_29 fl x_30 x_31 x_32 x_33 fm_59 fk fa fc ft ff_34 fb_35 fi]) H := hP
                          have hD : va_D A (List.flatten [bMo g o a th hi ac tp x_27 x_28 x_29 fl x_30 x_31 x_32 x_33 fm_59 fk fa fc ft ff_34 fb_35 fi]) := hD
                          refine W.widen (k := 0) (n := 0) (Nat.le_of_ble_eq_true rfl) (Nat.le_of_ble_eq_true rfl) ?_
                          refine W.eq (g2 := F0 m 133 ls [.int q_79]) rfl ?_
                          rcases hq80 with ⟨rfl, hq80_k⟩ | ⟨rfl, hq80_k⟩
                          · skip
                            refine lv_if_ne (tgt := 160) hx hb dX12_goes_133 (by decide) (fun _ => ?_) (fun c81 => absurd c81 (by decide))
                            refine ziinc3 (n' := 1) (a' := 1) (b' := 8) (lv' := fun v9 => [(5, .int v9), (0, .ref o), (1, .int n), (2, .int 1), (3, .int (x_1 + q_56)), (4, .int x_2)]) hx hb dX12_goes_160 hl (k := 5) rfl (by decide) (fun _ => rfl) (zaddK (i := x_58.toInt) (j := 1) rfl (by decide) i60.1 n77 (Int.le_refl _) (Int.le_refl _) (by decide)) (fun x_82 ls hx_82 hl => ?_)
                            refine lv_goto (tgt := 116) hx hb dX12_goes_163 (by decide) ?_
                            have hl := lv_sub (l' := [(0, .ref o), (1, .int n), (2, .int 1), (3, .int (x_1 + q_56)), (4, .int x_2), (5, .int x_82)]) hl [1, 2, 3, 4, 5, 0] rfl
                            have hP : va_P g.1 vwCl (List.flatten [bMo g o a th hi ac tp x_27 x_28 x_29 fl x_30 x_31 x_32 x_33 fm_59 fk fa fc ft ff_34 fb_35 fi]) H := hP
                            have hD : va_D A (List.flatten [bMo g o a th hi ac tp x_27 x_28 x_29 fl x_30 x_31 x_32 x_33 fm_59 fk fa fc ft ff_34 fb_35 fi]) := hD
                            exact ih116_65 x_82 fm_59 ⟨(Int.le_trans (by decide) hx_82.2.1), hx_82.2.2⟩ rfm_59 (zCR_s (by omega) i61 hx_82.1 (by omega) (by omega) (by rw [← (zCBa hq80_k)]; exact zCR_r _)) i62 (by first | omega | assumption | decide) H _ ls (zmK hx_82.1 (by decide) n77 (by decide) hk116_65)  hP hD hS (lv_sub hl [0, 1, 2, 3, 4, 5] rfl)
                          · skip
                            refine lv_if_ne (tgt := 160) hx hb dX12_goes_133 (by decide) (fun c83 => absurd (by decide) c83) (fun _ => ?_)
                            refine lv_aload_n hx hb dX12_goes_136 rfl (lv_at hl 0 rfl) ?_
                            refine lv_iload hx hb dX12_goes_137 (lv_at hl 5 rfl) ?_
                            refine lv_iconst (v := 4) hx hb dX12_goes_139 (by decide) ?_
                            refine mcallV' (g := g) (q0 := 0) (ci := 10) (As := [.int x_58, .int 4]) (rest := []) St hK hT hA hP hD hS hl.1 [0] [] rfl rfl rfl (m_of3F l g o a th hi ac tp x_27 x_28 x_29 fl x_30 x_31 x_32 x_33 fm_59 fk fa fc ft ff_34 fb_35 fi x_58 (⟨i60.1, n77⟩)) (cwV 2 hts (zgL (zl4 k842 k843 k844 k839) k831) rfl rfl rfl (by decide +kernel) ⟨Nat.le_of_ble_eq_true rfl, Nat.le_of_ble_eq_true rfl⟩) rfl rfl rfl rfl (Nat.le_of_ble_eq_true rfl) dX12_goes_140 ⟨(Nat.le_of_ble_eq_true rfl), (Nat.le_of_ble_eq_true rfl)⟩ (fun _u H locs hq84 hP hD hS => ?_)
                            have hP : va_P g.1 vwCl (List.flatten [bMo g o a th hi ac tp x_27 x_28 x_29 fl x_30 x_31 x_32 x_33 fm_59 fk fa fc ft ff_34 fb_35 fi]) H := hP
                            have hD : va_D A (List.flatten [bMo g o a th hi ac tp x_27 x_28 x_29 fl x_30 x_31 x_32 x_33 fm_59 fk fa fc ft ff_34 fb_35 fi]) := hD
                            refine W.widen (k := 0) (n := 0) (Nat.le_of_ble_eq_true rfl) (Nat.le_of_ble_eq_true rfl) ?_
                            refine W.eq (g2 := F0 m 143 ls [.int (zV fm_59 3 x_58.toInt.toNat)]) rfl ?_
                            refine lv_aload_n hx hb dX12_goes_143 rfl (lv_at hl 0 rfl) ?_
                            refine va_get (D := g.1) (ci := 10) (v := .ref (a 0)) (C := RX12) (T := TX12) (N := 20) hx hb hts izRX12 hown hK hP 0 rfl rfl 1 (by decide) (hts _ k815) (fun _ h9 => h9) rfl dX12_goes_144 ?_
                            refine lv_bipush (v := 8) hx hb dX12_goes_147 (by decide) ?_
                            refine va_iald hx hb hK hP 1 0 rfl rfl (zin rfl) dX12_goes_149 ?_
                            refine ztop (r := (fm_59 8)) rfl ?_
                            refine lv_icmp_gt (tgt := 160) hx hb dX12_goes_150 (by decide) (fun cb9 => ?_) (fun cb9 => ?_)
                            · skip
                              have c85 : (fm_59 8).toInt < (zV fm_59 3 x_58.toInt.toNat).toInt := zlti cb9 rfl rfl
                              refine ziinc3 (n' := 1) (a' := 1) (b' := 8) (lv' := fun v9 => [(5, .int v9), (0, .ref o), (1, .int n), (2, .int 1), (3, .int (x_1 + q_56)), (4, .int x_2)]) hx hb dX12_goes_160 hl (k := 5) rfl (by decide) (fun _ => rfl) (zaddK (i := x_58.toInt) (j := 1) rfl (by decide) i60.1 n77 (Int.le_refl _) (Int.le_refl _) (by decide)) (fun x_86 ls hx_86 hl => ?_)
                              refine lv_goto (tgt := 116) hx hb dX12_goes_163 (by decide) ?_
                              have hl := lv_sub (l' := [(0, .ref o), (1, .int n), (2, .int 1), (3, .int (x_1 + q_56)), (4, .int x_2), (5, .int x_86)]) hl [1, 2, 3, 4, 5, 0] rfl
                              have hP : va_P g.1 vwCl (List.flatten [bMo g o a th hi ac tp x_27 x_28 x_29 fl x_30 x_31 x_32 x_33 fm_59 fk fa fc ft ff_34 fb_35 fi]) H := hP
                              have hD : va_D A (List.flatten [bMo g o a th hi ac tp x_27 x_28 x_29 fl x_30 x_31 x_32 x_33 fm_59 fk fa fc ft ff_34 fb_35 fi]) := hD
                              exact ih116_65 x_86 fm_59 ⟨(Int.le_trans (by decide) hx_86.2.1), hx_86.2.2⟩ rfm_59 (zCR_s (by omega) i61 hx_86.1 (by omega) (by omega) (by rw [← (zCBb hq80_k (by omega))]; exact zCR_r _)) i62 (by first | omega | assumption | decide) H _ ls (zmK hx_86.1 (by decide) n77 (by decide) hk116_65)  hP hD hS (lv_sub hl [0, 1, 2, 3, 4, 5] rfl)
                            · skip
                              have c87 : (zV fm_59 3 x_58.toInt.toNat).toInt ≤ (fm_59 8).toInt := zle (Int32.not_lt.mp cb9) rfl rfl
                              refine lv_aload_n hx hb dX12_goes_153 rfl (lv_at hl 0 rfl) ?_
                              refine lv_iload hx hb dX12_goes_154 (lv_at hl 5 rfl) ?_
                              refine lv_iload_n hx hb dX12_goes_156 rfl (lv_at hl 2 rfl) ?_
                              have hL1 : (1 : Int32).toInt = 1 := by decide
                              refine mcallV' (g := g) (q0 := 0) (ci := 10) (As := [.int x_58, .int 1]) (rest := []) St hK hT hA hP hD hS hl.1 [0] [] rfl rfl rfl (m_returns1G l g o a th hi ac tp x_27 x_28 x_29 fl x_30 x_31 x_32 x_33 fm_59 fk fa fc ft ff_34 fb_35 fi x_58 1 (by first | assumption | omega | decide) (by first | assumption | omega | decide) hq80_k (by omega) (by decide)) (cwV 2 hts (zgL (zl4 k1025 k1026 k1027 k839) k1015) rfl rfl rfl (by decide +kernel) ⟨Nat.le_of_ble_eq_true rfl, Nat.le_of_ble_eq_true rfl⟩) rfl rfl rfl rfl (Nat.le_of_ble_eq_true rfl) dX12_goes_157 ⟨(Nat.le_of_ble_eq_true rfl), (Nat.le_of_ble_eq_true rfl)⟩ (fun fm2_88 H locs hq89 hP hD hS => ?_)
                              replace hq89 : (rM fm2_88) ∧ (zCR (zV fm2_88, fm2_88 10) (zCB1 (fm_59 3).toInt.toNat (fm_59 8) (fm_59 7) 1 x_58.toInt.toNat (zV fm_59, fm_59 10))) ∧ (zQk fm_59 fm2_88) := hq89
                              have hP : va_P g.1 vwCl (List.flatten [bMo g o a th hi ac tp x_27 x_28 x_29 fl x_30 x_31 x_32 x_33 fm2_88 fk fa fc ft ff_34 fb_35 fi]) H := hP
                              have hD : va_D A (List.flatten [bMo g o a th hi ac tp x_27 x_28 x_29 fl x_30 x_31 x_32 x_33 fm2_88 fk fa fc ft ff_34 fb_35 fi]) := hD
                              refine W.widen (k := 0) (n := 0) (Nat.le_of_ble_eq_true rfl) (Nat.le_of_ble_eq_true rfl) ?_
                              refine W.eq (g2 := F0 m 160 ls []) rfl ?_
                              obtain ⟨rfm2_88, hq89_1, hq89_2⟩ := hq89
                              refine ziinc3 (n' := 1) (a' := 1) (b' := 8) (lv' := fun v9 => [(5, .int v9), (0, .ref o), (1, .int n), (2, .int 1), (3, .int (x_1 + q_56)), (4, .int x_2)]) hx hb dX12_goes_160 hl (k := 5) rfl (by decide) (fun _ => rfl) (zaddK (i := x_58.toInt) (j := 1) rfl (by decide) i60.1 n77 (Int.le_refl _) (Int.le_refl _) (by decide)) (fun x_90 ls hx_90 hl => ?_)
                              refine lv_goto (tgt := 116) hx hb dX12_goes_163 (by decide) ?_
                              have hl := lv_sub (l' := [(0, .ref o), (1, .int n), (2, .int 1), (3, .int (x_1 + q_56)), (4, .int x_2), (5, .int x_90)]) hl [1, 2, 3, 4, 5, 0] rfl
                              have hP : va_P g.1 vwCl (List.flatten [bMo g o a th hi ac tp x_27 x_28 x_29 fl x_30 x_31 x_32 x_33 fm2_88 fk fa fc ft ff_34 fb_35 fi]) H := hP
                              have hD : va_D A (List.flatten [bMo g o a th hi ac tp x_27 x_28 x_29 fl x_30 x_31 x_32 x_33 fm2_88 fk fa fc ft ff_34 fb_35 fi]) := hD
                              exact ih116_65 x_90 fm2_88 ⟨(Int.le_trans (by decide) hx_90.2.1), hx_90.2.2⟩ rfm2_88 (zCR_s (by omega) i61 hx_90.1 (by omega) (by omega) (zCR_q hq89_1 (by rw [i62 3 (by decide)]) (i62 8 (by decide)) (i62 7 (by decide)))) (zQk_t i62 hq89_2) (by first | omega | assumption | decide) H _ ls (zmK hx_90.1 (by decide) n77 (by decide) hk116_65)  hP hD hS (lv_sub hl [0, 1, 2, 3, 4, 5] rfl)
                    have hL0 : (0 : Int32).toInt = 0 := by decide
                    have hP : va_P g.1 vwCl (List.flatten [bMo g o a th hi ac tp x_27 x_28 x_29 fl x_30 x_31 x_32 x_33 fm2_55 fk fa fc ft ff_34 fb_35 fi]) H := hP
                    have hD : va_D A (List.flatten [bMo g o a th hi ac tp x_27 x_28 x_29 fl x_30 x_31 x_32 x_33 fm2_55 fk fa fc ft ff_34 fb_35 fi]) := hD
                    exact LP116_64 _ 0 fm2_55 (by decide) rfm2_55 (zItR_0 (R := zCR) (by decide) (zCR_r _)) (zQk_r _) (by rw [zi0]; exact (rM3 rfm2_55).1) H _ ls (Nat.lt_succ_self _)  hP hD hS (lv_sub hl [0, 1, 2, 3, 4, 5] rfl)
                  · skip
                    have c91 : x_45.toInt < (fm_46 3).toInt := zlti (Int32.not_le.mp cb9) rfl rfl
                    have n92 : x_45.toInt ≤ 7 := zL1 (b := 8) c91 (rM3 rfm_46).2 (by decide)
                    have n93 : 1 ≤ (fm_46 3).toInt := zL2 (a := 0) c91 i47.1 (by decide)
                    refine lv_aload_n hx hb dX12_goes_78 rfl (lv_at hl 0 rfl) ?_
                    refine lv_iload hx hb dX12_goes_79 (lv_at hl 5 rfl) ?_
                    refine mcallV' (g := g) (q0 := 0) (ci := 10) (As := [.int x_45]) (rest := []) St hK hT hA hP hD hS hl.1 [0] [] rfl rfl rfl (m_isHereG l g o a th hi ac tp x_27 x_28 x_29 fl x_30 x_31 x_32 x_33 fm_46 fk fa fc ft ff_34 fb_35 fi x_45 (⟨i47.1, n92⟩)) (cwV 1 hts (zgL (zl4 k846 k847 k848 k839) k841) rfl rfl rfl (by decide +kernel) ⟨Nat.le_of_ble_eq_true rfl, Nat.le_of_ble_eq_true rfl⟩) rfl rfl rfl rfl (Nat.le_of_ble_eq_true rfl) dX12_goes_81 ⟨(Nat.le_of_ble_eq_true rfl), (Nat.le_of_ble_eq_true rfl)⟩ (fun q_94 H locs hq95 hP hD hS => ?_)
                    replace hq95 : (q_94 = 1 ∧ (zV fm_46 3 x_45.toInt.toNat).toInt = -1 ∨ q_94 = 0 ∧ ¬ (zV fm_46 3 x_45.toInt.toNat).toInt = -1) := hq95
                    have hP : va_P g.1 vwCl (List.flatten [bMo g o a th hi ac tp x_27 x_28 x_29 fl x_30 x_31 x_32 x_33 fm_46 fk fa fc ft ff_34 fb_35 fi]) H := hP
                    have hD : va_D A (List.flatten [bMo g o a th hi ac tp x_27 x_28 x_29 fl x_30 x_31 x_32 x_33 fm_46 fk fa fc ft ff_34 fb_35 fi]) := hD
                    refine W.widen (k := 0) (n := 0) (Nat.le_of_ble_eq_true rfl) (Nat.le_of_ble_eq_true rfl) ?_
                    refine W.eq (g2 := F0 m 84 ls [.int q_94]) rfl ?_
                    rcases hq95 with ⟨rfl, hq95_k⟩ | ⟨rfl, hq95_k⟩
                    · skip
                      refine lv_if_eq (tgt := 100) hx hb dX12_goes_84 (by decide) (fun c96 => absurd c96 (by decide)) (fun _ => ?_)
                      refine lv_aload_n hx hb dX12_goes_87 rfl (lv_at hl 0 rfl) ?_
                      refine lv_iload hx hb dX12_goes_88 (lv_at hl 5 rfl) ?_
                      refine lv_aload_n hx hb dX12_goes_90 rfl (lv_at hl 0 rfl) ?_
                      refine va_get (D := g.1) (ci := 10) (v := .ref (a 6)) (C := RX12) (T := TX12) (N := 20) hx hb hts izRX12 hown hK hP 0 rfl rfl 18 (by decide) (hts _ k822) (fun _ h9 => h9) rfl dX12_goes_91 ?_
                      refine lv_iload hx hb dX12_goes_94 (lv_at hl 5 rfl) ?_
                      refine va_iald hx hb hK hP 7 0 rfl rfl (zinK (a := 0) (b := 7) i47.1 n92 (by decide)) dX12_goes_96 ?_
                      refine ztop (r := (fb_35 x_45.toInt.toNat)) rfl ?_
                      refine mcallV' (g := g) (q0 := 0) (ci := 10) (As := [.int x_45, .int (fb_35 x_45.toInt.toNat)]) (rest := []) St hK hT hA hP hD hS hl.1 [0] [] rfl rfl rfl (m_believesG l g o a th hi ac tp x_27 x_28 x_29 fl x_30 x_31 x_32 x_33 fm_46 fk fa fc ft ff_34 fb_35 fi x_45 (fb_35 x_45.toInt.toNat) rfm_46 (⟨i47.1, n92⟩)) (cwV 2 hts (zgL (zl4 k1012 k1013 k1014 k839) k1002) rfl rfl rfl (by decide +kernel) ⟨Nat.le_of_ble_eq_true rfl, Nat.le_of_ble_eq_true rfl⟩) rfl rfl rfl rfl (Nat.le_of_ble_eq_true rfl) dX12_goes_97 ⟨(Nat.le_of_ble_eq_true rfl), (Nat.le_of_ble_eq_true rfl)⟩ (fun fm2_97 H locs hq98 hP hD hS => ?_)
                      replace hq98 : (rM fm2_97) ∧ (fm2_97 = upd fm_46 (11 + 5 * x_45.toInt.toNat) (zCl (zV fm_46 0 x_45.toInt.toNat + (fb_35 x_45.toInt.toNat)))) := hq98
                      have hP : va_P g.1 vwCl (List.flatten [bMo g o a th hi ac tp x_27 x_28 x_29 fl x_30 x_31 x_32 x_33 fm2_97 fk fa fc ft ff_34 fb_35 fi]) H := hP
                      have hD : va_D A (List.flatten [bMo g o a th hi ac tp x_27 x_28 x_29 fl x_30 x_31 x_32 x_33 fm2_97 fk fa fc ft ff_34 fb_35 fi]) := hD
                      refine W.widen (k := 0) (n := 0) (Nat.le_of_ble_eq_true rfl) (Nat.le_of_ble_eq_true rfl) ?_
                      refine W.eq (g2 := F0 m 100 ls []) rfl ?_
                      obtain ⟨rfm2_97, hq98_1⟩ := hq98
                      refine ziinc3 (n' := 1) (a' := 1) (b' := 8) (lv' := fun v9 => [(5, .int v9), (0, .ref o), (1, .int n), (2, .int 1), (3, .int x_1), (4, .int x_2)]) hx hb dX12_goes_100 hl (k := 5) rfl (by decide) (fun _ => rfl) (zaddK (i := x_45.toInt) (j := 1) rfl (by decide) i47.1 n92 (Int.le_refl _) (Int.le_refl _) (by decide)) (fun x_99 ls hx_99 hl => ?_)
                      refine lv_goto (tgt := 67) hx hb dX12_goes_103 (by decide) ?_
                      have hl := lv_sub (l' := [(0, .ref o), (1, .int n), (2, .int 1), (3, .int x_1), (4, .int x_2), (5, .int x_99)]) hl [1, 2, 3, 4, 5, 0] rfl
                      have hP : va_P g.1 vwCl (List.flatten [bMo g o a th hi ac tp x_27 x_28 x_29 fl x_30 x_31 x_32 x_33 fm2_97 fk fa fc ft ff_34 fb_35 fi]) H := hP
                      have hD : va_D A (List.flatten [bMo g o a th hi ac tp x_27 x_28 x_29 fl x_30 x_31 x_32 x_33 fm2_97 fk fa fc ft ff_34 fb_35 fi]) := hD
                      exact ih67_51 x_99 fm2_97 ⟨(Int.le_trans (by decide) hx_99.2.1), hx_99.2.2⟩ rfm2_97 (zBl_h i48 hx_99.1 (by omega) (by omega) hq95_k (i39 x_45.toInt.toNat (by omega)) hq98_1) (by first | omega | assumption | decide) H _ ls (zmK hx_99.1 (by decide) n92 (by decide) hk67_51)  hP hD hS (lv_sub hl [0, 1, 2, 3, 4, 5] rfl)
                    · skip
                      refine lv_if_eq (tgt := 100) hx hb dX12_goes_84 (by decide) (fun _ => ?_) (fun c100 => absurd (by decide) c100)
                      refine ziinc3 (n' := 1) (a' := 1) (b' := 8) (lv' := fun v9 => [(5, .int v9), (0, .ref o), (1, .int n), (2, .int 1), (3, .int x_1), (4, .int x_2)]) hx hb dX12_goes_100 hl (k := 5) rfl (by decide) (fun _ => rfl) (zaddK (i := x_45.toInt) (j := 1) rfl (by decide) i47.1 n92 (Int.le_refl _) (Int.le_refl _) (by decide)) (fun x_101 ls hx_101 hl => ?_)
                      refine lv_goto (tgt := 67) hx hb dX12_goes_103 (by decide) ?_
                      have hl := lv_sub (l' := [(0, .ref o), (1, .int n), (2, .int 1), (3, .int x_1), (4, .int x_2), (5, .int x_101)]) hl [1, 2, 3, 4, 5, 0] rfl
                      have hP : va_P g.1 vwCl (List.flatten [bMo g o a th hi ac tp x_27 x_28 x_29 fl x_30 x_31 x_32 x_33 fm_46 fk fa fc ft ff_34 fb_35 fi]) H := hP
                      have hD : va_D A (List.flatten [bMo g o a th hi ac tp x_27 x_28 x_29 fl x_30 x_31 x_32 x_33 fm_46 fk fa fc ft ff_34 fb_35 fi]) := hD
                      exact ih67_51 x_101 fm_46 ⟨(Int.le_trans (by decide) hx_101.2.1), hx_101.2.2⟩ rfm_46 (zBl_a i48 hx_101.1 (by omega) (by omega) hq95_k) (by first | omega | assumption | decide) H _ ls (zmK hx_101.1 (by decide) n92 (by decide) hk67_51)  hP hD hS (lv_sub hl [0, 1, 2, 3, 4, 5] rfl)
              have hL0 : (0 : Int32).toInt = 0 := by decide
              have hP : va_P g.1 vwCl (List.flatten [bMo g o a th hi ac tp x_27 x_28 x_29 fl x_30 x_31 x_32 x_33 fm_10 fk fa fc ft ff_34 fb_35 fi]) H := hP
              have hD : va_D A (List.flatten [bMo g o a th hi ac tp x_27 x_28 x_29 fl x_30 x_31 x_32 x_33 fm_10 fk fa fc ft ff_34 fb_35 fi]) := hD
              exact LP67_50 _ 0 fm_10 (by decide) rfm_10 (zBl_0 (by decide)) (by rw [zi0]; exact (rM3 rfm_10).1) H _ ls (Nat.lt_succ_self _)  hP hD hS (lv_sub hl [0, 1, 2, 3, 4, 5] rfl)
            · skip
              have c102 : x_26.toInt < (fm_10 3).toInt := zlti (Int32.not_le.mp cb9) rfl rfl
              have n103 : x_26.toInt ≤ 7 := zL1 (b := 8) c102 (rM3 rfm_10).2 (by decide)
              have n104 : 1 ≤ (fm_10 3).toInt := zL2 (a := 0) c102 i36.1 (by decide)
              refine lv_aload_n hx hb dX12_goes_25 rfl (lv_at hl 0 rfl) ?_
              refine va_get (D := g.1) (ci := 10) (v := .ref (a 6)) (C := RX12) (T := TX12) (N := 20) hx hb hts izRX12 hown hK hP 0 rfl rfl 18 (by decide) (hts _ k822) (fun _ h9 => h9) rfl dX12_goes_26 ?_
              refine lv_iload hx hb dX12_goes_29 (lv_at hl 5 rfl) ?_
              refine lv_aload_n hx hb dX12_goes_31 rfl (lv_at hl 0 rfl) ?_
              refine lv_iload hx hb dX12_goes_32 (lv_at hl 5 rfl) ?_
              refine mcallV' (g := g) (q0 := 0) (ci := 10) (As := [.int x_26]) (rest := [.int x_26, .ref (a 6)]) St hK hT hA hP hD hS hl.1 [0] [] rfl rfl rfl (m_isHereG l g o a th hi ac tp x_27 x_28 x_29 fl x_30 x_31 x_32 x_33 fm_10 fk fa fc ft ff_34 fb_35 fi x_26 (⟨i36.1, n103⟩)) (cwV 1 hts (zgL (zl4 k846 k847 k848 k839) k841) rfl rfl rfl (by decide +kernel) ⟨Nat.le_of_ble_eq_true rfl, Nat.le_of_ble_eq_true rfl⟩) rfl rfl rfl rfl (Nat.le_of_ble_eq_true rfl) dX12_goes_34 ⟨(Nat.le_of_ble_eq_true rfl), (Nat.le_of_ble_eq_true rfl)⟩ (fun q_105 H locs hq106 hP hD hS => ?_)
              replace hq106 : (q_105 = 1 ∧ (zV fm_10 3 x_26.toInt.toNat).toInt = -1 ∨ q_105 = 0 ∧ ¬ (zV fm_10 3 x_26.toInt.toNat).toInt = -1) := hq106
              have hP : va_P g.1 vwCl (List.flatten [bMo g o a th hi ac tp x_27 x_28 x_29 fl x_30 x_31 x_32 x_33 fm_10 fk fa fc ft ff_34 fb_35 fi]) H := hP
              have hD : va_D A (List.flatten [bMo g o a th hi ac tp x_27 x_28 x_29 fl x_30 x_31 x_32 x_33 fm_10 fk fa fc ft ff_34 fb_35 fi]) := hD
              refine W.widen (k := 0) (n := 0) (Nat.le_of_ble_eq_true rfl) (Nat.le_of_ble_eq_true rfl) ?_
              refine W.eq (g2 := F0 m 37 ls [.int q_105, .int x_26, .ref (a 6)]) rfl ?_
              rcases hq106 with ⟨rfl, hq106_k⟩ | ⟨rfl, hq106_k⟩
              · skip
                refine lv_if_eq (tgt := 56) hx hb dX12_goes_37 (by decide) (fun c107 => absurd c107 (by decide)) (fun _ => ?_)
                refine lv_aload_n hx hb dX12_goes_40 rfl (lv_at hl 0 rfl) ?_
                refine lv_iload hx hb dX12_goes_41 (lv_at hl 5 rfl) ?_
                refine mcallV' (g := g) (q0 := 0) (ci := 10) (As := [.int x_26]) (rest := [.int x_26, .ref (a 6)]) St hK hT hA hP hD hS hl.1 [0] [] rfl rfl rfl (m_pullG l g o a th hi ac tp x_27 x_28 x_29 fl x_30 x_31 x_32 x_33 fm_10 fk fa fc ft ff_34 fb_35 fi x_26 rfm_10 (by first | assumption | omega | decide) i18) (cwV 1 hts (zgL (zl4 k1016 k1017 k1018 k839) k871) rfl rfl rfl (by decide +kernel) ⟨Nat.le_of_ble_eq_true rfl, Nat.le_of_ble_eq_true rfl⟩) rfl rfl rfl rfl (Nat.le_of_ble_eq_true rfl) dX12_goes_43 ⟨(Nat.le_of_ble_eq_true rfl), (Nat.le_of_ble_eq_true rfl)⟩ (fun _u H locs hq108 hP hD hS => ?_)
                have hP : va_P g.1 vwCl (List.flatten [bMo g o a th hi ac tp x_27 x_28 x_29 fl x_30 x_31 x_32 x_33 fm_10 fk fa fc ft ff_34 fb_35 fi]) H := hP
                have hD : va_D A (List.flatten [bMo g o a th hi ac tp x_27 x_28 x_29 fl x_30 x_31 x_32 x_33 fm_10 fk fa fc ft ff_34 fb_35 fi]) := hD
                refine W.widen (k := 0) (n := 0) (Nat.le_of_ble_eq_true rfl) (Nat.le_of_ble_eq_true rfl) ?_
                refine W.eq (g2 := F0 m 46 ls [.int (zPull (zV fm_10) (fm_10 3).toInt.toNat x_26.toInt.toNat), .int x_26, .ref (a 6)]) rfl ?_
                refine lv_aload_n hx hb dX12_goes_46 rfl (lv_at hl 0 rfl) ?_
                refine lv_iload hx hb dX12_goes_47 (lv_at hl 5 rfl) ?_
                refine mcallV' (g := g) (q0 := 0) (ci := 10) (As := [.int x_26]) (rest := [.int (zPull (zV fm_10) (fm_10 3).toInt.toNat x_26.toInt.toNat), .int x_26, .ref (a 6)]) St hK hT hA hP hD hS hl.1 [0] [] rfl rfl rfl (m_turnsByG l g o a th hi ac tp x_27 x_28 x_29 fl x_30 x_31 x_32 x_33 fm_10 fk fa fc ft ff_34 fb_35 fi x_26 L (by first | assumption | omega | decide) (by first | assumption | omega | decide) (by first | assumption | omega | decide) (by first | assumption | omega | decide) (zLm_k hL i17)) (cwV 1 hts (zgL (zl4 k1019 k1020 k1021 k839) k996) rfl rfl rfl (by decide +kernel) ⟨Nat.le_of_ble_eq_true rfl, Nat.le_of_ble_eq_true rfl⟩) rfl rfl rfl rfl (Nat.le_of_ble_eq_true rfl) dX12_goes_49 ⟨(Nat.le_of_ble_eq_true rfl), (Nat.le_of_ble_eq_true rfl)⟩ (fun u_ H locs hq117 hP hD hS => ?_)
                obtain ⟨ba2_109, en2_110, at2_111, de2_112, iD2_113, iO2_114, tU2_115, ff2_116⟩ := u_
                replace hq117 : (0 ≤ iO2_114.toInt ∧ iO2_114.toInt ≤ 1) ∧ (0 ≤ iD2_113.toInt ∧ iD2_113.toInt ≤ 1) := hq117
                have hP : va_P g.1 vwCl (List.flatten [bMo g o a th hi ac tp ba2_109 en2_110 at2_111 fl de2_112 iD2_113 iO2_114 tU2_115 fm_10 fk fa fc ft ff2_116 fb_35 fi]) H := hP
                have hD : va_D A (List.flatten [bMo g o a th hi ac tp ba2_109 en2_110 at2_111 fl de2_112 iD2_113 iO2_114 tU2_115 fm_10 fk fa fc ft ff2_116 fb_35 fi]) := hD
                refine W.widen (k := 0) (n := 0) (Nat.le_of_ble_eq_true rfl) (Nat.le_of_ble_eq_true rfl) ?_
                refine W.eq (g2 := F0 m 52 ls [.int (L (zEnv (zV fm_10) (fm_10 3).toInt.toNat (fm_10 4).toInt.toNat (fm_10 8) x_26.toInt.toNat)), .int (zPull (zV fm_10) (fm_10 3).toInt.toNat x_26.toInt.toNat), .int x_26, .ref (a 6)]) rfl ?_
                obtain ⟨hq117_0, hq117_1⟩ := hq117
                refine lv_iadd hx hb dX12_goes_52 ?_
                refine lv_goto (tgt := 57) hx hb dX12_goes_53 (by decide) ?_
                refine va_iast hx hb hK hP hD hS 7 0 rfl rfl (zinK (a := 0) (b := 7) i36.1 n103 (by decide)) dX12_goes_57 (fun H locs hP hD hS => ?_)
                obtain ⟨fb_118, efb_118, hP, hD⟩ : ∃ fb_118 : Nat → Int32, fb_118 = upd fb_35 x_26.toInt.toNat ((zPull (zV fm_10) (fm_10 3).toInt.toNat x_26.toInt.toNat) + (L (zEnv (zV fm_10) (fm_10 3).toInt.toNat (fm_10 4).toInt.toNat (fm_10 8) x_26.toInt.toNat))) ∧ va_P g.1 vwCl (List.flatten [bMo g o a th hi ac tp ba2_109 en2_110 at2_111 fl de2_112 iD2_113 iO2_114 tU2_115 fm_10 fk fa fc ft ff2_116 fb_118 fi]) H ∧ va_D A (List.flatten [bMo g o a th hi ac tp ba2_109 en2_110 at2_111 fl de2_112 iD2_113 iO2_114 tU2_115 fm_10 fk fa fc ft ff2_116 fb_118 fi]) := ⟨upd fb_35 x_26.toNatClampNeg ((zPull (zV fm_10) (fm_10 3).toInt.toNat x_26.toInt.toNat) + (L (zEnv (zV fm_10) (fm_10 3).toInt.toNat (fm_10 4).toInt.toNat (fm_10 8) x_26.toInt.toNat))), rfl, hP, hD⟩
                refine ziinc3 (n' := 1) (a' := 1) (b' := 8) (lv' := fun v9 => [(5, .int v9), (0, .ref o), (1, .int n), (2, .int 1), (3, .int x_1), (4, .int x_2)]) hx hb dX12_goes_58 hl (k := 5) rfl (by decide) (fun _ => rfl) (zaddK (i := x_26.toInt) (j := 1) rfl (by decide) i36.1 n103 (Int.le_refl _) (Int.le_refl _) (by decide)) (fun x_119 ls hx_119 hl => ?_)
                refine lv_goto (tgt := 14) hx hb dX12_goes_61 (by decide) ?_
                have hl := lv_sub (l' := [(0, .ref o), (1, .int n), (2, .int 1), (3, .int x_1), (4, .int x_2), (5, .int x_119)]) hl [1, 2, 3, 4, 5, 0] rfl
                have hP : va_P g.1 vwCl (List.flatten [bMo g o a th hi ac tp ba2_109 en2_110 at2_111 fl de2_112 iD2_113 iO2_114 tU2_115 fm_10 fk fa fc ft ff2_116 fb_118 fi]) H := hP
                have hD : va_D A (List.flatten [bMo g o a th hi ac tp ba2_109 en2_110 at2_111 fl de2_112 iD2_113 iO2_114 tU2_115 fm_10 fk fa fc ft ff2_116 fb_118 fi]) := hD
                exact ih14_42 x_119 ba2_109 en2_110 at2_111 de2_112 iD2_113 iO2_114 tU2_115 ff2_116 fb_118 ⟨(Int.le_trans (by decide) hx_119.2.1), hx_119.2.2⟩ ⟨hq117_1.1, hq117_1.2⟩ ⟨hq117_0.1, hq117_0.2⟩ (zBy_s i39 efb_118 hx_119.1 (by omega) (zBv_t hq106_k)) (by first | omega | assumption | decide) H _ ls (zmK hx_119.1 (by decide) n103 (by decide) hk14_42)  hP hD hS (lv_sub hl [0, 1, 2, 3, 4, 5] rfl)
              · skip
                refine lv_if_eq (tgt := 56) hx hb dX12_goes_37 (by decide) (fun _ => ?_) (fun c120 => absurd (by decide) c120)
                refine lv_iconst (v := 0) hx hb dX12_goes_56 (by decide) ?_
                refine va_iast hx hb hK hP hD hS 7 0 rfl rfl (zinK (a := 0) (b := 7) i36.1 n103 (by decide)) dX12_goes_57 (fun H locs hP hD hS => ?_)
                obtain ⟨fb_121, efb_121, hP, hD⟩ : ∃ fb_121 : Nat → Int32, fb_121 = upd fb_35 x_26.toInt.toNat 0 ∧ va_P g.1 vwCl (List.flatten [bMo g o a th hi ac tp x_27 x_28 x_29 fl x_30 x_31 x_32 x_33 fm_10 fk fa fc ft ff_34 fb_121 fi]) H ∧ va_D A (List.flatten [bMo g o a th hi ac tp x_27 x_28 x_29 fl x_30 x_31 x_32 x_33 fm_10 fk fa fc ft ff_34 fb_121 fi]) := ⟨upd fb_35 x_26.toNatClampNeg 0, rfl, hP, hD⟩
                refine ziinc3 (n' := 1) (a' := 1) (b' := 8) (lv' := fun v9 => [(5, .int v9), (0, .ref o), (1, .int n), (2, .int 1), (3, .int x_1), (4, .int x_2)]) hx hb dX12_goes_58 hl (k := 5) rfl (by decide) (fun _ => rfl) (zaddK (i := x_26.toInt) (j := 1) rfl (by decide) i36.1 n103 (Int.le_refl _) (Int.le_refl _) (by decide)) (fun x_122 ls hx_122 hl => ?_)
                refine lv_goto (tgt := 14) hx hb dX12_goes_61 (by decide) ?_
                have hl := lv_sub (l' := [(0, .ref o), (1, .int n), (2, .int 1), (3, .int x_1), (4, .int x_2), (5, .int x_122)]) hl [1, 2, 3, 4, 5, 0] rfl
                have hP : va_P g.1 vwCl (List.flatten [bMo g o a th hi ac tp x_27 x_28 x_29 fl x_30 x_31 x_32 x_33 fm_10 fk fa fc ft ff_34 fb_121 fi]) H := hP
                have hD : va_D A (List.flatten [bMo g o a th hi ac tp x_27 x_28 x_29 fl x_30 x_31 x_32 x_33 fm_10 fk fa fc ft ff_34 fb_121 fi]) := hD
                exact ih14_42 x_122 x_27 x_28 x_29 x_30 x_31 x_32 x_33 ff_34 fb_121 ⟨(Int.le_trans (by decide) hx_122.2.1), hx_122.2.2⟩ ⟨i37.1, i37.2⟩ ⟨i38.1, i38.2⟩ (zBy_s i39 efb_121 hx_122.1 (by omega) (zBv_f hq106_k)) (by first | omega | assumption | decide) H _ ls (zmK hx_122.1 (by decide) n103 (by decide) hk14_42)  hP hD hS (lv_sub hl [0, 1, 2, 3, 4, 5] rfl)
        have hL0 : (0 : Int32).toInt = 0 := by decide
        have hP : va_P g.1 vwCl (List.flatten [bMo g o a th hi ac tp x_3 x_4 x_5 fl x_6 x_7 x_8 x_9 fm_10 fk fa fc ft ff_11 fb_12 fi]) H := hP
        have hD : va_D A (List.flatten [bMo g o a th hi ac tp x_3 x_4 x_5 fl x_6 x_7 x_8 x_9 fm_10 fk fa fc ft ff_11 fb_12 fi]) := hD
        exact LP14_41 _ 0 x_3 x_4 x_5 x_6 x_7 x_8 x_9 ff_11 fb_12 (by decide) ⟨i14.1, i14.2⟩ ⟨i15.1, i15.2⟩ (zBy_0 (by decide)) (by rw [zi0]; exact (rM3 rfm_10).1) H _ ls (Nat.lt_succ_self _)  hP hD hS (lv_sub hl [0, 1, 2, 3, 4, 5] rfl)
  have hL0 : (0 : Int32).toInt = 0 := by decide
  have hP : va_P g.1 vwCl (List.flatten [bMo g o a th hi ac tp ba en tA fl de iD iO tU fm fk fa fc ft ff fb fi]) s.heap := hP
  have hD : va_D A (List.flatten [bMo g o a th hi ac tp ba en tA fl de iD iO tU fm fk fa fc ft ff fb fi]) := hD
  exact LP5_20 _ 0 0 ba en tA de iD iO tU fm ff fb (by decide) ⟨hiD.1, hiD.2⟩ ⟨hiO.1, hiO.2⟩ rfm (zNds_0 (by decide)) (zGk_r _) hrg (by first | omega | assumption | decide) s.heap _ ls (Nat.lt_succ_self _)  hP hD hS (lv_sub hl [0, 1, 2, 3, 4] rfl)
