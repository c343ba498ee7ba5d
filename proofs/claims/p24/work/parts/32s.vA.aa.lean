theorem zSp1_5 {x o : Nat} {w : Bool} {f : zRw} : zSp1 x w o f 5 = f 5 := by
  unfold zSp1
  by_cases q : o = x
  · rw [if_pos q]
  · rw [if_neg q]
    by_cases p : (f 3 o).toInt = -1
    · rw [if_pos p]; exact zSet_r _ _ _ _ (by decide)
    · rw [if_neg p]
theorem zSpI_5 {x : Nat} {w : Bool} {f : zRw} : ∀ n : Nat, zIt (zSp1 x w) f n 5 = f 5
  | 0 => rfl
  | n + 1 => zSp1_5.trans (zSpI_5 n)
theorem zCB1_5 {pe x : Nat} {dy tr tl : Int32} {s : zCs} : (zCB1 pe dy tr tl x s).1 5 = s.1 5 := by
  unfold zCB1
  by_cases p : (s.1 3 x).toInt = -1
  · rw [if_pos p]
  · rw [if_neg p]
    by_cases q : (s.1 3 x).toInt ≤ dy.toInt
    · rw [if_pos q]
      by_cases t : tl.toInt = 0
      · rw [if_pos t]; exact zSet_r s.1 3 x (-1) (q := 5) (by decide)
      · rw [if_neg t]
        show zSpr pe x (zWa tr s.2) (zSet s.1 3 x (-1)) 5 = s.1 5
        unfold zSpr
        rw [zSet_r _ _ _ _ (by decide), zSpI_5 pe, zSet_r _ _ _ _ (by decide)]
    · rw [if_neg q]
/-! THE TOWN WHOLE: what acts make of it -/
abbrev zT9 : Type := Int32 × Int32 × Int32 × Int32 × Int32 × Int32 × Int32 × Int32 × zRw
def zM9 (m : Nat → Int32) : zT9 := (m 3, m 4, m 0, m 5, m 6, m 7, m 8, m 10, zV m)
def zR9 (a b : zT9) : Prop := a.1 = b.1 ∧ a.2.1 = b.2.1 ∧ a.2.2.1 = b.2.2.1 ∧ a.2.2.2.1 = b.2.2.2.1 ∧ a.2.2.2.2.1 = b.2.2.2.2.1 ∧ a.2.2.2.2.2.1 = b.2.2.2.2.2.1 ∧ a.2.2.2.2.2.2.1 = b.2.2.2.2.2.2.1 ∧ a.2.2.2.2.2.2.2.1 = b.2.2.2.2.2.2.2.1 ∧ zEq a.2.2.2.2.2.2.2.2 b.2.2.2.2.2.2.2.2
theorem zR9_r (s : zT9) : zR9 s s := ⟨rfl, rfl, rfl, rfl, rfl, rfl, rfl, rfl, zEq_r _⟩
theorem zR9_t {a b c : zT9} (h : zR9 a b) (k : zR9 b c) : zR9 a c := by
  obtain ⟨h1, h2, h3, h4, h5, h6, h7, h8, h9⟩ := h
  obtain ⟨k1, k2, k3, k4, k5, k6, k7, k8, k9⟩ := k
  exact ⟨h1.trans k1, h2.trans k2, h3.trans k3, h4.trans k4, h5.trans k5, h6.trans k6, h7.trans k7, h8.trans k8, zEq_t h9 k9⟩
theorem zR9_s {a b : zT9} (h : zR9 a b) : zR9 b a := by
  obtain ⟨h1, h2, h3, h4, h5, h6, h7, h8, h9⟩ := h
  exact ⟨h1.symm, h2.symm, h3.symm, h4.symm, h5.symm, h6.symm, h7.symm, h8.symm, zEq_s h9⟩
theorem zR9_f {pe wo tx ch jo tr dy sd : Int32} {f g : zRw} (e : zEq f g) : zR9 (pe, wo, tx, ch, jo, tr, dy, sd, f) (pe, wo, tx, ch, jo, tr, dy, sd, g) := ⟨rfl, rfl, rfl, rfl, rfl, rfl, rfl, rfl, e⟩
/-- code, answer, town -/
abbrev zY9 : Type := Int32 × Int32 × zT9
def zX9 (a b : zY9) : Prop := a.1 = b.1 ∧ a.2.1 = b.2.1 ∧ zR9 a.2.2 b.2.2
theorem zX9_r (a : zY9) : zX9 a a := ⟨rfl, rfl, zR9_r _⟩
theorem zX9_t {a b c : zY9} (h : zX9 a b) (k : zX9 b c) : zX9 a c := ⟨h.1.trans k.1, h.2.1.trans k.2.1, zR9_t h.2.2 k.2.2⟩
theorem zX9_s {a b : zY9} (h : zX9 a b) : zX9 b a := ⟨h.1.symm, h.2.1.symm, zR9_s h.2.2⟩
theorem zX9_of {a b : zY9} (h : a = b) : zX9 a b := by subst h; exact zX9_r _
def zk3 (A B C : Prop) [dA : Decidable A] [dB : Decidable B] [dC : Decidable C] (r : Int32 × zT9) (s : zT9) : zY9 := if A then (if B then (if C then (0, r.1, r.2) else (3, 0, s)) else (2, 0, s)) else (1, 0, s)
theorem zk3_0 {A B C : Prop} [dA : Decidable A] [dB : Decidable B] [dC : Decidable C] {r : Int32 × zT9} {s : zT9} (a : A) (b : B) (c : C) : zk3 A B C r s = (0, r.1, r.2) := (if_pos a).trans ((if_pos b).trans (if_pos c))
theorem zk3_1 {A B C : Prop} [dA : Decidable A] [dB : Decidable B] [dC : Decidable C] {r : Int32 × zT9} {s : zT9} (a : ¬ A) : zk3 A B C r s = (1, 0, s) := if_neg a
theorem zk3_2 {A B C : Prop} [dA : Decidable A] [dB : Decidable B] [dC : Decidable C] {r : Int32 × zT9} {s : zT9} (a : A) (b : ¬ B) : zk3 A B C r s = (2, 0, s) := (if_pos a).trans (if_neg b)
theorem zk3_3 {A B C : Prop} [dA : Decidable A] [dB : Decidable B] [dC : Decidable C] {r : Int32 × zT9} {s : zT9} (a : A) (b : B) (c : ¬ C) : zk3 A B C r s = (3, 0, s) := (if_pos a).trans ((if_pos b).trans (if_neg c))
theorem zk3_c {A B C A' B' C' : Prop} [dA : Decidable A] [dB : Decidable B] [dC : Decidable C] [dA' : Decidable A'] [dB' : Decidable B'] [dC' : Decidable C'] {r r' : Int32 × zT9} {s s' : zT9} (eA : A ↔ A') (eB : A → (B ↔ B')) (eC : A → (C ↔ C')) (er : A → r.1 = r'.1 ∧ zR9 r.2 r'.2) (es : zR9 s s') : zX9 (zk3 A B C r s) (zk3 A' B' C' r' s') := by
  by_cases a : A
  · by_cases b : B
    · by_cases c : C
      · rw [zk3_0 a b c, zk3_0 (eA.mp a) ((eB a).mp b) ((eC a).mp c)]; exact ⟨rfl, (er a).1, (er a).2⟩
      · rw [zk3_3 a b c, zk3_3 (eA.mp a) ((eB a).mp b) (fun q => c ((eC a).mpr q))]; exact ⟨rfl, rfl, es⟩
    · rw [zk3_2 a b, zk3_2 (eA.mp a) (fun q => b ((eB a).mpr q))]; exact ⟨rfl, rfl, es⟩
  · rw [zk3_1 a, zk3_1 (fun q => a (eA.mpr q))]; exact ⟨rfl, rfl, es⟩
/-- bounds; nobody trusts, or is trusted, who is not there -/
def zOk (s : zT9) : Prop := (0 ≤ s.1.toInt ∧ s.1.toInt ≤ 8) ∧ (0 ≤ s.2.1.toInt ∧ s.2.1.toInt ≤ 6) ∧ (0 ≤ s.2.2.1.toInt ∧ s.2.2.1.toInt ≤ 12) ∧ zRg s.2.2.2.2.2.2.2.2 ∧ zAb s.2.2.2.2.2.2.2.2 s.1.toInt
theorem zk3_ok {A B C : Prop} [dA : Decidable A] [dB : Decidable B] [dC : Decidable C] {r : Int32 × zT9} {s : zT9} (h : zOk s) (k : A → B → C → zOk r.2) : zOk (zk3 A B C r s).2.2 := by
  by_cases a : A
  · by_cases b : B
    · by_cases c : C
      · rw [zk3_0 a b c]; exact k a b c
      · rw [zk3_3 a b c]; exact h
    · rw [zk3_2 a b]; exact h
  · rw [zk3_1 a]; exact h
theorem zOk_c {s t : zT9} (h : zOk s) (e : zR9 s t) : zOk t := by
  obtain ⟨s1, s2, s3, s4, s5, s6, s7, s8, s9⟩ := s
  obtain ⟨t1, t2, t3, t4, t5, t6, t7, t8, t9⟩ := t
  obtain ⟨e1, e2, e3, e4, e5, e6, e7, e8, e9⟩ := e
  obtain ⟨h1, h2, h3, h4, h5⟩ := h
  have e1' : s1 = t1 := e1
  have e2' : s2 = t2 := e2
  have e3' : s3 = t3 := e3
  subst e1'; subst e2'; subst e3'
  exact ⟨h1, h2, h3, zRg_c h4 e9, zAb_c h5 (zEq_s e9)⟩
/-- the same but for the rows -/
def zwf (s : zT9) (f : zRw) : zT9 := (s.1, s.2.1, s.2.2.1, s.2.2.2.1, s.2.2.2.2.1, s.2.2.2.2.2.1, s.2.2.2.2.2.2.1, s.2.2.2.2.2.2.2.1, f)
def zwcf (s : zT9) (c : Int32) (f : zRw) : zT9 := (s.1, s.2.1, s.2.2.1, c, s.2.2.2.2.1, s.2.2.2.2.2.1, s.2.2.2.2.2.2.1, s.2.2.2.2.2.2.2.1, f)
/-! the acts -/
def zxTell (x : Int32) (s : zT9) : zY9 := zk3 (0 ≤ x.toInt ∧ x.toInt < s.1.toInt) ((s.2.2.2.2.2.2.2.2 3 x.toInt.toNat).toInt = -1) True (zCl (s.2.2.2.2.2.2.2.2 0 x.toInt.toNat + 20), zwf s (zSet s.2.2.2.2.2.2.2.2 0 x.toInt.toNat (zCl (s.2.2.2.2.2.2.2.2 0 x.toInt.toNat + 20)))) s
def zxTie (x o n : Int32) (s : zT9) : zY9 := zk3 ((0 ≤ x.toInt ∧ x.toInt < s.1.toInt) ∧ (0 ≤ o.toInt ∧ o.toInt < s.1.toInt)) (¬ x.toInt = o.toInt ∧ 0 ≤ n.toInt ∧ n.toInt ≤ 9) True (s.2.2.2.2.2.2.2.2 5 (8 * x.toInt.toNat + o.toInt.toNat), zwf s (zSet s.2.2.2.2.2.2.2.2 5 (8 * x.toInt.toNat + o.toInt.toNat) n)) s
def zxPlan (w : Int32) (s : zT9) : zY9 := zk3 (0 ≤ w.toInt ∧ w.toInt < s.2.1.toInt) ((s.2.2.2.2.2.2.2.2 9 w.toInt.toNat).toInt = 2) True (0, zwf s (zSet s.2.2.2.2.2.2.2.2 9 w.toInt.toNat 0)) s
def zxSend (x : Int32) (s : zT9) : zY9 := zk3 (0 ≤ x.toInt ∧ x.toInt < s.1.toInt) ((s.2.2.2.2.2.2.2.2 3 x.toInt.toNat).toInt = -1) True (s.2.2.2.2.2.2.1 + s.2.2.2.2.1, zwf s (zSet s.2.2.2.2.2.2.2.2 3 x.toInt.toNat (s.2.2.2.2.2.2.1 + s.2.2.2.2.1))) s
def zxBuy (x n : Int32) (s : zT9) : zY9 := zk3 (0 ≤ x.toInt ∧ x.toInt < s.1.toInt) (1 ≤ n.toInt ∧ n.toInt ≤ 99) ((s.2.2.2.2.2.2.2.2 2 x.toInt.toNat + n).toInt ≤ 99 ∧ (n * zPrice s.2.2.2.2.2.2.2.2 s.1.toInt.toNat).toInt ≤ (s.2.2.2.2.2.2.2.2 1 x.toInt.toNat).toInt) (s.2.2.2.2.2.2.2.2 1 x.toInt.toNat - n * zPrice s.2.2.2.2.2.2.2.2 s.1.toInt.toNat, zwcf s (zCap (s.2.2.2.1 + n * zPrice s.2.2.2.2.2.2.2.2 s.1.toInt.toNat)) (zSet (zSet s.2.2.2.2.2.2.2.2 2 x.toInt.toNat (s.2.2.2.2.2.2.2.2 2 x.toInt.toNat + n)) 1 x.toInt.toNat (s.2.2.2.2.2.2.2.2 1 x.toInt.toNat - n * zPrice s.2.2.2.2.2.2.2.2 s.1.toInt.toNat))) s
def zxSell (x n : Int32) (s : zT9) : zY9 := zk3 (0 ≤ x.toInt ∧ x.toInt < s.1.toInt) (1 ≤ n.toInt ∧ n.toInt ≤ 99) (n.toInt ≤ (s.2.2.2.2.2.2.2.2 2 x.toInt.toNat).toInt ∧ (n * zPrice s.2.2.2.2.2.2.2.2 s.1.toInt.toNat).toInt ≤ s.2.2.2.1.toInt) (zCap (s.2.2.2.2.2.2.2.2 1 x.toInt.toNat + n * zPrice s.2.2.2.2.2.2.2.2 s.1.toInt.toNat), zwcf s (s.2.2.2.1 - n * zPrice s.2.2.2.2.2.2.2.2 s.1.toInt.toNat) (zSet (zSet s.2.2.2.2.2.2.2.2 2 x.toInt.toNat (s.2.2.2.2.2.2.2.2 2 x.toInt.toNat - n)) 1 x.toInt.toNat (zCap (s.2.2.2.2.2.2.2.2 1 x.toInt.toNat + n * zPrice s.2.2.2.2.2.2.2.2 s.1.toInt.toNat)))) s
def zxDry (x i : Int32) (s : zT9) : zY9 := zk3 (0 ≤ x.toInt ∧ x.toInt < s.1.toInt) True True (if (s.2.2.2.2.2.2.2.2 4 x.toInt.toNat).toInt = i.toInt then 0 else 1, zwf s (zSet s.2.2.2.2.2.2.2.2 4 x.toInt.toNat i)) s
def zDsS (s : zT9) : zDs := (s.2.2.2.1, s.2.2.2.2.2.2.1, s.2.2.2.2.2.2.2.1, s.2.2.2.2.2.2.2.2)
def zDsB (s : zT9) (d : zDs) : zT9 := (s.1, s.2.1, s.2.2.1, d.1, s.2.2.2.2.1, s.2.2.2.2.2.1, d.2.1, d.2.2.1, d.2.2.2)
/-- so many days from here (tl: with tales) -/
def zGo (L : zLw) (tl : Int32) (n : Nat) (s : zT9) : zT9 := zDsB s (zNds L s.1.toInt.toNat s.2.1.toInt.toNat s.2.2.2.2.2.1 tl n (zDsS s)).1
def zxDays (L : zLw) (n : Int32) (s : zT9) : zY9 := zk3 (1 ≤ n.toInt ∧ n.toInt ≤ 60) True True ((zNds L s.1.toInt.toNat s.2.1.toInt.toNat s.2.2.2.2.2.1 1 n.toInt.toNat (zDsS s)).2, zGo L 1 n.toInt.toNat s) s
theorem zxTell_c {x : Int32} {s t : zT9} (h : zR9 s t) (k : zOk s) : zX9 (zxTell x s) (zxTell x t) := by
  obtain ⟨s1, s2, s3, s4, s5, s6, s7, s8, s9⟩ := s
  obtain ⟨t1, t2, t3, t4, t5, t6, t7, t8, t9⟩ := t
  obtain ⟨e1, e2, e3, e4, e5, e6, e7, e8, e9⟩ := h
  have q1 : s1 = t1 := e1
  have q2 : s2 = t2 := e2
  have q3 : s3 = t3 := e3
  have q4 : s4 = t4 := e4
  have q5 : s5 = t5 := e5
  have q6 : s6 = t6 := e6
  have q7 : s7 = t7 := e7
  have q8 : s8 = t8 := e8
  have q9 : zEq s9 t9 := e9
  subst q1
  subst q2
  subst q3
  subst q4
  subst q5
  subst q6
  subst q7
  subst q8
  have b8 : 0 ≤ s1.toInt ∧ s1.toInt ≤ 8 := k.1
  have b6 : 0 ≤ s2.toInt ∧ s2.toInt ≤ 6 := k.2.1
  exact zk3_c Iff.rfl (fun a => by
    have a : 0 ≤ x.toInt ∧ x.toInt < s1.toInt := a
    show ((s9 3 x.toInt.toNat).toInt = -1 ↔ (t9 3 x.toInt.toNat).toInt = -1)
    rw [q9.1 3 x.toInt.toNat (by decide) (by omega)]
    ) (fun a => by
    have a : 0 ≤ x.toInt ∧ x.toInt < s1.toInt := a
    exact Iff.rfl
    ) (fun a => by
    have a : 0 ≤ x.toInt ∧ x.toInt < s1.toInt := a
    have e : s9 0 x.toInt.toNat = t9 0 x.toInt.toNat := q9.1 0 x.toInt.toNat (by decide) (by omega)
    refine ⟨?_, zR9_f (zSet_c q9 ?_)⟩
    · show zCl (s9 0 x.toInt.toNat + 20) = zCl (t9 0 x.toInt.toNat + 20)
      rw [e]
    · show zCl (s9 0 x.toInt.toNat + 20) = zCl (t9 0 x.toInt.toNat + 20)
      rw [e]
    ) (zR9_f q9)
theorem zxTie_c {x o n : Int32} {s t : zT9} (h : zR9 s t) (k : zOk s) : zX9 (zxTie x o n s) (zxTie x o n t) := by
  obtain ⟨s1, s2, s3, s4, s5, s6, s7, s8, s9⟩ := s
  obtain ⟨t1, t2, t3, t4, t5, t6, t7, t8, t9⟩ := t
  obtain ⟨e1, e2, e3, e4, e5, e6, e7, e8, e9⟩ := h
  have q1 : s1 = t1 := e1
  have q2 : s2 = t2 := e2
  have q3 : s3 = t3 := e3
  have q4 : s4 = t4 := e4
  have q5 : s5 = t5 := e5
  have q6 : s6 = t6 := e6
  have q7 : s7 = t7 := e7
  have q8 : s8 = t8 := e8
  have q9 : zEq s9 t9 := e9
  subst q1
  subst q2
  subst q3
  subst q4
  subst q5
  subst q6
  subst q7
  subst q8
  have b8 : 0 ≤ s1.toInt ∧ s1.toInt ≤ 8 := k.1
  have b6 : 0 ≤ s2.toInt ∧ s2.toInt ≤ 6 := k.2.1
  by_cases d : x.toInt = o.toInt
  · by_cases a : (0 ≤ x.toInt ∧ x.toInt < s1.toInt) ∧ (0 ≤ o.toInt ∧ o.toInt < s1.toInt)
    · rw [show zxTie x o n (s1, s2, s3, s4, s5, s6, s7, s8, s9) = _ from zk3_2 a (fun q => q.1 d), show zxTie x o n (s1, s2, s3, s4, s5, s6, s7, s8, t9) = _ from zk3_2 a (fun q => q.1 d)]; exact ⟨rfl, rfl, zR9_f q9⟩
    · rw [show zxTie x o n (s1, s2, s3, s4, s5, s6, s7, s8, s9) = _ from zk3_1 a, show zxTie x o n (s1, s2, s3, s4, s5, s6, s7, s8, t9) = _ from zk3_1 a]; exact ⟨rfl, rfl, zR9_f q9⟩
  · exact zk3_c Iff.rfl (fun _ => Iff.rfl) (fun _ => Iff.rfl) (fun a => by
      have a : (0 ≤ x.toInt ∧ x.toInt < s1.toInt) ∧ (0 ≤ o.toInt ∧ o.toInt < s1.toInt) := a
      exact ⟨q9.2.1 x.toInt.toNat o.toInt.toNat (by omega) (by omega) (by omega), zR9_f (zSet_c q9 rfl)⟩) (zR9_f q9)
theorem zxPlan_c {w : Int32} {s t : zT9} (h : zR9 s t) (k : zOk s) : zX9 (zxPlan w s) (zxPlan w t) := by
  obtain ⟨s1, s2, s3, s4, s5, s6, s7, s8, s9⟩ := s
  obtain ⟨t1, t2, t3, t4, t5, t6, t7, t8, t9⟩ := t
  obtain ⟨e1, e2, e3, e4, e5, e6, e7, e8, e9⟩ := h
  have q1 : s1 = t1 := e1
  have q2 : s2 = t2 := e2
  have q3 : s3 = t3 := e3
  have q4 : s4 = t4 := e4
  have q5 : s5 = t5 := e5
  have q6 : s6 = t6 := e6
  have q7 : s7 = t7 := e7
  have q8 : s8 = t8 := e8
  have q9 : zEq s9 t9 := e9
  subst q1
  subst q2
  subst q3
  subst q4
  subst q5
  subst q6
  subst q7
  subst q8
  have b8 : 0 ≤ s1.toInt ∧ s1.toInt ≤ 8 := k.1
  have b6 : 0 ≤ s2.toInt ∧ s2.toInt ≤ 6 := k.2.1
  exact zk3_c Iff.rfl (fun a => by
    have a : 0 ≤ w.toInt ∧ w.toInt < s2.toInt := a
    show ((s9 9 w.toInt.toNat).toInt = 2 ↔ (t9 9 w.toInt.toNat).toInt = 2)
    rw [q9.2.2 9 w.toInt.toNat (by decide) (by decide) (by omega)]
    ) (fun a => by
    have a : 0 ≤ w.toInt ∧ w.toInt < s2.toInt := a
    exact Iff.rfl
    ) (fun a => by
    have a : 0 ≤ w.toInt ∧ w.toInt < s2.toInt := a
    exact ⟨rfl, zR9_f (zSet_c q9 rfl)⟩
    ) (zR9_f q9)
theorem zxSend_c {x : Int32} {s t : zT9} (h : zR9 s t) (k : zOk s) : zX9 (zxSend x s) (zxSend x t) := by
  obtain ⟨s1, s2, s3, s4, s5, s6, s7, s8, s9⟩ := s
  obtain ⟨t1, t2, t3, t4, t5, t6, t7, t8, t9⟩ := t
  obtain ⟨e1, e2, e3, e4, e5, e6, e7, e8, e9⟩ := h
  have q1 : s1 = t1 := e1
  have q2 : s2 = t2 := e2
  have q3 : s3 = t3 := e3
  have q4 : s4 = t4 := e4
  have q5 : s5 = t5 := e5
  have q6 : s6 = t6 := e6
  have q7 : s7 = t7 := e7
  have q8 : s8 = t8 := e8
  have q9 : zEq s9 t9 := e9
  subst q1
  subst q2
  subst q3
  subst q4
  subst q5
  subst q6
  subst q7
  subst q8
  have b8 : 0 ≤ s1.toInt ∧ s1.toInt ≤ 8 := k.1
  have b6 : 0 ≤ s2.toInt ∧ s2.toInt ≤ 6 := k.2.1
  exact zk3_c Iff.rfl (fun a => by
    have a : 0 ≤ x.toInt ∧ x.toInt < s1.toInt := a
    show ((s9 3 x.toInt.toNat).toInt = -1 ↔ (t9 3 x.toInt.toNat).toInt = -1)
    rw [q9.1 3 x.toInt.toNat (by decide) (by omega)]
    ) (fun a => by
    have a : 0 ≤ x.toInt ∧ x.toInt < s1.toInt := a
    exact Iff.rfl
    ) (fun a => by
    have a : 0 ≤ x.toInt ∧ x.toInt < s1.toInt := a
    exact ⟨rfl, zR9_f (zSet_c q9 rfl)⟩
    ) (zR9_f q9)
theorem zxBuy_c {x n : Int32} {s t : zT9} (h : zR9 s t) (k : zOk s) : zX9 (zxBuy x n s) (zxBuy x n t) := by
  obtain ⟨s1, s2, s3, s4, s5, s6, s7, s8, s9⟩ := s
  obtain ⟨t1, t2, t3, t4, t5, t6, t7, t8, t9⟩ := t
  obtain ⟨e1, e2, e3, e4, e5, e6, e7, e8, e9⟩ := h
  have q1 : s1 = t1 := e1
  have q2 : s2 = t2 := e2
  have q3 : s3 = t3 := e3
  have q4 : s4 = t4 := e4
  have q5 : s5 = t5 := e5
  have q6 : s6 = t6 := e6
  have q7 : s7 = t7 := e7
  have q8 : s8 = t8 := e8
  have q9 : zEq s9 t9 := e9
  subst q1
  subst q2
  subst q3
  subst q4
  subst q5
  subst q6
  subst q7
  subst q8
  have b8 : 0 ≤ s1.toInt ∧ s1.toInt ≤ 8 := k.1
  have b6 : 0 ≤ s2.toInt ∧ s2.toInt ≤ 6 := k.2.1
  exact zk3_c Iff.rfl (fun a => by
    have a : 0 ≤ x.toInt ∧ x.toInt < s1.toInt := a
    exact Iff.rfl
    ) (fun a => by
    have a : 0 ≤ x.toInt ∧ x.toInt < s1.toInt := a
    have ep : zPrice s9 s1.toInt.toNat = zPrice t9 s1.toInt.toNat := zPrice_c q9 (n := s1.toInt.toNat) (by omega)
    have e1 : s9 1 x.toInt.toNat = t9 1 x.toInt.toNat := q9.1 1 x.toInt.toNat (by decide) (by omega)
    have e2 : s9 2 x.toInt.toNat = t9 2 x.toInt.toNat := q9.1 2 x.toInt.toNat (by decide) (by omega)
    show ((s9 2 x.toInt.toNat + n).toInt ≤ 99 ∧ (n * zPrice s9 s1.toInt.toNat).toInt ≤ (s9 1 x.toInt.toNat).toInt ↔ (t9 2 x.toInt.toNat + n).toInt ≤ 99 ∧ (n * zPrice t9 s1.toInt.toNat).toInt ≤ (t9 1 x.toInt.toNat).toInt)
    rw [ep, e1, e2]
    ) (fun a => by
    have a : 0 ≤ x.toInt ∧ x.toInt < s1.toInt := a
    have ep : zPrice s9 s1.toInt.toNat = zPrice t9 s1.toInt.toNat := zPrice_c q9 (n := s1.toInt.toNat) (by omega)
    have e1 : s9 1 x.toInt.toNat = t9 1 x.toInt.toNat := q9.1 1 x.toInt.toNat (by decide) (by omega)
    have e2 : s9 2 x.toInt.toNat = t9 2 x.toInt.toNat := q9.1 2 x.toInt.toNat (by decide) (by omega)
    refine ⟨?_, (show s1 = s1 from rfl), (show s2 = s2 from rfl), (show s3 = s3 from rfl), ?_, (show s5 = s5 from rfl), (show s6 = s6 from rfl), (show s7 = s7 from rfl), (show s8 = s8 from rfl), ?_⟩
    · show s9 1 x.toInt.toNat - n * zPrice s9 s1.toInt.toNat = t9 1 x.toInt.toNat - n * zPrice t9 s1.toInt.toNat
      rw [e1, ep]
    · show zCap (s4 + n * zPrice s9 s1.toInt.toNat) = zCap (s4 + n * zPrice t9 s1.toInt.toNat)
      rw [ep]
    · show zEq (zSet (zSet s9 2 x.toInt.toNat (s9 2 x.toInt.toNat + n)) 1 x.toInt.toNat (s9 1 x.toInt.toNat - n * zPrice s9 s1.toInt.toNat)) (zSet (zSet t9 2 x.toInt.toNat (t9 2 x.toInt.toNat + n)) 1 x.toInt.toNat (t9 1 x.toInt.toNat - n * zPrice t9 s1.toInt.toNat))
      exact zSet_c (zSet_c q9 (by rw [e2])) (by rw [e1, ep])
    ) (zR9_f q9)
theorem zxSell_c {x n : Int32} {s t : zT9} (h : zR9 s t) (k : zOk s) : zX9 (zxSell x n s) (zxSell x n t) := by
  obtain ⟨s1, s2, s3, s4, s5, s6, s7, s8, s9⟩ := s
  obtain ⟨t1, t2, t3, t4, t5, t6, t7, t8, t9⟩ := t
  obtain ⟨e1, e2, e3, e4, e5, e6, e7, e8, e9⟩ := h
  have q1 : s1 = t1 := e1
  have q2 : s2 = t2 := e2
  have q3 : s3 = t3 := e3
  have q4 : s4 = t4 := e4
  have q5 : s5 = t5 := e5
  have q6 : s6 = t6 := e6
  have q7 : s7 = t7 := e7
  have q8 : s8 = t8 := e8
  have q9 : zEq s9 t9 := e9
  subst q1
  subst q2
  subst q3
  subst q4
  subst q5
  subst q6
  subst q7
  subst q8
  have b8 : 0 ≤ s1.toInt ∧ s1.toInt ≤ 8 := k.1
  have b6 : 0 ≤ s2.toInt ∧ s2.toInt ≤ 6 := k.2.1
  exact zk3_c Iff.rfl (fun a => by
    have a : 0 ≤ x.toInt ∧ x.toInt < s1.toInt := a
    exact Iff.rfl
    ) (fun a => by
    have a : 0 ≤ x.toInt ∧ x.toInt < s1.toInt := a
    have ep : zPrice s9 s1.toInt.toNat = zPrice t9 s1.toInt.toNat := zPrice_c q9 (n := s1.toInt.toNat) (by omega)
    have e1 : s9 1 x.toInt.toNat = t9 1 x.toInt.toNat := q9.1 1 x.toInt.toNat (by decide) (by omega)
    have e2 : s9 2 x.toInt.toNat = t9 2 x.toInt.toNat := q9.1 2 x.toInt.toNat (by decide) (by omega)
    show (n.toInt ≤ (s9 2 x.toInt.toNat).toInt ∧ (n * zPrice s9 s1.toInt.toNat).toInt ≤ s4.toInt ↔ n.toInt ≤ (t9 2 x.toInt.toNat).toInt ∧ (n * zPrice t9 s1.toInt.toNat).toInt ≤ s4.toInt)
    rw [ep, e2]
    ) (fun a => by
    have a : 0 ≤ x.toInt ∧ x.toInt < s1.toInt := a
    have ep : zPrice s9 s1.toInt.toNat = zPrice t9 s1.toInt.toNat := zPrice_c q9 (n := s1.toInt.toNat) (by omega)
    have e1 : s9 1 x.toInt.toNat = t9 1 x.toInt.toNat := q9.1 1 x.toInt.toNat (by decide) (by omega)
    have e2 : s9 2 x.toInt.toNat = t9 2 x.toInt.toNat := q9.1 2 x.toInt.toNat (by decide) (by omega)
    refine ⟨?_, (show s1 = s1 from rfl), (show s2 = s2 from rfl), (show s3 = s3 from rfl), ?_, (show s5 = s5 from rfl), (show s6 = s6 from rfl), (show s7 = s7 from rfl), (show s8 = s8 from rfl), ?_⟩
    · show zCap (s9 1 x.toInt.toNat + n * zPrice s9 s1.toInt.toNat) = zCap (t9 1 x.toInt.toNat + n * zPrice t9 s1.toInt.toNat)
      rw [e1, ep]
    · show s4 - n * zPrice s9 s1.toInt.toNat = s4 - n * zPrice t9 s1.toInt.toNat
      rw [ep]
    · show zEq (zSet (zSet s9 2 x.toInt.toNat (s9 2 x.toInt.toNat - n)) 1 x.toInt.toNat (zCap (s9 1 x.toInt.toNat + n * zPrice s9 s1.toInt.toNat))) (zSet (zSet t9 2 x.toInt.toNat (t9 2 x.toInt.toNat - n)) 1 x.toInt.toNat (zCap (t9 1 x.toInt.toNat + n * zPrice t9 s1.toInt.toNat)))
      exact zSet_c (zSet_c q9 (by rw [e2])) (by rw [e1, ep])
    ) (zR9_f q9)
theorem zxDry_c {x i : Int32} {s t : zT9} (h : zR9 s t) (k : zOk s) : zX9 (zxDry x i s) (zxDry x i t) := by
  obtain ⟨s1, s2, s3, s4, s5, s6, s7, s8, s9⟩ := s
  obtain ⟨t1, t2, t3, t4, t5, t6, t7, t8, t9⟩ := t
  obtain ⟨e1, e2, e3, e4, e5, e6, e7, e8, e9⟩ := h
  have q1 : s1 = t1 := e1
  have q2 : s2 = t2 := e2
  have q3 : s3 = t3 := e3
  have q4 : s4 = t4 := e4
  have q5 : s5 = t5 := e5
  have q6 : s6 = t6 := e6
  have q7 : s7 = t7 := e7
  have q8 : s8 = t8 := e8
  have q9 : zEq s9 t9 := e9
  subst q1
  subst q2
  subst q3
  subst q4
  subst q5
  subst q6
  subst q7
  subst q8
  have b8 : 0 ≤ s1.toInt ∧ s1.toInt ≤ 8 := k.1
  have b6 : 0 ≤ s2.toInt ∧ s2.toInt ≤ 6 := k.2.1
  exact zk3_c Iff.rfl (fun a => by
    have a : 0 ≤ x.toInt ∧ x.toInt < s1.toInt := a
    exact Iff.rfl
    ) (fun a => by
    have a : 0 ≤ x.toInt ∧ x.toInt < s1.toInt := a
    exact Iff.rfl
    ) (fun a => by
    have a : 0 ≤ x.toInt ∧ x.toInt < s1.toInt := a
    refine ⟨?_, zR9_f (zSet_c q9 rfl)⟩
    show (if (s9 4 x.toInt.toNat).toInt = i.toInt then (0 : Int32) else 1) = if (t9 4 x.toInt.toNat).toInt = i.toInt then 0 else 1
    rw [q9.1 4 x.toInt.toNat (by decide) (by omega)]
    ) (zR9_f q9)
theorem zGo_n {L : zLw} {tl : Int32} {n : Nat} {s t : zT9} (h : zR9 s t) (k : zOk s) : zR9 (zGo L tl n s) (zGo L tl n t) ∧ (zNds L s.1.toInt.toNat s.2.1.toInt.toNat s.2.2.2.2.2.1 tl n (zDsS s)).2 = (zNds L t.1.toInt.toNat t.2.1.toInt.toNat t.2.2.2.2.2.1 tl n (zDsS t)).2 := by
  obtain ⟨s1, s2, s3, s4, s5, s6, s7, s8, s9⟩ := s
  obtain ⟨t1, t2, t3, t4, t5, t6, t7, t8, t9⟩ := t
  obtain ⟨e1, e2, e3, e4, e5, e6, e7, e8, e9⟩ := h
  have q1 : s1 = t1 := e1
  have q2 : s2 = t2 := e2
  have q3 : s3 = t3 := e3
  have q4 : s4 = t4 := e4
  have q5 : s5 = t5 := e5
  have q6 : s6 = t6 := e6
  have q7 : s7 = t7 := e7
  have q8 : s8 = t8 := e8
  have q9 : zEq s9 t9 := e9
  subst q1
  subst q2
  subst q3
  subst q4
  subst q5
  subst q6
  subst q7
  subst q8
  have b8 : 0 ≤ s1.toInt ∧ s1.toInt ≤ 8 := k.1
  have b6 : 0 ≤ s2.toInt ∧ s2.toInt ≤ 6 := k.2.1
  have z := zNds_c (L := L) (pe := s1.toInt.toNat) (wo := s2.toInt.toNat) (tr := s6) (tl := tl) (a := (s4, s7, s8, s9)) (b := (s4, s7, s8, t9)) n (by omega) (by omega) ⟨rfl, rfl, rfl, q9⟩
  exact ⟨⟨rfl, rfl, rfl, z.1.1, rfl, rfl, z.1.2.1, z.1.2.2.1, z.1.2.2.2⟩, z.2⟩
theorem zxDays_c {L : zLw} {n : Int32} {s t : zT9} (h : zR9 s t) (k : zOk s) : zX9 (zxDays L n s) (zxDays L n t) := by
  have z := zGo_n (L := L) (tl := 1) (n := n.toInt.toNat) h k
  exact zk3_c Iff.rfl (fun _ => Iff.rfl) (fun _ => Iff.rfl) (fun _ => ⟨z.2, z.1⟩) h
/-! bounds are kept -/
theorem zOk_f {s : zT9} {f : zRw} (h : zOk s) (h1 : zRg f) (h2 : zAb f s.1.toInt) : zOk (zwf s f) := ⟨h.1, h.2.1, h.2.2.1, h1, h2⟩
theorem zOk_cf {s : zT9} {c : Int32} {f : zRw} (h : zOk s) (h1 : zRg f) (h2 : zAb f s.1.toInt) : zOk (zwcf s c f) := ⟨h.1, h.2.1, h.2.2.1, h1, h2⟩
theorem zRg_q {f : zRw} {r x : Nat} {v : Int32} (h : zRg f) (hr : ¬ r = 0) (h5 : ¬ r = 5) : zRg (zSet f r x v) := zRg_v h (zSet_r f r x v (fun q => h5 q.symm)) (fun y _ => Or.inl (congrFun (zSet_r f r x v (fun q => hr q.symm)) y))
theorem zAb_q {f : zRw} {r x : Nat} {v : Int32} {pe : Int} (h : zAb f pe) (h5 : ¬ r = 5) : zAb (zSet f r x v) pe := zAb_5 h (zSet_r f r x v (fun q => h5 q.symm))
theorem zRg_tr {f : zRw} {x o : Nat} {v : Int32} (h : zRg f) (hv : 0 ≤ v.toInt ∧ v.toInt ≤ 9) : zRg (zSet f 5 (8 * x + o) v) := by
  refine ⟨fun y hy => by rw [zSet_r f 5 (8 * x + o) v (by decide)]; exact h.1 y hy, fun y p hy hp hn => ?_⟩
  rw [zSet_a]
  by_cases c : (5 : Nat) = 5 ∧ 8 * y + p = 8 * x + o
  · rw [if_pos c]; exact hv
  · rw [if_neg c]; exact h.2 y p hy hp hn
theorem zAb_tr {f : zRw} {x o : Nat} {v : Int32} {pe : Int} (h : zAb f pe) (hx : (x : Int) < pe) (ho : (o : Int) < pe) (h8 : pe ≤ 8) : zAb (zSet f 5 (8 * x + o) v) pe := fun y p hy hp hn hq => by
  rw [zSet_a, if_neg (fun c => by omega)]; exact h y p hy hp hn hq
theorem zxTell_ok {x : Int32} {s : zT9} (h : zOk s) : zOk (zxTell x s).2.2 := zk3_ok h (fun _ _ _ => zOk_f h (zRg_S h.2.2.2.1 (zCl_b _)) (zAb_q h.2.2.2.2 (by decide)))
theorem zxTie_ok {x o n : Int32} {s : zT9} (h : zOk s) : zOk (zxTie x o n s).2.2 := zk3_ok h (fun a b _ => zOk_f h (zRg_tr h.2.2.2.1 b.2) (zAb_tr h.2.2.2.2 (by omega) (by omega) h.1.2))
theorem zxPlan_ok {w : Int32} {s : zT9} (h : zOk s) : zOk (zxPlan w s).2.2 := zk3_ok h (fun _ _ _ => zOk_f h (zRg_q h.2.2.2.1 (by decide) (by decide)) (zAb_q h.2.2.2.2 (by decide)))
theorem zxSend_ok {x : Int32} {s : zT9} (h : zOk s) : zOk (zxSend x s).2.2 := zk3_ok h (fun _ _ _ => zOk_f h (zRg_q h.2.2.2.1 (by decide) (by decide)) (zAb_q h.2.2.2.2 (by decide)))
theorem zxBuy_ok {x n : Int32} {s : zT9} (h : zOk s) : zOk (zxBuy x n s).2.2 := zk3_ok h (fun _ _ _ => zOk_cf h (zRg_q (zRg_q h.2.2.2.1 (by decide) (by decide)) (by decide) (by decide)) (zAb_q (zAb_q h.2.2.2.2 (by decide)) (by decide)))
theorem zxSell_ok {x n : Int32} {s : zT9} (h : zOk s) : zOk (zxSell x n s).2.2 := zk3_ok h (fun _ _ _ => zOk_cf h (zRg_q (zRg_q h.2.2.2.1 (by decide) (by decide)) (by decide) (by decide)) (zAb_q (zAb_q h.2.2.2.2 (by decide)) (by decide)))
theorem zxDry_ok {x i : Int32} {s : zT9} (h : zOk s) : zOk (zxDry x i s).2.2 := zk3_ok h (fun _ _ _ => zOk_f h (zRg_q h.2.2.2.1 (by decide) (by decide)) (zAb_q h.2.2.2.2 (by decide)))
theorem zAb_day {L : zLw} {pe wo : Nat} {tr tl : Int32} {s : zDs} {p : Int} (h : zAb s.2.2.2 p) : zAb (zDay L pe wo tr tl s).2.2.2 p := by
  have key : (zDay L pe wo tr tl s).2.2.2 5 = s.2.2.2 5 := by
    show (zIt (zCB1 pe s.2.1 tr tl) ((zDk L pe wo s).2.1, s.2.2.1) pe).1 5 = s.2.2.2 5
    have a : ∀ n : Nat, (zIt (zCB1 pe s.2.1 tr tl) ((zDk L pe wo s).2.1, s.2.2.1) n).1 5 = (zDk L pe wo s).2.1 5 := by
      intro n
      induction n with
      | zero => rfl
      | succ n ih =>
        show (zCB1 pe s.2.1 tr tl n (zIt (zCB1 pe s.2.1 tr tl) ((zDk L pe wo s).2.1, s.2.2.1) n)).1 5 = _
        rw [← ih]
        exact zCB1_5
    rw [a pe]
    exact (zKW_k wo 5 (by decide)).trans (zTB_r (r := 5) L s.2.2.2 pe wo s.2.1 (by decide))
  exact zAb_5 h key
theorem zNds_ok {L : zLw} {pe wo : Nat} {tr tl : Int32} {s : zDs} {p : Int} (h : zRg s.2.2.2) (k : zAb s.2.2.2 p) : ∀ n : Nat, zRg (zNds L pe wo tr tl n s).1.2.2.2 ∧ zAb (zNds L pe wo tr tl n s).1.2.2.2 p
  | 0 => ⟨h, k⟩
  | n + 1 => ⟨zRg_day (zNds_ok h k n).1, zAb_day (zNds_ok h k n).2⟩
theorem zGo_ok {L : zLw} {tl : Int32} {n : Nat} {s : zT9} (h : zOk s) : zOk (zGo L tl n s) := by
  have k := zNds_ok (L := L) (pe := s.1.toInt.toNat) (wo := s.2.1.toInt.toNat) (tr := s.2.2.2.2.2.1) (tl := tl) (s := zDsS s) h.2.2.2.1 h.2.2.2.2 n
  exact ⟨h.1, h.2.1, h.2.2.1, k.1, k.2⟩
theorem zxDays_ok {L : zLw} {n : Int32} {s : zT9} (h : zOk s) : zOk (zxDays L n s).2.2 := zk3_ok h (fun _ _ _ => zGo_ok h)
/-! the class's acts, done -/
section ZA
variable {x o n w pe wo tx ch jo tr dy sd : Int32} {f f1 f2 : zRw}
theorem zxTell_0 (hp : 0 ≤ x.toInt ∧ x.toInt < pe.toInt) (hh : (f 3 x.toInt.toNat).toInt = -1) (e : f2 = zSet f 0 x.toInt.toNat (zCl (f 0 x.toInt.toNat + 20))) : zxTell x (pe, wo, tx, ch, jo, tr, dy, sd, f) = (0, f2 0 x.toInt.toNat, (pe, wo, tx, ch, jo, tr, dy, sd, f2)) := by
  subst e; rw [zSet_i]; exact zk3_0 hp hh trivial
theorem zxTie_0 (hp : 0 ≤ x.toInt ∧ x.toInt < pe.toInt) (ho : 0 ≤ o.toInt ∧ o.toInt < pe.toInt) (hx : ¬ x.toInt = o.toInt) (hn : 0 ≤ n.toInt ∧ n.toInt ≤ 9) (e : f2 = zSet f 5 (8 * x.toInt.toNat + o.toInt.toNat) n) : zxTie x o n (pe, wo, tx, ch, jo, tr, dy, sd, f) = (0, f 5 (8 * x.toInt.toNat + o.toInt.toNat), (pe, wo, tx, ch, jo, tr, dy, sd, f2)) := by
  subst e; exact zk3_0 ⟨hp, ho⟩ ⟨hx, hn.1, hn.2⟩ trivial
theorem zxPlan_0 (hp : 0 ≤ w.toInt ∧ w.toInt < wo.toInt) (hh : (f 9 w.toInt.toNat).toInt = 2) (e : f2 = zSet f 9 w.toInt.toNat 0) : zxPlan w (pe, wo, tx, ch, jo, tr, dy, sd, f) = (0, 0, (pe, wo, tx, ch, jo, tr, dy, sd, f2)) := by
  subst e; exact zk3_0 hp hh trivial
theorem zxSend_0 (hp : 0 ≤ x.toInt ∧ x.toInt < pe.toInt) (hh : (f 3 x.toInt.toNat).toInt = -1) (e : f2 = zSet f 3 x.toInt.toNat (dy + jo)) : zxSend x (pe, wo, tx, ch, jo, tr, dy, sd, f) = (0, f2 3 x.toInt.toNat, (pe, wo, tx, ch, jo, tr, dy, sd, f2)) := by
  subst e; rw [zSet_i]; exact zk3_0 hp hh trivial
theorem zxBuy_0 (hp : 0 ≤ x.toInt ∧ x.toInt < pe.toInt) (hn : 1 ≤ n.toInt ∧ n.toInt ≤ 99) (h1 : (f 2 x.toInt.toNat + n).toInt ≤ 99) (h2 : (n * zPrice f pe.toInt.toNat).toInt ≤ (f 1 x.toInt.toNat).toInt) (e1 : f1 = zSet f 2 x.toInt.toNat (f 2 x.toInt.toNat + n)) (e2 : f2 = zSet f1 1 x.toInt.toNat (f 1 x.toInt.toNat - n * zPrice f pe.toInt.toNat)) : zxBuy x n (pe, wo, tx, ch, jo, tr, dy, sd, f) = (0, f2 1 x.toInt.toNat, (pe, wo, tx, zCap (ch + n * zPrice f pe.toInt.toNat), jo, tr, dy, sd, f2)) := by
  subst e1; subst e2; rw [zSet_i]; exact zk3_0 hp hn ⟨h1, h2⟩
theorem zxSell_0 (hp : 0 ≤ x.toInt ∧ x.toInt < pe.toInt) (hn : 1 ≤ n.toInt ∧ n.toInt ≤ 99) (h1 : n.toInt ≤ (f 2 x.toInt.toNat).toInt) (h2 : (n * zPrice f pe.toInt.toNat).toInt ≤ ch.toInt) (e1 : f1 = zSet f 2 x.toInt.toNat (f 2 x.toInt.toNat - n)) (e2 : f2 = zSet f1 1 x.toInt.toNat (zCap (f 1 x.toInt.toNat + n * zPrice f pe.toInt.toNat))) : zxSell x n (pe, wo, tx, ch, jo, tr, dy, sd, f) = (0, f2 1 x.toInt.toNat, (pe, wo, tx, ch - n * zPrice f pe.toInt.toNat, jo, tr, dy, sd, f2)) := by
  subst e1; subst e2; rw [zSet_i]; exact zk3_0 hp hn ⟨h1, h2⟩
theorem zxDry_0 {i q : Int32} (hp : 0 ≤ x.toInt ∧ x.toInt < pe.toInt) (e : f2 = zSet f 4 x.toInt.toNat i) (hq : ((f 4 x.toInt.toNat).toInt = i.toInt ∧ q = 0) ∨ (¬ (f 4 x.toInt.toNat).toInt = i.toInt ∧ q = 1)) : zxDry x i (pe, wo, tx, ch, jo, tr, dy, sd, f) = (0, q, (pe, wo, tx, ch, jo, tr, dy, sd, f2)) := by
  subst e
  have e2 : (if (f 4 x.toInt.toNat).toInt = i.toInt then (0 : Int32) else 1) = q := by
    rcases hq with ⟨a, b⟩ | ⟨a, b⟩
    · rw [if_pos a, b]
    · rw [if_neg a, b]
  rw [← e2]; exact zk3_0 hp trivial trivial
end ZA
/-! the model's -/
theorem zM9_k {m m2 : Nat → Int32} {g : zRw} (h3 : m2 3 = m 3) (h4 : m2 4 = m 4) (h0 : m2 0 = m 0) (h5 : m2 5 = m 5) (h6 : m2 6 = m 6) (h7 : m2 7 = m 7) (h8 : m2 8 = m 8) (ha : m2 10 = m 10) (e : zEq (zV m2) g) : zR9 (zM9 m2) (zwf (zM9 m) g) := ⟨h3, h4, h0, h5, h6, h7, h8, ha, e⟩
theorem zM9_u {m : Nat → Int32} {i : Nat} {v : Int32} {g : zRw} (hi : 11 ≤ i) (e : zEq (zV (upd m i v)) g) : zR9 (zM9 (upd m i v)) (zwf (zM9 m) g) := zM9_k (pk_un (by omega)) (pk_un (by omega)) (pk_un (by omega)) (pk_un (by omega)) (pk_un (by omega)) (pk_un (by omega)) (pk_un (by omega)) (pk_un (by omega)) e
/-- what acts leave: the law, its text -/
def zKl (m m2 : Nat → Int32) : Prop := m2 1 = m 1 ∧ m2 2 = m 2 ∧ ∀ i : Nat, 379 ≤ i → m2 i = m i
theorem zKl_r (m : Nat → Int32) : zKl m m := ⟨rfl, rfl, fun _ _ => rfl⟩
theorem zKl_t {a b c : Nat → Int32} (h : zKl a b) (k : zKl b c) : zKl a c := ⟨k.1.trans h.1, k.2.1.trans h.2.1, fun i hi => (k.2.2 i hi).trans (h.2.2 i hi)⟩
theorem zKl_u {m f f1 : Nat → Int32} {i : Nat} {v : Int32} (h : zKl m f) (e : f1 = upd f i v) (hi : i = 0 ∨ 3 ≤ i ∧ i < 379) : zKl m f1 := by
  subst e
  exact ⟨(pk_un (by omega)).trans h.1, (pk_un (by omega)).trans h.2.1, fun j hj => (pk_un (by omega)).trans (h.2.2 j hj)⟩
theorem zKl_g {m m2 : Nat → Int32} (h : zGk m m2) : zKl m m2 := ⟨h 1 (by omega), h 2 (by omega), fun i hi => h i (by omega)⟩
section ZB
variable {x o n w : Int32} {m m1 m2 m3 : Nat → Int32}
theorem zxTell_m (hp : 0 ≤ x.toInt ∧ x.toInt < (m 3).toInt) (h8 : x.toInt < 8) (hh : (zV m 3 x.toInt.toNat).toInt = -1) (e : m2 = upd m (11 + 5 * x.toInt.toNat) (zCl (zV m 0 x.toInt.toNat + 20))) : zX9 (0, zV m2 0 x.toInt.toNat, zM9 m2) (zxTell x (zM9 m)) := by
  rw [show zxTell x (zM9 m) = _ from zk3_0 hp hh trivial]
  subst e
  exact ⟨rfl, pk_us, zM9_u (by omega) (zVp0 (by omega))⟩
theorem zxTie_m (hp : 0 ≤ x.toInt ∧ x.toInt < (m 3).toInt) (ho : 0 ≤ o.toInt ∧ o.toInt < (m 3).toInt) (h8 : x.toInt < 8 ∧ o.toInt < 8) (hx : ¬ x.toInt = o.toInt) (hn : 0 ≤ n.toInt ∧ n.toInt ≤ 9) (e : m2 = upd m (51 + (8 * x.toInt.toNat + o.toInt.toNat)) n) : zX9 (0, zV m 5 (8 * x.toInt.toNat + o.toInt.toNat), zM9 m2) (zxTie x o n (zM9 m)) := by
  rw [show zxTie x o n (zM9 m) = _ from zk3_0 ⟨hp, ho⟩ ⟨hx, hn.1, hn.2⟩ trivial]
  subst e
  exact ⟨rfl, rfl, zM9_u (by omega) (zVp5 (by omega) (by omega))⟩
theorem zxPlan_m (hp : 0 ≤ w.toInt ∧ w.toInt < (m 4).toInt) (h8 : w.toInt < 6) (hh : (zV m 9 w.toInt.toNat).toInt = 2) (e : m2 = upd m (118 + 4 * w.toInt.toNat) 0) : zX9 (0, 0, zM9 m2) (zxPlan w (zM9 m)) := by
  rw [show zxPlan w (zM9 m) = _ from zk3_0 hp hh trivial]
  subst e
  exact ⟨rfl, rfl, zM9_u (by omega) (zVp9 (by omega))⟩
theorem zxSend_m (hp : 0 ≤ x.toInt ∧ x.toInt < (m 3).toInt) (h8 : x.toInt < 8) (hh : (zV m 3 x.toInt.toNat).toInt = -1) (e : m2 = upd m (15 + 5 * x.toInt.toNat) (m 8 + m 6)) : zX9 (0, zV m2 3 x.toInt.toNat, zM9 m2) (zxSend x (zM9 m)) := by
  rw [show zxSend x (zM9 m) = _ from zk3_0 hp hh trivial]
  subst e
  exact ⟨rfl, pk_us, zM9_u (by omega) (zVp3 (by omega))⟩
theorem zM9_bs {c u v : Int32} {X : Nat} {g : zRw} (hX : X < 8) (e1 : m1 = upd m (12 + 5 * X) u) (e2 : m2 = upd m1 (13 + 5 * X) v) (e3 : m3 = upd m2 5 c) (hg : g = zSet (zSet (zV m) 2 X v) 1 X u) : zR9 (zM9 m3) (zwcf (zM9 m) c g) := by
  subst hg
  have k : ∀ i : Nat, i < 11 → ¬ i = 5 → m3 i = m i := fun i h1 h2 => by rw [e3, pk_un (by omega), e2, pk_un (by omega), e1, pk_un (by omega)]
  refine ⟨k 3 (by decide) (by decide), k 4 (by decide) (by decide), k 0 (by decide) (by decide), ?_, k 6 (by decide) (by decide), k 7 (by decide) (by decide), k 8 (by decide) (by decide), k 10 (by decide) (by decide), ?_⟩
  · show m3 5 = c
    rw [e3, pk_us]
  · show zEq (zV m3) _
    rw [zSet_swap (zV m) (r := 2) (r' := 1) (by decide), e3]
    refine zEq_t (zVo (Or.inl (by decide))) ?_
    rw [e2]
    refine zEq_t (zVp2 hX) (zSet_c ?_ rfl)
    rw [e1]; exact zVp1 hX
theorem zxBuy_m (hp : 0 ≤ x.toInt ∧ x.toInt < (m 3).toInt) (h8 : x.toInt < 8) (hn : 1 ≤ n.toInt ∧ n.toInt ≤ 99) (h1 : (zV m 2 x.toInt.toNat + n).toInt ≤ 99) (h2 : (n * zPrice (zV m) (m 3).toInt.toNat).toInt ≤ (zV m 1 x.toInt.toNat).toInt) (e1 : m1 = upd m (12 + 5 * x.toInt.toNat) (zV m 1 x.toInt.toNat - n * zPrice (zV m) (m 3).toInt.toNat)) (e2 : m2 = upd m1 (13 + 5 * x.toInt.toNat) (zV m1 2 x.toInt.toNat + n)) (e3 : m3 = upd m2 5 (zCap (m 5 + n * zPrice (zV m) (m 3).toInt.toNat))) : zX9 (0, zV m3 1 x.toInt.toNat, zM9 m3) (zxBuy x n (zM9 m)) := by
  rw [show zxBuy x n (zM9 m) = _ from zk3_0 hp hn ⟨h1, h2⟩]
  have e0 : zV m1 2 x.toInt.toNat = zV m 2 x.toInt.toNat := by rw [e1]; exact (pk_un (by omega) : upd m (12 + 5 * x.toInt.toNat) _ (13 + 5 * x.toInt.toNat) = m (13 + 5 * x.toInt.toNat))
  rw [e0] at e2
  refine ⟨rfl, ?_, zM9_bs (by omega) e1 e2 e3 rfl⟩
  show m3 (12 + 5 * x.toInt.toNat) = _
  rw [e3, pk_un (by omega), e2, pk_un (by omega), e1, pk_us]; rfl
theorem zxSell_m (hp : 0 ≤ x.toInt ∧ x.toInt < (m 3).toInt) (h8 : x.toInt < 8) (hn : 1 ≤ n.toInt ∧ n.toInt ≤ 99) (h1 : n.toInt ≤ (zV m 2 x.toInt.toNat).toInt) (h2 : (n * zPrice (zV m) (m 3).toInt.toNat).toInt ≤ (m 5).toInt) (e1 : m1 = upd m (12 + 5 * x.toInt.toNat) (zCap (zV m 1 x.toInt.toNat + n * zPrice (zV m) (m 3).toInt.toNat))) (e2 : m2 = upd m1 (13 + 5 * x.toInt.toNat) (zV m1 2 x.toInt.toNat - n)) (e3 : m3 = upd m2 5 (m 5 - n * zPrice (zV m) (m 3).toInt.toNat)) : zX9 (0, zV m3 1 x.toInt.toNat, zM9 m3) (zxSell x n (zM9 m)) := by
  rw [show zxSell x n (zM9 m) = _ from zk3_0 hp hn ⟨h1, h2⟩]
  have e0 : zV m1 2 x.toInt.toNat = zV m 2 x.toInt.toNat := by rw [e1]; exact (pk_un (by omega) : upd m (12 + 5 * x.toInt.toNat) _ (13 + 5 * x.toInt.toNat) = m (13 + 5 * x.toInt.toNat))
  rw [e0] at e2
  refine ⟨rfl, ?_, zM9_bs (by omega) e1 e2 e3 rfl⟩
  show m3 (12 + 5 * x.toInt.toNat) = _
  rw [e3, pk_un (by omega), e2, pk_un (by omega), e1, pk_us]; rfl
theorem zxDry_m {i q v : Int32} (hp : 0 ≤ x.toInt ∧ x.toInt < (m 3).toInt) (h8 : x.toInt < 8) (e : m2 = upd m (14 + 5 * x.toInt.toNat) v) (hv : v.toInt = i.toInt) (hq : ((zV m 4 x.toInt.toNat).toInt = i.toInt ∧ q = 0) ∨ (¬ (zV m 4 x.toInt.toNat).toInt = i.toInt ∧ q = 1)) : zX9 (0, q, zM9 m2) (zxDry x i (zM9 m)) := by
  rw [show zxDry x i (zM9 m) = _ from zk3_0 hp trivial trivial]
  have hv' := Int32.toInt_inj.mp hv
  subst hv'
  subst e
  refine ⟨rfl, ?_, zM9_u (by omega) (zVp4 (by omega))⟩
  show q = if (zV m 4 x.toInt.toNat).toInt = v.toInt then 0 else 1
  rcases hq with ⟨a, b⟩ | ⟨a, b⟩
  · rw [if_pos a, b]
  · rw [if_neg a, b]
end ZB
/-! the two towns -/
def zCq (s : zT9) (m : Nat → Int32) : Prop := zR9 s (zM9 m) ∧ zOk s
theorem zCq_pw {s : zT9} {m : Nat → Int32} (h : zCq s m) : s.1 = m 3 ∧ s.2.1 = m 4 ∧ s.2.2.1 = m 0 := ⟨h.1.1, h.1.2.1, h.1.2.2.1⟩
theorem zCq_c {s t : zT9} {m : Nat → Int32} (h : zCq s m) (e : zR9 t s) : zCq t m := ⟨zR9_t e h.1, zOk_c h.2 (zR9_s e)⟩
theorem zM9_e {m m2 : Nat → Int32} (h : ∀ i : Nat, i < 139 → ¬ i = 1 → ¬ i = 2 → ¬ i = 9 → m2 i = m i) : zR9 (zM9 m2) (zM9 m) := ⟨h 3 (by decide) (by decide) (by decide) (by decide), h 4 (by decide) (by decide) (by decide) (by decide), h 0 (by decide) (by decide) (by decide) (by decide), h 5 (by decide) (by decide) (by decide) (by decide), h 6 (by decide) (by decide) (by decide) (by decide), h 7 (by decide) (by decide) (by decide) (by decide), h 8 (by decide) (by decide) (by decide) (by decide), h 10 (by decide) (by decide) (by decide) (by decide), zV_of (fun i h1 h2 => h i h2 (by omega) (by omega) (by omega))⟩
theorem zCq_m {s : zT9} {m m2 : Nat → Int32} (h : zCq s m) (k : ∀ i : Nat, i < 139 → ¬ i = 1 → ¬ i = 2 → ¬ i = 9 → m2 i = m i) : zCq s m2 := ⟨zR9_t h.1 (zR9_s (zM9_e k)), h.2⟩
/-- one act of both sides -/
theorem zAct {F : zT9 → zY9} {s s2 : zT9} {m m2 : Nat → Int32} {q a th b : Int32} (C : zCq s m) (hF : zX9 (F s) (F (zM9 m))) (ok : zOk (F s).2.2) (h1 : F s = (q, a, s2)) (h2 : zX9 (th, b, zM9 m2) (F (zM9 m))) : q = th ∧ a = b ∧ zCq s2 m2 := by
  rw [h1] at hF ok
  have k := zX9_t hF (zX9_s h2)
  exact ⟨k.1, k.2.1, k.2.2, ok⟩
theorem zAct_e {F : zT9 → zY9} {s s2 : zT9} {m m2 : Nat → Int32} {q a th b : Int32} (C : zCq s m) (hF : zX9 (F s) (F (zM9 m))) (ok : zOk (F s).2.2) (h1 : zX9 (q, a, s2) (F s)) (h2 : zX9 (th, b, zM9 m2) (F (zM9 m))) : q = th ∧ a = b ∧ zCq s2 m2 := by
  have k := zX9_t h1 (zX9_t hF (zX9_s h2))
  exact ⟨k.1, k.2.1, k.2.2, zOk_c ok (zR9_s h1.2.2)⟩
theorem zxTell_c1 {x : Int32} {pe wo tx ch jo tr dy sd : Int32} {f : zRw}  (h0 : ¬ (0 ≤ x.toInt ∧ x.toInt < pe.toInt)) : zX9 (1, 0, (pe, wo, tx, ch, jo, tr, dy, sd, f)) (zxTell x (pe, wo, tx, ch, jo, tr, dy, sd, f)) := zX9_s (zX9_of (zk3_1 h0))
theorem zxTell_c2 {x : Int32} {pe wo tx ch jo tr dy sd : Int32} {f : zRw} (h0 : 0 ≤ x.toInt ∧ x.toInt < pe.toInt) (h1 : ¬ ((f 3 x.toInt.toNat).toInt = -1)) : zX9 (2, 0, (pe, wo, tx, ch, jo, tr, dy, sd, f)) (zxTell x (pe, wo, tx, ch, jo, tr, dy, sd, f)) := zX9_s (zX9_of (zk3_2 h0 h1))
theorem zxTell_m1 {x : Int32} {m : Nat → Int32}  (h0 : ¬ (0 ≤ x.toInt ∧ x.toInt < (m 3).toInt)) : zX9 (1, 0, (zM9 m)) (zxTell x (zM9 m)) := zX9_s (zX9_of (zk3_1 h0))
theorem zxTell_m2 {x : Int32} {m : Nat → Int32} (h0 : 0 ≤ x.toInt ∧ x.toInt < (m 3).toInt) (h1 : ¬ (((zV m) 3 x.toInt.toNat).toInt = -1)) : zX9 (2, 0, (zM9 m)) (zxTell x (zM9 m)) := zX9_s (zX9_of (zk3_2 h0 h1))
theorem zxTie_c1 {x o n : Int32} {pe wo tx ch jo tr dy sd : Int32} {f : zRw}  (h0 : ¬ ((0 ≤ x.toInt ∧ x.toInt < pe.toInt) ∧ (0 ≤ o.toInt ∧ o.toInt < pe.toInt))) : zX9 (1, 0, (pe, wo, tx, ch, jo, tr, dy, sd, f)) (zxTie x o n (pe, wo, tx, ch, jo, tr, dy, sd, f)) := zX9_s (zX9_of (zk3_1 h0))
theorem zxTie_c2 {x o n : Int32} {pe wo tx ch jo tr dy sd : Int32} {f : zRw} (h0 : (0 ≤ x.toInt ∧ x.toInt < pe.toInt) ∧ (0 ≤ o.toInt ∧ o.toInt < pe.toInt)) (h1 : ¬ (¬ x.toInt = o.toInt ∧ 0 ≤ n.toInt ∧ n.toInt ≤ 9)) : zX9 (2, 0, (pe, wo, tx, ch, jo, tr, dy, sd, f)) (zxTie x o n (pe, wo, tx, ch, jo, tr, dy, sd, f)) := zX9_s (zX9_of (zk3_2 h0 h1))
theorem zxTie_m1 {x o n : Int32} {m : Nat → Int32}  (h0 : ¬ ((0 ≤ x.toInt ∧ x.toInt < (m 3).toInt) ∧ (0 ≤ o.toInt ∧ o.toInt < (m 3).toInt))) : zX9 (1, 0, (zM9 m)) (zxTie x o n (zM9 m)) := zX9_s (zX9_of (zk3_1 h0))
theorem zxTie_m2 {x o n : Int32} {m : Nat → Int32} (h0 : (0 ≤ x.toInt ∧ x.toInt < (m 3).toInt) ∧ (0 ≤ o.toInt ∧ o.toInt < (m 3).toInt)) (h1 : ¬ (¬ x.toInt = o.toInt ∧ 0 ≤ n.toInt ∧ n.toInt ≤ 9)) : zX9 (2, 0, (zM9 m)) (zxTie x o n (zM9 m)) := zX9_s (zX9_of (zk3_2 h0 h1))
theorem zxPlan_c1 {w : Int32} {pe wo tx ch jo tr dy sd : Int32} {f : zRw}  (h0 : ¬ (0 ≤ w.toInt ∧ w.toInt < wo.toInt)) : zX9 (1, 0, (pe, wo, tx, ch, jo, tr, dy, sd, f)) (zxPlan w (pe, wo, tx, ch, jo, tr, dy, sd, f)) := zX9_s (zX9_of (zk3_1 h0))
theorem zxPlan_c2 {w : Int32} {pe wo tx ch jo tr dy sd : Int32} {f : zRw} (h0 : 0 ≤ w.toInt ∧ w.toInt < wo.toInt) (h1 : ¬ ((f 9 w.toInt.toNat).toInt = 2)) : zX9 (2, 0, (pe, wo, tx, ch, jo, tr, dy, sd, f)) (zxPlan w (pe, wo, tx, ch, jo, tr, dy, sd, f)) := zX9_s (zX9_of (zk3_2 h0 h1))
theorem zxPlan_m1 {w : Int32} {m : Nat → Int32}  (h0 : ¬ (0 ≤ w.toInt ∧ w.toInt < (m 4).toInt)) : zX9 (1, 0, (zM9 m)) (zxPlan w (zM9 m)) := zX9_s (zX9_of (zk3_1 h0))
theorem zxPlan_m2 {w : Int32} {m : Nat → Int32} (h0 : 0 ≤ w.toInt ∧ w.toInt < (m 4).toInt) (h1 : ¬ (((zV m) 9 w.toInt.toNat).toInt = 2)) : zX9 (2, 0, (zM9 m)) (zxPlan w (zM9 m)) := zX9_s (zX9_of (zk3_2 h0 h1))
theorem zxSend_c1 {x : Int32} {pe wo tx ch jo tr dy sd : Int32} {f : zRw}  (h0 : ¬ (0 ≤ x.toInt ∧ x.toInt < pe.toInt)) : zX9 (1, 0, (pe, wo, tx, ch, jo, tr, dy, sd, f)) (zxSend x (pe, wo, tx, ch, jo, tr, dy, sd, f)) := zX9_s (zX9_of (zk3_1 h0))
theorem zxSend_c2 {x : Int32} {pe wo tx ch jo tr dy sd : Int32} {f : zRw} (h0 : 0 ≤ x.toInt ∧ x.toInt < pe.toInt) (h1 : ¬ ((f 3 x.toInt.toNat).toInt = -1)) : zX9 (2, 0, (pe, wo, tx, ch, jo, tr, dy, sd, f)) (zxSend x (pe, wo, tx, ch, jo, tr, dy, sd, f)) := zX9_s (zX9_of (zk3_2 h0 h1))
theorem zxSend_m1 {x : Int32} {m : Nat → Int32}  (h0 : ¬ (0 ≤ x.toInt ∧ x.toInt < (m 3).toInt)) : zX9 (1, 0, (zM9 m)) (zxSend x (zM9 m)) := zX9_s (zX9_of (zk3_1 h0))
theorem zxSend_m2 {x : Int32} {m : Nat → Int32} (h0 : 0 ≤ x.toInt ∧ x.toInt < (m 3).toInt) (h1 : ¬ (((zV m) 3 x.toInt.toNat).toInt = -1)) : zX9 (2, 0, (zM9 m)) (zxSend x (zM9 m)) := zX9_s (zX9_of (zk3_2 h0 h1))
theorem zxBuy_c1 {x n : Int32} {pe wo tx ch jo tr dy sd : Int32} {f : zRw}  (h0 : ¬ (0 ≤ x.toInt ∧ x.toInt < pe.toInt)) : zX9 (1, 0, (pe, wo, tx, ch, jo, tr, dy, sd, f)) (zxBuy x n (pe, wo, tx, ch, jo, tr, dy, sd, f)) := zX9_s (zX9_of (zk3_1 h0))
theorem zxBuy_c2 {x n : Int32} {pe wo tx ch jo tr dy sd : Int32} {f : zRw} (h0 : 0 ≤ x.toInt ∧ x.toInt < pe.toInt) (h1 : ¬ (1 ≤ n.toInt ∧ n.toInt ≤ 99)) : zX9 (2, 0, (pe, wo, tx, ch, jo, tr, dy, sd, f)) (zxBuy x n (pe, wo, tx, ch, jo, tr, dy, sd, f)) := zX9_s (zX9_of (zk3_2 h0 h1))
theorem zxBuy_c3 {x n : Int32} {pe wo tx ch jo tr dy sd : Int32} {f : zRw} (h0 : 0 ≤ x.toInt ∧ x.toInt < pe.toInt) (h1 : 1 ≤ n.toInt ∧ n.toInt ≤ 99) (h2 : ¬ ((f 2 x.toInt.toNat + n).toInt ≤ 99 ∧ (n * zPrice f pe.toInt.toNat).toInt ≤ (f 1 x.toInt.toNat).toInt)) : zX9 (3, 0, (pe, wo, tx, ch, jo, tr, dy, sd, f)) (zxBuy x n (pe, wo, tx, ch, jo, tr, dy, sd, f)) := zX9_s (zX9_of (zk3_3 h0 h1 h2))
theorem zxBuy_m1 {x n : Int32} {m : Nat → Int32}  (h0 : ¬ (0 ≤ x.toInt ∧ x.toInt < (m 3).toInt)) : zX9 (1, 0, (zM9 m)) (zxBuy x n (zM9 m)) := zX9_s (zX9_of (zk3_1 h0))
theorem zxBuy_m2 {x n : Int32} {m : Nat → Int32} (h0 : 0 ≤ x.toInt ∧ x.toInt < (m 3).toInt) (h1 : ¬ (1 ≤ n.toInt ∧ n.toInt ≤ 99)) : zX9 (2, 0, (zM9 m)) (zxBuy x n (zM9 m)) := zX9_s (zX9_of (zk3_2 h0 h1))
theorem zxBuy_m3 {x n : Int32} {m : Nat → Int32} (h0 : 0 ≤ x.toInt ∧ x.toInt < (m 3).toInt) (h1 : 1 ≤ n.toInt ∧ n.toInt ≤ 99) (h2 : ¬ (((zV m) 2 x.toInt.toNat + n).toInt ≤ 99 ∧ (n * zPrice (zV m) (m 3).toInt.toNat).toInt ≤ ((zV m) 1 x.toInt.toNat).toInt)) : zX9 (3, 0, (zM9 m)) (zxBuy x n (zM9 m)) := zX9_s (zX9_of (zk3_3 h0 h1 h2))
theorem zxSell_c1 {x n : Int32} {pe wo tx ch jo tr dy sd : Int32} {f : zRw}  (h0 : ¬ (0 ≤ x.toInt ∧ x.toInt < pe.toInt)) : zX9 (1, 0, (pe, wo, tx, ch, jo, tr, dy, sd, f)) (zxSell x n (pe, wo, tx, ch, jo, tr, dy, sd, f)) := zX9_s (zX9_of (zk3_1 h0))
theorem zxSell_c2 {x n : Int32} {pe wo tx ch jo tr dy sd : Int32} {f : zRw} (h0 : 0 ≤ x.toInt ∧ x.toInt < pe.toInt) (h1 : ¬ (1 ≤ n.toInt ∧ n.toInt ≤ 99)) : zX9 (2, 0, (pe, wo, tx, ch, jo, tr, dy, sd, f)) (zxSell x n (pe, wo, tx, ch, jo, tr, dy, sd, f)) := zX9_s (zX9_of (zk3_2 h0 h1))
theorem zxSell_c3 {x n : Int32} {pe wo tx ch jo tr dy sd : Int32} {f : zRw} (h0 : 0 ≤ x.toInt ∧ x.toInt < pe.toInt) (h1 : 1 ≤ n.toInt ∧ n.toInt ≤ 99) (h2 : ¬ (n.toInt ≤ (f 2 x.toInt.toNat).toInt ∧ (n * zPrice f pe.toInt.toNat).toInt ≤ ch.toInt)) : zX9 (3, 0, (pe, wo, tx, ch, jo, tr, dy, sd, f)) (zxSell x n (pe, wo, tx, ch, jo, tr, dy, sd, f)) := zX9_s (zX9_of (zk3_3 h0 h1 h2))
theorem zxSell_m1 {x n : Int32} {m : Nat → Int32}  (h0 : ¬ (0 ≤ x.toInt ∧ x.toInt < (m 3).toInt)) : zX9 (1, 0, (zM9 m)) (zxSell x n (zM9 m)) := zX9_s (zX9_of (zk3_1 h0))
theorem zxSell_m2 {x n : Int32} {m : Nat → Int32} (h0 : 0 ≤ x.toInt ∧ x.toInt < (m 3).toInt) (h1 : ¬ (1 ≤ n.toInt ∧ n.toInt ≤ 99)) : zX9 (2, 0, (zM9 m)) (zxSell x n (zM9 m)) := zX9_s (zX9_of (zk3_2 h0 h1))
theorem zxSell_m3 {x n : Int32} {m : Nat → Int32} (h0 : 0 ≤ x.toInt ∧ x.toInt < (m 3).toInt) (h1 : 1 ≤ n.toInt ∧ n.toInt ≤ 99) (h2 : ¬ (n.toInt ≤ ((zV m) 2 x.toInt.toNat).toInt ∧ (n * zPrice (zV m) (m 3).toInt.toNat).toInt ≤ (m 5).toInt)) : zX9 (3, 0, (zM9 m)) (zxSell x n (zM9 m)) := zX9_s (zX9_of (zk3_3 h0 h1 h2))
theorem zxDry_c1 {x i : Int32} {pe wo tx ch jo tr dy sd : Int32} {f : zRw}  (h0 : ¬ (0 ≤ x.toInt ∧ x.toInt < pe.toInt)) : zX9 (1, 0, (pe, wo, tx, ch, jo, tr, dy, sd, f)) (zxDry x i (pe, wo, tx, ch, jo, tr, dy, sd, f)) := zX9_s (zX9_of (zk3_1 h0))
theorem zxDry_m1 {x i : Int32} {m : Nat → Int32}  (h0 : ¬ (0 ≤ x.toInt ∧ x.toInt < (m 3).toInt)) : zX9 (1, 0, (zM9 m)) (zxDry x i (zM9 m)) := zX9_s (zX9_of (zk3_1 h0))
theorem zxDays_c1 {L : zLw} {n : Int32} {pe wo tx ch jo tr dy sd : Int32} {f : zRw}  (h0 : ¬ (1 ≤ n.toInt ∧ n.toInt ≤ 60)) : zX9 (1, 0, (pe, wo, tx, ch, jo, tr, dy, sd, f)) (zxDays L n (pe, wo, tx, ch, jo, tr, dy, sd, f)) := zX9_s (zX9_of (zk3_1 h0))
theorem zxDays_m1 {L : zLw} {n : Int32} {m : Nat → Int32}  (h0 : ¬ (1 ≤ n.toInt ∧ n.toInt ≤ 60)) : zX9 (1, 0, (zM9 m)) (zxDays L n (zM9 m)) := zX9_s (zX9_of (zk3_1 h0))
/-! what is remembered: towns, rows -/
def zPf (P P2 : Nat → zTR) (k : Nat) (s : zT9) : Prop := zR9 (P2 k).2.2 s ∧ ∀ j, j ≠ k → P2 j = P j
theorem zPf_mk {P P2 : Nat → zTR} {i k o : Nat} {a : Nat → Nat} {pe wo tx ch jo tr dy sd : Int32} {f g : zRw} (e : i = k) (h : P2 i = (o, a, pe, wo, tx, ch, jo, tr, dy, sd, g) ∧ ∀ j, j ≠ i → P2 j = P j) (q : zEq g f) : zPf P P2 k (pe, wo, tx, ch, jo, tr, dy, sd, f) := by
  subst e; exact ⟨by rw [h.1]; exact zR9_f q, h.2⟩
theorem zPg_mk {P : Nat → zTR} {i k o : Nat} {a : Nat → Nat} {pe wo tx ch jo tr dy sd : Int32} {f g : zRw} (e : i = k) (h : P i = (o, a, pe, wo, tx, ch, jo, tr, dy, sd, f)) (q : zEq g f) : zR9 (pe, wo, tx, ch, jo, tr, dy, sd, g) (P k).2.2 := by
  subst e; rw [h]; exact zR9_f q
def zMy (P P2 : Nat → zTR) (me me2 mx mx2 : Int) (s : zT9) : Prop := me2 = min (me + 1) 12 ∧ mx2 = (mx + 1) % 12 ∧ zPf P P2 mx.toNat s
def zMz (q : Int32) (P P2 : Nat → zTR) (me me2 mx mx2 : Int) (s : zT9) : Prop := (q.toInt = 0 ∧ zMy P P2 me me2 mx mx2 s) ∨ (¬ q.toInt = 0 ∧ me2 = me ∧ mx2 = mx ∧ P2 = P)
theorem zMz_n {q : Int32} {P P2 : Nat → zTR} {me me2 mx mx2 : Int} {s : zT9} (hq : ¬ q.toInt = 0) (h1 : P2 = P) (h2 : me2 = me) (h3 : mx2 = mx) : zMz q P P2 me me2 mx mx2 s := Or.inr ⟨hq, h2, h3, h1⟩
theorem zMz_y {q : Int32} {P P2 : Nat → zTR} {me me2 mx mx2 : Int} {s : zT9} (hq : q.toInt = 0) (h : zMy P P2 me me2 mx mx2 s) : zMz q P P2 me me2 mx mx2 s := Or.inl ⟨hq, h⟩
theorem zX_s {y : zY9} {c a : Int32} {s s2 : zT9} (h : zX9 (c, a, s) y) (e : s2 = s) : zX9 (c, a, s2) y := by subst e; exact h
/-- of the model -/
def zMm (th : Int32) (fc fc2 : Nat → Int32) (ac ac2 : Int) (fm : Nat → Int32) : Prop := (th.toInt = 0 ∧ zRem fc fc2 ac ac2 fm) ∨ (¬ th.toInt = 0 ∧ ac2 = ac ∧ fc2 = fc)
theorem zxDays_0 {L : zLw} {n q pe wo tx ch jo tr dy sd ch2 dy2 sd2 : Int32} {f f2 : zRw} (hn : 1 ≤ n.toInt ∧ n.toInt ≤ 60) (h : zNR ((ch2, dy2, sd2, f2), q) (zNds L pe.toInt.toNat wo.toInt.toNat tr 1 n.toInt.toNat (ch, dy, sd, f))) : zX9 (0, q, (pe, wo, tx, ch2, jo, tr, dy2, sd2, f2)) (zxDays L n (pe, wo, tx, ch, jo, tr, dy, sd, f)) := by
  rw [show zxDays L n (pe, wo, tx, ch, jo, tr, dy, sd, f) = _ from zk3_0 hn trivial trivial]
  exact ⟨rfl, h.2, rfl, rfl, rfl, h.1.1, rfl, rfl, h.1.2.1, h.1.2.2.1, h.1.2.2.2⟩
theorem zxDays_m {L : zLw} {n q : Int32} {m m2 : Nat → Int32} (hn : 1 ≤ n.toInt ∧ n.toInt ≤ 60) (h : zNR ((m2 5, m2 8, m2 10, zV m2), q) (zNds L (m 3).toInt.toNat (m 4).toInt.toNat (m 7) 1 n.toInt.toNat (m 5, m 8, m 10, zV m))) (g : zGk m m2) : zX9 (0, q, zM9 m2) (zxDays L n (zM9 m)) := by
  rw [show zxDays L n (zM9 m) = _ from zk3_0 hn trivial trivial]
  exact ⟨rfl, h.2, g 3 (by omega), g 4 (by omega), g 0 (by omega), h.1.1, g 6 (by omega), g 7 (by omega), h.1.2.1, h.1.2.2.1, h.1.2.2.2⟩
theorem zMm_n {th : Int32} {fc : Nat → Int32} {ac : Int} {fm : Nat → Int32} (h : ¬ th.toInt = 0) : zMm th fc fc ac ac fm := Or.inr ⟨h, rfl, rfl⟩
theorem zMm_y {th : Int32} {fc fc2 : Nat → Int32} {ac ac2 : Int} {fm : Nat → Int32} (h : th.toInt = 0) (k : zRem fc fc2 ac ac2 fm) : zMm th fc fc2 ac ac2 fm := Or.inl ⟨h, k⟩
theorem zZ4_v {f g : zRw} (h : zZ4 f) (e : zEq f g) : zZ4 g := by
  intro j hj
  rw [← e.1 4 j (by decide) hj]
  exact h j hj
theorem zD01i {f : zRw} {x : Int32} (h : zZ4 f) (hx : 0 ≤ x.toInt ∧ x.toInt < 8) : (f 4 x.toInt.toNat).toInt = 0 ∨ (f 4 x.toInt.toNat).toInt = 1 := by
  rcases zD01 h (show x.toInt.toNat < 8 by omega) with e | e
  · exact Or.inl (by rw [e]; decide)
  · exact Or.inr (by rw [e]; decide)
set_option maxRecDepth 100000 in
set_option maxHeartbeats 4000000 in
theorem c_x_needPersonE (l : Launch) (hfl : l.stackTraces = false) (g : zG) (x : Nat) (ta : Nat) (o : Nat) (lo : Nat) (go : Nat) (tt : Nat) (lt : Nat) (mo : Nat) (fo : Nat) (ro : Nat) (fl9 : Int32) (a : Nat → Nat) (pe : Int32) (wo : Int32) (tx : Int32) (ch : Int32) (jo : Int32) (tr : Int32) (dy : Int32) (sd : Int32) (f : Nat → Nat → Int32) (pp : Int32) (b_pe : 0 ≤ pe.toInt ∧ pe.toInt ≤ 8) (b_wo : 0 ≤ wo.toInt ∧ wo.toInt ≤ 6) (rf : zZ4 f) : zX' g l yX11_needPerson (Cond.code yX11_needPerson cX11_needPerson 2 none :: zB) ({ frames := 6, cells := 1, slots := 6, locals := 82 } : Room) [.ref x, .int pp] [bDR g x ta o lo go tt lt mo fo ro fl9, bTown g o a pe wo tx ch jo tr dy sd f] (fun _ : Unit => none) (fun _ : Unit => (0 ≤ pp.toInt ∧ pp.toInt ≤ 7) ∧ (pp.toInt < pe.toInt)) (fun _ : Unit => [bDR g x ta o lo go tt lt mo fo ro fl9, bTown g o a pe wo tx ch jo tr dy sd f]) (fun (E : String) (_ : Unit) => (E = "java/lang/IndexOutOfBoundsException") ∧ (¬ (0 ≤ pp.toInt ∧ pp.toInt < pe.toInt))) (fun _ : Unit => [bDR g x ta o lo go tt lt mo fo ro fl9, bTown g o a pe wo tx ch jo tr dy sd f]) := by
  refine zX'.of (cc := cX11_needPerson) (maxL := 2) (rt := none) (by decide) rfl (Nat.le_of_ble_eq_true rfl) ?_
  intro p e s m args below meth c A ls St hr hlocks htab hin hK hT hA hP hD hS hl
  obtain ⟨hx, hb, hml, hown, hts⟩ := id St
  have hl : lv_has ls 2 [(0, .ref x), (1, .int pp)] := hl
  refine lv_iload_n hx hb dX11_needPerson_0 rfl (lv_at hl 1 rfl) ?_
  refine lv_if_lt (tgt := 15) hx hb dX11_needPerson_1 (by decide) (fun cb9 => ?_) (fun cb9 => ?_)
  · skip
    have c1 : pp.toInt < 0 := zlti cb9 rfl (by decide)
    have n2 : pp.toInt ≤ (-1) := zL1 (b := 0) c1 (Int.le_refl _) (by decide)
    obtain ⟨sa3, hsa3⟩ := hT.1.2.2.1 _ (List.mem_of_getElem? (i := 6) rfl)
    exact vx_throwSW (A := A) (names := ["java/lang/RuntimeException", "java/lang/Exception"]) hx hb hfl hown (by decide +kernel) (by decide +kernel) (hts _ k608) (hts _ k609) hsa3 (zhat hat_RX11_391_IndexOutOfBoundsExceptiona hat_RX11_391_IndexOutOfBoundsExceptionb hts (hT.1.2.2.2.2.1 _ (List.mem_of_getElem? (i := 0) rfl))) hat_RX11_391_IndexOutOfBoundsExceptionc hT.1.1 hT.1.2.1 hS (by rw [hml]; exact hl.1) dX11_needPerson_15 dX11_needPerson_18 dX11_needPerson_19 dX11_needPerson_22 dX11_needPerson_25 (fun x hx => (htab x hx).elim) (Nat.le_of_ble_eq_true rfl) (Nat.le_of_ble_eq_true rfl) (Nat.le_of_ble_eq_true rfl) (Nat.le_of_ble_eq_true rfl) hlocks (fun t ht hz hk => ⟨⟨(), ⟨rfl, (show ¬ (0 ≤ pp.toInt ∧ pp.toInt < pe.toInt) from (by first | assumption | omega | exact fun h9 => absurd h9.2.2 (by assumption)))⟩, hP.kept (fun k q hq => hk q.1 (hP k q hq).lt), hD⟩, ⟨Nat.le_trans hS.1 hz, fun q h1 h2 => (hk q (Nat.lt_of_lt_of_le h1 hS.1)).trans (hS.2.1 q h1 h2)⟩⟩) hS.2.2 (Nat.le_of_ble_eq_true rfl) (Nat.le_of_ble_eq_true rfl)
  · skip
    have c4 : 0 ≤ pp.toInt := zle (Int32.not_lt.mp cb9) (by decide) rfl
    have n5 : 0 ≤ pp.toInt := Int.le_trans (Int.le_refl _) c4
    refine lv_iload_n hx hb dX11_needPerson_4 rfl (lv_at hl 1 rfl) ?_
    refine lv_aload_n hx hb dX11_needPerson_5 rfl (lv_at hl 0 rfl) ?_
    refine va_get (D := g.1) (ci := 9) (v := .ref o) (C := RX11) (T := TX11) (N := 10) hx hb hts izRX11 hown hK hP 0 rfl rfl 1 (by decide) (hts _ k538) (fun _ h9 => h9) rfl dX11_needPerson_6 ?_
    refine va_get (D := g.1) (ci := 7) (v := .int pe) (C := RX9) (T := TX9) (N := 19) hx hb hts izRX9 hown hK hP 1 rfl rfl 0 (by decide) (hts _ k610) (fun _ h9 => h9) rfl dX11_needPerson_9 ?_
    refine lv_icmp_lt (tgt := 26) hx hb dX11_needPerson_12 (by decide) (fun cb9 => ?_) (fun cb9 => ?_)
    · skip
      have c6 : pp.toInt < pe.toInt := zlti cb9 rfl rfl
      have n7 : pp.toInt ≤ 7 := zL1 (b := 8) c6 b_pe.2 (by decide)
      have n8 : 1 ≤ pe.toInt := zL2 (a := 0) c6 n5 (by decide)
      have hP : va_P g.1 vwCl (List.flatten [bDR g x ta o lo go tt lt mo fo ro fl9, bTown g o a pe wo tx ch jo tr dy sd f]) s.heap := hP
      have hD : va_D A (List.flatten [bDR g x ta o lo go tt lt mo fo ro fl9, bTown g o a pe wo tx ch jo tr dy sd f]) := hD
      exact zret_v hx hb hr hlocks hS (Nat.le_of_ble_eq_true rfl) (Nat.le_of_ble_eq_true rfl) dX11_needPerson_26 () rfl (show (0 ≤ pp.toInt ∧ pp.toInt ≤ 7) ∧ (pp.toInt < pe.toInt) from ⟨(by first | assumption | omega | decide | exact rfl | exact zb01 (by omega) | exact Or.inl (by decide) | exact Or.inr (by first | omega | decide)), (by first | assumption | omega | decide | exact rfl | exact zb01 (by omega) | exact Or.inl (by decide) | exact Or.inr (by first | omega | decide))⟩) hP hD
    · skip
      have c9 : pe.toInt ≤ pp.toInt := zle (Int32.not_lt.mp cb9) rfl rfl
      obtain ⟨sa10, hsa10⟩ := hT.1.2.2.1 _ (List.mem_of_getElem? (i := 6) rfl)
      exact vx_throwSW (A := A) (names := ["java/lang/RuntimeException", "java/lang/Exception"]) hx hb hfl hown (by decide +kernel) (by decide +kernel) (hts _ k608) (hts _ k609) hsa10 (zhat hat_RX11_391_IndexOutOfBoundsExceptiona hat_RX11_391_IndexOutOfBoundsExceptionb hts (hT.1.2.2.2.2.1 _ (List.mem_of_getElem? (i := 0) rfl))) hat_RX11_391_IndexOutOfBoundsExceptionc hT.1.1 hT.1.2.1 hS (by rw [hml]; exact hl.1) dX11_needPerson_15 dX11_needPerson_18 dX11_needPerson_19 dX11_needPerson_22 dX11_needPerson_25 (fun x hx => (htab x hx).elim) (Nat.le_of_ble_eq_true rfl) (Nat.le_of_ble_eq_true rfl) (Nat.le_of_ble_eq_true rfl) (Nat.le_of_ble_eq_true rfl) hlocks (fun t ht hz hk => ⟨⟨(), ⟨rfl, (show ¬ (0 ≤ pp.toInt ∧ pp.toInt < pe.toInt) from (by first | assumption | omega | exact fun h9 => absurd h9.2.2 (by assumption)))⟩, hP.kept (fun k q hq => hk q.1 (hP k q hq).lt), hD⟩, ⟨Nat.le_trans hS.1 hz, fun q h1 h2 => (hk q (Nat.lt_of_lt_of_le h1 hS.1)).trans (hS.2.1 q h1 h2)⟩⟩) hS.2.2 (Nat.le_of_ble_eq_true rfl) (Nat.le_of_ble_eq_true rfl)
set_option maxRecDepth 100000 in
set_option maxHeartbeats 4000000 in
theorem c_x_needWorkE (l : Launch) (hfl : l.stackTraces = false) (g : zG) (x : Nat) (ta : Nat) (o : Nat) (lo : Nat) (go : Nat) (tt : Nat) (lt : Nat) (mo : Nat) (fo : Nat) (ro : Nat) (fl9 : Int32) (a : Nat → Nat) (pe : Int32) (wo : Int32) (tx : Int32) (ch : Int32) (jo : Int32) (tr : Int32) (dy : Int32) (sd : Int32) (f : Nat → Nat → Int32) (ww : Int32) (b_pe : 0 ≤ pe.toInt ∧ pe.toInt ≤ 8) (b_wo : 0 ≤ wo.toInt ∧ wo.toInt ≤ 6) (rf : zZ4 f) : zX' g l yX11_needWork (Cond.code yX11_needWork cX11_needWork 2 none :: zB) ({ frames := 6, cells := 1, slots := 6, locals := 82 } : Room) [.ref x, .int ww] [bDR g x ta o lo go tt lt mo fo ro fl9, bTown g o a pe wo tx ch jo tr dy sd f] (fun _ : Unit => none) (fun _ : Unit => (0 ≤ ww.toInt ∧ ww.toInt ≤ 5) ∧ (ww.toInt < wo.toInt)) (fun _ : Unit => [bDR g x ta o lo go tt lt mo fo ro fl9, bTown g o a pe wo tx ch jo tr dy sd f]) (fun (E : String) (_ : Unit) => (E = "java/lang/IndexOutOfBoundsException") ∧ (¬ (0 ≤ ww.toInt ∧ ww.toInt < wo.toInt))) (fun _ : Unit => [bDR g x ta o lo go tt lt mo fo ro fl9, bTown g o a pe wo tx ch jo tr dy sd f]) := by
  refine zX'.of (cc := cX11_needWork) (maxL := 2) (rt := none) (by decide) rfl (Nat.le_of_ble_eq_true rfl) ?_
  intro p e s m args below meth c A ls St hr hlocks htab hin hK hT hA hP hD hS hl
  obtain ⟨hx, hb, hml, hown, hts⟩ := id St
  have hl : lv_has ls 2 [(0, .ref x), (1, .int ww)] := hl
  refine lv_iload_n hx hb dX11_needWork_0 rfl (lv_at hl 1 rfl) ?_
  refine lv_if_lt (tgt := 15) hx hb dX11_needWork_1 (by decide) (fun cb9 => ?_) (fun cb9 => ?_)
  · skip
    have c1 : ww.toInt < 0 := zlti cb9 rfl (by decide)
    have n2 : ww.toInt ≤ (-1) := zL1 (b := 0) c1 (Int.le_refl _) (by decide)
    obtain ⟨sa3, hsa3⟩ := hT.1.2.2.1 _ (List.mem_of_getElem? (i := 8) rfl)
    exact vx_throwSW (A := A) (names := ["java/lang/RuntimeException", "java/lang/Exception"]) hx hb hfl hown (by decide +kernel) (by decide +kernel) (hts _ k608) (hts _ k609) hsa3 (zhat hat_RX11_391_IndexOutOfBoundsExceptiona hat_RX11_391_IndexOutOfBoundsExceptionb hts (hT.1.2.2.2.2.1 _ (List.mem_of_getElem? (i := 0) rfl))) hat_RX11_391_IndexOutOfBoundsExceptionc hT.1.1 hT.1.2.1 hS (by rw [hml]; exact hl.1) dX11_needWork_15 dX11_needWork_18 dX11_needWork_19 dX11_needWork_22 dX11_needWork_25 (fun x hx => (htab x hx).elim) (Nat.le_of_ble_eq_true rfl) (Nat.le_of_ble_eq_true rfl) (Nat.le_of_ble_eq_true rfl) (Nat.le_of_ble_eq_true rfl) hlocks (fun t ht hz hk => ⟨⟨(), ⟨rfl, (show ¬ (0 ≤ ww.toInt ∧ ww.toInt < wo.toInt) from (by first | assumption | omega | exact fun h9 => absurd h9.2.2 (by assumption)))⟩, hP.kept (fun k q hq => hk q.1 (hP k q hq).lt), hD⟩, ⟨Nat.le_trans hS.1 hz, fun q h1 h2 => (hk q (Nat.lt_of_lt_of_le h1 hS.1)).trans (hS.2.1 q h1 h2)⟩⟩) hS.2.2 (Nat.le_of_ble_eq_true rfl) (Nat.le_of_ble_eq_true rfl)
  · skip
    have c4 : 0 ≤ ww.toInt := zle (Int32.not_lt.mp cb9) (by decide) rfl
    have n5 : 0 ≤ ww.toInt := Int.le_trans (Int.le_refl _) c4
    refine lv_iload_n hx hb dX11_needWork_4 rfl (lv_at hl 1 rfl) ?_
    refine lv_aload_n hx hb dX11_needWork_5 rfl (lv_at hl 0 rfl) ?_
    refine va_get (D := g.1) (ci := 9) (v := .ref o) (C := RX11) (T := TX11) (N := 10) hx hb hts izRX11 hown hK hP 0 rfl rfl 1 (by decide) (hts _ k538) (fun _ h9 => h9) rfl dX11_needWork_6 ?_
    refine va_get (D := g.1) (ci := 7) (v := .int wo) (C := RX9) (T := TX9) (N := 19) hx hb hts izRX9 hown hK hP 1 rfl rfl 1 (by decide) (hts _ k640) (fun _ h9 => h9) rfl dX11_needWork_9 ?_
    refine lv_icmp_lt (tgt := 26) hx hb dX11_needWork_12 (by decide) (fun cb9 => ?_) (fun cb9 => ?_)
    · skip
      have c6 : ww.toInt < wo.toInt := zlti cb9 rfl rfl
      have n7 : ww.toInt ≤ 5 := zL1 (b := 6) c6 b_wo.2 (by decide)
      have n8 : 1 ≤ wo.toInt := zL2 (a := 0) c6 n5 (by decide)
      have hP : va_P g.1 vwCl (List.flatten [bDR g x ta o lo go tt lt mo fo ro fl9, bTown g o a pe wo tx ch jo tr dy sd f]) s.heap := hP
      have hD : va_D A (List.flatten [bDR g x ta o lo go tt lt mo fo ro fl9, bTown g o a pe wo tx ch jo tr dy sd f]) := hD
      exact zret_v hx hb hr hlocks hS (Nat.le_of_ble_eq_true rfl) (Nat.le_of_ble_eq_true rfl) dX11_needWork_26 () rfl (show (0 ≤ ww.toInt ∧ ww.toInt ≤ 5) ∧ (ww.toInt < wo.toInt) from ⟨(by first | assumption | omega | decide | exact rfl | exact zb01 (by omega) | exact Or.inl (by decide) | exact Or.inr (by first | omega | decide)), (by first | assumption | omega | decide | exact rfl | exact zb01 (by omega) | exact Or.inl (by decide) | exact Or.inr (by first | omega | decide))⟩) hP hD
    · skip
      have c9 : wo.toInt ≤ ww.toInt := zle (Int32.not_lt.mp cb9) rfl rfl
      obtain ⟨sa10, hsa10⟩ := hT.1.2.2.1 _ (List.mem_of_getElem? (i := 8) rfl)
      exact vx_throwSW (A := A) (names := ["java/lang/RuntimeException", "java/lang/Exception"]) hx hb hfl hown (by decide +kernel) (by decide +kernel) (hts _ k608) (hts _ k609) hsa10 (zhat hat_RX11_391_IndexOutOfBoundsExceptiona hat_RX11_391_IndexOutOfBoundsExceptionb hts (hT.1.2.2.2.2.1 _ (List.mem_of_getElem? (i := 0) rfl))) hat_RX11_391_IndexOutOfBoundsExceptionc hT.1.1 hT.1.2.1 hS (by rw [hml]; exact hl.1) dX11_needWork_15 dX11_needWork_18 dX11_needWork_19 dX11_needWork_22 dX11_needWork_25 (fun x hx => (htab x hx).elim) (Nat.le_of_ble_eq_true rfl) (Nat.le_of_ble_eq_true rfl) (Nat.le_of_ble_eq_true rfl) (Nat.le_of_ble_eq_true rfl) hlocks (fun t ht hz hk => ⟨⟨(), ⟨rfl, (show ¬ (0 ≤ ww.toInt ∧ ww.toInt < wo.toInt) from (by first | assumption | omega | exact fun h9 => absurd h9.2.2 (by assumption)))⟩, hP.kept (fun k q hq => hk q.1 (hP k q hq).lt), hD⟩, ⟨Nat.le_trans hS.1 hz, fun q h1 h2 => (hk q (Nat.lt_of_lt_of_le h1 hS.1)).trans (hS.2.1 q h1 h2)⟩⟩) hS.2.2 (Nat.le_of_ble_eq_true rfl) (Nat.le_of_ble_eq_true rfl)
set_option maxRecDepth 100000 in
set_option maxHeartbeats 4000000 in
theorem c_x_needTwoE (l : Launch) (hfl : l.stackTraces = false) (g : zG) (x : Nat) (ta : Nat) (o : Nat) (lo : Nat) (go : Nat) (tt : Nat) (lt : Nat) (mo : Nat) (fo : Nat) (ro : Nat) (fl9 : Int32) (a : Nat → Nat) (pe : Int32) (wo : Int32) (tx : Int32) (ch : Int32) (jo : Int32) (tr : Int32) (dy : Int32) (sd : Int32) (f : Nat → Nat → Int32) (pp : Int32) (oo : Int32) (b_pe : 0 ≤ pe.toInt ∧ pe.toInt ≤ 8) (b_wo : 0 ≤ wo.toInt ∧ wo.toInt ≤ 6) (rf : zZ4 f) : zX' g l yX11_needTwo (Cond.code yX11_needTwo cX11_needTwo 3 none :: zB) ({ frames := 7, cells := 3, slots := 18, locals := 103 } : Room) [.ref x, .int pp, .int oo] [bDR g x ta o lo go tt lt mo fo ro fl9, bTown g o a pe wo tx ch jo tr dy sd f] (fun _ : Unit => none) (fun _ : Unit => (0 ≤ pp.toInt ∧ pp.toInt ≤ 7) ∧ (0 ≤ oo.toInt ∧ oo.toInt ≤ 7) ∧ (pp.toInt < pe.toInt ∧ oo.toInt < pe.toInt) ∧ (¬ pp.toInt = oo.toInt)) (fun _ : Unit => [bDR g x ta o lo go tt lt mo fo ro fl9, bTown g o a pe wo tx ch jo tr dy sd f]) (fun (E : String) (_ : Unit) => (E = "java/lang/IndexOutOfBoundsException" ∨ E = "java/lang/IllegalArgumentException") ∧ (E = "java/lang/IndexOutOfBoundsException" → ¬ ((0 ≤ pp.toInt ∧ pp.toInt < pe.toInt) ∧ (0 ≤ oo.toInt ∧ oo.toInt < pe.toInt))) ∧ (E = "java/lang/IllegalArgumentException" → ((0 ≤ pp.toInt ∧ pp.toInt < pe.toInt) ∧ (0 ≤ oo.toInt ∧ oo.toInt < pe.toInt)) ∧ pp.toInt = oo.toInt)) (fun _ : Unit => [bDR g x ta o lo go tt lt mo fo ro fl9, bTown g o a pe wo tx ch jo tr dy sd f]) := by
  refine zX'.of (cc := cX11_needTwo) (maxL := 3) (rt := none) (by decide) rfl (Nat.le_of_ble_eq_true rfl) ?_
  intro p e s m args below meth c A ls St hr hlocks htab hin hK hT hA hP hD hS hl
  obtain ⟨hx, hb, hml, hown, hts⟩ := id St
  have hl : lv_has ls 3 [(0, .ref x), (1, .int pp), (2, .int oo)] := hl
  refine lv_aload_n hx hb dX11_needTwo_0 rfl (lv_at hl 0 rfl) ?_
  refine lv_iload_n hx hb dX11_needTwo_1 rfl (lv_at hl 1 rfl) ?_
  refine xcallV' (g := g) (q0 := 0) (ci := 9) (As := [.int pp]) (rest := []) St hK hT hA hP hD hS hl.1 [0, 1] [] rfl rfl rfl (c_x_needPersonE l hfl g x ta o lo go tt lt mo fo ro fl9 a pe wo tx ch jo tr dy sd f pp b_pe b_wo rf) (cwV 1 hts (zgL (zl4 k618 k619 k620 k621) k607) rfl rfl rfl (by decide +kernel) ⟨Nat.le_of_ble_eq_true rfl, Nat.le_of_ble_eq_true rfl⟩) rfl rfl rfl rfl (Nat.le_of_ble_eq_true rfl) dX11_needTwo_2 ⟨(Nat.le_of_ble_eq_true rfl), (Nat.le_of_ble_eq_true rfl)⟩ (fun E ce q9 u9 H locs hpx hP hD hS hce hcv hcl => ?_) (fun _u H locs hq1 hP hD hS => ?_)
  · skip
    have hpx : (E = "java/lang/IndexOutOfBoundsException") ∧ (¬ (0 ≤ pp.toInt ∧ pp.toInt < pe.toInt)) := hpx
    have hP : va_P g.1 vwCl (List.flatten [bDR g x ta o lo go tt lt mo fo ro fl9, bTown g o a pe wo tx ch jo tr dy sd f]) H := hP
    have hD : va_D A (List.flatten [bDR g x ta o lo go tt lt mo fo ro fl9, bTown g o a pe wo tx ch jo tr dy sd f]) := hD
    obtain ⟨hE9, hy2⟩ := hpx
    exact zout htab hlocks hS (Nat.le_of_ble_eq_true rfl) (Nat.le_of_ble_eq_true rfl) hce hcv hcl () (show (E = "java/lang/IndexOutOfBoundsException" ∨ E = "java/lang/IllegalArgumentException") ∧ (E = "java/lang/IndexOutOfBoundsException" → ¬ ((0 ≤ pp.toInt ∧ pp.toInt < pe.toInt) ∧ (0 ≤ oo.toInt ∧ oo.toInt < pe.toInt))) ∧ (E = "java/lang/IllegalArgumentException" → ((0 ≤ pp.toInt ∧ pp.toInt < pe.toInt) ∧ (0 ≤ oo.toInt ∧ oo.toInt < pe.toInt)) ∧ pp.toInt = oo.toInt) from ⟨(Or.inl hE9), (show E = "java/lang/IndexOutOfBoundsException" → ¬ ((0 ≤ pp.toInt ∧ pp.toInt < pe.toInt) ∧ (0 ≤ oo.toInt ∧ oo.toInt < pe.toInt)) from (fun h9 => (fun q9 => absurd q9.1 hy2))), (show E = "java/lang/IllegalArgumentException" → ((0 ≤ pp.toInt ∧ pp.toInt < pe.toInt) ∧ (0 ≤ oo.toInt ∧ oo.toInt < pe.toInt)) ∧ pp.toInt = oo.toInt from (fun h9 => absurd (hE9.symm.trans h9) (by decide)))⟩) hP hD
  · skip
    replace hq1 : (0 ≤ pp.toInt ∧ pp.toInt ≤ 7) ∧ (pp.toInt < pe.toInt) := hq1
    have hP : va_P g.1 vwCl (List.flatten [bDR g x ta o lo go tt lt mo fo ro fl9, bTown g o a pe wo tx ch jo tr dy sd f]) H := hP
    have hD : va_D A (List.flatten [bDR g x ta o lo go tt lt mo fo ro fl9, bTown g o a pe wo tx ch jo tr dy sd f]) := hD
    refine W.widen (k := 1) (n := 6) (Nat.le_of_ble_eq_true rfl) (Nat.le_of_ble_eq_true rfl) ?_
    refine W.eq (g2 := F0 m 5 ls []) rfl ?_
    obtain ⟨hq1_0, hq1_1⟩ := hq1
    refine lv_aload_n hx hb dX11_needTwo_5 rfl (lv_at hl 0 rfl) ?_
    refine lv_iload_n hx hb dX11_needTwo_6 rfl (lv_at hl 2 rfl) ?_
    refine xcallV' (g := g) (q0 := 0) (ci := 9) (As := [.int oo]) (rest := []) St hK hT hA hP hD hS hl.1 [0, 1] [] rfl rfl rfl (c_x_needPersonE l hfl g x ta o lo go tt lt mo fo ro fl9 a pe wo tx ch jo tr dy sd f oo b_pe b_wo rf) (cwV 1 hts (zgL (zl4 k618 k619 k620 k621) k607) rfl rfl rfl (by decide +kernel) ⟨Nat.le_of_ble_eq_true rfl, Nat.le_of_ble_eq_true rfl⟩) rfl rfl rfl rfl (Nat.le_of_ble_eq_true rfl) dX11_needTwo_7 ⟨(Nat.le_of_ble_eq_true rfl), (Nat.le_of_ble_eq_true rfl)⟩ (fun E ce q9 u9 H locs hpx hP hD hS hce hcv hcl => ?_) (fun _u H locs hq3 hP hD hS => ?_)
    · skip
      have hpx : (E = "java/lang/IndexOutOfBoundsException") ∧ (¬ (0 ≤ oo.toInt ∧ oo.toInt < pe.toInt)) := hpx
      have hP : va_P g.1 vwCl (List.flatten [bDR g x ta o lo go tt lt mo fo ro fl9, bTown g o a pe wo tx ch jo tr dy sd f]) H := hP
      have hD : va_D A (List.flatten [bDR g x ta o lo go tt lt mo fo ro fl9, bTown g o a pe wo tx ch jo tr dy sd f]) := hD
      obtain ⟨hE9, hy4⟩ := hpx
      exact zout htab hlocks hS (Nat.le_of_ble_eq_true rfl) (Nat.le_of_ble_eq_true rfl) hce hcv hcl () (show (E = "java/lang/IndexOutOfBoundsException" ∨ E = "java/lang/IllegalArgumentException") ∧ (E = "java/lang/IndexOutOfBoundsException" → ¬ ((0 ≤ pp.toInt ∧ pp.toInt < pe.toInt) ∧ (0 ≤ oo.toInt ∧ oo.toInt < pe.toInt))) ∧ (E = "java/lang/IllegalArgumentException" → ((0 ≤ pp.toInt ∧ pp.toInt < pe.toInt) ∧ (0 ≤ oo.toInt ∧ oo.toInt < pe.toInt)) ∧ pp.toInt = oo.toInt) from ⟨(Or.inl hE9), (show E = "java/lang/IndexOutOfBoundsException" → ¬ ((0 ≤ pp.toInt ∧ pp.toInt < pe.toInt) ∧ (0 ≤ oo.toInt ∧ oo.toInt < pe.toInt)) from (fun h9 => (fun q9 => absurd q9.2 hy4))), (show E = "java/lang/IllegalArgumentException" → ((0 ≤ pp.toInt ∧ pp.toInt < pe.toInt) ∧ (0 ≤ oo.toInt ∧ oo.toInt < pe.toInt)) ∧ pp.toInt = oo.toInt from (fun h9 => absurd (hE9.symm.trans h9) (by decide)))⟩) hP hD
    · skip
      replace hq3 : (0 ≤ oo.toInt ∧ oo.toInt ≤ 7) ∧ (oo.toInt < pe.toInt) := hq3
      have hP : va_P g.1 vwCl (List.flatten [bDR g x ta o lo go tt lt mo fo ro fl9, bTown g o a pe wo tx ch jo tr dy sd f]) H := hP
      have hD : va_D A (List.flatten [bDR g x ta o lo go tt lt mo fo ro fl9, bTown g o a pe wo tx ch jo tr dy sd f]) := hD
      refine W.widen (k := 2) (n := 12) (Nat.le_of_ble_eq_true rfl) (Nat.le_of_ble_eq_true rfl) ?_
      refine W.eq (g2 := F0 m 10 ls []) rfl ?_
      obtain ⟨hq3_0, hq3_1⟩ := hq3
      refine lv_iload_n hx hb dX11_needTwo_10 rfl (lv_at hl 1 rfl) ?_
      refine lv_iload_n hx hb dX11_needTwo_11 rfl (lv_at hl 2 rfl) ?_
      refine lv_icmp_ne (tgt := 26) hx hb dX11_needTwo_12 (by decide) (fun cb9 => ?_) (fun cb9 => ?_)
      · skip
        have c5 : ¬ pp.toInt = oo.toInt := zne cb9 rfl rfl
        have hP : va_P g.1 vwCl (List.flatten [bDR g x ta o lo go tt lt mo fo ro fl9, bTown g o a pe wo tx ch jo tr dy sd f]) H := hP
        have hD : va_D A (List.flatten [bDR g x ta o lo go tt lt mo fo ro fl9, bTown g o a pe wo tx ch jo tr dy sd f]) := hD
        exact zret_v hx hb hr hlocks hS (Nat.le_of_ble_eq_true rfl) (Nat.le_of_ble_eq_true rfl) dX11_needTwo_26 () rfl (show (0 ≤ pp.toInt ∧ pp.toInt ≤ 7) ∧ (0 ≤ oo.toInt ∧ oo.toInt ≤ 7) ∧ (pp.toInt < pe.toInt ∧ oo.toInt < pe.toInt) ∧ (¬ pp.toInt = oo.toInt) from ⟨hq1_0, hq3_0, (by first | assumption | omega | decide | exact rfl | exact zb01 (by omega) | exact Or.inl (by decide) | exact Or.inr (by first | omega | decide)), (by first | assumption | omega | decide | exact rfl | exact zb01 (by omega) | exact Or.inl (by decide) | exact Or.inr (by first | omega | decide))⟩) hP hD
      · skip
        have c6 : pp.toInt = oo.toInt := zeq cb9 rfl rfl
        obtain ⟨sa7, hsa7⟩ := hT.1.2.2.1 _ (List.mem_of_getElem? (i := 7) rfl)
        exact vx_throwSW (A := A) (names := ["java/lang/RuntimeException", "java/lang/Exception"]) hx hb hfl hown (by decide +kernel) (by decide +kernel) (hts _ k576) (hts _ k577) hsa7 (zhat hat_RX11_110_IllegalArgumentExceptiona hat_RX11_110_IllegalArgumentExceptionb hts (hT.1.2.2.2.2.1 _ (List.mem_of_getElem? (i := 1) rfl))) hat_RX11_110_IllegalArgumentExceptionc hT.1.1 hT.1.2.1 hS (by rw [hml]; exact hl.1) dX11_needTwo_15 dX11_needTwo_18 dX11_needTwo_19 dX11_needTwo_22 dX11_needTwo_25 (fun x hx => (htab x hx).elim) (Nat.le_of_ble_eq_true rfl) (Nat.le_of_ble_eq_true rfl) (Nat.le_of_ble_eq_true rfl) (Nat.le_of_ble_eq_true rfl) hlocks (fun t ht hz hk => ⟨⟨(), ⟨(Or.inr rfl), (show "java/lang/IllegalArgumentException" = "java/lang/IndexOutOfBoundsException" → ¬ ((0 ≤ pp.toInt ∧ pp.toInt < pe.toInt) ∧ (0 ≤ oo.toInt ∧ oo.toInt < pe.toInt)) from (fun h9 => absurd h9 (by decide))), (show "java/lang/IllegalArgumentException" = "java/lang/IllegalArgumentException" → ((0 ≤ pp.toInt ∧ pp.toInt < pe.toInt) ∧ (0 ≤ oo.toInt ∧ oo.toInt < pe.toInt)) ∧ pp.toInt = oo.toInt from (fun _ => (by omega)))⟩, hP.kept (fun k q hq => hk q.1 (hP k q hq).lt), hD⟩, ⟨Nat.le_trans hS.1 hz, fun q h1 h2 => (hk q (Nat.lt_of_lt_of_le h1 hS.1)).trans (hS.2.1 q h1 h2)⟩⟩) hS.2.2 (Nat.le_of_ble_eq_true rfl) (Nat.le_of_ble_eq_true rfl)
set_option maxRecDepth 100000 in
set_option maxHeartbeats 4000000 in
theorem c_x_needState1 (l : Launch) (g : zG) (x : Nat) (ta : Nat) (o : Nat) (lo : Nat) (go : Nat) (tt : Nat) (lt : Nat) (mo : Nat) (fo : Nat) (ro : Nat) (fl9 : Int32)  : zM' g l yX11_needState (Cond.code yX11_needState cX11_needState 2 none :: zB) ({ frames := 0, cells := 0, slots := 0, locals := 0 } : Room) [.ref x, .int 1] [bDR g x ta o lo go tt lt mo fo ro fl9] (fun _ : Unit => none) (fun _ : Unit => True) (fun _ : Unit => [bDR g x ta o lo go tt lt mo fo ro fl9]) := by
  refine zM'.of (cc := cX11_needState) (maxL := 2) (rt := none) (by decide) rfl (Nat.le_of_ble_eq_true rfl) ?_
  intro p e s m args below meth c A ls St hr hlocks hin hK hT hA hP hD hS hl
  obtain ⟨hx, hb, hml, hown, hts⟩ := id St
  have hl : lv_has ls 2 [(0, .ref x), (1, .int 1)] := hl
  refine lv_iload_n hx hb dX11_needState_0 rfl (lv_at hl 1 rfl) ?_
  refine lv_if_ne (tgt := 15) hx hb dX11_needState_1 (by decide) (fun _ => ?_) (fun c1 => absurd c1 (by decide))
  have hP : va_P g.1 vwCl (List.flatten [bDR g x ta o lo go tt lt mo fo ro fl9]) s.heap := hP
  have hD : va_D A (List.flatten [bDR g x ta o lo go tt lt mo fo ro fl9]) := hD
  exact mret_v hx hb hr hlocks hS (Nat.le_of_ble_eq_true rfl) (Nat.le_of_ble_eq_true rfl) dX11_needState_15 () rfl trivial hP hD
set_option maxRecDepth 100000 in
set_option maxHeartbeats 4000000 in
theorem c_x_needState0 (l : Launch) (hfl : l.stackTraces = false) (g : zG) (x : Nat) (ta : Nat) (o : Nat) (lo : Nat) (go : Nat) (tt : Nat) (lt : Nat) (mo : Nat) (fo : Nat) (ro : Nat) (fl9 : Int32)  : zX' g l yX11_needState (Cond.code yX11_needState cX11_needState 2 none :: zB) ({ frames := 6, cells := 1, slots := 6, locals := 82 } : Room) [.ref x, .int 0] [bDR g x ta o lo go tt lt mo fo ro fl9] (fun _ : Unit => none) (fun _ : Unit => (False)) (fun _ : Unit => [bDR g x ta o lo go tt lt mo fo ro fl9]) (fun (E : String) (_ : Unit) => (E = "java/lang/IllegalStateException")) (fun _ : Unit => [bDR g x ta o lo go tt lt mo fo ro fl9]) := by
  refine zX'.of (cc := cX11_needState) (maxL := 2) (rt := none) (by decide) rfl (Nat.le_of_ble_eq_true rfl) ?_
  intro p e s m args below meth c A ls St hr hlocks htab hin hK hT hA hP hD hS hl
  obtain ⟨hx, hb, hml, hown, hts⟩ := id St
  have hl : lv_has ls 2 [(0, .ref x), (1, .int 0)] := hl
  refine lv_iload_n hx hb dX11_needState_0 rfl (lv_at hl 1 rfl) ?_
  refine lv_if_ne (tgt := 15) hx hb dX11_needState_1 (by decide) (fun c1 => absurd (by decide) c1) (fun _ => ?_)
  obtain ⟨sa2, hsa2⟩ := hT.1.2.2.1 _ (List.mem_of_getElem? (i := 9) rfl)
  exact vx_throwSW (A := A) (names := ["java/lang/RuntimeException", "java/lang/Exception"]) hx hb hfl hown (by decide +kernel) (by decide +kernel) (hts _ k652) (hts _ k653) hsa2 (zhat hat_RX11_400_IllegalStateExceptiona hat_RX11_400_IllegalStateExceptionb hts (hT.1.2.2.2.2.1 _ (List.mem_of_getElem? (i := 2) rfl))) hat_RX11_400_IllegalStateExceptionc hT.1.1 hT.1.2.1 hS (by rw [hml]; exact hl.1) dX11_needState_4 dX11_needState_7 dX11_needState_8 dX11_needState_11 dX11_needState_14 (fun x hx => (htab x hx).elim) (Nat.le_of_ble_eq_true rfl) (Nat.le_of_ble_eq_true rfl) (Nat.le_of_ble_eq_true rfl) (Nat.le_of_ble_eq_true rfl) hlocks (fun t ht hz hk => ⟨⟨(), rfl, hP.kept (fun k q hq => hk q.1 (hP k q hq).lt), hD⟩, ⟨Nat.le_trans hS.1 hz, fun q h1 h2 => (hk q (Nat.lt_of_lt_of_le h1 hS.1)).trans (hS.2.1 q h1 h2)⟩⟩) hS.2.2 (Nat.le_of_ble_eq_true rfl) (Nat.le_of_ble_eq_true rfl)
set_option maxRecDepth 100000 in
set_option maxHeartbeats 4000000 in
theorem c_x_needHereE (l : Launch) (hfl : l.stackTraces = false) (g : zG) (x : Nat) (ta : Nat) (o : Nat) (lo : Nat) (go : Nat) (tt : Nat) (lt : Nat) (mo : Nat) (fo : Nat) (ro : Nat) (fl9 : Int32) (a : Nat → Nat) (pe : Int32) (wo : Int32) (tx : Int32) (ch : Int32) (jo : Int32) (tr : Int32) (dy : Int32) (sd : Int32) (f : Nat → Nat → Int32) (pp : Int32) (b_pe : 0 ≤ pe.toInt ∧ pe.toInt ≤ 8) (b_wo : 0 ≤ wo.toInt ∧ wo.toInt ≤ 6) (rf : zZ4 f) (b_pp : 0 ≤ pp.toInt ∧ pp.toInt ≤ 7) : zX' g l yX11_needHere (Cond.code yX11_needHere cX11_needHere 2 none :: zB) ({ frames := 7, cells := 1, slots := 6, locals := 103 } : Room) [.ref x, .int pp] [bDR g x ta o lo go tt lt mo fo ro fl9, bTown g o a pe wo tx ch jo tr dy sd f] (fun _ : Unit => none) (fun _ : Unit => ((f 3 pp.toInt.toNat).toInt = -1)) (fun _ : Unit => [bDR g x ta o lo go tt lt mo fo ro fl9, bTown g o a pe wo tx ch jo tr dy sd f]) (fun (E : String) (_ : Unit) => (E = "java/lang/IllegalStateException") ∧ (¬ (f 3 pp.toInt.toNat).toInt = -1)) (fun _ : Unit => [bDR g x ta o lo go tt lt mo fo ro fl9, bTown g o a pe wo tx ch jo tr dy sd f]) := by
  refine zX'.of (cc := cX11_needHere) (maxL := 2) (rt := none) (by decide) rfl (Nat.le_of_ble_eq_true rfl) ?_
  intro p e s m args below meth c A ls St hr hlocks htab hin hK hT hA hP hD hS hl
  obtain ⟨hx, hb, hml, hown, hts⟩ := id St
  have hl : lv_has ls 2 [(0, .ref x), (1, .int pp)] := hl
  refine lv_aload_n hx hb dX11_needHere_0 rfl (lv_at hl 0 rfl) ?_
  refine lv_aload_n hx hb dX11_needHere_1 rfl (lv_at hl 0 rfl) ?_
  refine va_get (D := g.1) (ci := 9) (v := .ref o) (C := RX11) (T := TX11) (N := 10) hx hb hts izRX11 hown hK hP 0 rfl rfl 1 (by decide) (hts _ k538) (fun _ h9 => h9) rfl dX11_needHere_2 ?_
  refine lv_iload_n hx hb dX11_needHere_5 rfl (lv_at hl 1 rfl) ?_
  refine mcallV' (g := g) (q0 := 0) (ci := 7) (As := [.int pp]) (rest := [.ref x]) St hK hT hA hP hD hS hl.1 [1] [0] rfl rfl rfl (c_isHereF l g o a pe wo tx ch jo tr dy sd f pp b_pp) (cwV 1 hts (zgL (zl4 k655 k54 k55 k24) k51) rfl rfl rfl (by decide +kernel) ⟨Nat.le_of_ble_eq_true rfl, Nat.le_of_ble_eq_true rfl⟩) rfl rfl rfl rfl (Nat.le_of_ble_eq_true rfl) dX11_needHere_6 ⟨(Nat.le_of_ble_eq_true rfl), (Nat.le_of_ble_eq_true rfl)⟩ (fun q_1 H locs hq2 hP hD hS => ?_)
  replace hq2 : (q_1 = 1 ∧ (f 3 pp.toInt.toNat).toInt = -1 ∨ q_1 = 0 ∧ ¬ (f 3 pp.toInt.toNat).toInt = -1) := hq2
  have hP : va_P g.1 vwCl (List.flatten [bDR g x ta o lo go tt lt mo fo ro fl9, bTown g o a pe wo tx ch jo tr dy sd f]) H := hP
  have hD : va_D A (List.flatten [bDR g x ta o lo go tt lt mo fo ro fl9, bTown g o a pe wo tx ch jo tr dy sd f]) := hD
  refine W.widen (k := 0) (n := 0) (Nat.le_of_ble_eq_true rfl) (Nat.le_of_ble_eq_true rfl) ?_
  refine W.eq (g2 := F0 m 9 ls [.int q_1, .ref x]) rfl ?_
  rcases hq2 with ⟨rfl, hq2_k⟩ | ⟨rfl, hq2_k⟩
  · skip
    refine mcallV' (g := g) (q0 := 0) (ci := 9) (As := [.int 1]) (rest := []) St hK hT hA hP hD hS hl.1 [0] [1] rfl rfl rfl (c_x_needState1 l g x ta o lo go tt lt mo fo ro fl9 ) (cwV 1 hts (zgL (zl4 k656 k657 k658 k621) k651) rfl rfl rfl (by decide +kernel) ⟨Nat.le_of_ble_eq_true rfl, Nat.le_of_ble_eq_true rfl⟩) rfl rfl rfl rfl (Nat.le_of_ble_eq_true rfl) dX11_needHere_9 ⟨(Nat.le_of_ble_eq_true rfl), (Nat.le_of_ble_eq_true rfl)⟩ (fun _u H locs hq3 hP hD hS => ?_)
    have hP : va_P g.1 vwCl (List.flatten [bTown g o a pe wo tx ch jo tr dy sd f, bDR g x ta o lo go tt lt mo fo ro fl9]) H := hP
    have hD : va_D A (List.flatten [bTown g o a pe wo tx ch jo tr dy sd f, bDR g x ta o lo go tt lt mo fo ro fl9]) := hD
    refine W.widen (k := 0) (n := 0) (Nat.le_of_ble_eq_true rfl) (Nat.le_of_ble_eq_true rfl) ?_
    refine W.eq (g2 := F0 m 12 ls []) rfl ?_
    have hP : va_P g.1 vwCl (List.flatten [bTown g o a pe wo tx ch jo tr dy sd f, bDR g x ta o lo go tt lt mo fo ro fl9]) H := hP
    have hD : va_D A (List.flatten [bTown g o a pe wo tx ch jo tr dy sd f, bDR g x ta o lo go tt lt mo fo ro fl9]) := hD
    obtain ⟨hP, hD⟩ := zord (g := g) (Bs' := [bDR g x ta o lo go tt lt mo fo ro fl9, bTown g o a pe wo tx ch jo tr dy sd f]) [1, 0] rfl rfl hP hD
    exact zret_v hx hb hr hlocks hS (Nat.le_of_ble_eq_true rfl) (Nat.le_of_ble_eq_true rfl) dX11_needHere_12 () rfl (show ((f 3 pp.toInt.toNat).toInt = -1) from hq2_k) hP hD
  · skip
    refine xcallV' (g := g) (q0 := 0) (ci := 9) (As := [.int 0]) (rest := []) St hK hT hA hP hD hS hl.1 [0] [1] rfl rfl rfl (c_x_needState0 l hfl g x ta o lo go tt lt mo fo ro fl9 ) (cwV 1 hts (zgL (zl4 k656 k657 k658 k621) k651) rfl rfl rfl (by decide +kernel) ⟨Nat.le_of_ble_eq_true rfl, Nat.le_of_ble_eq_true rfl⟩) rfl rfl rfl rfl (Nat.le_of_ble_eq_true rfl) dX11_needHere_9 ⟨(Nat.le_of_ble_eq_true rfl), (Nat.le_of_ble_eq_true rfl)⟩ (fun E ce q9 u9 H locs hpx hP hD hS hce hcv hcl => ?_) (fun _u H locs hq4 hP hD hS => ?_)
    · skip
      have hpx : (E = "java/lang/IllegalStateException") := hpx
      have hP : va_P g.1 vwCl (List.flatten [bTown g o a pe wo tx ch jo tr dy sd f, bDR g x ta o lo go tt lt mo fo ro fl9]) H := hP
      have hD : va_D A (List.flatten [bTown g o a pe wo tx ch jo tr dy sd f, bDR g x ta o lo go tt lt mo fo ro fl9]) := hD
      have hP : va_P g.1 vwCl (List.flatten [bTown g o a pe wo tx ch jo tr dy sd f, bDR g x ta o lo go tt lt mo fo ro fl9]) H := hP
      have hD : va_D A (List.flatten [bTown g o a pe wo tx ch jo tr dy sd f, bDR g x ta o lo go tt lt mo fo ro fl9]) := hD
      obtain ⟨hP, hD⟩ := zord (g := g) (Bs' := [bDR g x ta o lo go tt lt mo fo ro fl9, bTown g o a pe wo tx ch jo tr dy sd f]) [1, 0] rfl rfl hP hD
      exact zout htab hlocks hS (Nat.le_of_ble_eq_true rfl) (Nat.le_of_ble_eq_true rfl) hce hcv hcl () (show (E = "java/lang/IllegalStateException") ∧ (¬ (f 3 pp.toInt.toNat).toInt = -1) from ⟨hpx, (show ¬ (f 3 pp.toInt.toNat).toInt = -1 from (by first | assumption | omega | exact fun h9 => absurd h9.2.2 (by assumption)))⟩) hP hD
    · skip
      replace hq4 : (False) := hq4
      exact hq4.elim
set_option maxRecDepth 100000 in
set_option maxHeartbeats 4000000 in
theorem c_x_nwE_1_60 (l : Launch) (hfl : l.stackTraces = false) (g : zG) (x : Nat) (ta : Nat) (o : Nat) (lo : Nat) (go : Nat) (tt : Nat) (lt : Nat) (mo : Nat) (fo : Nat) (ro : Nat) (fl9 : Int32) (n : Int32)  : zX' g l yX11_needWithin (Cond.code yX11_needWithin cX11_needWithin 4 none :: zB) ({ frames := 6, cells := 1, slots := 6, locals := 82 } : Room) [.ref x, .int n, .int 1, .int 60] [bDR g x ta o lo go tt lt mo fo ro fl9] (fun _ : Unit => none) (fun _ : Unit => (1 ≤ n.toInt ∧ n.toInt ≤ 60)) (fun _ : Unit => [bDR g x ta o lo go tt lt mo fo ro fl9]) (fun (E : String) (_ : Unit) => (E = "java/lang/IllegalArgumentException") ∧ (¬ (1 ≤ n.toInt ∧ n.toInt ≤ 60))) (fun _ : Unit => [bDR g x ta o lo go tt lt mo fo ro fl9]) := by
  refine zX'.of (cc := cX11_needWithin) (maxL := 4) (rt := none) (by decide) rfl (Nat.le_of_ble_eq_true rfl) ?_
  intro p e s m args below meth c A ls St hr hlocks htab hin hK hT hA hP hD hS hl
  obtain ⟨hx, hb, hml, hown, hts⟩ := id St
  have hl : lv_has ls 4 [(0, .ref x), (1, .int n), (2, .int 1), (3, .int 60)] := hl
  refine lv_iload_n hx hb dX11_needWithin_0 rfl (lv_at hl 1 rfl) ?_
  refine lv_iload_n hx hb dX11_needWithin_1 rfl (lv_at hl 2 rfl) ?_
  refine lv_icmp_lt (tgt := 10) hx hb dX11_needWithin_2 (by decide) (fun cb9 => ?_) (fun cb9 => ?_)
  · skip
    have c1 : n.toInt < 1 := zlti cb9 rfl (by decide)
    have n2 : n.toInt ≤ 0 := zL1 (b := 1) c1 (Int.le_refl _) (by decide)
    obtain ⟨sa3, hsa3⟩ := hT.1.2.2.1 _ (List.mem_of_getElem? (i := 10) rfl)
    exact vx_throwSW (A := A) (names := ["java/lang/RuntimeException", "java/lang/Exception"]) hx hb hfl hown (by decide +kernel) (by decide +kernel) (hts _ k576) (hts _ k577) hsa3 (zhat hat_RX11_110_IllegalArgumentExceptiona hat_RX11_110_IllegalArgumentExceptionb hts (hT.1.2.2.2.2.1 _ (List.mem_of_getElem? (i := 1) rfl))) hat_RX11_110_IllegalArgumentExceptionc hT.1.1 hT.1.2.1 hS (by rw [hml]; exact hl.1) dX11_needWithin_10 dX11_needWithin_13 dX11_needWithin_14 dX11_needWithin_17 dX11_needWithin_20 (fun x hx => (htab x hx).elim) (Nat.le_of_ble_eq_true rfl) (Nat.le_of_ble_eq_true rfl) (Nat.le_of_ble_eq_true rfl) (Nat.le_of_ble_eq_true rfl) hlocks (fun t ht hz hk => ⟨⟨(), ⟨rfl, (show ¬ (1 ≤ n.toInt ∧ n.toInt ≤ 60) from (by first | assumption | omega | exact fun h9 => absurd h9.2.2 (by assumption)))⟩, hP.kept (fun k q hq => hk q.1 (hP k q hq).lt), hD⟩, ⟨Nat.le_trans hS.1 hz, fun q h1 h2 => (hk q (Nat.lt_of_lt_of_le h1 hS.1)).trans (hS.2.1 q h1 h2)⟩⟩) hS.2.2 (Nat.le_of_ble_eq_true rfl) (Nat.le_of_ble_eq_true rfl)
  · skip
    have c4 : 1 ≤ n.toInt := zle (Int32.not_lt.mp cb9) (by decide) rfl
    have n5 : 1 ≤ n.toInt := Int.le_trans (Int.le_refl _) c4
    refine lv_iload_n hx hb dX11_needWithin_5 rfl (lv_at hl 1 rfl) ?_
    refine lv_iload_n hx hb dX11_needWithin_6 rfl (lv_at hl 3 rfl) ?_
    refine lv_icmp_le (tgt := 21) hx hb dX11_needWithin_7 (by decide) (fun cb9 => ?_) (fun cb9 => ?_)
    · skip
      have c6 : n.toInt ≤ 60 := zle cb9 rfl (by decide)
      have n7 : n.toInt ≤ 60 := Int.le_trans c6 (Int.le_refl _)
      have hP : va_P g.1 vwCl (List.flatten [bDR g x ta o lo go tt lt mo fo ro fl9]) s.heap := hP
      have hD : va_D A (List.flatten [bDR g x ta o lo go tt lt mo fo ro fl9]) := hD
      exact zret_v hx hb hr hlocks hS (Nat.le_of_ble_eq_true rfl) (Nat.le_of_ble_eq_true rfl) dX11_needWithin_21 () rfl (show (1 ≤ n.toInt ∧ n.toInt ≤ 60) from (by first | assumption | omega | decide | exact rfl | exact zb01 (by omega) | exact Or.inl (by decide) | exact Or.inr (by first | omega | decide))) hP hD
    · skip
      have c8 : 60 < n.toInt := zlti (Int32.not_le.mp cb9) (by decide) rfl
      have n9 : 61 ≤ n.toInt := zL2 (a := 60) c8 (Int.le_refl _) (by decide)
      obtain ⟨sa10, hsa10⟩ := hT.1.2.2.1 _ (List.mem_of_getElem? (i := 10) rfl)
      exact vx_throwSW (A := A) (names := ["java/lang/RuntimeException", "java/lang/Exception"]) hx hb hfl hown (by decide +kernel) (by decide +kernel) (hts _ k576) (hts _ k577) hsa10 (zhat hat_RX11_110_IllegalArgumentExceptiona hat_RX11_110_IllegalArgumentExceptionb hts (hT.1.2.2.2.2.1 _ (List.mem_of_getElem? (i := 1) rfl))) hat_RX11_110_IllegalArgumentExceptionc hT.1.1 hT.1.2.1 hS (by rw [hml]; exact hl.1) dX11_needWithin_10 dX11_needWithin_13 dX11_needWithin_14 dX11_needWithin_17 dX11_needWithin_20 (fun x hx => (htab x hx).elim) (Nat.le_of_ble_eq_true rfl) (Nat.le_of_ble_eq_true rfl) (Nat.le_of_ble_eq_true rfl) (Nat.le_of_ble_eq_true rfl) hlocks (fun t ht hz hk => ⟨⟨(), ⟨rfl, (show ¬ (1 ≤ n.toInt ∧ n.toInt ≤ 60) from (by first | assumption | omega | exact fun h9 => absurd h9.2.2 (by assumption)))⟩, hP.kept (fun k q hq => hk q.1 (hP k q hq).lt), hD⟩, ⟨Nat.le_trans hS.1 hz, fun q h1 h2 => (hk q (Nat.lt_of_lt_of_le h1 hS.1)).trans (hS.2.1 q h1 h2)⟩⟩) hS.2.2 (Nat.le_of_ble_eq_true rfl) (Nat.le_of_ble_eq_true rfl)
set_option maxRecDepth 100000 in
set_option maxHeartbeats 4000000 in
theorem c_x_nwE_1_792 (l : Launch) (hfl : l.stackTraces = false) (g : zG) (x : Nat) (ta : Nat) (o : Nat) (lo : Nat) (go : Nat) (tt : Nat) (lt : Nat) (mo : Nat) (fo : Nat) (ro : Nat) (fl9 : Int32) (n : Int32)  : zX' g l yX11_needWithin (Cond.code yX11_needWithin cX11_needWithin 4 none :: zB) ({ frames := 6, cells := 1, slots := 6, locals := 82 } : Room) [.ref x, .int n, .int 1, .int 792] [bDR g x ta o lo go tt lt mo fo ro fl9] (fun _ : Unit => none) (fun _ : Unit => (1 ≤ n.toInt ∧ n.toInt ≤ 792)) (fun _ : Unit => [bDR g x ta o lo go tt lt mo fo ro fl9]) (fun (E : String) (_ : Unit) => (E = "java/lang/IllegalArgumentException") ∧ (¬ (1 ≤ n.toInt ∧ n.toInt ≤ 792))) (fun _ : Unit => [bDR g x ta o lo go tt lt mo fo ro fl9]) := by
  refine zX'.of (cc := cX11_needWithin) (maxL := 4) (rt := none) (by decide) rfl (Nat.le_of_ble_eq_true rfl) ?_
  intro p e s m args below meth c A ls St hr hlocks htab hin hK hT hA hP hD hS hl
  obtain ⟨hx, hb, hml, hown, hts⟩ := id St
  have hl : lv_has ls 4 [(0, .ref x), (1, .int n), (2, .int 1), (3, .int 792)] := hl
  refine lv_iload_n hx hb dX11_needWithin_0 rfl (lv_at hl 1 rfl) ?_
  refine lv_iload_n hx hb dX11_needWithin_1 rfl (lv_at hl 2 rfl) ?_
  refine lv_icmp_lt (tgt := 10) hx hb dX11_needWithin_2 (by decide) (fun cb9 => ?_) (fun cb9 => ?_)
  · skip
    have c1 : n.toInt < 1 := zlti cb9 rfl (by decide)
    have n2 : n.toInt ≤ 0 := zL1 (b := 1) c1 (Int.le_refl _) (by decide)
    obtain ⟨sa3, hsa3⟩ := hT.1.2.2.1 _ (List.mem_of_getElem? (i := 10) rfl)
    exact vx_throwSW (A := A) (names := ["java/lang/RuntimeException", "java/lang/Exception"]) hx hb hfl hown (by decide +kernel) (by decide +kernel) (hts _ k576) (hts _ k577) hsa3 (zhat hat_RX11_110_IllegalArgumentExceptiona hat_RX11_110_IllegalArgumentExceptionb hts (hT.1.2.2.2.2.1 _ (List.mem_of_getElem? (i := 1) rfl))) hat_RX11_110_IllegalArgumentExceptionc hT.1.1 hT.1.2.1 hS (by rw [hml]; exact hl.1) dX11_needWithin_10 dX11_needWithin_13 dX11_needWithin_14 dX11_needWithin_17 dX11_needWithin_20 (fun x hx => (htab x hx).elim) (Nat.le_of_ble_eq_true rfl) (Nat.le_of_ble_eq_true rfl) (Nat.le_of_ble_eq_true rfl) (Nat.le_of_ble_eq_true rfl) hlocks (fun t ht hz hk => ⟨⟨(), ⟨rfl, (show ¬ (1 ≤ n.toInt ∧ n.toInt ≤ 792) from (by first | assumption | omega | exact fun h9 => absurd h9.2.2 (by assumption)))⟩, hP.kept (fun k q hq => hk q.1 (hP k q hq).lt), hD⟩, ⟨Nat.le_trans hS.1 hz, fun q h1 h2 => (hk q (Nat.lt_of_lt_of_le h1 hS.1)).trans (hS.2.1 q h1 h2)⟩⟩) hS.2.2 (Nat.le_of_ble_eq_true rfl) (Nat.le_of_ble_eq_true rfl)
  · skip
    have c4 : 1 ≤ n.toInt := zle (Int32.not_lt.mp cb9) (by decide) rfl
    have n5 : 1 ≤ n.toInt := Int.le_trans (Int.le_refl _) c4
    refine lv_iload_n hx hb dX11_needWithin_5 rfl (lv_at hl 1 rfl) ?_
    refine lv_iload_n hx hb dX11_needWithin_6 rfl (lv_at hl 3 rfl) ?_
    refine lv_icmp_le (tgt := 21) hx hb dX11_needWithin_7 (by decide) (fun cb9 => ?_) (fun cb9 => ?_)
    · skip
      have c6 : n.toInt ≤ 792 := zle cb9 rfl (by decide)
      have n7 : n.toInt ≤ 792 := Int.le_trans c6 (Int.le_refl _)
      have hP : va_P g.1 vwCl (List.flatten [bDR g x ta o lo go tt lt mo fo ro fl9]) s.heap := hP
      have hD : va_D A (List.flatten [bDR g x ta o lo go tt lt mo fo ro fl9]) := hD
      exact zret_v hx hb hr hlocks hS (Nat.le_of_ble_eq_true rfl) (Nat.le_of_ble_eq_true rfl) dX11_needWithin_21 () rfl (show (1 ≤ n.toInt ∧ n.toInt ≤ 792) from (by first | assumption | omega | decide | exact rfl | exact zb01 (by omega) | exact Or.inl (by decide) | exact Or.inr (by first | omega | decide))) hP hD
    · skip
      have c8 : 792 < n.toInt := zlti (Int32.not_le.mp cb9) (by decide) rfl
      have n9 : 793 ≤ n.toInt := zL2 (a := 792) c8 (Int.le_refl _) (by decide)
      obtain ⟨sa10, hsa10⟩ := hT.1.2.2.1 _ (List.mem_of_getElem? (i := 10) rfl)
      exact vx_throwSW (A := A) (names := ["java/lang/RuntimeException", "java/lang/Exception"]) hx hb hfl hown (by decide +kernel) (by decide +kernel) (hts _ k576) (hts _ k577) hsa10 (zhat hat_RX11_110_IllegalArgumentExceptiona hat_RX11_110_IllegalArgumentExceptionb hts (hT.1.2.2.2.2.1 _ (List.mem_of_getElem? (i := 1) rfl))) hat_RX11_110_IllegalArgumentExceptionc hT.1.1 hT.1.2.1 hS (by rw [hml]; exact hl.1) dX11_needWithin_10 dX11_needWithin_13 dX11_needWithin_14 dX11_needWithin_17 dX11_needWithin_20 (fun x hx => (htab x hx).elim) (Nat.le_of_ble_eq_true rfl) (Nat.le_of_ble_eq_true rfl) (Nat.le_of_ble_eq_true rfl) (Nat.le_of_ble_eq_true rfl) hlocks (fun t ht hz hk => ⟨⟨(), ⟨rfl, (show ¬ (1 ≤ n.toInt ∧ n.toInt ≤ 792) from (by first | assumption | omega | exact fun h9 => absurd h9.2.2 (by assumption)))⟩, hP.kept (fun k q hq => hk q.1 (hP k q hq).lt), hD⟩, ⟨Nat.le_trans hS.1 hz, fun q h1 h2 => (hk q (Nat.lt_of_lt_of_le h1 hS.1)).trans (hS.2.1 q h1 h2)⟩⟩) hS.2.2 (Nat.le_of_ble_eq_true rfl) (Nat.le_of_ble_eq_true rfl)
set_option maxRecDepth 100000 in
set_option maxHeartbeats 4000000 in
theorem c_x_nwE_1_99 (l : Launch) (hfl : l.stackTraces = false) (g : zG) (x : Nat) (ta : Nat) (o : Nat) (lo : Nat) (go : Nat) (tt : Nat) (lt : Nat) (mo : Nat) (fo : Nat) (ro : Nat) (fl9 : Int32) (n : Int32)  : zX' g l yX11_needWithin (Cond.code yX11_needWithin cX11_needWithin 4 none :: zB) ({ frames := 6, cells := 1, slots := 6, locals := 82 } : Room) [.ref x, .int n, .int 1, .int 99] [bDR g x ta o lo go tt lt mo fo ro fl9] (fun _ : Unit => none) (fun _ : Unit => (1 ≤ n.toInt ∧ n.toInt ≤ 99)) (fun _ : Unit => [bDR g x ta o lo go tt lt mo fo ro fl9]) (fun (E : String) (_ : Unit) => (E = "java/lang/IllegalArgumentException") ∧ (¬ (1 ≤ n.toInt ∧ n.toInt ≤ 99))) (fun _ : Unit => [bDR g x ta o lo go tt lt mo fo ro fl9]) := by
  refine zX'.of (cc := cX11_needWithin) (maxL := 4) (rt := none) (by decide) rfl (Nat.le_of_ble_eq_true rfl) ?_
  intro p e s m args below meth c A ls St hr hlocks htab hin hK hT hA hP hD hS hl
  obtain ⟨hx, hb, hml, hown, hts⟩ := id St
  have hl : lv_has ls 4 [(0, .ref x), (1, .int n), (2, .int 1), (3, .int 99)] := hl
  refine lv_iload_n hx hb dX11_needWithin_0 rfl (lv_at hl 1 rfl) ?_
  refine lv_iload_n hx hb dX11_needWithin_1 rfl (lv_at hl 2 rfl) ?_
  refine lv_icmp_lt (tgt := 10) hx hb dX11_needWithin_2 (by decide) (fun cb9 => ?_) (fun cb9 => ?_)
  · skip
    have c1 : n.toInt < 1 := zlti cb9 rfl (by decide)
    have n2 : n.toInt ≤ 0 := zL1 (b := 1) c1 (Int.le_refl _) (by decide)
    obtain ⟨sa3, hsa3⟩ := hT.1.2.2.1 _ (List.mem_of_getElem? (i := 10) rfl)
    exact vx_throwSW (A := A) (names := ["java/lang/RuntimeException", "java/lang/Exception"]) hx hb hfl hown (by decide +kernel) (by decide +kernel) (hts _ k576) (hts _ k577) hsa3 (zhat hat_RX11_110_IllegalArgumentExceptiona hat_RX11_110_IllegalArgumentExceptionb hts (hT.1.2.2.2.2.1 _ (List.mem_of_getElem? (i := 1) rfl))) hat_RX11_110_IllegalArgumentExceptionc hT.1.1 hT.1.2.1 hS (by rw [hml]; exact hl.1) dX11_needWithin_10 dX11_needWithin_13 dX11_needWithin_14 dX11_needWithin_17 dX11_needWithin_20 (fun x hx => (htab x hx).elim) (Nat.le_of_ble_eq_true rfl) (Nat.le_of_ble_eq_true rfl) (Nat.le_of_ble_eq_true rfl) (Nat.le_of_ble_eq_true rfl) hlocks (fun t ht hz hk => ⟨⟨(), ⟨rfl, (show ¬ (1 ≤ n.toInt ∧ n.toInt ≤ 99) from (by first | assumption | omega | exact fun h9 => absurd h9.2.2 (by assumption)))⟩, hP.kept (fun k q hq => hk q.1 (hP k q hq).lt), hD⟩, ⟨Nat.le_trans hS.1 hz, fun q h1 h2 => (hk q (Nat.lt_of_lt_of_le h1 hS.1)).trans (hS.2.1 q h1 h2)⟩⟩) hS.2.2 (Nat.le_of_ble_eq_true rfl) (Nat.le_of_ble_eq_true rfl)
  · skip
    have c4 : 1 ≤ n.toInt := zle (Int32.not_lt.mp cb9) (by decide) rfl
    have n5 : 1 ≤ n.toInt := Int.le_trans (Int.le_refl _) c4
    refine lv_iload_n hx hb dX11_needWithin_5 rfl (lv_at hl 1 rfl) ?_
    refine lv_iload_n hx hb dX11_needWithin_6 rfl (lv_at hl 3 rfl) ?_
    refine lv_icmp_le (tgt := 21) hx hb dX11_needWithin_7 (by decide) (fun cb9 => ?_) (fun cb9 => ?_)
    · skip
      have c6 : n.toInt ≤ 99 := zle cb9 rfl (by decide)
      have n7 : n.toInt ≤ 99 := Int.le_trans c6 (Int.le_refl _)
      have hP : va_P g.1 vwCl (List.flatten [bDR g x ta o lo go tt lt mo fo ro fl9]) s.heap := hP
      have hD : va_D A (List.flatten [bDR g x ta o lo go tt lt mo fo ro fl9]) := hD
      exact zret_v hx hb hr hlocks hS (Nat.le_of_ble_eq_true rfl) (Nat.le_of_ble_eq_true rfl) dX11_needWithin_21 () rfl (show (1 ≤ n.toInt ∧ n.toInt ≤ 99) from (by first | assumption | omega | decide | exact rfl | exact zb01 (by omega) | exact Or.inl (by decide) | exact Or.inr (by first | omega | decide))) hP hD
    · skip
      have c8 : 99 < n.toInt := zlti (Int32.not_le.mp cb9) (by decide) rfl
      have n9 : 100 ≤ n.toInt := zL2 (a := 99) c8 (Int.le_refl _) (by decide)
      obtain ⟨sa10, hsa10⟩ := hT.1.2.2.1 _ (List.mem_of_getElem? (i := 10) rfl)
      exact vx_throwSW (A := A) (names := ["java/lang/RuntimeException", "java/lang/Exception"]) hx hb hfl hown (by decide +kernel) (by decide +kernel) (hts _ k576) (hts _ k577) hsa10 (zhat hat_RX11_110_IllegalArgumentExceptiona hat_RX11_110_IllegalArgumentExceptionb hts (hT.1.2.2.2.2.1 _ (List.mem_of_getElem? (i := 1) rfl))) hat_RX11_110_IllegalArgumentExceptionc hT.1.1 hT.1.2.1 hS (by rw [hml]; exact hl.1) dX11_needWithin_10 dX11_needWithin_13 dX11_needWithin_14 dX11_needWithin_17 dX11_needWithin_20 (fun x hx => (htab x hx).elim) (Nat.le_of_ble_eq_true rfl) (Nat.le_of_ble_eq_true rfl) (Nat.le_of_ble_eq_true rfl) (Nat.le_of_ble_eq_true rfl) hlocks (fun t ht hz hk => ⟨⟨(), ⟨rfl, (show ¬ (1 ≤ n.toInt ∧ n.toInt ≤ 99) from (by first | assumption | omega | exact fun h9 => absurd h9.2.2 (by assumption)))⟩, hP.kept (fun k q hq => hk q.1 (hP k q hq).lt), hD⟩, ⟨Nat.le_trans hS.1 hz, fun q h1 h2 => (hk q (Nat.lt_of_lt_of_le h1 hS.1)).trans (hS.2.1 q h1 h2)⟩⟩) hS.2.2 (Nat.le_of_ble_eq_true rfl) (Nat.le_of_ble_eq_true rfl)
set_option maxRecDepth 100000 in
set_option maxHeartbeats 4000000 in
theorem c_x_nwE_0_9 (l : Launch) (hfl : l.stackTraces = false) (g : zG) (x : Nat) (ta : Nat) (o : Nat) (lo : Nat) (go : Nat) (tt : Nat) (lt : Nat) (mo : Nat) (fo : Nat) (ro : Nat) (fl9 : Int32) (n : Int32)  : zX' g l yX11_needWithin (Cond.code yX11_needWithin cX11_needWithin 4 none :: zB) ({ frames := 6, cells := 1, slots := 6, locals := 82 } : Room) [.ref x, .int n, .int 0, .int 9] [bDR g x ta o lo go tt lt mo fo ro fl9] (fun _ : Unit => none) (fun _ : Unit => (0 ≤ n.toInt ∧ n.toInt ≤ 9)) (fun _ : Unit => [bDR g x ta o lo go tt lt mo fo ro fl9]) (fun (E : String) (_ : Unit) => (E = "java/lang/IllegalArgumentException") ∧ (¬ (0 ≤ n.toInt ∧ n.toInt ≤ 9))) (fun _ : Unit => [bDR g x ta o lo go tt lt mo fo ro fl9]) := by
  refine zX'.of (cc := cX11_needWithin) (maxL := 4) (rt := none) (by decide) rfl (Nat.le_of_ble_eq_true rfl) ?_
  intro p e s m args below meth c A ls St hr hlocks htab hin hK hT hA hP hD hS hl
  obtain ⟨hx, hb, hml, hown, hts⟩ := id St
  have hl : lv_has ls 4 [(0, .ref x), (1, .int n), (2, .int 0), (3, .int 9)] := hl
  refine lv_iload_n hx hb dX11_needWithin_0 rfl (lv_at hl 1 rfl) ?_
  refine lv_iload_n hx hb dX11_needWithin_1 rfl (lv_at hl 2 rfl) ?_
  refine lv_icmp_lt (tgt := 10) hx hb dX11_needWithin_2 (by decide) (fun cb9 => ?_) (fun cb9 => ?_)
  · skip
    have c1 : n.toInt < 0 := zlti cb9 rfl (by decide)
    have n2 : n.toInt ≤ (-1) := zL1 (b := 0) c1 (Int.le_refl _) (by decide)
    obtain ⟨sa3, hsa3⟩ := hT.1.2.2.1 _ (List.mem_of_getElem? (i := 10) rfl)
    exact vx_throwSW (A := A) (names := ["java/lang/RuntimeException", "java/lang/Exception"]) hx hb hfl hown (by decide +kernel) (by decide +kernel) (hts _ k576) (hts _ k577) hsa3 (zhat hat_RX11_110_IllegalArgumentExceptiona hat_RX11_110_IllegalArgumentExceptionb hts (hT.1.2.2.2.2.1 _ (List.mem_of_getElem? (i := 1) rfl))) hat_RX11_110_IllegalArgumentExceptionc hT.1.1 hT.1.2.1 hS (by rw [hml]; exact hl.1) dX11_needWithin_10 dX11_needWithin_13 dX11_needWithin_14 dX11_needWithin_17 dX11_needWithin_20 (fun x hx => (htab x hx).elim) (Nat.le_of_ble_eq_true rfl) (Nat.le_of_ble_eq_true rfl) (Nat.le_of_ble_eq_true rfl) (Nat.le_of_ble_eq_true rfl) hlocks (fun t ht hz hk => ⟨⟨(), ⟨rfl, (show ¬ (0 ≤ n.toInt ∧ n.toInt ≤ 9) from (by first | assumption | omega | exact fun h9 => absurd h9.2.2 (by assumption)))⟩, hP.kept (fun k q hq => hk q.1 (hP k q hq).lt), hD⟩, ⟨Nat.le_trans hS.1 hz, fun q h1 h2 => (hk q (Nat.lt_of_lt_of_le h1 hS.1)).trans (hS.2.1 q h1 h2)⟩⟩) hS.2.2 (Nat.le_of_ble_eq_true rfl) (Nat.le_of_ble_eq_true rfl)
  · skip
    have c4 : 0 ≤ n.toInt := zle (Int32.not_lt.mp cb9) (by decide) rfl
    have n5 : 0 ≤ n.toInt := Int.le_trans (Int.le_refl _) c4
    refine lv_iload_n hx hb dX11_needWithin_5 rfl (lv_at hl 1 rfl) ?_
    refine lv_iload_n hx hb dX11_needWithin_6 rfl (lv_at hl 3 rfl) ?_
    refine lv_icmp_le (tgt := 21) hx hb dX11_needWithin_7 (by decide) (fun cb9 => ?_) (fun cb9 => ?_)
    · skip
      have c6 : n.toInt ≤ 9 := zle cb9 rfl (by decide)
      have n7 : n.toInt ≤ 9 := Int.le_trans c6 (Int.le_refl _)
      have hP : va_P g.1 vwCl (List.flatten [bDR g x ta o lo go tt lt mo fo ro fl9]) s.heap := hP
      have hD : va_D A (List.flatten [bDR g x ta o lo go tt lt mo fo ro fl9]) := hD
      exact zret_v hx hb hr hlocks hS (Nat.le_of_ble_eq_true rfl) (Nat.le_of_ble_eq_true rfl) dX11_needWithin_21 () rfl (show (0 ≤ n.toInt ∧ n.toInt ≤ 9) from (by first | assumption | omega | decide | exact rfl | exact zb01 (by omega) | exact Or.inl (by decide) | exact Or.inr (by first | omega | decide))) hP hD
    · skip
      have c8 : 9 < n.toInt := zlti (Int32.not_le.mp cb9) (by decide) rfl
      have n9 : 10 ≤ n.toInt := zL2 (a := 9) c8 (Int.le_refl _) (by decide)
      obtain ⟨sa10, hsa10⟩ := hT.1.2.2.1 _ (List.mem_of_getElem? (i := 10) rfl)
      exact vx_throwSW (A := A) (names := ["java/lang/RuntimeException", "java/lang/Exception"]) hx hb hfl hown (by decide +kernel) (by decide +kernel) (hts _ k576) (hts _ k577) hsa10 (zhat hat_RX11_110_IllegalArgumentExceptiona hat_RX11_110_IllegalArgumentExceptionb hts (hT.1.2.2.2.2.1 _ (List.mem_of_getElem? (i := 1) rfl))) hat_RX11_110_IllegalArgumentExceptionc hT.1.1 hT.1.2.1 hS (by rw [hml]; exact hl.1) dX11_needWithin_10 dX11_needWithin_13 dX11_needWithin_14 dX11_needWithin_17 dX11_needWithin_20 (fun x hx => (htab x hx).elim) (Nat.le_of_ble_eq_true rfl) (Nat.le_of_ble_eq_true rfl) (Nat.le_of_ble_eq_true rfl) (Nat.le_of_ble_eq_true rfl) hlocks (fun t ht hz hk => ⟨⟨(), ⟨rfl, (show ¬ (0 ≤ n.toInt ∧ n.toInt ≤ 9) from (by first | assumption | omega | exact fun h9 => absurd h9.2.2 (by assumption)))⟩, hP.kept (fun k q hq => hk q.1 (hP k q hq).lt), hD⟩, ⟨Nat.le_trans hS.1 hz, fun q h1 h2 => (hk q (Nat.lt_of_lt_of_le h1 hS.1)).trans (hS.2.1 q h1 h2)⟩⟩) hS.2.2 (Nat.le_of_ble_eq_true rfl) (Nat.le_of_ble_eq_true rfl)
set_option maxRecDepth 100000 in
set_option maxHeartbeats 4000000 in
theorem c_m_rememberC (l : Launch) (g : zG) (mo : Nat) (qT : Nat) (qL : Nat) (it : Nat) (il : Nat) (ig : Nat) (mh : Int32) (me : Int32) (mx : Int32) (fT : Nat → Option Nat) (fL : Nat → Option Nat) (o : Nat) (a : Nat → Nat) (pe : Int32) (wo : Int32) (tx : Int32) (ch : Int32) (jo : Int32) (tr : Int32) (dy : Int32) (sd : Int32) (f : Nat → Nat → Int32) (go : Nat) (gr : Nat) (gz : Int32) (gn : Int32) (fr : Nat → Int32) (PT : Nat → zTR) (PL : Nat → zLR) (b_me : 0 ≤ me.toInt ∧ me.toInt ≤ 12) (b_mx : 0 ≤ mx.toInt ∧ mx.toInt ≤ 11) (b_pe : 0 ≤ pe.toInt ∧ pe.toInt ≤ 8) (b_wo : 0 ≤ wo.toInt ∧ wo.toInt ≤ 6) (rf : zZ4 f) (b_gz : 0 ≤ gz.toInt ∧ gz.toInt ≤ 60) (b_gn : 0 ≤ gn.toInt ∧ gn.toInt ≤ 59) (hPT : zPT fT PT) (hPL : zPL fL PL) : zM' g l yX4_remember (Cond.code yX4_remember cX4_remember 3 none :: zB) ({ frames := 2, cells := 0, slots := 0, locals := 61 } : Room) [.ref mo, .ref o, .ref go] [bMem g mo qT qL it il ig mh me mx fT fL, bTown g o a pe wo tx ch jo tr dy sd f, bLog g go gr gz gn fr, bPT g PT, bPL g PL] (fun u : Int32 × Int32 × (Nat → zTR) × (Nat → zLR) => (fun (me2 : Int32) (mx2 : Int32) (PT2 : Nat → zTR) (PL2 : Nat → zLR) => none) (u.1) (u.2.1) (u.2.2.1) (u.2.2.2)) (fun u : Int32 × Int32 × (Nat → zTR) × (Nat → zLR) => (fun (me2 : Int32) (mx2 : Int32) (PT2 : Nat → zTR) (PL2 : Nat → zLR) => (0 ≤ me2.toInt ∧ me2.toInt ≤ 12) ∧ (0 ≤ mx2.toInt ∧ mx2.toInt ≤ 11) ∧ (zPT fT PT2) ∧ (zPL fL PL2) ∧ (zMy PT PT2 me.toInt me2.toInt mx.toInt mx2.toInt (pe, wo, tx, ch, jo, tr, dy, sd, f))) (u.1) (u.2.1) (u.2.2.1) (u.2.2.2)) (fun u : Int32 × Int32 × (Nat → zTR) × (Nat → zLR) => (fun (me2 : Int32) (mx2 : Int32) (PT2 : Nat → zTR) (PL2 : Nat → zLR) => [bMem g mo qT qL it il ig mh me2 mx2 fT fL, bTown g o a pe wo tx ch jo tr dy sd f, bLog g go gr gz gn fr, bPT g PT2, bPL g PL2]) (u.1) (u.2.1) (u.2.2.1) (u.2.2.2)) := by
  refine zM'.of (cc := cX4_remember) (maxL := 3) (rt := none) (by decide) rfl (Nat.le_of_ble_eq_true rfl) ?_
  intro p e s m args below meth c A ls St hr hlocks hin hK hT hA hP hD hS hl
  obtain ⟨hx, hb, hml, hown, hts⟩ := id St
  have hl : lv_has ls 3 [(0, .ref mo), (1, .ref o), (2, .ref go)] := hl
  refine lv_aload_n hx hb dX4_remember_0 rfl (lv_at hl 0 rfl) ?_
  refine va_get (D := g.1) (ci := 4) (v := .ref qT) (C := RX4) (T := TX4) (N := 8) hx hb hts izRX4 hown hK hP 0 rfl rfl 0 (by decide) (hts _ k349) (fun _ h9 => h9) rfl dX4_remember_1 ?_
  refine lv_aload_n hx hb dX4_remember_4 rfl (lv_at hl 0 rfl) ?_
  refine va_get (D := g.1) (ci := 4) (v := .int mx) (C := RX4) (T := TX4) (N := 8) hx hb hts izRX4 hown hK hP 0 rfl rfl 7 (by decide) (hts _ k361) (fun _ h9 => h9) rfl dX4_remember_5 ?_
  have hP : va_P g.1 vwCl (List.flatten [bMem g mo qT qL it il ig mh me mx fT fL, bTown g o a pe wo tx ch jo tr dy sd f, bLog g go gr gz gn fr, bPT g PT, bPL g PL]) s.heap := hP
  have hD : va_D A (List.flatten [bMem g mo qT qL it il ig mh me mx fT fL, bTown g o a pe wo tx ch jo tr dy sd f, bLog g go gr gz gn fr, bPT g PT, bPL g PL]) := hD
  obtain ⟨hP, hD⟩ := zord (g := g) (Bs' := [bMem g mo qT qL it il ig mh me mx fT fL, bTown g o a pe wo tx ch jo tr dy sd f, bLog g go gr gz gn fr, bPL g PL, bPT g PT]) [0, 1, 2, 4, 3] rfl rfl hP hD
  have hi1 : mx.toNatClampNeg < 12 := by rw [zcl]; omega
  obtain ⟨o_2, a_3, pe_4, wo_5, tx_6, ch_7, jo_8, tr_9, dy_10, sd_11, f_12, hu13, hu14, hu15, rf_12, hv16, hP, hD⟩ := zopTF (g := g) (A := A) mx.toNatClampNeg [bMem g mo qT qL it il ig mh me mx fT fL, bTown g o a pe wo tx ch jo tr dy sd f, bLog g go gr gz gn fr, bPL g PL] hi1 hPT hP hD
  have hP : va_P g.1 vwCl (List.flatten [bTown g o_2 a_3 pe_4 wo_5 tx_6 ch_7 jo_8 tr_9 dy_10 sd_11 f_12, bMem g mo qT qL it il ig mh me mx fT fL, bTown g o a pe wo tx ch jo tr dy sd f, bLog g go gr gz gn fr, bPL g PL, bPTx g PT mx.toNatClampNeg]) s.heap := hP
  have hD : va_D A (List.flatten [bTown g o_2 a_3 pe_4 wo_5 tx_6 ch_7 jo_8 tr_9 dy_10 sd_11 f_12, bMem g mo qT qL it il ig mh me mx fT fL, bTown g o a pe wo tx ch jo tr dy sd f, bLog g go gr gz gn fr, bPL g PL, bPTx g PT mx.toNatClampNeg]) := hD
  refine va_aldq hx hb hK hP 13 3 rfl rfl (zinK (a := 0) (b := 11) b_mx.1 b_mx.2 (by decide)) dX4_remember_8 ?_
  refine W.eq (g2 := F0 m 9 ls (.ref o_2 :: [])) (by rw [show fT (Int32.toNatClampNeg mx) = some o_2 from hu13]; rfl) ?_
  refine lv_aload_n hx hb dX4_remember_9 rfl (lv_at hl 1 rfl) ?_
  refine mcallV' (g := g) (q0 := 0) (ci := 7) (As := [.ref o]) (rest := []) St hK hT hA hP hD hS hl.1 [0, 2] [1, 3, 4, 5] rfl rfl rfl (c_copyFromC l g o_2 a_3 pe_4 wo_5 tx_6 ch_7 jo_8 tr_9 dy_10 sd_11 f_12 o a pe wo tx ch jo tr dy sd f b_pe b_wo rf) (cwV 1 hts (zgL (zl4 k363 k157 k158 k24) k30) rfl rfl rfl (by decide +kernel) ⟨Nat.le_of_ble_eq_true rfl, Nat.le_of_ble_eq_true rfl⟩) rfl rfl rfl rfl (Nat.le_of_ble_eq_true rfl) dX4_remember_10 ⟨(Nat.le_of_ble_eq_true rfl), (Nat.le_of_ble_eq_true rfl)⟩ (fun h_17 H locs hq18 hP hD hS => ?_)
  replace hq18 : (zZ4 h_17) ∧ (zEq h_17 f) := hq18
  have hP : va_P g.1 vwCl (List.flatten [bMem g mo qT qL it il ig mh me mx fT fL, bLog g go gr gz gn fr, bPL g PL, bPTx g PT mx.toNatClampNeg, bTown g o_2 a_3 pe wo tx ch jo tr dy sd h_17, bTown g o a pe wo tx ch jo tr dy sd f]) H := hP
  have hD : va_D A (List.flatten [bMem g mo qT qL it il ig mh me mx fT fL, bLog g go gr gz gn fr, bPL g PL, bPTx g PT mx.toNatClampNeg, bTown g o_2 a_3 pe wo tx ch jo tr dy sd h_17, bTown g o a pe wo tx ch jo tr dy sd f]) := hD
  refine W.widen (k := 0) (n := 0) (Nat.le_of_ble_eq_true rfl) (Nat.le_of_ble_eq_true rfl) ?_
  refine W.eq (g2 := F0 m 13 ls []) rfl ?_
  have hP : va_P g.1 vwCl (List.flatten [bMem g mo qT qL it il ig mh me mx fT fL, bLog g go gr gz gn fr, bPL g PL, bPTx g PT mx.toNatClampNeg, bTown g o_2 a_3 pe wo tx ch jo tr dy sd h_17, bTown g o a pe wo tx ch jo tr dy sd f]) H := hP
  have hD : va_D A (List.flatten [bMem g mo qT qL it il ig mh me mx fT fL, bLog g go gr gz gn fr, bPL g PL, bPTx g PT mx.toNatClampNeg, bTown g o_2 a_3 pe wo tx ch jo tr dy sd h_17, bTown g o a pe wo tx ch jo tr dy sd f]) := hD
  obtain ⟨hP, hD⟩ := zord (g := g) (Bs' := [bMem g mo qT qL it il ig mh me mx fT fL, bLog g go gr gz gn fr, bTown g o_2 a_3 pe wo tx ch jo tr dy sd h_17, bTown g o a pe wo tx ch jo tr dy sd f, bPL g PL, bPTx g PT mx.toNatClampNeg]) [0, 1, 4, 5, 2, 3] rfl rfl hP hD
  obtain ⟨rh_17, hq18_1⟩ := hq18
  have hP : va_P g.1 vwCl (List.flatten [bMem g mo qT qL it il ig mh me mx fT fL, bLog g go gr gz gn fr, bTown g o_2 a_3 pe wo tx ch jo tr dy sd h_17, bTown g o a pe wo tx ch jo tr dy sd f, bPL g PL, bPTx g PT mx.toNatClampNeg]) H := hP
  have hD : va_D A (List.flatten [bMem g mo qT qL it il ig mh me mx fT fL, bLog g go gr gz gn fr, bTown g o_2 a_3 pe wo tx ch jo tr dy sd h_17, bTown g o a pe wo tx ch jo tr dy sd f, bPL g PL, bPTx g PT mx.toNatClampNeg]) := hD
  obtain ⟨hP, hD⟩ := zord (g := g) (Bs' := [bTown g o_2 a_3 pe wo tx ch jo tr dy sd h_17, bMem g mo qT qL it il ig mh me mx fT fL, bLog g go gr gz gn fr, bTown g o a pe wo tx ch jo tr dy sd f, bPL g PL, bPTx g PT mx.toNatClampNeg]) [2, 0, 1, 3, 4, 5] rfl rfl hP hD
  obtain ⟨PT_19, hp20, hw21, hP, hD⟩ := zclTF (g := g) (A := A) [bMem g mo qT qL it il ig mh me mx fT fL, bLog g go gr gz gn fr, bTown g o a pe wo tx ch jo tr dy sd f, bPL g PL] hi1 hPT hu13 ⟨b_pe.1, b_pe.2⟩ ⟨b_wo.1, b_wo.2⟩ rh_17 hP hD
  have hP : va_P g.1 vwCl (List.flatten [bMem g mo qT qL it il ig mh me mx fT fL, bLog g go gr gz gn fr, bTown g o a pe wo tx ch jo tr dy sd f, bPL g PL, bPT g PT_19]) H := hP
  have hD : va_D A (List.flatten [bMem g mo qT qL it il ig mh me mx fT fL, bLog g go gr gz gn fr, bTown g o a pe wo tx ch jo tr dy sd f, bPL g PL, bPT g PT_19]) := hD
  refine lv_aload_n hx hb dX4_remember_13 rfl (lv_at hl 0 rfl) ?_
  refine va_get (D := g.1) (ci := 4) (v := .ref qL) (C := RX4) (T := TX4) (N := 8) hx hb hts izRX4 hown hK hP 0 rfl rfl 1 (by decide) (hts _ k351) (fun _ h9 => h9) rfl dX4_remember_14 ?_
  refine lv_aload_n hx hb dX4_remember_17 rfl (lv_at hl 0 rfl) ?_
  refine va_get (D := g.1) (ci := 4) (v := .int mx) (C := RX4) (T := TX4) (N := 8) hx hb hts izRX4 hown hK hP 0 rfl rfl 7 (by decide) (hts _ k361) (fun _ h9 => h9) rfl dX4_remember_18 ?_
  have hP : va_P g.1 vwCl (List.flatten [bMem g mo qT qL it il ig mh me mx fT fL, bLog g go gr gz gn fr, bTown g o a pe wo tx ch jo tr dy sd f, bPL g PL, bPT g PT_19]) H := hP
  have hD : va_D A (List.flatten [bMem g mo qT qL it il ig mh me mx fT fL, bLog g go gr gz gn fr, bTown g o a pe wo tx ch jo tr dy sd f, bPL g PL, bPT g PT_19]) := hD
  obtain ⟨hP, hD⟩ := zord (g := g) (Bs' := [bMem g mo qT qL it il ig mh me mx fT fL, bLog g go gr gz gn fr, bTown g o a pe wo tx ch jo tr dy sd f, bPT g PT_19, bPL g PL]) [0, 1, 2, 4, 3] rfl rfl hP hD
  have hi22 : mx.toNatClampNeg < 12 := by rw [zcl]; omega
  obtain ⟨go_23, gr_24, gz_25, gn_26, fr_27, hu28, hu29, hu30, hP, hD⟩ := zopL (g := g) (A := A) mx.toNatClampNeg [bMem g mo qT qL it il ig mh me mx fT fL, bLog g go gr gz gn fr, bTown g o a pe wo tx ch jo tr dy sd f, bPT g PT_19] hi22 hPL hP hD
  have hP : va_P g.1 vwCl (List.flatten [bLog g go_23 gr_24 gz_25 gn_26 fr_27, bMem g mo qT qL it il ig mh me mx fT fL, bLog g go gr gz gn fr, bTown g o a pe wo tx ch jo tr dy sd f, bPT g PT_19, bPLx g PL mx.toNatClampNeg]) H := hP
  have hD : va_D A (List.flatten [bLog g go_23 gr_24 gz_25 gn_26 fr_27, bMem g mo qT qL it il ig mh me mx fT fL, bLog g go gr gz gn fr, bTown g o a pe wo tx ch jo tr dy sd f, bPT g PT_19, bPLx g PL mx.toNatClampNeg]) := hD
  refine va_aldq hx hb hK hP 4 4 rfl rfl (zinK (a := 0) (b := 11) b_mx.1 b_mx.2 (by decide)) dX4_remember_21 ?_
  refine W.eq (g2 := F0 m 22 ls (.ref go_23 :: [])) (by rw [show fL (Int32.toNatClampNeg mx) = some go_23 from hu28]; rfl) ?_
  refine lv_aload_n hx hb dX4_remember_22 rfl (lv_at hl 2 rfl) ?_
  refine mcallV' (g := g) (q0 := 0) (ci := 3) (As := [.ref go]) (rest := []) St hK hT hA hP hD hS hl.1 [0, 2] [1, 3, 4, 5] rfl rfl rfl (c_g_copyFrom l g go_23 gr_24 gz_25 gn_26 fr_27 go gr gz gn fr b_gz b_gn) (cwV 1 hts (zgL (zl4 k364 k365 k366 k123) k331) rfl rfl rfl (by decide +kernel) ⟨Nat.le_of_ble_eq_true rfl, Nat.le_of_ble_eq_true rfl⟩) rfl rfl rfl rfl (Nat.le_of_ble_eq_true rfl) dX4_remember_23 ⟨(Nat.le_of_ble_eq_true rfl), (Nat.le_of_ble_eq_true rfl)⟩ (fun h_31 H locs hq32 hP hD hS => ?_)
  have hP : va_P g.1 vwCl (List.flatten [bMem g mo qT qL it il ig mh me mx fT fL, bTown g o a pe wo tx ch jo tr dy sd f, bPT g PT_19, bPLx g PL mx.toNatClampNeg, bLog g go_23 gr_24 gz gn h_31, bLog g go gr gz gn fr]) H := hP
  have hD : va_D A (List.flatten [bMem g mo qT qL it il ig mh me mx fT fL, bTown g o a pe wo tx ch jo tr dy sd f, bPT g PT_19, bPLx g PL mx.toNatClampNeg, bLog g go_23 gr_24 gz gn h_31, bLog g go gr gz gn fr]) := hD
  refine W.widen (k := 0) (n := 0) (Nat.le_of_ble_eq_true rfl) (Nat.le_of_ble_eq_true rfl) ?_
  refine W.eq (g2 := F0 m 26 ls []) rfl ?_
  have hP : va_P g.1 vwCl (List.flatten [bMem g mo qT qL it il ig mh me mx fT fL, bTown g o a pe wo tx ch jo tr dy sd f, bPT g PT_19, bPLx g PL mx.toNatClampNeg, bLog g go_23 gr_24 gz gn h_31, bLog g go gr gz gn fr]) H := hP
  have hD : va_D A (List.flatten [bMem g mo qT qL it il ig mh me mx fT fL, bTown g o a pe wo tx ch jo tr dy sd f, bPT g PT_19, bPLx g PL mx.toNatClampNeg, bLog g go_23 gr_24 gz gn h_31, bLog g go gr gz gn fr]) := hD
  obtain ⟨hP, hD⟩ := zord (g := g) (Bs' := [bMem g mo qT qL it il ig mh me mx fT fL, bTown g o a pe wo tx ch jo tr dy sd f, bLog g go_23 gr_24 gz gn h_31, bLog g go gr gz gn fr, bPT g PT_19, bPLx g PL mx.toNatClampNeg]) [0, 1, 4, 5, 2, 3] rfl rfl hP hD
  have hP : va_P g.1 vwCl (List.flatten [bMem g mo qT qL it il ig mh me mx fT fL, bTown g o a pe wo tx ch jo tr dy sd f, bLog g go_23 gr_24 gz gn h_31, bLog g go gr gz gn fr, bPT g PT_19, bPLx g PL mx.toNatClampNeg]) H := hP
  have hD : va_D A (List.flatten [bMem g mo qT qL it il ig mh me mx fT fL, bTown g o a pe wo tx ch jo tr dy sd f, bLog g go_23 gr_24 gz gn h_31, bLog g go gr gz gn fr, bPT g PT_19, bPLx g PL mx.toNatClampNeg]) := hD
  obtain ⟨hP, hD⟩ := zord (g := g) (Bs' := [bLog g go_23 gr_24 gz gn h_31, bMem g mo qT qL it il ig mh me mx fT fL, bTown g o a pe wo tx ch jo tr dy sd f, bLog g go gr gz gn fr, bPT g PT_19, bPLx g PL mx.toNatClampNeg]) [2, 0, 1, 3, 4, 5] rfl rfl hP hD
  obtain ⟨PL_33, hp34, hP, hD⟩ := zclL (g := g) (A := A) [bMem g mo qT qL it il ig mh me mx fT fL, bTown g o a pe wo tx ch jo tr dy sd f, bLog g go gr gz gn fr, bPT g PT_19] hi22 hPL hu28 ⟨b_gz.1, b_gz.2⟩ ⟨b_gn.1, b_gn.2⟩ hP hD
  have hP : va_P g.1 vwCl (List.flatten [bMem g mo qT qL it il ig mh me mx fT fL, bTown g o a pe wo tx ch jo tr dy sd f, bLog g go gr gz gn fr, bPT g PT_19, bPL g PL_33]) H := hP
  have hD : va_D A (List.flatten [bMem g mo qT qL it il ig mh me mx fT fL, bTown g o a pe wo tx ch jo tr dy sd f, bLog g go gr gz gn fr, bPT g PT_19, bPL g PL_33]) := hD
  refine lv_aload_n hx hb dX4_remember_26 rfl (lv_at hl 0 rfl) ?_
  refine lv_aload_n hx hb dX4_remember_27 rfl (lv_at hl 0 rfl) ?_
  refine va_get (D := g.1) (ci := 4) (v := .int mx) (C := RX4) (T := TX4) (N := 8) hx hb hts izRX4 hown hK hP 0 rfl rfl 7 (by decide) (hts _ k361) (fun _ h9 => h9) rfl dX4_remember_28 ?_
  refine lv_iconst (v := 1) hx hb dX4_remember_31 (by decide) ?_
  refine lv_iadd hx hb dX4_remember_32 ?_
  refine zg3 (zaddK (i := mx.toInt) (j := 1) (a' := 1) (b' := 12) rfl (by decide) b_mx.1 b_mx.2 (Int.le_refl _) (Int.le_refl _) (by decide)) (fun x_35 hx_35 => ?_)
  refine lv_bipush (v := 12) hx hb dX4_remember_33 (by decide) ?_
  refine lv_irem hx hb dX4_remember_35 (by decide) ?_
  refine zgp2 (P := fun r9 : Int32 => r9.toInt = x_35.toInt % 12) (zr12 (by omega)) (fun x_36 hx_36 => ?_)
  have w37 : 0 ≤ x_36.toInt ∧ x_36.toInt ≤ 11 := by omega
  refine va_put (D := g.1) (ci := 4) (v := .int x_36) (ty := .int) (C := RX4) (T := TX4) (N := 8) hx hb hts izRX4 tyX4 tyX4_ok nmX4 hown hK hP hD hS 0 rfl rfl 7 (by decide) (hts _ k361) (fun _ h9 => h9) rfl (by decide +kernel) rfl rfl (Nat.le_of_ble_eq_true rfl) dX4_remember_36 (fun H locs hP hD hS => ?_)
  have hP : va_P g.1 vwCl (List.flatten [bMem g mo qT qL it il ig mh me x_36 fT fL, bTown g o a pe wo tx ch jo tr dy sd f, bLog g go gr gz gn fr, bPT g PT_19, bPL g PL_33]) H := hP
  have hD : va_D A (List.flatten [bMem g mo qT qL it il ig mh me x_36 fT fL, bTown g o a pe wo tx ch jo tr dy sd f, bLog g go gr gz gn fr, bPT g PT_19, bPL g PL_33]) := hD
  refine lv_aload_n hx hb dX4_remember_39 rfl (lv_at hl 0 rfl) ?_
  refine lv_bipush (v := 12) hx hb dX4_remember_40 (by decide) ?_
  refine lv_aload_n hx hb dX4_remember_42 rfl (lv_at hl 0 rfl) ?_
  refine va_get (D := g.1) (ci := 4) (v := .int me) (C := RX4) (T := TX4) (N := 8) hx hb hts izRX4 hown hK hP 0 rfl rfl 6 (by decide) (hts _ k360) (fun _ h9 => h9) rfl dX4_remember_43 ?_
  refine lv_iconst (v := 1) hx hb dX4_remember_46 (by decide) ?_
  refine lv_iadd hx hb dX4_remember_47 ?_
  refine zg3 (zaddK (i := me.toInt) (j := 1) (a' := 1) (b' := 13) rfl (by decide) b_me.1 b_me.2 (Int.le_refl _) (Int.le_refl _) (by decide)) (fun x_38 hx_38 => ?_)
  refine va_mmin hx hb (by rw [hml]; exact hl.1.symm) hown (hts _ k362) (hts _ k41) (hts _ k42) (hts _ k43) (Nat.le_of_ble_eq_true rfl) (Nat.le_of_ble_eq_true rfl) (Nat.le_of_ble_eq_true rfl) (Nat.le_of_ble_eq_true rfl) dX4_remember_48 ?_
  refine zgmn (i := 12) (j := x_38.toInt) (by decide) rfl (fun x_39 hx_39 => ?_)
  refine va_put (D := g.1) (ci := 4) (v := .int x_39) (ty := .int) (C := RX4) (T := TX4) (N := 8) hx hb hts izRX4 tyX4 tyX4_ok nmX4 hown hK hP hD hS 0 rfl rfl 6 (by decide) (hts _ k360) (fun _ h9 => h9) rfl (by decide +kernel) rfl rfl (Nat.le_of_ble_eq_true rfl) dX4_remember_51 (fun H locs hP hD hS => ?_)
  have hP : va_P g.1 vwCl (List.flatten [bMem g mo qT qL it il ig mh x_39 x_36 fT fL, bTown g o a pe wo tx ch jo tr dy sd f, bLog g go gr gz gn fr, bPT g PT_19, bPL g PL_33]) H := hP
  have hD : va_D A (List.flatten [bMem g mo qT qL it il ig mh x_39 x_36 fT fL, bTown g o a pe wo tx ch jo tr dy sd f, bLog g go gr gz gn fr, bPT g PT_19, bPL g PL_33]) := hD
  have hP : va_P g.1 vwCl (List.flatten [bMem g mo qT qL it il ig mh x_39 x_36 fT fL, bTown g o a pe wo tx ch jo tr dy sd f, bLog g go gr gz gn fr, bPT g PT_19, bPL g PL_33]) H := hP
  have hD : va_D A (List.flatten [bMem g mo qT qL it il ig mh x_39 x_36 fT fL, bTown g o a pe wo tx ch jo tr dy sd f, bLog g go gr gz gn fr, bPT g PT_19, bPL g PL_33]) := hD
  exact mret_v hx hb hr hlocks hS (Nat.le_of_ble_eq_true rfl) (Nat.le_of_ble_eq_true rfl) dX4_remember_54 (x_39, x_36, PT_19, PL_33) rfl (show (0 ≤ x_39.toInt ∧ x_39.toInt ≤ 12) ∧ (0 ≤ x_36.toInt ∧ x_36.toInt ≤ 11) ∧ (zPT fT PT_19) ∧ (zPL fL PL_33) ∧ (zMy PT PT_19 me.toInt x_39.toInt mx.toInt x_36.toInt (pe, wo, tx, ch, jo, tr, dy, sd, f)) from ⟨(by first | assumption | omega | decide), (by first | assumption | omega | decide), (by first | assumption | omega | decide), (by first | assumption | omega | decide), ⟨(by omega), (by omega), (zPf_mk (zcl _) hw21 hq18_1)⟩⟩) hP hD
set_option maxRecDepth 100000 in
set_option maxHeartbeats 4000000 in
theorem c_m_recallC (l : Launch) (g : zG) (mo : Nat) (qT : Nat) (qL : Nat) (it : Nat) (il : Nat) (ig : Nat) (mh : Int32) (me : Int32) (mx : Int32) (fT : Nat → Option Nat) (fL : Nat → Option Nat) (o : Nat) (a : Nat → Nat) (pe : Int32) (wo : Int32) (tx : Int32) (ch : Int32) (jo : Int32) (tr : Int32) (dy : Int32) (sd : Int32) (f : Nat → Nat → Int32) (go : Nat) (gr : Nat) (gz : Int32) (gn : Int32) (fr : Nat → Int32) (PT : Nat → zTR) (PL : Nat → zLR) (b_me : 0 ≤ me.toInt ∧ me.toInt ≤ 12) (b_mx : 0 ≤ mx.toInt ∧ mx.toInt ≤ 11) (b_pe : 0 ≤ pe.toInt ∧ pe.toInt ≤ 8) (b_wo : 0 ≤ wo.toInt ∧ wo.toInt ≤ 6) (rf : zZ4 f) (b_gz : 0 ≤ gz.toInt ∧ gz.toInt ≤ 60) (b_gn : 0 ≤ gn.toInt ∧ gn.toInt ≤ 59) (hPT : zPT fT PT) (hPL : zPL fL PL) : zM' g l yX4_recall (Cond.code yX4_recall cX4_recall 3 (some .boolean) :: zB) ({ frames := 2, cells := 0, slots := 0, locals := 61 } : Room) [.ref mo, .ref o, .ref go] [bMem g mo qT qL it il ig mh me mx fT fL, bTown g o a pe wo tx ch jo tr dy sd f, bLog g go gr gz gn fr, bPT g PT, bPL g PL] (fun u : Int32 × Int32 × Int32 × Int32 × Int32 × Int32 × Int32 × Int32 × Int32 × Int32 × (Nat → Nat → Int32) × Int32 × Int32 × (Nat → Int32) × (Nat → zTR) × (Nat → zLR) × Int32 => (fun (me2 : Int32) (mx2 : Int32) (pe2 : Int32) (wo2 : Int32) (tx2 : Int32) (ch2 : Int32) (jo2 : Int32) (tr2 : Int32) (dy2 : Int32) (sd2 : Int32) (f2 : Nat → Nat → Int32) (gz2 : Int32) (gn2 : Int32) (fr2 : Nat → Int32) (PT2 : Nat → zTR) (PL2 : Nat → zLR) (q : Int32) => some (.int q)) (u.1) (u.2.1) (u.2.2.1) (u.2.2.2.1) (u.2.2.2.2.1) (u.2.2.2.2.2.1) (u.2.2.2.2.2.2.1) (u.2.2.2.2.2.2.2.1) (u.2.2.2.2.2.2.2.2.1) (u.2.2.2.2.2.2.2.2.2.1) (u.2.2.2.2.2.2.2.2.2.2.1) (u.2.2.2.2.2.2.2.2.2.2.2.1) (u.2.2.2.2.2.2.2.2.2.2.2.2.1) (u.2.2.2.2.2.2.2.2.2.2.2.2.2.1) (u.2.2.2.2.2.2.2.2.2.2.2.2.2.2.1) (u.2.2.2.2.2.2.2.2.2.2.2.2.2.2.2.1) (u.2.2.2.2.2.2.2.2.2.2.2.2.2.2.2.2)) (fun u : Int32 × Int32 × Int32 × Int32 × Int32 × Int32 × Int32 × Int32 × Int32 × Int32 × (Nat → Nat → Int32) × Int32 × Int32 × (Nat → Int32) × (Nat → zTR) × (Nat → zLR) × Int32 => (fun (me2 : Int32) (mx2 : Int32) (pe2 : Int32) (wo2 : Int32) (tx2 : Int32) (ch2 : Int32) (jo2 : Int32) (tr2 : Int32) (dy2 : Int32) (sd2 : Int32) (f2 : Nat → Nat → Int32) (gz2 : Int32) (gn2 : Int32) (fr2 : Nat → Int32) (PT2 : Nat → zTR) (PL2 : Nat → zLR) (q : Int32) => (0 ≤ me2.toInt ∧ me2.toInt ≤ 12) ∧ (0 ≤ mx2.toInt ∧ mx2.toInt ≤ 11) ∧ (0 ≤ pe2.toInt ∧ pe2.toInt ≤ 8) ∧ (0 ≤ wo2.toInt ∧ wo2.toInt ≤ 6) ∧ (zZ4 f2) ∧ (0 ≤ gz2.toInt ∧ gz2.toInt ≤ 60) ∧ (0 ≤ gn2.toInt ∧ gn2.toInt ≤ 59) ∧ (zPT fT PT2) ∧ (zPL fL PL2) ∧ (q = 1 ∧ ¬ me.toInt = 0 ∧ me2.toInt = me.toInt - 1 ∧ mx2.toInt = (mx.toInt - 1) % 12 ∧ zR9 (pe2, wo2, tx2, ch2, jo2, tr2, dy2, sd2, f2) (PT mx2.toInt.toNat).2.2 ∧ PT = PT2 ∨ q = 0 ∧ me.toInt = 0 ∧ me2.toInt = me.toInt ∧ mx2.toInt = mx.toInt ∧ (pe2, wo2, tx2, ch2, jo2, tr2, dy2, sd2, f2) = (pe, wo, tx, ch, jo, tr, dy, sd, f) ∧ PT = PT2)) (u.1) (u.2.1) (u.2.2.1) (u.2.2.2.1) (u.2.2.2.2.1) (u.2.2.2.2.2.1) (u.2.2.2.2.2.2.1) (u.2.2.2.2.2.2.2.1) (u.2.2.2.2.2.2.2.2.1) (u.2.2.2.2.2.2.2.2.2.1) (u.2.2.2.2.2.2.2.2.2.2.1) (u.2.2.2.2.2.2.2.2.2.2.2.1) (u.2.2.2.2.2.2.2.2.2.2.2.2.1) (u.2.2.2.2.2.2.2.2.2.2.2.2.2.1) (u.2.2.2.2.2.2.2.2.2.2.2.2.2.2.1) (u.2.2.2.2.2.2.2.2.2.2.2.2.2.2.2.1) (u.2.2.2.2.2.2.2.2.2.2.2.2.2.2.2.2)) (fun u : Int32 × Int32 × Int32 × Int32 × Int32 × Int32 × Int32 × Int32 × Int32 × Int32 × (Nat → Nat → Int32) × Int32 × Int32 × (Nat → Int32) × (Nat → zTR) × (Nat → zLR) × Int32 => (fun (me2 : Int32) (mx2 : Int32) (pe2 : Int32) (wo2 : Int32) (tx2 : Int32) (ch2 : Int32) (jo2 : Int32) (tr2 : Int32) (dy2 : Int32) (sd2 : Int32) (f2 : Nat → Nat → Int32) (gz2 : Int32) (gn2 : Int32) (fr2 : Nat → Int32) (PT2 : Nat → zTR) (PL2 : Nat → zLR) (q : Int32) => [bMem g mo qT qL it il ig mh me2 mx2 fT fL, bTown g o a pe2 wo2 tx2 ch2 jo2 tr2 dy2 sd2 f2, bLog g go gr gz2 gn2 fr2, bPT g PT2, bPL g PL2]) (u.1) (u.2.1) (u.2.2.1) (u.2.2.2.1) (u.2.2.2.2.1) (u.2.2.2.2.2.1) (u.2.2.2.2.2.2.1) (u.2.2.2.2.2.2.2.1) (u.2.2.2.2.2.2.2.2.1) (u.2.2.2.2.2.2.2.2.2.1) (u.2.2.2.2.2.2.2.2.2.2.1) (u.2.2.2.2.2.2.2.2.2.2.2.1) (u.2.2.2.2.2.2.2.2.2.2.2.2.1) (u.2.2.2.2.2.2.2.2.2.2.2.2.2.1) (u.2.2.2.2.2.2.2.2.2.2.2.2.2.2.1) (u.2.2.2.2.2.2.2.2.2.2.2.2.2.2.2.1) (u.2.2.2.2.2.2.2.2.2.2.2.2.2.2.2.2)) := by
  refine zM'.of (cc := cX4_recall) (maxL := 3) (rt := (some .boolean)) (by decide) rfl (Nat.le_of_ble_eq_true rfl) ?_
  intro p e s m args below meth c A ls St hr hlocks hin hK hT hA hP hD hS hl
  obtain ⟨hx, hb, hml, hown, hts⟩ := id St
  have hl : lv_has ls 3 [(0, .ref mo), (1, .ref o), (2, .ref go)] := hl
  refine lv_aload_n hx hb dX4_recall_0 rfl (lv_at hl 0 rfl) ?_
  refine va_get (D := g.1) (ci := 4) (v := .int me) (C := RX4) (T := TX4) (N := 8) hx hb hts izRX4 hown hK hP 0 rfl rfl 6 (by decide) (hts _ k360) (fun _ h9 => h9) rfl dX4_recall_1 ?_
  refine lv_if_ne (tgt := 9) hx hb dX4_recall_4 (by decide) (fun cb9 => ?_) (fun cb9 => ?_)
  · skip
    have c1 : ¬ me.toInt = 0 := zne cb9 rfl (by decide)
    have n2 : 1 ≤ me.toInt := zN1 c1 b_me.1 (by decide)
    refine lv_aload_n hx hb dX4_recall_9 rfl (lv_at hl 0 rfl) ?_
    refine lv_dup hx hb dX4_recall_10 rfl ?_
    refine va_get (D := g.1) (ci := 4) (v := .int me) (C := RX4) (T := TX4) (N := 8) hx hb hts izRX4 hown hK hP 0 rfl rfl 6 (by decide) (hts _ k360) (fun _ h9 => h9) rfl dX4_recall_11 ?_
    refine lv_iconst (v := 1) hx hb dX4_recall_14 (by decide) ?_
    refine lv_isub hx hb dX4_recall_15 ?_
    refine zg3 (zsubK (i := me.toInt) (j := 1) (a' := 0) (b' := 11) rfl (by decide) n2 b_me.2 (Int.le_refl _) (Int.le_refl _) (by decide)) (fun x_3 hx_3 => ?_)
    refine va_put (D := g.1) (ci := 4) (v := .int x_3) (ty := .int) (C := RX4) (T := TX4) (N := 8) hx hb hts izRX4 tyX4 tyX4_ok nmX4 hown hK hP hD hS 0 rfl rfl 6 (by decide) (hts _ k360) (fun _ h9 => h9) rfl (by decide +kernel) rfl rfl (Nat.le_of_ble_eq_true rfl) dX4_recall_16 (fun H locs hP hD hS => ?_)
    have hP : va_P g.1 vwCl (List.flatten [bMem g mo qT qL it il ig mh x_3 mx fT fL, bTown g o a pe wo tx ch jo tr dy sd f, bLog g go gr gz gn fr, bPT g PT, bPL g PL]) H := hP
    have hD : va_D A (List.flatten [bMem g mo qT qL it il ig mh x_3 mx fT fL, bTown g o a pe wo tx ch jo tr dy sd f, bLog g go gr gz gn fr, bPT g PT, bPL g PL]) := hD
    refine lv_aload_n hx hb dX4_recall_19 rfl (lv_at hl 0 rfl) ?_
    refine lv_aload_n hx hb dX4_recall_20 rfl (lv_at hl 0 rfl) ?_
    refine va_get (D := g.1) (ci := 4) (v := .int mx) (C := RX4) (T := TX4) (N := 8) hx hb hts izRX4 hown hK hP 0 rfl rfl 7 (by decide) (hts _ k361) (fun _ h9 => h9) rfl dX4_recall_21 ?_
    refine lv_iconst (v := 1) hx hb dX4_recall_24 (by decide) ?_
    refine lv_isub hx hb dX4_recall_25 ?_
    refine zg3 (zsubK (i := mx.toInt) (j := 1) (a' := (-1)) (b' := 10) rfl (by decide) b_mx.1 b_mx.2 (Int.le_refl _) (Int.le_refl _) (by decide)) (fun x_4 hx_4 => ?_)
    refine lv_bipush (v := 12) hx hb dX4_recall_26 (by decide) ?_
    refine mcallS' (g := g) (As := [.int x_4, .int 12]) (rest := [.ref mo]) St hK hT hA hP hD hS hl.1 [] [0, 1, 2, 3, 4] rfl rfl rfl (j_floorMod12F l g x_4 (⟨hx_4.2.1, (Int.le_trans hx_4.2.2 (by decide))⟩)) (va_cwS 2 hts (zgL (zl3 k368 k336 k337) k333) rfl rfl rfl (by decide +kernel) ⟨Nat.le_of_ble_eq_true rfl, Nat.le_of_ble_eq_true rfl⟩) rfl rfl (Nat.le_of_ble_eq_true rfl) dX4_recall_28 ⟨(Nat.le_of_ble_eq_true rfl), (Nat.le_of_ble_eq_true rfl)⟩ (fun q_5 H locs hq6 hP hD hS => ?_)
    replace hq6 : (0 ≤ q_5.toInt ∧ q_5.toInt ≤ 11) ∧ (q_5.toInt = x_4.toInt % 12) := hq6
    have hP : va_P g.1 vwCl (List.flatten [bMem g mo qT qL it il ig mh x_3 mx fT fL, bTown g o a pe wo tx ch jo tr dy sd f, bLog g go gr gz gn fr, bPT g PT, bPL g PL]) H := hP
    have hD : va_D A (List.flatten [bMem g mo qT qL it il ig mh x_3 mx fT fL, bTown g o a pe wo tx ch jo tr dy sd f, bLog g go gr gz gn fr, bPT g PT, bPL g PL]) := hD
    refine W.widen (k := 0) (n := 0) (Nat.le_of_ble_eq_true rfl) (Nat.le_of_ble_eq_true rfl) ?_
    refine W.eq (g2 := F0 m 31 ls [.int q_5, .ref mo]) rfl ?_
    obtain ⟨hq6_0, hq6_1⟩ := hq6
    refine va_put (D := g.1) (ci := 4) (v := .int q_5) (ty := .int) (C := RX4) (T := TX4) (N := 8) hx hb hts izRX4 tyX4 tyX4_ok nmX4 hown hK hP hD hS 0 rfl rfl 7 (by decide) (hts _ k361) (fun _ h9 => h9) rfl (by decide +kernel) rfl rfl (Nat.le_of_ble_eq_true rfl) dX4_recall_31 (fun H locs hP hD hS => ?_)
    have hP : va_P g.1 vwCl (List.flatten [bMem g mo qT qL it il ig mh x_3 q_5 fT fL, bTown g o a pe wo tx ch jo tr dy sd f, bLog g go gr gz gn fr, bPT g PT, bPL g PL]) H := hP
    have hD : va_D A (List.flatten [bMem g mo qT qL it il ig mh x_3 q_5 fT fL, bTown g o a pe wo tx ch jo tr dy sd f, bLog g go gr gz gn fr, bPT g PT, bPL g PL]) := hD
    refine lv_aload_n hx hb dX4_recall_34 rfl (lv_at hl 1 rfl) ?_
    refine lv_aload_n hx hb dX4_recall_35 rfl (lv_at hl 0 rfl) ?_
    refine va_get (D := g.1) (ci := 4) (v := .ref qT) (C := RX4) (T := TX4) (N := 8) hx hb hts izRX4 hown hK hP 0 rfl rfl 0 (by decide) (hts _ k349) (fun _ h9 => h9) rfl dX4_recall_36 ?_
    refine lv_aload_n hx hb dX4_recall_39 rfl (lv_at hl 0 rfl) ?_
    refine va_get (D := g.1) (ci := 4) (v := .int q_5) (C := RX4) (T := TX4) (N := 8) hx hb hts izRX4 hown hK hP 0 rfl rfl 7 (by decide) (hts _ k361) (fun _ h9 => h9) rfl dX4_recall_40 ?_
    have hP : va_P g.1 vwCl (List.flatten [bMem g mo qT qL it il ig mh x_3 q_5 fT fL, bTown g o a pe wo tx ch jo tr dy sd f, bLog g go gr gz gn fr, bPT g PT, bPL g PL]) H := hP
    have hD : va_D A (List.flatten [bMem g mo qT qL it il ig mh x_3 q_5 fT fL, bTown g o a pe wo tx ch jo tr dy sd f, bLog g go gr gz gn fr, bPT g PT, bPL g PL]) := hD
    obtain ⟨hP, hD⟩ := zord (g := g) (Bs' := [bMem g mo qT qL it il ig mh x_3 q_5 fT fL, bTown g o a pe wo tx ch jo tr dy sd f, bLog g go gr gz gn fr, bPL g PL, bPT g PT]) [0, 1, 2, 4, 3] rfl rfl hP hD
    have hi7 : q_5.toNatClampNeg < 12 := by rw [zcl]; omega
    obtain ⟨o_8, a_9, pe_10, wo_11, tx_12, ch_13, jo_14, tr_15, dy_16, sd_17, f_18, hu19, hu20, hu21, rf_18, hv22, hP, hD⟩ := zopTF (g := g) (A := A) q_5.toNatClampNeg [bMem g mo qT qL it il ig mh x_3 q_5 fT fL, bTown g o a pe wo tx ch jo tr dy sd f, bLog g go gr gz gn fr, bPL g PL] hi7 hPT hP hD
    have hP : va_P g.1 vwCl (List.flatten [bTown g o_8 a_9 pe_10 wo_11 tx_12 ch_13 jo_14 tr_15 dy_16 sd_17 f_18, bMem g mo qT qL it il ig mh x_3 q_5 fT fL, bTown g o a pe wo tx ch jo tr dy sd f, bLog g go gr gz gn fr, bPL g PL, bPTx g PT q_5.toNatClampNeg]) H := hP
    have hD : va_D A (List.flatten [bTown g o_8 a_9 pe_10 wo_11 tx_12 ch_13 jo_14 tr_15 dy_16 sd_17 f_18, bMem g mo qT qL it il ig mh x_3 q_5 fT fL, bTown g o a pe wo tx ch jo tr dy sd f, bLog g go gr gz gn fr, bPL g PL, bPTx g PT q_5.toNatClampNeg]) := hD
    refine va_aldq hx hb hK hP 13 3 rfl rfl (zinK (a := 0) (b := 11) hq6_0.1 hq6_0.2 (by decide)) dX4_recall_43 ?_
    refine W.eq (g2 := F0 m 44 ls (.ref o_8 :: [.ref o])) (by rw [show fT (Int32.toNatClampNeg q_5) = some o_8 from hu19]; rfl) ?_
    refine mcallV' (g := g) (q0 := 0) (ci := 7) (As := [.ref o_8]) (rest := []) St hK hT hA hP hD hS hl.1 [2, 0] [1, 3, 4, 5] rfl rfl rfl (c_copyFromC l g o a pe wo tx ch jo tr dy sd f o_8 a_9 pe_10 wo_11 tx_12 ch_13 jo_14 tr_15 dy_16 sd_17 f_18 (⟨hu20.1, hu20.2⟩) (⟨hu21.1, hu21.2⟩) rf_18) (cwV 1 hts (zgL (zl4 k363 k157 k158 k24) k30) rfl rfl rfl (by decide +kernel) ⟨Nat.le_of_ble_eq_true rfl, Nat.le_of_ble_eq_true rfl⟩) rfl rfl rfl rfl (Nat.le_of_ble_eq_true rfl) dX4_recall_44 ⟨(Nat.le_of_ble_eq_true rfl), (Nat.le_of_ble_eq_true rfl)⟩ (fun h_23 H locs hq24 hP hD hS => ?_)
    replace hq24 : (zZ4 h_23) ∧ (zEq h_23 f_18) := hq24
    have hP : va_P g.1 vwCl (List.flatten [bMem g mo qT qL it il ig mh x_3 q_5 fT fL, bLog g go gr gz gn fr, bPL g PL, bPTx g PT q_5.toNatClampNeg, bTown g o a pe_10 wo_11 tx_12 ch_13 jo_14 tr_15 dy_16 sd_17 h_23, bTown g o_8 a_9 pe_10 wo_11 tx_12 ch_13 jo_14 tr_15 dy_16 sd_17 f_18]) H := hP
    have hD : va_D A (List.flatten [bMem g mo qT qL it il ig mh x_3 q_5 fT fL, bLog g go gr gz gn fr, bPL g PL, bPTx g PT q_5.toNatClampNeg, bTown g o a pe_10 wo_11 tx_12 ch_13 jo_14 tr_15 dy_16 sd_17 h_23, bTown g o_8 a_9 pe_10 wo_11 tx_12 ch_13 jo_14 tr_15 dy_16 sd_17 f_18]) := hD
    refine W.widen (k := 0) (n := 0) (Nat.le_of_ble_eq_true rfl) (Nat.le_of_ble_eq_true rfl) ?_
    refine W.eq (g2 := F0 m 47 ls []) rfl ?_
    have hP : va_P g.1 vwCl (List.flatten [bMem g mo qT qL it il ig mh x_3 q_5 fT fL, bLog g go gr gz gn fr, bPL g PL, bPTx g PT q_5.toNatClampNeg, bTown g o a pe_10 wo_11 tx_12 ch_13 jo_14 tr_15 dy_16 sd_17 h_23, bTown g o_8 a_9 pe_10 wo_11 tx_12 ch_13 jo_14 tr_15 dy_16 sd_17 f_18]) H := hP
    have hD : va_D A (List.flatten [bMem g mo qT qL it il ig mh x_3 q_5 fT fL, bLog g go gr gz gn fr, bPL g PL, bPTx g PT q_5.toNatClampNeg, bTown g o a pe_10 wo_11 tx_12 ch_13 jo_14 tr_15 dy_16 sd_17 h_23, bTown g o_8 a_9 pe_10 wo_11 tx_12 ch_13 jo_14 tr_15 dy_16 sd_17 f_18]) := hD
    obtain ⟨hP, hD⟩ := zord (g := g) (Bs' := [bMem g mo qT qL it il ig mh x_3 q_5 fT fL, bLog g go gr gz gn fr, bTown g o a pe_10 wo_11 tx_12 ch_13 jo_14 tr_15 dy_16 sd_17 h_23, bTown g o_8 a_9 pe_10 wo_11 tx_12 ch_13 jo_14 tr_15 dy_16 sd_17 f_18, bPL g PL, bPTx g PT q_5.toNatClampNeg]) [0, 1, 4, 5, 2, 3] rfl rfl hP hD
    obtain ⟨rh_23, hq24_1⟩ := hq24
    have hP : va_P g.1 vwCl (List.flatten [bMem g mo qT qL it il ig mh x_3 q_5 fT fL, bLog g go gr gz gn fr, bTown g o a pe_10 wo_11 tx_12 ch_13 jo_14 tr_15 dy_16 sd_17 h_23, bTown g o_8 a_9 pe_10 wo_11 tx_12 ch_13 jo_14 tr_15 dy_16 sd_17 f_18, bPL g PL, bPTx g PT q_5.toNatClampNeg]) H := hP
    have hD : va_D A (List.flatten [bMem g mo qT qL it il ig mh x_3 q_5 fT fL, bLog g go gr gz gn fr, bTown g o a pe_10 wo_11 tx_12 ch_13 jo_14 tr_15 dy_16 sd_17 h_23, bTown g o_8 a_9 pe_10 wo_11 tx_12 ch_13 jo_14 tr_15 dy_16 sd_17 f_18, bPL g PL, bPTx g PT q_5.toNatClampNeg]) := hD
    obtain ⟨hP, hD⟩ := zord (g := g) (Bs' := [bTown g o_8 a_9 pe_10 wo_11 tx_12 ch_13 jo_14 tr_15 dy_16 sd_17 f_18, bMem g mo qT qL it il ig mh x_3 q_5 fT fL, bLog g go gr gz gn fr, bTown g o a pe_10 wo_11 tx_12 ch_13 jo_14 tr_15 dy_16 sd_17 h_23, bPL g PL, bPTx g PT q_5.toNatClampNeg]) [3, 0, 1, 2, 4, 5] rfl rfl hP hD
    obtain ⟨PT_25, hp26, hw27, hP, hD⟩ := zclTF (g := g) (A := A) [bMem g mo qT qL it il ig mh x_3 q_5 fT fL, bLog g go gr gz gn fr, bTown g o a pe_10 wo_11 tx_12 ch_13 jo_14 tr_15 dy_16 sd_17 h_23, bPL g PL] hi7 hPT hu19 ⟨hu20.1, hu20.2⟩ ⟨hu21.1, hu21.2⟩ rf_18 hP hD
    have hP : va_P g.1 vwCl (List.flatten [bMem g mo qT qL it il ig mh x_3 q_5 fT fL, bLog g go gr gz gn fr, bTown g o a pe_10 wo_11 tx_12 ch_13 jo_14 tr_15 dy_16 sd_17 h_23, bPL g PL, bPT g PT_25]) H := hP
    have hD : va_D A (List.flatten [bMem g mo qT qL it il ig mh x_3 q_5 fT fL, bLog g go gr gz gn fr, bTown g o a pe_10 wo_11 tx_12 ch_13 jo_14 tr_15 dy_16 sd_17 h_23, bPL g PL, bPT g PT_25]) := hD
    refine lv_aload_n hx hb dX4_recall_47 rfl (lv_at hl 2 rfl) ?_
    refine lv_aload_n hx hb dX4_recall_48 rfl (lv_at hl 0 rfl) ?_
    refine va_get (D := g.1) (ci := 4) (v := .ref qL) (C := RX4) (T := TX4) (N := 8) hx hb hts izRX4 hown hK hP 0 rfl rfl 1 (by decide) (hts _ k351) (fun _ h9 => h9) rfl dX4_recall_49 ?_
    refine lv_aload_n hx hb dX4_recall_52 rfl (lv_at hl 0 rfl) ?_
    refine va_get (D := g.1) (ci := 4) (v := .int q_5) (C := RX4) (T := TX4) (N := 8) hx hb hts izRX4 hown hK hP 0 rfl rfl 7 (by decide) (hts _ k361) (fun _ h9 => h9) rfl dX4_recall_53 ?_
    have hP : va_P g.1 vwCl (List.flatten [bMem g mo qT qL it il ig mh x_3 q_5 fT fL, bLog g go gr gz gn fr, bTown g o a pe_10 wo_11 tx_12 ch_13 jo_14 tr_15 dy_16 sd_17 h_23, bPL g PL, bPT g PT_25]) H := hP
    have hD : va_D A (List.flatten [bMem g mo qT qL it il ig mh x_3 q_5 fT fL, bLog g go gr gz gn fr, bTown g o a pe_10 wo_11 tx_12 ch_13 jo_14 tr_15 dy_16 sd_17 h_23, bPL g PL, bPT g PT_25]) := hD
    obtain ⟨hP, hD⟩ := zord (g := g) (Bs' := [bMem g mo qT qL it il ig mh x_3 q_5 fT fL, bLog g go gr gz gn fr, bTown g o a pe_10 wo_11 tx_12 ch_13 jo_14 tr_15 dy_16 sd_17 h_23, bPT g PT_25, bPL g PL]) [0, 1, 2, 4, 3] rfl rfl hP hD
    have hi28 : q_5.toNatClampNeg < 12 := by rw [zcl]; omega
    obtain ⟨go_29, gr_30, gz_31, gn_32, fr_33, hu34, hu35, hu36, hP, hD⟩ := zopL (g := g) (A := A) q_5.toNatClampNeg [bMem g mo qT qL it il ig mh x_3 q_5 fT fL, bLog g go gr gz gn fr, bTown g o a pe_10 wo_11 tx_12 ch_13 jo_14 tr_15 dy_16 sd_17 h_23, bPT g PT_25] hi28 hPL hP hD
    have hP : va_P g.1 vwCl (List.flatten [bLog g go_29 gr_30 gz_31 gn_32 fr_33, bMem g mo qT qL it il ig mh x_3 q_5 fT fL, bLog g go gr gz gn fr, bTown g o a pe_10 wo_11 tx_12 ch_13 jo_14 tr_15 dy_16 sd_17 h_23, bPT g PT_25, bPLx g PL q_5.toNatClampNeg]) H := hP
    have hD : va_D A (List.flatten [bLog g go_29 gr_30 gz_31 gn_32 fr_33, bMem g mo qT qL it il ig mh x_3 q_5 fT fL, bLog g go gr gz gn fr, bTown g o a pe_10 wo_11 tx_12 ch_13 jo_14 tr_15 dy_16 sd_17 h_23, bPT g PT_25, bPLx g PL q_5.toNatClampNeg]) := hD
    refine va_aldq hx hb hK hP 4 4 rfl rfl (zinK (a := 0) (b := 11) hq6_0.1 hq6_0.2 (by decide)) dX4_recall_56 ?_
    refine W.eq (g2 := F0 m 57 ls (.ref go_29 :: [.ref go])) (by rw [show fL (Int32.toNatClampNeg q_5) = some go_29 from hu34]; rfl) ?_
    refine mcallV' (g := g) (q0 := 0) (ci := 3) (As := [.ref go_29]) (rest := []) St hK hT hA hP hD hS hl.1 [2, 0] [1, 3, 4, 5] rfl rfl rfl (c_g_copyFrom l g go gr gz gn fr go_29 gr_30 gz_31 gn_32 fr_33 (⟨hu35.1, hu35.2⟩) (⟨hu36.1, hu36.2⟩)) (cwV 1 hts (zgL (zl4 k364 k365 k366 k123) k331) rfl rfl rfl (by decide +kernel) ⟨Nat.le_of_ble_eq_true rfl, Nat.le_of_ble_eq_true rfl⟩) rfl rfl rfl rfl (Nat.le_of_ble_eq_true rfl) dX4_recall_57 ⟨(Nat.le_of_ble_eq_true rfl), (Nat.le_of_ble_eq_true rfl)⟩ (fun h_37 H locs hq38 hP hD hS => ?_)
    have hP : va_P g.1 vwCl (List.flatten [bMem g mo qT qL it il ig mh x_3 q_5 fT fL, bTown g o a pe_10 wo_11 tx_12 ch_13 jo_14 tr_15 dy_16 sd_17 h_23, bPT g PT_25, bPLx g PL q_5.toNatClampNeg, bLog g go gr gz_31 gn_32 h_37, bLog g go_29 gr_30 gz_31 gn_32 fr_33]) H := hP
    have hD : va_D A (List.flatten [bMem g mo qT qL it il ig mh x_3 q_5 fT fL, bTown g o a pe_10 wo_11 tx_12 ch_13 jo_14 tr_15 dy_16 sd_17 h_23, bPT g PT_25, bPLx g PL q_5.toNatClampNeg, bLog g go gr gz_31 gn_32 h_37, bLog g go_29 gr_30 gz_31 gn_32 fr_33]) := hD
    refine W.widen (k := 0) (n := 0) (Nat.le_of_ble_eq_true rfl) (Nat.le_of_ble_eq_true rfl) ?_
    refine W.eq (g2 := F0 m 60 ls []) rfl ?_
    have hP : va_P g.1 vwCl (List.flatten [bMem g mo qT qL it il ig mh x_3 q_5 fT fL, bTown g o a pe_10 wo_11 tx_12 ch_13 jo_14 tr_15 dy_16 sd_17 h_23, bPT g PT_25, bPLx g PL q_5.toNatClampNeg, bLog g go gr gz_31 gn_32 h_37, bLog g go_29 gr_30 gz_31 gn_32 fr_33]) H := hP
    have hD : va_D A (List.flatten [bMem g mo qT qL it il ig mh x_3 q_5 fT fL, bTown g o a pe_10 wo_11 tx_12 ch_13 jo_14 tr_15 dy_16 sd_17 h_23, bPT g PT_25, bPLx g PL q_5.toNatClampNeg, bLog g go gr gz_31 gn_32 h_37, bLog g go_29 gr_30 gz_31 gn_32 fr_33]) := hD
    obtain ⟨hP, hD⟩ := zord (g := g) (Bs' := [bMem g mo qT qL it il ig mh x_3 q_5 fT fL, bTown g o a pe_10 wo_11 tx_12 ch_13 jo_14 tr_15 dy_16 sd_17 h_23, bLog g go gr gz_31 gn_32 h_37, bLog g go_29 gr_30 gz_31 gn_32 fr_33, bPT g PT_25, bPLx g PL q_5.toNatClampNeg]) [0, 1, 4, 5, 2, 3] rfl rfl hP hD
    have hP : va_P g.1 vwCl (List.flatten [bMem g mo qT qL it il ig mh x_3 q_5 fT fL, bTown g o a pe_10 wo_11 tx_12 ch_13 jo_14 tr_15 dy_16 sd_17 h_23, bLog g go gr gz_31 gn_32 h_37, bLog g go_29 gr_30 gz_31 gn_32 fr_33, bPT g PT_25, bPLx g PL q_5.toNatClampNeg]) H := hP
    have hD : va_D A (List.flatten [bMem g mo qT qL it il ig mh x_3 q_5 fT fL, bTown g o a pe_10 wo_11 tx_12 ch_13 jo_14 tr_15 dy_16 sd_17 h_23, bLog g go gr gz_31 gn_32 h_37, bLog g go_29 gr_30 gz_31 gn_32 fr_33, bPT g PT_25, bPLx g PL q_5.toNatClampNeg]) := hD
    obtain ⟨hP, hD⟩ := zord (g := g) (Bs' := [bLog g go_29 gr_30 gz_31 gn_32 fr_33, bMem g mo qT qL it il ig mh x_3 q_5 fT fL, bTown g o a pe_10 wo_11 tx_12 ch_13 jo_14 tr_15 dy_16 sd_17 h_23, bLog g go gr gz_31 gn_32 h_37, bPT g PT_25, bPLx g PL q_5.toNatClampNeg]) [3, 0, 1, 2, 4, 5] rfl rfl hP hD
    obtain ⟨PL_39, hp40, hP, hD⟩ := zclL (g := g) (A := A) [bMem g mo qT qL it il ig mh x_3 q_5 fT fL, bTown g o a pe_10 wo_11 tx_12 ch_13 jo_14 tr_15 dy_16 sd_17 h_23, bLog g go gr gz_31 gn_32 h_37, bPT g PT_25] hi28 hPL hu34 ⟨hu35.1, hu35.2⟩ ⟨hu36.1, hu36.2⟩ hP hD
    have hP : va_P g.1 vwCl (List.flatten [bMem g mo qT qL it il ig mh x_3 q_5 fT fL, bTown g o a pe_10 wo_11 tx_12 ch_13 jo_14 tr_15 dy_16 sd_17 h_23, bLog g go gr gz_31 gn_32 h_37, bPT g PT_25, bPL g PL_39]) H := hP
    have hD : va_D A (List.flatten [bMem g mo qT qL it il ig mh x_3 q_5 fT fL, bTown g o a pe_10 wo_11 tx_12 ch_13 jo_14 tr_15 dy_16 sd_17 h_23, bLog g go gr gz_31 gn_32 h_37, bPT g PT_25, bPL g PL_39]) := hD
    refine lv_iconst (v := 1) hx hb dX4_recall_60 (by decide) ?_
    have hP : va_P g.1 vwCl (List.flatten [bMem g mo qT qL it il ig mh x_3 q_5 fT fL, bTown g o a pe_10 wo_11 tx_12 ch_13 jo_14 tr_15 dy_16 sd_17 h_23, bLog g go gr gz_31 gn_32 h_37, bPT g PT_25, bPL g PL_39]) H := hP
    have hD : va_D A (List.flatten [bMem g mo qT qL it il ig mh x_3 q_5 fT fL, bTown g o a pe_10 wo_11 tx_12 ch_13 jo_14 tr_15 dy_16 sd_17 h_23, bLog g go gr gz_31 gn_32 h_37, bPT g PT_25, bPL g PL_39]) := hD
    exact mret_z hx hb hr hlocks hS (Nat.le_of_ble_eq_true rfl) (Nat.le_of_ble_eq_true rfl) dX4_recall_61 (x_3, q_5, pe_10, wo_11, tx_12, ch_13, jo_14, tr_15, dy_16, sd_17, h_23, gz_31, gn_32, h_37, PT_25, PL_39, (1 : Int32)) rfl (by decide) (show (0 ≤ x_3.toInt ∧ x_3.toInt ≤ 12) ∧ (0 ≤ q_5.toInt ∧ q_5.toInt ≤ 11) ∧ (0 ≤ pe_10.toInt ∧ pe_10.toInt ≤ 8) ∧ (0 ≤ wo_11.toInt ∧ wo_11.toInt ≤ 6) ∧ (zZ4 h_23) ∧ (0 ≤ gz_31.toInt ∧ gz_31.toInt ≤ 60) ∧ (0 ≤ gn_32.toInt ∧ gn_32.toInt ≤ 59) ∧ (zPT fT PT_25) ∧ (zPL fL PL_39) ∧ (1 = 1 ∧ ¬ me.toInt = 0 ∧ x_3.toInt = me.toInt - 1 ∧ q_5.toInt = (mx.toInt - 1) % 12 ∧ zR9 (pe_10, wo_11, tx_12, ch_13, jo_14, tr_15, dy_16, sd_17, h_23) (PT q_5.toInt.toNat).2.2 ∧ PT = PT_25 ∨ 1 = 0 ∧ me.toInt = 0 ∧ x_3.toInt = me.toInt ∧ q_5.toInt = mx.toInt ∧ (pe_10, wo_11, tx_12, ch_13, jo_14, tr_15, dy_16, sd_17, h_23) = (pe, wo, tx, ch, jo, tr, dy, sd, f) ∧ PT = PT_25) from ⟨(by first | assumption | omega | decide), (by first | assumption | omega | decide), (by first | assumption | omega | decide), (by first | assumption | omega | decide), (by first | assumption | omega | decide), (by first | assumption | omega | decide), (by first | assumption | omega | decide), (by first | assumption | omega | decide), (by first | assumption | omega | decide), (Or.inl ⟨rfl, (by omega), (by omega), (by omega), (zPg_mk (zcl _) hv22 hq24_1), (zPs_mk hv22 hw27).symm⟩)⟩) hP hD
  · skip
    have c41 : me.toInt = 0 := zeq cb9 rfl (by decide)
    have n42 : me.toInt ≤ 0 := Int.le_trans (Int.le_of_eq c41) (Int.le_refl _)
    refine lv_iconst (v := 0) hx hb dX4_recall_7 (by decide) ?_
    have hP : va_P g.1 vwCl (List.flatten [bMem g mo qT qL it il ig mh me mx fT fL, bTown g o a pe wo tx ch jo tr dy sd f, bLog g go gr gz gn fr, bPT g PT, bPL g PL]) s.heap := hP
    have hD : va_D A (List.flatten [bMem g mo qT qL it il ig mh me mx fT fL, bTown g o a pe wo tx ch jo tr dy sd f, bLog g go gr gz gn fr, bPT g PT, bPL g PL]) := hD
    exact mret_z hx hb hr hlocks hS (Nat.le_of_ble_eq_true rfl) (Nat.le_of_ble_eq_true rfl) dX4_recall_8 (me, mx, pe, wo, tx, ch, jo, tr, dy, sd, f, gz, gn, fr, PT, PL, (0 : Int32)) rfl (by decide) (show (0 ≤ me.toInt ∧ me.toInt ≤ 12) ∧ (0 ≤ mx.toInt ∧ mx.toInt ≤ 11) ∧ (0 ≤ pe.toInt ∧ pe.toInt ≤ 8) ∧ (0 ≤ wo.toInt ∧ wo.toInt ≤ 6) ∧ (zZ4 f) ∧ (0 ≤ gz.toInt ∧ gz.toInt ≤ 60) ∧ (0 ≤ gn.toInt ∧ gn.toInt ≤ 59) ∧ (zPT fT PT) ∧ (zPL fL PL) ∧ (0 = 1 ∧ ¬ me.toInt = 0 ∧ me.toInt = me.toInt - 1 ∧ mx.toInt = (mx.toInt - 1) % 12 ∧ zR9 (pe, wo, tx, ch, jo, tr, dy, sd, f) (PT mx.toInt.toNat).2.2 ∧ PT = PT ∨ 0 = 0 ∧ me.toInt = 0 ∧ me.toInt = me.toInt ∧ mx.toInt = mx.toInt ∧ (pe, wo, tx, ch, jo, tr, dy, sd, f) = (pe, wo, tx, ch, jo, tr, dy, sd, f) ∧ PT = PT) from ⟨(by first | assumption | omega | decide), (by first | assumption | omega | decide), (by first | assumption | omega | decide), (by first | assumption | omega | decide), (by first | assumption | omega | decide), (by first | assumption | omega | decide), (by first | assumption | omega | decide), (by first | assumption | omega | decide), (by first | assumption | omega | decide), (Or.inr ⟨rfl, (by omega), rfl, rfl, rfl, rfl⟩)⟩) hP hD
set_option maxRecDepth 100000 in
set_option maxHeartbeats 4000000 in
theorem c_m_keepImageC (l : Launch) (g : zG) (mo : Nat) (qT : Nat) (qL : Nat) (it : Nat) (il : Nat) (ig : Nat) (mh : Int32) (me : Int32) (mx : Int32) (fT : Nat → Option Nat) (fL : Nat → Option Nat) (o : Nat) (a : Nat → Nat) (pe : Int32) (wo : Int32) (tx : Int32) (ch : Int32) (jo : Int32) (tr : Int32) (dy : Int32) (sd : Int32) (f : Nat → Nat → Int32) (lo : Nat) (lc : Nat) (lz : Int32) (ll : Int32) (lm : Int32) (lg : Int32) (ld : Int32) (fc : Nat → Int32) (go : Nat) (gr : Nat) (gz : Int32) (gn : Int32) (fr : Nat → Int32) (aI : Nat → Nat) (peI : Int32) (woI : Int32) (txI : Int32) (chI : Int32) (joI : Int32) (trI : Int32) (dyI : Int32) (sdI : Int32) (fI : Nat → Nat → Int32) (lcI : Nat) (lzI : Int32) (llI : Int32) (lmI : Int32) (lgI : Int32) (ldI : Int32) (fcI : Nat → Int32) (grI : Nat) (gzI : Int32) (gnI : Int32) (frI : Nat → Int32) (b_pe : 0 ≤ pe.toInt ∧ pe.toInt ≤ 8) (b_wo : 0 ≤ wo.toInt ∧ wo.toInt ≤ 6) (rf : zZ4 f) (b_lz : 0 ≤ lz.toInt ∧ lz.toInt ≤ 400) (b_gz : 0 ≤ gz.toInt ∧ gz.toInt ≤ 60) (b_gn : 0 ≤ gn.toInt ∧ gn.toInt ≤ 59) : zM' g l yX4_keepImage (Cond.code yX4_keepImage cX4_keepImage 4 none :: zB) ({ frames := 2, cells := 0, slots := 0, locals := 61 } : Room) [.ref mo, .ref o, .ref lo, .ref go] [bMem g mo qT qL it il ig mh me mx fT fL, bTown g o a pe wo tx ch jo tr dy sd f, bLaw g lo lc lz ll lm lg ld fc, bLog g go gr gz gn fr, bTown g it aI peI woI txI chI joI trI dyI sdI fI, bLaw g il lcI lzI llI lmI lgI ldI fcI, bLog g ig grI gzI gnI frI] (fun u : Int32 × Int32 × Int32 × Int32 × Int32 × Int32 × Int32 × Int32 × (Nat → Nat → Int32) × Int32 × Int32 × (Nat → Int32) × Int32 × Int32 × (Nat → Int32) => (fun (peI2 : Int32) (woI2 : Int32) (txI2 : Int32) (chI2 : Int32) (joI2 : Int32) (trI2 : Int32) (dyI2 : Int32) (sdI2 : Int32) (fI2 : Nat → Nat → Int32) (lzI2 : Int32) (llI2 : Int32) (fcI2 : Nat → Int32) (gzI2 : Int32) (gnI2 : Int32) (frI2 : Nat → Int32) => none) (u.1) (u.2.1) (u.2.2.1) (u.2.2.2.1) (u.2.2.2.2.1) (u.2.2.2.2.2.1) (u.2.2.2.2.2.2.1) (u.2.2.2.2.2.2.2.1) (u.2.2.2.2.2.2.2.2.1) (u.2.2.2.2.2.2.2.2.2.1) (u.2.2.2.2.2.2.2.2.2.2.1) (u.2.2.2.2.2.2.2.2.2.2.2.1) (u.2.2.2.2.2.2.2.2.2.2.2.2.1) (u.2.2.2.2.2.2.2.2.2.2.2.2.2.1) (u.2.2.2.2.2.2.2.2.2.2.2.2.2.2)) (fun u : Int32 × Int32 × Int32 × Int32 × Int32 × Int32 × Int32 × Int32 × (Nat → Nat → Int32) × Int32 × Int32 × (Nat → Int32) × Int32 × Int32 × (Nat → Int32) => (fun (peI2 : Int32) (woI2 : Int32) (txI2 : Int32) (chI2 : Int32) (joI2 : Int32) (trI2 : Int32) (dyI2 : Int32) (sdI2 : Int32) (fI2 : Nat → Nat → Int32) (lzI2 : Int32) (llI2 : Int32) (fcI2 : Nat → Int32) (gzI2 : Int32) (gnI2 : Int32) (frI2 : Nat → Int32) => (0 ≤ peI2.toInt ∧ peI2.toInt ≤ 8) ∧ (0 ≤ woI2.toInt ∧ woI2.toInt ≤ 6) ∧ (zZ4 fI2) ∧ (0 ≤ lzI2.toInt ∧ lzI2.toInt ≤ 400) ∧ (0 ≤ gzI2.toInt ∧ gzI2.toInt ≤ 60) ∧ (0 ≤ gnI2.toInt ∧ gnI2.toInt ≤ 59) ∧ (zR9 (peI2, woI2, txI2, chI2, joI2, trI2, dyI2, sdI2, fI2) (pe, wo, tx, ch, jo, tr, dy, sd, f) ∧ zCe fcI2 fc ∧ lzI2 = lz ∧ llI2 = ll)) (u.1) (u.2.1) (u.2.2.1) (u.2.2.2.1) (u.2.2.2.2.1) (u.2.2.2.2.2.1) (u.2.2.2.2.2.2.1) (u.2.2.2.2.2.2.2.1) (u.2.2.2.2.2.2.2.2.1) (u.2.2.2.2.2.2.2.2.2.1) (u.2.2.2.2.2.2.2.2.2.2.1) (u.2.2.2.2.2.2.2.2.2.2.2.1) (u.2.2.2.2.2.2.2.2.2.2.2.2.1) (u.2.2.2.2.2.2.2.2.2.2.2.2.2.1) (u.2.2.2.2.2.2.2.2.2.2.2.2.2.2)) (fun u : Int32 × Int32 × Int32 × Int32 × Int32 × Int32 × Int32 × Int32 × (Nat → Nat → Int32) × Int32 × Int32 × (Nat → Int32) × Int32 × Int32 × (Nat → Int32) => (fun (peI2 : Int32) (woI2 : Int32) (txI2 : Int32) (chI2 : Int32) (joI2 : Int32) (trI2 : Int32) (dyI2 : Int32) (sdI2 : Int32) (fI2 : Nat → Nat → Int32) (lzI2 : Int32) (llI2 : Int32) (fcI2 : Nat → Int32) (gzI2 : Int32) (gnI2 : Int32) (frI2 : Nat → Int32) => [bMem g mo qT qL it il ig 1 me mx fT fL, bTown g o a pe wo tx ch jo tr dy sd f, bLaw g lo lc lz ll lm lg ld fc, bLog g go gr gz gn fr, bTown g it aI peI2 woI2 txI2 chI2 joI2 trI2 dyI2 sdI2 fI2, bLaw g il lcI lzI2 llI2 lmI lgI ldI fcI2, bLog g ig grI gzI2 gnI2 frI2]) (u.1) (u.2.1) (u.2.2.1) (u.2.2.2.1) (u.2.2.2.2.1) (u.2.2.2.2.2.1) (u.2.2.2.2.2.2.1) (u.2.2.2.2.2.2.2.1) (u.2.2.2.2.2.2.2.2.1) (u.2.2.2.2.2.2.2.2.2.1) (u.2.2.2.2.2.2.2.2.2.2.1) (u.2.2.2.2.2.2.2.2.2.2.2.1) (u.2.2.2.2.2.2.2.2.2.2.2.2.1) (u.2.2.2.2.2.2.2.2.2.2.2.2.2.1) (u.2.2.2.2.2.2.2.2.2.2.2.2.2.2)) := by
  refine zM'.of (cc := cX4_keepImage) (maxL := 4) (rt := none) (by decide) rfl (Nat.le_of_ble_eq_true rfl) ?_
  intro p e s m args below meth c A ls St hr hlocks hin hK hT hA hP hD hS hl
  obtain ⟨hx, hb, hml, hown, hts⟩ := id St
  have hl : lv_has ls 4 [(0, .ref mo), (1, .ref o), (2, .ref lo), (3, .ref go)] := hl
  refine lv_aload_n hx hb dX4_keepImage_0 rfl (lv_at hl 0 rfl) ?_
  refine va_get (D := g.1) (ci := 4) (v := .ref it) (C := RX4) (T := TX4) (N := 8) hx hb hts izRX4 hown hK hP 0 rfl rfl 2 (by decide) (hts _ k352) (fun _ h9 => h9) rfl dX4_keepImage_1 ?_
  refine lv_aload_n hx hb dX4_keepImage_4 rfl (lv_at hl 1 rfl) ?_
  refine mcallV' (g := g) (q0 := 0) (ci := 7) (As := [.ref o]) (rest := []) St hK hT hA hP hD hS hl.1 [4, 1] [0, 2, 3, 5, 6] rfl rfl rfl (c_copyFromC l g it aI peI woI txI chI joI trI dyI sdI fI o a pe wo tx ch jo tr dy sd f b_pe b_wo rf) (cwV 1 hts (zgL (zl4 k363 k157 k158 k24) k30) rfl rfl rfl (by decide +kernel) ⟨Nat.le_of_ble_eq_true rfl, Nat.le_of_ble_eq_true rfl⟩) rfl rfl rfl rfl (Nat.le_of_ble_eq_true rfl) dX4_keepImage_5 ⟨(Nat.le_of_ble_eq_true rfl), (Nat.le_of_ble_eq_true rfl)⟩ (fun h_1 H locs hq2 hP hD hS => ?_)
  replace hq2 : (zZ4 h_1) ∧ (zEq h_1 f) := hq2
  have hP : va_P g.1 vwCl (List.flatten [bMem g mo qT qL it il ig mh me mx fT fL, bLaw g lo lc lz ll lm lg ld fc, bLog g go gr gz gn fr, bLaw g il lcI lzI llI lmI lgI ldI fcI, bLog g ig grI gzI gnI frI, bTown g it aI pe wo tx ch jo tr dy sd h_1, bTown g o a pe wo tx ch jo tr dy sd f]) H := hP
  have hD : va_D A (List.flatten [bMem g mo qT qL it il ig mh me mx fT fL, bLaw g lo lc lz ll lm lg ld fc, bLog g go gr gz gn fr, bLaw g il lcI lzI llI lmI lgI ldI fcI, bLog g ig grI gzI gnI frI, bTown g it aI pe wo tx ch jo tr dy sd h_1, bTown g o a pe wo tx ch jo tr dy sd f]) := hD
  refine W.widen (k := 0) (n := 0) (Nat.le_of_ble_eq_true rfl) (Nat.le_of_ble_eq_true rfl) ?_
  refine W.eq (g2 := F0 m 8 ls []) rfl ?_
  obtain ⟨rh_1, hq2_1⟩ := hq2
  refine lv_aload_n hx hb dX4_keepImage_8 rfl (lv_at hl 0 rfl) ?_
  refine va_get (D := g.1) (ci := 4) (v := .ref il) (C := RX4) (T := TX4) (N := 8) hx hb hts izRX4 hown hK hP 0 rfl rfl 3 (by decide) (hts _ k354) (fun _ h9 => h9) rfl dX4_keepImage_9 ?_
  refine lv_aload_n hx hb dX4_keepImage_12 rfl (lv_at hl 2 rfl) ?_
  refine mcallV' (g := g) (q0 := 0) (ci := 1) (As := [.ref lo]) (rest := []) St hK hT hA hP hD hS hl.1 [3, 1] [0, 2, 4, 5, 6] rfl rfl rfl (c_l_copyFromC l g il lcI lzI llI lmI lgI ldI fcI lo lc lz ll lm lg ld fc b_lz) (cwV 1 hts (zgL (zl4 k371 k372 k373 k85) k200) rfl rfl rfl (by decide +kernel) ⟨Nat.le_of_ble_eq_true rfl, Nat.le_of_ble_eq_true rfl⟩) rfl rfl rfl rfl (Nat.le_of_ble_eq_true rfl) dX4_keepImage_13 ⟨(Nat.le_of_ble_eq_true rfl), (Nat.le_of_ble_eq_true rfl)⟩ (fun h_3 H locs hq4 hP hD hS => ?_)
  replace hq4 : (zCe h_3 fc) := hq4
  have hP : va_P g.1 vwCl (List.flatten [bMem g mo qT qL it il ig mh me mx fT fL, bLog g go gr gz gn fr, bLog g ig grI gzI gnI frI, bTown g it aI pe wo tx ch jo tr dy sd h_1, bTown g o a pe wo tx ch jo tr dy sd f, bLaw g il lcI lz ll lmI lgI ldI h_3, bLaw g lo lc lz ll lm lg ld fc]) H := hP
  have hD : va_D A (List.flatten [bMem g mo qT qL it il ig mh me mx fT fL, bLog g go gr gz gn fr, bLog g ig grI gzI gnI frI, bTown g it aI pe wo tx ch jo tr dy sd h_1, bTown g o a pe wo tx ch jo tr dy sd f, bLaw g il lcI lz ll lmI lgI ldI h_3, bLaw g lo lc lz ll lm lg ld fc]) := hD
  refine W.widen (k := 0) (n := 0) (Nat.le_of_ble_eq_true rfl) (Nat.le_of_ble_eq_true rfl) ?_
  refine W.eq (g2 := F0 m 16 ls []) rfl ?_
  refine lv_aload_n hx hb dX4_keepImage_16 rfl (lv_at hl 0 rfl) ?_
  refine va_get (D := g.1) (ci := 4) (v := .ref ig) (C := RX4) (T := TX4) (N := 8) hx hb hts izRX4 hown hK hP 0 rfl rfl 4 (by decide) (hts _ k356) (fun _ h9 => h9) rfl dX4_keepImage_17 ?_
  refine lv_aload_n hx hb dX4_keepImage_20 rfl (lv_at hl 3 rfl) ?_
  refine mcallV' (g := g) (q0 := 0) (ci := 3) (As := [.ref go]) (rest := []) St hK hT hA hP hD hS hl.1 [2, 1] [0, 3, 4, 5, 6] rfl rfl rfl (c_g_copyFrom l g ig grI gzI gnI frI go gr gz gn fr b_gz b_gn) (cwV 1 hts (zgL (zl4 k364 k365 k366 k123) k331) rfl rfl rfl (by decide +kernel) ⟨Nat.le_of_ble_eq_true rfl, Nat.le_of_ble_eq_true rfl⟩) rfl rfl rfl rfl (Nat.le_of_ble_eq_true rfl) dX4_keepImage_21 ⟨(Nat.le_of_ble_eq_true rfl), (Nat.le_of_ble_eq_true rfl)⟩ (fun h_5 H locs hq6 hP hD hS => ?_)
  have hP : va_P g.1 vwCl (List.flatten [bMem g mo qT qL it il ig mh me mx fT fL, bTown g it aI pe wo tx ch jo tr dy sd h_1, bTown g o a pe wo tx ch jo tr dy sd f, bLaw g il lcI lz ll lmI lgI ldI h_3, bLaw g lo lc lz ll lm lg ld fc, bLog g ig grI gz gn h_5, bLog g go gr gz gn fr]) H := hP
  have hD : va_D A (List.flatten [bMem g mo qT qL it il ig mh me mx fT fL, bTown g it aI pe wo tx ch jo tr dy sd h_1, bTown g o a pe wo tx ch jo tr dy sd f, bLaw g il lcI lz ll lmI lgI ldI h_3, bLaw g lo lc lz ll lm lg ld fc, bLog g ig grI gz gn h_5, bLog g go gr gz gn fr]) := hD
  refine W.widen (k := 0) (n := 0) (Nat.le_of_ble_eq_true rfl) (Nat.le_of_ble_eq_true rfl) ?_
  refine W.eq (g2 := F0 m 24 ls []) rfl ?_
  refine lv_aload_n hx hb dX4_keepImage_24 rfl (lv_at hl 0 rfl) ?_
  refine lv_iconst (v := 1) hx hb dX4_keepImage_25 (by decide) ?_
  refine va_put (D := g.1) (ci := 4) (v := .int 1) (ty := .boolean) (C := RX4) (T := TX4) (N := 8) hx hb hts izRX4 tyX4 tyX4_ok nmX4 hown hK hP hD hS 0 rfl rfl 5 (by decide) (hts _ k370) (fun _ h9 => h9) rfl (by decide +kernel) rfl rfl (Nat.le_of_ble_eq_true rfl) dX4_keepImage_26 (fun H locs hP hD hS => ?_)
  have hP : va_P g.1 vwCl (List.flatten [bMem g mo qT qL it il ig 1 me mx fT fL, bTown g it aI pe wo tx ch jo tr dy sd h_1, bTown g o a pe wo tx ch jo tr dy sd f, bLaw g il lcI lz ll lmI lgI ldI h_3, bLaw g lo lc lz ll lm lg ld fc, bLog g ig grI gz gn h_5, bLog g go gr gz gn fr]) H := hP
  have hD : va_D A (List.flatten [bMem g mo qT qL it il ig 1 me mx fT fL, bTown g it aI pe wo tx ch jo tr dy sd h_1, bTown g o a pe wo tx ch jo tr dy sd f, bLaw g il lcI lz ll lmI lgI ldI h_3, bLaw g lo lc lz ll lm lg ld fc, bLog g ig grI gz gn h_5, bLog g go gr gz gn fr]) := hD
  have hP : va_P g.1 vwCl (List.flatten [bMem g mo qT qL it il ig 1 me mx fT fL, bTown g it aI pe wo tx ch jo tr dy sd h_1, bTown g o a pe wo tx ch jo tr dy sd f, bLaw g il lcI lz ll lmI lgI ldI h_3, bLaw g lo lc lz ll lm lg ld fc, bLog g ig grI gz gn h_5, bLog g go gr gz gn fr]) H := hP
  have hD : va_D A (List.flatten [bMem g mo qT qL it il ig 1 me mx fT fL, bTown g it aI pe wo tx ch jo tr dy sd h_1, bTown g o a pe wo tx ch jo tr dy sd f, bLaw g il lcI lz ll lmI lgI ldI h_3, bLaw g lo lc lz ll lm lg ld fc, bLog g ig grI gz gn h_5, bLog g go gr gz gn fr]) := hD
  obtain ⟨hP, hD⟩ := zord (g := g) (Bs' := [bMem g mo qT qL it il ig 1 me mx fT fL, bTown g o a pe wo tx ch jo tr dy sd f, bLaw g lo lc lz ll lm lg ld fc, bLog g go gr gz gn fr, bTown g it aI pe wo tx ch jo tr dy sd h_1, bLaw g il lcI lz ll lmI lgI ldI h_3, bLog g ig grI gz gn h_5]) [0, 2, 4, 6, 1, 3, 5] rfl rfl hP hD
  exact mret_v hx hb hr hlocks hS (Nat.le_of_ble_eq_true rfl) (Nat.le_of_ble_eq_true rfl) dX4_keepImage_29 (pe, wo, tx, ch, jo, tr, dy, sd, h_1, lz, ll, h_3, gz, gn, h_5) rfl (show (0 ≤ pe.toInt ∧ pe.toInt ≤ 8) ∧ (0 ≤ wo.toInt ∧ wo.toInt ≤ 6) ∧ (zZ4 h_1) ∧ (0 ≤ lz.toInt ∧ lz.toInt ≤ 400) ∧ (0 ≤ gz.toInt ∧ gz.toInt ≤ 60) ∧ (0 ≤ gn.toInt ∧ gn.toInt ≤ 59) ∧ (zR9 (pe, wo, tx, ch, jo, tr, dy, sd, h_1) (pe, wo, tx, ch, jo, tr, dy, sd, f) ∧ zCe h_3 fc ∧ lz = lz ∧ ll = ll) from ⟨(by first | assumption | omega | decide), (by first | assumption | omega | decide), (by first | assumption | omega | decide), (by first | assumption | omega | decide), (by first | assumption | omega | decide), (by first | assumption | omega | decide), ⟨zR9_f hq2_1, hq4, rfl, rfl⟩⟩) hP hD
set_option maxRecDepth 100000 in
set_option maxHeartbeats 4000000 in
theorem c_m_giveBackImageC (l : Launch) (g : zG) (mo : Nat) (qT : Nat) (qL : Nat) (it : Nat) (il : Nat) (ig : Nat) (mh : Int32) (me : Int32) (mx : Int32) (fT : Nat → Option Nat) (fL : Nat → Option Nat) (o : Nat) (a : Nat → Nat) (pe : Int32) (wo : Int32) (tx : Int32) (ch : Int32) (jo : Int32) (tr : Int32) (dy : Int32) (sd : Int32) (f : Nat → Nat → Int32) (lo : Nat) (lc : Nat) (lz : Int32) (ll : Int32) (lm : Int32) (lg : Int32) (ld : Int32) (fc : Nat → Int32) (go : Nat) (gr : Nat) (gz : Int32) (gn : Int32) (fr : Nat → Int32) (aI : Nat → Nat) (peI : Int32) (woI : Int32) (txI : Int32) (chI : Int32) (joI : Int32) (trI : Int32) (dyI : Int32) (sdI : Int32) (fI : Nat → Nat → Int32) (lcI : Nat) (lzI : Int32) (llI : Int32) (lmI : Int32) (lgI : Int32) (ldI : Int32) (fcI : Nat → Int32) (grI : Nat) (gzI : Int32) (gnI : Int32) (frI : Nat → Int32) (b_me : 0 ≤ me.toInt ∧ me.toInt ≤ 12) (b_mx : 0 ≤ mx.toInt ∧ mx.toInt ≤ 11) (b_pe : 0 ≤ pe.toInt ∧ pe.toInt ≤ 8) (b_wo : 0 ≤ wo.toInt ∧ wo.toInt ≤ 6) (rf : zZ4 f) (b_lz : 0 ≤ lz.toInt ∧ lz.toInt ≤ 400) (b_gz : 0 ≤ gz.toInt ∧ gz.toInt ≤ 60) (b_gn : 0 ≤ gn.toInt ∧ gn.toInt ≤ 59) (b_peI : 0 ≤ peI.toInt ∧ peI.toInt ≤ 8) (b_woI : 0 ≤ woI.toInt ∧ woI.toInt ≤ 6) (rfI : zZ4 fI) (b_lzI : 0 ≤ lzI.toInt ∧ lzI.toInt ≤ 400) (b_gzI : 0 ≤ gzI.toInt ∧ gzI.toInt ≤ 60) (b_gnI : 0 ≤ gnI.toInt ∧ gnI.toInt ≤ 59) : zM' g l yX4_giveBackImage (Cond.code yX4_giveBackImage cX4_giveBackImage 4 (some .boolean) :: zB) ({ frames := 2, cells := 0, slots := 0, locals := 61 } : Room) [.ref mo, .ref o, .ref lo, .ref go] [bMem g mo qT qL it il ig mh me mx fT fL, bTown g o a pe wo tx ch jo tr dy sd f, bLaw g lo lc lz ll lm lg ld fc, bLog g go gr gz gn fr, bTown g it aI peI woI txI chI joI trI dyI sdI fI, bLaw g il lcI lzI llI lmI lgI ldI fcI, bLog g ig grI gzI gnI frI] (fun u : Int32 × Int32 × Int32 × Int32 × Int32 × Int32 × Int32 × Int32 × Int32 × (Nat → Nat → Int32) × Int32 × Int32 × (Nat → Int32) × Int32 × Int32 × (Nat → Int32) × Int32 => (fun (me2 : Int32) (pe2 : Int32) (wo2 : Int32) (tx2 : Int32) (ch2 : Int32) (jo2 : Int32) (tr2 : Int32) (dy2 : Int32) (sd2 : Int32) (f2 : Nat → Nat → Int32) (lz2 : Int32) (ll2 : Int32) (fc2 : Nat → Int32) (gz2 : Int32) (gn2 : Int32) (fr2 : Nat → Int32) (q : Int32) => some (.int q)) (u.1) (u.2.1) (u.2.2.1) (u.2.2.2.1) (u.2.2.2.2.1) (u.2.2.2.2.2.1) (u.2.2.2.2.2.2.1) (u.2.2.2.2.2.2.2.1) (u.2.2.2.2.2.2.2.2.1) (u.2.2.2.2.2.2.2.2.2.1) (u.2.2.2.2.2.2.2.2.2.2.1) (u.2.2.2.2.2.2.2.2.2.2.2.1) (u.2.2.2.2.2.2.2.2.2.2.2.2.1) (u.2.2.2.2.2.2.2.2.2.2.2.2.2.1) (u.2.2.2.2.2.2.2.2.2.2.2.2.2.2.1) (u.2.2.2.2.2.2.2.2.2.2.2.2.2.2.2.1) (u.2.2.2.2.2.2.2.2.2.2.2.2.2.2.2.2)) (fun u : Int32 × Int32 × Int32 × Int32 × Int32 × Int32 × Int32 × Int32 × Int32 × (Nat → Nat → Int32) × Int32 × Int32 × (Nat → Int32) × Int32 × Int32 × (Nat → Int32) × Int32 => (fun (me2 : Int32) (pe2 : Int32) (wo2 : Int32) (tx2 : Int32) (ch2 : Int32) (jo2 : Int32) (tr2 : Int32) (dy2 : Int32) (sd2 : Int32) (f2 : Nat → Nat → Int32) (lz2 : Int32) (ll2 : Int32) (fc2 : Nat → Int32) (gz2 : Int32) (gn2 : Int32) (fr2 : Nat → Int32) (q : Int32) => (0 ≤ me2.toInt ∧ me2.toInt ≤ 12) ∧ (0 ≤ pe2.toInt ∧ pe2.toInt ≤ 8) ∧ (0 ≤ wo2.toInt ∧ wo2.toInt ≤ 6) ∧ (zZ4 f2) ∧ (0 ≤ lz2.toInt ∧ lz2.toInt ≤ 400) ∧ (0 ≤ gz2.toInt ∧ gz2.toInt ≤ 60) ∧ (0 ≤ gn2.toInt ∧ gn2.toInt ≤ 59) ∧ (q = 1 ∧ ¬ mh.toInt = 0 ∧ me2.toInt = 0 ∧ zR9 (pe2, wo2, tx2, ch2, jo2, tr2, dy2, sd2, f2) (peI, woI, txI, chI, joI, trI, dyI, sdI, fI) ∧ (lz2 = lzI ∧ ll2 = llI ∧ zCe fc2 fcI) ∨ q = 0 ∧ mh.toInt = 0 ∧ me2.toInt = me.toInt ∧ (pe2, wo2, tx2, ch2, jo2, tr2, dy2, sd2, f2) = (pe, wo, tx, ch, jo, tr, dy, sd, f) ∧ (lz2 = lz ∧ ll2 = ll ∧ fc2 = fc))) (u.1) (u.2.1) (u.2.2.1) (u.2.2.2.1) (u.2.2.2.2.1) (u.2.2.2.2.2.1) (u.2.2.2.2.2.2.1) (u.2.2.2.2.2.2.2.1) (u.2.2.2.2.2.2.2.2.1) (u.2.2.2.2.2.2.2.2.2.1) (u.2.2.2.2.2.2.2.2.2.2.1) (u.2.2.2.2.2.2.2.2.2.2.2.1) (u.2.2.2.2.2.2.2.2.2.2.2.2.1) (u.2.2.2.2.2.2.2.2.2.2.2.2.2.1) (u.2.2.2.2.2.2.2.2.2.2.2.2.2.2.1) (u.2.2.2.2.2.2.2.2.2.2.2.2.2.2.2.1) (u.2.2.2.2.2.2.2.2.2.2.2.2.2.2.2.2)) (fun u : Int32 × Int32 × Int32 × Int32 × Int32 × Int32 × Int32 × Int32 × Int32 × (Nat → Nat → Int32) × Int32 × Int32 × (Nat → Int32) × Int32 × Int32 × (Nat → Int32) × Int32 => (fun (me2 : Int32) (pe2 : Int32) (wo2 : Int32) (tx2 : Int32) (ch2 : Int32) (jo2 : Int32) (tr2 : Int32) (dy2 : Int32) (sd2 : Int32) (f2 : Nat → Nat → Int32) (lz2 : Int32) (ll2 : Int32) (fc2 : Nat → Int32) (gz2 : Int32) (gn2 : Int32) (fr2 : Nat → Int32) (q : Int32) => [bMem g mo qT qL it il ig mh me2 mx fT fL, bTown g o a pe2 wo2 tx2 ch2 jo2 tr2 dy2 sd2 f2, bLaw g lo lc lz2 ll2 lm lg ld fc2, bLog g go gr gz2 gn2 fr2, bTown g it aI peI woI txI chI joI trI dyI sdI fI, bLaw g il lcI lzI llI lmI lgI ldI fcI, bLog g ig grI gzI gnI frI]) (u.1) (u.2.1) (u.2.2.1) (u.2.2.2.1) (u.2.2.2.2.1) (u.2.2.2.2.2.1) (u.2.2.2.2.2.2.1) (u.2.2.2.2.2.2.2.1) (u.2.2.2.2.2.2.2.2.1) (u.2.2.2.2.2.2.2.2.2.1) (u.2.2.2.2.2.2.2.2.2.2.1) (u.2.2.2.2.2.2.2.2.2.2.2.1) (u.2.2.2.2.2.2.2.2.2.2.2.2.1) (u.2.2.2.2.2.2.2.2.2.2.2.2.2.1) (u.2.2.2.2.2.2.2.2.2.2.2.2.2.2.1) (u.2.2.2.2.2.2.2.2.2.2.2.2.2.2.2.1) (u.2.2.2.2.2.2.2.2.2.2.2.2.2.2.2.2)) := by
  refine zM'.of (cc := cX4_giveBackImage) (maxL := 4) (rt := (some .boolean)) (by decide) rfl (Nat.le_of_ble_eq_true rfl) ?_
  intro p e s m args below meth c A ls St hr hlocks hin hK hT hA hP hD hS hl
  obtain ⟨hx, hb, hml, hown, hts⟩ := id St
  have hl : lv_has ls 4 [(0, .ref mo), (1, .ref o), (2, .ref lo), (3, .ref go)] := hl
  refine lv_aload_n hx hb dX4_giveBackImage_0 rfl (lv_at hl 0 rfl) ?_
  refine va_get (D := g.1) (ci := 4) (v := .int mh) (C := RX4) (T := TX4) (N := 8) hx hb hts izRX4 hown hK hP 0 rfl rfl 5 (by decide) (hts _ k370) (fun _ h9 => h9) rfl dX4_giveBackImage_1 ?_
  refine lv_if_ne (tgt := 9) hx hb dX4_giveBackImage_4 (by decide) (fun cb9 => ?_) (fun cb9 => ?_)
  · skip
    have c1 : ¬ mh.toInt = 0 := zne cb9 rfl (by decide)
    refine lv_aload_n hx hb dX4_giveBackImage_9 rfl (lv_at hl 1 rfl) ?_
    refine lv_aload_n hx hb dX4_giveBackImage_10 rfl (lv_at hl 0 rfl) ?_
    refine va_get (D := g.1) (ci := 4) (v := .ref it) (C := RX4) (T := TX4) (N := 8) hx hb hts izRX4 hown hK hP 0 rfl rfl 2 (by decide) (hts _ k352) (fun _ h9 => h9) rfl dX4_giveBackImage_11 ?_
    refine mcallV' (g := g) (q0 := 0) (ci := 7) (As := [.ref it]) (rest := []) St hK hT hA hP hD hS hl.1 [1, 4] [0, 2, 3, 5, 6] rfl rfl rfl (c_copyFromC l g o a pe wo tx ch jo tr dy sd f it aI peI woI txI chI joI trI dyI sdI fI b_peI b_woI rfI) (cwV 1 hts (zgL (zl4 k363 k157 k158 k24) k30) rfl rfl rfl (by decide +kernel) ⟨Nat.le_of_ble_eq_true rfl, Nat.le_of_ble_eq_true rfl⟩) rfl rfl rfl rfl (Nat.le_of_ble_eq_true rfl) dX4_giveBackImage_14 ⟨(Nat.le_of_ble_eq_true rfl), (Nat.le_of_ble_eq_true rfl)⟩ (fun h_2 H locs hq3 hP hD hS => ?_)
    replace hq3 : (zZ4 h_2) ∧ (zEq h_2 fI) := hq3
    have hP : va_P g.1 vwCl (List.flatten [bMem g mo qT qL it il ig mh me mx fT fL, bLaw g lo lc lz ll lm lg ld fc, bLog g go gr gz gn fr, bLaw g il lcI lzI llI lmI lgI ldI fcI, bLog g ig grI gzI gnI frI, bTown g o a peI woI txI chI joI trI dyI sdI h_2, bTown g it aI peI woI txI chI joI trI dyI sdI fI]) H := hP
    have hD : va_D A (List.flatten [bMem g mo qT qL it il ig mh me mx fT fL, bLaw g lo lc lz ll lm lg ld fc, bLog g go gr gz gn fr, bLaw g il lcI lzI llI lmI lgI ldI fcI, bLog g ig grI gzI gnI frI, bTown g o a peI woI txI chI joI trI dyI sdI h_2, bTown g it aI peI woI txI chI joI trI dyI sdI fI]) := hD
    refine W.widen (k := 0) (n := 0) (Nat.le_of_ble_eq_true rfl) (Nat.le_of_ble_eq_true rfl) ?_
    refine W.eq (g2 := F0 m 17 ls []) rfl ?_
    obtain ⟨rh_2, hq3_1⟩ := hq3
    refine lv_aload_n hx hb dX4_giveBackImage_17 rfl (lv_at hl 2 rfl) ?_
    refine lv_aload_n hx hb dX4_giveBackImage_18 rfl (lv_at hl 0 rfl) ?_
    refine va_get (D := g.1) (ci := 4) (v := .ref il) (C := RX4) (T := TX4) (N := 8) hx hb hts izRX4 hown hK hP 0 rfl rfl 3 (by decide) (hts _ k354) (fun _ h9 => h9) rfl dX4_giveBackImage_19 ?_
    refine mcallV' (g := g) (q0 := 0) (ci := 1) (As := [.ref il]) (rest := []) St hK hT hA hP hD hS hl.1 [1, 3] [0, 2, 4, 5, 6] rfl rfl rfl (c_l_copyFromC l g lo lc lz ll lm lg ld fc il lcI lzI llI lmI lgI ldI fcI b_lzI) (cwV 1 hts (zgL (zl4 k371 k372 k373 k85) k200) rfl rfl rfl (by decide +kernel) ⟨Nat.le_of_ble_eq_true rfl, Nat.le_of_ble_eq_true rfl⟩) rfl rfl rfl rfl (Nat.le_of_ble_eq_true rfl) dX4_giveBackImage_22 ⟨(Nat.le_of_ble_eq_true rfl), (Nat.le_of_ble_eq_true rfl)⟩ (fun h_4 H locs hq5 hP hD hS => ?_)
    replace hq5 : (zCe h_4 fcI) := hq5
    have hP : va_P g.1 vwCl (List.flatten [bMem g mo qT qL it il ig mh me mx fT fL, bLog g go gr gz gn fr, bLog g ig grI gzI gnI frI, bTown g o a peI woI txI chI joI trI dyI sdI h_2, bTown g it aI peI woI txI chI joI trI dyI sdI fI, bLaw g lo lc lzI llI lm lg ld h_4, bLaw g il lcI lzI llI lmI lgI ldI fcI]) H := hP
    have hD : va_D A (List.flatten [bMem g mo qT qL it il ig mh me mx fT fL, bLog g go gr gz gn fr, bLog g ig grI gzI gnI frI, bTown g o a peI woI txI chI joI trI dyI sdI h_2, bTown g it aI peI woI txI chI joI trI dyI sdI fI, bLaw g lo lc lzI llI lm lg ld h_4, bLaw g il lcI lzI llI lmI lgI ldI fcI]) := hD
    refine W.widen (k := 0) (n := 0) (Nat.le_of_ble_eq_true rfl) (Nat.le_of_ble_eq_true rfl) ?_
    refine W.eq (g2 := F0 m 25 ls []) rfl ?_
    refine lv_aload_n hx hb dX4_giveBackImage_25 rfl (lv_at hl 3 rfl) ?_
    refine lv_aload_n hx hb dX4_giveBackImage_26 rfl (lv_at hl 0 rfl) ?_
    refine va_get (D := g.1) (ci := 4) (v := .ref ig) (C := RX4) (T := TX4) (N := 8) hx hb hts izRX4 hown hK hP 0 rfl rfl 4 (by decide) (hts _ k356) (fun _ h9 => h9) rfl dX4_giveBackImage_27 ?_
    refine mcallV' (g := g) (q0 := 0) (ci := 3) (As := [.ref ig]) (rest := []) St hK hT hA hP hD hS hl.1 [1, 2] [0, 3, 4, 5, 6] rfl rfl rfl (c_g_copyFrom l g go gr gz gn fr ig grI gzI gnI frI b_gzI b_gnI) (cwV 1 hts (zgL (zl4 k364 k365 k366 k123) k331) rfl rfl rfl (by decide +kernel) ⟨Nat.le_of_ble_eq_true rfl, Nat.le_of_ble_eq_true rfl⟩) rfl rfl rfl rfl (Nat.le_of_ble_eq_true rfl) dX4_giveBackImage_30 ⟨(Nat.le_of_ble_eq_true rfl), (Nat.le_of_ble_eq_true rfl)⟩ (fun h_6 H locs hq7 hP hD hS => ?_)
    have hP : va_P g.1 vwCl (List.flatten [bMem g mo qT qL it il ig mh me mx fT fL, bTown g o a peI woI txI chI joI trI dyI sdI h_2, bTown g it aI peI woI txI chI joI trI dyI sdI fI, bLaw g lo lc lzI llI lm lg ld h_4, bLaw g il lcI lzI llI lmI lgI ldI fcI, bLog g go gr gzI gnI h_6, bLog g ig grI gzI gnI frI]) H := hP
    have hD : va_D A (List.flatten [bMem g mo qT qL it il ig mh me mx fT fL, bTown g o a peI woI txI chI joI trI dyI sdI h_2, bTown g it aI peI woI txI chI joI trI dyI sdI fI, bLaw g lo lc lzI llI lm lg ld h_4, bLaw g il lcI lzI llI lmI lgI ldI fcI, bLog g go gr gzI gnI h_6, bLog g ig grI gzI gnI frI]) := hD
    refine W.widen (k := 0) (n := 0) (Nat.le_of_ble_eq_true rfl) (Nat.le_of_ble_eq_true rfl) ?_
    refine W.eq (g2 := F0 m 33 ls []) rfl ?_
    refine lv_aload_n hx hb dX4_giveBackImage_33 rfl (lv_at hl 0 rfl) ?_
    refine mcallV' (g := g) (q0 := 0) (ci := 4) (As := []) (rest := []) St hK hT hA hP hD hS hl.1 [0] [1, 2, 3, 4, 5, 6] rfl rfl rfl (c_m_forget l g mo qT qL it il ig mh me mx fT fL ) (cwV 0 hts (zgL (zl4 k375 k376 k377 k378) k359) rfl rfl rfl (by decide +kernel) ⟨Nat.le_of_ble_eq_true rfl, Nat.le_of_ble_eq_true rfl⟩) rfl rfl rfl rfl (Nat.le_of_ble_eq_true rfl) dX4_giveBackImage_34 ⟨(Nat.le_of_ble_eq_true rfl), (Nat.le_of_ble_eq_true rfl)⟩ (fun _u H locs hq8 hP hD hS => ?_)
    have hP : va_P g.1 vwCl (List.flatten [bTown g o a peI woI txI chI joI trI dyI sdI h_2, bTown g it aI peI woI txI chI joI trI dyI sdI fI, bLaw g lo lc lzI llI lm lg ld h_4, bLaw g il lcI lzI llI lmI lgI ldI fcI, bLog g go gr gzI gnI h_6, bLog g ig grI gzI gnI frI, bMem g mo qT qL it il ig mh 0 mx fT fL]) H := hP
    have hD : va_D A (List.flatten [bTown g o a peI woI txI chI joI trI dyI sdI h_2, bTown g it aI peI woI txI chI joI trI dyI sdI fI, bLaw g lo lc lzI llI lm lg ld h_4, bLaw g il lcI lzI llI lmI lgI ldI fcI, bLog g go gr gzI gnI h_6, bLog g ig grI gzI gnI frI, bMem g mo qT qL it il ig mh 0 mx fT fL]) := hD
    refine W.widen (k := 0) (n := 0) (Nat.le_of_ble_eq_true rfl) (Nat.le_of_ble_eq_true rfl) ?_
    refine W.eq (g2 := F0 m 37 ls []) rfl ?_
    refine lv_iconst (v := 1) hx hb dX4_giveBackImage_37 (by decide) ?_
    have hP : va_P g.1 vwCl (List.flatten [bTown g o a peI woI txI chI joI trI dyI sdI h_2, bTown g it aI peI woI txI chI joI trI dyI sdI fI, bLaw g lo lc lzI llI lm lg ld h_4, bLaw g il lcI lzI llI lmI lgI ldI fcI, bLog g go gr gzI gnI h_6, bLog g ig grI gzI gnI frI, bMem g mo qT qL it il ig mh 0 mx fT fL]) H := hP
    have hD : va_D A (List.flatten [bTown g o a peI woI txI chI joI trI dyI sdI h_2, bTown g it aI peI woI txI chI joI trI dyI sdI fI, bLaw g lo lc lzI llI lm lg ld h_4, bLaw g il lcI lzI llI lmI lgI ldI fcI, bLog g go gr gzI gnI h_6, bLog g ig grI gzI gnI frI, bMem g mo qT qL it il ig mh 0 mx fT fL]) := hD
    obtain ⟨hP, hD⟩ := zord (g := g) (Bs' := [bMem g mo qT qL it il ig mh 0 mx fT fL, bTown g o a peI woI txI chI joI trI dyI sdI h_2, bLaw g lo lc lzI llI lm lg ld h_4, bLog g go gr gzI gnI h_6, bTown g it aI peI woI txI chI joI trI dyI sdI fI, bLaw g il lcI lzI llI lmI lgI ldI fcI, bLog g ig grI gzI gnI frI]) [6, 0, 2, 4, 1, 3, 5] rfl rfl hP hD
    exact mret_z hx hb hr hlocks hS (Nat.le_of_ble_eq_true rfl) (Nat.le_of_ble_eq_true rfl) dX4_giveBackImage_38 ((0 : Int32), peI, woI, txI, chI, joI, trI, dyI, sdI, h_2, lzI, llI, h_4, gzI, gnI, h_6, (1 : Int32)) rfl (by decide) (show (0 ≤ (0 : Int32).toInt ∧ (0 : Int32).toInt ≤ 12) ∧ (0 ≤ peI.toInt ∧ peI.toInt ≤ 8) ∧ (0 ≤ woI.toInt ∧ woI.toInt ≤ 6) ∧ (zZ4 h_2) ∧ (0 ≤ lzI.toInt ∧ lzI.toInt ≤ 400) ∧ (0 ≤ gzI.toInt ∧ gzI.toInt ≤ 60) ∧ (0 ≤ gnI.toInt ∧ gnI.toInt ≤ 59) ∧ (1 = 1 ∧ ¬ mh.toInt = 0 ∧ (0 : Int32).toInt = 0 ∧ zR9 (peI, woI, txI, chI, joI, trI, dyI, sdI, h_2) (peI, woI, txI, chI, joI, trI, dyI, sdI, fI) ∧ (lzI = lzI ∧ llI = llI ∧ zCe h_4 fcI) ∨ 1 = 0 ∧ mh.toInt = 0 ∧ (0 : Int32).toInt = me.toInt ∧ (peI, woI, txI, chI, joI, trI, dyI, sdI, h_2) = (pe, wo, tx, ch, jo, tr, dy, sd, f) ∧ (lzI = lz ∧ llI = ll ∧ h_4 = fc)) from ⟨(by first | assumption | omega | decide), (by first | assumption | omega | decide), (by first | assumption | omega | decide), (by first | assumption | omega | decide), (by first | assumption | omega | decide), (by first | assumption | omega | decide), (by first | assumption | omega | decide), (Or.inl ⟨rfl, (by omega), (by decide), zR9_f hq3_1, rfl, rfl, hq5⟩)⟩) hP hD
  · skip
    have c9 : mh.toInt = 0 := zeq cb9 rfl (by decide)
    have n10 : 0 ≤ mh.toInt := Int.le_trans (Int.le_refl _) (Int.le_of_eq c9.symm)
    have n11 : mh.toInt ≤ 0 := Int.le_trans (Int.le_of_eq c9) (Int.le_refl _)
    refine lv_iconst (v := 0) hx hb dX4_giveBackImage_7 (by decide) ?_
    have hP : va_P g.1 vwCl (List.flatten [bMem g mo qT qL it il ig mh me mx fT fL, bTown g o a pe wo tx ch jo tr dy sd f, bLaw g lo lc lz ll lm lg ld fc, bLog g go gr gz gn fr, bTown g it aI peI woI txI chI joI trI dyI sdI fI, bLaw g il lcI lzI llI lmI lgI ldI fcI, bLog g ig grI gzI gnI frI]) s.heap := hP
    have hD : va_D A (List.flatten [bMem g mo qT qL it il ig mh me mx fT fL, bTown g o a pe wo tx ch jo tr dy sd f, bLaw g lo lc lz ll lm lg ld fc, bLog g go gr gz gn fr, bTown g it aI peI woI txI chI joI trI dyI sdI fI, bLaw g il lcI lzI llI lmI lgI ldI fcI, bLog g ig grI gzI gnI frI]) := hD
    exact mret_z hx hb hr hlocks hS (Nat.le_of_ble_eq_true rfl) (Nat.le_of_ble_eq_true rfl) dX4_giveBackImage_8 (me, pe, wo, tx, ch, jo, tr, dy, sd, f, lz, ll, fc, gz, gn, fr, (0 : Int32)) rfl (by decide) (show (0 ≤ me.toInt ∧ me.toInt ≤ 12) ∧ (0 ≤ pe.toInt ∧ pe.toInt ≤ 8) ∧ (0 ≤ wo.toInt ∧ wo.toInt ≤ 6) ∧ (zZ4 f) ∧ (0 ≤ lz.toInt ∧ lz.toInt ≤ 400) ∧ (0 ≤ gz.toInt ∧ gz.toInt ≤ 60) ∧ (0 ≤ gn.toInt ∧ gn.toInt ≤ 59) ∧ (0 = 1 ∧ ¬ mh.toInt = 0 ∧ me.toInt = 0 ∧ zR9 (pe, wo, tx, ch, jo, tr, dy, sd, f) (peI, woI, txI, chI, joI, trI, dyI, sdI, fI) ∧ (lz = lzI ∧ ll = llI ∧ zCe fc fcI) ∨ 0 = 0 ∧ mh.toInt = 0 ∧ me.toInt = me.toInt ∧ (pe, wo, tx, ch, jo, tr, dy, sd, f) = (pe, wo, tx, ch, jo, tr, dy, sd, f) ∧ (lz = lz ∧ ll = ll ∧ fc = fc)) from ⟨(by first | assumption | omega | decide), (by first | assumption | omega | decide), (by first | assumption | omega | decide), (by first | assumption | omega | decide), (by first | assumption | omega | decide), (by first | assumption | omega | decide), (by first | assumption | omega | decide), (Or.inr ⟨rfl, (by omega), rfl, rfl, rfl, rfl, rfl⟩)⟩) hP hD
set_option maxRecDepth 100000 in
set_option maxHeartbeats 4000000 in
theorem c_x_tellC (l : Launch) (hfl : l.stackTraces = false) (g : zG) (x : Nat) (ta : Nat) (o : Nat) (lo : Nat) (go : Nat) (tt : Nat) (lt : Nat) (mo : Nat) (fo : Nat) (ro : Nat) (fl9 : Int32) (a : Nat → Nat) (pe : Int32) (wo : Int32) (tx : Int32) (ch : Int32) (jo : Int32) (tr : Int32) (dy : Int32) (sd : Int32) (f : Nat → Nat → Int32) (gr : Nat) (gz : Int32) (gn : Int32) (fr : Nat → Int32) (qT : Nat) (qL : Nat) (it : Nat) (il : Nat) (ig : Nat) (mh : Int32) (me : Int32) (mx : Int32) (fT : Nat → Option Nat) (fL : Nat → Option Nat) (PT : Nat → zTR) (PL : Nat → zLR) (pp : Int32) (b_pe : 0 ≤ pe.toInt ∧ pe.toInt ≤ 8) (b_wo : 0 ≤ wo.toInt ∧ wo.toInt ≤ 6) (rf : zZ4 f) (b_gz : 0 ≤ gz.toInt ∧ gz.toInt ≤ 60) (b_gn : 0 ≤ gn.toInt ∧ gn.toInt ≤ 59) (b_me : 0 ≤ me.toInt ∧ me.toInt ≤ 12) (b_mx : 0 ≤ mx.toInt ∧ mx.toInt ≤ 11) (hPT : zPT fT PT) (hPL : zPL fL PL) : zX' g l yX11_tell (Cond.code yX11_tell cX11_tell 2 (some .int) :: zB) ({ frames := 8, cells := 2, slots := 12, locals := 124 } : Room) [.ref x, .int pp] [bDR g x ta o lo go tt lt mo fo ro fl9, bTown g o a pe wo tx ch jo tr dy sd f, bLog g go gr gz gn fr, bMem g mo qT qL it il ig mh me mx fT fL, bPT g PT, bPL g PL] (fun u : (Nat → Nat → Int32) × Int32 × Int32 × (Nat → zTR) × (Nat → zLR) × Int32 => (fun (f2 : Nat → Nat → Int32) (me2 : Int32) (mx2 : Int32) (PT2 : Nat → zTR) (PL2 : Nat → zLR) (q : Int32) => some (.int q)) (u.1) (u.2.1) (u.2.2.1) (u.2.2.2.1) (u.2.2.2.2.1) (u.2.2.2.2.2)) (fun u : (Nat → Nat → Int32) × Int32 × Int32 × (Nat → zTR) × (Nat → zLR) × Int32 => (fun (f2 : Nat → Nat → Int32) (me2 : Int32) (mx2 : Int32) (PT2 : Nat → zTR) (PL2 : Nat → zLR) (q : Int32) => (zZ4 f2) ∧ (0 ≤ me2.toInt ∧ me2.toInt ≤ 12) ∧ (0 ≤ mx2.toInt ∧ mx2.toInt ≤ 11) ∧ (zPT fT PT2) ∧ (zPL fL PL2) ∧ (zX9 (0, q, (pe, wo, tx, ch, jo, tr, dy, sd, f2)) (zxTell pp (pe, wo, tx, ch, jo, tr, dy, sd, f)) ∧ zMy PT PT2 me.toInt me2.toInt mx.toInt mx2.toInt (pe, wo, tx, ch, jo, tr, dy, sd, f))) (u.1) (u.2.1) (u.2.2.1) (u.2.2.2.1) (u.2.2.2.2.1) (u.2.2.2.2.2)) (fun u : (Nat → Nat → Int32) × Int32 × Int32 × (Nat → zTR) × (Nat → zLR) × Int32 => (fun (f2 : Nat → Nat → Int32) (me2 : Int32) (mx2 : Int32) (PT2 : Nat → zTR) (PL2 : Nat → zLR) (q : Int32) => [bDR g x ta o lo go tt lt mo fo ro fl9, bTown g o a pe wo tx ch jo tr dy sd f2, bLog g go gr gz gn fr, bMem g mo qT qL it il ig mh me2 mx2 fT fL, bPT g PT2, bPL g PL2]) (u.1) (u.2.1) (u.2.2.1) (u.2.2.2.1) (u.2.2.2.2.1) (u.2.2.2.2.2)) (fun (E : String) => fun u : (Nat → Nat → Int32) × Int32 × Int32 × (Nat → zTR) × (Nat → zLR) => (fun (f2 : Nat → Nat → Int32) (me2 : Int32) (mx2 : Int32) (PT2 : Nat → zTR) (PL2 : Nat → zLR) => (E = "java/lang/IndexOutOfBoundsException" ∨ E = "java/lang/IllegalStateException") ∧ (zZ4 f2) ∧ (0 ≤ me2.toInt ∧ me2.toInt ≤ 12) ∧ (0 ≤ mx2.toInt ∧ mx2.toInt ≤ 11) ∧ (zPT fT PT2) ∧ (zPL fL PL2) ∧ (E = "java/lang/IndexOutOfBoundsException" → zX9 (1, 0, (pe, wo, tx, ch, jo, tr, dy, sd, f)) (zxTell pp (pe, wo, tx, ch, jo, tr, dy, sd, f))) ∧ (E = "java/lang/IllegalStateException" → zX9 (2, 0, (pe, wo, tx, ch, jo, tr, dy, sd, f)) (zxTell pp (pe, wo, tx, ch, jo, tr, dy, sd, f))) ∧ ((pe, wo, tx, ch, jo, tr, dy, sd, f2) = (pe, wo, tx, ch, jo, tr, dy, sd, f)) ∧ (PT2 = PT) ∧ (me2.toInt = me.toInt) ∧ (mx2.toInt = mx.toInt)) (u.1) (u.2.1) (u.2.2.1) (u.2.2.2.1) (u.2.2.2.2)) (fun u : (Nat → Nat → Int32) × Int32 × Int32 × (Nat → zTR) × (Nat → zLR) => (fun (f2 : Nat → Nat → Int32) (me2 : Int32) (mx2 : Int32) (PT2 : Nat → zTR) (PL2 : Nat → zLR) => [bDR g x ta o lo go tt lt mo fo ro fl9, bTown g o a pe wo tx ch jo tr dy sd f2, bLog g go gr gz gn fr, bMem g mo qT qL it il ig mh me2 mx2 fT fL, bPT g PT2, bPL g PL2]) (u.1) (u.2.1) (u.2.2.1) (u.2.2.2.1) (u.2.2.2.2)) := by
  refine zX'.of (cc := cX11_tell) (maxL := 2) (rt := (some .int)) (by decide) rfl (Nat.le_of_ble_eq_true rfl) ?_
  intro p e s m args below meth c A ls St hr hlocks htab hin hK hT hA hP hD hS hl
  obtain ⟨hx, hb, hml, hown, hts⟩ := id St
  have hl : lv_has ls 2 [(0, .ref x), (1, .int pp)] := hl
  refine lv_aload_n hx hb dX11_tell_0 rfl (lv_at hl 0 rfl) ?_
  refine lv_iload_n hx hb dX11_tell_1 rfl (lv_at hl 1 rfl) ?_
  refine xcallV' (g := g) (q0 := 0) (ci := 9) (As := [.int pp]) (rest := []) St hK hT hA hP hD hS hl.1 [0, 1] [2, 3, 4, 5] rfl rfl rfl (c_x_needPersonE l hfl g x ta o lo go tt lt mo fo ro fl9 a pe wo tx ch jo tr dy sd f pp b_pe b_wo rf) (cwV 1 hts (zgL (zl4 k618 k619 k620 k621) k607) rfl rfl rfl (by decide +kernel) ⟨Nat.le_of_ble_eq_true rfl, Nat.le_of_ble_eq_true rfl⟩) rfl rfl rfl rfl (Nat.le_of_ble_eq_true rfl) dX11_tell_2 ⟨(Nat.le_of_ble_eq_true rfl), (Nat.le_of_ble_eq_true rfl)⟩ (fun E ce q9 u9 H locs hpx hP hD hS hce hcv hcl => ?_) (fun _u H locs hq1 hP hD hS => ?_)
  · skip
    have hpx : (E = "java/lang/IndexOutOfBoundsException") ∧ (¬ (0 ≤ pp.toInt ∧ pp.toInt < pe.toInt)) := hpx
    have hP : va_P g.1 vwCl (List.flatten [bLog g go gr gz gn fr, bMem g mo qT qL it il ig mh me mx fT fL, bPT g PT, bPL g PL, bDR g x ta o lo go tt lt mo fo ro fl9, bTown g o a pe wo tx ch jo tr dy sd f]) H := hP
    have hD : va_D A (List.flatten [bLog g go gr gz gn fr, bMem g mo qT qL it il ig mh me mx fT fL, bPT g PT, bPL g PL, bDR g x ta o lo go tt lt mo fo ro fl9, bTown g o a pe wo tx ch jo tr dy sd f]) := hD
    obtain ⟨hE9, hy2⟩ := hpx
    have hP : va_P g.1 vwCl (List.flatten [bLog g go gr gz gn fr, bMem g mo qT qL it il ig mh me mx fT fL, bPT g PT, bPL g PL, bDR g x ta o lo go tt lt mo fo ro fl9, bTown g o a pe wo tx ch jo tr dy sd f]) H := hP
    have hD : va_D A (List.flatten [bLog g go gr gz gn fr, bMem g mo qT qL it il ig mh me mx fT fL, bPT g PT, bPL g PL, bDR g x ta o lo go tt lt mo fo ro fl9, bTown g o a pe wo tx ch jo tr dy sd f]) := hD
    obtain ⟨hP, hD⟩ := zord (g := g) (Bs' := [bLog g go gr gz gn fr, bMem g mo qT qL it il ig mh me mx fT fL, bDR g x ta o lo go tt lt mo fo ro fl9, bTown g o a pe wo tx ch jo tr dy sd f, bPT g PT, bPL g PL]) [0, 1, 4, 5, 2, 3] rfl rfl hP hD
    have hP : va_P g.1 vwCl (List.flatten [bLog g go gr gz gn fr, bMem g mo qT qL it il ig mh me mx fT fL, bDR g x ta o lo go tt lt mo fo ro fl9, bTown g o a pe wo tx ch jo tr dy sd f, bPT g PT, bPL g PL]) H := hP
    have hD : va_D A (List.flatten [bLog g go gr gz gn fr, bMem g mo qT qL it il ig mh me mx fT fL, bDR g x ta o lo go tt lt mo fo ro fl9, bTown g o a pe wo tx ch jo tr dy sd f, bPT g PT, bPL g PL]) := hD
    obtain ⟨hP, hD⟩ := zord (g := g) (Bs' := [bDR g x ta o lo go tt lt mo fo ro fl9, bTown g o a pe wo tx ch jo tr dy sd f, bLog g go gr gz gn fr, bMem g mo qT qL it il ig mh me mx fT fL, bPT g PT, bPL g PL]) [2, 3, 0, 1, 4, 5] rfl rfl hP hD
    exact zout htab hlocks hS (Nat.le_of_ble_eq_true rfl) (Nat.le_of_ble_eq_true rfl) hce hcv hcl (f, me, mx, PT, PL) (show (E = "java/lang/IndexOutOfBoundsException" ∨ E = "java/lang/IllegalStateException") ∧ (zZ4 f) ∧ (0 ≤ me.toInt ∧ me.toInt ≤ 12) ∧ (0 ≤ mx.toInt ∧ mx.toInt ≤ 11) ∧ (zPT fT PT) ∧ (zPL fL PL) ∧ (E = "java/lang/IndexOutOfBoundsException" → zX9 (1, 0, (pe, wo, tx, ch, jo, tr, dy, sd, f)) (zxTell pp (pe, wo, tx, ch, jo, tr, dy, sd, f))) ∧ (E = "java/lang/IllegalStateException" → zX9 (2, 0, (pe, wo, tx, ch, jo, tr, dy, sd, f)) (zxTell pp (pe, wo, tx, ch, jo, tr, dy, sd, f))) ∧ ((pe, wo, tx, ch, jo, tr, dy, sd, f) = (pe, wo, tx, ch, jo, tr, dy, sd, f)) ∧ (PT = PT) ∧ (me.toInt = me.toInt) ∧ (mx.toInt = mx.toInt) from ⟨(Or.inl hE9), (show zZ4 f from rf), (show 0 ≤ me.toInt ∧ me.toInt ≤ 12 from b_me), (show 0 ≤ mx.toInt ∧ mx.toInt ≤ 11 from b_mx), (show zPT fT PT from hPT), (show zPL fL PL from hPL), (show E = "java/lang/IndexOutOfBoundsException" → zX9 (1, 0, (pe, wo, tx, ch, jo, tr, dy, sd, f)) (zxTell pp (pe, wo, tx, ch, jo, tr, dy, sd, f)) from (fun h9 => zxTell_c1 hy2)), (show E = "java/lang/IllegalStateException" → zX9 (2, 0, (pe, wo, tx, ch, jo, tr, dy, sd, f)) (zxTell pp (pe, wo, tx, ch, jo, tr, dy, sd, f)) from (fun h9 => absurd (hE9.symm.trans h9) (by decide))), (show (pe, wo, tx, ch, jo, tr, dy, sd, f) = (pe, wo, tx, ch, jo, tr, dy, sd, f) from (by first | assumption | omega | decide | exact rfl | exact zb01 (by omega) | exact Or.inl (by decide) | exact Or.inr (by first | omega | decide))), (show PT = PT from (by first | assumption | omega | decide | exact rfl | exact zb01 (by omega) | exact Or.inl (by decide) | exact Or.inr (by first | omega | decide))), (show me.toInt = me.toInt from (by first | assumption | omega | decide | exact rfl | exact zb01 (by omega) | exact Or.inl (by decide) | exact Or.inr (by first | omega | decide))), (show mx.toInt = mx.toInt from (by first | assumption | omega | decide | exact rfl | exact zb01 (by omega) | exact Or.inl (by decide) | exact Or.inr (by first | omega | decide)))⟩) hP hD
  · skip
    replace hq1 : (0 ≤ pp.toInt ∧ pp.toInt ≤ 7) ∧ (pp.toInt < pe.toInt) := hq1
    have hP : va_P g.1 vwCl (List.flatten [bLog g go gr gz gn fr, bMem g mo qT qL it il ig mh me mx fT fL, bPT g PT, bPL g PL, bDR g x ta o lo go tt lt mo fo ro fl9, bTown g o a pe wo tx ch jo tr dy sd f]) H := hP
    have hD : va_D A (List.flatten [bLog g go gr gz gn fr, bMem g mo qT qL it il ig mh me mx fT fL, bPT g PT, bPL g PL, bDR g x ta o lo go tt lt mo fo ro fl9, bTown g o a pe wo tx ch jo tr dy sd f]) := hD
    refine W.widen (k := 1) (n := 6) (Nat.le_of_ble_eq_true rfl) (Nat.le_of_ble_eq_true rfl) ?_
    refine W.eq (g2 := F0 m 5 ls []) rfl ?_
    have hP : va_P g.1 vwCl (List.flatten [bLog g go gr gz gn fr, bMem g mo qT qL it il ig mh me mx fT fL, bPT g PT, bPL g PL, bDR g x ta o lo go tt lt mo fo ro fl9, bTown g o a pe wo tx ch jo tr dy sd f]) H := hP
    have hD : va_D A (List.flatten [bLog g go gr gz gn fr, bMem g mo qT qL it il ig mh me mx fT fL, bPT g PT, bPL g PL, bDR g x ta o lo go tt lt mo fo ro fl9, bTown g o a pe wo tx ch jo tr dy sd f]) := hD
    obtain ⟨hP, hD⟩ := zord (g := g) (Bs' := [bLog g go gr gz gn fr, bMem g mo qT qL it il ig mh me mx fT fL, bDR g x ta o lo go tt lt mo fo ro fl9, bTown g o a pe wo tx ch jo tr dy sd f, bPT g PT, bPL g PL]) [0, 1, 4, 5, 2, 3] rfl rfl hP hD
    obtain ⟨hq1_0, hq1_1⟩ := hq1
    refine lv_aload_n hx hb dX11_tell_5 rfl (lv_at hl 0 rfl) ?_
    refine lv_iload_n hx hb dX11_tell_6 rfl (lv_at hl 1 rfl) ?_
    refine xcallV' (g := g) (q0 := 0) (ci := 9) (As := [.int pp]) (rest := []) St hK hT hA hP hD hS hl.1 [2, 3] [0, 1, 4, 5] rfl rfl rfl (c_x_needHereE l hfl g x ta o lo go tt lt mo fo ro fl9 a pe wo tx ch jo tr dy sd f pp b_pe b_wo rf hq1_0) (cwV 1 hts (zgL (zl4 k659 k660 k661 k621) k654) rfl rfl rfl (by decide +kernel) ⟨Nat.le_of_ble_eq_true rfl, Nat.le_of_ble_eq_true rfl⟩) rfl rfl rfl rfl (Nat.le_of_ble_eq_true rfl) dX11_tell_7 ⟨(Nat.le_of_ble_eq_true rfl), (Nat.le_of_ble_eq_true rfl)⟩ (fun E ce q9 u9 H locs hpx hP hD hS hce hcv hcl => ?_) (fun _u H locs hq3 hP hD hS => ?_)
    · skip
      have hpx : (E = "java/lang/IllegalStateException") ∧ (¬ (f 3 pp.toInt.toNat).toInt = -1) := hpx
      have hP : va_P g.1 vwCl (List.flatten [bLog g go gr gz gn fr, bMem g mo qT qL it il ig mh me mx fT fL, bPT g PT, bPL g PL, bDR g x ta o lo go tt lt mo fo ro fl9, bTown g o a pe wo tx ch jo tr dy sd f]) H := hP
      have hD : va_D A (List.flatten [bLog g go gr gz gn fr, bMem g mo qT qL it il ig mh me mx fT fL, bPT g PT, bPL g PL, bDR g x ta o lo go tt lt mo fo ro fl9, bTown g o a pe wo tx ch jo tr dy sd f]) := hD
      obtain ⟨hE9, hy4⟩ := hpx
      have hP : va_P g.1 vwCl (List.flatten [bLog g go gr gz gn fr, bMem g mo qT qL it il ig mh me mx fT fL, bPT g PT, bPL g PL, bDR g x ta o lo go tt lt mo fo ro fl9, bTown g o a pe wo tx ch jo tr dy sd f]) H := hP
      have hD : va_D A (List.flatten [bLog g go gr gz gn fr, bMem g mo qT qL it il ig mh me mx fT fL, bPT g PT, bPL g PL, bDR g x ta o lo go tt lt mo fo ro fl9, bTown g o a pe wo tx ch jo tr dy sd f]) := hD
      obtain ⟨hP, hD⟩ := zord (g := g) (Bs' := [bLog g go gr gz gn fr, bMem g mo qT qL it il ig mh me mx fT fL, bDR g x ta o lo go tt lt mo fo ro fl9, bTown g o a pe wo tx ch jo tr dy sd f, bPT g PT, bPL g PL]) [0, 1, 4, 5, 2, 3] rfl rfl hP hD
      have hP : va_P g.1 vwCl (List.flatten [bLog g go gr gz gn fr, bMem g mo qT qL it il ig mh me mx fT fL, bDR g x ta o lo go tt lt mo fo ro fl9, bTown g o a pe wo tx ch jo tr dy sd f, bPT g PT, bPL g PL]) H := hP
      have hD : va_D A (List.flatten [bLog g go gr gz gn fr, bMem g mo qT qL it il ig mh me mx fT fL, bDR g x ta o lo go tt lt mo fo ro fl9, bTown g o a pe wo tx ch jo tr dy sd f, bPT g PT, bPL g PL]) := hD
      obtain ⟨hP, hD⟩ := zord (g := g) (Bs' := [bDR g x ta o lo go tt lt mo fo ro fl9, bTown g o a pe wo tx ch jo tr dy sd f, bLog g go gr gz gn fr, bMem g mo qT qL it il ig mh me mx fT fL, bPT g PT, bPL g PL]) [2, 3, 0, 1, 4, 5] rfl rfl hP hD
      exact zout htab hlocks hS (Nat.le_of_ble_eq_true rfl) (Nat.le_of_ble_eq_true rfl) hce hcv hcl (f, me, mx, PT, PL) (show (E = "java/lang/IndexOutOfBoundsException" ∨ E = "java/lang/IllegalStateException") ∧ (zZ4 f) ∧ (0 ≤ me.toInt ∧ me.toInt ≤ 12) ∧ (0 ≤ mx.toInt ∧ mx.toInt ≤ 11) ∧ (zPT fT PT) ∧ (zPL fL PL) ∧ (E = "java/lang/IndexOutOfBoundsException" → zX9 (1, 0, (pe, wo, tx, ch, jo, tr, dy, sd, f)) (zxTell pp (pe, wo, tx, ch, jo, tr, dy, sd, f))) ∧ (E = "java/lang/IllegalStateException" → zX9 (2, 0, (pe, wo, tx, ch, jo, tr, dy, sd, f)) (zxTell pp (pe, wo, tx, ch, jo, tr, dy, sd, f))) ∧ ((pe, wo, tx, ch, jo, tr, dy, sd, f) = (pe, wo, tx, ch, jo, tr, dy, sd, f)) ∧ (PT = PT) ∧ (me.toInt = me.toInt) ∧ (mx.toInt = mx.toInt) from ⟨(Or.inr hE9), (show zZ4 f from rf), (show 0 ≤ me.toInt ∧ me.toInt ≤ 12 from b_me), (show 0 ≤ mx.toInt ∧ mx.toInt ≤ 11 from b_mx), (show zPT fT PT from hPT), (show zPL fL PL from hPL), (show E = "java/lang/IndexOutOfBoundsException" → zX9 (1, 0, (pe, wo, tx, ch, jo, tr, dy, sd, f)) (zxTell pp (pe, wo, tx, ch, jo, tr, dy, sd, f)) from (fun h9 => absurd (hE9.symm.trans h9) (by decide))), (show E = "java/lang/IllegalStateException" → zX9 (2, 0, (pe, wo, tx, ch, jo, tr, dy, sd, f)) (zxTell pp (pe, wo, tx, ch, jo, tr, dy, sd, f)) from (fun h9 => zxTell_c2 (by omega) hy4)), (show (pe, wo, tx, ch, jo, tr, dy, sd, f) = (pe, wo, tx, ch, jo, tr, dy, sd, f) from (by first | assumption | omega | decide | exact rfl | exact zb01 (by omega) | exact Or.inl (by decide) | exact Or.inr (by first | omega | decide))), (show PT = PT from (by first | assumption | omega | decide | exact rfl | exact zb01 (by omega) | exact Or.inl (by decide) | exact Or.inr (by first | omega | decide))), (show me.toInt = me.toInt from (by first | assumption | omega | decide | exact rfl | exact zb01 (by omega) | exact Or.inl (by decide) | exact Or.inr (by first | omega | decide))), (show mx.toInt = mx.toInt from (by first | assumption | omega | decide | exact rfl | exact zb01 (by omega) | exact Or.inl (by decide) | exact Or.inr (by first | omega | decide)))⟩) hP hD
    · skip
      replace hq3 : ((f 3 pp.toInt.toNat).toInt = -1) := hq3
      have hP : va_P g.1 vwCl (List.flatten [bLog g go gr gz gn fr, bMem g mo qT qL it il ig mh me mx fT fL, bPT g PT, bPL g PL, bDR g x ta o lo go tt lt mo fo ro fl9, bTown g o a pe wo tx ch jo tr dy sd f]) H := hP
      have hD : va_D A (List.flatten [bLog g go gr gz gn fr, bMem g mo qT qL it il ig mh me mx fT fL, bPT g PT, bPL g PL, bDR g x ta o lo go tt lt mo fo ro fl9, bTown g o a pe wo tx ch jo tr dy sd f]) := hD
      refine W.widen (k := 2) (n := 12) (Nat.le_of_ble_eq_true rfl) (Nat.le_of_ble_eq_true rfl) ?_
      refine W.eq (g2 := F0 m 10 ls []) rfl ?_
      have hP : va_P g.1 vwCl (List.flatten [bLog g go gr gz gn fr, bMem g mo qT qL it il ig mh me mx fT fL, bPT g PT, bPL g PL, bDR g x ta o lo go tt lt mo fo ro fl9, bTown g o a pe wo tx ch jo tr dy sd f]) H := hP
      have hD : va_D A (List.flatten [bLog g go gr gz gn fr, bMem g mo qT qL it il ig mh me mx fT fL, bPT g PT, bPL g PL, bDR g x ta o lo go tt lt mo fo ro fl9, bTown g o a pe wo tx ch jo tr dy sd f]) := hD
      obtain ⟨hP, hD⟩ := zord (g := g) (Bs' := [bLog g go gr gz gn fr, bMem g mo qT qL it il ig mh me mx fT fL, bDR g x ta o lo go tt lt mo fo ro fl9, bTown g o a pe wo tx ch jo tr dy sd f, bPT g PT, bPL g PL]) [0, 1, 4, 5, 2, 3] rfl rfl hP hD
      refine lv_aload_n hx hb dX11_tell_10 rfl (lv_at hl 0 rfl) ?_
      refine va_get (D := g.1) (ci := 9) (v := .ref mo) (C := RX11) (T := TX11) (N := 10) hx hb hts izRX11 hown hK hP 5 rfl rfl 6 (by decide) (hts _ k551) (fun _ h9 => h9) rfl dX11_tell_11 ?_
      refine lv_aload_n hx hb dX11_tell_14 rfl (lv_at hl 0 rfl) ?_
      refine va_get (D := g.1) (ci := 9) (v := .ref o) (C := RX11) (T := TX11) (N := 10) hx hb hts izRX11 hown hK hP 5 rfl rfl 1 (by decide) (hts _ k538) (fun _ h9 => h9) rfl dX11_tell_15 ?_
      refine lv_aload_n hx hb dX11_tell_18 rfl (lv_at hl 0 rfl) ?_
      refine va_get (D := g.1) (ci := 9) (v := .ref go) (C := RX11) (T := TX11) (N := 10) hx hb hts izRX11 hown hK hP 5 rfl rfl 3 (by decide) (hts _ k542) (fun _ h9 => h9) rfl dX11_tell_19 ?_
      refine mcallV' (g := g) (q0 := 0) (ci := 4) (As := [.ref o, .ref go]) (rest := []) St hK hT hA hP hD hS hl.1 [1, 3, 0, 4, 5] [2] rfl rfl rfl (c_m_rememberC l g mo qT qL it il ig mh me mx fT fL o a pe wo tx ch jo tr dy sd f go gr gz gn fr PT PL b_me b_mx b_pe b_wo rf b_gz b_gn hPT hPL) (cwV 2 hts (zgL (zl4 k662 k663 k664 k378) k367) rfl rfl rfl (by decide +kernel) ⟨Nat.le_of_ble_eq_true rfl, Nat.le_of_ble_eq_true rfl⟩) rfl rfl rfl rfl (Nat.le_of_ble_eq_true rfl) dX11_tell_22 ⟨(Nat.le_of_ble_eq_true rfl), (Nat.le_of_ble_eq_true rfl)⟩ (fun u_ H locs hq9 hP hD hS => ?_)
      obtain ⟨me2_5, mx2_6, PT2_7, PL2_8⟩ := u_
      replace hq9 : (0 ≤ me2_5.toInt ∧ me2_5.toInt ≤ 12) ∧ (0 ≤ mx2_6.toInt ∧ mx2_6.toInt ≤ 11) ∧ (zPT fT PT2_7) ∧ (zPL fL PL2_8) ∧ (zMy PT PT2_7 me.toInt me2_5.toInt mx.toInt mx2_6.toInt (pe, wo, tx, ch, jo, tr, dy, sd, f)) := hq9
      have hP : va_P g.1 vwCl (List.flatten [bDR g x ta o lo go tt lt mo fo ro fl9, bMem g mo qT qL it il ig mh me2_5 mx2_6 fT fL, bTown g o a pe wo tx ch jo tr dy sd f, bLog g go gr gz gn fr, bPT g PT2_7, bPL g PL2_8]) H := hP
      have hD : va_D A (List.flatten [bDR g x ta o lo go tt lt mo fo ro fl9, bMem g mo qT qL it il ig mh me2_5 mx2_6 fT fL, bTown g o a pe wo tx ch jo tr dy sd f, bLog g go gr gz gn fr, bPT g PT2_7, bPL g PL2_8]) := hD
      refine W.widen (k := 2) (n := 12) (Nat.le_of_ble_eq_true rfl) (Nat.le_of_ble_eq_true rfl) ?_
      refine W.eq (g2 := F0 m 25 ls []) rfl ?_
      obtain ⟨hq9_0, hq9_1, hq9_2, hq9_3, hq9_4⟩ := hq9
      refine lv_aload_n hx hb dX11_tell_25 rfl (lv_at hl 0 rfl) ?_
      refine va_get (D := g.1) (ci := 9) (v := .ref o) (C := RX11) (T := TX11) (N := 10) hx hb hts izRX11 hown hK hP 0 rfl rfl 1 (by decide) (hts _ k538) (fun _ h9 => h9) rfl dX11_tell_26 ?_
      refine lv_iload_n hx hb dX11_tell_29 rfl (lv_at hl 1 rfl) ?_
      refine lv_bipush (v := 20) hx hb dX11_tell_30 (by decide) ?_
      refine mcallV' (g := g) (q0 := 0) (ci := 7) (As := [.int pp, .int 20]) (rest := []) St hK hT hA hP hD hS hl.1 [2] [0, 1, 3, 4, 5] rfl rfl rfl (c_raiseF l g o a pe wo tx ch jo tr dy sd f pp 20 rf hq1_0) (cwV 2 hts (zgL (zl4 k665 k132 k133 k24) k47) rfl rfl rfl (by decide +kernel) ⟨Nat.le_of_ble_eq_true rfl, Nat.le_of_ble_eq_true rfl⟩) rfl rfl rfl rfl (Nat.le_of_ble_eq_true rfl) dX11_tell_32 ⟨(Nat.le_of_ble_eq_true rfl), (Nat.le_of_ble_eq_true rfl)⟩ (fun f2_10 H locs hq11 hP hD hS => ?_)
      replace hq11 : (zZ4 f2_10) ∧ (f2_10 = zSet f 0 (pp.toInt.toNat) (zCl (f 0 pp.toInt.toNat + 20))) := hq11
      have hP : va_P g.1 vwCl (List.flatten [bDR g x ta o lo go tt lt mo fo ro fl9, bMem g mo qT qL it il ig mh me2_5 mx2_6 fT fL, bLog g go gr gz gn fr, bPT g PT2_7, bPL g PL2_8, bTown g o a pe wo tx ch jo tr dy sd f2_10]) H := hP
      have hD : va_D A (List.flatten [bDR g x ta o lo go tt lt mo fo ro fl9, bMem g mo qT qL it il ig mh me2_5 mx2_6 fT fL, bLog g go gr gz gn fr, bPT g PT2_7, bPL g PL2_8, bTown g o a pe wo tx ch jo tr dy sd f2_10]) := hD
      refine W.widen (k := 2) (n := 12) (Nat.le_of_ble_eq_true rfl) (Nat.le_of_ble_eq_true rfl) ?_
      refine W.eq (g2 := F0 m 35 ls []) rfl ?_
      have hP : va_P g.1 vwCl (List.flatten [bDR g x ta o lo go tt lt mo fo ro fl9, bMem g mo qT qL it il ig mh me2_5 mx2_6 fT fL, bLog g go gr gz gn fr, bPT g PT2_7, bPL g PL2_8, bTown g o a pe wo tx ch jo tr dy sd f2_10]) H := hP
      have hD : va_D A (List.flatten [bDR g x ta o lo go tt lt mo fo ro fl9, bMem g mo qT qL it il ig mh me2_5 mx2_6 fT fL, bLog g go gr gz gn fr, bPT g PT2_7, bPL g PL2_8, bTown g o a pe wo tx ch jo tr dy sd f2_10]) := hD
      obtain ⟨hP, hD⟩ := zord (g := g) (Bs' := [bDR g x ta o lo go tt lt mo fo ro fl9, bMem g mo qT qL it il ig mh me2_5 mx2_6 fT fL, bLog g go gr gz gn fr, bTown g o a pe wo tx ch jo tr dy sd f2_10, bPT g PT2_7, bPL g PL2_8]) [0, 1, 2, 5, 3, 4] rfl rfl hP hD
      obtain ⟨rf2_10, hq11_1⟩ := hq11
      refine lv_aload_n hx hb dX11_tell_35 rfl (lv_at hl 0 rfl) ?_
      refine va_get (D := g.1) (ci := 9) (v := .ref o) (C := RX11) (T := TX11) (N := 10) hx hb hts izRX11 hown hK hP 0 rfl rfl 1 (by decide) (hts _ k538) (fun _ h9 => h9) rfl dX11_tell_36 ?_
      refine va_get (D := g.1) (ci := 7) (v := .ref (a 0)) (C := RX9) (T := TX9) (N := 19) hx hb hts izRX9 hown hK hP 6 rfl rfl 8 (by decide) (hts _ k613) (fun _ h9 => h9) rfl dX11_tell_39 ?_
      refine lv_iload_n hx hb dX11_tell_42 rfl (lv_at hl 1 rfl) ?_
      refine va_iald hx hb hK hP 7 0 rfl rfl (zinK (a := 0) (b := 7) hq1_0.1 hq1_0.2 (by decide)) dX11_tell_43 ?_
      refine ztop (r := (f2_10 0 pp.toInt.toNat)) rfl ?_
      have hP : va_P g.1 vwCl (List.flatten [bDR g x ta o lo go tt lt mo fo ro fl9, bMem g mo qT qL it il ig mh me2_5 mx2_6 fT fL, bLog g go gr gz gn fr, bTown g o a pe wo tx ch jo tr dy sd f2_10, bPT g PT2_7, bPL g PL2_8]) H := hP
      have hD : va_D A (List.flatten [bDR g x ta o lo go tt lt mo fo ro fl9, bMem g mo qT qL it il ig mh me2_5 mx2_6 fT fL, bLog g go gr gz gn fr, bTown g o a pe wo tx ch jo tr dy sd f2_10, bPT g PT2_7, bPL g PL2_8]) := hD
      obtain ⟨hP, hD⟩ := zord (g := g) (Bs' := [bDR g x ta o lo go tt lt mo fo ro fl9, bTown g o a pe wo tx ch jo tr dy sd f2_10, bLog g go gr gz gn fr, bMem g mo qT qL it il ig mh me2_5 mx2_6 fT fL, bPT g PT2_7, bPL g PL2_8]) [0, 3, 2, 1, 4, 5] rfl rfl hP hD
      exact zret_i hx hb hr hlocks hS (Nat.le_of_ble_eq_true rfl) (Nat.le_of_ble_eq_true rfl) dX11_tell_44 (f2_10, me2_5, mx2_6, PT2_7, PL2_8, f2_10 0 pp.toInt.toNat) rfl (show (zZ4 f2_10) ∧ (0 ≤ me2_5.toInt ∧ me2_5.toInt ≤ 12) ∧ (0 ≤ mx2_6.toInt ∧ mx2_6.toInt ≤ 11) ∧ (zPT fT PT2_7) ∧ (zPL fL PL2_8) ∧ (zX9 (0, (f2_10 0 pp.toInt.toNat), (pe, wo, tx, ch, jo, tr, dy, sd, f2_10)) (zxTell pp (pe, wo, tx, ch, jo, tr, dy, sd, f)) ∧ zMy PT PT2_7 me.toInt me2_5.toInt mx.toInt mx2_6.toInt (pe, wo, tx, ch, jo, tr, dy, sd, f)) from ⟨(by first | assumption | omega | decide), (by first | assumption | omega | decide), (by first | assumption | omega | decide), (by first | assumption | omega | decide), (by first | assumption | omega | decide), ⟨zX9_of (Eq.symm (zxTell_0 (by omega) hq3 hq11_1)), hq9_4⟩⟩) hP hD
set_option maxRecDepth 100000 in
set_option maxHeartbeats 4000000 in
theorem c_x_tieC (l : Launch) (hfl : l.stackTraces = false) (g : zG) (x : Nat) (ta : Nat) (o : Nat) (lo : Nat) (go : Nat) (tt : Nat) (lt : Nat) (mo : Nat) (fo : Nat) (ro : Nat) (fl9 : Int32) (a : Nat → Nat) (pe : Int32) (wo : Int32) (tx : Int32) (ch : Int32) (jo : Int32) (tr : Int32) (dy : Int32) (sd : Int32) (f : Nat → Nat → Int32) (gr : Nat) (gz : Int32) (gn : Int32) (fr : Nat → Int32) (qT : Nat) (qL : Nat) (it : Nat) (il : Nat) (ig : Nat) (mh : Int32) (me : Int32) (mx : Int32) (fT : Nat → Option Nat) (fL : Nat → Option Nat) (PT : Nat → zTR) (PL : Nat → zLR) (pp : Int32) (oo : Int32) (n : Int32) (b_pe : 0 ≤ pe.toInt ∧ pe.toInt ≤ 8) (b_wo : 0 ≤ wo.toInt ∧ wo.toInt ≤ 6) (rf : zZ4 f) (b_gz : 0 ≤ gz.toInt ∧ gz.toInt ≤ 60) (b_gn : 0 ≤ gn.toInt ∧ gn.toInt ≤ 59) (b_me : 0 ≤ me.toInt ∧ me.toInt ≤ 12) (b_mx : 0 ≤ mx.toInt ∧ mx.toInt ≤ 11) (hPT : zPT fT PT) (hPL : zPL fL PL) : zX' g l yX11_tie (Cond.code yX11_tie cX11_tie 5 (some .int) :: zB) ({ frames := 8, cells := 4, slots := 24, locals := 125 } : Room) [.ref x, .int pp, .int oo, .int n] [bDR g x ta o lo go tt lt mo fo ro fl9, bTown g o a pe wo tx ch jo tr dy sd f, bLog g go gr gz gn fr, bMem g mo qT qL it il ig mh me mx fT fL, bPT g PT, bPL g PL] (fun u : (Nat → Nat → Int32) × Int32 × Int32 × (Nat → zTR) × (Nat → zLR) × Int32 => (fun (f2 : Nat → Nat → Int32) (me2 : Int32) (mx2 : Int32) (PT2 : Nat → zTR) (PL2 : Nat → zLR) (q : Int32) => some (.int q)) (u.1) (u.2.1) (u.2.2.1) (u.2.2.2.1) (u.2.2.2.2.1) (u.2.2.2.2.2)) (fun u : (Nat → Nat → Int32) × Int32 × Int32 × (Nat → zTR) × (Nat → zLR) × Int32 => (fun (f2 : Nat → Nat → Int32) (me2 : Int32) (mx2 : Int32) (PT2 : Nat → zTR) (PL2 : Nat → zLR) (q : Int32) => (zZ4 f2) ∧ (0 ≤ me2.toInt ∧ me2.toInt ≤ 12) ∧ (0 ≤ mx2.toInt ∧ mx2.toInt ≤ 11) ∧ (zPT fT PT2) ∧ (zPL fL PL2) ∧ (zX9 (0, q, (pe, wo, tx, ch, jo, tr, dy, sd, f2)) (zxTie pp oo n (pe, wo, tx, ch, jo, tr, dy, sd, f)) ∧ zMy PT PT2 me.toInt me2.toInt mx.toInt mx2.toInt (pe, wo, tx, ch, jo, tr, dy, sd, f))) (u.1) (u.2.1) (u.2.2.1) (u.2.2.2.1) (u.2.2.2.2.1) (u.2.2.2.2.2)) (fun u : (Nat → Nat → Int32) × Int32 × Int32 × (Nat → zTR) × (Nat → zLR) × Int32 => (fun (f2 : Nat → Nat → Int32) (me2 : Int32) (mx2 : Int32) (PT2 : Nat → zTR) (PL2 : Nat → zLR) (q : Int32) => [bDR g x ta o lo go tt lt mo fo ro fl9, bTown g o a pe wo tx ch jo tr dy sd f2, bLog g go gr gz gn fr, bMem g mo qT qL it il ig mh me2 mx2 fT fL, bPT g PT2, bPL g PL2]) (u.1) (u.2.1) (u.2.2.1) (u.2.2.2.1) (u.2.2.2.2.1) (u.2.2.2.2.2)) (fun (E : String) => fun u : (Nat → Nat → Int32) × Int32 × Int32 × (Nat → zTR) × (Nat → zLR) => (fun (f2 : Nat → Nat → Int32) (me2 : Int32) (mx2 : Int32) (PT2 : Nat → zTR) (PL2 : Nat → zLR) => (E = "java/lang/IndexOutOfBoundsException" ∨ E = "java/lang/IllegalArgumentException") ∧ (zZ4 f2) ∧ (0 ≤ me2.toInt ∧ me2.toInt ≤ 12) ∧ (0 ≤ mx2.toInt ∧ mx2.toInt ≤ 11) ∧ (zPT fT PT2) ∧ (zPL fL PL2) ∧ (E = "java/lang/IndexOutOfBoundsException" → zX9 (1, 0, (pe, wo, tx, ch, jo, tr, dy, sd, f)) (zxTie pp oo n (pe, wo, tx, ch, jo, tr, dy, sd, f))) ∧ (E = "java/lang/IllegalArgumentException" → zX9 (2, 0, (pe, wo, tx, ch, jo, tr, dy, sd, f)) (zxTie pp oo n (pe, wo, tx, ch, jo, tr, dy, sd, f))) ∧ ((pe, wo, tx, ch, jo, tr, dy, sd, f2) = (pe, wo, tx, ch, jo, tr, dy, sd, f)) ∧ (PT2 = PT) ∧ (me2.toInt = me.toInt) ∧ (mx2.toInt = mx.toInt)) (u.1) (u.2.1) (u.2.2.1) (u.2.2.2.1) (u.2.2.2.2)) (fun u : (Nat → Nat → Int32) × Int32 × Int32 × (Nat → zTR) × (Nat → zLR) => (fun (f2 : Nat → Nat → Int32) (me2 : Int32) (mx2 : Int32) (PT2 : Nat → zTR) (PL2 : Nat → zLR) => [bDR g x ta o lo go tt lt mo fo ro fl9, bTown g o a pe wo tx ch jo tr dy sd f2, bLog g go gr gz gn fr, bMem g mo qT qL it il ig mh me2 mx2 fT fL, bPT g PT2, bPL g PL2]) (u.1) (u.2.1) (u.2.2.1) (u.2.2.2.1) (u.2.2.2.2)) := by
  refine zX'.of (cc := cX11_tie) (maxL := 5) (rt := (some .int)) (by decide) rfl (Nat.le_of_ble_eq_true rfl) ?_
  intro p e s m args below meth c A ls St hr hlocks htab hin hK hT hA hP hD hS hl
  obtain ⟨hx, hb, hml, hown, hts⟩ := id St
  have hl : lv_has ls 5 [(0, .ref x), (1, .int pp), (2, .int oo), (3, .int n)] := hl
  refine lv_aload_n hx hb dX11_tie_0 rfl (lv_at hl 0 rfl) ?_
  refine lv_iload_n hx hb dX11_tie_1 rfl (lv_at hl 1 rfl) ?_
  refine lv_iload_n hx hb dX11_tie_2 rfl (lv_at hl 2 rfl) ?_
  refine xcallV' (g := g) (q0 := 0) (ci := 9) (As := [.int pp, .int oo]) (rest := []) St hK hT hA hP hD hS hl.1 [0, 1] [2, 3, 4, 5] rfl rfl rfl (c_x_needTwoE l hfl g x ta o lo go tt lt mo fo ro fl9 a pe wo tx ch jo tr dy sd f pp oo b_pe b_wo rf) (cwV 2 hts (zgL (zl4 k635 k636 k637 k621) k633) rfl rfl rfl (by decide +kernel) ⟨Nat.le_of_ble_eq_true rfl, Nat.le_of_ble_eq_true rfl⟩) rfl rfl rfl rfl (Nat.le_of_ble_eq_true rfl) dX11_tie_3 ⟨(Nat.le_of_ble_eq_true rfl), (Nat.le_of_ble_eq_true rfl)⟩ (fun E ce q9 u9 H locs hpx hP hD hS hce hcv hcl => ?_) (fun _u H locs hq1 hP hD hS => ?_)
  · skip
    have hpx : (E = "java/lang/IndexOutOfBoundsException" ∨ E = "java/lang/IllegalArgumentException") ∧ (E = "java/lang/IndexOutOfBoundsException" → ¬ ((0 ≤ pp.toInt ∧ pp.toInt < pe.toInt) ∧ (0 ≤ oo.toInt ∧ oo.toInt < pe.toInt))) ∧ (E = "java/lang/IllegalArgumentException" → ((0 ≤ pp.toInt ∧ pp.toInt < pe.toInt) ∧ (0 ≤ oo.toInt ∧ oo.toInt < pe.toInt)) ∧ pp.toInt = oo.toInt) := hpx
    have hP : va_P g.1 vwCl (List.flatten [bLog g go gr gz gn fr, bMem g mo qT qL it il ig mh me mx fT fL, bPT g PT, bPL g PL, bDR g x ta o lo go tt lt mo fo ro fl9, bTown g o a pe wo tx ch jo tr dy sd f]) H := hP
    have hD : va_D A (List.flatten [bLog g go gr gz gn fr, bMem g mo qT qL it il ig mh me mx fT fL, bPT g PT, bPL g PL, bDR g x ta o lo go tt lt mo fo ro fl9, bTown g o a pe wo tx ch jo tr dy sd f]) := hD
    obtain ⟨hE9, hy2, hy3⟩ := hpx
    have hP : va_P g.1 vwCl (List.flatten [bLog g go gr gz gn fr, bMem g mo qT qL it il ig mh me mx fT fL, bPT g PT, bPL g PL, bDR g x ta o lo go tt lt mo fo ro fl9, bTown g o a pe wo tx ch jo tr dy sd f]) H := hP
    have hD : va_D A (List.flatten [bLog g go gr gz gn fr, bMem g mo qT qL it il ig mh me mx fT fL, bPT g PT, bPL g PL, bDR g x ta o lo go tt lt mo fo ro fl9, bTown g o a pe wo tx ch jo tr dy sd f]) := hD
    obtain ⟨hP, hD⟩ := zord (g := g) (Bs' := [bLog g go gr gz gn fr, bMem g mo qT qL it il ig mh me mx fT fL, bDR g x ta o lo go tt lt mo fo ro fl9, bTown g o a pe wo tx ch jo tr dy sd f, bPT g PT, bPL g PL]) [0, 1, 4, 5, 2, 3] rfl rfl hP hD
    have hP : va_P g.1 vwCl (List.flatten [bLog g go gr gz gn fr, bMem g mo qT qL it il ig mh me mx fT fL, bDR g x ta o lo go tt lt mo fo ro fl9, bTown g o a pe wo tx ch jo tr dy sd f, bPT g PT, bPL g PL]) H := hP
    have hD : va_D A (List.flatten [bLog g go gr gz gn fr, bMem g mo qT qL it il ig mh me mx fT fL, bDR g x ta o lo go tt lt mo fo ro fl9, bTown g o a pe wo tx ch jo tr dy sd f, bPT g PT, bPL g PL]) := hD
    obtain ⟨hP, hD⟩ := zord (g := g) (Bs' := [bDR g x ta o lo go tt lt mo fo ro fl9, bTown g o a pe wo tx ch jo tr dy sd f, bLog g go gr gz gn fr, bMem g mo qT qL it il ig mh me mx fT fL, bPT g PT, bPL g PL]) [2, 3, 0, 1, 4, 5] rfl rfl hP hD
    exact zout htab hlocks hS (Nat.le_of_ble_eq_true rfl) (Nat.le_of_ble_eq_true rfl) hce hcv hcl (f, me, mx, PT, PL) (show (E = "java/lang/IndexOutOfBoundsException" ∨ E = "java/lang/IllegalArgumentException") ∧ (zZ4 f) ∧ (0 ≤ me.toInt ∧ me.toInt ≤ 12) ∧ (0 ≤ mx.toInt ∧ mx.toInt ≤ 11) ∧ (zPT fT PT) ∧ (zPL fL PL) ∧ (E = "java/lang/IndexOutOfBoundsException" → zX9 (1, 0, (pe, wo, tx, ch, jo, tr, dy, sd, f)) (zxTie pp oo n (pe, wo, tx, ch, jo, tr, dy, sd, f))) ∧ (E = "java/lang/IllegalArgumentException" → zX9 (2, 0, (pe, wo, tx, ch, jo, tr, dy, sd, f)) (zxTie pp oo n (pe, wo, tx, ch, jo, tr, dy, sd, f))) ∧ ((pe, wo, tx, ch, jo, tr, dy, sd, f) = (pe, wo, tx, ch, jo, tr, dy, sd, f)) ∧ (PT = PT) ∧ (me.toInt = me.toInt) ∧ (mx.toInt = mx.toInt) from ⟨hE9, (show zZ4 f from rf), (show 0 ≤ me.toInt ∧ me.toInt ≤ 12 from b_me), (show 0 ≤ mx.toInt ∧ mx.toInt ≤ 11 from b_mx), (show zPT fT PT from hPT), (show zPL fL PL from hPL), (show E = "java/lang/IndexOutOfBoundsException" → zX9 (1, 0, (pe, wo, tx, ch, jo, tr, dy, sd, f)) (zxTie pp oo n (pe, wo, tx, ch, jo, tr, dy, sd, f)) from (fun h9 => zxTie_c1 (hy2 h9))), (show E = "java/lang/IllegalArgumentException" → zX9 (2, 0, (pe, wo, tx, ch, jo, tr, dy, sd, f)) (zxTie pp oo n (pe, wo, tx, ch, jo, tr, dy, sd, f)) from (fun h9 => zxTie_c2 (hy3 h9).1 (fun q9 => q9.1 (hy3 h9).2))), (show (pe, wo, tx, ch, jo, tr, dy, sd, f) = (pe, wo, tx, ch, jo, tr, dy, sd, f) from (by first | assumption | omega | decide | exact rfl | exact zb01 (by omega) | exact Or.inl (by decide) | exact Or.inr (by first | omega | decide))), (show PT = PT from (by first | assumption | omega | decide | exact rfl | exact zb01 (by omega) | exact Or.inl (by decide) | exact Or.inr (by first | omega | decide))), (show me.toInt = me.toInt from (by first | assumption | omega | decide | exact rfl | exact zb01 (by omega) | exact Or.inl (by decide) | exact Or.inr (by first | omega | decide))), (show mx.toInt = mx.toInt from (by first | assumption | omega | decide | exact rfl | exact zb01 (by omega) | exact Or.inl (by decide) | exact Or.inr (by first | omega | decide)))⟩) hP hD
  · skip
    replace hq1 : (0 ≤ pp.toInt ∧ pp.toInt ≤ 7) ∧ (0 ≤ oo.toInt ∧ oo.toInt ≤ 7) ∧ (pp.toInt < pe.toInt ∧ oo.toInt < pe.toInt) ∧ (¬ pp.toInt = oo.toInt) := hq1
    have hP : va_P g.1 vwCl (List.flatten [bLog g go gr gz gn fr, bMem g mo qT qL it il ig mh me mx fT fL, bPT g PT, bPL g PL, bDR g x ta o lo go tt lt mo fo ro fl9, bTown g o a pe wo tx ch jo tr dy sd f]) H := hP
    have hD : va_D A (List.flatten [bLog g go gr gz gn fr, bMem g mo qT qL it il ig mh me mx fT fL, bPT g PT, bPL g PL, bDR g x ta o lo go tt lt mo fo ro fl9, bTown g o a pe wo tx ch jo tr dy sd f]) := hD
    refine W.widen (k := 3) (n := 18) (Nat.le_of_ble_eq_true rfl) (Nat.le_of_ble_eq_true rfl) ?_
    refine W.eq (g2 := F0 m 6 ls []) rfl ?_
    have hP : va_P g.1 vwCl (List.flatten [bLog g go gr gz gn fr, bMem g mo qT qL it il ig mh me mx fT fL, bPT g PT, bPL g PL, bDR g x ta o lo go tt lt mo fo ro fl9, bTown g o a pe wo tx ch jo tr dy sd f]) H := hP
    have hD : va_D A (List.flatten [bLog g go gr gz gn fr, bMem g mo qT qL it il ig mh me mx fT fL, bPT g PT, bPL g PL, bDR g x ta o lo go tt lt mo fo ro fl9, bTown g o a pe wo tx ch jo tr dy sd f]) := hD
    obtain ⟨hP, hD⟩ := zord (g := g) (Bs' := [bLog g go gr gz gn fr, bMem g mo qT qL it il ig mh me mx fT fL, bDR g x ta o lo go tt lt mo fo ro fl9, bTown g o a pe wo tx ch jo tr dy sd f, bPT g PT, bPL g PL]) [0, 1, 4, 5, 2, 3] rfl rfl hP hD
    obtain ⟨hq1_0, hq1_1, hq1_2, hq1_3⟩ := hq1
    refine lv_aload_n hx hb dX11_tie_6 rfl (lv_at hl 0 rfl) ?_
    refine lv_iload_n hx hb dX11_tie_7 rfl (lv_at hl 3 rfl) ?_
    refine lv_iconst (v := 0) hx hb dX11_tie_8 (by decide) ?_
    refine lv_bipush (v := 9) hx hb dX11_tie_9 (by decide) ?_
    refine xcallV' (g := g) (q0 := 0) (ci := 9) (As := [.int n, .int 0, .int 9]) (rest := []) St hK hT hA hP hD hS hl.1 [2] [0, 1, 3, 4, 5] rfl rfl rfl (c_x_nwE_0_9 l hfl g x ta o lo go tt lt mo fo ro fl9 n ) (cwV 3 hts (zgL (zl4 k668 k669 k670 k621) k667) rfl rfl rfl (by decide +kernel) ⟨Nat.le_of_ble_eq_true rfl, Nat.le_of_ble_eq_true rfl⟩) rfl rfl rfl rfl (Nat.le_of_ble_eq_true rfl) dX11_tie_11 ⟨(Nat.le_of_ble_eq_true rfl), (Nat.le_of_ble_eq_true rfl)⟩ (fun E ce q9 u9 H locs hpx hP hD hS hce hcv hcl => ?_) (fun _u H locs hq4 hP hD hS => ?_)
    · skip
      have hpx : (E = "java/lang/IllegalArgumentException") ∧ (¬ (0 ≤ n.toInt ∧ n.toInt ≤ 9)) := hpx
      have hP : va_P g.1 vwCl (List.flatten [bLog g go gr gz gn fr, bMem g mo qT qL it il ig mh me mx fT fL, bTown g o a pe wo tx ch jo tr dy sd f, bPT g PT, bPL g PL, bDR g x ta o lo go tt lt mo fo ro fl9]) H := hP
      have hD : va_D A (List.flatten [bLog g go gr gz gn fr, bMem g mo qT qL it il ig mh me mx fT fL, bTown g o a pe wo tx ch jo tr dy sd f, bPT g PT, bPL g PL, bDR g x ta o lo go tt lt mo fo ro fl9]) := hD
      obtain ⟨hE9, hy5⟩ := hpx
      have hP : va_P g.1 vwCl (List.flatten [bLog g go gr gz gn fr, bMem g mo qT qL it il ig mh me mx fT fL, bTown g o a pe wo tx ch jo tr dy sd f, bPT g PT, bPL g PL, bDR g x ta o lo go tt lt mo fo ro fl9]) H := hP
      have hD : va_D A (List.flatten [bLog g go gr gz gn fr, bMem g mo qT qL it il ig mh me mx fT fL, bTown g o a pe wo tx ch jo tr dy sd f, bPT g PT, bPL g PL, bDR g x ta o lo go tt lt mo fo ro fl9]) := hD
      obtain ⟨hP, hD⟩ := zord (g := g) (Bs' := [bLog g go gr gz gn fr, bMem g mo qT qL it il ig mh me mx fT fL, bTown g o a pe wo tx ch jo tr dy sd f, bDR g x ta o lo go tt lt mo fo ro fl9, bPT g PT, bPL g PL]) [0, 1, 2, 5, 3, 4] rfl rfl hP hD
      have hP : va_P g.1 vwCl (List.flatten [bLog g go gr gz gn fr, bMem g mo qT qL it il ig mh me mx fT fL, bTown g o a pe wo tx ch jo tr dy sd f, bDR g x ta o lo go tt lt mo fo ro fl9, bPT g PT, bPL g PL]) H := hP
      have hD : va_D A (List.flatten [bLog g go gr gz gn fr, bMem g mo qT qL it il ig mh me mx fT fL, bTown g o a pe wo tx ch jo tr dy sd f, bDR g x ta o lo go tt lt mo fo ro fl9, bPT g PT, bPL g PL]) := hD
      obtain ⟨hP, hD⟩ := zord (g := g) (Bs' := [bDR g x ta o lo go tt lt mo fo ro fl9, bTown g o a pe wo tx ch jo tr dy sd f, bLog g go gr gz gn fr, bMem g mo qT qL it il ig mh me mx fT fL, bPT g PT, bPL g PL]) [3, 2, 0, 1, 4, 5] rfl rfl hP hD
      exact zout htab hlocks hS (Nat.le_of_ble_eq_true rfl) (Nat.le_of_ble_eq_true rfl) hce hcv hcl (f, me, mx, PT, PL) (show (E = "java/lang/IndexOutOfBoundsException" ∨ E = "java/lang/IllegalArgumentException") ∧ (zZ4 f) ∧ (0 ≤ me.toInt ∧ me.toInt ≤ 12) ∧ (0 ≤ mx.toInt ∧ mx.toInt ≤ 11) ∧ (zPT fT PT) ∧ (zPL fL PL) ∧ (E = "java/lang/IndexOutOfBoundsException" → zX9 (1, 0, (pe, wo, tx, ch, jo, tr, dy, sd, f)) (zxTie pp oo n (pe, wo, tx, ch, jo, tr, dy, sd, f))) ∧ (E = "java/lang/IllegalArgumentException" → zX9 (2, 0, (pe, wo, tx, ch, jo, tr, dy, sd, f)) (zxTie pp oo n (pe, wo, tx, ch, jo, tr, dy, sd, f))) ∧ ((pe, wo, tx, ch, jo, tr, dy, sd, f) = (pe, wo, tx, ch, jo, tr, dy, sd, f)) ∧ (PT = PT) ∧ (me.toInt = me.toInt) ∧ (mx.toInt = mx.toInt) from ⟨(Or.inr hE9), (show zZ4 f from rf), (show 0 ≤ me.toInt ∧ me.toInt ≤ 12 from b_me), (show 0 ≤ mx.toInt ∧ mx.toInt ≤ 11 from b_mx), (show zPT fT PT from hPT), (show zPL fL PL from hPL), (show E = "java/lang/IndexOutOfBoundsException" → zX9 (1, 0, (pe, wo, tx, ch, jo, tr, dy, sd, f)) (zxTie pp oo n (pe, wo, tx, ch, jo, tr, dy, sd, f)) from (fun h9 => absurd (hE9.symm.trans h9) (by decide))), (show E = "java/lang/IllegalArgumentException" → zX9 (2, 0, (pe, wo, tx, ch, jo, tr, dy, sd, f)) (zxTie pp oo n (pe, wo, tx, ch, jo, tr, dy, sd, f)) from (fun h9 => zxTie_c2 (by omega) (by omega))), (show (pe, wo, tx, ch, jo, tr, dy, sd, f) = (pe, wo, tx, ch, jo, tr, dy, sd, f) from (by first | assumption | omega | decide | exact rfl | exact zb01 (by omega) | exact Or.inl (by decide) | exact Or.inr (by first | omega | decide))), (show PT = PT from (by first | assumption | omega | decide | exact rfl | exact zb01 (by omega) | exact Or.inl (by decide) | exact Or.inr (by first | omega | decide))), (show me.toInt = me.toInt from (by first | assumption | omega | decide | exact rfl | exact zb01 (by omega) | exact Or.inl (by decide) | exact Or.inr (by first | omega | decide))), (show mx.toInt = mx.toInt from (by first | assumption | omega | decide | exact rfl | exact zb01 (by omega) | exact Or.inl (by decide) | exact Or.inr (by first | omega | decide)))⟩) hP hD
    · skip
      replace hq4 : (0 ≤ n.toInt ∧ n.toInt ≤ 9) := hq4
      have hP : va_P g.1 vwCl (List.flatten [bLog g go gr gz gn fr, bMem g mo qT qL it il ig mh me mx fT fL, bTown g o a pe wo tx ch jo tr dy sd f, bPT g PT, bPL g PL, bDR g x ta o lo go tt lt mo fo ro fl9]) H := hP
      have hD : va_D A (List.flatten [bLog g go gr gz gn fr, bMem g mo qT qL it il ig mh me mx fT fL, bTown g o a pe wo tx ch jo tr dy sd f, bPT g PT, bPL g PL, bDR g x ta o lo go tt lt mo fo ro fl9]) := hD
      refine W.widen (k := 4) (n := 24) (Nat.le_of_ble_eq_true rfl) (Nat.le_of_ble_eq_true rfl) ?_
      refine W.eq (g2 := F0 m 14 ls []) rfl ?_
      have hP : va_P g.1 vwCl (List.flatten [bLog g go gr gz gn fr, bMem g mo qT qL it il ig mh me mx fT fL, bTown g o a pe wo tx ch jo tr dy sd f, bPT g PT, bPL g PL, bDR g x ta o lo go tt lt mo fo ro fl9]) H := hP
      have hD : va_D A (List.flatten [bLog g go gr gz gn fr, bMem g mo qT qL it il ig mh me mx fT fL, bTown g o a pe wo tx ch jo tr dy sd f, bPT g PT, bPL g PL, bDR g x ta o lo go tt lt mo fo ro fl9]) := hD
      obtain ⟨hP, hD⟩ := zord (g := g) (Bs' := [bLog g go gr gz gn fr, bMem g mo qT qL it il ig mh me mx fT fL, bTown g o a pe wo tx ch jo tr dy sd f, bDR g x ta o lo go tt lt mo fo ro fl9, bPT g PT, bPL g PL]) [0, 1, 2, 5, 3, 4] rfl rfl hP hD
      refine lv_aload_n hx hb dX11_tie_14 rfl (lv_at hl 0 rfl) ?_
      refine va_get (D := g.1) (ci := 9) (v := .ref mo) (C := RX11) (T := TX11) (N := 10) hx hb hts izRX11 hown hK hP 17 rfl rfl 6 (by decide) (hts _ k551) (fun _ h9 => h9) rfl dX11_tie_15 ?_
      refine lv_aload_n hx hb dX11_tie_18 rfl (lv_at hl 0 rfl) ?_
      refine va_get (D := g.1) (ci := 9) (v := .ref o) (C := RX11) (T := TX11) (N := 10) hx hb hts izRX11 hown hK hP 17 rfl rfl 1 (by decide) (hts _ k538) (fun _ h9 => h9) rfl dX11_tie_19 ?_
      refine lv_aload_n hx hb dX11_tie_22 rfl (lv_at hl 0 rfl) ?_
      refine va_get (D := g.1) (ci := 9) (v := .ref go) (C := RX11) (T := TX11) (N := 10) hx hb hts izRX11 hown hK hP 17 rfl rfl 3 (by decide) (hts _ k542) (fun _ h9 => h9) rfl dX11_tie_23 ?_
      refine mcallV' (g := g) (q0 := 0) (ci := 4) (As := [.ref o, .ref go]) (rest := []) St hK hT hA hP hD hS hl.1 [1, 2, 0, 4, 5] [3] rfl rfl rfl (c_m_rememberC l g mo qT qL it il ig mh me mx fT fL o a pe wo tx ch jo tr dy sd f go gr gz gn fr PT PL b_me b_mx b_pe b_wo rf b_gz b_gn hPT hPL) (cwV 2 hts (zgL (zl4 k662 k663 k664 k378) k367) rfl rfl rfl (by decide +kernel) ⟨Nat.le_of_ble_eq_true rfl, Nat.le_of_ble_eq_true rfl⟩) rfl rfl rfl rfl (Nat.le_of_ble_eq_true rfl) dX11_tie_26 ⟨(Nat.le_of_ble_eq_true rfl), (Nat.le_of_ble_eq_true rfl)⟩ (fun u_ H locs hq10 hP hD hS => ?_)
      obtain ⟨me2_6, mx2_7, PT2_8, PL2_9⟩ := u_
      replace hq10 : (0 ≤ me2_6.toInt ∧ me2_6.toInt ≤ 12) ∧ (0 ≤ mx2_7.toInt ∧ mx2_7.toInt ≤ 11) ∧ (zPT fT PT2_8) ∧ (zPL fL PL2_9) ∧ (zMy PT PT2_8 me.toInt me2_6.toInt mx.toInt mx2_7.toInt (pe, wo, tx, ch, jo, tr, dy, sd, f)) := hq10
      have hP : va_P g.1 vwCl (List.flatten [bDR g x ta o lo go tt lt mo fo ro fl9, bMem g mo qT qL it il ig mh me2_6 mx2_7 fT fL, bTown g o a pe wo tx ch jo tr dy sd f, bLog g go gr gz gn fr, bPT g PT2_8, bPL g PL2_9]) H := hP
      have hD : va_D A (List.flatten [bDR g x ta o lo go tt lt mo fo ro fl9, bMem g mo qT qL it il ig mh me2_6 mx2_7 fT fL, bTown g o a pe wo tx ch jo tr dy sd f, bLog g go gr gz gn fr, bPT g PT2_8, bPL g PL2_9]) := hD
      refine W.widen (k := 4) (n := 24) (Nat.le_of_ble_eq_true rfl) (Nat.le_of_ble_eq_true rfl) ?_
      refine W.eq (g2 := F0 m 29 ls []) rfl ?_
      obtain ⟨hq10_0, hq10_1, hq10_2, hq10_3, hq10_4⟩ := hq10
      refine lv_aload_n hx hb dX11_tie_29 rfl (lv_at hl 0 rfl) ?_
      refine va_get (D := g.1) (ci := 9) (v := .ref o) (C := RX11) (T := TX11) (N := 10) hx hb hts izRX11 hown hK hP 0 rfl rfl 1 (by decide) (hts _ k538) (fun _ h9 => h9) rfl dX11_tie_30 ?_
      refine lv_iload_n hx hb dX11_tie_33 rfl (lv_at hl 1 rfl) ?_
      refine lv_iload_n hx hb dX11_tie_34 rfl (lv_at hl 2 rfl) ?_
      refine mcallV' (g := g) (q0 := 0) (ci := 7) (As := [.int pp, .int oo]) (rest := []) St hK hT hA hP hD hS hl.1 [2] [0, 1, 3, 4, 5] rfl rfl rfl (c_trustOfF l g o a pe wo tx ch jo tr dy sd f pp oo hq1_0 hq1_1) (cwV 2 hts (zgL (zl4 k638 k90 k91 k24) k87) rfl rfl rfl (by decide +kernel) ⟨Nat.le_of_ble_eq_true rfl, Nat.le_of_ble_eq_true rfl⟩) rfl rfl rfl rfl (Nat.le_of_ble_eq_true rfl) dX11_tie_35 ⟨(Nat.le_of_ble_eq_true rfl), (Nat.le_of_ble_eq_true rfl)⟩ (fun _u H locs hq11 hP hD hS => ?_)
      have hP : va_P g.1 vwCl (List.flatten [bDR g x ta o lo go tt lt mo fo ro fl9, bMem g mo qT qL it il ig mh me2_6 mx2_7 fT fL, bLog g go gr gz gn fr, bPT g PT2_8, bPL g PL2_9, bTown g o a pe wo tx ch jo tr dy sd f]) H := hP
      have hD : va_D A (List.flatten [bDR g x ta o lo go tt lt mo fo ro fl9, bMem g mo qT qL it il ig mh me2_6 mx2_7 fT fL, bLog g go gr gz gn fr, bPT g PT2_8, bPL g PL2_9, bTown g o a pe wo tx ch jo tr dy sd f]) := hD
      refine W.widen (k := 4) (n := 24) (Nat.le_of_ble_eq_true rfl) (Nat.le_of_ble_eq_true rfl) ?_
      refine W.eq (g2 := F0 m 38 ls [.int (f 5 (8 * pp.toInt.toNat + oo.toInt.toNat))]) rfl ?_
      have hP : va_P g.1 vwCl (List.flatten [bDR g x ta o lo go tt lt mo fo ro fl9, bMem g mo qT qL it il ig mh me2_6 mx2_7 fT fL, bLog g go gr gz gn fr, bPT g PT2_8, bPL g PL2_9, bTown g o a pe wo tx ch jo tr dy sd f]) H := hP
      have hD : va_D A (List.flatten [bDR g x ta o lo go tt lt mo fo ro fl9, bMem g mo qT qL it il ig mh me2_6 mx2_7 fT fL, bLog g go gr gz gn fr, bPT g PT2_8, bPL g PL2_9, bTown g o a pe wo tx ch jo tr dy sd f]) := hD
      obtain ⟨hP, hD⟩ := zord (g := g) (Bs' := [bDR g x ta o lo go tt lt mo fo ro fl9, bMem g mo qT qL it il ig mh me2_6 mx2_7 fT fL, bLog g go gr gz gn fr, bTown g o a pe wo tx ch jo tr dy sd f, bPT g PT2_8, bPL g PL2_9]) [0, 1, 2, 5, 3, 4] rfl rfl hP hD
      refine lv_istore (lv' := [(4, .int (f 5 (8 * pp.toInt.toNat + oo.toInt.toNat))), (0, .ref x), (1, .int pp), (2, .int oo), (3, .int n)]) hx hb dX11_tie_38 hl (by decide) rfl (fun ls hl => ?_)
      refine lv_aload_n hx hb dX11_tie_40 rfl (lv_at hl 1 rfl) ?_
      refine va_get (D := g.1) (ci := 9) (v := .ref o) (C := RX11) (T := TX11) (N := 10) hx hb hts izRX11 hown hK hP 0 rfl rfl 1 (by decide) (hts _ k538) (fun _ h9 => h9) rfl dX11_tie_41 ?_
      refine lv_iload_n hx hb dX11_tie_44 rfl (lv_at hl 2 rfl) ?_
      refine lv_iload_n hx hb dX11_tie_45 rfl (lv_at hl 3 rfl) ?_
      refine lv_iload_n hx hb dX11_tie_46 rfl (lv_at hl 4 rfl) ?_
      refine mcallV' (g := g) (q0 := 0) (ci := 7) (As := [.int pp, .int oo, .int n]) (rest := []) St hK hT hA hP hD hS hl.1 [3] [0, 1, 2, 4, 5] rfl rfl rfl (c_setTrustF l g o a pe wo tx ch jo tr dy sd f pp oo n rf hq1_0 hq1_1) (cwV 3 hts (zgL (zl4 k671 k437 k438 k24) k434) rfl rfl rfl (by decide +kernel) ⟨Nat.le_of_ble_eq_true rfl, Nat.le_of_ble_eq_true rfl⟩) rfl rfl rfl rfl (Nat.le_of_ble_eq_true rfl) dX11_tie_47 ⟨(Nat.le_of_ble_eq_true rfl), (Nat.le_of_ble_eq_true rfl)⟩ (fun f2_12 H locs hq13 hP hD hS => ?_)
      replace hq13 : (zZ4 f2_12) ∧ (f2_12 = zSet f 5 (8 * pp.toInt.toNat + oo.toInt.toNat) (n)) := hq13
      have hP : va_P g.1 vwCl (List.flatten [bDR g x ta o lo go tt lt mo fo ro fl9, bMem g mo qT qL it il ig mh me2_6 mx2_7 fT fL, bLog g go gr gz gn fr, bPT g PT2_8, bPL g PL2_9, bTown g o a pe wo tx ch jo tr dy sd f2_12]) H := hP
      have hD : va_D A (List.flatten [bDR g x ta o lo go tt lt mo fo ro fl9, bMem g mo qT qL it il ig mh me2_6 mx2_7 fT fL, bLog g go gr gz gn fr, bPT g PT2_8, bPL g PL2_9, bTown g o a pe wo tx ch jo tr dy sd f2_12]) := hD
      refine W.widen (k := 4) (n := 24) (Nat.le_of_ble_eq_true rfl) (Nat.le_of_ble_eq_true rfl) ?_
      refine W.eq (g2 := F0 m 50 ls []) rfl ?_
      have hP : va_P g.1 vwCl (List.flatten [bDR g x ta o lo go tt lt mo fo ro fl9, bMem g mo qT qL it il ig mh me2_6 mx2_7 fT fL, bLog g go gr gz gn fr, bPT g PT2_8, bPL g PL2_9, bTown g o a pe wo tx ch jo tr dy sd f2_12]) H := hP
      have hD : va_D A (List.flatten [bDR g x ta o lo go tt lt mo fo ro fl9, bMem g mo qT qL it il ig mh me2_6 mx2_7 fT fL, bLog g go gr gz gn fr, bPT g PT2_8, bPL g PL2_9, bTown g o a pe wo tx ch jo tr dy sd f2_12]) := hD
      obtain ⟨hP, hD⟩ := zord (g := g) (Bs' := [bDR g x ta o lo go tt lt mo fo ro fl9, bMem g mo qT qL it il ig mh me2_6 mx2_7 fT fL, bLog g go gr gz gn fr, bTown g o a pe wo tx ch jo tr dy sd f2_12, bPT g PT2_8, bPL g PL2_9]) [0, 1, 2, 5, 3, 4] rfl rfl hP hD
      obtain ⟨rf2_12, hq13_1⟩ := hq13
      refine lv_iload hx hb dX11_tie_50 (lv_at hl 0 rfl) ?_
      have hP : va_P g.1 vwCl (List.flatten [bDR g x ta o lo go tt lt mo fo ro fl9, bMem g mo qT qL it il ig mh me2_6 mx2_7 fT fL, bLog g go gr gz gn fr, bTown g o a pe wo tx ch jo tr dy sd f2_12, bPT g PT2_8, bPL g PL2_9]) H := hP
      have hD : va_D A (List.flatten [bDR g x ta o lo go tt lt mo fo ro fl9, bMem g mo qT qL it il ig mh me2_6 mx2_7 fT fL, bLog g go gr gz gn fr, bTown g o a pe wo tx ch jo tr dy sd f2_12, bPT g PT2_8, bPL g PL2_9]) := hD
      obtain ⟨hP, hD⟩ := zord (g := g) (Bs' := [bDR g x ta o lo go tt lt mo fo ro fl9, bTown g o a pe wo tx ch jo tr dy sd f2_12, bLog g go gr gz gn fr, bMem g mo qT qL it il ig mh me2_6 mx2_7 fT fL, bPT g PT2_8, bPL g PL2_9]) [0, 3, 2, 1, 4, 5] rfl rfl hP hD
      exact zret_i hx hb hr hlocks hS (Nat.le_of_ble_eq_true rfl) (Nat.le_of_ble_eq_true rfl) dX11_tie_52 (f2_12, me2_6, mx2_7, PT2_8, PL2_9, f 5 (8 * pp.toInt.toNat + oo.toInt.toNat)) rfl (show (zZ4 f2_12) ∧ (0 ≤ me2_6.toInt ∧ me2_6.toInt ≤ 12) ∧ (0 ≤ mx2_7.toInt ∧ mx2_7.toInt ≤ 11) ∧ (zPT fT PT2_8) ∧ (zPL fL PL2_9) ∧ (zX9 (0, (f 5 (8 * pp.toInt.toNat + oo.toInt.toNat)), (pe, wo, tx, ch, jo, tr, dy, sd, f2_12)) (zxTie pp oo n (pe, wo, tx, ch, jo, tr, dy, sd, f)) ∧ zMy PT PT2_8 me.toInt me2_6.toInt mx.toInt mx2_7.toInt (pe, wo, tx, ch, jo, tr, dy, sd, f)) from ⟨(by first | assumption | omega | decide), (by first | assumption | omega | decide), (by first | assumption | omega | decide), (by first | assumption | omega | decide), (by first | assumption | omega | decide), ⟨zX9_of (Eq.symm (zxTie_0 (by omega) (by omega) (by omega) (by omega) hq13_1)), hq10_4⟩⟩) hP hD
