/-! WHAT IS ASKED: when first -/
def zFst (P : Nat → Bool) : Nat → Int32
  | 0 => -1
  | k + 1 => if (zFst P k).toInt = -1 ∧ P k = true then nI k else zFst P k
theorem zFst_0 {P : Nat → Bool} {b k : Int32} (hb : b = -1) (hk : k.toInt = 0) : b = zFst P k.toInt.toNat := by rw [hk]; exact hb
theorem zFst_y {P : Nat → Bool} {b k k' : Int32} (h : b = zFst P k.toInt.toNat) (hk : k'.toInt = k.toInt + 1) (h0 : 0 ≤ k.toInt) (hb : b.toInt = -1) (p : P k.toInt.toNat = true) : k = zFst P k'.toInt.toNat := by
  rw [show k'.toInt.toNat = k.toInt.toNat + 1 by omega]
  show k = if (zFst P k.toInt.toNat).toInt = -1 ∧ P k.toInt.toNat = true then nI k.toInt.toNat else zFst P k.toInt.toNat
  rw [← h, if_pos ⟨hb, p⟩]; exact znat h0
theorem zFst_n {P : Nat → Bool} {b k k' : Int32} (h : b = zFst P k.toInt.toNat) (hk : k'.toInt = k.toInt + 1) (h0 : 0 ≤ k.toInt) (p : ¬ (b.toInt = -1 ∧ P k.toInt.toNat = true)) : b = zFst P k'.toInt.toNat := by
  rw [show k'.toInt.toNat = k.toInt.toNat + 1 by omega]
  show b = if (zFst P k.toInt.toNat).toInt = -1 ∧ P k.toInt.toNat = true then nI k.toInt.toNat else zFst P k.toInt.toNat
  rw [← h, if_neg p]
theorem zFst_up {P : Nat → Bool} {b : Int32} {k : Nat} (h : b = zFst P k) (hb : ¬ b.toInt = -1) : ∀ d : Nat, b = zFst P (k + d)
  | 0 => h
  | d + 1 => by
    have ih := zFst_up h hb d
    show b = if (zFst P (k + d)).toInt = -1 ∧ P (k + d) = true then nI (k + d) else zFst P (k + d)
    rw [← ih, if_neg (fun q => hb q.1)]
theorem zFst_hit {P : Nat → Bool} {k : Int32} (h : (-1 : Int32) = zFst P k.toInt.toNat) (p : P k.toInt.toNat = true) (hk : 0 ≤ k.toInt ∧ k.toInt ≤ 100) : k = zFst P 101 := by
  have e : k = zFst P (k.toInt.toNat + 1) := by
    show k = if (zFst P k.toInt.toNat).toInt = -1 ∧ P k.toInt.toNat = true then nI k.toInt.toNat else zFst P k.toInt.toNat
    rw [← h, if_pos ⟨by decide, p⟩]; exact znat hk.1
  have u := zFst_up e (by omega) (101 - (k.toInt.toNat + 1))
  rw [show k.toInt.toNat + 1 + (101 - (k.toInt.toNat + 1)) = 101 by omega] at u
  exact u
theorem zFst_out {P : Nat → Bool} {b k : Int32} (h : b = zFst P k.toInt.toNat) (e : k.toInt = 101 ∨ ¬ b.toInt = -1) (l : k.toInt ≤ 101) : b = zFst P 101 := by
  rcases e with e | e
  · rw [e] at h; exact h
  · have u := zFst_up h e (101 - k.toInt.toNat)
    rw [show k.toInt.toNat + (101 - k.toInt.toNat) = 101 by omega] at u
    exact u
theorem zFst_c {P Q : Nat → Bool} (h : ∀ k, P k = Q k) : ∀ n : Nat, zFst P n = zFst Q n
  | 0 => rfl
  | n + 1 => by
    show (if (zFst P n).toInt = -1 ∧ P n = true then nI n else zFst P n) = if (zFst Q n).toInt = -1 ∧ Q n = true then nI n else zFst Q n
    rw [zFst_c h n, h n]
theorem zGo_i {L : zLw} {tl k : Int32} {s : zT9} (hk : k.toInt = 0) : zR9 s (zGo L tl k.toInt.toNat s) := by rw [hk]; exact zR9_r _
/-- so many believe by then; a work has fallen by then -/
def zPre (L : zLw) (x : Int32) (s : zT9) : Nat → Bool := fun j => decide (x.toInt ≤ (zBl9 (zGo L 0 j s)).toInt)
def zPla (L : zLw) (w : Int32) (s : zT9) : Nat → Bool := fun j => decide (((zGo L 0 j s).2.2.2.2.2.2.2.2 9 w.toInt.toNat).toInt = 2)
theorem zPre_y {L : zLw} {x q : Int32} {s d : zT9} {j : Nat} (h : zR9 d (zGo L 0 j s)) (b : d.1.toInt ≤ 8) (e : q = zBl9 d) (c : x.toInt ≤ q.toInt) : zPre L x s j = true := by
  refine decide_eq_true ?_
  rw [← zBl9_c h b, ← e]; exact c
theorem zPre_n {L : zLw} {x q : Int32} {s d : zT9} {j : Nat} (h : zR9 d (zGo L 0 j s)) (b : d.1.toInt ≤ 8) (e : q = zBl9 d) (c : ¬ x.toInt ≤ q.toInt) : ¬ zPre L x s j = true := by
  intro p
  have p2 := of_decide_eq_true p
  rw [← zBl9_c h b, ← e] at p2; exact c p2
theorem zPla_y {L : zLw} {w v : Int32} {s d : zT9} {j : Nat} (h : zR9 d (zGo L 0 j s)) (hw : w.toInt.toNat < 6) (e : v = d.2.2.2.2.2.2.2.2 9 w.toInt.toNat) (c : v.toInt = 2) : zPla L w s j = true := by
  refine decide_eq_true ?_
  rw [← h.2.2.2.2.2.2.2.2.2.2 9 w.toInt.toNat (by decide) (by decide) hw, ← e]; exact c
theorem zPla_n {L : zLw} {w v : Int32} {s d : zT9} {j : Nat} (h : zR9 d (zGo L 0 j s)) (hw : w.toInt.toNat < 6) (e : v = d.2.2.2.2.2.2.2.2 9 w.toInt.toNat) (c : ¬ v.toInt = 2) : ¬ zPla L w s j = true := by
  intro p
  have p2 := of_decide_eq_true p
  rw [← h.2.2.2.2.2.2.2.2.2.2 9 w.toInt.toNat (by decide) (by decide) hw, ← e] at p2; exact c p2
def zdReach (L : zLw) (x : Int32) (s : zT9) : Int32 × Int32 := zk2 (1 ≤ x.toInt ∧ x.toInt ≤ 792) True (zFst (zPre L x s) 101)
def zdLast (L : zLw) (w : Int32) (s : zT9) : Int32 × Int32 := zk2 (0 ≤ w.toInt ∧ w.toInt < s.2.1.toInt) True (zFst (zPla L w s) 101)
def zdSways (L : zLw) (x n : Int32) (s : zT9) : Int32 × Int32 := zk2 (0 ≤ x.toInt ∧ x.toInt < s.1.toInt) (0 ≤ n.toInt ∧ n.toInt ≤ 30) (zBl9 (zLk L (zBit x.toInt.toNat) 10 n.toInt.toNat s) - zBl9 (zLk L 0 0 n.toInt.toNat s))
theorem zdReach_c {L : zLw} {x : Int32} {s t : zT9} (h : zR9 s t) (k : zOk s) : zdReach L x s = zdReach L x t := by
  unfold zdReach
  rw [zFst_c (fun j => ?_) 101]
  unfold zPre
  rw [zBl9_c (zGo_n (L := L) (tl := 0) (n := j) h k).1 k.1.2]
theorem zdLast_c {L : zLw} {w : Int32} {s t : zT9} (h : zR9 s t) (k : zOk s) : zdLast L w s = zdLast L w t := by
  have e2 : s.2.1 = t.2.1 := h.2.1
  have b := k.2.1
  unfold zdLast
  rw [← e2]
  refine zk2_c Iff.rfl (fun _ => Iff.rfl) (fun a _ => zFst_c (fun j => ?_) 101)
  have z := (zGo_n (L := L) (tl := 0) (n := j) h k).1
  unfold zPla
  rw [z.2.2.2.2.2.2.2.2.2.2 9 w.toInt.toNat (by decide) (by decide) (by omega)]
theorem zdSways_c {L : zLw} {x n : Int32} {s t : zT9} (h : zR9 s t) (k : zOk s) : zdSways L x n s = zdSways L x n t := by
  have e1 : s.1 = t.1 := h.1
  have l := fun st9 by9 => zBl9_c (zLk_c (L := L) (st := st9) (by9 := by9) (n := n.toInt.toNat) h k) k.1.2
  unfold zdSways
  rw [← e1, l, l]
section ZH
variable {L : zLw} {x n w q q1 q2 pe wo tx ch jo tr dy sd : Int32} {f : zRw} {m : Nat → Int32} {d1 d2 : zT9}
theorem zdReach_c1 (k : ¬ (1 ≤ x.toInt ∧ x.toInt ≤ 792)) : (1, 0) = zdReach L x (pe, wo, tx, ch, jo, tr, dy, sd, f) := zk2_1 k
theorem zdReach_c0 (k : 1 ≤ x.toInt ∧ x.toInt ≤ 792) (e : q = zFst (zPre L x (pe, wo, tx, ch, jo, tr, dy, sd, f)) 101) : (0, q) = zdReach L x (pe, wo, tx, ch, jo, tr, dy, sd, f) := zk2_0 k trivial e
theorem zdReach_1 (k : ¬ (1 ≤ x.toInt ∧ x.toInt ≤ 792)) : (1, 0) = zdReach L x (zM9 m) := zk2_1 k
theorem zdReach_m (k : 1 ≤ x.toInt ∧ x.toInt ≤ 792) (e : q = zFst (zPre L x (zM9 m)) 101) : (0, q) = zdReach L x (zM9 m) := zk2_0 k trivial e
theorem zdLast_c1 (k : ¬ (0 ≤ w.toInt ∧ w.toInt < wo.toInt)) : (1, 0) = zdLast L w (pe, wo, tx, ch, jo, tr, dy, sd, f) := zk2_1 k
theorem zdLast_c0 (k : 0 ≤ w.toInt ∧ w.toInt < wo.toInt) (e : q = zFst (zPla L w (pe, wo, tx, ch, jo, tr, dy, sd, f)) 101) : (0, q) = zdLast L w (pe, wo, tx, ch, jo, tr, dy, sd, f) := zk2_0 k trivial e
theorem zdLast_1 (k : ¬ (0 ≤ w.toInt ∧ w.toInt < (m 4).toInt)) : (1, 0) = zdLast L w (zM9 m) := zk2_1 k
theorem zdLast_m (k : 0 ≤ w.toInt ∧ w.toInt < (m 4).toInt) (e : q = zFst (zPla L w (zM9 m)) 101) : (0, q) = zdLast L w (zM9 m) := zk2_0 k trivial e
theorem zdSways_c1 (k : ¬ (0 ≤ x.toInt ∧ x.toInt < pe.toInt)) : (1, 0) = zdSways L x n (pe, wo, tx, ch, jo, tr, dy, sd, f) := zk2_1 k
theorem zdSways_c2 (h : 0 ≤ x.toInt ∧ x.toInt < pe.toInt) (k : ¬ (0 ≤ n.toInt ∧ n.toInt ≤ 30)) : (2, 0) = zdSways L x n (pe, wo, tx, ch, jo, tr, dy, sd, f) := zk2_2 h k
theorem zdSways_c0 (b : 0 ≤ pe.toInt ∧ pe.toInt ≤ 8) (h : 0 ≤ x.toInt ∧ x.toInt < pe.toInt) (k : 0 ≤ n.toInt ∧ n.toInt ≤ 30) (g1 : zR9 d1 (zLk L (zBit x.toInt.toNat) 10 n.toInt.toNat (pe, wo, tx, ch, jo, tr, dy, sd, f))) (e1 : q1 = zBl9 d1) (g2 : zR9 d2 (zLk L 0 0 n.toInt.toNat (pe, wo, tx, ch, jo, tr, dy, sd, f))) (e2 : q2 = zBl9 d2) : (0, q1 - q2) = zdSways L x n (pe, wo, tx, ch, jo, tr, dy, sd, f) := zk2_0 h k (by
  have b1 : d1.1 = pe := g1.1
  have b2 : d2.1 = pe := g2.1
  rw [e1, e2, zBl9_c g1 (by rw [b1]; exact b.2), zBl9_c g2 (by rw [b2]; exact b.2)])
theorem zdSways_1 (k : ¬ (0 ≤ x.toInt ∧ x.toInt < (m 3).toInt)) : (1, 0) = zdSways L x n (zM9 m) := zk2_1 k
theorem zdSways_2 (h : 0 ≤ x.toInt ∧ x.toInt < (m 3).toInt) (k : ¬ (0 ≤ n.toInt ∧ n.toInt ≤ 30)) : (2, 0) = zdSways L x n (zM9 m) := zk2_2 h k
theorem zdSways_m (h : 0 ≤ x.toInt ∧ x.toInt < (m 3).toInt) (k : 0 ≤ n.toInt ∧ n.toInt ≤ 30) (e1 : q1 = zBl9 (zLk L (zBit x.toInt.toNat) 10 n.toInt.toNat (zM9 m))) (e2 : q2 = zBl9 (zLk L 0 0 n.toInt.toNat (zM9 m))) : (0, q1 - q2) = zdSways L x n (zM9 m) := zk2_0 h k (by rw [e1, e2])
end ZH
/-! the guru; seeds -/
def zHr9 (s : zT9) : Nat → Bool := fun x => decide ((s.2.2.2.2.2.2.2.2 3 x).toInt = -1)
theorem zHr_y {s : zT9} {x : Nat} (h : (s.2.2.2.2.2.2.2.2 3 x).toInt = -1) : zHr9 s x = true := decide_eq_true h
theorem zHr_n {s : zT9} {x : Nat} (h : ¬ (s.2.2.2.2.2.2.2.2 3 x).toInt = -1) : ¬ zHr9 s x = true := fun q => h (of_decide_eq_true q)
def zGuW (L : zLw) (n : Int32) (s : zT9) : Nat → Int32 := fun k => zBl9 (zLk L (zBit k) 10 n.toInt.toNat s)
theorem zGuW_e {L : zLw} {n q : Int32} {s d : zT9} {k : Nat} (g : zR9 d (zLk L (zBit k) 10 n.toInt.toNat s)) (e : q = zBl9 d) (b : s.1.toInt ≤ 8) : q = zGuW L n s k := by
  have b1 : d.1 = s.1 := g.1
  rw [e]; exact zBl9_c g (by rw [b1]; exact b)
theorem zGu_y {P : Nat → Bool} {W : Nat → Int32} {b k k' mo v : Int32} (h : b = zBst P W k.toInt.toNat) (I : b.toInt = -1 ∨ mo = W b.toInt.toNat) (hk : k'.toInt = k.toInt + 1) (h0 : 0 ≤ k.toInt) (p : P k.toInt.toNat = true) (e : v = W k.toInt.toNat) (c : b.toInt = -1 ∨ mo.toInt < v.toInt) : k = zBst P W k'.toInt.toNat := zBst_y h hk h0 p (by
  rcases c with c | c
  · exact Or.inl c
  · rcases I with i | i
    · exact Or.inl i
    · exact Or.inr (by rw [← i, ← e]; exact c))
theorem zGu_n {P : Nat → Bool} {W : Nat → Int32} {b k k' : Int32} (h : b = zBst P W k.toInt.toNat) (hk : k'.toInt = k.toInt + 1) (h0 : 0 ≤ k.toInt) (p : ¬ P k.toInt.toNat = true) : b = zBst P W k'.toInt.toNat := zBst_n h hk h0 (fun q => p q.1)
theorem zGu_m {P : Nat → Bool} {W : Nat → Int32} {b k k' mo v : Int32} (h : b = zBst P W k.toInt.toNat) (I : b.toInt = -1 ∨ mo = W b.toInt.toNat) (hk : k'.toInt = k.toInt + 1) (h0 : 0 ≤ k.toInt) (e : v = W k.toInt.toNat) (c : ¬ b.toInt = -1 ∧ ¬ mo.toInt < v.toInt) : b = zBst P W k'.toInt.toNat := zBst_n h hk h0 (fun q => by
  rcases I with i | i
  · exact c.1 i
  · rcases q.2 with w | w
    · exact c.1 w
    · rw [← i, ← e] at w; exact c.2 w)
def zdGuru (L : zLw) (n : Int32) (s : zT9) : Int32 × Int32 := zk2 (0 ≤ n.toInt ∧ n.toInt ≤ 30) True (zBst (zHr9 s) (zGuW L n s) s.1.toInt.toNat)
theorem zdGuru_c {L : zLw} {n : Int32} {s t : zT9} (h : zR9 s t) (k : zOk s) : zdGuru L n s = zdGuru L n t := by
  have e1 : s.1 = t.1 := h.1
  have b := k.1
  unfold zdGuru
  rw [← e1]
  refine zk2_c Iff.rfl (fun _ => Iff.rfl) (fun a _ => zBst_c s.1.toInt.toNat (by omega) (fun x hx => ?_) (fun x hx => ?_))
  · unfold zHr9
    rw [h.2.2.2.2.2.2.2.2.1 3 x (by decide) (by omega)]
  · exact zBl9_c (zLk_c (L := L) (st := zBit x) (by9 := 10) (n := n.toInt.toNat) h k) k.1.2
theorem zdGuru_c1 {L : zLw} {n pe wo tx ch jo tr dy sd : Int32} {f : zRw} (k : ¬ (0 ≤ n.toInt ∧ n.toInt ≤ 30)) : (1, 0) = zdGuru L n (pe, wo, tx, ch, jo, tr, dy, sd, f) := zk2_1 k
theorem zdGuru_c0 {L : zLw} {n q pe wo tx ch jo tr dy sd : Int32} {f : zRw} (k : 0 ≤ n.toInt ∧ n.toInt ≤ 30) (e : q = zBst (zHr9 (pe, wo, tx, ch, jo, tr, dy, sd, f)) (zGuW L n (pe, wo, tx, ch, jo, tr, dy, sd, f)) pe.toInt.toNat) : (0, q) = zdGuru L n (pe, wo, tx, ch, jo, tr, dy, sd, f) := zk2_0 k trivial e
theorem zdGuru_1 {L : zLw} {n : Int32} {m : Nat → Int32} (k : ¬ (0 ≤ n.toInt ∧ n.toInt ≤ 30)) : (1, 0) = zdGuru L n (zM9 m) := zk2_1 k
theorem zdGuru_m {L : zLw} {n q : Int32} {m : Nat → Int32} (k : 0 ≤ n.toInt ∧ n.toInt ≤ 30) (e : q = zBst (zHr9 (zM9 m)) (zGuW L n (zM9 m)) (m 3).toInt.toNat) : (0, q) = zdGuru L n (zM9 m) := zk2_0 k trivial e
/-- the utmost of so many -/
def zUt (c : Int32) (W : Nat → Int32) : Nat → Int32
  | 0 => -1
  | k + 1 => if (zUt c W k).toInt = -1 ∨ (c.toInt = 0 ∧ (W (k + 1)).toInt < (zUt c W k).toInt) ∨ (¬ c.toInt = 0 ∧ (zUt c W k).toInt < (W (k + 1)).toInt) then W (k + 1) else zUt c W k
theorem zUt_0 {c u k : Int32} {W : Nat → Int32} (h : u = -1) (hk : k.toInt = 1) : u = zUt c W (k.toInt.toNat - 1) := by rw [hk]; exact h
theorem zUt_y {c u v k k' : Int32} {W : Nat → Int32} (h : u = zUt c W (k.toInt.toNat - 1)) (hk : k'.toInt = k.toInt + 1) (h1 : 1 ≤ k.toInt) (e : v = W k.toInt.toNat) (cc : u.toInt = -1 ∨ (c.toInt = 0 ∧ v.toInt < u.toInt) ∨ (¬ c.toInt = 0 ∧ u.toInt < v.toInt)) : v = zUt c W (k'.toInt.toNat - 1) := by
  rw [show k'.toInt.toNat - 1 = (k.toInt.toNat - 1) + 1 by omega]
  have e2 : v = W (k.toInt.toNat - 1 + 1) := by rw [show k.toInt.toNat - 1 + 1 = k.toInt.toNat by omega]; exact e
  show v = if (zUt c W (k.toInt.toNat - 1)).toInt = -1 ∨ (c.toInt = 0 ∧ (W (k.toInt.toNat - 1 + 1)).toInt < (zUt c W (k.toInt.toNat - 1)).toInt) ∨ (¬ c.toInt = 0 ∧ (zUt c W (k.toInt.toNat - 1)).toInt < (W (k.toInt.toNat - 1 + 1)).toInt) then W (k.toInt.toNat - 1 + 1) else zUt c W (k.toInt.toNat - 1)
  rw [← h, ← e2, if_pos cc]
theorem zUt_n {c u v k k' : Int32} {W : Nat → Int32} (h : u = zUt c W (k.toInt.toNat - 1)) (hk : k'.toInt = k.toInt + 1) (h1 : 1 ≤ k.toInt) (e : v = W k.toInt.toNat) (cc : ¬ (u.toInt = -1 ∨ (c.toInt = 0 ∧ v.toInt < u.toInt) ∨ (¬ c.toInt = 0 ∧ u.toInt < v.toInt))) : u = zUt c W (k'.toInt.toNat - 1) := by
  rw [show k'.toInt.toNat - 1 = (k.toInt.toNat - 1) + 1 by omega]
  have e2 : v = W (k.toInt.toNat - 1 + 1) := by rw [show k.toInt.toNat - 1 + 1 = k.toInt.toNat by omega]; exact e
  show u = if (zUt c W (k.toInt.toNat - 1)).toInt = -1 ∨ (c.toInt = 0 ∧ (W (k.toInt.toNat - 1 + 1)).toInt < (zUt c W (k.toInt.toNat - 1)).toInt) ∨ (¬ c.toInt = 0 ∧ (zUt c W (k.toInt.toNat - 1)).toInt < (W (k.toInt.toNat - 1 + 1)).toInt) then W (k.toInt.toNat - 1 + 1) else zUt c W (k.toInt.toNat - 1)
  rw [← h, ← e2, if_neg cc]
theorem zUt_g {c u v q k k' : Int32} {W : Nat → Int32} (h : u = zUt c W (k.toInt.toNat - 1)) (hk : k'.toInt = k.toInt + 1) (h1 : 1 ≤ k.toInt) (e : v = W k.toInt.toNat) (hu : ¬ u.toInt = -1) (hc : ¬ c.toInt = 0) (g : u.toInt ≤ q.toInt ∧ v.toInt ≤ q.toInt ∧ (q.toInt = u.toInt ∨ q.toInt = v.toInt)) : q = zUt c W (k'.toInt.toNat - 1) := by
  by_cases p : u.toInt < v.toInt
  · have z := zUt_y h hk h1 e (Or.inr (Or.inr ⟨hc, p⟩))
    rw [← z]; exact Int32.toInt_inj.mp (by omega)
  · have z := zUt_n h hk h1 e (by omega)
    rw [← z]; exact Int32.toInt_inj.mp (by omega)
theorem zUt_l {c u v q k k' : Int32} {W : Nat → Int32} (h : u = zUt c W (k.toInt.toNat - 1)) (hk : k'.toInt = k.toInt + 1) (h1 : 1 ≤ k.toInt) (e : v = W k.toInt.toNat) (hu : ¬ u.toInt = -1) (hc : c.toInt = 0) (g : q.toInt ≤ u.toInt ∧ q.toInt ≤ v.toInt ∧ (q.toInt = u.toInt ∨ q.toInt = v.toInt)) : q = zUt c W (k'.toInt.toNat - 1) := by
  by_cases p : v.toInt < u.toInt
  · have z := zUt_y h hk h1 e (Or.inr (Or.inl ⟨hc, p⟩))
    rw [← z]; exact Int32.toInt_inj.mp (by omega)
  · have z := zUt_n h hk h1 e (by omega)
    rw [← z]; exact Int32.toInt_inj.mp (by omega)
theorem zUt_x {c u k : Int32} {W : Nat → Int32} (h : u = zUt c W (k.toInt.toNat - 1)) (e : k.toInt = 7) : u = zUt c W 6 := by rw [e] at h; exact h
theorem zUt_c {c : Int32} {W V : Nat → Int32} (e : ∀ k, W k = V k) : ∀ n : Nat, zUt c W n = zUt c V n
  | 0 => rfl
  | n + 1 => by
    show (if (zUt c W n).toInt = -1 ∨ (c.toInt = 0 ∧ (W (n + 1)).toInt < (zUt c W n).toInt) ∨ (¬ c.toInt = 0 ∧ (zUt c W n).toInt < (W (n + 1)).toInt) then W (n + 1) else zUt c W n) = if (zUt c V n).toInt = -1 ∨ (c.toInt = 0 ∧ (V (n + 1)).toInt < (zUt c V n).toInt) ∨ (¬ c.toInt = 0 ∧ (zUt c V n).toInt < (V (n + 1)).toInt) then V (n + 1) else zUt c V n
    rw [zUt_c e n, e (n + 1)]
def zsd (s : zT9) (v : Int32) : zT9 := (s.1, s.2.1, s.2.2.1, s.2.2.2.1, s.2.2.2.2.1, s.2.2.2.2.2.1, s.2.2.2.2.2.2.1, v, s.2.2.2.2.2.2.2.2)
theorem zsd_c {s t : zT9} {v : Int32} (h : zR9 s t) : zR9 (zsd s v) (zsd t v) := ⟨h.1, h.2.1, h.2.2.1, h.2.2.2.1, h.2.2.2.2.1, h.2.2.2.2.2.1, h.2.2.2.2.2.2.1, rfl, h.2.2.2.2.2.2.2.2⟩
theorem zsd_ok {s : zT9} {v : Int32} (h : zOk s) : zOk (zsd s v) := ⟨h.1, h.2.1, h.2.2.1, h.2.2.2.1, h.2.2.2.2⟩
def zSpW (L : zLw) (n : Int32) (s : zT9) : Nat → Int32 := fun k => zBl9 (zGo L 1 n.toInt.toNat (zsd s (nI k)))
theorem zSpW_e {L : zLw} {n q : Int32} {s d : zT9} {k : Int32} (h0 : 0 ≤ k.toInt) (g : zR9 d (zGo L 1 n.toInt.toNat (zsd s k))) (e : q = zBl9 d) (b : s.1.toInt ≤ 8) : q = zSpW L n s k.toInt.toNat := by
  have b1 : d.1 = s.1 := g.1
  have z : nI k.toInt.toNat = k := (znat h0).symm
  show q = zBl9 (zGo L 1 n.toInt.toNat (zsd s (nI k.toInt.toNat)))
  rw [z, e]; exact zBl9_c g (by rw [b1]; exact b)
def zdSpan (L : zLw) (n c : Int32) (s : zT9) : Int32 × Int32 := zk2 (0 ≤ n.toInt ∧ n.toInt ≤ 60) True (zUt c (zSpW L n s) 6)
theorem zdSpan_c {L : zLw} {n c : Int32} {s t : zT9} (h : zR9 s t) (k : zOk s) : zdSpan L n c s = zdSpan L n c t := by
  unfold zdSpan
  rw [zUt_c (W := zSpW L n s) (V := zSpW L n t) (fun j => zBl9_c (zGo_n (L := L) (tl := 1) (n := n.toInt.toNat) (zsd_c (v := nI j) h) (zsd_ok k)).1 k.1.2) 6]
theorem zdSpan_c1 {L : zLw} {n c pe wo tx ch jo tr dy sd : Int32} {f : zRw} (k : ¬ (0 ≤ n.toInt ∧ n.toInt ≤ 60)) : (1, 0) = zdSpan L n c (pe, wo, tx, ch, jo, tr, dy, sd, f) := zk2_1 k
theorem zdSpan_c0 {L : zLw} {n c q pe wo tx ch jo tr dy sd : Int32} {f : zRw} (k : 0 ≤ n.toInt ∧ n.toInt ≤ 60) (e : q = zUt c (zSpW L n (pe, wo, tx, ch, jo, tr, dy, sd, f)) 6) : (0, q) = zdSpan L n c (pe, wo, tx, ch, jo, tr, dy, sd, f) := zk2_0 k trivial e
theorem zdSpan_1 {L : zLw} {n c : Int32} {m : Nat → Int32} (k : ¬ (0 ≤ n.toInt ∧ n.toInt ≤ 60)) : (1, 0) = zdSpan L n c (zM9 m) := zk2_1 k
theorem zdSpan_m {L : zLw} {n c q : Int32} {m : Nat → Int32} (k : 0 ≤ n.toInt ∧ n.toInt ≤ 60) (e : q = zUt c (zSpW L n (zM9 m)) 6) : (0, q) = zdSpan L n c (zM9 m) := zk2_0 k trivial e
theorem zM9_sd {fm f0 f : Nat → Int32} {v : Int32} (h : fm = f0) (e : f = upd f0 10 v) : zR9 (zM9 f) (zsd (zM9 fm) v) := by
  subst h; subst e
  have k : ∀ i : Nat, i ≠ 10 → upd fm 10 v i = fm i := fun i h => pk_un h
  exact ⟨k 3 (by decide), k 4 (by decide), k 0 (by decide), k 5 (by decide), k 6 (by decide), k 7 (by decide), k 8 (by decide), (show upd fm 10 v 10 = v from pk_us), zVo (Or.inl (by decide))⟩
theorem zGo_e {L : zLw} {tl : Int32} {n : Nat} {s t : zT9} (h : zR9 s t) (b8 : s.1.toInt ≤ 8) (b6 : s.2.1.toInt ≤ 6) : zR9 (zGo L tl n s) (zGo L tl n t) := by
  obtain ⟨s1, s2, s3, s4, s5, s6, s7, s8, s9⟩ := s
  obtain ⟨t1, t2, t3, t4, t5, t6, t7, t8, t9⟩ := t
  obtain ⟨e1, e2, e3, e4, e5, e6, e7, e8, e9⟩ := h
  have q1 : s1 = t1 := e1
  have q2 : s2 = t2 := e2
  have q3 : s3 = t3 := e3
  have q4 : s4 = t4 := e4
  have q5 : s5 = t5 := e5
  have q6 : s6 = t6 := e6
  have q7 : s7 = t7 := e7
  have q8 : s8 = t8 := e8
  have q9 : zEq s9 t9 := e9
  subst q1; subst q2; subst q3; subst q4; subst q5; subst q6; subst q7; subst q8
  have b8' : s1.toInt ≤ 8 := b8
  have b6' : s2.toInt ≤ 6 := b6
  have z := zNds_c (L := L) (pe := s1.toInt.toNat) (wo := s2.toInt.toNat) (tr := s6) (tl := tl) (a := (s4, s7, s8, s9)) (b := (s4, s7, s8, t9)) n (by omega) (by omega) ⟨rfl, rfl, rfl, q9⟩
  exact ⟨rfl, rfl, rfl, z.1.1, rfl, rfl, z.1.2.1, z.1.2.2.1, z.1.2.2.2⟩
set_option maxRecDepth 100000 in
set_option maxHeartbeats 4000000 in
theorem c_x_swaysC (l : Launch) (hfl : l.stackTraces = false) (g : zG) (x : Nat) (ta : Nat) (o : Nat) (lo : Nat) (go : Nat) (tt : Nat) (lt : Nat) (mo : Nat) (fo : Nat) (ro : Nat) (fl9 : Int32) (a : Nat → Nat) (pe : Int32) (wo : Int32) (tx : Int32) (ch : Int32) (jo : Int32) (tr : Int32) (dy : Int32) (sd : Int32) (f : Nat → Nat → Int32) (lc : Nat) (lz : Int32) (ll : Int32) (lm : Int32) (lg : Int32) (ld : Int32) (fc : Nat → Int32) (oD : Nat) (aD : Nat → Nat) (peD : Int32) (woD : Int32) (txD : Int32) (chD : Int32) (joD : Int32) (trD : Int32) (dyD : Int32) (sdD : Int32) (fD : Nat → Nat → Int32) (pp : Int32) (n : Int32) (b_pe : 0 ≤ pe.toInt ∧ pe.toInt ≤ 8) (b_wo : 0 ≤ wo.toInt ∧ wo.toInt ≤ 6) (rf : zZ4 f) (b_lz : 0 ≤ lz.toInt ∧ lz.toInt ≤ 400) (b_peD : 0 ≤ peD.toInt ∧ peD.toInt ≤ 8) (b_woD : 0 ≤ woD.toInt ∧ woD.toInt ≤ 6) (rfD : zZ4 fD) : zX' g l yX11_sways (Cond.code yX11_sways cX11_sways 3 (some .int) :: zB) ({ frames := 7, cells := 2, slots := 12, locals := 152 } : Room) [.ref x, .int pp, .int n] [bDR g x ta o lo go tt lt mo fo ro fl9, bFo g fo o lo oD, bTown g o a pe wo tx ch jo tr dy sd f, bLaw g lo lc lz ll lm lg ld fc, bTown g oD aD peD woD txD chD joD trD dyD sdD fD] (fun u : Int32 × Int32 × Int32 × Int32 × Int32 × Int32 × Int32 × Int32 × Int32 × Int32 × Int32 × (Nat → Nat → Int32) × Int32 => (fun (lm2 : Int32) (lg2 : Int32) (ld2 : Int32) (peD2 : Int32) (woD2 : Int32) (txD2 : Int32) (chD2 : Int32) (joD2 : Int32) (trD2 : Int32) (dyD2 : Int32) (sdD2 : Int32) (fD2 : Nat → Nat → Int32) (q : Int32) => some (.int q)) (u.1) (u.2.1) (u.2.2.1) (u.2.2.2.1) (u.2.2.2.2.1) (u.2.2.2.2.2.1) (u.2.2.2.2.2.2.1) (u.2.2.2.2.2.2.2.1) (u.2.2.2.2.2.2.2.2.1) (u.2.2.2.2.2.2.2.2.2.1) (u.2.2.2.2.2.2.2.2.2.2.1) (u.2.2.2.2.2.2.2.2.2.2.2.1) (u.2.2.2.2.2.2.2.2.2.2.2.2)) (fun u : Int32 × Int32 × Int32 × Int32 × Int32 × Int32 × Int32 × Int32 × Int32 × Int32 × Int32 × (Nat → Nat → Int32) × Int32 => (fun (lm2 : Int32) (lg2 : Int32) (ld2 : Int32) (peD2 : Int32) (woD2 : Int32) (txD2 : Int32) (chD2 : Int32) (joD2 : Int32) (trD2 : Int32) (dyD2 : Int32) (sdD2 : Int32) (fD2 : Nat → Nat → Int32) (q : Int32) => (0 ≤ peD2.toInt ∧ peD2.toInt ≤ 8) ∧ (0 ≤ woD2.toInt ∧ woD2.toInt ≤ 6) ∧ (zZ4 fD2) ∧ ((0, q) = zdSways (zLwR fc lz ll) pp n (pe, wo, tx, ch, jo, tr, dy, sd, f))) (u.1) (u.2.1) (u.2.2.1) (u.2.2.2.1) (u.2.2.2.2.1) (u.2.2.2.2.2.1) (u.2.2.2.2.2.2.1) (u.2.2.2.2.2.2.2.1) (u.2.2.2.2.2.2.2.2.1) (u.2.2.2.2.2.2.2.2.2.1) (u.2.2.2.2.2.2.2.2.2.2.1) (u.2.2.2.2.2.2.2.2.2.2.2.1) (u.2.2.2.2.2.2.2.2.2.2.2.2)) (fun u : Int32 × Int32 × Int32 × Int32 × Int32 × Int32 × Int32 × Int32 × Int32 × Int32 × Int32 × (Nat → Nat → Int32) × Int32 => (fun (lm2 : Int32) (lg2 : Int32) (ld2 : Int32) (peD2 : Int32) (woD2 : Int32) (txD2 : Int32) (chD2 : Int32) (joD2 : Int32) (trD2 : Int32) (dyD2 : Int32) (sdD2 : Int32) (fD2 : Nat → Nat → Int32) (q : Int32) => [bDR g x ta o lo go tt lt mo fo ro fl9, bFo g fo o lo oD, bTown g o a pe wo tx ch jo tr dy sd f, bLaw g lo lc lz ll lm2 lg2 ld2 fc, bTown g oD aD peD2 woD2 txD2 chD2 joD2 trD2 dyD2 sdD2 fD2]) (u.1) (u.2.1) (u.2.2.1) (u.2.2.2.1) (u.2.2.2.2.1) (u.2.2.2.2.2.1) (u.2.2.2.2.2.2.1) (u.2.2.2.2.2.2.2.1) (u.2.2.2.2.2.2.2.2.1) (u.2.2.2.2.2.2.2.2.2.1) (u.2.2.2.2.2.2.2.2.2.2.1) (u.2.2.2.2.2.2.2.2.2.2.2.1) (u.2.2.2.2.2.2.2.2.2.2.2.2)) (fun (E : String) => fun u : Int32 × Int32 × Int32 × Int32 × Int32 × Int32 × Int32 × Int32 × Int32 × Int32 × Int32 × (Nat → Nat → Int32) => (fun (lm2 : Int32) (lg2 : Int32) (ld2 : Int32) (peD2 : Int32) (woD2 : Int32) (txD2 : Int32) (chD2 : Int32) (joD2 : Int32) (trD2 : Int32) (dyD2 : Int32) (sdD2 : Int32) (fD2 : Nat → Nat → Int32) => (E = "java/lang/IndexOutOfBoundsException" ∨ E = "java/lang/IllegalArgumentException") ∧ (0 ≤ peD2.toInt ∧ peD2.toInt ≤ 8) ∧ (0 ≤ woD2.toInt ∧ woD2.toInt ≤ 6) ∧ (zZ4 fD2) ∧ (E = "java/lang/IndexOutOfBoundsException" → (1, 0) = zdSways (zLwR fc lz ll) pp n (pe, wo, tx, ch, jo, tr, dy, sd, f)) ∧ (E = "java/lang/IllegalArgumentException" → (2, 0) = zdSways (zLwR fc lz ll) pp n (pe, wo, tx, ch, jo, tr, dy, sd, f))) (u.1) (u.2.1) (u.2.2.1) (u.2.2.2.1) (u.2.2.2.2.1) (u.2.2.2.2.2.1) (u.2.2.2.2.2.2.1) (u.2.2.2.2.2.2.2.1) (u.2.2.2.2.2.2.2.2.1) (u.2.2.2.2.2.2.2.2.2.1) (u.2.2.2.2.2.2.2.2.2.2.1) (u.2.2.2.2.2.2.2.2.2.2.2)) (fun u : Int32 × Int32 × Int32 × Int32 × Int32 × Int32 × Int32 × Int32 × Int32 × Int32 × Int32 × (Nat → Nat → Int32) => (fun (lm2 : Int32) (lg2 : Int32) (ld2 : Int32) (peD2 : Int32) (woD2 : Int32) (txD2 : Int32) (chD2 : Int32) (joD2 : Int32) (trD2 : Int32) (dyD2 : Int32) (sdD2 : Int32) (fD2 : Nat → Nat → Int32) => [bDR g x ta o lo go tt lt mo fo ro fl9, bFo g fo o lo oD, bTown g o a pe wo tx ch jo tr dy sd f, bLaw g lo lc lz ll lm2 lg2 ld2 fc, bTown g oD aD peD2 woD2 txD2 chD2 joD2 trD2 dyD2 sdD2 fD2]) (u.1) (u.2.1) (u.2.2.1) (u.2.2.2.1) (u.2.2.2.2.1) (u.2.2.2.2.2.1) (u.2.2.2.2.2.2.1) (u.2.2.2.2.2.2.2.1) (u.2.2.2.2.2.2.2.2.1) (u.2.2.2.2.2.2.2.2.2.1) (u.2.2.2.2.2.2.2.2.2.2.1) (u.2.2.2.2.2.2.2.2.2.2.2)) := by
  refine zX'.of (cc := cX11_sways) (maxL := 3) (rt := (some .int)) (by decide) rfl (Nat.le_of_ble_eq_true rfl) ?_
  intro p e s m args below meth c A ls St hr hlocks htab hin hK hT hA hP hD hS hl
  obtain ⟨hx, hb, hml, hown, hts⟩ := id St
  have hl : lv_has ls 3 [(0, .ref x), (1, .int pp), (2, .int n)] := hl
  refine lv_aload_n hx hb dX11_sways_0 rfl (lv_at hl 0 rfl) ?_
  refine lv_iload_n hx hb dX11_sways_1 rfl (lv_at hl 1 rfl) ?_
  refine xcallV' (g := g) (q0 := 0) (ci := 9) (As := [.int pp]) (rest := []) St hK hT hA hP hD hS hl.1 [0, 2] [1, 3, 4] rfl rfl rfl (c_x_needPersonE l hfl g x ta o lo go tt lt mo fo ro fl9 a pe wo tx ch jo tr dy sd f pp b_pe b_wo rf) (cwV 1 hts (zgL (zl4 k618 k619 k620 k621) k607) rfl rfl rfl (by decide +kernel) ⟨Nat.le_of_ble_eq_true rfl, Nat.le_of_ble_eq_true rfl⟩) rfl rfl rfl rfl (Nat.le_of_ble_eq_true rfl) dX11_sways_2 ⟨(Nat.le_of_ble_eq_true rfl), (Nat.le_of_ble_eq_true rfl)⟩ (fun E ce q9 u9 H locs hpx hP hD hS hce hcv hcl => ?_) (fun _u H locs hq1 hP hD hS => ?_)
  · skip
    have hpx : (E = "java/lang/IndexOutOfBoundsException") ∧ (¬ (0 ≤ pp.toInt ∧ pp.toInt < pe.toInt)) := hpx
    have hP : va_P g.1 vwCl (List.flatten [bFo g fo o lo oD, bLaw g lo lc lz ll lm lg ld fc, bTown g oD aD peD woD txD chD joD trD dyD sdD fD, bDR g x ta o lo go tt lt mo fo ro fl9, bTown g o a pe wo tx ch jo tr dy sd f]) H := hP
    have hD : va_D A (List.flatten [bFo g fo o lo oD, bLaw g lo lc lz ll lm lg ld fc, bTown g oD aD peD woD txD chD joD trD dyD sdD fD, bDR g x ta o lo go tt lt mo fo ro fl9, bTown g o a pe wo tx ch jo tr dy sd f]) := hD
    obtain ⟨hE9, hy2⟩ := hpx
    have hP : va_P g.1 vwCl (List.flatten [bFo g fo o lo oD, bLaw g lo lc lz ll lm lg ld fc, bTown g oD aD peD woD txD chD joD trD dyD sdD fD, bDR g x ta o lo go tt lt mo fo ro fl9, bTown g o a pe wo tx ch jo tr dy sd f]) H := hP
    have hD : va_D A (List.flatten [bFo g fo o lo oD, bLaw g lo lc lz ll lm lg ld fc, bTown g oD aD peD woD txD chD joD trD dyD sdD fD, bDR g x ta o lo go tt lt mo fo ro fl9, bTown g o a pe wo tx ch jo tr dy sd f]) := hD
    obtain ⟨hP, hD⟩ := zord (g := g) (Bs' := [bDR g x ta o lo go tt lt mo fo ro fl9, bFo g fo o lo oD, bTown g o a pe wo tx ch jo tr dy sd f, bLaw g lo lc lz ll lm lg ld fc, bTown g oD aD peD woD txD chD joD trD dyD sdD fD]) [3, 0, 4, 1, 2] rfl rfl hP hD
    exact zout htab hlocks hS (Nat.le_of_ble_eq_true rfl) (Nat.le_of_ble_eq_true rfl) hce hcv hcl (lm, lg, ld, peD, woD, txD, chD, joD, trD, dyD, sdD, fD) (show (E = "java/lang/IndexOutOfBoundsException" ∨ E = "java/lang/IllegalArgumentException") ∧ (0 ≤ peD.toInt ∧ peD.toInt ≤ 8) ∧ (0 ≤ woD.toInt ∧ woD.toInt ≤ 6) ∧ (zZ4 fD) ∧ (E = "java/lang/IndexOutOfBoundsException" → (1, 0) = zdSways (zLwR fc lz ll) pp n (pe, wo, tx, ch, jo, tr, dy, sd, f)) ∧ (E = "java/lang/IllegalArgumentException" → (2, 0) = zdSways (zLwR fc lz ll) pp n (pe, wo, tx, ch, jo, tr, dy, sd, f)) from ⟨(Or.inl hE9), (show 0 ≤ peD.toInt ∧ peD.toInt ≤ 8 from b_peD), (show 0 ≤ woD.toInt ∧ woD.toInt ≤ 6 from b_woD), (show zZ4 fD from rfD), (show E = "java/lang/IndexOutOfBoundsException" → (1, 0) = zdSways (zLwR fc lz ll) pp n (pe, wo, tx, ch, jo, tr, dy, sd, f) from (fun h9 => zdSways_c1 hy2)), (show E = "java/lang/IllegalArgumentException" → (2, 0) = zdSways (zLwR fc lz ll) pp n (pe, wo, tx, ch, jo, tr, dy, sd, f) from (fun h9 => absurd (hE9.symm.trans h9) (by decide)))⟩) hP hD
  · skip
    replace hq1 : (0 ≤ pp.toInt ∧ pp.toInt ≤ 7) ∧ (pp.toInt < pe.toInt) := hq1
    have hP : va_P g.1 vwCl (List.flatten [bFo g fo o lo oD, bLaw g lo lc lz ll lm lg ld fc, bTown g oD aD peD woD txD chD joD trD dyD sdD fD, bDR g x ta o lo go tt lt mo fo ro fl9, bTown g o a pe wo tx ch jo tr dy sd f]) H := hP
    have hD : va_D A (List.flatten [bFo g fo o lo oD, bLaw g lo lc lz ll lm lg ld fc, bTown g oD aD peD woD txD chD joD trD dyD sdD fD, bDR g x ta o lo go tt lt mo fo ro fl9, bTown g o a pe wo tx ch jo tr dy sd f]) := hD
    refine W.widen (k := 1) (n := 6) (Nat.le_of_ble_eq_true rfl) (Nat.le_of_ble_eq_true rfl) ?_
    refine W.eq (g2 := F0 m 5 ls []) rfl ?_
    obtain ⟨hq1_0, hq1_1⟩ := hq1
    refine lv_aload_n hx hb dX11_sways_5 rfl (lv_at hl 0 rfl) ?_
    refine lv_iload_n hx hb dX11_sways_6 rfl (lv_at hl 2 rfl) ?_
    refine lv_iconst (v := 0) hx hb dX11_sways_7 (by decide) ?_
    refine lv_bipush (v := 30) hx hb dX11_sways_8 (by decide) ?_
    refine xcallV' (g := g) (q0 := 0) (ci := 9) (As := [.int n, .int 0, .int 30]) (rest := []) St hK hT hA hP hD hS hl.1 [3] [0, 1, 2, 4] rfl rfl rfl (c_x_nwE_0_30 l hfl g x ta o lo go tt lt mo fo ro fl9 n ) (cwV 3 hts (zgL (zl4 k668 k669 k670 k621) k667) rfl rfl rfl (by decide +kernel) ⟨Nat.le_of_ble_eq_true rfl, Nat.le_of_ble_eq_true rfl⟩) rfl rfl rfl rfl (Nat.le_of_ble_eq_true rfl) dX11_sways_10 ⟨(Nat.le_of_ble_eq_true rfl), (Nat.le_of_ble_eq_true rfl)⟩ (fun E ce q9 u9 H locs hpx hP hD hS hce hcv hcl => ?_) (fun _u H locs hq3 hP hD hS => ?_)
    · skip
      have hpx : (E = "java/lang/IllegalArgumentException") ∧ (¬ (0 ≤ n.toInt ∧ n.toInt ≤ 30)) := hpx
      have hP : va_P g.1 vwCl (List.flatten [bFo g fo o lo oD, bLaw g lo lc lz ll lm lg ld fc, bTown g oD aD peD woD txD chD joD trD dyD sdD fD, bTown g o a pe wo tx ch jo tr dy sd f, bDR g x ta o lo go tt lt mo fo ro fl9]) H := hP
      have hD : va_D A (List.flatten [bFo g fo o lo oD, bLaw g lo lc lz ll lm lg ld fc, bTown g oD aD peD woD txD chD joD trD dyD sdD fD, bTown g o a pe wo tx ch jo tr dy sd f, bDR g x ta o lo go tt lt mo fo ro fl9]) := hD
      obtain ⟨hE9, hy4⟩ := hpx
      have hP : va_P g.1 vwCl (List.flatten [bFo g fo o lo oD, bLaw g lo lc lz ll lm lg ld fc, bTown g oD aD peD woD txD chD joD trD dyD sdD fD, bTown g o a pe wo tx ch jo tr dy sd f, bDR g x ta o lo go tt lt mo fo ro fl9]) H := hP
      have hD : va_D A (List.flatten [bFo g fo o lo oD, bLaw g lo lc lz ll lm lg ld fc, bTown g oD aD peD woD txD chD joD trD dyD sdD fD, bTown g o a pe wo tx ch jo tr dy sd f, bDR g x ta o lo go tt lt mo fo ro fl9]) := hD
      obtain ⟨hP, hD⟩ := zord (g := g) (Bs' := [bDR g x ta o lo go tt lt mo fo ro fl9, bFo g fo o lo oD, bTown g o a pe wo tx ch jo tr dy sd f, bLaw g lo lc lz ll lm lg ld fc, bTown g oD aD peD woD txD chD joD trD dyD sdD fD]) [4, 0, 3, 1, 2] rfl rfl hP hD
      exact zout htab hlocks hS (Nat.le_of_ble_eq_true rfl) (Nat.le_of_ble_eq_true rfl) hce hcv hcl (lm, lg, ld, peD, woD, txD, chD, joD, trD, dyD, sdD, fD) (show (E = "java/lang/IndexOutOfBoundsException" ∨ E = "java/lang/IllegalArgumentException") ∧ (0 ≤ peD.toInt ∧ peD.toInt ≤ 8) ∧ (0 ≤ woD.toInt ∧ woD.toInt ≤ 6) ∧ (zZ4 fD) ∧ (E = "java/lang/IndexOutOfBoundsException" → (1, 0) = zdSways (zLwR fc lz ll) pp n (pe, wo, tx, ch, jo, tr, dy, sd, f)) ∧ (E = "java/lang/IllegalArgumentException" → (2, 0) = zdSways (zLwR fc lz ll) pp n (pe, wo, tx, ch, jo, tr, dy, sd, f)) from ⟨(Or.inr hE9), (show 0 ≤ peD.toInt ∧ peD.toInt ≤ 8 from b_peD), (show 0 ≤ woD.toInt ∧ woD.toInt ≤ 6 from b_woD), (show zZ4 fD from rfD), (show E = "java/lang/IndexOutOfBoundsException" → (1, 0) = zdSways (zLwR fc lz ll) pp n (pe, wo, tx, ch, jo, tr, dy, sd, f) from (fun h9 => absurd (hE9.symm.trans h9) (by decide))), (show E = "java/lang/IllegalArgumentException" → (2, 0) = zdSways (zLwR fc lz ll) pp n (pe, wo, tx, ch, jo, tr, dy, sd, f) from (fun h9 => zdSways_c2 (by omega) hy4))⟩) hP hD
    · skip
      replace hq3 : (0 ≤ n.toInt ∧ n.toInt ≤ 30) := hq3
      have hP : va_P g.1 vwCl (List.flatten [bFo g fo o lo oD, bLaw g lo lc lz ll lm lg ld fc, bTown g oD aD peD woD txD chD joD trD dyD sdD fD, bTown g o a pe wo tx ch jo tr dy sd f, bDR g x ta o lo go tt lt mo fo ro fl9]) H := hP
      have hD : va_D A (List.flatten [bFo g fo o lo oD, bLaw g lo lc lz ll lm lg ld fc, bTown g oD aD peD woD txD chD joD trD dyD sdD fD, bTown g o a pe wo tx ch jo tr dy sd f, bDR g x ta o lo go tt lt mo fo ro fl9]) := hD
      refine W.widen (k := 2) (n := 12) (Nat.le_of_ble_eq_true rfl) (Nat.le_of_ble_eq_true rfl) ?_
      refine W.eq (g2 := F0 m 13 ls []) rfl ?_
      refine lv_aload_n hx hb dX11_sways_13 rfl (lv_at hl 0 rfl) ?_
      refine va_get (D := g.1) (ci := 9) (v := .ref fo) (C := RX11) (T := TX11) (N := 10) hx hb hts izRX11 hown hK hP 27 rfl rfl 7 (by decide) (hts _ k554) (fun _ h9 => h9) rfl dX11_sways_14 ?_
      refine lv_iconst (v := 1) hx hb dX11_sways_17 (by decide) ?_
      refine lv_iload_n hx hb dX11_sways_18 rfl (lv_at hl 1 rfl) ?_
      refine lv_ishl hx hb dX11_sways_19 ?_
      refine ztop (r := (zBit pp.toInt.toNat)) (zBit_k hq1_0.1) ?_
      refine lv_bipush (v := 10) hx hb dX11_sways_20 (by decide) ?_
      refine lv_iload_n hx hb dX11_sways_22 rfl (lv_at hl 2 rfl) ?_
      refine mcallV' (g := g) (q0 := 0) (ci := 0) (As := [.int (zBit pp.toInt.toNat), .int 10, .int n]) (rest := []) St hK hT hA hP hD hS hl.1 [0, 3, 1, 2] [4] rfl rfl rfl (c_f_lookAheadC l g fo o lo oD a pe wo tx ch jo tr dy sd f lc lz ll lm lg ld fc aD peD woD txD chD joD trD dyD sdD fD (zBit pp.toInt.toNat) 10 n b_pe b_wo rf b_lz b_peD b_woD rfD (⟨hq3.1, (Int.le_trans hq3.2 (by decide))⟩)) (cwV 3 hts (zgL (zl4 k685 k167 k168 k169) k164) rfl rfl rfl (by decide +kernel) ⟨Nat.le_of_ble_eq_true rfl, Nat.le_of_ble_eq_true rfl⟩) rfl rfl rfl rfl (Nat.le_of_ble_eq_true rfl) dX11_sways_23 ⟨(Nat.le_of_ble_eq_true rfl), (Nat.le_of_ble_eq_true rfl)⟩ (fun u_ H locs hq18 hP hD hS => ?_)
      obtain ⟨lm2_5, lg2_6, ld2_7, pe3_8, wo3_9, tx3_10, ch3_11, jo3_12, tr3_13, dy3_14, sd3_15, f3_16, q_17⟩ := u_
      replace hq18 : (0 ≤ pe3_8.toInt ∧ pe3_8.toInt ≤ 8) ∧ (0 ≤ wo3_9.toInt ∧ wo3_9.toInt ≤ 6) ∧ (zZ4 f3_16) ∧ (zR9 (pe3_8, wo3_9, tx3_10, ch3_11, jo3_12, tr3_13, dy3_14, sd3_15, f3_16) (zLk (zLwR fc lz ll) (zBit pp.toInt.toNat) 10 n.toInt.toNat (pe, wo, tx, ch, jo, tr, dy, sd, f))) ∧ (q_17 = zBl9 (pe3_8, wo3_9, tx3_10, ch3_11, jo3_12, tr3_13, dy3_14, sd3_15, f3_16)) := hq18
      have hP : va_P g.1 vwCl (List.flatten [bDR g x ta o lo go tt lt mo fo ro fl9, bFo g fo o lo oD, bTown g o a pe wo tx ch jo tr dy sd f, bLaw g lo lc lz ll lm2_5 lg2_6 ld2_7 fc, bTown g oD aD pe3_8 wo3_9 tx3_10 ch3_11 jo3_12 tr3_13 dy3_14 sd3_15 f3_16]) H := hP
      have hD : va_D A (List.flatten [bDR g x ta o lo go tt lt mo fo ro fl9, bFo g fo o lo oD, bTown g o a pe wo tx ch jo tr dy sd f, bLaw g lo lc lz ll lm2_5 lg2_6 ld2_7 fc, bTown g oD aD pe3_8 wo3_9 tx3_10 ch3_11 jo3_12 tr3_13 dy3_14 sd3_15 f3_16]) := hD
      refine W.widen (k := 2) (n := 12) (Nat.le_of_ble_eq_true rfl) (Nat.le_of_ble_eq_true rfl) ?_
      refine W.eq (g2 := F0 m 26 ls [.int q_17]) rfl ?_
      obtain ⟨hq18_0, hq18_1, rf3_16, hq18_3, hq18_4⟩ := hq18
      refine lv_aload_n hx hb dX11_sways_26 rfl (lv_at hl 0 rfl) ?_
      refine va_get (D := g.1) (ci := 9) (v := .ref fo) (C := RX11) (T := TX11) (N := 10) hx hb hts izRX11 hown hK hP 0 rfl rfl 7 (by decide) (hts _ k554) (fun _ h9 => h9) rfl dX11_sways_27 ?_
      refine lv_iconst (v := 0) hx hb dX11_sways_30 (by decide) ?_
      refine lv_iconst (v := 0) hx hb dX11_sways_31 (by decide) ?_
      refine lv_iload_n hx hb dX11_sways_32 rfl (lv_at hl 2 rfl) ?_
      refine mcallV' (g := g) (q0 := 0) (ci := 0) (As := [.int 0, .int 0, .int n]) (rest := [.int q_17]) St hK hT hA hP hD hS hl.1 [1, 2, 3, 4] [0] rfl rfl rfl (c_f_lookAheadC l g fo o lo oD a pe wo tx ch jo tr dy sd f lc lz ll lm2_5 lg2_6 ld2_7 fc aD pe3_8 wo3_9 tx3_10 ch3_11 jo3_12 tr3_13 dy3_14 sd3_15 f3_16 0 0 n b_pe b_wo rf b_lz hq18_0 hq18_1 rf3_16 (⟨hq3.1, (Int.le_trans hq3.2 (by decide))⟩)) (cwV 3 hts (zgL (zl4 k685 k167 k168 k169) k164) rfl rfl rfl (by decide +kernel) ⟨Nat.le_of_ble_eq_true rfl, Nat.le_of_ble_eq_true rfl⟩) rfl rfl rfl rfl (Nat.le_of_ble_eq_true rfl) dX11_sways_33 ⟨(Nat.le_of_ble_eq_true rfl), (Nat.le_of_ble_eq_true rfl)⟩ (fun u_ H locs hq32 hP hD hS => ?_)
      obtain ⟨lm2_19, lg2_20, ld2_21, pe3_22, wo3_23, tx3_24, ch3_25, jo3_26, tr3_27, dy3_28, sd3_29, f3_30, q_31⟩ := u_
      replace hq32 : (0 ≤ pe3_22.toInt ∧ pe3_22.toInt ≤ 8) ∧ (0 ≤ wo3_23.toInt ∧ wo3_23.toInt ≤ 6) ∧ (zZ4 f3_30) ∧ (zR9 (pe3_22, wo3_23, tx3_24, ch3_25, jo3_26, tr3_27, dy3_28, sd3_29, f3_30) (zLk (zLwR fc lz ll) 0 0 n.toInt.toNat (pe, wo, tx, ch, jo, tr, dy, sd, f))) ∧ (q_31 = zBl9 (pe3_22, wo3_23, tx3_24, ch3_25, jo3_26, tr3_27, dy3_28, sd3_29, f3_30)) := hq32
      have hP : va_P g.1 vwCl (List.flatten [bDR g x ta o lo go tt lt mo fo ro fl9, bFo g fo o lo oD, bTown g o a pe wo tx ch jo tr dy sd f, bLaw g lo lc lz ll lm2_19 lg2_20 ld2_21 fc, bTown g oD aD pe3_22 wo3_23 tx3_24 ch3_25 jo3_26 tr3_27 dy3_28 sd3_29 f3_30]) H := hP
      have hD : va_D A (List.flatten [bDR g x ta o lo go tt lt mo fo ro fl9, bFo g fo o lo oD, bTown g o a pe wo tx ch jo tr dy sd f, bLaw g lo lc lz ll lm2_19 lg2_20 ld2_21 fc, bTown g oD aD pe3_22 wo3_23 tx3_24 ch3_25 jo3_26 tr3_27 dy3_28 sd3_29 f3_30]) := hD
      refine W.widen (k := 2) (n := 12) (Nat.le_of_ble_eq_true rfl) (Nat.le_of_ble_eq_true rfl) ?_
      refine W.eq (g2 := F0 m 36 ls [.int q_31, .int q_17]) rfl ?_
      obtain ⟨hq32_0, hq32_1, rf3_30, hq32_3, hq32_4⟩ := hq32
      refine lv_isub hx hb dX11_sways_36 ?_
      have hP : va_P g.1 vwCl (List.flatten [bDR g x ta o lo go tt lt mo fo ro fl9, bFo g fo o lo oD, bTown g o a pe wo tx ch jo tr dy sd f, bLaw g lo lc lz ll lm2_19 lg2_20 ld2_21 fc, bTown g oD aD pe3_22 wo3_23 tx3_24 ch3_25 jo3_26 tr3_27 dy3_28 sd3_29 f3_30]) H := hP
      have hD : va_D A (List.flatten [bDR g x ta o lo go tt lt mo fo ro fl9, bFo g fo o lo oD, bTown g o a pe wo tx ch jo tr dy sd f, bLaw g lo lc lz ll lm2_19 lg2_20 ld2_21 fc, bTown g oD aD pe3_22 wo3_23 tx3_24 ch3_25 jo3_26 tr3_27 dy3_28 sd3_29 f3_30]) := hD
      exact zret_i hx hb hr hlocks hS (Nat.le_of_ble_eq_true rfl) (Nat.le_of_ble_eq_true rfl) dX11_sways_37 (lm2_19, lg2_20, ld2_21, pe3_22, wo3_23, tx3_24, ch3_25, jo3_26, tr3_27, dy3_28, sd3_29, f3_30, q_17 - q_31) rfl (show (0 ≤ pe3_22.toInt ∧ pe3_22.toInt ≤ 8) ∧ (0 ≤ wo3_23.toInt ∧ wo3_23.toInt ≤ 6) ∧ (zZ4 f3_30) ∧ ((0, (q_17 - q_31)) = zdSways (zLwR fc lz ll) pp n (pe, wo, tx, ch, jo, tr, dy, sd, f)) from ⟨(by first | assumption | omega | decide), (by first | assumption | omega | decide), (by first | assumption | omega | decide), (zdSways_c0 b_pe (by omega) (by omega) hq18_3 hq18_4 hq32_3 hq32_4)⟩) hP hD
set_option maxRecDepth 100000 in
set_option maxHeartbeats 4000000 in
theorem l_swaysC (l : Launch) (hfl : l.stackTraces = false) (g : zG) (x : Nat) (ta : Nat) (o : Nat) (lo : Nat) (go : Nat) (tt : Nat) (lt : Nat) (mo : Nat) (fo : Nat) (ro : Nat) (fl9 : Int32) (a : Nat → Nat) (pe : Int32) (wo : Int32) (tx : Int32) (ch : Int32) (jo : Int32) (tr : Int32) (dy : Int32) (sd : Int32) (f : Nat → Nat → Int32) (lc : Nat) (lz : Int32) (ll : Int32) (lm : Int32) (lg : Int32) (ld : Int32) (fc : Nat → Int32) (oD : Nat) (aD : Nat → Nat) (peD : Int32) (woD : Int32) (txD : Int32) (chD : Int32) (joD : Int32) (trD : Int32) (dyD : Int32) (sdD : Int32) (fD : Nat → Nat → Int32) (oa : Nat) (fz : Nat → Int64) (pp : Int32) (n : Int32) (b_pe : 0 ≤ pe.toInt ∧ pe.toInt ≤ 8) (b_wo : 0 ≤ wo.toInt ∧ wo.toInt ≤ 6) (rf : zZ4 f) (b_lz : 0 ≤ lz.toInt ∧ lz.toInt ≤ 400) (b_peD : 0 ≤ peD.toInt ∧ peD.toInt ≤ 8) (b_woD : 0 ≤ woD.toInt ∧ woD.toInt ≤ 6) (rfD : zZ4 fD) : zX' g l yL_sways (Cond.codeWith yL_sways cL_sways 5 (some .int) [(0, 10, 13, 24), (0, 10, 17, 13)] :: zB) ({ frames := 8, cells := 2, slots := 12, locals := 174 } : Room) [.ref x, .int pp, .int n, .ref oa] [bDR g x ta o lo go tt lt mo fo ro fl9, bFo g fo o lo oD, bTown g o a pe wo tx ch jo tr dy sd f, bLaw g lo lc lz ll lm lg ld fc, bTown g oD aD peD woD txD chD joD trD dyD sdD fD, bOut g oa fz] (fun u : Int32 × Int32 × Int32 × Int32 × Int32 × Int32 × Int32 × Int32 × Int32 × Int32 × Int32 × (Nat → Nat → Int32) × (Nat → Int64) × Int32 × Int32 => (fun (lm2 : Int32) (lg2 : Int32) (ld2 : Int32) (peD2 : Int32) (woD2 : Int32) (txD2 : Int32) (chD2 : Int32) (joD2 : Int32) (trD2 : Int32) (dyD2 : Int32) (sdD2 : Int32) (fD2 : Nat → Nat → Int32) (fz2 : Nat → Int64) (q : Int32) (a9 : Int32) => some (.int q)) (u.1) (u.2.1) (u.2.2.1) (u.2.2.2.1) (u.2.2.2.2.1) (u.2.2.2.2.2.1) (u.2.2.2.2.2.2.1) (u.2.2.2.2.2.2.2.1) (u.2.2.2.2.2.2.2.2.1) (u.2.2.2.2.2.2.2.2.2.1) (u.2.2.2.2.2.2.2.2.2.2.1) (u.2.2.2.2.2.2.2.2.2.2.2.1) (u.2.2.2.2.2.2.2.2.2.2.2.2.1) (u.2.2.2.2.2.2.2.2.2.2.2.2.2.1) (u.2.2.2.2.2.2.2.2.2.2.2.2.2.2)) (fun u : Int32 × Int32 × Int32 × Int32 × Int32 × Int32 × Int32 × Int32 × Int32 × Int32 × Int32 × (Nat → Nat → Int32) × (Nat → Int64) × Int32 × Int32 => (fun (lm2 : Int32) (lg2 : Int32) (ld2 : Int32) (peD2 : Int32) (woD2 : Int32) (txD2 : Int32) (chD2 : Int32) (joD2 : Int32) (trD2 : Int32) (dyD2 : Int32) (sdD2 : Int32) (fD2 : Nat → Nat → Int32) (fz2 : Nat → Int64) (q : Int32) (a9 : Int32) => (0 ≤ peD2.toInt ∧ peD2.toInt ≤ 8) ∧ (0 ≤ woD2.toInt ∧ woD2.toInt ≤ 6) ∧ (zZ4 fD2) ∧ ((q, a9) = zdSways (zLwR fc lz ll) pp n (pe, wo, tx, ch, jo, tr, dy, sd, f)) ∧ (q.toInt = 0 → fz2 0 = Int32.toInt64 a9)) (u.1) (u.2.1) (u.2.2.1) (u.2.2.2.1) (u.2.2.2.2.1) (u.2.2.2.2.2.1) (u.2.2.2.2.2.2.1) (u.2.2.2.2.2.2.2.1) (u.2.2.2.2.2.2.2.2.1) (u.2.2.2.2.2.2.2.2.2.1) (u.2.2.2.2.2.2.2.2.2.2.1) (u.2.2.2.2.2.2.2.2.2.2.2.1) (u.2.2.2.2.2.2.2.2.2.2.2.2.1) (u.2.2.2.2.2.2.2.2.2.2.2.2.2.1) (u.2.2.2.2.2.2.2.2.2.2.2.2.2.2)) (fun u : Int32 × Int32 × Int32 × Int32 × Int32 × Int32 × Int32 × Int32 × Int32 × Int32 × Int32 × (Nat → Nat → Int32) × (Nat → Int64) × Int32 × Int32 => (fun (lm2 : Int32) (lg2 : Int32) (ld2 : Int32) (peD2 : Int32) (woD2 : Int32) (txD2 : Int32) (chD2 : Int32) (joD2 : Int32) (trD2 : Int32) (dyD2 : Int32) (sdD2 : Int32) (fD2 : Nat → Nat → Int32) (fz2 : Nat → Int64) (q : Int32) (a9 : Int32) => [bDR g x ta o lo go tt lt mo fo ro fl9, bFo g fo o lo oD, bTown g o a pe wo tx ch jo tr dy sd f, bLaw g lo lc lz ll lm2 lg2 ld2 fc, bTown g oD aD peD2 woD2 txD2 chD2 joD2 trD2 dyD2 sdD2 fD2, bOut g oa fz2]) (u.1) (u.2.1) (u.2.2.1) (u.2.2.2.1) (u.2.2.2.2.1) (u.2.2.2.2.2.1) (u.2.2.2.2.2.2.1) (u.2.2.2.2.2.2.2.1) (u.2.2.2.2.2.2.2.2.1) (u.2.2.2.2.2.2.2.2.2.1) (u.2.2.2.2.2.2.2.2.2.2.1) (u.2.2.2.2.2.2.2.2.2.2.2.1) (u.2.2.2.2.2.2.2.2.2.2.2.2.1) (u.2.2.2.2.2.2.2.2.2.2.2.2.2.1) (u.2.2.2.2.2.2.2.2.2.2.2.2.2.2)) zNo zN0 := by
  refine zX'.ofH (cc := cL_sways) (maxL := 5) (rt := (some .int)) (by decide) rfl (Nat.le_of_ble_eq_true rfl) ?_
  intro p e s m args below meth c A ls St hr hlocks htab hin hK hT hA hP hD hS hl
  obtain ⟨hx, hb, hml, hown, hts⟩ := id St
  have hl : lv_has ls 5 [(0, .ref x), (1, .int pp), (2, .int n), (3, .ref oa)] := hl
  refine lv_aload_n hx hb dL_sways_0 rfl (lv_at hl 3 rfl) ?_
  refine lv_iconst (v := 0) hx hb dL_sways_1 (by decide) ?_
  refine lv_aload_n hx hb dL_sways_2 rfl (lv_at hl 0 rfl) ?_
  refine lv_iload_n hx hb dL_sways_3 rfl (lv_at hl 1 rfl) ?_
  refine lv_iload_n hx hb dL_sways_4 rfl (lv_at hl 2 rfl) ?_
  refine xcallV' (g := g) (q0 := 0) (ci := 9) (As := [.int pp, .int n]) (rest := [.int 0, .ref oa]) St hK hT hA hP hD hS hl.1 [0, 1, 2, 3, 4] [5] rfl rfl rfl (c_x_swaysC l hfl g x ta o lo go tt lt mo fo ro fl9 a pe wo tx ch jo tr dy sd f lc lz ll lm lg ld fc oD aD peD woD txD chD joD trD dyD sdD fD pp n b_pe b_wo rf b_lz b_peD b_woD rfD) (cwV 2 hts (zgL (zl4 k1220 k1221 k1222 k621) k688) rfl rfl rfl (by decide +kernel) ⟨Nat.le_of_ble_eq_true rfl, Nat.le_of_ble_eq_true rfl⟩) rfl rfl rfl rfl (Nat.le_of_ble_eq_true rfl) dL_sways_5 ⟨(Nat.le_of_ble_eq_true rfl), (Nat.le_of_ble_eq_true rfl)⟩ (fun E ce q9 u9 H locs hpx hP hD hS hce hcv hcl => ?_) (fun u_ H locs hq14 hP hD hS => ?_)
  · skip
    obtain ⟨lm2_15, lg2_16, ld2_17, peD2_18, woD2_19, txD2_20, chD2_21, joD2_22, trD2_23, dyD2_24, sdD2_25, fD2_26⟩ := u9
    have hpx : (E = "java/lang/IndexOutOfBoundsException" ∨ E = "java/lang/IllegalArgumentException") ∧ (0 ≤ peD2_18.toInt ∧ peD2_18.toInt ≤ 8) ∧ (0 ≤ woD2_19.toInt ∧ woD2_19.toInt ≤ 6) ∧ (zZ4 fD2_26) ∧ (E = "java/lang/IndexOutOfBoundsException" → (1, 0) = zdSways (zLwR fc lz ll) pp n (pe, wo, tx, ch, jo, tr, dy, sd, f)) ∧ (E = "java/lang/IllegalArgumentException" → (2, 0) = zdSways (zLwR fc lz ll) pp n (pe, wo, tx, ch, jo, tr, dy, sd, f)) := hpx
    have hP : va_P g.1 vwCl (List.flatten [bOut g oa fz, bDR g x ta o lo go tt lt mo fo ro fl9, bFo g fo o lo oD, bTown g o a pe wo tx ch jo tr dy sd f, bLaw g lo lc lz ll lm2_15 lg2_16 ld2_17 fc, bTown g oD aD peD2_18 woD2_19 txD2_20 chD2_21 joD2_22 trD2_23 dyD2_24 sdD2_25 fD2_26]) H := hP
    have hD : va_D A (List.flatten [bOut g oa fz, bDR g x ta o lo go tt lt mo fo ro fl9, bFo g fo o lo oD, bTown g o a pe wo tx ch jo tr dy sd f, bLaw g lo lc lz ll lm2_15 lg2_16 ld2_17 fc, bTown g oD aD peD2_18 woD2_19 txD2_20 chD2_21 joD2_22 trD2_23 dyD2_24 sdD2_25 fD2_26]) := hD
    obtain ⟨hE9, hy27, hy28, rfD2_26, hy29, hy30⟩ := hpx
    rcases hE9 with rfl | rfl
    · skip
      refine vx_catch hown [] ⟨0, 10, 13, 24⟩ [⟨0, 10, 17, 13⟩] (by rw [htab]; rfl) (fun z hz => absurd hz List.not_mem_nil) (by decide) (by decide) (hts _ k1165) ((hT.1.2.2.2.2.1 _ (List.mem_of_getElem? (i := 0) rfl)).use) hce hcv hcl ?_
      refine W.widen (k := 2) (n := 12) (Nat.le_of_ble_eq_true rfl) (Nat.le_of_ble_eq_true rfl) ?_
      refine lv_astore (lv' := [(4, .ref q9), (0, .ref x), (1, .int pp), (2, .int n), (3, .ref oa)]) hx hb dL_sways_13 hl (by decide) rfl (fun ls hl => ?_)
      refine lv_iconst (v := 1) hx hb dL_sways_15 (by decide) ?_
      have hL1 : (1 : Int32).toInt = 1 := by decide
      have hP : va_P g.1 vwCl (List.flatten [bOut g oa fz, bDR g x ta o lo go tt lt mo fo ro fl9, bFo g fo o lo oD, bTown g o a pe wo tx ch jo tr dy sd f, bLaw g lo lc lz ll lm2_15 lg2_16 ld2_17 fc, bTown g oD aD peD2_18 woD2_19 txD2_20 chD2_21 joD2_22 trD2_23 dyD2_24 sdD2_25 fD2_26]) H := hP
      have hD : va_D A (List.flatten [bOut g oa fz, bDR g x ta o lo go tt lt mo fo ro fl9, bFo g fo o lo oD, bTown g o a pe wo tx ch jo tr dy sd f, bLaw g lo lc lz ll lm2_15 lg2_16 ld2_17 fc, bTown g oD aD peD2_18 woD2_19 txD2_20 chD2_21 joD2_22 trD2_23 dyD2_24 sdD2_25 fD2_26]) := hD
      obtain ⟨hP, hD⟩ := zord (g := g) (Bs' := [bDR g x ta o lo go tt lt mo fo ro fl9, bFo g fo o lo oD, bTown g o a pe wo tx ch jo tr dy sd f, bLaw g lo lc lz ll lm2_15 lg2_16 ld2_17 fc, bTown g oD aD peD2_18 woD2_19 txD2_20 chD2_21 joD2_22 trD2_23 dyD2_24 sdD2_25 fD2_26, bOut g oa fz]) [1, 2, 3, 4, 5, 0] rfl rfl hP hD
      exact zret_i hx hb hr hlocks hS (Nat.le_of_ble_eq_true rfl) (Nat.le_of_ble_eq_true rfl) dL_sways_16 (lm2_15, lg2_16, ld2_17, peD2_18, woD2_19, txD2_20, chD2_21, joD2_22, trD2_23, dyD2_24, sdD2_25, fD2_26, fz, (1 : Int32), (0 : Int32)) rfl (show (0 ≤ peD2_18.toInt ∧ peD2_18.toInt ≤ 8) ∧ (0 ≤ woD2_19.toInt ∧ woD2_19.toInt ≤ 6) ∧ (zZ4 fD2_26) ∧ ((1, 0) = zdSways (zLwR fc lz ll) pp n (pe, wo, tx, ch, jo, tr, dy, sd, f)) ∧ ((1 : Int32).toInt = 0 → fz 0 = Int32.toInt64 0) from ⟨(by first | assumption | omega | decide), (by first | assumption | omega | decide), (by first | assumption | omega | decide), (hy29 rfl), (fun h9 => absurd h9 (by decide))⟩) hP hD
    · skip
      refine vx_catch hown [⟨0, 10, 13, 24⟩] ⟨0, 10, 17, 13⟩ [] (by rw [htab]; rfl) (fun z hz => by
            rcases List.mem_cons.mp hz with rfl | hz; · exact Or.inr ⟨by decide, "java/lang/IndexOutOfBoundsException", hts _ k1165, hT.1.2.2.2.2.2.1 _ (List.mem_of_getElem? (i := 4) rfl)⟩
            cases hz) (by decide) (by decide) (hts _ k1155) ((hT.1.2.2.2.2.1 _ (List.mem_of_getElem? (i := 1) rfl)).use) hce hcv hcl ?_
      refine W.widen (k := 2) (n := 12) (Nat.le_of_ble_eq_true rfl) (Nat.le_of_ble_eq_true rfl) ?_
      refine lv_astore (lv' := [(4, .ref q9), (0, .ref x), (1, .int pp), (2, .int n), (3, .ref oa)]) hx hb dL_sways_17 hl (by decide) rfl (fun ls hl => ?_)
      refine lv_iconst (v := 2) hx hb dL_sways_19 (by decide) ?_
      have hL2 : (2 : Int32).toInt = 2 := by decide
      have hP : va_P g.1 vwCl (List.flatten [bOut g oa fz, bDR g x ta o lo go tt lt mo fo ro fl9, bFo g fo o lo oD, bTown g o a pe wo tx ch jo tr dy sd f, bLaw g lo lc lz ll lm2_15 lg2_16 ld2_17 fc, bTown g oD aD peD2_18 woD2_19 txD2_20 chD2_21 joD2_22 trD2_23 dyD2_24 sdD2_25 fD2_26]) H := hP
      have hD : va_D A (List.flatten [bOut g oa fz, bDR g x ta o lo go tt lt mo fo ro fl9, bFo g fo o lo oD, bTown g o a pe wo tx ch jo tr dy sd f, bLaw g lo lc lz ll lm2_15 lg2_16 ld2_17 fc, bTown g oD aD peD2_18 woD2_19 txD2_20 chD2_21 joD2_22 trD2_23 dyD2_24 sdD2_25 fD2_26]) := hD
      obtain ⟨hP, hD⟩ := zord (g := g) (Bs' := [bDR g x ta o lo go tt lt mo fo ro fl9, bFo g fo o lo oD, bTown g o a pe wo tx ch jo tr dy sd f, bLaw g lo lc lz ll lm2_15 lg2_16 ld2_17 fc, bTown g oD aD peD2_18 woD2_19 txD2_20 chD2_21 joD2_22 trD2_23 dyD2_24 sdD2_25 fD2_26, bOut g oa fz]) [1, 2, 3, 4, 5, 0] rfl rfl hP hD
      exact zret_i hx hb hr hlocks hS (Nat.le_of_ble_eq_true rfl) (Nat.le_of_ble_eq_true rfl) dL_sways_20 (lm2_15, lg2_16, ld2_17, peD2_18, woD2_19, txD2_20, chD2_21, joD2_22, trD2_23, dyD2_24, sdD2_25, fD2_26, fz, (2 : Int32), (0 : Int32)) rfl (show (0 ≤ peD2_18.toInt ∧ peD2_18.toInt ≤ 8) ∧ (0 ≤ woD2_19.toInt ∧ woD2_19.toInt ≤ 6) ∧ (zZ4 fD2_26) ∧ ((2, 0) = zdSways (zLwR fc lz ll) pp n (pe, wo, tx, ch, jo, tr, dy, sd, f)) ∧ ((2 : Int32).toInt = 0 → fz 0 = Int32.toInt64 0) from ⟨(by first | assumption | omega | decide), (by first | assumption | omega | decide), (by first | assumption | omega | decide), (hy30 rfl), (fun h9 => absurd h9 (by decide))⟩) hP hD
  · skip
    obtain ⟨lm2_1, lg2_2, ld2_3, peD2_4, woD2_5, txD2_6, chD2_7, joD2_8, trD2_9, dyD2_10, sdD2_11, fD2_12, q_13⟩ := u_
    replace hq14 : (0 ≤ peD2_4.toInt ∧ peD2_4.toInt ≤ 8) ∧ (0 ≤ woD2_5.toInt ∧ woD2_5.toInt ≤ 6) ∧ (zZ4 fD2_12) ∧ ((0, q_13) = zdSways (zLwR fc lz ll) pp n (pe, wo, tx, ch, jo, tr, dy, sd, f)) := hq14
    have hP : va_P g.1 vwCl (List.flatten [bOut g oa fz, bDR g x ta o lo go tt lt mo fo ro fl9, bFo g fo o lo oD, bTown g o a pe wo tx ch jo tr dy sd f, bLaw g lo lc lz ll lm2_1 lg2_2 ld2_3 fc, bTown g oD aD peD2_4 woD2_5 txD2_6 chD2_7 joD2_8 trD2_9 dyD2_10 sdD2_11 fD2_12]) H := hP
    have hD : va_D A (List.flatten [bOut g oa fz, bDR g x ta o lo go tt lt mo fo ro fl9, bFo g fo o lo oD, bTown g o a pe wo tx ch jo tr dy sd f, bLaw g lo lc lz ll lm2_1 lg2_2 ld2_3 fc, bTown g oD aD peD2_4 woD2_5 txD2_6 chD2_7 joD2_8 trD2_9 dyD2_10 sdD2_11 fD2_12]) := hD
    refine W.widen (k := 2) (n := 12) (Nat.le_of_ble_eq_true rfl) (Nat.le_of_ble_eq_true rfl) ?_
    refine W.eq (g2 := F0 m 8 ls [.int q_13, .int 0, .ref oa]) rfl ?_
    obtain ⟨hq14_0, hq14_1, rfD2_12, hq14_3⟩ := hq14
    refine lv_i2l (v := (q_13 : Int32).toInt64) hx hb dL_sways_8 rfl ?_
    refine va_last hx hb hK hP hD hS 0 2 rfl rfl (zin rfl) dL_sways_9 (fun H locs hP hD hS => ?_)
    have hP : va_P g.1 vwCl (List.flatten [[(oa, .inl (g.2 2, 1, .inr (.inl (vp_updL fz 0 ((q_13 : Int32).toInt64)))))], bDR g x ta o lo go tt lt mo fo ro fl9, bFo g fo o lo oD, bTown g o a pe wo tx ch jo tr dy sd f, bLaw g lo lc lz ll lm2_1 lg2_2 ld2_3 fc, bTown g oD aD peD2_4 woD2_5 txD2_6 chD2_7 joD2_8 trD2_9 dyD2_10 sdD2_11 fD2_12]) H := hP
    have hD : va_D A (List.flatten [[(oa, .inl (g.2 2, 1, .inr (.inl (vp_updL fz 0 ((q_13 : Int32).toInt64)))))], bDR g x ta o lo go tt lt mo fo ro fl9, bFo g fo o lo oD, bTown g o a pe wo tx ch jo tr dy sd f, bLaw g lo lc lz ll lm2_1 lg2_2 ld2_3 fc, bTown g oD aD peD2_4 woD2_5 txD2_6 chD2_7 joD2_8 trD2_9 dyD2_10 sdD2_11 fD2_12]) := hD
    refine lv_goto (tgt := 21) hx hb dL_sways_10 (by decide) ?_
    refine lv_iconst (v := 0) hx hb dL_sways_21 (by decide) ?_
    have hL0 : (0 : Int32).toInt = 0 := by decide
    have hP : va_P g.1 vwCl (List.flatten [bOut g oa (vp_updL fz 0 ((q_13 : Int32).toInt64)), bDR g x ta o lo go tt lt mo fo ro fl9, bFo g fo o lo oD, bTown g o a pe wo tx ch jo tr dy sd f, bLaw g lo lc lz ll lm2_1 lg2_2 ld2_3 fc, bTown g oD aD peD2_4 woD2_5 txD2_6 chD2_7 joD2_8 trD2_9 dyD2_10 sdD2_11 fD2_12]) H := hP
    have hD : va_D A (List.flatten [bOut g oa (vp_updL fz 0 ((q_13 : Int32).toInt64)), bDR g x ta o lo go tt lt mo fo ro fl9, bFo g fo o lo oD, bTown g o a pe wo tx ch jo tr dy sd f, bLaw g lo lc lz ll lm2_1 lg2_2 ld2_3 fc, bTown g oD aD peD2_4 woD2_5 txD2_6 chD2_7 joD2_8 trD2_9 dyD2_10 sdD2_11 fD2_12]) := hD
    obtain ⟨hP, hD⟩ := zord (g := g) (Bs' := [bDR g x ta o lo go tt lt mo fo ro fl9, bFo g fo o lo oD, bTown g o a pe wo tx ch jo tr dy sd f, bLaw g lo lc lz ll lm2_1 lg2_2 ld2_3 fc, bTown g oD aD peD2_4 woD2_5 txD2_6 chD2_7 joD2_8 trD2_9 dyD2_10 sdD2_11 fD2_12, bOut g oa (vp_updL fz 0 ((q_13 : Int32).toInt64))]) [1, 2, 3, 4, 5, 0] rfl rfl hP hD
    exact zret_i hx hb hr hlocks hS (Nat.le_of_ble_eq_true rfl) (Nat.le_of_ble_eq_true rfl) dL_sways_22 (lm2_1, lg2_2, ld2_3, peD2_4, woD2_5, txD2_6, chD2_7, joD2_8, trD2_9, dyD2_10, sdD2_11, fD2_12, vp_updL fz 0 ((q_13 : Int32).toInt64), (0 : Int32), q_13) rfl (show (0 ≤ peD2_4.toInt ∧ peD2_4.toInt ≤ 8) ∧ (0 ≤ woD2_5.toInt ∧ woD2_5.toInt ≤ 6) ∧ (zZ4 fD2_12) ∧ ((0, q_13) = zdSways (zLwR fc lz ll) pp n (pe, wo, tx, ch, jo, tr, dy, sd, f)) ∧ ((0 : Int32).toInt = 0 → (vp_updL fz 0 ((q_13 : Int32).toInt64)) 0 = Int32.toInt64 q_13) from ⟨(by first | assumption | omega | decide), (by first | assumption | omega | decide), (by first | assumption | omega | decide), hq14_3, (fun _ => rfl)⟩) hP hD
set_option maxRecDepth 100000 in
set_option maxHeartbeats 4000000 in
theorem m_swaysEC (l : Launch) (g : zG) (o : Nat) (a : Nat → Nat) (th : Int32) (hi : Int32) (ac : Int32) (tp : Int32) (ba : Int32) (en : Int32) (tA : Int32) (fl : Int32) (de : Int32) (iD : Int32) (iO : Int32) (tU : Int32) (fm : Nat → Int32) (fk : Nat → Int32) (fa : Nat → Int32) (fc : Nat → Int32) (ft : Nat → Int32) (ff : Nat → Int32) (fb : Nat → Int32) (fi : Nat → Int32) (x : Int32) (n : Int32) (L : zLw) (rfm : rM fm) (rfa : rM fa) (hiD : 0 ≤ iD.toInt ∧ iD.toInt ≤ 1) (hiO : 0 ≤ iO.toInt ∧ iO.toInt ≤ 1) (hrg : zRg (zV fm)) (hL : zLm L fm) : zM' g l yX12_sways (Cond.code yX12_sways cX12_sways 3 (some .int) :: zB) ({ frames := 34, cells := 0, slots := 0, locals := 761 } : Room) [.ref o, .int x, .int n] [bMo g o a th hi ac tp ba en tA fl de iD iO tU fm fk fa fc ft ff fb fi] (fun u : Int32 × (Nat → Int32) × (Nat → Int32) × Int32 × Int32 × Int32 × Int32 × Int32 × Int32 × Int32 × (Nat → Int32) × (Nat → Int32) × Int32 => (fun (th2 : Int32) (fm2 : Nat → Int32) (fa2 : Nat → Int32) (ba2 : Int32) (en2 : Int32) (at2 : Int32) (de2 : Int32) (iD2 : Int32) (iO2 : Int32) (tU2 : Int32) (ff2 : Nat → Int32) (fb2 : Nat → Int32) (q : Int32) => some (.int q)) (u.1) (u.2.1) (u.2.2.1) (u.2.2.2.1) (u.2.2.2.2.1) (u.2.2.2.2.2.1) (u.2.2.2.2.2.2.1) (u.2.2.2.2.2.2.2.1) (u.2.2.2.2.2.2.2.2.1) (u.2.2.2.2.2.2.2.2.2.1) (u.2.2.2.2.2.2.2.2.2.2.1) (u.2.2.2.2.2.2.2.2.2.2.2.1) (u.2.2.2.2.2.2.2.2.2.2.2.2)) (fun u : Int32 × (Nat → Int32) × (Nat → Int32) × Int32 × Int32 × Int32 × Int32 × Int32 × Int32 × Int32 × (Nat → Int32) × (Nat → Int32) × Int32 => (fun (th2 : Int32) (fm2 : Nat → Int32) (fa2 : Nat → Int32) (ba2 : Int32) (en2 : Int32) (at2 : Int32) (de2 : Int32) (iD2 : Int32) (iO2 : Int32) (tU2 : Int32) (ff2 : Nat → Int32) (fb2 : Nat → Int32) (q : Int32) => (0 ≤ iO2.toInt ∧ iO2.toInt ≤ 1) ∧ (0 ≤ iD2.toInt ∧ iD2.toInt ≤ 1) ∧ (rM fa2) ∧ (rM fm2) ∧ ((th2, q) = zdSways L x n (zM9 fm)) ∧ (fm = fm2)) (u.1) (u.2.1) (u.2.2.1) (u.2.2.2.1) (u.2.2.2.2.1) (u.2.2.2.2.2.1) (u.2.2.2.2.2.2.1) (u.2.2.2.2.2.2.2.1) (u.2.2.2.2.2.2.2.2.1) (u.2.2.2.2.2.2.2.2.2.1) (u.2.2.2.2.2.2.2.2.2.2.1) (u.2.2.2.2.2.2.2.2.2.2.2.1) (u.2.2.2.2.2.2.2.2.2.2.2.2)) (fun u : Int32 × (Nat → Int32) × (Nat → Int32) × Int32 × Int32 × Int32 × Int32 × Int32 × Int32 × Int32 × (Nat → Int32) × (Nat → Int32) × Int32 => (fun (th2 : Int32) (fm2 : Nat → Int32) (fa2 : Nat → Int32) (ba2 : Int32) (en2 : Int32) (at2 : Int32) (de2 : Int32) (iD2 : Int32) (iO2 : Int32) (tU2 : Int32) (ff2 : Nat → Int32) (fb2 : Nat → Int32) (q : Int32) => [bMo g o a th2 hi ac tp ba2 en2 at2 fl de2 iD2 iO2 tU2 fm2 fk fa2 fc ft ff2 fb2 fi]) (u.1) (u.2.1) (u.2.2.1) (u.2.2.2.1) (u.2.2.2.2.1) (u.2.2.2.2.2.1) (u.2.2.2.2.2.2.1) (u.2.2.2.2.2.2.2.1) (u.2.2.2.2.2.2.2.2.1) (u.2.2.2.2.2.2.2.2.2.1) (u.2.2.2.2.2.2.2.2.2.2.1) (u.2.2.2.2.2.2.2.2.2.2.2.1) (u.2.2.2.2.2.2.2.2.2.2.2.2)) := by
  refine zM'.of (cc := cX12_sways) (maxL := 3) (rt := (some .int)) (by decide) rfl (Nat.le_of_ble_eq_true rfl) ?_
  intro p e s m args below meth c A ls St hr hlocks hin hK hT hA hP hD hS hl
  obtain ⟨hx, hb, hml, hown, hts⟩ := id St
  have hl : lv_has ls 3 [(0, .ref o), (1, .int x), (2, .int n)] := hl
  have hrm3 := rM3 rfm
  have hrm4 := rM4 rfm
  refine lv_aload_n hx hb dX12_sways_0 rfl (lv_at hl 0 rfl) ?_
  refine lv_aload_n hx hb dX12_sways_1 rfl (lv_at hl 0 rfl) ?_
  refine lv_iload_n hx hb dX12_sways_2 rfl (lv_at hl 1 rfl) ?_
  refine mcallV' (g := g) (q0 := 0) (ci := 10) (As := [.int x]) (rest := [.ref o]) St hK hT hA hP hD hS hl.1 [0] [] rfl rfl rfl (m_isPersonG l g o a th hi ac tp ba en tA fl de iD iO tU fm fk fa fc ft ff fb fi x rfm) (cwV 1 hts (zgL (zl4 k1033 k1034 k1035 k839) k836) rfl rfl rfl (by decide +kernel) ⟨Nat.le_of_ble_eq_true rfl, Nat.le_of_ble_eq_true rfl⟩) rfl rfl rfl rfl (Nat.le_of_ble_eq_true rfl) dX12_sways_3 ⟨(Nat.le_of_ble_eq_true rfl), (Nat.le_of_ble_eq_true rfl)⟩ (fun q_1 H locs hq2 hP hD hS => ?_)
  replace hq2 : (q_1 = 1 ∧ 0 ≤ x.toInt ∧ x.toInt ≤ 7 ∧ x.toInt < (fm 3).toInt ∨ q_1 = 0 ∧ ¬ (0 ≤ x.toInt ∧ x.toInt < (fm 3).toInt)) := hq2
  have hP : va_P g.1 vwCl (List.flatten [bMo g o a th hi ac tp ba en tA fl de iD iO tU fm fk fa fc ft ff fb fi]) H := hP
  have hD : va_D A (List.flatten [bMo g o a th hi ac tp ba en tA fl de iD iO tU fm fk fa fc ft ff fb fi]) := hD
  refine W.widen (k := 0) (n := 0) (Nat.le_of_ble_eq_true rfl) (Nat.le_of_ble_eq_true rfl) ?_
  refine W.eq (g2 := F0 m 6 ls [.int q_1, .ref o]) rfl ?_
  rcases hq2 with ⟨rfl, hq2_k⟩ | ⟨rfl, hq2_k⟩
  · skip
    refine lv_if_ne (tgt := 13) hx hb dX12_sways_6 (by decide) (fun _ => ?_) (fun c3 => absurd c3 (by decide))
    refine lv_iload_n hx hb dX12_sways_13 rfl (lv_at hl 2 rfl) ?_
    refine lv_iconst (v := 0) hx hb dX12_sways_14 (by decide) ?_
    refine lv_bipush (v := 30) hx hb dX12_sways_15 (by decide) ?_
    have hL0 : (0 : Int32).toInt = 0 := by decide
    have hL30 : (30 : Int32).toInt = 30 := by decide
    refine mcallS' (g := g) (As := [.int n, .int 0, .int 30]) (rest := [.ref o]) St hK hT hA hP hD hS hl.1 [] [0] rfl rfl rfl (m_isIn l g n 0 30 ) (va_cwS 3 hts (zgL (zl3 k837 k838 k839) k826) rfl rfl rfl (by decide +kernel) ⟨Nat.le_of_ble_eq_true rfl, Nat.le_of_ble_eq_true rfl⟩) rfl rfl (Nat.le_of_ble_eq_true rfl) dX12_sways_17 ⟨(Nat.le_of_ble_eq_true rfl), (Nat.le_of_ble_eq_true rfl)⟩ (fun q_4 H locs hq5 hP hD hS => ?_)
    replace hq5 : (q_4 = 1 ∧ (0 : Int32).toInt ≤ n.toInt ∧ n.toInt ≤ (30 : Int32).toInt ∨ q_4 = 0 ∧ (n.toInt < (0 : Int32).toInt ∨ (30 : Int32).toInt < n.toInt)) := hq5
    have hP : va_P g.1 vwCl (List.flatten [bMo g o a th hi ac tp ba en tA fl de iD iO tU fm fk fa fc ft ff fb fi]) H := hP
    have hD : va_D A (List.flatten [bMo g o a th hi ac tp ba en tA fl de iD iO tU fm fk fa fc ft ff fb fi]) := hD
    refine W.widen (k := 0) (n := 0) (Nat.le_of_ble_eq_true rfl) (Nat.le_of_ble_eq_true rfl) ?_
    refine W.eq (g2 := F0 m 20 ls [.int q_4, .ref o]) rfl ?_
    rcases hq5 with ⟨rfl, hq5_k⟩ | ⟨rfl, hq5_k⟩
    · skip
      refine lv_if_ne (tgt := 27) hx hb dX12_sways_20 (by decide) (fun _ => ?_) (fun c6 => absurd c6 (by decide))
      refine lv_iconst (v := 0) hx hb dX12_sways_27 (by decide) ?_
      refine va_put (D := g.1) (ci := 10) (v := .int 0) (ty := .int) (C := RX12) (T := TX12) (N := 20) hx hb hts izRX12 tyX12 tyX12_ok nmX12 hown hK hP hD hS 0 rfl rfl 0 (by decide) (hts _ k825) (fun _ h9 => h9) rfl (by decide +kernel) rfl rfl (Nat.le_of_ble_eq_true rfl) dX12_sways_28 (fun H locs hP hD hS => ?_)
      have hP : va_P g.1 vwCl (List.flatten [bMo g o a 0 hi ac tp ba en tA fl de iD iO tU fm fk fa fc ft ff fb fi]) H := hP
      have hD : va_D A (List.flatten [bMo g o a 0 hi ac tp ba en tA fl de iD iO tU fm fk fa fc ft ff fb fi]) := hD
      refine lv_aload_n hx hb dX12_sways_31 rfl (lv_at hl 0 rfl) ?_
      refine va_get (D := g.1) (ci := 10) (v := .int 0) (C := RX12) (T := TX12) (N := 20) hx hb hts izRX12 hown hK hP 0 rfl rfl 0 (by decide) (hts _ k825) (fun _ h9 => h9) rfl dX12_sways_32 ?_
      refine lv_if_le (tgt := 42) hx hb dX12_sways_35 (by decide) (fun _ => ?_) (fun c7 => absurd (by decide) c7)
      refine lv_aload_n hx hb dX12_sways_42 rfl (lv_at hl 0 rfl) ?_
      refine lv_iload_n hx hb dX12_sways_43 rfl (lv_at hl 2 rfl) ?_
      refine lv_iconst (v := 1) hx hb dX12_sways_44 (by decide) ?_
      refine lv_iload_n hx hb dX12_sways_45 rfl (lv_at hl 1 rfl) ?_
      refine lv_ishl hx hb dX12_sways_46 ?_
      refine ztop (r := (zBit x.toInt.toNat)) (zBit_k (by omega)) ?_
      refine lv_bipush (v := 10) hx hb dX12_sways_47 (by decide) ?_
      refine mcallV' (g := g) (q0 := 0) (ci := 10) (As := [.int n, .int (zBit x.toInt.toNat), .int 10]) (rest := []) St hK hT hA hP hD hS hl.1 [0] [] rfl rfl rfl (m_believedByC l g o a 0 hi ac tp ba en tA fl de iD iO tU fm fk fa fc ft ff fb fi n (zBit x.toInt.toNat) 10 L rfm rfa hiD hiO (by first | assumption | omega | decide | exact Or.inl (by decide) | exact Or.inr (by decide)) hrg hL) (cwV 3 hts (zgL (zl4 k1066 k1067 k1068 k839) k1064) rfl rfl rfl (by decide +kernel) ⟨Nat.le_of_ble_eq_true rfl, Nat.le_of_ble_eq_true rfl⟩) rfl rfl rfl rfl (Nat.le_of_ble_eq_true rfl) dX12_sways_49 ⟨(Nat.le_of_ble_eq_true rfl), (Nat.le_of_ble_eq_true rfl)⟩ (fun u_ H locs hq20 hP hD hS => ?_)
      obtain ⟨fm2_8, fa2_9, ba2_10, en2_11, at2_12, de2_13, iD2_14, iO2_15, tU2_16, ff2_17, fb2_18, q_19⟩ := u_
      replace hq20 : (0 ≤ iO2_15.toInt ∧ iO2_15.toInt ≤ 1) ∧ (0 ≤ iD2_14.toInt ∧ iD2_14.toInt ≤ 1) ∧ (rM fa2_9) ∧ (rM fm2_8) ∧ (q_19 = zBl9 (zLk L (zBit x.toInt.toNat) 10 n.toInt.toNat (zM9 fm))) ∧ (fm = fm2_8) := hq20
      have hP : va_P g.1 vwCl (List.flatten [bMo g o a 0 hi ac tp ba2_10 en2_11 at2_12 fl de2_13 iD2_14 iO2_15 tU2_16 fm2_8 fk fa2_9 fc ft ff2_17 fb2_18 fi]) H := hP
      have hD : va_D A (List.flatten [bMo g o a 0 hi ac tp ba2_10 en2_11 at2_12 fl de2_13 iD2_14 iO2_15 tU2_16 fm2_8 fk fa2_9 fc ft ff2_17 fb2_18 fi]) := hD
      refine W.widen (k := 0) (n := 0) (Nat.le_of_ble_eq_true rfl) (Nat.le_of_ble_eq_true rfl) ?_
      refine W.eq (g2 := F0 m 52 ls [.int q_19]) rfl ?_
      obtain ⟨hq20_0, hq20_1, rfa2_9, rfm2_8, hq20_4, hq20_5⟩ := hq20
      rcases hq20_5 with rfl
      · skip
        refine lv_aload_n hx hb dX12_sways_52 rfl (lv_at hl 0 rfl) ?_
        refine lv_iload_n hx hb dX12_sways_53 rfl (lv_at hl 2 rfl) ?_
        refine lv_iconst (v := 0) hx hb dX12_sways_54 (by decide) ?_
        refine lv_iconst (v := 0) hx hb dX12_sways_55 (by decide) ?_
        refine mcallV' (g := g) (q0 := 0) (ci := 10) (As := [.int n, .int 0, .int 0]) (rest := [.int q_19]) St hK hT hA hP hD hS hl.1 [0] [] rfl rfl rfl (m_believedByC l g o a 0 hi ac tp ba2_10 en2_11 at2_12 fl de2_13 iD2_14 iO2_15 tU2_16 fm fk fa2_9 fc ft ff2_17 fb2_18 fi n 0 0 L rfm rfa2_9 hq20_1 hq20_0 (by first | assumption | omega | decide | exact Or.inl (by decide) | exact Or.inr (by decide)) hrg hL) (cwV 3 hts (zgL (zl4 k1066 k1067 k1068 k839) k1064) rfl rfl rfl (by decide +kernel) ⟨Nat.le_of_ble_eq_true rfl, Nat.le_of_ble_eq_true rfl⟩) rfl rfl rfl rfl (Nat.le_of_ble_eq_true rfl) dX12_sways_56 ⟨(Nat.le_of_ble_eq_true rfl), (Nat.le_of_ble_eq_true rfl)⟩ (fun u_ H locs hq33 hP hD hS => ?_)
        obtain ⟨fm2_21, fa2_22, ba2_23, en2_24, at2_25, de2_26, iD2_27, iO2_28, tU2_29, ff2_30, fb2_31, q_32⟩ := u_
        replace hq33 : (0 ≤ iO2_28.toInt ∧ iO2_28.toInt ≤ 1) ∧ (0 ≤ iD2_27.toInt ∧ iD2_27.toInt ≤ 1) ∧ (rM fa2_22) ∧ (rM fm2_21) ∧ (q_32 = zBl9 (zLk L 0 0 n.toInt.toNat (zM9 fm))) ∧ (fm = fm2_21) := hq33
        have hP : va_P g.1 vwCl (List.flatten [bMo g o a 0 hi ac tp ba2_23 en2_24 at2_25 fl de2_26 iD2_27 iO2_28 tU2_29 fm2_21 fk fa2_22 fc ft ff2_30 fb2_31 fi]) H := hP
        have hD : va_D A (List.flatten [bMo g o a 0 hi ac tp ba2_23 en2_24 at2_25 fl de2_26 iD2_27 iO2_28 tU2_29 fm2_21 fk fa2_22 fc ft ff2_30 fb2_31 fi]) := hD
        refine W.widen (k := 0) (n := 0) (Nat.le_of_ble_eq_true rfl) (Nat.le_of_ble_eq_true rfl) ?_
        refine W.eq (g2 := F0 m 59 ls [.int q_32, .int q_19]) rfl ?_
        obtain ⟨hq33_0, hq33_1, rfa2_22, rfm2_21, hq33_4, hq33_5⟩ := hq33
        rcases hq33_5 with rfl
        · skip
          refine lv_isub hx hb dX12_sways_59 ?_
          have hP : va_P g.1 vwCl (List.flatten [bMo g o a 0 hi ac tp ba2_23 en2_24 at2_25 fl de2_26 iD2_27 iO2_28 tU2_29 fm fk fa2_22 fc ft ff2_30 fb2_31 fi]) H := hP
          have hD : va_D A (List.flatten [bMo g o a 0 hi ac tp ba2_23 en2_24 at2_25 fl de2_26 iD2_27 iO2_28 tU2_29 fm fk fa2_22 fc ft ff2_30 fb2_31 fi]) := hD
          exact mret_i hx hb hr hlocks hS (Nat.le_of_ble_eq_true rfl) (Nat.le_of_ble_eq_true rfl) dX12_sways_60 ((0 : Int32), fm, fa2_22, ba2_23, en2_24, at2_25, de2_26, iD2_27, iO2_28, tU2_29, ff2_30, fb2_31, q_19 - q_32) rfl (show (0 ≤ iO2_28.toInt ∧ iO2_28.toInt ≤ 1) ∧ (0 ≤ iD2_27.toInt ∧ iD2_27.toInt ≤ 1) ∧ (rM fa2_22) ∧ (rM fm) ∧ ((0, (q_19 - q_32)) = zdSways L x n (zM9 fm)) ∧ (fm = fm) from ⟨(by first | assumption | omega | decide), (by first | assumption | omega | decide), (by first | assumption | omega | decide), (by first | assumption | omega | decide), (zdSways_m (by omega) (by omega) hq20_4 hq33_4), rfl⟩) hP hD
    · skip
      refine lv_if_ne (tgt := 27) hx hb dX12_sways_20 (by decide) (fun c34 => absurd (by decide) c34) (fun _ => ?_)
      refine lv_iconst (v := 2) hx hb dX12_sways_23 (by decide) ?_
      refine lv_goto (tgt := 28) hx hb dX12_sways_24 (by decide) ?_
      refine va_put (D := g.1) (ci := 10) (v := .int 2) (ty := .int) (C := RX12) (T := TX12) (N := 20) hx hb hts izRX12 tyX12 tyX12_ok nmX12 hown hK hP hD hS 0 rfl rfl 0 (by decide) (hts _ k825) (fun _ h9 => h9) rfl (by decide +kernel) rfl rfl (Nat.le_of_ble_eq_true rfl) dX12_sways_28 (fun H locs hP hD hS => ?_)
      have hP : va_P g.1 vwCl (List.flatten [bMo g o a 2 hi ac tp ba en tA fl de iD iO tU fm fk fa fc ft ff fb fi]) H := hP
      have hD : va_D A (List.flatten [bMo g o a 2 hi ac tp ba en tA fl de iD iO tU fm fk fa fc ft ff fb fi]) := hD
      refine lv_aload_n hx hb dX12_sways_31 rfl (lv_at hl 0 rfl) ?_
      refine va_get (D := g.1) (ci := 10) (v := .int 2) (C := RX12) (T := TX12) (N := 20) hx hb hts izRX12 hown hK hP 0 rfl rfl 0 (by decide) (hts _ k825) (fun _ h9 => h9) rfl dX12_sways_32 ?_
      refine lv_if_le (tgt := 42) hx hb dX12_sways_35 (by decide) (fun c35 => absurd c35 (by decide)) (fun _ => ?_)
      refine lv_iconst (v := 0) hx hb dX12_sways_38 (by decide) ?_
      refine lv_goto (tgt := 60) hx hb dX12_sways_39 (by decide) ?_
      have hP : va_P g.1 vwCl (List.flatten [bMo g o a 2 hi ac tp ba en tA fl de iD iO tU fm fk fa fc ft ff fb fi]) H := hP
      have hD : va_D A (List.flatten [bMo g o a 2 hi ac tp ba en tA fl de iD iO tU fm fk fa fc ft ff fb fi]) := hD
      exact mret_i hx hb hr hlocks hS (Nat.le_of_ble_eq_true rfl) (Nat.le_of_ble_eq_true rfl) dX12_sways_60 ((2 : Int32), fm, fa, ba, en, tA, de, iD, iO, tU, ff, fb, (0 : Int32)) rfl (show (0 ≤ iO.toInt ∧ iO.toInt ≤ 1) ∧ (0 ≤ iD.toInt ∧ iD.toInt ≤ 1) ∧ (rM fa) ∧ (rM fm) ∧ ((2, 0) = zdSways L x n (zM9 fm)) ∧ (fm = fm) from ⟨(by first | assumption | omega | decide), (by first | assumption | omega | decide), (by first | assumption | omega | decide), (by first | assumption | omega | decide), (zdSways_2 (by omega) (by omega)), rfl⟩) hP hD
  · skip
    refine lv_if_ne (tgt := 13) hx hb dX12_sways_6 (by decide) (fun c36 => absurd (by decide) c36) (fun _ => ?_)
    refine lv_iconst (v := 1) hx hb dX12_sways_9 (by decide) ?_
    refine lv_goto (tgt := 28) hx hb dX12_sways_10 (by decide) ?_
    refine va_put (D := g.1) (ci := 10) (v := .int 1) (ty := .int) (C := RX12) (T := TX12) (N := 20) hx hb hts izRX12 tyX12 tyX12_ok nmX12 hown hK hP hD hS 0 rfl rfl 0 (by decide) (hts _ k825) (fun _ h9 => h9) rfl (by decide +kernel) rfl rfl (Nat.le_of_ble_eq_true rfl) dX12_sways_28 (fun H locs hP hD hS => ?_)
    have hP : va_P g.1 vwCl (List.flatten [bMo g o a 1 hi ac tp ba en tA fl de iD iO tU fm fk fa fc ft ff fb fi]) H := hP
    have hD : va_D A (List.flatten [bMo g o a 1 hi ac tp ba en tA fl de iD iO tU fm fk fa fc ft ff fb fi]) := hD
    refine lv_aload_n hx hb dX12_sways_31 rfl (lv_at hl 0 rfl) ?_
    refine va_get (D := g.1) (ci := 10) (v := .int 1) (C := RX12) (T := TX12) (N := 20) hx hb hts izRX12 hown hK hP 0 rfl rfl 0 (by decide) (hts _ k825) (fun _ h9 => h9) rfl dX12_sways_32 ?_
    refine lv_if_le (tgt := 42) hx hb dX12_sways_35 (by decide) (fun c37 => absurd c37 (by decide)) (fun _ => ?_)
    refine lv_iconst (v := 0) hx hb dX12_sways_38 (by decide) ?_
    refine lv_goto (tgt := 60) hx hb dX12_sways_39 (by decide) ?_
    have hP : va_P g.1 vwCl (List.flatten [bMo g o a 1 hi ac tp ba en tA fl de iD iO tU fm fk fa fc ft ff fb fi]) H := hP
    have hD : va_D A (List.flatten [bMo g o a 1 hi ac tp ba en tA fl de iD iO tU fm fk fa fc ft ff fb fi]) := hD
    exact mret_i hx hb hr hlocks hS (Nat.le_of_ble_eq_true rfl) (Nat.le_of_ble_eq_true rfl) dX12_sways_60 ((1 : Int32), fm, fa, ba, en, tA, de, iD, iO, tU, ff, fb, (0 : Int32)) rfl (show (0 ≤ iO.toInt ∧ iO.toInt ≤ 1) ∧ (0 ≤ iD.toInt ∧ iD.toInt ≤ 1) ∧ (rM fa) ∧ (rM fm) ∧ ((1, 0) = zdSways L x n (zM9 fm)) ∧ (fm = fm) from ⟨(by first | assumption | omega | decide), (by first | assumption | omega | decide), (by first | assumption | omega | decide), (by first | assumption | omega | decide), (zdSways_1 (by omega)), rfl⟩) hP hD
