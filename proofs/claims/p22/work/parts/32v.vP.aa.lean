/-! WHAT IS ASKED: when first -/
def zFst (P : Nat → Bool) : Nat → Int32
  | 0 => -1
  | k + 1 => if (zFst P k).toInt = -1 ∧ P k = true then nI k else zFst P k
theorem zFst_0 {P : Nat → Bool} {b k : Int32} (hb : b = -1) (hk : k.toInt = 0) : b = zFst P k.toInt.toNat := by rw [hk]; exact hb
theorem zFst_y {P : Nat → Bool} {b k k' : Int32} (h : b = zFst P k.toInt.toNat) (hk : k'.toInt = k.toInt + 1) (h0 : 0 ≤ k.toInt) (hb : b.toInt = -1) (p : P k.toInt.toNat = true) : k = zFst P k'.toInt.toNat := by
  rw [show k'.toInt.toNat = k.toInt.toNat + 1 by omega]
  show k = if (zFst P k.toInt.toNat).toInt = -1 ∧ P k.toInt.toNat = true then nI k.toInt.toNat else zFst P k.toInt.toNat
  rw [← h, if_pos ⟨hb, p⟩]; exact znat h0
theorem zFst_n {P : Nat → Bool} {b k k' : Int32} (h : b = zFst P k.toInt.toNat) (hk : k'.toInt = k.toInt + 1) (h0 : 0 ≤ k.toInt) (p : ¬ (b.toInt = -1 ∧ P k.toInt.toNat = true)) : b = zFst P k'.toInt.toNat := by
  rw [show k'.toInt.toNat = k.toInt.toNat + 1 by omega]
  show b = if (zFst P k.toInt.toNat).toInt = -1 ∧ P k.toInt.toNat = true then nI k.toInt.toNat else zFst P k.toInt.toNat
  rw [← h, if_neg p]
theorem zFst_up {P : Nat → Bool} {b : Int32} {k : Nat} (h : b = zFst P k) (hb : ¬ b.toInt = -1) : ∀ d : Nat, b = zFst P (k + d)
  | 0 => h
  | d + 1 => by
    have ih := zFst_up h hb d
    show b = if (zFst P (k + d)).toInt = -1 ∧ P (k + d) = true then nI (k + d) else zFst P (k + d)
    rw [← ih, if_neg (fun q => hb q.1)]
theorem zFst_hit {P : Nat → Bool} {k : Int32} (h : (-1 : Int32) = zFst P k.toInt.toNat) (p : P k.toInt.toNat = true) (hk : 0 ≤ k.toInt ∧ k.toInt ≤ 100) : k = zFst P 101 := by
  have e : k = zFst P (k.toInt.toNat + 1) := by
    show k = if (zFst P k.toInt.toNat).toInt = -1 ∧ P k.toInt.toNat = true then nI k.toInt.toNat else zFst P k.toInt.toNat
    rw [← h, if_pos ⟨by decide, p⟩]; exact znat hk.1
  have u := zFst_up e (by omega) (101 - (k.toInt.toNat + 1))
  rw [show k.toInt.toNat + 1 + (101 - (k.toInt.toNat + 1)) = 101 by omega] at u
  exact u
theorem zFst_out {P : Nat → Bool} {b k : Int32} (h : b = zFst P k.toInt.toNat) (e : k.toInt = 101 ∨ ¬ b.toInt = -1) (l : k.toInt ≤ 101) : b = zFst P 101 := by
  rcases e with e | e
  · rw [e] at h; exact h
  · have u := zFst_up h e (101 - k.toInt.toNat)
    rw [show k.toInt.toNat + (101 - k.toInt.toNat) = 101 by omega] at u
    exact u
theorem zFst_c {P Q : Nat → Bool} (h : ∀ k, P k = Q k) : ∀ n : Nat, zFst P n = zFst Q n
  | 0 => rfl
  | n + 1 => by
    show (if (zFst P n).toInt = -1 ∧ P n = true then nI n else zFst P n) = if (zFst Q n).toInt = -1 ∧ Q n = true then nI n else zFst Q n
    rw [zFst_c h n, h n]
theorem zGo_i {L : zLw} {tl k : Int32} {s : zT9} (hk : k.toInt = 0) : zR9 s (zGo L tl k.toInt.toNat s) := by rw [hk]; exact zR9_r _
/-- so many believe by then; a work has fallen by then -/
def zPre (L : zLw) (x : Int32) (s : zT9) : Nat → Bool := fun j => decide (x.toInt ≤ (zBl9 (zGo L 0 j s)).toInt)
def zPla (L : zLw) (w : Int32) (s : zT9) : Nat → Bool := fun j => decide (((zGo L 0 j s).2.2.2.2.2.2.2.2 9 w.toInt.toNat).toInt = 2)
theorem zPre_y {L : zLw} {x q : Int32} {s d : zT9} {j : Nat} (h : zR9 d (zGo L 0 j s)) (b : d.1.toInt ≤ 8) (e : q = zBl9 d) (c : x.toInt ≤ q.toInt) : zPre L x s j = true := by
  refine decide_eq_true ?_
  rw [← zBl9_c h b, ← e]; exact c
theorem zPre_n {L : zLw} {x q : Int32} {s d : zT9} {j : Nat} (h : zR9 d (zGo L 0 j s)) (b : d.1.toInt ≤ 8) (e : q = zBl9 d) (c : ¬ x.toInt ≤ q.toInt) : ¬ zPre L x s j = true := by
  intro p
  have p2 := of_decide_eq_true p
  rw [← zBl9_c h b, ← e] at p2; exact c p2
theorem zPla_y {L : zLw} {w v : Int32} {s d : zT9} {j : Nat} (h : zR9 d (zGo L 0 j s)) (hw : w.toInt.toNat < 6) (e : v = d.2.2.2.2.2.2.2.2 9 w.toInt.toNat) (c : v.toInt = 2) : zPla L w s j = true := by
  refine decide_eq_true ?_
  rw [← h.2.2.2.2.2.2.2.2.2.2 9 w.toInt.toNat (by decide) (by decide) hw, ← e]; exact c
theorem zPla_n {L : zLw} {w v : Int32} {s d : zT9} {j : Nat} (h : zR9 d (zGo L 0 j s)) (hw : w.toInt.toNat < 6) (e : v = d.2.2.2.2.2.2.2.2 9 w.toInt.toNat) (c : ¬ v.toInt = 2) : ¬ zPla L w s j = true := by
  intro p
  have p2 := of_decide_eq_true p
  rw [← h.2.2.2.2.2.2.2.2.2.2 9 w.toInt.toNat (by decide) (by decide) hw, ← e] at p2; exact c p2
def zdReach (L : zLw) (x : Int32) (s : zT9) : Int32 × Int32 := zk2 (1 ≤ x.toInt ∧ x.toInt ≤ 792) True (zFst (zPre L x s) 101)
def zdLast (L : zLw) (w : Int32) (s : zT9) : Int32 × Int32 := zk2 (0 ≤ w.toInt ∧ w.toInt < s.2.1.toInt) True (zFst (zPla L w s) 101)
def zdSways (L : zLw) (x n : Int32) (s : zT9) : Int32 × Int32 := zk2 (0 ≤ x.toInt ∧ x.toInt < s.1.toInt) (0 ≤ n.toInt ∧ n.toInt ≤ 30) (zBl9 (zLk L (zBit x.toInt.toNat) 10 n.toInt.toNat s) - zBl9 (zLk L 0 0 n.toInt.toNat s))
theorem zdReach_c {L : zLw} {x : Int32} {s t : zT9} (h : zR9 s t) (k : zOk s) : zdReach L x s = zdReach L x t := by
  unfold zdReach
  rw [zFst_c (fun j => ?_) 101]
  unfold zPre
  rw [zBl9_c (zGo_n (L := L) (tl := 0) (n := j) h k).1 k.1.2]
theorem zdLast_c {L : zLw} {w : Int32} {s t : zT9} (h : zR9 s t) (k : zOk s) : zdLast L w s = zdLast L w t := by
  have e2 : s.2.1 = t.2.1 := h.2.1
  have b := k.2.1
  unfold zdLast
  rw [← e2]
  refine zk2_c Iff.rfl (fun _ => Iff.rfl) (fun a _ => zFst_c (fun j => ?_) 101)
  have z := (zGo_n (L := L) (tl := 0) (n := j) h k).1
  unfold zPla
  rw [z.2.2.2.2.2.2.2.2.2.2 9 w.toInt.toNat (by decide) (by decide) (by omega)]
theorem zdSways_c {L : zLw} {x n : Int32} {s t : zT9} (h : zR9 s t) (k : zOk s) : zdSways L x n s = zdSways L x n t := by
  have e1 : s.1 = t.1 := h.1
  have l := fun st9 by9 => zBl9_c (zLk_c (L := L) (st := st9) (by9 := by9) (n := n.toInt.toNat) h k) k.1.2
  unfold zdSways
  rw [← e1, l, l]
section ZH
variable {L : zLw} {x n w q q1 q2 pe wo tx ch jo tr dy sd : Int32} {f : zRw} {m : Nat → Int32} {d1 d2 : zT9}
theorem zdReach_c1 (k : ¬ (1 ≤ x.toInt ∧ x.toInt ≤ 792)) : (1, 0) = zdReach L x (pe, wo, tx, ch, jo, tr, dy, sd, f) := zk2_1 k
theorem zdReach_c0 (k : 1 ≤ x.toInt ∧ x.toInt ≤ 792) (e : q = zFst (zPre L x (pe, wo, tx, ch, jo, tr, dy, sd, f)) 101) : (0, q) = zdReach L x (pe, wo, tx, ch, jo, tr, dy, sd, f) := zk2_0 k trivial e
theorem zdReach_1 (k : ¬ (1 ≤ x.toInt ∧ x.toInt ≤ 792)) : (1, 0) = zdReach L x (zM9 m) := zk2_1 k
theorem zdReach_m (k : 1 ≤ x.toInt ∧ x.toInt ≤ 792) (e : q = zFst (zPre L x (zM9 m)) 101) : (0, q) = zdReach L x (zM9 m) := zk2_0 k trivial e
theorem zdLast_c1 (k : ¬ (0 ≤ w.toInt ∧ w.toInt < wo.toInt)) : (1, 0) = zdLast L w (pe, wo, tx, ch, jo, tr, dy, sd, f) := zk2_1 k
theorem zdLast_c0 (k : 0 ≤ w.toInt ∧ w.toInt < wo.toInt) (e : q = zFst (zPla L w (pe, wo, tx, ch, jo, tr, dy, sd, f)) 101) : (0, q) = zdLast L w (pe, wo, tx, ch, jo, tr, dy, sd, f) := zk2_0 k trivial e
theorem zdLast_1 (k : ¬ (0 ≤ w.toInt ∧ w.toInt < (m 4).toInt)) : (1, 0) = zdLast L w (zM9 m) := zk2_1 k
theorem zdLast_m (k : 0 ≤ w.toInt ∧ w.toInt < (m 4).toInt) (e : q = zFst (zPla L w (zM9 m)) 101) : (0, q) = zdLast L w (zM9 m) := zk2_0 k trivial e
theorem zdSways_c1 (k : ¬ (0 ≤ x.toInt ∧ x.toInt < pe.toInt)) : (1, 0) = zdSways L x n (pe, wo, tx, ch, jo, tr, dy, sd, f) := zk2_1 k
theorem zdSways_c2 (h : 0 ≤ x.toInt ∧ x.toInt < pe.toInt) (k : ¬ (0 ≤ n.toInt ∧ n.toInt ≤ 30)) : (2, 0) = zdSways L x n (pe, wo, tx, ch, jo, tr, dy, sd, f) := zk2_2 h k
theorem zdSways_c0 (b : 0 ≤ pe.toInt ∧ pe.toInt ≤ 8) (h : 0 ≤ x.toInt ∧ x.toInt < pe.toInt) (k : 0 ≤ n.toInt ∧ n.toInt ≤ 30) (g1 : zR9 d1 (zLk L (zBit x.toInt.toNat) 10 n.toInt.toNat (pe, wo, tx, ch, jo, tr, dy, sd, f))) (e1 : q1 = zBl9 d1) (g2 : zR9 d2 (zLk L 0 0 n.toInt.toNat (pe, wo, tx, ch, jo, tr, dy, sd, f))) (e2 : q2 = zBl9 d2) : (0, q1 - q2) = zdSways L x n (pe, wo, tx, ch, jo, tr, dy, sd, f) := zk2_0 h k (by
  have b1 : d1.1 = pe := g1.1
  have b2 : d2.1 = pe := g2.1
  rw [e1, e2, zBl9_c g1 (by rw [b1]; exact b.2), zBl9_c g2 (by rw [b2]; exact b.2)])
theorem zdSways_1 (k : ¬ (0 ≤ x.toInt ∧ x.toInt < (m 3).toInt)) : (1, 0) = zdSways L x n (zM9 m) := zk2_1 k
theorem zdSways_2 (h : 0 ≤ x.toInt ∧ x.toInt < (m 3).toInt) (k : ¬ (0 ≤ n.toInt ∧ n.toInt ≤ 30)) : (2, 0) = zdSways L x n (zM9 m) := zk2_2 h k
theorem zdSways_m (h : 0 ≤ x.toInt ∧ x.toInt < (m 3).toInt) (k : 0 ≤ n.toInt ∧ n.toInt ≤ 30) (e1 : q1 = zBl9 (zLk L (zBit x.toInt.toNat) 10 n.toInt.toNat (zM9 m))) (e2 : q2 = zBl9 (zLk L 0 0 n.toInt.toNat (zM9 m))) : (0, q1 - q2) = zdSways L x n (zM9 m) := zk2_0 h k (by rw [e1, e2])
end ZH
/-! the guru; seeds -/
def zHr9 (s : zT9) : Nat → Bool := fun x => decide ((s.2.2.2.2.2.2.2.2 3 x).toInt = -1)
theorem zHr_y {s : zT9} {x : Nat} (h : (s.2.2.2.2.2.2.2.2 3 x).toInt = -1) : zHr9 s x = true := decide_eq_true h
theorem zHr_n {s : zT9} {x : Nat} (h : ¬ (s.2.2.2.2.2.2.2.2 3 x).toInt = -1) : ¬ zHr9 s x = true := fun q => h (of_decide_eq_true q)
def zGuW (L : zLw) (n : Int32) (s : zT9) : Nat → Int32 := fun k => zBl9 (zLk L (zBit k) 10 n.toInt.toNat s)
theorem zGuW_e {L : zLw} {n q : Int32} {s d : zT9} {k : Nat} (g : zR9 d (zLk L (zBit k) 10 n.toInt.toNat s)) (e : q = zBl9 d) (b : s.1.toInt ≤ 8) : q = zGuW L n s k := by
  have b1 : d.1 = s.1 := g.1
  rw [e]; exact zBl9_c g (by rw [b1]; exact b)
theorem zGu_y {P : Nat → Bool} {W : Nat → Int32} {b k k' mo v : Int32} (h : b = zBst P W k.toInt.toNat) (I : b.toInt = -1 ∨ mo = W b.toInt.toNat) (hk : k'.toInt = k.toInt + 1) (h0 : 0 ≤ k.toInt) (p : P k.toInt.toNat = true) (e : v = W k.toInt.toNat) (c : b.toInt = -1 ∨ mo.toInt < v.toInt) : k = zBst P W k'.toInt.toNat := zBst_y h hk h0 p (by
  rcases c with c | c
  · exact Or.inl c
  · rcases I with i | i
    · exact Or.inl i
    · exact Or.inr (by rw [← i, ← e]; exact c))
theorem zGu_n {P : Nat → Bool} {W : Nat → Int32} {b k k' : Int32} (h : b = zBst P W k.toInt.toNat) (hk : k'.toInt = k.toInt + 1) (h0 : 0 ≤ k.toInt) (p : ¬ P k.toInt.toNat = true) : b = zBst P W k'.toInt.toNat := zBst_n h hk h0 (fun q => p q.1)
theorem zGu_m {P : Nat → Bool} {W : Nat → Int32} {b k k' mo v : Int32} (h : b = zBst P W k.toInt.toNat) (I : b.toInt = -1 ∨ mo = W b.toInt.toNat) (hk : k'.toInt = k.toInt + 1) (h0 : 0 ≤ k.toInt) (e : v = W k.toInt.toNat) (c : ¬ b.toInt = -1 ∧ ¬ mo.toInt < v.toInt) : b = zBst P W k'.toInt.toNat := zBst_n h hk h0 (fun q => by
  rcases I with i | i
  · exact c.1 i
  · rcases q.2 with w | w
    · exact c.1 w
    · rw [← i, ← e] at w; exact c.2 w)
def zdGuru (L : zLw) (n : Int32) (s : zT9) : Int32 × Int32 := zk2 (0 ≤ n.toInt ∧ n.toInt ≤ 30) True (zBst (zHr9 s) (zGuW L n s) s.1.toInt.toNat)
theorem zdGuru_c {L : zLw} {n : Int32} {s t : zT9} (h : zR9 s t) (k : zOk s) : zdGuru L n s = zdGuru L n t := by
  have e1 : s.1 = t.1 := h.1
  have b := k.1
  unfold zdGuru
  rw [← e1]
  refine zk2_c Iff.rfl (fun _ => Iff.rfl) (fun a _ => zBst_c s.1.toInt.toNat (by omega) (fun x hx => ?_) (fun x hx => ?_))
  · unfold zHr9
    rw [h.2.2.2.2.2.2.2.2.1 3 x (by decide) (by omega)]
  · exact zBl9_c (zLk_c (L := L) (st := zBit x) (by9 := 10) (n := n.toInt.toNat) h k) k.1.2
theorem zdGuru_c1 {L : zLw} {n pe wo tx ch jo tr dy sd : Int32} {f : zRw} (k : ¬ (0 ≤ n.toInt ∧ n.toInt ≤ 30)) : (1, 0) = zdGuru L n (pe, wo, tx, ch, jo, tr, dy, sd, f) := zk2_1 k
theorem zdGuru_c0 {L : zLw} {n q pe wo tx ch jo tr dy sd : Int32} {f : zRw} (k : 0 ≤ n.toInt ∧ n.toInt ≤ 30) (e : q = zBst (zHr9 (pe, wo, tx, ch, jo, tr, dy, sd, f)) (zGuW L n (pe, wo, tx, ch, jo, tr, dy, sd, f)) pe.toInt.toNat) : (0, q) = zdGuru L n (pe, wo, tx, ch, jo, tr, dy, sd, f) := zk2_0 k trivial e
theorem zdGuru_1 {L : zLw} {n : Int32} {m : Nat → Int32} (k : ¬ (0 ≤ n.toInt ∧ n.toInt ≤ 30)) : (1, 0) = zdGuru L n (zM9 m) := zk2_1 k
theorem zdGuru_m {L : zLw} {n q : Int32} {m : Nat → Int32} (k : 0 ≤ n.toInt ∧ n.toInt ≤ 30) (e : q = zBst (zHr9 (zM9 m)) (zGuW L n (zM9 m)) (m 3).toInt.toNat) : (0, q) = zdGuru L n (zM9 m) := zk2_0 k trivial e
/-- the utmost of so many -/
def zUt (c : Int32) (W : Nat → Int32) : Nat → Int32
  | 0 => -1
  | k + 1 => if (zUt c W k).toInt = -1 ∨ (c.toInt = 0 ∧ (W (k + 1)).toInt < (zUt c W k).toInt) ∨ (¬ c.toInt = 0 ∧ (zUt c W k).toInt < (W (k + 1)).toInt) then W (k + 1) else zUt c W k
theorem zUt_0 {c u k : Int32} {W : Nat → Int32} (h : u = -1) (hk : k.toInt = 1) : u = zUt c W (k.toInt.toNat - 1) := by rw [hk]; exact h
theorem zUt_y {c u v k k' : Int32} {W : Nat → Int32} (h : u = zUt c W (k.toInt.toNat - 1)) (hk : k'.toInt = k.toInt + 1) (h1 : 1 ≤ k.toInt) (e : v = W k.toInt.toNat) (cc : u.toInt = -1 ∨ (c.toInt = 0 ∧ v.toInt < u.toInt) ∨ (¬ c.toInt = 0 ∧ u.toInt < v.toInt)) : v = zUt c W (k'.toInt.toNat - 1) := by
  rw [show k'.toInt.toNat - 1 = (k.toInt.toNat - 1) + 1 by omega]
  have e2 : v = W (k.toInt.toNat - 1 + 1) := by rw [show k.toInt.toNat - 1 + 1 = k.toInt.toNat by omega]; exact e
  show v = if (zUt c W (k.toInt.toNat - 1)).toInt = -1 ∨ (c.toInt = 0 ∧ (W (k.toInt.toNat - 1 + 1)).toInt < (zUt c W (k.toInt.toNat - 1)).toInt) ∨ (¬ c.toInt = 0 ∧ (zUt c W (k.toInt.toNat - 1)).toInt < (W (k.toInt.toNat - 1 + 1)).toInt) then W (k.toInt.toNat - 1 + 1) else zUt c W (k.toInt.toNat - 1)
  rw [← h, ← e2, if_pos cc]
theorem zUt_n {c u v k k' : Int32} {W : Nat → Int32} (h : u = zUt c W (k.toInt.toNat - 1)) (hk : k'.toInt = k.toInt + 1) (h1 : 1 ≤ k.toInt) (e : v = W k.toInt.toNat) (cc : ¬ (u.toInt = -1 ∨ (c.toInt = 0 ∧ v.toInt < u.toInt) ∨ (¬ c.toInt = 0 ∧ u.toInt < v.toInt))) : u = zUt c W (k'.toInt.toNat - 1) := by
  rw [show k'.toInt.toNat - 1 = (k.toInt.toNat - 1) + 1 by omega]
  have e2 : v = W (k.toInt.toNat - 1 + 1) := by rw [show k.toInt.toNat - 1 + 1 = k.toInt.toNat by omega]; exact e
  show u = if (zUt c W (k.toInt.toNat - 1)).toInt = -1 ∨ (c.toInt = 0 ∧ (W (k.toInt.toNat - 1 + 1)).toInt < (zUt c W (k.toInt.toNat - 1)).toInt) ∨ (¬ c.toInt = 0 ∧ (zUt c W (k.toInt.toNat - 1)).toInt < (W (k.toInt.toNat - 1 + 1)).toInt) then W (k.toInt.toNat - 1 + 1) else zUt c W (k.toInt.toNat - 1)
  rw [← h, ← e2, if_neg cc]
theorem zUt_g {c u v q k k' : Int32} {W : Nat → Int32} (h : u = zUt c W (k.toInt.toNat - 1)) (hk : k'.toInt = k.toInt + 1) (h1 : 1 ≤ k.toInt) (e : v = W k.toInt.toNat) (hu : ¬ u.toInt = -1) (hc : ¬ c.toInt = 0) (g : u.toInt ≤ q.toInt ∧ v.toInt ≤ q.toInt ∧ (q.toInt = u.toInt ∨ q.toInt = v.toInt)) : q = zUt c W (k'.toInt.toNat - 1) := by
  by_cases p : u.toInt < v.toInt
  · have z := zUt_y h hk h1 e (Or.inr (Or.inr ⟨hc, p⟩))
    rw [← z]; exact Int32.toInt_inj.mp (by omega)
  · have z := zUt_n h hk h1 e (by omega)
    rw [← z]; exact Int32.toInt_inj.mp (by omega)
theorem zUt_l {c u v q k k' : Int32} {W : Nat → Int32} (h : u = zUt c W (k.toInt.toNat - 1)) (hk : k'.toInt = k.toInt + 1) (h1 : 1 ≤ k.toInt) (e : v = W k.toInt.toNat) (hu : ¬ u.toInt = -1) (hc : c.toInt = 0) (g : q.toInt ≤ u.toInt ∧ q.toInt ≤ v.toInt ∧ (q.toInt = u.toInt ∨ q.toInt = v.toInt)) : q = zUt c W (k'.toInt.toNat - 1) := by
  by_cases p : v.toInt < u.toInt
  · have z := zUt_y h hk h1 e (Or.inr (Or.inl ⟨hc, p⟩))
    rw [← z]; exact Int32.toInt_inj.mp (by omega)
  · have z := zUt_n h hk h1 e (by omega)
    rw [← z]; exact Int32.toInt_inj.mp (by omega)
theorem zUt_x {c u k : Int32} {W : Nat → Int32} (h : u = zUt c W (k.toInt.toNat - 1)) (e : k.toInt = 7) : u = zUt c W 6 := by rw [e] at h; exact h
theorem zUt_c {c : Int32} {W V : Nat → Int32} (e : ∀ k, W k = V k) : ∀ n : Nat, zUt c W n = zUt c V n
  | 0 => rfl
  | n + 1 => by
    show (if (zUt c W n).toInt = -1 ∨ (c.toInt = 0 ∧ (W (n + 1)).toInt < (zUt c W n).toInt) ∨ (¬ c.toInt = 0 ∧ (zUt c W n).toInt < (W (n + 1)).toInt) then W (n + 1) else zUt c W n) = if (zUt c V n).toInt = -1 ∨ (c.toInt = 0 ∧ (V (n + 1)).toInt < (zUt c V n).toInt) ∨ (¬ c.toInt = 0 ∧ (zUt c V n).toInt < (V (n + 1)).toInt) then V (n + 1) else zUt c V n
    rw [zUt_c e n, e (n + 1)]
def zsd (s : zT9) (v : Int32) : zT9 := (s.1, s.2.1, s.2.2.1, s.2.2.2.1, s.2.2.2.2.1, s.2.2.2.2.2.1, s.2.2.2.2.2.2.1, v, s.2.2.2.2.2.2.2.2)
theorem zsd_c {s t : zT9} {v : Int32} (h : zR9 s t) : zR9 (zsd s v) (zsd t v) := ⟨h.1, h.2.1, h.2.2.1, h.2.2.2.1, h.2.2.2.2.1, h.2.2.2.2.2.1, h.2.2.2.2.2.2.1, rfl, h.2.2.2.2.2.2.2.2⟩
theorem zsd_ok {s : zT9} {v : Int32} (h : zOk s) : zOk (zsd s v) := ⟨h.1, h.2.1, h.2.2.1, h.2.2.2.1, h.2.2.2.2⟩
def zSpW (L : zLw) (n : Int32) (s : zT9) : Nat → Int32 := fun k => zBl9 (zGo L 1 n.toInt.toNat (zsd s (nI k)))
theorem zSpW_e {L : zLw} {n q : Int32} {s d : zT9} {k : Int32} (h0 : 0 ≤ k.toInt) (g : zR9 d (zGo L 1 n.toInt.toNat (zsd s k))) (e : q = zBl9 d) (b : s.1.toInt ≤ 8) : q = zSpW L n s k.toInt.toNat := by
  have b1 : d.1 = s.1 := g.1
  have z : nI k.toInt.toNat = k := (znat h0).symm
  show q = zBl9 (zGo L 1 n.toInt.toNat (zsd s (nI k.toInt.toNat)))
  rw [z, e]; exact zBl9_c g (by rw [b1]; exact b)
def zdSpan (L : zLw) (n c : Int32) (s : zT9) : Int32 × Int32 := zk2 (0 ≤ n.toInt ∧ n.toInt ≤ 60) True (zUt c (zSpW L n s) 6)
theorem zdSpan_c {L : zLw} {n c : Int32} {s t : zT9} (h : zR9 s t) (k : zOk s) : zdSpan L n c s = zdSpan L n c t := by
  unfold zdSpan
  rw [zUt_c (W := zSpW L n s) (V := zSpW L n t) (fun j => zBl9_c (zGo_n (L := L) (tl := 1) (n := n.toInt.toNat) (zsd_c (v := nI j) h) (zsd_ok k)).1 k.1.2) 6]
theorem zdSpan_c1 {L : zLw} {n c pe wo tx ch jo tr dy sd : Int32} {f : zRw} (k : ¬ (0 ≤ n.toInt ∧ n.toInt ≤ 60)) : (1, 0) = zdSpan L n c (pe, wo, tx, ch, jo, tr, dy, sd, f) := zk2_1 k
theorem zdSpan_c0 {L : zLw} {n c q pe wo tx ch jo tr dy sd : Int32} {f : zRw} (k : 0 ≤ n.toInt ∧ n.toInt ≤ 60) (e : q = zUt c (zSpW L n (pe, wo, tx, ch, jo, tr, dy, sd, f)) 6) : (0, q) = zdSpan L n c (pe, wo, tx, ch, jo, tr, dy, sd, f) := zk2_0 k trivial e
theorem zdSpan_1 {L : zLw} {n c : Int32} {m : Nat → Int32} (k : ¬ (0 ≤ n.toInt ∧ n.toInt ≤ 60)) : (1, 0) = zdSpan L n c (zM9 m) := zk2_1 k
theorem zdSpan_m {L : zLw} {n c q : Int32} {m : Nat → Int32} (k : 0 ≤ n.toInt ∧ n.toInt ≤ 60) (e : q = zUt c (zSpW L n (zM9 m)) 6) : (0, q) = zdSpan L n c (zM9 m) := zk2_0 k trivial e
theorem zM9_sd {fm f0 f : Nat → Int32} {v : Int32} (h : fm = f0) (e : f = upd f0 10 v) : zR9 (zM9 f) (zsd (zM9 fm) v) := by
  subst h; subst e
  have k : ∀ i : Nat, i ≠ 10 → upd fm 10 v i = fm i := fun i h => pk_un h
  exact ⟨k 3 (by decide), k 4 (by decide), k 0 (by decide), k 5 (by decide), k 6 (by decide), k 7 (by decide), k 8 (by decide), (show upd fm 10 v 10 = v from pk_us), zVo (Or.inl (by decide))⟩
theorem zGo_e {L : zLw} {tl : Int32} {n : Nat} {s t : zT9} (h : zR9 s t) (b8 : s.1.toInt ≤ 8) (b6 : s.2.1.toInt ≤ 6) : zR9 (zGo L tl n s) (zGo L tl n t) := by
  obtain ⟨s1, s2, s3, s4, s5, s6, s7, s8, s9⟩ := s
  obtain ⟨t1, t2, t3, t4, t5, t6, t7, t8, t9⟩ := t
  obtain ⟨e1, e2, e3, e4, e5, e6, e7, e8, e9⟩ := h
  have q1 : s1 = t1 := e1
  have q2 : s2 = t2 := e2
  have q3 : s3 = t3 := e3
  have q4 : s4 = t4 := e4
  have q5 : s5 = t5 := e5
  have q6 : s6 = t6 := e6
  have q7 : s7 = t7 := e7
  have q8 : s8 = t8 := e8
  have q9 : zEq s9 t9 := e9
  subst q1; subst q2; subst q3; subst q4; subst q5; subst q6; subst q7; subst q8
  have b8' : s1.toInt ≤ 8 := b8
  have b6' : s2.toInt ≤ 6 := b6
  have z := zNds_c (L := L) (pe := s1.toInt.toNat) (wo := s2.toInt.toNat) (tr := s6) (tl := tl) (a := (s4, s7, s8, s9)) (b := (s4, s7, s8, t9)) n (by omega) (by omega) ⟨rfl, rfl, rfl, q9⟩
  exact ⟨rfl, rfl, rfl, z.1.1, rfl, rfl, z.1.2.1, z.1.2.2.1, z.1.2.2.2⟩
set_option maxRecDepth 100000 in
set_option maxHeartbeats 4000000 in
theorem c_f_strongestC (l : Launch) (g : zG) (fo : Nat) (o : Nat) (lo : Nat) (od : Nat) (a : Nat → Nat) (pe : Int32) (wo : Int32) (tx : Int32) (ch : Int32) (jo : Int32) (tr : Int32) (dy : Int32) (sd : Int32) (f : Nat → Nat → Int32) (lc : Nat) (lz : Int32) (ll : Int32) (lm : Int32) (lg : Int32) (ld : Int32) (fc : Nat → Int32) (ad : Nat → Nat) (ped : Int32) (wod : Int32) (txd : Int32) (chd : Int32) (jod : Int32) (trd : Int32) (dyd : Int32) (sdd : Int32) (fd : Nat → Nat → Int32) (n : Int32) (b_pe : 0 ≤ pe.toInt ∧ pe.toInt ≤ 8) (b_wo : 0 ≤ wo.toInt ∧ wo.toInt ≤ 6) (rf : zZ4 f) (b_lz : 0 ≤ lz.toInt ∧ lz.toInt ≤ 400) (b_ped : 0 ≤ ped.toInt ∧ ped.toInt ≤ 8) (b_wod : 0 ≤ wod.toInt ∧ wod.toInt ≤ 6) (rfd : zZ4 fd) (b_n : 0 ≤ n.toInt ∧ n.toInt ≤ 100) : zM' g l yX0_strongest (Cond.code yX0_strongest cX0_strongest 6 (some .int) :: zB) ({ frames := 7, cells := 0, slots := 0, locals := 152 } : Room) [.ref fo, .int n] [bFo g fo o lo od, bTown g o a pe wo tx ch jo tr dy sd f, bLaw g lo lc lz ll lm lg ld fc, bTown g od ad ped wod txd chd jod trd dyd sdd fd] (fun u : Int32 × Int32 × Int32 × Int32 × Int32 × Int32 × Int32 × Int32 × Int32 × Int32 × Int32 × (Nat → Nat → Int32) × Int32 => (fun (lm2 : Int32) (lg2 : Int32) (ld2 : Int32) (pe3 : Int32) (wo3 : Int32) (tx3 : Int32) (ch3 : Int32) (jo3 : Int32) (tr3 : Int32) (dy3 : Int32) (sd3 : Int32) (f3 : Nat → Nat → Int32) (q : Int32) => some (.int q)) (u.1) (u.2.1) (u.2.2.1) (u.2.2.2.1) (u.2.2.2.2.1) (u.2.2.2.2.2.1) (u.2.2.2.2.2.2.1) (u.2.2.2.2.2.2.2.1) (u.2.2.2.2.2.2.2.2.1) (u.2.2.2.2.2.2.2.2.2.1) (u.2.2.2.2.2.2.2.2.2.2.1) (u.2.2.2.2.2.2.2.2.2.2.2.1) (u.2.2.2.2.2.2.2.2.2.2.2.2)) (fun u : Int32 × Int32 × Int32 × Int32 × Int32 × Int32 × Int32 × Int32 × Int32 × Int32 × Int32 × (Nat → Nat → Int32) × Int32 => (fun (lm2 : Int32) (lg2 : Int32) (ld2 : Int32) (pe3 : Int32) (wo3 : Int32) (tx3 : Int32) (ch3 : Int32) (jo3 : Int32) (tr3 : Int32) (dy3 : Int32) (sd3 : Int32) (f3 : Nat → Nat → Int32) (q : Int32) => (0 ≤ pe3.toInt ∧ pe3.toInt ≤ 8) ∧ (0 ≤ wo3.toInt ∧ wo3.toInt ≤ 6) ∧ (zZ4 f3) ∧ (q = zBst (zHr9 (pe, wo, tx, ch, jo, tr, dy, sd, f)) (zGuW (zLwR fc lz ll) n (pe, wo, tx, ch, jo, tr, dy, sd, f)) pe.toInt.toNat)) (u.1) (u.2.1) (u.2.2.1) (u.2.2.2.1) (u.2.2.2.2.1) (u.2.2.2.2.2.1) (u.2.2.2.2.2.2.1) (u.2.2.2.2.2.2.2.1) (u.2.2.2.2.2.2.2.2.1) (u.2.2.2.2.2.2.2.2.2.1) (u.2.2.2.2.2.2.2.2.2.2.1) (u.2.2.2.2.2.2.2.2.2.2.2.1) (u.2.2.2.2.2.2.2.2.2.2.2.2)) (fun u : Int32 × Int32 × Int32 × Int32 × Int32 × Int32 × Int32 × Int32 × Int32 × Int32 × Int32 × (Nat → Nat → Int32) × Int32 => (fun (lm2 : Int32) (lg2 : Int32) (ld2 : Int32) (pe3 : Int32) (wo3 : Int32) (tx3 : Int32) (ch3 : Int32) (jo3 : Int32) (tr3 : Int32) (dy3 : Int32) (sd3 : Int32) (f3 : Nat → Nat → Int32) (q : Int32) => [bFo g fo o lo od, bTown g o a pe wo tx ch jo tr dy sd f, bLaw g lo lc lz ll lm2 lg2 ld2 fc, bTown g od ad pe3 wo3 tx3 ch3 jo3 tr3 dy3 sd3 f3]) (u.1) (u.2.1) (u.2.2.1) (u.2.2.2.1) (u.2.2.2.2.1) (u.2.2.2.2.2.1) (u.2.2.2.2.2.2.1) (u.2.2.2.2.2.2.2.1) (u.2.2.2.2.2.2.2.2.1) (u.2.2.2.2.2.2.2.2.2.1) (u.2.2.2.2.2.2.2.2.2.2.1) (u.2.2.2.2.2.2.2.2.2.2.2.1) (u.2.2.2.2.2.2.2.2.2.2.2.2)) := by
  refine zM'.of (cc := cX0_strongest) (maxL := 6) (rt := (some .int)) (by decide) rfl (Nat.le_of_ble_eq_true rfl) ?_
  intro p e s m args below meth c A ls St hr hlocks hin hK hT hA hP hD hS hl
  obtain ⟨hx, hb, hml, hown, hts⟩ := id St
  have hl : lv_has ls 6 [(0, .ref fo), (1, .int n)] := hl
  refine lv_iconst (v := (-1)) hx hb dX0_strongest_0 (by decide) ?_
  refine lv_istore_n (lv' := [(2, .int (-1)), (0, .ref fo), (1, .int n)]) hx hb dX0_strongest_1 rfl hl (by decide) rfl (fun ls hl => ?_)
  refine lv_iconst (v := 0) hx hb dX0_strongest_2 (by decide) ?_
  refine lv_istore_n (lv' := [(3, .int 0), (2, .int (-1)), (0, .ref fo), (1, .int n)]) hx hb dX0_strongest_3 rfl hl (by decide) rfl (fun ls hl => ?_)
  refine lv_iconst (v := 0) hx hb dX0_strongest_4 (by decide) ?_
  refine lv_istore (lv' := [(4, .int 0), (3, .int 0), (2, .int (-1)), (0, .ref fo), (1, .int n)]) hx hb dX0_strongest_5 hl (by decide) rfl (fun ls hl => ?_)
  have hl := lv_sub (l' := [(0, .ref fo), (1, .int n), (2, .int (-1)), (3, .int 0), (4, .int 0)]) hl [3, 4, 2, 1, 0] rfl
  have LP7_23 : ∀ (kf : Nat) (x_1 : Int32) (x_2 : Int32) (x_3 : Int32) (x_4 : Int32) (x_5 : Int32) (x_6 : Int32) (x_7 : Int32) (x_8 : Int32) (x_9 : Int32) (x_10 : Int32) (x_11 : Int32) (x_12 : Int32) (x_13 : Int32) (x_14 : Int32) (f_15 : Nat → Nat → Int32), ((-1) ≤ x_1.toInt ∧ x_1.toInt ≤ 7) → (0 ≤ x_3.toInt ∧ x_3.toInt ≤ 8) → (0 ≤ x_7.toInt ∧ x_7.toInt ≤ 8) → (0 ≤ x_8.toInt ∧ x_8.toInt ≤ 6) → (zZ4 f_15) → (x_1 = zBst (zHr9 (pe, wo, tx, ch, jo, tr, dy, sd, f)) (zGuW (zLwR fc lz ll) n (pe, wo, tx, ch, jo, tr, dy, sd, f)) x_3.toInt.toNat) → (x_1.toInt = -1 ∨ x_2 = (zGuW (zLwR fc lz ll) n (pe, wo, tx, ch, jo, tr, dy, sd, f)) x_1.toInt.toNat) → (x_3.toInt ≤ pe.toInt) → ∀ (H : Heap) (locs : List Loc) (ls : Array Slot), ((9 - x_3.toInt).toNat) < kf → va_P g.1 vwCl (List.flatten [bFo g fo o lo od, bTown g o a pe wo tx ch jo tr dy sd f, bLaw g lo lc lz ll x_4 x_5 x_6 fc, bTown g od ad x_7 x_8 x_9 x_10 x_11 x_12 x_13 x_14 f_15]) H → va_D A (List.flatten [bFo g fo o lo od, bTown g o a pe wo tx ch jo tr dy sd f, bLaw g lo lc lz ll x_4 x_5 x_6 fc, bTown g od ad x_7 x_8 x_9 x_10 x_11 x_12 x_13 x_14 f_15]) → va_S A s.heap H locs → lv_has ls 6 [(0, .ref fo), (1, .int n), (2, .int x_1), (3, .int x_2), (4, .int x_3)] → W p l e ({ frames := 7, cells := 0, slots := 0, locals := 152 } : Room) s m args below meth c H locs (0) (0) (zF g (fun u : Int32 × Int32 × Int32 × Int32 × Int32 × Int32 × Int32 × Int32 × Int32 × Int32 × Int32 × (Nat → Nat → Int32) × Int32 => (fun (lm2 : Int32) (lg2 : Int32) (ld2 : Int32) (pe3 : Int32) (wo3 : Int32) (tx3 : Int32) (ch3 : Int32) (jo3 : Int32) (tr3 : Int32) (dy3 : Int32) (sd3 : Int32) (f3 : Nat → Nat → Int32) (q : Int32) => some (.int q)) (u.1) (u.2.1) (u.2.2.1) (u.2.2.2.1) (u.2.2.2.2.1) (u.2.2.2.2.2.1) (u.2.2.2.2.2.2.1) (u.2.2.2.2.2.2.2.1) (u.2.2.2.2.2.2.2.2.1) (u.2.2.2.2.2.2.2.2.2.1) (u.2.2.2.2.2.2.2.2.2.2.1) (u.2.2.2.2.2.2.2.2.2.2.2.1) (u.2.2.2.2.2.2.2.2.2.2.2.2)) (fun u : Int32 × Int32 × Int32 × Int32 × Int32 × Int32 × Int32 × Int32 × Int32 × Int32 × Int32 × (Nat → Nat → Int32) × Int32 => (fun (lm2 : Int32) (lg2 : Int32) (ld2 : Int32) (pe3 : Int32) (wo3 : Int32) (tx3 : Int32) (ch3 : Int32) (jo3 : Int32) (tr3 : Int32) (dy3 : Int32) (sd3 : Int32) (f3 : Nat → Nat → Int32) (q : Int32) => (0 ≤ pe3.toInt ∧ pe3.toInt ≤ 8) ∧ (0 ≤ wo3.toInt ∧ wo3.toInt ≤ 6) ∧ (zZ4 f3) ∧ (q = zBst (zHr9 (pe, wo, tx, ch, jo, tr, dy, sd, f)) (zGuW (zLwR fc lz ll) n (pe, wo, tx, ch, jo, tr, dy, sd, f)) pe.toInt.toNat)) (u.1) (u.2.1) (u.2.2.1) (u.2.2.2.1) (u.2.2.2.2.1) (u.2.2.2.2.2.1) (u.2.2.2.2.2.2.1) (u.2.2.2.2.2.2.2.1) (u.2.2.2.2.2.2.2.2.1) (u.2.2.2.2.2.2.2.2.2.1) (u.2.2.2.2.2.2.2.2.2.2.1) (u.2.2.2.2.2.2.2.2.2.2.2.1) (u.2.2.2.2.2.2.2.2.2.2.2.2)) (fun u : Int32 × Int32 × Int32 × Int32 × Int32 × Int32 × Int32 × Int32 × Int32 × Int32 × Int32 × (Nat → Nat → Int32) × Int32 => (fun (lm2 : Int32) (lg2 : Int32) (ld2 : Int32) (pe3 : Int32) (wo3 : Int32) (tx3 : Int32) (ch3 : Int32) (jo3 : Int32) (tr3 : Int32) (dy3 : Int32) (sd3 : Int32) (f3 : Nat → Nat → Int32) (q : Int32) => [bFo g fo o lo od, bTown g o a pe wo tx ch jo tr dy sd f, bLaw g lo lc lz ll lm2 lg2 ld2 fc, bTown g od ad pe3 wo3 tx3 ch3 jo3 tr3 dy3 sd3 f3]) (u.1) (u.2.1) (u.2.2.1) (u.2.2.2.1) (u.2.2.2.2.1) (u.2.2.2.2.2.1) (u.2.2.2.2.2.2.1) (u.2.2.2.2.2.2.2.1) (u.2.2.2.2.2.2.2.2.1) (u.2.2.2.2.2.2.2.2.2.1) (u.2.2.2.2.2.2.2.2.2.2.1) (u.2.2.2.2.2.2.2.2.2.2.2.1) (u.2.2.2.2.2.2.2.2.2.2.2.2)) ({ frames := 7, cells := 0, slots := 0, locals := 152 } : Room) below args s A) (F0 m 7 ls []) := by
    intro kf
    induction kf with
    | zero => intro x_1 x_2 x_3 x_4 x_5 x_6 x_7 x_8 x_9 x_10 x_11 x_12 x_13 x_14 f_15 i16 i17 i18 i19 rf_15 i20 i21 i22 H locs ls hk; exact absurd hk (Nat.not_lt_zero _)
    | succ kf ih7_24 =>
      intro x_1 x_2 x_3 x_4 x_5 x_6 x_7 x_8 x_9 x_10 x_11 x_12 x_13 x_14 f_15 i16 i17 i18 i19 rf_15 i20 i21 i22 H locs ls hk7_24 hP hD hS hl
      refine lv_iload hx hb dX0_strongest_7 (lv_at hl 4 rfl) ?_
      refine lv_aload_n hx hb dX0_strongest_9 rfl (lv_at hl 0 rfl) ?_
      refine va_get (D := g.1) (ci := 0) (v := .ref o) (C := RX0) (T := TX0) (N := 3) hx hb hts izRX0 hown hK hP 0 rfl rfl 0 (by decide) (hts _ k26) (fun _ h9 => h9) rfl dX0_strongest_10 ?_
      refine va_get (D := g.1) (ci := 7) (v := .int pe) (C := RX9) (T := TX9) (N := 19) hx hb hts izRX9 hown hK hP 1 rfl rfl 0 (by decide) (hts _ k155) (fun _ h9 => h9) rfl dX0_strongest_13 ?_
      refine lv_icmp_ge (tgt := 67) hx hb dX0_strongest_16 (by decide) (fun cb9 => ?_) (fun cb9 => ?_)
      · skip
        have c25 : pe.toInt ≤ x_3.toInt := zle cb9 rfl rfl
        refine lv_iload_n hx hb dX0_strongest_67 rfl (lv_at hl 2 rfl) ?_
        have hP : va_P g.1 vwCl (List.flatten [bFo g fo o lo od, bTown g o a pe wo tx ch jo tr dy sd f, bLaw g lo lc lz ll x_4 x_5 x_6 fc, bTown g od ad x_7 x_8 x_9 x_10 x_11 x_12 x_13 x_14 f_15]) H := hP
        have hD : va_D A (List.flatten [bFo g fo o lo od, bTown g o a pe wo tx ch jo tr dy sd f, bLaw g lo lc lz ll x_4 x_5 x_6 fc, bTown g od ad x_7 x_8 x_9 x_10 x_11 x_12 x_13 x_14 f_15]) := hD
        exact mret_i hx hb hr hlocks hS (Nat.le_of_ble_eq_true rfl) (Nat.le_of_ble_eq_true rfl) dX0_strongest_68 (x_4, x_5, x_6, x_7, x_8, x_9, x_10, x_11, x_12, x_13, x_14, f_15, x_1) rfl (show (0 ≤ x_7.toInt ∧ x_7.toInt ≤ 8) ∧ (0 ≤ x_8.toInt ∧ x_8.toInt ≤ 6) ∧ (zZ4 f_15) ∧ (x_1 = zBst (zHr9 (pe, wo, tx, ch, jo, tr, dy, sd, f)) (zGuW (zLwR fc lz ll) n (pe, wo, tx, ch, jo, tr, dy, sd, f)) pe.toInt.toNat) from ⟨(by first | assumption | omega | decide), (by first | assumption | omega | decide), (by first | assumption | omega | decide), (zBst_x (n := pe) i20 (by omega))⟩) hP hD
      · skip
        have c26 : x_3.toInt < pe.toInt := zlti (Int32.not_le.mp cb9) rfl rfl
        have n27 : x_3.toInt ≤ 7 := zL1 (b := 8) c26 b_pe.2 (by decide)
        have n28 : 1 ≤ pe.toInt := zL2 (a := 0) c26 i17.1 (by decide)
        refine lv_aload_n hx hb dX0_strongest_19 rfl (lv_at hl 0 rfl) ?_
        refine va_get (D := g.1) (ci := 0) (v := .ref o) (C := RX0) (T := TX0) (N := 3) hx hb hts izRX0 hown hK hP 0 rfl rfl 0 (by decide) (hts _ k26) (fun _ h9 => h9) rfl dX0_strongest_20 ?_
        refine lv_iload hx hb dX0_strongest_23 (lv_at hl 4 rfl) ?_
        refine mcallV' (g := g) (q0 := 0) (ci := 7) (As := [.int x_3]) (rest := []) St hK hT hA hP hD hS hl.1 [1] [0, 2, 3] rfl rfl rfl (c_isHereF l g o a pe wo tx ch jo tr dy sd f x_3 (⟨i17.1, n27⟩)) (cwV 1 hts (zgL (zl4 k165 k54 k55 k24) k51) rfl rfl rfl (by decide +kernel) ⟨Nat.le_of_ble_eq_true rfl, Nat.le_of_ble_eq_true rfl⟩) rfl rfl rfl rfl (Nat.le_of_ble_eq_true rfl) dX0_strongest_25 ⟨(Nat.le_of_ble_eq_true rfl), (Nat.le_of_ble_eq_true rfl)⟩ (fun q_29 H locs hq30 hP hD hS => ?_)
        replace hq30 : (q_29 = 1 ∧ (f 3 x_3.toInt.toNat).toInt = -1 ∨ q_29 = 0 ∧ ¬ (f 3 x_3.toInt.toNat).toInt = -1) := hq30
        have hP : va_P g.1 vwCl (List.flatten [bFo g fo o lo od, bLaw g lo lc lz ll x_4 x_5 x_6 fc, bTown g od ad x_7 x_8 x_9 x_10 x_11 x_12 x_13 x_14 f_15, bTown g o a pe wo tx ch jo tr dy sd f]) H := hP
        have hD : va_D A (List.flatten [bFo g fo o lo od, bLaw g lo lc lz ll x_4 x_5 x_6 fc, bTown g od ad x_7 x_8 x_9 x_10 x_11 x_12 x_13 x_14 f_15, bTown g o a pe wo tx ch jo tr dy sd f]) := hD
        refine W.widen (k := 0) (n := 0) (Nat.le_of_ble_eq_true rfl) (Nat.le_of_ble_eq_true rfl) ?_
        refine W.eq (g2 := F0 m 28 ls [.int q_29]) rfl ?_
        rcases hq30 with ⟨rfl, hq30_k⟩ | ⟨rfl, hq30_k⟩
        · skip
          refine lv_if_eq (tgt := 61) hx hb dX0_strongest_28 (by decide) (fun c31 => absurd c31 (by decide)) (fun _ => ?_)
          refine lv_aload_n hx hb dX0_strongest_31 rfl (lv_at hl 0 rfl) ?_
          refine lv_iconst (v := 1) hx hb dX0_strongest_32 (by decide) ?_
          refine lv_iload hx hb dX0_strongest_33 (lv_at hl 4 rfl) ?_
          refine lv_ishl hx hb dX0_strongest_35 ?_
          refine ztop (r := (zBit x_3.toInt.toNat)) (zBit_k i17.1) ?_
          refine lv_bipush (v := 10) hx hb dX0_strongest_36 (by decide) ?_
          refine lv_iload_n hx hb dX0_strongest_38 rfl (lv_at hl 1 rfl) ?_
          refine mcallV' (g := g) (q0 := 0) (ci := 0) (As := [.int (zBit x_3.toInt.toNat), .int 10, .int n]) (rest := []) St hK hT hA hP hD hS hl.1 [0, 3, 1, 2] [] rfl rfl rfl (c_f_lookAheadC l g fo o lo od a pe wo tx ch jo tr dy sd f lc lz ll x_4 x_5 x_6 fc ad x_7 x_8 x_9 x_10 x_11 x_12 x_13 x_14 f_15 (zBit x_3.toInt.toNat) 10 n b_pe b_wo rf b_lz i18 i19 rf_15 b_n) (cwV 3 hts (zgL (zl4 k166 k167 k168 k169) k164) rfl rfl rfl (by decide +kernel) ⟨Nat.le_of_ble_eq_true rfl, Nat.le_of_ble_eq_true rfl⟩) rfl rfl rfl rfl (Nat.le_of_ble_eq_true rfl) dX0_strongest_39 ⟨(Nat.le_of_ble_eq_true rfl), (Nat.le_of_ble_eq_true rfl)⟩ (fun u_ H locs hq45 hP hD hS => ?_)
          obtain ⟨lm2_32, lg2_33, ld2_34, pe3_35, wo3_36, tx3_37, ch3_38, jo3_39, tr3_40, dy3_41, sd3_42, f3_43, q_44⟩ := u_
          replace hq45 : (0 ≤ pe3_35.toInt ∧ pe3_35.toInt ≤ 8) ∧ (0 ≤ wo3_36.toInt ∧ wo3_36.toInt ≤ 6) ∧ (zZ4 f3_43) ∧ (zR9 (pe3_35, wo3_36, tx3_37, ch3_38, jo3_39, tr3_40, dy3_41, sd3_42, f3_43) (zLk (zLwR fc lz ll) (zBit x_3.toInt.toNat) 10 n.toInt.toNat (pe, wo, tx, ch, jo, tr, dy, sd, f))) ∧ (q_44 = zBl9 (pe3_35, wo3_36, tx3_37, ch3_38, jo3_39, tr3_40, dy3_41, sd3_42, f3_43)) := hq45
          have hP : va_P g.1 vwCl (List.flatten [bFo g fo o lo od, bTown g o a pe wo tx ch jo tr dy sd f, bLaw g lo lc lz ll lm2_32 lg2_33 ld2_34 fc, bTown g od ad pe3_35 wo3_36 tx3_37 ch3_38 jo3_39 tr3_40 dy3_41 sd3_42 f3_43]) H := hP
          have hD : va_D A (List.flatten [bFo g fo o lo od, bTown g o a pe wo tx ch jo tr dy sd f, bLaw g lo lc lz ll lm2_32 lg2_33 ld2_34 fc, bTown g od ad pe3_35 wo3_36 tx3_37 ch3_38 jo3_39 tr3_40 dy3_41 sd3_42 f3_43]) := hD
          refine W.widen (k := 0) (n := 0) (Nat.le_of_ble_eq_true rfl) (Nat.le_of_ble_eq_true rfl) ?_
          refine W.eq (g2 := F0 m 42 ls [.int q_44]) rfl ?_
          obtain ⟨hq45_0, hq45_1, rf3_43, hq45_3, hq45_4⟩ := hq45
          refine lv_istore (lv' := [(5, .int q_44), (0, .ref fo), (1, .int n), (2, .int x_1), (3, .int x_2), (4, .int x_3)]) hx hb dX0_strongest_42 hl (by decide) rfl (fun ls hl => ?_)
          refine lv_iload_n hx hb dX0_strongest_44 rfl (lv_at hl 3 rfl) ?_
          refine lv_iconst (v := (-1)) hx hb dX0_strongest_45 (by decide) ?_
          refine lv_icmp_eq (tgt := 55) hx hb dX0_strongest_46 (by decide) (fun cb9 => ?_) (fun cb9 => ?_)
          · skip
            have c46 : x_1.toInt = (-1) := zeq cb9 rfl (by decide)
            have n47 : x_1.toInt ≤ (-1) := Int.le_trans (Int.le_of_eq c46) (Int.le_refl _)
            refine lv_iload hx hb dX0_strongest_55 (lv_at hl 5 rfl) ?_
            refine lv_istore_n (lv' := [(2, .int x_3), (5, .int q_44), (0, .ref fo), (1, .int n), (3, .int x_2), (4, .int x_3)]) hx hb dX0_strongest_57 rfl hl (by decide) rfl (fun ls hl => ?_)
            refine lv_iload hx hb dX0_strongest_58 (lv_at hl 1 rfl) ?_
            refine lv_istore_n (lv' := [(3, .int q_44), (2, .int x_3), (5, .int q_44), (0, .ref fo), (1, .int n), (4, .int x_3)]) hx hb dX0_strongest_60 rfl hl (by decide) rfl (fun ls hl => ?_)
            refine ziinc3 (n' := 1) (a' := 1) (b' := 8) (lv' := fun v9 => [(4, .int v9), (3, .int q_44), (2, .int x_3), (5, .int q_44), (0, .ref fo), (1, .int n)]) hx hb dX0_strongest_61 hl (k := 5) rfl (by decide) (fun _ => rfl) (zaddK (i := x_3.toInt) (j := 1) rfl (by decide) i17.1 n27 (Int.le_refl _) (Int.le_refl _) (by decide)) (fun x_48 ls hx_48 hl => ?_)
            refine lv_goto (tgt := 7) hx hb dX0_strongest_64 (by decide) ?_
            have hl := lv_sub (l' := [(0, .ref fo), (1, .int n), (2, .int x_3), (3, .int q_44), (4, .int x_48), (5, .int q_44)]) hl [4, 5, 2, 1, 0, 3] rfl
            have hP : va_P g.1 vwCl (List.flatten [bFo g fo o lo od, bTown g o a pe wo tx ch jo tr dy sd f, bLaw g lo lc lz ll lm2_32 lg2_33 ld2_34 fc, bTown g od ad pe3_35 wo3_36 tx3_37 ch3_38 jo3_39 tr3_40 dy3_41 sd3_42 f3_43]) H := hP
            have hD : va_D A (List.flatten [bFo g fo o lo od, bTown g o a pe wo tx ch jo tr dy sd f, bLaw g lo lc lz ll lm2_32 lg2_33 ld2_34 fc, bTown g od ad pe3_35 wo3_36 tx3_37 ch3_38 jo3_39 tr3_40 dy3_41 sd3_42 f3_43]) := hD
            exact ih7_24 x_3 q_44 x_48 lm2_32 lg2_33 ld2_34 pe3_35 wo3_36 tx3_37 ch3_38 jo3_39 tr3_40 dy3_41 sd3_42 f3_43 ⟨(Int.le_trans (by decide) i17.1), n27⟩ ⟨(Int.le_trans (by decide) hx_48.2.1), hx_48.2.2⟩ ⟨hq45_0.1, hq45_0.2⟩ ⟨hq45_1.1, hq45_1.2⟩ rf3_43 (zGu_y i20 i21 hx_48.1 (by omega) (zHr_y hq30_k) (zGuW_e (s := (pe, wo, tx, ch, jo, tr, dy, sd, f)) hq45_3 hq45_4 b_pe.2) (by omega)) (Or.inr (zGuW_e (s := (pe, wo, tx, ch, jo, tr, dy, sd, f)) hq45_3 hq45_4 b_pe.2)) (by first | omega | assumption | decide) H _ ls (zmK hx_48.1 (by decide) n27 (by decide) hk7_24)  hP hD hS (lv_sub hl [0, 1, 2, 3, 4] rfl)
          · skip
            have c49 : ¬ x_1.toInt = (-1) := zne cb9 rfl (by decide)
            have n50 : 0 ≤ x_1.toInt := zN1 c49 i16.1 (by decide)
            refine lv_iload hx hb dX0_strongest_49 (lv_at hl 0 rfl) ?_
            refine lv_iload_n hx hb dX0_strongest_51 rfl (lv_at hl 4 rfl) ?_
            refine lv_icmp_le (tgt := 61) hx hb dX0_strongest_52 (by decide) (fun cb9 => ?_) (fun cb9 => ?_)
            · skip
              have c51 : q_44.toInt ≤ x_2.toInt := zle cb9 rfl rfl
              refine ziinc3 (n' := 1) (a' := 1) (b' := 8) (lv' := fun v9 => [(4, .int v9), (5, .int q_44), (0, .ref fo), (1, .int n), (2, .int x_1), (3, .int x_2)]) hx hb dX0_strongest_61 hl (k := 5) rfl (by decide) (fun _ => rfl) (zaddK (i := x_3.toInt) (j := 1) rfl (by decide) i17.1 n27 (Int.le_refl _) (Int.le_refl _) (by decide)) (fun x_52 ls hx_52 hl => ?_)
              refine lv_goto (tgt := 7) hx hb dX0_strongest_64 (by decide) ?_
              have hl := lv_sub (l' := [(0, .ref fo), (1, .int n), (2, .int x_1), (3, .int x_2), (4, .int x_52), (5, .int q_44)]) hl [2, 3, 4, 5, 0, 1] rfl
              have hP : va_P g.1 vwCl (List.flatten [bFo g fo o lo od, bTown g o a pe wo tx ch jo tr dy sd f, bLaw g lo lc lz ll lm2_32 lg2_33 ld2_34 fc, bTown g od ad pe3_35 wo3_36 tx3_37 ch3_38 jo3_39 tr3_40 dy3_41 sd3_42 f3_43]) H := hP
              have hD : va_D A (List.flatten [bFo g fo o lo od, bTown g o a pe wo tx ch jo tr dy sd f, bLaw g lo lc lz ll lm2_32 lg2_33 ld2_34 fc, bTown g od ad pe3_35 wo3_36 tx3_37 ch3_38 jo3_39 tr3_40 dy3_41 sd3_42 f3_43]) := hD
              exact ih7_24 x_1 x_2 x_52 lm2_32 lg2_33 ld2_34 pe3_35 wo3_36 tx3_37 ch3_38 jo3_39 tr3_40 dy3_41 sd3_42 f3_43 ⟨(Int.le_trans (by decide) n50), i16.2⟩ ⟨(Int.le_trans (by decide) hx_52.2.1), hx_52.2.2⟩ ⟨hq45_0.1, hq45_0.2⟩ ⟨hq45_1.1, hq45_1.2⟩ rf3_43 (zGu_m i20 i21 hx_52.1 (by omega) (zGuW_e (s := (pe, wo, tx, ch, jo, tr, dy, sd, f)) hq45_3 hq45_4 b_pe.2) (by omega)) i21 (by first | omega | assumption | decide) H _ ls (zmK hx_52.1 (by decide) n27 (by decide) hk7_24)  hP hD hS (lv_sub hl [0, 1, 2, 3, 4] rfl)
            · skip
              have c53 : x_2.toInt < q_44.toInt := zlti (Int32.not_le.mp cb9) rfl rfl
              refine lv_iload hx hb dX0_strongest_55 (lv_at hl 5 rfl) ?_
              refine lv_istore_n (lv' := [(2, .int x_3), (5, .int q_44), (0, .ref fo), (1, .int n), (3, .int x_2), (4, .int x_3)]) hx hb dX0_strongest_57 rfl hl (by decide) rfl (fun ls hl => ?_)
              refine lv_iload hx hb dX0_strongest_58 (lv_at hl 1 rfl) ?_
              refine lv_istore_n (lv' := [(3, .int q_44), (2, .int x_3), (5, .int q_44), (0, .ref fo), (1, .int n), (4, .int x_3)]) hx hb dX0_strongest_60 rfl hl (by decide) rfl (fun ls hl => ?_)
              refine ziinc3 (n' := 1) (a' := 1) (b' := 8) (lv' := fun v9 => [(4, .int v9), (3, .int q_44), (2, .int x_3), (5, .int q_44), (0, .ref fo), (1, .int n)]) hx hb dX0_strongest_61 hl (k := 5) rfl (by decide) (fun _ => rfl) (zaddK (i := x_3.toInt) (j := 1) rfl (by decide) i17.1 n27 (Int.le_refl _) (Int.le_refl _) (by decide)) (fun x_54 ls hx_54 hl => ?_)
              refine lv_goto (tgt := 7) hx hb dX0_strongest_64 (by decide) ?_
              have hl := lv_sub (l' := [(0, .ref fo), (1, .int n), (2, .int x_3), (3, .int q_44), (4, .int x_54), (5, .int q_44)]) hl [4, 5, 2, 1, 0, 3] rfl
              have hP : va_P g.1 vwCl (List.flatten [bFo g fo o lo od, bTown g o a pe wo tx ch jo tr dy sd f, bLaw g lo lc lz ll lm2_32 lg2_33 ld2_34 fc, bTown g od ad pe3_35 wo3_36 tx3_37 ch3_38 jo3_39 tr3_40 dy3_41 sd3_42 f3_43]) H := hP
              have hD : va_D A (List.flatten [bFo g fo o lo od, bTown g o a pe wo tx ch jo tr dy sd f, bLaw g lo lc lz ll lm2_32 lg2_33 ld2_34 fc, bTown g od ad pe3_35 wo3_36 tx3_37 ch3_38 jo3_39 tr3_40 dy3_41 sd3_42 f3_43]) := hD
              exact ih7_24 x_3 q_44 x_54 lm2_32 lg2_33 ld2_34 pe3_35 wo3_36 tx3_37 ch3_38 jo3_39 tr3_40 dy3_41 sd3_42 f3_43 ⟨(Int.le_trans (by decide) i17.1), n27⟩ ⟨(Int.le_trans (by decide) hx_54.2.1), hx_54.2.2⟩ ⟨hq45_0.1, hq45_0.2⟩ ⟨hq45_1.1, hq45_1.2⟩ rf3_43 (zGu_y i20 i21 hx_54.1 (by omega) (zHr_y hq30_k) (zGuW_e (s := (pe, wo, tx, ch, jo, tr, dy, sd, f)) hq45_3 hq45_4 b_pe.2) (by omega)) (Or.inr (zGuW_e (s := (pe, wo, tx, ch, jo, tr, dy, sd, f)) hq45_3 hq45_4 b_pe.2)) (by first | omega | assumption | decide) H _ ls (zmK hx_54.1 (by decide) n27 (by decide) hk7_24)  hP hD hS (lv_sub hl [0, 1, 2, 3, 4] rfl)
        · skip
          refine lv_if_eq (tgt := 61) hx hb dX0_strongest_28 (by decide) (fun _ => ?_) (fun c55 => absurd (by decide) c55)
          refine ziinc3 (n' := 1) (a' := 1) (b' := 8) (lv' := fun v9 => [(4, .int v9), (0, .ref fo), (1, .int n), (2, .int x_1), (3, .int x_2)]) hx hb dX0_strongest_61 hl (k := 4) rfl (by decide) (fun _ => rfl) (zaddK (i := x_3.toInt) (j := 1) rfl (by decide) i17.1 n27 (Int.le_refl _) (Int.le_refl _) (by decide)) (fun x_56 ls hx_56 hl => ?_)
          refine lv_goto (tgt := 7) hx hb dX0_strongest_64 (by decide) ?_
          have hl := lv_sub (l' := [(0, .ref fo), (1, .int n), (2, .int x_1), (3, .int x_2), (4, .int x_56)]) hl [1, 2, 3, 4, 0] rfl
          have hP : va_P g.1 vwCl (List.flatten [bFo g fo o lo od, bLaw g lo lc lz ll x_4 x_5 x_6 fc, bTown g od ad x_7 x_8 x_9 x_10 x_11 x_12 x_13 x_14 f_15, bTown g o a pe wo tx ch jo tr dy sd f]) H := hP
          have hD : va_D A (List.flatten [bFo g fo o lo od, bLaw g lo lc lz ll x_4 x_5 x_6 fc, bTown g od ad x_7 x_8 x_9 x_10 x_11 x_12 x_13 x_14 f_15, bTown g o a pe wo tx ch jo tr dy sd f]) := hD
          obtain ⟨hP, hD⟩ := zord (g := g) (Bs' := [bFo g fo o lo od, bTown g o a pe wo tx ch jo tr dy sd f, bLaw g lo lc lz ll x_4 x_5 x_6 fc, bTown g od ad x_7 x_8 x_9 x_10 x_11 x_12 x_13 x_14 f_15]) [0, 3, 1, 2] rfl rfl hP hD
          have hP : va_P g.1 vwCl (List.flatten [bFo g fo o lo od, bTown g o a pe wo tx ch jo tr dy sd f, bLaw g lo lc lz ll x_4 x_5 x_6 fc, bTown g od ad x_7 x_8 x_9 x_10 x_11 x_12 x_13 x_14 f_15]) H := hP
          have hD : va_D A (List.flatten [bFo g fo o lo od, bTown g o a pe wo tx ch jo tr dy sd f, bLaw g lo lc lz ll x_4 x_5 x_6 fc, bTown g od ad x_7 x_8 x_9 x_10 x_11 x_12 x_13 x_14 f_15]) := hD
          exact ih7_24 x_1 x_2 x_56 x_4 x_5 x_6 x_7 x_8 x_9 x_10 x_11 x_12 x_13 x_14 f_15 ⟨i16.1, i16.2⟩ ⟨(Int.le_trans (by decide) hx_56.2.1), hx_56.2.2⟩ ⟨i18.1, i18.2⟩ ⟨i19.1, i19.2⟩ rf_15 (zGu_n i20 hx_56.1 (by omega) (zHr_n hq30_k)) i21 (by first | omega | assumption | decide) H _ ls (zmK hx_56.1 (by decide) n27 (by decide) hk7_24)  hP hD hS (lv_sub hl [0, 1, 2, 3, 4] rfl)
  have hLn1 : ((-1) : Int32).toInt = (-1) := by decide
  have hL0 : (0 : Int32).toInt = 0 := by decide
  have hP : va_P g.1 vwCl (List.flatten [bFo g fo o lo od, bTown g o a pe wo tx ch jo tr dy sd f, bLaw g lo lc lz ll lm lg ld fc, bTown g od ad ped wod txd chd jod trd dyd sdd fd]) s.heap := hP
  have hD : va_D A (List.flatten [bFo g fo o lo od, bTown g o a pe wo tx ch jo tr dy sd f, bLaw g lo lc lz ll lm lg ld fc, bTown g od ad ped wod txd chd jod trd dyd sdd fd]) := hD
  exact LP7_23 _ (-1) 0 0 lm lg ld ped wod txd chd jod trd dyd sdd fd (by decide) (by decide) ⟨b_ped.1, b_ped.2⟩ ⟨b_wod.1, b_wod.2⟩ rfd (zBst_0 rfl (by decide)) (Or.inl (by decide)) (by first | omega | assumption | decide) s.heap _ ls (Nat.lt_succ_self _)  hP hD hS (lv_sub hl [0, 1, 2, 3, 4] rfl)
set_option maxRecDepth 100000 in
set_option maxHeartbeats 4000000 in
theorem c_x_guruC (l : Launch) (hfl : l.stackTraces = false) (g : zG) (x : Nat) (ta : Nat) (o : Nat) (lo : Nat) (go : Nat) (tt : Nat) (lt : Nat) (mo : Nat) (fo : Nat) (ro : Nat) (fl9 : Int32) (a : Nat → Nat) (pe : Int32) (wo : Int32) (tx : Int32) (ch : Int32) (jo : Int32) (tr : Int32) (dy : Int32) (sd : Int32) (f : Nat → Nat → Int32) (lc : Nat) (lz : Int32) (ll : Int32) (lm : Int32) (lg : Int32) (ld : Int32) (fc : Nat → Int32) (oD : Nat) (aD : Nat → Nat) (peD : Int32) (woD : Int32) (txD : Int32) (chD : Int32) (joD : Int32) (trD : Int32) (dyD : Int32) (sdD : Int32) (fD : Nat → Nat → Int32) (n : Int32) (b_pe : 0 ≤ pe.toInt ∧ pe.toInt ≤ 8) (b_wo : 0 ≤ wo.toInt ∧ wo.toInt ≤ 6) (rf : zZ4 f) (b_lz : 0 ≤ lz.toInt ∧ lz.toInt ≤ 400) (b_peD : 0 ≤ peD.toInt ∧ peD.toInt ≤ 8) (b_woD : 0 ≤ woD.toInt ∧ woD.toInt ≤ 6) (rfD : zZ4 fD) : zX' g l yX11_guru (Cond.code yX11_guru cX11_guru 2 (some .int) :: zB) ({ frames := 8, cells := 1, slots := 6, locals := 177 } : Room) [.ref x, .int n] [bDR g x ta o lo go tt lt mo fo ro fl9, bFo g fo o lo oD, bTown g o a pe wo tx ch jo tr dy sd f, bLaw g lo lc lz ll lm lg ld fc, bTown g oD aD peD woD txD chD joD trD dyD sdD fD] (fun u : Int32 × Int32 × Int32 × Int32 × Int32 × Int32 × Int32 × Int32 × Int32 × Int32 × Int32 × (Nat → Nat → Int32) × Int32 => (fun (lm2 : Int32) (lg2 : Int32) (ld2 : Int32) (peD2 : Int32) (woD2 : Int32) (txD2 : Int32) (chD2 : Int32) (joD2 : Int32) (trD2 : Int32) (dyD2 : Int32) (sdD2 : Int32) (fD2 : Nat → Nat → Int32) (q : Int32) => some (.int q)) (u.1) (u.2.1) (u.2.2.1) (u.2.2.2.1) (u.2.2.2.2.1) (u.2.2.2.2.2.1) (u.2.2.2.2.2.2.1) (u.2.2.2.2.2.2.2.1) (u.2.2.2.2.2.2.2.2.1) (u.2.2.2.2.2.2.2.2.2.1) (u.2.2.2.2.2.2.2.2.2.2.1) (u.2.2.2.2.2.2.2.2.2.2.2.1) (u.2.2.2.2.2.2.2.2.2.2.2.2)) (fun u : Int32 × Int32 × Int32 × Int32 × Int32 × Int32 × Int32 × Int32 × Int32 × Int32 × Int32 × (Nat → Nat → Int32) × Int32 => (fun (lm2 : Int32) (lg2 : Int32) (ld2 : Int32) (peD2 : Int32) (woD2 : Int32) (txD2 : Int32) (chD2 : Int32) (joD2 : Int32) (trD2 : Int32) (dyD2 : Int32) (sdD2 : Int32) (fD2 : Nat → Nat → Int32) (q : Int32) => (0 ≤ peD2.toInt ∧ peD2.toInt ≤ 8) ∧ (0 ≤ woD2.toInt ∧ woD2.toInt ≤ 6) ∧ (zZ4 fD2) ∧ ((0, q) = zdGuru (zLwR fc lz ll) n (pe, wo, tx, ch, jo, tr, dy, sd, f))) (u.1) (u.2.1) (u.2.2.1) (u.2.2.2.1) (u.2.2.2.2.1) (u.2.2.2.2.2.1) (u.2.2.2.2.2.2.1) (u.2.2.2.2.2.2.2.1) (u.2.2.2.2.2.2.2.2.1) (u.2.2.2.2.2.2.2.2.2.1) (u.2.2.2.2.2.2.2.2.2.2.1) (u.2.2.2.2.2.2.2.2.2.2.2.1) (u.2.2.2.2.2.2.2.2.2.2.2.2)) (fun u : Int32 × Int32 × Int32 × Int32 × Int32 × Int32 × Int32 × Int32 × Int32 × Int32 × Int32 × (Nat → Nat → Int32) × Int32 => (fun (lm2 : Int32) (lg2 : Int32) (ld2 : Int32) (peD2 : Int32) (woD2 : Int32) (txD2 : Int32) (chD2 : Int32) (joD2 : Int32) (trD2 : Int32) (dyD2 : Int32) (sdD2 : Int32) (fD2 : Nat → Nat → Int32) (q : Int32) => [bDR g x ta o lo go tt lt mo fo ro fl9, bFo g fo o lo oD, bTown g o a pe wo tx ch jo tr dy sd f, bLaw g lo lc lz ll lm2 lg2 ld2 fc, bTown g oD aD peD2 woD2 txD2 chD2 joD2 trD2 dyD2 sdD2 fD2]) (u.1) (u.2.1) (u.2.2.1) (u.2.2.2.1) (u.2.2.2.2.1) (u.2.2.2.2.2.1) (u.2.2.2.2.2.2.1) (u.2.2.2.2.2.2.2.1) (u.2.2.2.2.2.2.2.2.1) (u.2.2.2.2.2.2.2.2.2.1) (u.2.2.2.2.2.2.2.2.2.2.1) (u.2.2.2.2.2.2.2.2.2.2.2.1) (u.2.2.2.2.2.2.2.2.2.2.2.2)) (fun (E : String) => fun u : Int32 × Int32 × Int32 × Int32 × Int32 × Int32 × Int32 × Int32 × Int32 × Int32 × Int32 × (Nat → Nat → Int32) => (fun (lm2 : Int32) (lg2 : Int32) (ld2 : Int32) (peD2 : Int32) (woD2 : Int32) (txD2 : Int32) (chD2 : Int32) (joD2 : Int32) (trD2 : Int32) (dyD2 : Int32) (sdD2 : Int32) (fD2 : Nat → Nat → Int32) => (E = "java/lang/IllegalArgumentException") ∧ (0 ≤ peD2.toInt ∧ peD2.toInt ≤ 8) ∧ (0 ≤ woD2.toInt ∧ woD2.toInt ≤ 6) ∧ (zZ4 fD2) ∧ (E = "java/lang/IllegalArgumentException" → (1, 0) = zdGuru (zLwR fc lz ll) n (pe, wo, tx, ch, jo, tr, dy, sd, f))) (u.1) (u.2.1) (u.2.2.1) (u.2.2.2.1) (u.2.2.2.2.1) (u.2.2.2.2.2.1) (u.2.2.2.2.2.2.1) (u.2.2.2.2.2.2.2.1) (u.2.2.2.2.2.2.2.2.1) (u.2.2.2.2.2.2.2.2.2.1) (u.2.2.2.2.2.2.2.2.2.2.1) (u.2.2.2.2.2.2.2.2.2.2.2)) (fun u : Int32 × Int32 × Int32 × Int32 × Int32 × Int32 × Int32 × Int32 × Int32 × Int32 × Int32 × (Nat → Nat → Int32) => (fun (lm2 : Int32) (lg2 : Int32) (ld2 : Int32) (peD2 : Int32) (woD2 : Int32) (txD2 : Int32) (chD2 : Int32) (joD2 : Int32) (trD2 : Int32) (dyD2 : Int32) (sdD2 : Int32) (fD2 : Nat → Nat → Int32) => [bDR g x ta o lo go tt lt mo fo ro fl9, bFo g fo o lo oD, bTown g o a pe wo tx ch jo tr dy sd f, bLaw g lo lc lz ll lm2 lg2 ld2 fc, bTown g oD aD peD2 woD2 txD2 chD2 joD2 trD2 dyD2 sdD2 fD2]) (u.1) (u.2.1) (u.2.2.1) (u.2.2.2.1) (u.2.2.2.2.1) (u.2.2.2.2.2.1) (u.2.2.2.2.2.2.1) (u.2.2.2.2.2.2.2.1) (u.2.2.2.2.2.2.2.2.1) (u.2.2.2.2.2.2.2.2.2.1) (u.2.2.2.2.2.2.2.2.2.2.1) (u.2.2.2.2.2.2.2.2.2.2.2)) := by
  refine zX'.of (cc := cX11_guru) (maxL := 2) (rt := (some .int)) (by decide) rfl (Nat.le_of_ble_eq_true rfl) ?_
  intro p e s m args below meth c A ls St hr hlocks htab hin hK hT hA hP hD hS hl
  obtain ⟨hx, hb, hml, hown, hts⟩ := id St
  have hl : lv_has ls 2 [(0, .ref x), (1, .int n)] := hl
  refine lv_aload_n hx hb dX11_guru_0 rfl (lv_at hl 0 rfl) ?_
  refine lv_iload_n hx hb dX11_guru_1 rfl (lv_at hl 1 rfl) ?_
  refine lv_iconst (v := 0) hx hb dX11_guru_2 (by decide) ?_
  refine lv_bipush (v := 30) hx hb dX11_guru_3 (by decide) ?_
  refine xcallV' (g := g) (q0 := 0) (ci := 9) (As := [.int n, .int 0, .int 30]) (rest := []) St hK hT hA hP hD hS hl.1 [0] [1, 2, 3, 4] rfl rfl rfl (c_x_nwE_0_30 l hfl g x ta o lo go tt lt mo fo ro fl9 n ) (cwV 3 hts (zgL (zl4 k668 k669 k670 k621) k667) rfl rfl rfl (by decide +kernel) ⟨Nat.le_of_ble_eq_true rfl, Nat.le_of_ble_eq_true rfl⟩) rfl rfl rfl rfl (Nat.le_of_ble_eq_true rfl) dX11_guru_5 ⟨(Nat.le_of_ble_eq_true rfl), (Nat.le_of_ble_eq_true rfl)⟩ (fun E ce q9 u9 H locs hpx hP hD hS hce hcv hcl => ?_) (fun _u H locs hq1 hP hD hS => ?_)
  · skip
    have hpx : (E = "java/lang/IllegalArgumentException") ∧ (¬ (0 ≤ n.toInt ∧ n.toInt ≤ 30)) := hpx
    have hP : va_P g.1 vwCl (List.flatten [bFo g fo o lo oD, bTown g o a pe wo tx ch jo tr dy sd f, bLaw g lo lc lz ll lm lg ld fc, bTown g oD aD peD woD txD chD joD trD dyD sdD fD, bDR g x ta o lo go tt lt mo fo ro fl9]) H := hP
    have hD : va_D A (List.flatten [bFo g fo o lo oD, bTown g o a pe wo tx ch jo tr dy sd f, bLaw g lo lc lz ll lm lg ld fc, bTown g oD aD peD woD txD chD joD trD dyD sdD fD, bDR g x ta o lo go tt lt mo fo ro fl9]) := hD
    obtain ⟨hE9, hy2⟩ := hpx
    have hP : va_P g.1 vwCl (List.flatten [bFo g fo o lo oD, bTown g o a pe wo tx ch jo tr dy sd f, bLaw g lo lc lz ll lm lg ld fc, bTown g oD aD peD woD txD chD joD trD dyD sdD fD, bDR g x ta o lo go tt lt mo fo ro fl9]) H := hP
    have hD : va_D A (List.flatten [bFo g fo o lo oD, bTown g o a pe wo tx ch jo tr dy sd f, bLaw g lo lc lz ll lm lg ld fc, bTown g oD aD peD woD txD chD joD trD dyD sdD fD, bDR g x ta o lo go tt lt mo fo ro fl9]) := hD
    obtain ⟨hP, hD⟩ := zord (g := g) (Bs' := [bDR g x ta o lo go tt lt mo fo ro fl9, bFo g fo o lo oD, bTown g o a pe wo tx ch jo tr dy sd f, bLaw g lo lc lz ll lm lg ld fc, bTown g oD aD peD woD txD chD joD trD dyD sdD fD]) [4, 0, 1, 2, 3] rfl rfl hP hD
    exact zout htab hlocks hS (Nat.le_of_ble_eq_true rfl) (Nat.le_of_ble_eq_true rfl) hce hcv hcl (lm, lg, ld, peD, woD, txD, chD, joD, trD, dyD, sdD, fD) (show (E = "java/lang/IllegalArgumentException") ∧ (0 ≤ peD.toInt ∧ peD.toInt ≤ 8) ∧ (0 ≤ woD.toInt ∧ woD.toInt ≤ 6) ∧ (zZ4 fD) ∧ (E = "java/lang/IllegalArgumentException" → (1, 0) = zdGuru (zLwR fc lz ll) n (pe, wo, tx, ch, jo, tr, dy, sd, f)) from ⟨hE9, (show 0 ≤ peD.toInt ∧ peD.toInt ≤ 8 from b_peD), (show 0 ≤ woD.toInt ∧ woD.toInt ≤ 6 from b_woD), (show zZ4 fD from rfD), (show E = "java/lang/IllegalArgumentException" → (1, 0) = zdGuru (zLwR fc lz ll) n (pe, wo, tx, ch, jo, tr, dy, sd, f) from (fun h9 => zdGuru_c1 hy2))⟩) hP hD
  · skip
    replace hq1 : (0 ≤ n.toInt ∧ n.toInt ≤ 30) := hq1
    have hP : va_P g.1 vwCl (List.flatten [bFo g fo o lo oD, bTown g o a pe wo tx ch jo tr dy sd f, bLaw g lo lc lz ll lm lg ld fc, bTown g oD aD peD woD txD chD joD trD dyD sdD fD, bDR g x ta o lo go tt lt mo fo ro fl9]) H := hP
    have hD : va_D A (List.flatten [bFo g fo o lo oD, bTown g o a pe wo tx ch jo tr dy sd f, bLaw g lo lc lz ll lm lg ld fc, bTown g oD aD peD woD txD chD joD trD dyD sdD fD, bDR g x ta o lo go tt lt mo fo ro fl9]) := hD
    refine W.widen (k := 1) (n := 6) (Nat.le_of_ble_eq_true rfl) (Nat.le_of_ble_eq_true rfl) ?_
    refine W.eq (g2 := F0 m 8 ls []) rfl ?_
    refine lv_aload_n hx hb dX11_guru_8 rfl (lv_at hl 0 rfl) ?_
    refine va_get (D := g.1) (ci := 9) (v := .ref fo) (C := RX11) (T := TX11) (N := 10) hx hb hts izRX11 hown hK hP 27 rfl rfl 7 (by decide) (hts _ k554) (fun _ h9 => h9) rfl dX11_guru_9 ?_
    refine lv_iload_n hx hb dX11_guru_12 rfl (lv_at hl 1 rfl) ?_
    refine mcallV' (g := g) (q0 := 0) (ci := 0) (As := [.int n]) (rest := []) St hK hT hA hP hD hS hl.1 [0, 1, 2, 3] [4] rfl rfl rfl (c_f_strongestC l g fo o lo oD a pe wo tx ch jo tr dy sd f lc lz ll lm lg ld fc aD peD woD txD chD joD trD dyD sdD fD n b_pe b_wo rf b_lz b_peD b_woD rfD (⟨hq1.1, (Int.le_trans hq1.2 (by decide))⟩)) (cwV 1 hts (zgL (zl4 k689 k690 k691 k169) k170) rfl rfl rfl (by decide +kernel) ⟨Nat.le_of_ble_eq_true rfl, Nat.le_of_ble_eq_true rfl⟩) rfl rfl rfl rfl (Nat.le_of_ble_eq_true rfl) dX11_guru_13 ⟨(Nat.le_of_ble_eq_true rfl), (Nat.le_of_ble_eq_true rfl)⟩ (fun u_ H locs hq16 hP hD hS => ?_)
    obtain ⟨lm2_3, lg2_4, ld2_5, pe3_6, wo3_7, tx3_8, ch3_9, jo3_10, tr3_11, dy3_12, sd3_13, f3_14, q_15⟩ := u_
    replace hq16 : (0 ≤ pe3_6.toInt ∧ pe3_6.toInt ≤ 8) ∧ (0 ≤ wo3_7.toInt ∧ wo3_7.toInt ≤ 6) ∧ (zZ4 f3_14) ∧ (q_15 = zBst (zHr9 (pe, wo, tx, ch, jo, tr, dy, sd, f)) (zGuW (zLwR fc lz ll) n (pe, wo, tx, ch, jo, tr, dy, sd, f)) pe.toInt.toNat) := hq16
    have hP : va_P g.1 vwCl (List.flatten [bDR g x ta o lo go tt lt mo fo ro fl9, bFo g fo o lo oD, bTown g o a pe wo tx ch jo tr dy sd f, bLaw g lo lc lz ll lm2_3 lg2_4 ld2_5 fc, bTown g oD aD pe3_6 wo3_7 tx3_8 ch3_9 jo3_10 tr3_11 dy3_12 sd3_13 f3_14]) H := hP
    have hD : va_D A (List.flatten [bDR g x ta o lo go tt lt mo fo ro fl9, bFo g fo o lo oD, bTown g o a pe wo tx ch jo tr dy sd f, bLaw g lo lc lz ll lm2_3 lg2_4 ld2_5 fc, bTown g oD aD pe3_6 wo3_7 tx3_8 ch3_9 jo3_10 tr3_11 dy3_12 sd3_13 f3_14]) := hD
    refine W.widen (k := 1) (n := 6) (Nat.le_of_ble_eq_true rfl) (Nat.le_of_ble_eq_true rfl) ?_
    refine W.eq (g2 := F0 m 16 ls [.int q_15]) rfl ?_
    obtain ⟨hq16_0, hq16_1, rf3_14, hq16_3⟩ := hq16
    have hP : va_P g.1 vwCl (List.flatten [bDR g x ta o lo go tt lt mo fo ro fl9, bFo g fo o lo oD, bTown g o a pe wo tx ch jo tr dy sd f, bLaw g lo lc lz ll lm2_3 lg2_4 ld2_5 fc, bTown g oD aD pe3_6 wo3_7 tx3_8 ch3_9 jo3_10 tr3_11 dy3_12 sd3_13 f3_14]) H := hP
    have hD : va_D A (List.flatten [bDR g x ta o lo go tt lt mo fo ro fl9, bFo g fo o lo oD, bTown g o a pe wo tx ch jo tr dy sd f, bLaw g lo lc lz ll lm2_3 lg2_4 ld2_5 fc, bTown g oD aD pe3_6 wo3_7 tx3_8 ch3_9 jo3_10 tr3_11 dy3_12 sd3_13 f3_14]) := hD
    exact zret_i hx hb hr hlocks hS (Nat.le_of_ble_eq_true rfl) (Nat.le_of_ble_eq_true rfl) dX11_guru_16 (lm2_3, lg2_4, ld2_5, pe3_6, wo3_7, tx3_8, ch3_9, jo3_10, tr3_11, dy3_12, sd3_13, f3_14, q_15) rfl (show (0 ≤ pe3_6.toInt ∧ pe3_6.toInt ≤ 8) ∧ (0 ≤ wo3_7.toInt ∧ wo3_7.toInt ≤ 6) ∧ (zZ4 f3_14) ∧ ((0, q_15) = zdGuru (zLwR fc lz ll) n (pe, wo, tx, ch, jo, tr, dy, sd, f)) from ⟨(by first | assumption | omega | decide), (by first | assumption | omega | decide), (by first | assumption | omega | decide), (zdGuru_c0 (by omega) hq16_3)⟩) hP hD
set_option maxRecDepth 100000 in
set_option maxHeartbeats 4000000 in
theorem l_guruC (l : Launch) (hfl : l.stackTraces = false) (g : zG) (x : Nat) (ta : Nat) (o : Nat) (lo : Nat) (go : Nat) (tt : Nat) (lt : Nat) (mo : Nat) (fo : Nat) (ro : Nat) (fl9 : Int32) (a : Nat → Nat) (pe : Int32) (wo : Int32) (tx : Int32) (ch : Int32) (jo : Int32) (tr : Int32) (dy : Int32) (sd : Int32) (f : Nat → Nat → Int32) (lc : Nat) (lz : Int32) (ll : Int32) (lm : Int32) (lg : Int32) (ld : Int32) (fc : Nat → Int32) (oD : Nat) (aD : Nat → Nat) (peD : Int32) (woD : Int32) (txD : Int32) (chD : Int32) (joD : Int32) (trD : Int32) (dyD : Int32) (sdD : Int32) (fD : Nat → Nat → Int32) (oa : Nat) (fz : Nat → Int64) (n : Int32) (b_pe : 0 ≤ pe.toInt ∧ pe.toInt ≤ 8) (b_wo : 0 ≤ wo.toInt ∧ wo.toInt ≤ 6) (rf : zZ4 f) (b_lz : 0 ≤ lz.toInt ∧ lz.toInt ≤ 400) (b_peD : 0 ≤ peD.toInt ∧ peD.toInt ≤ 8) (b_woD : 0 ≤ woD.toInt ∧ woD.toInt ≤ 6) (rfD : zZ4 fD) : zX' g l yL_guru (Cond.codeWith yL_guru cL_guru 4 (some .int) [(0, 9, 12, 13)] :: zB) ({ frames := 9, cells := 1, slots := 6, locals := 198 } : Room) [.ref x, .int n, .ref oa] [bDR g x ta o lo go tt lt mo fo ro fl9, bFo g fo o lo oD, bTown g o a pe wo tx ch jo tr dy sd f, bLaw g lo lc lz ll lm lg ld fc, bTown g oD aD peD woD txD chD joD trD dyD sdD fD, bOut g oa fz] (fun u : Int32 × Int32 × Int32 × Int32 × Int32 × Int32 × Int32 × Int32 × Int32 × Int32 × Int32 × (Nat → Nat → Int32) × (Nat → Int64) × Int32 × Int32 => (fun (lm2 : Int32) (lg2 : Int32) (ld2 : Int32) (peD2 : Int32) (woD2 : Int32) (txD2 : Int32) (chD2 : Int32) (joD2 : Int32) (trD2 : Int32) (dyD2 : Int32) (sdD2 : Int32) (fD2 : Nat → Nat → Int32) (fz2 : Nat → Int64) (q : Int32) (a9 : Int32) => some (.int q)) (u.1) (u.2.1) (u.2.2.1) (u.2.2.2.1) (u.2.2.2.2.1) (u.2.2.2.2.2.1) (u.2.2.2.2.2.2.1) (u.2.2.2.2.2.2.2.1) (u.2.2.2.2.2.2.2.2.1) (u.2.2.2.2.2.2.2.2.2.1) (u.2.2.2.2.2.2.2.2.2.2.1) (u.2.2.2.2.2.2.2.2.2.2.2.1) (u.2.2.2.2.2.2.2.2.2.2.2.2.1) (u.2.2.2.2.2.2.2.2.2.2.2.2.2.1) (u.2.2.2.2.2.2.2.2.2.2.2.2.2.2)) (fun u : Int32 × Int32 × Int32 × Int32 × Int32 × Int32 × Int32 × Int32 × Int32 × Int32 × Int32 × (Nat → Nat → Int32) × (Nat → Int64) × Int32 × Int32 => (fun (lm2 : Int32) (lg2 : Int32) (ld2 : Int32) (peD2 : Int32) (woD2 : Int32) (txD2 : Int32) (chD2 : Int32) (joD2 : Int32) (trD2 : Int32) (dyD2 : Int32) (sdD2 : Int32) (fD2 : Nat → Nat → Int32) (fz2 : Nat → Int64) (q : Int32) (a9 : Int32) => (0 ≤ peD2.toInt ∧ peD2.toInt ≤ 8) ∧ (0 ≤ woD2.toInt ∧ woD2.toInt ≤ 6) ∧ (zZ4 fD2) ∧ ((q, a9) = zdGuru (zLwR fc lz ll) n (pe, wo, tx, ch, jo, tr, dy, sd, f)) ∧ (q.toInt = 0 → fz2 0 = Int32.toInt64 a9)) (u.1) (u.2.1) (u.2.2.1) (u.2.2.2.1) (u.2.2.2.2.1) (u.2.2.2.2.2.1) (u.2.2.2.2.2.2.1) (u.2.2.2.2.2.2.2.1) (u.2.2.2.2.2.2.2.2.1) (u.2.2.2.2.2.2.2.2.2.1) (u.2.2.2.2.2.2.2.2.2.2.1) (u.2.2.2.2.2.2.2.2.2.2.2.1) (u.2.2.2.2.2.2.2.2.2.2.2.2.1) (u.2.2.2.2.2.2.2.2.2.2.2.2.2.1) (u.2.2.2.2.2.2.2.2.2.2.2.2.2.2)) (fun u : Int32 × Int32 × Int32 × Int32 × Int32 × Int32 × Int32 × Int32 × Int32 × Int32 × Int32 × (Nat → Nat → Int32) × (Nat → Int64) × Int32 × Int32 => (fun (lm2 : Int32) (lg2 : Int32) (ld2 : Int32) (peD2 : Int32) (woD2 : Int32) (txD2 : Int32) (chD2 : Int32) (joD2 : Int32) (trD2 : Int32) (dyD2 : Int32) (sdD2 : Int32) (fD2 : Nat → Nat → Int32) (fz2 : Nat → Int64) (q : Int32) (a9 : Int32) => [bDR g x ta o lo go tt lt mo fo ro fl9, bFo g fo o lo oD, bTown g o a pe wo tx ch jo tr dy sd f, bLaw g lo lc lz ll lm2 lg2 ld2 fc, bTown g oD aD peD2 woD2 txD2 chD2 joD2 trD2 dyD2 sdD2 fD2, bOut g oa fz2]) (u.1) (u.2.1) (u.2.2.1) (u.2.2.2.1) (u.2.2.2.2.1) (u.2.2.2.2.2.1) (u.2.2.2.2.2.2.1) (u.2.2.2.2.2.2.2.1) (u.2.2.2.2.2.2.2.2.1) (u.2.2.2.2.2.2.2.2.2.1) (u.2.2.2.2.2.2.2.2.2.2.1) (u.2.2.2.2.2.2.2.2.2.2.2.1) (u.2.2.2.2.2.2.2.2.2.2.2.2.1) (u.2.2.2.2.2.2.2.2.2.2.2.2.2.1) (u.2.2.2.2.2.2.2.2.2.2.2.2.2.2)) zNo zN0 := by
  refine zX'.ofH (cc := cL_guru) (maxL := 4) (rt := (some .int)) (by decide) rfl (Nat.le_of_ble_eq_true rfl) ?_
  intro p e s m args below meth c A ls St hr hlocks htab hin hK hT hA hP hD hS hl
  obtain ⟨hx, hb, hml, hown, hts⟩ := id St
  have hl : lv_has ls 4 [(0, .ref x), (1, .int n), (2, .ref oa)] := hl
  refine lv_aload_n hx hb dL_guru_0 rfl (lv_at hl 2 rfl) ?_
  refine lv_iconst (v := 0) hx hb dL_guru_1 (by decide) ?_
  refine lv_aload_n hx hb dL_guru_2 rfl (lv_at hl 0 rfl) ?_
  refine lv_iload_n hx hb dL_guru_3 rfl (lv_at hl 1 rfl) ?_
  refine xcallV' (g := g) (q0 := 0) (ci := 9) (As := [.int n]) (rest := [.int 0, .ref oa]) St hK hT hA hP hD hS hl.1 [0, 1, 2, 3, 4] [5] rfl rfl rfl (c_x_guruC l hfl g x ta o lo go tt lt mo fo ro fl9 a pe wo tx ch jo tr dy sd f lc lz ll lm lg ld fc oD aD peD woD txD chD joD trD dyD sdD fD n b_pe b_wo rf b_lz b_peD b_woD rfD) (cwV 1 hts (zgL (zl4 k1224 k1225 k1226 k621) k692) rfl rfl rfl (by decide +kernel) ⟨Nat.le_of_ble_eq_true rfl, Nat.le_of_ble_eq_true rfl⟩) rfl rfl rfl rfl (Nat.le_of_ble_eq_true rfl) dL_guru_4 ⟨(Nat.le_of_ble_eq_true rfl), (Nat.le_of_ble_eq_true rfl)⟩ (fun E ce q9 u9 H locs hpx hP hD hS hce hcv hcl => ?_) (fun u_ H locs hq14 hP hD hS => ?_)
  · skip
    obtain ⟨lm2_15, lg2_16, ld2_17, peD2_18, woD2_19, txD2_20, chD2_21, joD2_22, trD2_23, dyD2_24, sdD2_25, fD2_26⟩ := u9
    have hpx : (E = "java/lang/IllegalArgumentException") ∧ (0 ≤ peD2_18.toInt ∧ peD2_18.toInt ≤ 8) ∧ (0 ≤ woD2_19.toInt ∧ woD2_19.toInt ≤ 6) ∧ (zZ4 fD2_26) ∧ (E = "java/lang/IllegalArgumentException" → (1, 0) = zdGuru (zLwR fc lz ll) n (pe, wo, tx, ch, jo, tr, dy, sd, f)) := hpx
    have hP : va_P g.1 vwCl (List.flatten [bOut g oa fz, bDR g x ta o lo go tt lt mo fo ro fl9, bFo g fo o lo oD, bTown g o a pe wo tx ch jo tr dy sd f, bLaw g lo lc lz ll lm2_15 lg2_16 ld2_17 fc, bTown g oD aD peD2_18 woD2_19 txD2_20 chD2_21 joD2_22 trD2_23 dyD2_24 sdD2_25 fD2_26]) H := hP
    have hD : va_D A (List.flatten [bOut g oa fz, bDR g x ta o lo go tt lt mo fo ro fl9, bFo g fo o lo oD, bTown g o a pe wo tx ch jo tr dy sd f, bLaw g lo lc lz ll lm2_15 lg2_16 ld2_17 fc, bTown g oD aD peD2_18 woD2_19 txD2_20 chD2_21 joD2_22 trD2_23 dyD2_24 sdD2_25 fD2_26]) := hD
    obtain ⟨hE9, hy27, hy28, rfD2_26, hy29⟩ := hpx
    obtain rfl := hE9
    refine vx_catch hown [] ⟨0, 9, 12, 13⟩ [] (by rw [htab]; rfl) (fun z hz => absurd hz List.not_mem_nil) (by decide) (by decide) (hts _ k1155) ((hT.1.2.2.2.2.1 _ (List.mem_of_getElem? (i := 1) rfl)).use) hce hcv hcl ?_
    refine W.widen (k := 1) (n := 6) (Nat.le_of_ble_eq_true rfl) (Nat.le_of_ble_eq_true rfl) ?_
    refine lv_astore_n (lv' := [(3, .ref q9), (0, .ref x), (1, .int n), (2, .ref oa)]) hx hb dL_guru_12 rfl hl (by decide) rfl (fun ls hl => ?_)
    refine lv_iconst (v := 1) hx hb dL_guru_13 (by decide) ?_
    have hL1 : (1 : Int32).toInt = 1 := by decide
    have hP : va_P g.1 vwCl (List.flatten [bOut g oa fz, bDR g x ta o lo go tt lt mo fo ro fl9, bFo g fo o lo oD, bTown g o a pe wo tx ch jo tr dy sd f, bLaw g lo lc lz ll lm2_15 lg2_16 ld2_17 fc, bTown g oD aD peD2_18 woD2_19 txD2_20 chD2_21 joD2_22 trD2_23 dyD2_24 sdD2_25 fD2_26]) H := hP
    have hD : va_D A (List.flatten [bOut g oa fz, bDR g x ta o lo go tt lt mo fo ro fl9, bFo g fo o lo oD, bTown g o a pe wo tx ch jo tr dy sd f, bLaw g lo lc lz ll lm2_15 lg2_16 ld2_17 fc, bTown g oD aD peD2_18 woD2_19 txD2_20 chD2_21 joD2_22 trD2_23 dyD2_24 sdD2_25 fD2_26]) := hD
    obtain ⟨hP, hD⟩ := zord (g := g) (Bs' := [bDR g x ta o lo go tt lt mo fo ro fl9, bFo g fo o lo oD, bTown g o a pe wo tx ch jo tr dy sd f, bLaw g lo lc lz ll lm2_15 lg2_16 ld2_17 fc, bTown g oD aD peD2_18 woD2_19 txD2_20 chD2_21 joD2_22 trD2_23 dyD2_24 sdD2_25 fD2_26, bOut g oa fz]) [1, 2, 3, 4, 5, 0] rfl rfl hP hD
    exact zret_i hx hb hr hlocks hS (Nat.le_of_ble_eq_true rfl) (Nat.le_of_ble_eq_true rfl) dL_guru_14 (lm2_15, lg2_16, ld2_17, peD2_18, woD2_19, txD2_20, chD2_21, joD2_22, trD2_23, dyD2_24, sdD2_25, fD2_26, fz, (1 : Int32), (0 : Int32)) rfl (show (0 ≤ peD2_18.toInt ∧ peD2_18.toInt ≤ 8) ∧ (0 ≤ woD2_19.toInt ∧ woD2_19.toInt ≤ 6) ∧ (zZ4 fD2_26) ∧ ((1, 0) = zdGuru (zLwR fc lz ll) n (pe, wo, tx, ch, jo, tr, dy, sd, f)) ∧ ((1 : Int32).toInt = 0 → fz 0 = Int32.toInt64 0) from ⟨(by first | assumption | omega | decide), (by first | assumption | omega | decide), (by first | assumption | omega | decide), (hy29 rfl), (fun h9 => absurd h9 (by decide))⟩) hP hD
  · skip
    obtain ⟨lm2_1, lg2_2, ld2_3, peD2_4, woD2_5, txD2_6, chD2_7, joD2_8, trD2_9, dyD2_10, sdD2_11, fD2_12, q_13⟩ := u_
    replace hq14 : (0 ≤ peD2_4.toInt ∧ peD2_4.toInt ≤ 8) ∧ (0 ≤ woD2_5.toInt ∧ woD2_5.toInt ≤ 6) ∧ (zZ4 fD2_12) ∧ ((0, q_13) = zdGuru (zLwR fc lz ll) n (pe, wo, tx, ch, jo, tr, dy, sd, f)) := hq14
    have hP : va_P g.1 vwCl (List.flatten [bOut g oa fz, bDR g x ta o lo go tt lt mo fo ro fl9, bFo g fo o lo oD, bTown g o a pe wo tx ch jo tr dy sd f, bLaw g lo lc lz ll lm2_1 lg2_2 ld2_3 fc, bTown g oD aD peD2_4 woD2_5 txD2_6 chD2_7 joD2_8 trD2_9 dyD2_10 sdD2_11 fD2_12]) H := hP
    have hD : va_D A (List.flatten [bOut g oa fz, bDR g x ta o lo go tt lt mo fo ro fl9, bFo g fo o lo oD, bTown g o a pe wo tx ch jo tr dy sd f, bLaw g lo lc lz ll lm2_1 lg2_2 ld2_3 fc, bTown g oD aD peD2_4 woD2_5 txD2_6 chD2_7 joD2_8 trD2_9 dyD2_10 sdD2_11 fD2_12]) := hD
    refine W.widen (k := 1) (n := 6) (Nat.le_of_ble_eq_true rfl) (Nat.le_of_ble_eq_true rfl) ?_
    refine W.eq (g2 := F0 m 7 ls [.int q_13, .int 0, .ref oa]) rfl ?_
    obtain ⟨hq14_0, hq14_1, rfD2_12, hq14_3⟩ := hq14
    refine lv_i2l (v := (q_13 : Int32).toInt64) hx hb dL_guru_7 rfl ?_
    refine va_last hx hb hK hP hD hS 0 2 rfl rfl (zin rfl) dL_guru_8 (fun H locs hP hD hS => ?_)
    have hP : va_P g.1 vwCl (List.flatten [[(oa, .inl (g.2 2, 1, .inr (.inl (vp_updL fz 0 ((q_13 : Int32).toInt64)))))], bDR g x ta o lo go tt lt mo fo ro fl9, bFo g fo o lo oD, bTown g o a pe wo tx ch jo tr dy sd f, bLaw g lo lc lz ll lm2_1 lg2_2 ld2_3 fc, bTown g oD aD peD2_4 woD2_5 txD2_6 chD2_7 joD2_8 trD2_9 dyD2_10 sdD2_11 fD2_12]) H := hP
    have hD : va_D A (List.flatten [[(oa, .inl (g.2 2, 1, .inr (.inl (vp_updL fz 0 ((q_13 : Int32).toInt64)))))], bDR g x ta o lo go tt lt mo fo ro fl9, bFo g fo o lo oD, bTown g o a pe wo tx ch jo tr dy sd f, bLaw g lo lc lz ll lm2_1 lg2_2 ld2_3 fc, bTown g oD aD peD2_4 woD2_5 txD2_6 chD2_7 joD2_8 trD2_9 dyD2_10 sdD2_11 fD2_12]) := hD
    refine lv_goto (tgt := 15) hx hb dL_guru_9 (by decide) ?_
    refine lv_iconst (v := 0) hx hb dL_guru_15 (by decide) ?_
    have hL0 : (0 : Int32).toInt = 0 := by decide
    have hP : va_P g.1 vwCl (List.flatten [bOut g oa (vp_updL fz 0 ((q_13 : Int32).toInt64)), bDR g x ta o lo go tt lt mo fo ro fl9, bFo g fo o lo oD, bTown g o a pe wo tx ch jo tr dy sd f, bLaw g lo lc lz ll lm2_1 lg2_2 ld2_3 fc, bTown g oD aD peD2_4 woD2_5 txD2_6 chD2_7 joD2_8 trD2_9 dyD2_10 sdD2_11 fD2_12]) H := hP
    have hD : va_D A (List.flatten [bOut g oa (vp_updL fz 0 ((q_13 : Int32).toInt64)), bDR g x ta o lo go tt lt mo fo ro fl9, bFo g fo o lo oD, bTown g o a pe wo tx ch jo tr dy sd f, bLaw g lo lc lz ll lm2_1 lg2_2 ld2_3 fc, bTown g oD aD peD2_4 woD2_5 txD2_6 chD2_7 joD2_8 trD2_9 dyD2_10 sdD2_11 fD2_12]) := hD
    obtain ⟨hP, hD⟩ := zord (g := g) (Bs' := [bDR g x ta o lo go tt lt mo fo ro fl9, bFo g fo o lo oD, bTown g o a pe wo tx ch jo tr dy sd f, bLaw g lo lc lz ll lm2_1 lg2_2 ld2_3 fc, bTown g oD aD peD2_4 woD2_5 txD2_6 chD2_7 joD2_8 trD2_9 dyD2_10 sdD2_11 fD2_12, bOut g oa (vp_updL fz 0 ((q_13 : Int32).toInt64))]) [1, 2, 3, 4, 5, 0] rfl rfl hP hD
    exact zret_i hx hb hr hlocks hS (Nat.le_of_ble_eq_true rfl) (Nat.le_of_ble_eq_true rfl) dL_guru_16 (lm2_1, lg2_2, ld2_3, peD2_4, woD2_5, txD2_6, chD2_7, joD2_8, trD2_9, dyD2_10, sdD2_11, fD2_12, vp_updL fz 0 ((q_13 : Int32).toInt64), (0 : Int32), q_13) rfl (show (0 ≤ peD2_4.toInt ∧ peD2_4.toInt ≤ 8) ∧ (0 ≤ woD2_5.toInt ∧ woD2_5.toInt ≤ 6) ∧ (zZ4 fD2_12) ∧ ((0, q_13) = zdGuru (zLwR fc lz ll) n (pe, wo, tx, ch, jo, tr, dy, sd, f)) ∧ ((0 : Int32).toInt = 0 → (vp_updL fz 0 ((q_13 : Int32).toInt64)) 0 = Int32.toInt64 q_13) from ⟨(by first | assumption | omega | decide), (by first | assumption | omega | decide), (by first | assumption | omega | decide), hq14_3, (fun _ => rfl)⟩) hP hD
set_option maxRecDepth 100000 in
set_option maxHeartbeats 4000000 in
theorem m_guruEC (l : Launch) (g : zG) (o : Nat) (a : Nat → Nat) (th : Int32) (hi : Int32) (ac : Int32) (tp : Int32) (ba : Int32) (en : Int32) (tA : Int32) (fl : Int32) (de : Int32) (iD : Int32) (iO : Int32) (tU : Int32) (fm : Nat → Int32) (fk : Nat → Int32) (fa : Nat → Int32) (fc : Nat → Int32) (ft : Nat → Int32) (ff : Nat → Int32) (fb : Nat → Int32) (fi : Nat → Int32) (n : Int32) (L : zLw) (rfm : rM fm) (rfa : rM fa) (hiD : 0 ≤ iD.toInt ∧ iD.toInt ≤ 1) (hiO : 0 ≤ iO.toInt ∧ iO.toInt ≤ 1) (hrg : zRg (zV fm)) (hL : zLm L fm) : zM' g l yX12_guru (Cond.code yX12_guru cX12_guru 6 (some .int) :: zB) ({ frames := 34, cells := 0, slots := 0, locals := 761 } : Room) [.ref o, .int n] [bMo g o a th hi ac tp ba en tA fl de iD iO tU fm fk fa fc ft ff fb fi] (fun u : Int32 × (Nat → Int32) × (Nat → Int32) × Int32 × Int32 × Int32 × Int32 × Int32 × Int32 × Int32 × (Nat → Int32) × (Nat → Int32) × Int32 => (fun (th2 : Int32) (fm2 : Nat → Int32) (fa2 : Nat → Int32) (ba2 : Int32) (en2 : Int32) (at2 : Int32) (de2 : Int32) (iD2 : Int32) (iO2 : Int32) (tU2 : Int32) (ff2 : Nat → Int32) (fb2 : Nat → Int32) (q : Int32) => some (.int q)) (u.1) (u.2.1) (u.2.2.1) (u.2.2.2.1) (u.2.2.2.2.1) (u.2.2.2.2.2.1) (u.2.2.2.2.2.2.1) (u.2.2.2.2.2.2.2.1) (u.2.2.2.2.2.2.2.2.1) (u.2.2.2.2.2.2.2.2.2.1) (u.2.2.2.2.2.2.2.2.2.2.1) (u.2.2.2.2.2.2.2.2.2.2.2.1) (u.2.2.2.2.2.2.2.2.2.2.2.2)) (fun u : Int32 × (Nat → Int32) × (Nat → Int32) × Int32 × Int32 × Int32 × Int32 × Int32 × Int32 × Int32 × (Nat → Int32) × (Nat → Int32) × Int32 => (fun (th2 : Int32) (fm2 : Nat → Int32) (fa2 : Nat → Int32) (ba2 : Int32) (en2 : Int32) (at2 : Int32) (de2 : Int32) (iD2 : Int32) (iO2 : Int32) (tU2 : Int32) (ff2 : Nat → Int32) (fb2 : Nat → Int32) (q : Int32) => (0 ≤ iO2.toInt ∧ iO2.toInt ≤ 1) ∧ (0 ≤ iD2.toInt ∧ iD2.toInt ≤ 1) ∧ (rM fa2) ∧ (rM fm2) ∧ ((th2, q) = zdGuru L n (zM9 fm)) ∧ (fm = fm2)) (u.1) (u.2.1) (u.2.2.1) (u.2.2.2.1) (u.2.2.2.2.1) (u.2.2.2.2.2.1) (u.2.2.2.2.2.2.1) (u.2.2.2.2.2.2.2.1) (u.2.2.2.2.2.2.2.2.1) (u.2.2.2.2.2.2.2.2.2.1) (u.2.2.2.2.2.2.2.2.2.2.1) (u.2.2.2.2.2.2.2.2.2.2.2.1) (u.2.2.2.2.2.2.2.2.2.2.2.2)) (fun u : Int32 × (Nat → Int32) × (Nat → Int32) × Int32 × Int32 × Int32 × Int32 × Int32 × Int32 × Int32 × (Nat → Int32) × (Nat → Int32) × Int32 => (fun (th2 : Int32) (fm2 : Nat → Int32) (fa2 : Nat → Int32) (ba2 : Int32) (en2 : Int32) (at2 : Int32) (de2 : Int32) (iD2 : Int32) (iO2 : Int32) (tU2 : Int32) (ff2 : Nat → Int32) (fb2 : Nat → Int32) (q : Int32) => [bMo g o a th2 hi ac tp ba2 en2 at2 fl de2 iD2 iO2 tU2 fm2 fk fa2 fc ft ff2 fb2 fi]) (u.1) (u.2.1) (u.2.2.1) (u.2.2.2.1) (u.2.2.2.2.1) (u.2.2.2.2.2.1) (u.2.2.2.2.2.2.1) (u.2.2.2.2.2.2.2.1) (u.2.2.2.2.2.2.2.2.1) (u.2.2.2.2.2.2.2.2.2.1) (u.2.2.2.2.2.2.2.2.2.2.1) (u.2.2.2.2.2.2.2.2.2.2.2.1) (u.2.2.2.2.2.2.2.2.2.2.2.2)) := by
  refine zM'.of (cc := cX12_guru) (maxL := 6) (rt := (some .int)) (by decide) rfl (Nat.le_of_ble_eq_true rfl) ?_
  intro p e s m args below meth c A ls St hr hlocks hin hK hT hA hP hD hS hl
  obtain ⟨hx, hb, hml, hown, hts⟩ := id St
  have hl : lv_has ls 6 [(0, .ref o), (1, .int n)] := hl
  have hrm3 := rM3 rfm
  have hrm4 := rM4 rfm
  refine lv_aload_n hx hb dX12_guru_0 rfl (lv_at hl 0 rfl) ?_
  refine lv_iload_n hx hb dX12_guru_1 rfl (lv_at hl 1 rfl) ?_
  refine lv_iconst (v := 0) hx hb dX12_guru_2 (by decide) ?_
  refine lv_bipush (v := 30) hx hb dX12_guru_3 (by decide) ?_
  have hL0 : (0 : Int32).toInt = 0 := by decide
  have hL30 : (30 : Int32).toInt = 30 := by decide
  refine mcallS' (g := g) (As := [.int n, .int 0, .int 30]) (rest := [.ref o]) St hK hT hA hP hD hS hl.1 [] [0] rfl rfl rfl (m_isIn l g n 0 30 ) (va_cwS 3 hts (zgL (zl3 k837 k838 k839) k826) rfl rfl rfl (by decide +kernel) ⟨Nat.le_of_ble_eq_true rfl, Nat.le_of_ble_eq_true rfl⟩) rfl rfl (Nat.le_of_ble_eq_true rfl) dX12_guru_5 ⟨(Nat.le_of_ble_eq_true rfl), (Nat.le_of_ble_eq_true rfl)⟩ (fun q_1 H locs hq2 hP hD hS => ?_)
  replace hq2 : (q_1 = 1 ∧ (0 : Int32).toInt ≤ n.toInt ∧ n.toInt ≤ (30 : Int32).toInt ∨ q_1 = 0 ∧ (n.toInt < (0 : Int32).toInt ∨ (30 : Int32).toInt < n.toInt)) := hq2
  have hP : va_P g.1 vwCl (List.flatten [bMo g o a th hi ac tp ba en tA fl de iD iO tU fm fk fa fc ft ff fb fi]) H := hP
  have hD : va_D A (List.flatten [bMo g o a th hi ac tp ba en tA fl de iD iO tU fm fk fa fc ft ff fb fi]) := hD
  refine W.widen (k := 0) (n := 0) (Nat.le_of_ble_eq_true rfl) (Nat.le_of_ble_eq_true rfl) ?_
  refine W.eq (g2 := F0 m 8 ls [.int q_1, .ref o]) rfl ?_
  rcases hq2 with ⟨rfl, hq2_k⟩ | ⟨rfl, hq2_k⟩
  · skip
    refine lv_if_ne (tgt := 15) hx hb dX12_guru_8 (by decide) (fun _ => ?_) (fun c3 => absurd c3 (by decide))
    refine lv_iconst (v := 0) hx hb dX12_guru_15 (by decide) ?_
    refine va_put (D := g.1) (ci := 10) (v := .int 0) (ty := .int) (C := RX12) (T := TX12) (N := 20) hx hb hts izRX12 tyX12 tyX12_ok nmX12 hown hK hP hD hS 0 rfl rfl 0 (by decide) (hts _ k825) (fun _ h9 => h9) rfl (by decide +kernel) rfl rfl (Nat.le_of_ble_eq_true rfl) dX12_guru_16 (fun H locs hP hD hS => ?_)
    have hP : va_P g.1 vwCl (List.flatten [bMo g o a 0 hi ac tp ba en tA fl de iD iO tU fm fk fa fc ft ff fb fi]) H := hP
    have hD : va_D A (List.flatten [bMo g o a 0 hi ac tp ba en tA fl de iD iO tU fm fk fa fc ft ff fb fi]) := hD
    refine lv_aload_n hx hb dX12_guru_19 rfl (lv_at hl 0 rfl) ?_
    refine va_get (D := g.1) (ci := 10) (v := .int 0) (C := RX12) (T := TX12) (N := 20) hx hb hts izRX12 hown hK hP 0 rfl rfl 0 (by decide) (hts _ k825) (fun _ h9 => h9) rfl dX12_guru_20 ?_
    refine lv_if_le (tgt := 28) hx hb dX12_guru_23 (by decide) (fun _ => ?_) (fun c4 => absurd (by decide) c4)
    refine lv_iconst (v := (-1)) hx hb dX12_guru_28 (by decide) ?_
    refine lv_istore_n (lv' := [(2, .int (-1)), (0, .ref o), (1, .int n)]) hx hb dX12_guru_29 rfl hl (by decide) rfl (fun ls hl => ?_)
    refine lv_iconst (v := 0) hx hb dX12_guru_30 (by decide) ?_
    refine lv_istore_n (lv' := [(3, .int 0), (2, .int (-1)), (0, .ref o), (1, .int n)]) hx hb dX12_guru_31 rfl hl (by decide) rfl (fun ls hl => ?_)
    refine lv_iconst (v := 0) hx hb dX12_guru_32 (by decide) ?_
    refine lv_istore (lv' := [(4, .int 0), (3, .int 0), (2, .int (-1)), (0, .ref o), (1, .int n)]) hx hb dX12_guru_33 hl (by decide) rfl (fun ls hl => ?_)
    have hl := lv_sub (l' := [(0, .ref o), (1, .int n), (2, .int (-1)), (3, .int 0), (4, .int 0)]) hl [3, 4, 2, 1, 0] rfl
    have LP35_25 : ∀ (kf : Nat) (x_5 : Int32) (x_6 : Int32) (x_7 : Int32) (x_8 : Int32) (x_9 : Int32) (x_10 : Int32) (x_11 : Int32) (x_12 : Int32) (x_13 : Int32) (x_14 : Int32) (fa_15 : Nat → Int32) (ff_16 : Nat → Int32) (fb_17 : Nat → Int32), ((-1) ≤ x_5.toInt ∧ x_5.toInt ≤ 7) → (0 ≤ x_7.toInt ∧ x_7.toInt ≤ 8) → (0 ≤ x_12.toInt ∧ x_12.toInt ≤ 1) → (0 ≤ x_13.toInt ∧ x_13.toInt ≤ 1) → (rM fa_15) → (x_5 = zBst (zHr9 (zM9 fm)) (zGuW L n (zM9 fm)) x_7.toInt.toNat) → (x_5.toInt = -1 ∨ x_6 = (zGuW L n (zM9 fm)) x_5.toInt.toNat) → (x_7.toInt ≤ (fm 3).toInt) → ∀ (H : Heap) (locs : List Loc) (ls : Array Slot), ((9 - x_7.toInt).toNat) < kf → va_P g.1 vwCl (List.flatten [bMo g o a 0 hi ac tp x_8 x_9 x_10 fl x_11 x_12 x_13 x_14 fm fk fa_15 fc ft ff_16 fb_17 fi]) H → va_D A (List.flatten [bMo g o a 0 hi ac tp x_8 x_9 x_10 fl x_11 x_12 x_13 x_14 fm fk fa_15 fc ft ff_16 fb_17 fi]) → va_S A s.heap H locs → lv_has ls 6 [(0, .ref o), (1, .int n), (2, .int x_5), (3, .int x_6), (4, .int x_7)] → W p l e ({ frames := 34, cells := 0, slots := 0, locals := 761 } : Room) s m args below meth c H locs (0) (0) (zF g (fun u : Int32 × (Nat → Int32) × (Nat → Int32) × Int32 × Int32 × Int32 × Int32 × Int32 × Int32 × Int32 × (Nat → Int32) × (Nat → Int32) × Int32 => (fun (th2 : Int32) (fm2 : Nat → Int32) (fa2 : Nat → Int32) (ba2 : Int32) (en2 : Int32) (at2 : Int32) (de2 : Int32) (iD2 : Int32) (iO2 : Int32) (tU2 : Int32) (ff2 : Nat → Int32) (fb2 : Nat → Int32) (q : Int32) => some (.int q)) (u.1) (u.2.1) (u.2.2.1) (u.2.2.2.1) (u.2.2.2.2.1) (u.2.2.2.2.2.1) (u.2.2.2.2.2.2.1) (u.2.2.2.2.2.2.2.1) (u.2.2.2.2.2.2.2.2.1) (u.2.2.2.2.2.2.2.2.2.1) (u.2.2.2.2.2.2.2.2.2.2.1) (u.2.2.2.2.2.2.2.2.2.2.2.1) (u.2.2.2.2.2.2.2.2.2.2.2.2)) (fun u : Int32 × (Nat → Int32) × (Nat → Int32) × Int32 × Int32 × Int32 × Int32 × Int32 × Int32 × Int32 × (Nat → Int32) × (Nat → Int32) × Int32 => (fun (th2 : Int32) (fm2 : Nat → Int32) (fa2 : Nat → Int32) (ba2 : Int32) (en2 : Int32) (at2 : Int32) (de2 : Int32) (iD2 : Int32) (iO2 : Int32) (tU2 : Int32) (ff2 : Nat → Int32) (fb2 : Nat → Int32) (q : Int32) => (0 ≤ iO2.toInt ∧ iO2.toInt ≤ 1) ∧ (0 ≤ iD2.toInt ∧ iD2.toInt ≤ 1) ∧ (rM fa2) ∧ (rM fm2) ∧ ((th2, q) = zdGuru L n (zM9 fm)) ∧ (fm = fm2)) (u.1) (u.2.1) (u.2.2.1) (u.2.2.2.1) (u.2.2.2.2.1) (u.2.2.2.2.2.1) (u.2.2.2.2.2.2.1) (u.2.2.2.2.2.2.2.1) (u.2.2.2.2.2.2.2.2.1) (u.2.2.2.2.2.2.2.2.2.1) (u.2.2.2.2.2.2.2.2.2.2.1) (u.2.2.2.2.2.2.2.2.2.2.2.1) (u.2.2.2.2.2.2.2.2.2.2.2.2)) (fun u : Int32 × (Nat → Int32) × (Nat → Int32) × Int32 × Int32 × Int32 × Int32 × Int32 × Int32 × Int32 × (Nat → Int32) × (Nat → Int32) × Int32 => (fun (th2 : Int32) (fm2 : Nat → Int32) (fa2 : Nat → Int32) (ba2 : Int32) (en2 : Int32) (at2 : Int32) (de2 : Int32) (iD2 : Int32) (iO2 : Int32) (tU2 : Int32) (ff2 : Nat → Int32) (fb2 : Nat → Int32) (q : Int32) => [bMo g o a th2 hi ac tp ba2 en2 at2 fl de2 iD2 iO2 tU2 fm2 fk fa2 fc ft ff2 fb2 fi]) (u.1) (u.2.1) (u.2.2.1) (u.2.2.2.1) (u.2.2.2.2.1) (u.2.2.2.2.2.1) (u.2.2.2.2.2.2.1) (u.2.2.2.2.2.2.2.1) (u.2.2.2.2.2.2.2.2.1) (u.2.2.2.2.2.2.2.2.2.1) (u.2.2.2.2.2.2.2.2.2.2.1) (u.2.2.2.2.2.2.2.2.2.2.2.1) (u.2.2.2.2.2.2.2.2.2.2.2.2)) ({ frames := 34, cells := 0, slots := 0, locals := 761 } : Room) below args s A) (F0 m 35 ls []) := by
      intro kf
      induction kf with
      | zero => intro x_5 x_6 x_7 x_8 x_9 x_10 x_11 x_12 x_13 x_14 fa_15 ff_16 fb_17 i18 i19 i20 i21 rfa_15 i22 i23 i24 H locs ls hk; exact absurd hk (Nat.not_lt_zero _)
      | succ kf ih35_26 =>
        intro x_5 x_6 x_7 x_8 x_9 x_10 x_11 x_12 x_13 x_14 fa_15 ff_16 fb_17 i18 i19 i20 i21 rfa_15 i22 i23 i24 H locs ls hk35_26 hP hD hS hl
        refine lv_iload hx hb dX12_guru_35 (lv_at hl 4 rfl) ?_
        refine lv_aload_n hx hb dX12_guru_37 rfl (lv_at hl 0 rfl) ?_
        refine va_get (D := g.1) (ci := 10) (v := .ref (a 0)) (C := RX12) (T := TX12) (N := 20) hx hb hts izRX12 hown hK hP 0 rfl rfl 1 (by decide) (hts _ k815) (fun _ h9 => h9) rfl dX12_guru_38 ?_
        refine lv_iconst (v := 3) hx hb dX12_guru_41 (by decide) ?_
        refine va_iald hx hb hK hP 1 0 rfl rfl (zin rfl) dX12_guru_42 ?_
        refine ztop (r := (fm 3)) rfl ?_
        refine lv_icmp_ge (tgt := 107) hx hb dX12_guru_43 (by decide) (fun cb9 => ?_) (fun cb9 => ?_)
        · skip
          have c27 : (fm 3).toInt ≤ x_7.toInt := zle cb9 rfl rfl
          refine lv_iload_n hx hb dX12_guru_107 rfl (lv_at hl 2 rfl) ?_
          have hP : va_P g.1 vwCl (List.flatten [bMo g o a 0 hi ac tp x_8 x_9 x_10 fl x_11 x_12 x_13 x_14 fm fk fa_15 fc ft ff_16 fb_17 fi]) H := hP
          have hD : va_D A (List.flatten [bMo g o a 0 hi ac tp x_8 x_9 x_10 fl x_11 x_12 x_13 x_14 fm fk fa_15 fc ft ff_16 fb_17 fi]) := hD
          exact mret_i hx hb hr hlocks hS (Nat.le_of_ble_eq_true rfl) (Nat.le_of_ble_eq_true rfl) dX12_guru_108 ((0 : Int32), fm, fa_15, x_8, x_9, x_10, x_11, x_12, x_13, x_14, ff_16, fb_17, x_5) rfl (show (0 ≤ x_13.toInt ∧ x_13.toInt ≤ 1) ∧ (0 ≤ x_12.toInt ∧ x_12.toInt ≤ 1) ∧ (rM fa_15) ∧ (rM fm) ∧ ((0, x_5) = zdGuru L n (zM9 fm)) ∧ (fm = fm) from ⟨(by first | assumption | omega | decide), (by first | assumption | omega | decide), (by first | assumption | omega | decide), (by first | assumption | omega | decide), (zdGuru_m (by omega) (zBst_x (n := fm 3) i22 (by omega))), rfl⟩) hP hD
        · skip
          have c28 : x_7.toInt < (fm 3).toInt := zlti (Int32.not_le.mp cb9) rfl rfl
          have n29 : x_7.toInt ≤ 7 := zL1 (b := 8) c28 (rM3 rfm).2 (by decide)
          have n30 : 1 ≤ (fm 3).toInt := zL2 (a := 0) c28 i19.1 (by decide)
          refine lv_aload_n hx hb dX12_guru_46 rfl (lv_at hl 0 rfl) ?_
          refine lv_iload hx hb dX12_guru_47 (lv_at hl 4 rfl) ?_
          refine mcallV' (g := g) (q0 := 0) (ci := 10) (As := [.int x_7]) (rest := []) St hK hT hA hP hD hS hl.1 [0] [] rfl rfl rfl (m_isHereG l g o a 0 hi ac tp x_8 x_9 x_10 fl x_11 x_12 x_13 x_14 fm fk fa_15 fc ft ff_16 fb_17 fi x_7 (⟨i19.1, n29⟩)) (cwV 1 hts (zgL (zl4 k846 k847 k848 k839) k841) rfl rfl rfl (by decide +kernel) ⟨Nat.le_of_ble_eq_true rfl, Nat.le_of_ble_eq_true rfl⟩) rfl rfl rfl rfl (Nat.le_of_ble_eq_true rfl) dX12_guru_49 ⟨(Nat.le_of_ble_eq_true rfl), (Nat.le_of_ble_eq_true rfl)⟩ (fun q_31 H locs hq32 hP hD hS => ?_)
          replace hq32 : (q_31 = 1 ∧ (zV fm 3 x_7.toInt.toNat).toInt = -1 ∨ q_31 = 0 ∧ ¬ (zV fm 3 x_7.toInt.toNat).toInt = -1) := hq32
          have hP : va_P g.1 vwCl (List.flatten [bMo g o a 0 hi ac tp x_8 x_9 x_10 fl x_11 x_12 x_13 x_14 fm fk fa_15 fc ft ff_16 fb_17 fi]) H := hP
          have hD : va_D A (List.flatten [bMo g o a 0 hi ac tp x_8 x_9 x_10 fl x_11 x_12 x_13 x_14 fm fk fa_15 fc ft ff_16 fb_17 fi]) := hD
          refine W.widen (k := 0) (n := 0) (Nat.le_of_ble_eq_true rfl) (Nat.le_of_ble_eq_true rfl) ?_
          refine W.eq (g2 := F0 m 52 ls [.int q_31]) rfl ?_
          rcases hq32 with ⟨rfl, hq32_k⟩ | ⟨rfl, hq32_k⟩
          · skip
            refine lv_if_eq (tgt := 69) hx hb dX12_guru_52 (by decide) (fun c33 => absurd c33 (by decide)) (fun _ => ?_)
            refine lv_aload_n hx hb dX12_guru_55 rfl (lv_at hl 0 rfl) ?_
            refine lv_iload_n hx hb dX12_guru_56 rfl (lv_at hl 1 rfl) ?_
            refine lv_iconst (v := 1) hx hb dX12_guru_57 (by decide) ?_
            refine lv_iload hx hb dX12_guru_58 (lv_at hl 4 rfl) ?_
            refine lv_ishl hx hb dX12_guru_60 ?_
            refine ztop (r := (zBit x_7.toInt.toNat)) (zBit_k i19.1) ?_
            refine lv_bipush (v := 10) hx hb dX12_guru_61 (by decide) ?_
            refine mcallV' (g := g) (q0 := 0) (ci := 10) (As := [.int n, .int (zBit x_7.toInt.toNat), .int 10]) (rest := []) St hK hT hA hP hD hS hl.1 [0] [] rfl rfl rfl (m_believedByC l g o a 0 hi ac tp x_8 x_9 x_10 fl x_11 x_12 x_13 x_14 fm fk fa_15 fc ft ff_16 fb_17 fi n (zBit x_7.toInt.toNat) 10 L rfm rfa_15 i20 i21 (by first | assumption | omega | decide | exact Or.inl (by decide) | exact Or.inr (by decide)) hrg hL) (cwV 3 hts (zgL (zl4 k1066 k1067 k1068 k839) k1064) rfl rfl rfl (by decide +kernel) ⟨Nat.le_of_ble_eq_true rfl, Nat.le_of_ble_eq_true rfl⟩) rfl rfl rfl rfl (Nat.le_of_ble_eq_true rfl) dX12_guru_63 ⟨(Nat.le_of_ble_eq_true rfl), (Nat.le_of_ble_eq_true rfl)⟩ (fun u_ H locs hq46 hP hD hS => ?_)
            obtain ⟨fm2_34, fa2_35, ba2_36, en2_37, at2_38, de2_39, iD2_40, iO2_41, tU2_42, ff2_43, fb2_44, q_45⟩ := u_
            replace hq46 : (0 ≤ iO2_41.toInt ∧ iO2_41.toInt ≤ 1) ∧ (0 ≤ iD2_40.toInt ∧ iD2_40.toInt ≤ 1) ∧ (rM fa2_35) ∧ (rM fm2_34) ∧ (q_45 = zBl9 (zLk L (zBit x_7.toInt.toNat) 10 n.toInt.toNat (zM9 fm))) ∧ (fm = fm2_34) := hq46
            have hP : va_P g.1 vwCl (List.flatten [bMo g o a 0 hi ac tp ba2_36 en2_37 at2_38 fl de2_39 iD2_40 iO2_41 tU2_42 fm2_34 fk fa2_35 fc ft ff2_43 fb2_44 fi]) H := hP
            have hD : va_D A (List.flatten [bMo g o a 0 hi ac tp ba2_36 en2_37 at2_38 fl de2_39 iD2_40 iO2_41 tU2_42 fm2_34 fk fa2_35 fc ft ff2_43 fb2_44 fi]) := hD
            refine W.widen (k := 0) (n := 0) (Nat.le_of_ble_eq_true rfl) (Nat.le_of_ble_eq_true rfl) ?_
            refine W.eq (g2 := F0 m 66 ls [.int q_45]) rfl ?_
            obtain ⟨hq46_0, hq46_1, rfa2_35, rfm2_34, hq46_4, hq46_5⟩ := hq46
            rcases hq46_5 with rfl
            · skip
              refine lv_goto (tgt := 70) hx hb dX12_guru_66 (by decide) ?_
              refine lv_istore (lv' := [(5, .int q_45), (0, .ref o), (1, .int n), (2, .int x_5), (3, .int x_6), (4, .int x_7)]) hx hb dX12_guru_70 hl (by decide) rfl (fun ls hl => ?_)
              refine lv_aload_n hx hb dX12_guru_72 rfl (lv_at hl 1 rfl) ?_
              refine lv_iload hx hb dX12_guru_73 (lv_at hl 5 rfl) ?_
              refine mcallV' (g := g) (q0 := 0) (ci := 10) (As := [.int x_7]) (rest := []) St hK hT hA hP hD hS hl.1 [0] [] rfl rfl rfl (m_isHereG l g o a 0 hi ac tp ba2_36 en2_37 at2_38 fl de2_39 iD2_40 iO2_41 tU2_42 fm fk fa2_35 fc ft ff2_43 fb2_44 fi x_7 (⟨i19.1, n29⟩)) (cwV 1 hts (zgL (zl4 k846 k847 k848 k839) k841) rfl rfl rfl (by decide +kernel) ⟨Nat.le_of_ble_eq_true rfl, Nat.le_of_ble_eq_true rfl⟩) rfl rfl rfl rfl (Nat.le_of_ble_eq_true rfl) dX12_guru_75 ⟨(Nat.le_of_ble_eq_true rfl), (Nat.le_of_ble_eq_true rfl)⟩ (fun q_47 H locs hq48 hP hD hS => ?_)
              replace hq48 : (q_47 = 1 ∧ (zV fm 3 x_7.toInt.toNat).toInt = -1 ∨ q_47 = 0 ∧ ¬ (zV fm 3 x_7.toInt.toNat).toInt = -1) := hq48
              have hP : va_P g.1 vwCl (List.flatten [bMo g o a 0 hi ac tp ba2_36 en2_37 at2_38 fl de2_39 iD2_40 iO2_41 tU2_42 fm fk fa2_35 fc ft ff2_43 fb2_44 fi]) H := hP
              have hD : va_D A (List.flatten [bMo g o a 0 hi ac tp ba2_36 en2_37 at2_38 fl de2_39 iD2_40 iO2_41 tU2_42 fm fk fa2_35 fc ft ff2_43 fb2_44 fi]) := hD
              refine W.widen (k := 0) (n := 0) (Nat.le_of_ble_eq_true rfl) (Nat.le_of_ble_eq_true rfl) ?_
              refine W.eq (g2 := F0 m 78 ls [.int q_47]) rfl ?_
              rcases hq48 with ⟨rfl, hq48_k⟩ | ⟨rfl, hq48_k⟩
              · skip
                refine lv_if_eq (tgt := 101) hx hb dX12_guru_78 (by decide) (fun c49 => absurd c49 (by decide)) (fun _ => ?_)
                refine lv_iload_n hx hb dX12_guru_81 rfl (lv_at hl 3 rfl) ?_
                refine lv_iconst (v := (-1)) hx hb dX12_guru_82 (by decide) ?_
                refine lv_icmp_eq (tgt := 95) hx hb dX12_guru_83 (by decide) (fun cb9 => ?_) (fun cb9 => ?_)
                · skip
                  have c50 : x_5.toInt = (-1) := zeq cb9 rfl (by decide)
                  have n51 : x_5.toInt ≤ (-1) := Int.le_trans (Int.le_of_eq c50) (Int.le_refl _)
                  refine lv_iload hx hb dX12_guru_95 (lv_at hl 0 rfl) ?_
                  refine lv_istore_n (lv' := [(3, .int q_45), (5, .int q_45), (0, .ref o), (1, .int n), (2, .int x_5), (4, .int x_7)]) hx hb dX12_guru_97 rfl hl (by decide) rfl (fun ls hl => ?_)
                  refine lv_iload hx hb dX12_guru_98 (lv_at hl 5 rfl) ?_
                  refine lv_istore_n (lv' := [(2, .int x_7), (3, .int q_45), (5, .int q_45), (0, .ref o), (1, .int n), (4, .int x_7)]) hx hb dX12_guru_100 rfl hl (by decide) rfl (fun ls hl => ?_)
                  refine ziinc3 (n' := 1) (a' := 1) (b' := 8) (lv' := fun v9 => [(4, .int v9), (2, .int x_7), (3, .int q_45), (5, .int q_45), (0, .ref o), (1, .int n)]) hx hb dX12_guru_101 hl (k := 5) rfl (by decide) (fun _ => rfl) (zaddK (i := x_7.toInt) (j := 1) rfl (by decide) i19.1 n29 (Int.le_refl _) (Int.le_refl _) (by decide)) (fun x_52 ls hx_52 hl => ?_)
                  refine lv_goto (tgt := 35) hx hb dX12_guru_104 (by decide) ?_
                  have hl := lv_sub (l' := [(0, .ref o), (1, .int n), (2, .int x_7), (3, .int q_45), (4, .int x_52), (5, .int q_45)]) hl [4, 5, 1, 2, 0, 3] rfl
                  have hP : va_P g.1 vwCl (List.flatten [bMo g o a 0 hi ac tp ba2_36 en2_37 at2_38 fl de2_39 iD2_40 iO2_41 tU2_42 fm fk fa2_35 fc ft ff2_43 fb2_44 fi]) H := hP
                  have hD : va_D A (List.flatten [bMo g o a 0 hi ac tp ba2_36 en2_37 at2_38 fl de2_39 iD2_40 iO2_41 tU2_42 fm fk fa2_35 fc ft ff2_43 fb2_44 fi]) := hD
                  exact ih35_26 x_7 q_45 x_52 ba2_36 en2_37 at2_38 de2_39 iD2_40 iO2_41 tU2_42 fa2_35 ff2_43 fb2_44 ⟨(Int.le_trans (by decide) i19.1), n29⟩ ⟨(Int.le_trans (by decide) hx_52.2.1), hx_52.2.2⟩ ⟨hq46_1.1, hq46_1.2⟩ ⟨hq46_0.1, hq46_0.2⟩ rfa2_35 (zGu_y i22 i23 hx_52.1 (by omega) (zHr_y hq32_k) hq46_4 (by omega)) (Or.inr hq46_4) (by first | omega | assumption | decide) H _ ls (zmK hx_52.1 (by decide) n29 (by decide) hk35_26)  hP hD hS (lv_sub hl [0, 1, 2, 3, 4] rfl)
                · skip
                  have c53 : ¬ x_5.toInt = (-1) := zne cb9 rfl (by decide)
                  have n54 : 0 ≤ x_5.toInt := zN1 c53 i18.1 (by decide)
                  refine lv_iload hx hb dX12_guru_86 (lv_at hl 0 rfl) ?_
                  refine lv_iload_n hx hb dX12_guru_88 rfl (lv_at hl 4 rfl) ?_
                  refine lv_icmp_gt (tgt := 95) hx hb dX12_guru_89 (by decide) (fun cb9 => ?_) (fun cb9 => ?_)
                  · skip
                    have c55 : x_6.toInt < q_45.toInt := zlti cb9 rfl rfl
                    refine lv_iload hx hb dX12_guru_95 (lv_at hl 0 rfl) ?_
                    refine lv_istore_n (lv' := [(3, .int q_45), (5, .int q_45), (0, .ref o), (1, .int n), (2, .int x_5), (4, .int x_7)]) hx hb dX12_guru_97 rfl hl (by decide) rfl (fun ls hl => ?_)
                    refine lv_iload hx hb dX12_guru_98 (lv_at hl 5 rfl) ?_
                    refine lv_istore_n (lv' := [(2, .int x_7), (3, .int q_45), (5, .int q_45), (0, .ref o), (1, .int n), (4, .int x_7)]) hx hb dX12_guru_100 rfl hl (by decide) rfl (fun ls hl => ?_)
                    refine ziinc3 (n' := 1) (a' := 1) (b' := 8) (lv' := fun v9 => [(4, .int v9), (2, .int x_7), (3, .int q_45), (5, .int q_45), (0, .ref o), (1, .int n)]) hx hb dX12_guru_101 hl (k := 5) rfl (by decide) (fun _ => rfl) (zaddK (i := x_7.toInt) (j := 1) rfl (by decide) i19.1 n29 (Int.le_refl _) (Int.le_refl _) (by decide)) (fun x_56 ls hx_56 hl => ?_)
                    refine lv_goto (tgt := 35) hx hb dX12_guru_104 (by decide) ?_
                    have hl := lv_sub (l' := [(0, .ref o), (1, .int n), (2, .int x_7), (3, .int q_45), (4, .int x_56), (5, .int q_45)]) hl [4, 5, 1, 2, 0, 3] rfl
                    have hP : va_P g.1 vwCl (List.flatten [bMo g o a 0 hi ac tp ba2_36 en2_37 at2_38 fl de2_39 iD2_40 iO2_41 tU2_42 fm fk fa2_35 fc ft ff2_43 fb2_44 fi]) H := hP
                    have hD : va_D A (List.flatten [bMo g o a 0 hi ac tp ba2_36 en2_37 at2_38 fl de2_39 iD2_40 iO2_41 tU2_42 fm fk fa2_35 fc ft ff2_43 fb2_44 fi]) := hD
                    exact ih35_26 x_7 q_45 x_56 ba2_36 en2_37 at2_38 de2_39 iD2_40 iO2_41 tU2_42 fa2_35 ff2_43 fb2_44 ⟨(Int.le_trans (by decide) i19.1), n29⟩ ⟨(Int.le_trans (by decide) hx_56.2.1), hx_56.2.2⟩ ⟨hq46_1.1, hq46_1.2⟩ ⟨hq46_0.1, hq46_0.2⟩ rfa2_35 (zGu_y i22 i23 hx_56.1 (by omega) (zHr_y hq32_k) hq46_4 (by omega)) (Or.inr hq46_4) (by first | omega | assumption | decide) H _ ls (zmK hx_56.1 (by decide) n29 (by decide) hk35_26)  hP hD hS (lv_sub hl [0, 1, 2, 3, 4] rfl)
                  · skip
                    have c57 : q_45.toInt ≤ x_6.toInt := zle (Int32.not_lt.mp cb9) rfl rfl
                    refine lv_goto (tgt := 101) hx hb dX12_guru_92 (by decide) ?_
                    refine ziinc3 (n' := 1) (a' := 1) (b' := 8) (lv' := fun v9 => [(4, .int v9), (5, .int q_45), (0, .ref o), (1, .int n), (2, .int x_5), (3, .int x_6)]) hx hb dX12_guru_101 hl (k := 5) rfl (by decide) (fun _ => rfl) (zaddK (i := x_7.toInt) (j := 1) rfl (by decide) i19.1 n29 (Int.le_refl _) (Int.le_refl _) (by decide)) (fun x_58 ls hx_58 hl => ?_)
                    refine lv_goto (tgt := 35) hx hb dX12_guru_104 (by decide) ?_
                    have hl := lv_sub (l' := [(0, .ref o), (1, .int n), (2, .int x_5), (3, .int x_6), (4, .int x_58), (5, .int q_45)]) hl [2, 3, 4, 5, 0, 1] rfl
                    have hP : va_P g.1 vwCl (List.flatten [bMo g o a 0 hi ac tp ba2_36 en2_37 at2_38 fl de2_39 iD2_40 iO2_41 tU2_42 fm fk fa2_35 fc ft ff2_43 fb2_44 fi]) H := hP
                    have hD : va_D A (List.flatten [bMo g o a 0 hi ac tp ba2_36 en2_37 at2_38 fl de2_39 iD2_40 iO2_41 tU2_42 fm fk fa2_35 fc ft ff2_43 fb2_44 fi]) := hD
                    exact ih35_26 x_5 x_6 x_58 ba2_36 en2_37 at2_38 de2_39 iD2_40 iO2_41 tU2_42 fa2_35 ff2_43 fb2_44 ⟨(Int.le_trans (by decide) n54), i18.2⟩ ⟨(Int.le_trans (by decide) hx_58.2.1), hx_58.2.2⟩ ⟨hq46_1.1, hq46_1.2⟩ ⟨hq46_0.1, hq46_0.2⟩ rfa2_35 (zGu_m i22 i23 hx_58.1 (by omega) hq46_4 (by omega)) i23 (by first | omega | assumption | decide) H _ ls (zmK hx_58.1 (by decide) n29 (by decide) hk35_26)  hP hD hS (lv_sub hl [0, 1, 2, 3, 4] rfl)
              · skip
                refine lv_if_eq (tgt := 101) hx hb dX12_guru_78 (by decide) (fun _ => ?_) (fun c59 => absurd (by decide) c59)
                refine ziinc3 (n' := 1) (a' := 1) (b' := 8) (lv' := fun v9 => [(4, .int v9), (5, .int q_45), (0, .ref o), (1, .int n), (2, .int x_5), (3, .int x_6)]) hx hb dX12_guru_101 hl (k := 5) rfl (by decide) (fun _ => rfl) (zaddK (i := x_7.toInt) (j := 1) rfl (by decide) i19.1 n29 (Int.le_refl _) (Int.le_refl _) (by decide)) (fun x_60 ls hx_60 hl => ?_)
                refine lv_goto (tgt := 35) hx hb dX12_guru_104 (by decide) ?_
                have hl := lv_sub (l' := [(0, .ref o), (1, .int n), (2, .int x_5), (3, .int x_6), (4, .int x_60), (5, .int q_45)]) hl [2, 3, 4, 5, 0, 1] rfl
                have hP : va_P g.1 vwCl (List.flatten [bMo g o a 0 hi ac tp ba2_36 en2_37 at2_38 fl de2_39 iD2_40 iO2_41 tU2_42 fm fk fa2_35 fc ft ff2_43 fb2_44 fi]) H := hP
                have hD : va_D A (List.flatten [bMo g o a 0 hi ac tp ba2_36 en2_37 at2_38 fl de2_39 iD2_40 iO2_41 tU2_42 fm fk fa2_35 fc ft ff2_43 fb2_44 fi]) := hD
                exact ih35_26 x_5 x_6 x_60 ba2_36 en2_37 at2_38 de2_39 iD2_40 iO2_41 tU2_42 fa2_35 ff2_43 fb2_44 ⟨i18.1, i18.2⟩ ⟨(Int.le_trans (by decide) hx_60.2.1), hx_60.2.2⟩ ⟨hq46_1.1, hq46_1.2⟩ ⟨hq46_0.1, hq46_0.2⟩ rfa2_35 (absurd hq32_k hq48_k) (absurd hq32_k hq48_k) (by first | omega | assumption | decide) H _ ls (zmK hx_60.1 (by decide) n29 (by decide) hk35_26)  hP hD hS (lv_sub hl [0, 1, 2, 3, 4] rfl)
          · skip
            refine lv_if_eq (tgt := 69) hx hb dX12_guru_52 (by decide) (fun _ => ?_) (fun c61 => absurd (by decide) c61)
            refine lv_iconst (v := 0) hx hb dX12_guru_69 (by decide) ?_
            refine lv_istore (lv' := [(5, .int 0), (0, .ref o), (1, .int n), (2, .int x_5), (3, .int x_6), (4, .int x_7)]) hx hb dX12_guru_70 hl (by decide) rfl (fun ls hl => ?_)
            refine lv_aload_n hx hb dX12_guru_72 rfl (lv_at hl 1 rfl) ?_
            refine lv_iload hx hb dX12_guru_73 (lv_at hl 5 rfl) ?_
            refine mcallV' (g := g) (q0 := 0) (ci := 10) (As := [.int x_7]) (rest := []) St hK hT hA hP hD hS hl.1 [0] [] rfl rfl rfl (m_isHereG l g o a 0 hi ac tp x_8 x_9 x_10 fl x_11 x_12 x_13 x_14 fm fk fa_15 fc ft ff_16 fb_17 fi x_7 (⟨i19.1, n29⟩)) (cwV 1 hts (zgL (zl4 k846 k847 k848 k839) k841) rfl rfl rfl (by decide +kernel) ⟨Nat.le_of_ble_eq_true rfl, Nat.le_of_ble_eq_true rfl⟩) rfl rfl rfl rfl (Nat.le_of_ble_eq_true rfl) dX12_guru_75 ⟨(Nat.le_of_ble_eq_true rfl), (Nat.le_of_ble_eq_true rfl)⟩ (fun q_62 H locs hq63 hP hD hS => ?_)
            replace hq63 : (q_62 = 1 ∧ (zV fm 3 x_7.toInt.toNat).toInt = -1 ∨ q_62 = 0 ∧ ¬ (zV fm 3 x_7.toInt.toNat).toInt = -1) := hq63
            have hP : va_P g.1 vwCl (List.flatten [bMo g o a 0 hi ac tp x_8 x_9 x_10 fl x_11 x_12 x_13 x_14 fm fk fa_15 fc ft ff_16 fb_17 fi]) H := hP
            have hD : va_D A (List.flatten [bMo g o a 0 hi ac tp x_8 x_9 x_10 fl x_11 x_12 x_13 x_14 fm fk fa_15 fc ft ff_16 fb_17 fi]) := hD
            refine W.widen (k := 0) (n := 0) (Nat.le_of_ble_eq_true rfl) (Nat.le_of_ble_eq_true rfl) ?_
            refine W.eq (g2 := F0 m 78 ls [.int q_62]) rfl ?_
            rcases hq63 with ⟨rfl, hq63_k⟩ | ⟨rfl, hq63_k⟩
            · skip
              refine lv_if_eq (tgt := 101) hx hb dX12_guru_78 (by decide) (fun c64 => absurd c64 (by decide)) (fun _ => ?_)
              refine lv_iload_n hx hb dX12_guru_81 rfl (lv_at hl 3 rfl) ?_
              refine lv_iconst (v := (-1)) hx hb dX12_guru_82 (by decide) ?_
              refine lv_icmp_eq (tgt := 95) hx hb dX12_guru_83 (by decide) (fun cb9 => ?_) (fun cb9 => ?_)
              · skip
                have c65 : x_5.toInt = (-1) := zeq cb9 rfl (by decide)
                have n66 : x_5.toInt ≤ (-1) := Int.le_trans (Int.le_of_eq c65) (Int.le_refl _)
                refine lv_iload hx hb dX12_guru_95 (lv_at hl 0 rfl) ?_
                refine lv_istore_n (lv' := [(3, .int 0), (5, .int 0), (0, .ref o), (1, .int n), (2, .int x_5), (4, .int x_7)]) hx hb dX12_guru_97 rfl hl (by decide) rfl (fun ls hl => ?_)
                refine lv_iload hx hb dX12_guru_98 (lv_at hl 5 rfl) ?_
                refine lv_istore_n (lv' := [(2, .int x_7), (3, .int 0), (5, .int 0), (0, .ref o), (1, .int n), (4, .int x_7)]) hx hb dX12_guru_100 rfl hl (by decide) rfl (fun ls hl => ?_)
                refine ziinc3 (n' := 1) (a' := 1) (b' := 8) (lv' := fun v9 => [(4, .int v9), (2, .int x_7), (3, .int 0), (5, .int 0), (0, .ref o), (1, .int n)]) hx hb dX12_guru_101 hl (k := 5) rfl (by decide) (fun _ => rfl) (zaddK (i := x_7.toInt) (j := 1) rfl (by decide) i19.1 n29 (Int.le_refl _) (Int.le_refl _) (by decide)) (fun x_67 ls hx_67 hl => ?_)
                refine lv_goto (tgt := 35) hx hb dX12_guru_104 (by decide) ?_
                have hl := lv_sub (l' := [(0, .ref o), (1, .int n), (2, .int x_7), (3, .int 0), (4, .int x_67), (5, .int 0)]) hl [4, 5, 1, 2, 0, 3] rfl
                have hP : va_P g.1 vwCl (List.flatten [bMo g o a 0 hi ac tp x_8 x_9 x_10 fl x_11 x_12 x_13 x_14 fm fk fa_15 fc ft ff_16 fb_17 fi]) H := hP
                have hD : va_D A (List.flatten [bMo g o a 0 hi ac tp x_8 x_9 x_10 fl x_11 x_12 x_13 x_14 fm fk fa_15 fc ft ff_16 fb_17 fi]) := hD
                exact ih35_26 x_7 0 x_67 x_8 x_9 x_10 x_11 x_12 x_13 x_14 fa_15 ff_16 fb_17 ⟨(Int.le_trans (by decide) i19.1), n29⟩ ⟨(Int.le_trans (by decide) hx_67.2.1), hx_67.2.2⟩ ⟨i20.1, i20.2⟩ ⟨i21.1, i21.2⟩ rfa_15 (absurd hq63_k hq32_k) (absurd hq63_k hq32_k) (by first | omega | assumption | decide) H _ ls (zmK hx_67.1 (by decide) n29 (by decide) hk35_26)  hP hD hS (lv_sub hl [0, 1, 2, 3, 4] rfl)
              · skip
                have c68 : ¬ x_5.toInt = (-1) := zne cb9 rfl (by decide)
                have n69 : 0 ≤ x_5.toInt := zN1 c68 i18.1 (by decide)
                refine lv_iload hx hb dX12_guru_86 (lv_at hl 0 rfl) ?_
                refine lv_iload_n hx hb dX12_guru_88 rfl (lv_at hl 4 rfl) ?_
                refine lv_icmp_gt (tgt := 95) hx hb dX12_guru_89 (by decide) (fun cb9 => ?_) (fun cb9 => ?_)
                · skip
                  have c70 : x_6.toInt < 0 := zlti cb9 rfl (by decide)
                  have n71 : x_6.toInt ≤ (-1) := zL1 (b := 0) c70 (Int.le_refl _) (by decide)
                  refine lv_iload hx hb dX12_guru_95 (lv_at hl 0 rfl) ?_
                  refine lv_istore_n (lv' := [(3, .int 0), (5, .int 0), (0, .ref o), (1, .int n), (2, .int x_5), (4, .int x_7)]) hx hb dX12_guru_97 rfl hl (by decide) rfl (fun ls hl => ?_)
                  refine lv_iload hx hb dX12_guru_98 (lv_at hl 5 rfl) ?_
                  refine lv_istore_n (lv' := [(2, .int x_7), (3, .int 0), (5, .int 0), (0, .ref o), (1, .int n), (4, .int x_7)]) hx hb dX12_guru_100 rfl hl (by decide) rfl (fun ls hl => ?_)
                  refine ziinc3 (n' := 1) (a' := 1) (b' := 8) (lv' := fun v9 => [(4, .int v9), (2, .int x_7), (3, .int 0), (5, .int 0), (0, .ref o), (1, .int n)]) hx hb dX12_guru_101 hl (k := 5) rfl (by decide) (fun _ => rfl) (zaddK (i := x_7.toInt) (j := 1) rfl (by decide) i19.1 n29 (Int.le_refl _) (Int.le_refl _) (by decide)) (fun x_72 ls hx_72 hl => ?_)
                  refine lv_goto (tgt := 35) hx hb dX12_guru_104 (by decide) ?_
                  have hl := lv_sub (l' := [(0, .ref o), (1, .int n), (2, .int x_7), (3, .int 0), (4, .int x_72), (5, .int 0)]) hl [4, 5, 1, 2, 0, 3] rfl
                  have hP : va_P g.1 vwCl (List.flatten [bMo g o a 0 hi ac tp x_8 x_9 x_10 fl x_11 x_12 x_13 x_14 fm fk fa_15 fc ft ff_16 fb_17 fi]) H := hP
                  have hD : va_D A (List.flatten [bMo g o a 0 hi ac tp x_8 x_9 x_10 fl x_11 x_12 x_13 x_14 fm fk fa_15 fc ft ff_16 fb_17 fi]) := hD
                  exact ih35_26 x_7 0 x_72 x_8 x_9 x_10 x_11 x_12 x_13 x_14 fa_15 ff_16 fb_17 ⟨(Int.le_trans (by decide) i19.1), n29⟩ ⟨(Int.le_trans (by decide) hx_72.2.1), hx_72.2.2⟩ ⟨i20.1, i20.2⟩ ⟨i21.1, i21.2⟩ rfa_15 (absurd hq63_k hq32_k) (absurd hq63_k hq32_k) (by first | omega | assumption | decide) H _ ls (zmK hx_72.1 (by decide) n29 (by decide) hk35_26)  hP hD hS (lv_sub hl [0, 1, 2, 3, 4] rfl)
                · skip
                  have c73 : 0 ≤ x_6.toInt := zle (Int32.not_lt.mp cb9) (by decide) rfl
                  have n74 : 0 ≤ x_6.toInt := Int.le_trans (Int.le_refl _) c73
                  refine lv_goto (tgt := 101) hx hb dX12_guru_92 (by decide) ?_
                  refine ziinc3 (n' := 1) (a' := 1) (b' := 8) (lv' := fun v9 => [(4, .int v9), (5, .int 0), (0, .ref o), (1, .int n), (2, .int x_5), (3, .int x_6)]) hx hb dX12_guru_101 hl (k := 5) rfl (by decide) (fun _ => rfl) (zaddK (i := x_7.toInt) (j := 1) rfl (by decide) i19.1 n29 (Int.le_refl _) (Int.le_refl _) (by decide)) (fun x_75 ls hx_75 hl => ?_)
                  refine lv_goto (tgt := 35) hx hb dX12_guru_104 (by decide) ?_
                  have hl := lv_sub (l' := [(0, .ref o), (1, .int n), (2, .int x_5), (3, .int x_6), (4, .int x_75), (5, .int 0)]) hl [2, 3, 4, 5, 0, 1] rfl
                  have hP : va_P g.1 vwCl (List.flatten [bMo g o a 0 hi ac tp x_8 x_9 x_10 fl x_11 x_12 x_13 x_14 fm fk fa_15 fc ft ff_16 fb_17 fi]) H := hP
                  have hD : va_D A (List.flatten [bMo g o a 0 hi ac tp x_8 x_9 x_10 fl x_11 x_12 x_13 x_14 fm fk fa_15 fc ft ff_16 fb_17 fi]) := hD
                  exact ih35_26 x_5 x_6 x_75 x_8 x_9 x_10 x_11 x_12 x_13 x_14 fa_15 ff_16 fb_17 ⟨(Int.le_trans (by decide) n69), i18.2⟩ ⟨(Int.le_trans (by decide) hx_75.2.1), hx_75.2.2⟩ ⟨i20.1, i20.2⟩ ⟨i21.1, i21.2⟩ rfa_15 (absurd hq63_k hq32_k) (absurd hq63_k hq32_k) (by first | omega | assumption | decide) H _ ls (zmK hx_75.1 (by decide) n29 (by decide) hk35_26)  hP hD hS (lv_sub hl [0, 1, 2, 3, 4] rfl)
            · skip
              refine lv_if_eq (tgt := 101) hx hb dX12_guru_78 (by decide) (fun _ => ?_) (fun c76 => absurd (by decide) c76)
              refine ziinc3 (n' := 1) (a' := 1) (b' := 8) (lv' := fun v9 => [(4, .int v9), (5, .int 0), (0, .ref o), (1, .int n), (2, .int x_5), (3, .int x_6)]) hx hb dX12_guru_101 hl (k := 5) rfl (by decide) (fun _ => rfl) (zaddK (i := x_7.toInt) (j := 1) rfl (by decide) i19.1 n29 (Int.le_refl _) (Int.le_refl _) (by decide)) (fun x_77 ls hx_77 hl => ?_)
              refine lv_goto (tgt := 35) hx hb dX12_guru_104 (by decide) ?_
              have hl := lv_sub (l' := [(0, .ref o), (1, .int n), (2, .int x_5), (3, .int x_6), (4, .int x_77), (5, .int 0)]) hl [2, 3, 4, 5, 0, 1] rfl
              have hP : va_P g.1 vwCl (List.flatten [bMo g o a 0 hi ac tp x_8 x_9 x_10 fl x_11 x_12 x_13 x_14 fm fk fa_15 fc ft ff_16 fb_17 fi]) H := hP
              have hD : va_D A (List.flatten [bMo g o a 0 hi ac tp x_8 x_9 x_10 fl x_11 x_12 x_13 x_14 fm fk fa_15 fc ft ff_16 fb_17 fi]) := hD
              exact ih35_26 x_5 x_6 x_77 x_8 x_9 x_10 x_11 x_12 x_13 x_14 fa_15 ff_16 fb_17 ⟨i18.1, i18.2⟩ ⟨(Int.le_trans (by decide) hx_77.2.1), hx_77.2.2⟩ ⟨i20.1, i20.2⟩ ⟨i21.1, i21.2⟩ rfa_15 (zGu_n i22 hx_77.1 (by omega) (zHr_n hq32_k)) i23 (by first | omega | assumption | decide) H _ ls (zmK hx_77.1 (by decide) n29 (by decide) hk35_26)  hP hD hS (lv_sub hl [0, 1, 2, 3, 4] rfl)
    have hLn1 : ((-1) : Int32).toInt = (-1) := by decide
    have hP : va_P g.1 vwCl (List.flatten [bMo g o a 0 hi ac tp ba en tA fl de iD iO tU fm fk fa fc ft ff fb fi]) H := hP
    have hD : va_D A (List.flatten [bMo g o a 0 hi ac tp ba en tA fl de iD iO tU fm fk fa fc ft ff fb fi]) := hD
    exact LP35_25 _ (-1) 0 0 ba en tA de iD iO tU fa ff fb (by decide) (by decide) ⟨hiD.1, hiD.2⟩ ⟨hiO.1, hiO.2⟩ rfa (zBst_0 rfl (by decide)) (Or.inl (by decide)) (by first | omega | assumption | decide) H _ ls (Nat.lt_succ_self _)  hP hD hS (lv_sub hl [0, 1, 2, 3, 4] rfl)
  · skip
    refine lv_if_ne (tgt := 15) hx hb dX12_guru_8 (by decide) (fun c78 => absurd (by decide) c78) (fun _ => ?_)
    refine lv_iconst (v := 1) hx hb dX12_guru_11 (by decide) ?_
    refine lv_goto (tgt := 16) hx hb dX12_guru_12 (by decide) ?_
    refine va_put (D := g.1) (ci := 10) (v := .int 1) (ty := .int) (C := RX12) (T := TX12) (N := 20) hx hb hts izRX12 tyX12 tyX12_ok nmX12 hown hK hP hD hS 0 rfl rfl 0 (by decide) (hts _ k825) (fun _ h9 => h9) rfl (by decide +kernel) rfl rfl (Nat.le_of_ble_eq_true rfl) dX12_guru_16 (fun H locs hP hD hS => ?_)
    have hP : va_P g.1 vwCl (List.flatten [bMo g o a 1 hi ac tp ba en tA fl de iD iO tU fm fk fa fc ft ff fb fi]) H := hP
    have hD : va_D A (List.flatten [bMo g o a 1 hi ac tp ba en tA fl de iD iO tU fm fk fa fc ft ff fb fi]) := hD
    refine lv_aload_n hx hb dX12_guru_19 rfl (lv_at hl 0 rfl) ?_
    refine va_get (D := g.1) (ci := 10) (v := .int 1) (C := RX12) (T := TX12) (N := 20) hx hb hts izRX12 hown hK hP 0 rfl rfl 0 (by decide) (hts _ k825) (fun _ h9 => h9) rfl dX12_guru_20 ?_
    refine lv_if_le (tgt := 28) hx hb dX12_guru_23 (by decide) (fun c79 => absurd c79 (by decide)) (fun _ => ?_)
    refine lv_iconst (v := 0) hx hb dX12_guru_26 (by decide) ?_
    have hP : va_P g.1 vwCl (List.flatten [bMo g o a 1 hi ac tp ba en tA fl de iD iO tU fm fk fa fc ft ff fb fi]) H := hP
    have hD : va_D A (List.flatten [bMo g o a 1 hi ac tp ba en tA fl de iD iO tU fm fk fa fc ft ff fb fi]) := hD
    exact mret_i hx hb hr hlocks hS (Nat.le_of_ble_eq_true rfl) (Nat.le_of_ble_eq_true rfl) dX12_guru_27 ((1 : Int32), fm, fa, ba, en, tA, de, iD, iO, tU, ff, fb, (0 : Int32)) rfl (show (0 ≤ iO.toInt ∧ iO.toInt ≤ 1) ∧ (0 ≤ iD.toInt ∧ iD.toInt ≤ 1) ∧ (rM fa) ∧ (rM fm) ∧ ((1, 0) = zdGuru L n (zM9 fm)) ∧ (fm = fm) from ⟨(by first | assumption | omega | decide), (by first | assumption | omega | decide), (by first | assumption | omega | decide), (by first | assumption | omega | decide), (zdGuru_1 (by omega)), rfl⟩) hP hD
