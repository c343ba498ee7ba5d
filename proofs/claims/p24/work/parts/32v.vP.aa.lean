/-! WHAT IS ASKED: when first -/
def zFst (P : Nat → Bool) : Nat → Int32
  | 0 => -1
  | k + 1 => if (zFst P k).toInt = -1 ∧ P k = true then nI k else zFst P k
theorem zFst_0 {P : Nat → Bool} {b k : Int32} (hb : b = -1) (hk : k.toInt = 0) : b = zFst P k.toInt.toNat := by rw [hk]; exact hb
theorem zFst_y {P : Nat → Bool} {b k k' : Int32} (h : b = zFst P k.toInt.toNat) (hk : k'.toInt = k.toInt + 1) (h0 : 0 ≤ k.toInt) (hb : b.toInt = -1) (p : P k.toInt.toNat = true) : k = zFst P k'.toInt.toNat := by
  rw [show k'.toInt.toNat = k.toInt.toNat + 1 by omega]
  show k = if (zFst P k.toInt.toNat).toInt = -1 ∧ P k.toInt.toNat = true then nI k.toInt.toNat else zFst P k.toInt.toNat
  rw [← h, if_pos ⟨hb, p⟩]; exact znat h0
theorem zFst_n {P : Nat → Bool} {b k k' : Int32} (h : b = zFst P k.toInt.toNat) (hk : k'.toInt = k.toInt + 1) (h0 : 0 ≤ k.toInt) (p : ¬ (b.toInt = -1 ∧ P k.toInt.toNat = true)) : b = zFst P k'.toInt.toNat := by
  rw [show k'.toInt.toNat = k.toInt.toNat + 1 by omega]
  show b = if (zFst P k.toInt.toNat).toInt = -1 ∧ P k.toInt.toNat = true then nI k.toInt.toNat else zFst P k.toInt.toNat
  rw [← h, if_neg p]
theorem zFst_up {P : Nat → Bool} {b : Int32} {k : Nat} (h : b = zFst P k) (hb : ¬ b.toInt = -1) : ∀ d : Nat, b = zFst P (k + d)
  | 0 => h
  | d + 1 => by
    have ih := zFst_up h hb d
    show b = if (zFst P (k + d)).toInt = -1 ∧ P (k + d) = true then nI (k + d) else zFst P (k + d)
    rw [← ih, if_neg (fun q => hb q.1)]
theorem zFst_hit {P : Nat → Bool} {k : Int32} (h : (-1 : Int32) = zFst P k.toInt.toNat) (p : P k.toInt.toNat = true) (hk : 0 ≤ k.toInt ∧ k.toInt ≤ 100) : k = zFst P 101 := by
  have e : k = zFst P (k.toInt.toNat + 1) := by
    show k = if (zFst P k.toInt.toNat).toInt = -1 ∧ P k.toInt.toNat = true then nI k.toInt.toNat else zFst P k.toInt.toNat
    rw [← h, if_pos ⟨by decide, p⟩]; exact znat hk.1
  have u := zFst_up e (by omega) (101 - (k.toInt.toNat + 1))
  rw [show k.toInt.toNat + 1 + (101 - (k.toInt.toNat + 1)) = 101 by omega] at u
  exact u
theorem zFst_out {P : Nat → Bool} {b k : Int32} (h : b = zFst P k.toInt.toNat) (e : k.toInt = 101 ∨ ¬ b.toInt = -1) (l : k.toInt ≤ 101) : b = zFst P 101 := by
  rcases e with e | e
  · rw [e] at h; exact h
  · have u := zFst_up h e (101 - k.toInt.toNat)
    rw [show k.toInt.toNat + (101 - k.toInt.toNat) = 101 by omega] at u
    exact u
theorem zFst_c {P Q : Nat → Bool} (h : ∀ k, P k = Q k) : ∀ n : Nat, zFst P n = zFst Q n
  | 0 => rfl
  | n + 1 => by
    show (if (zFst P n).toInt = -1 ∧ P n = true then nI n else zFst P n) = if (zFst Q n).toInt = -1 ∧ Q n = true then nI n else zFst Q n
    rw [zFst_c h n, h n]
theorem zGo_i {L : zLw} {tl k : Int32} {s : zT9} (hk : k.toInt = 0) : zR9 s (zGo L tl k.toInt.toNat s) := by rw [hk]; exact zR9_r _
/-- so many believe by then; a work has fallen by then -/
def zPre (L : zLw) (x : Int32) (s : zT9) : Nat → Bool := fun j => decide (x.toInt ≤ (zBl9 (zGo L 0 j s)).toInt)
def zPla (L : zLw) (w : Int32) (s : zT9) : Nat → Bool := fun j => decide (((zGo L 0 j s).2.2.2.2.2.2.2.2 9 w.toInt.toNat).toInt = 2)
theorem zPre_y {L : zLw} {x q : Int32} {s d : zT9} {j : Nat} (h : zR9 d (zGo L 0 j s)) (b : d.1.toInt ≤ 8) (e : q = zBl9 d) (c : x.toInt ≤ q.toInt) : zPre L x s j = true := by
  refine decide_eq_true ?_
  rw [← zBl9_c h b, ← e]; exact c
theorem zPre_n {L : zLw} {x q : Int32} {s d : zT9} {j : Nat} (h : zR9 d (zGo L 0 j s)) (b : d.1.toInt ≤ 8) (e : q = zBl9 d) (c : ¬ x.toInt ≤ q.toInt) : ¬ zPre L x s j = true := by
  intro p
  have p2 := of_decide_eq_true p
  rw [← zBl9_c h b, ← e] at p2; exact c p2
theorem zPla_y {L : zLw} {w v : Int32} {s d : zT9} {j : Nat} (h : zR9 d (zGo L 0 j s)) (hw : w.toInt.toNat < 6) (e : v = d.2.2.2.2.2.2.2.2 9 w.toInt.toNat) (c : v.toInt = 2) : zPla L w s j = true := by
  refine decide_eq_true ?_
  rw [← h.2.2.2.2.2.2.2.2.2.2 9 w.toInt.toNat (by decide) (by decide) hw, ← e]; exact c
theorem zPla_n {L : zLw} {w v : Int32} {s d : zT9} {j : Nat} (h : zR9 d (zGo L 0 j s)) (hw : w.toInt.toNat < 6) (e : v = d.2.2.2.2.2.2.2.2 9 w.toInt.toNat) (c : ¬ v.toInt = 2) : ¬ zPla L w s j = true := by
  intro p
  have p2 := of_decide_eq_true p
  rw [← h.2.2.2.2.2.2.2.2.2.2 9 w.toInt.toNat (by decide) (by decide) hw, ← e] at p2; exact c p2
def zdReach (L : zLw) (x : Int32) (s : zT9) : Int32 × Int32 := zk2 (1 ≤ x.toInt ∧ x.toInt ≤ 792) True (zFst (zPre L x s) 101)
def zdLast (L : zLw) (w : Int32) (s : zT9) : Int32 × Int32 := zk2 (0 ≤ w.toInt ∧ w.toInt < s.2.1.toInt) True (zFst (zPla L w s) 101)
def zdSways (L : zLw) (x n : Int32) (s : zT9) : Int32 × Int32 := zk2 (0 ≤ x.toInt ∧ x.toInt < s.1.toInt) (0 ≤ n.toInt ∧ n.toInt ≤ 30) (zBl9 (zLk L (zBit x.toInt.toNat) 10 n.toInt.toNat s) - zBl9 (zLk L 0 0 n.toInt.toNat s))
theorem zdReach_c {L : zLw} {x : Int32} {s t : zT9} (h : zR9 s t) (k : zOk s) : zdReach L x s = zdReach L x t := by
  unfold zdReach
  rw [zFst_c (fun j => ?_) 101]
  unfold zPre
  rw [zBl9_c (zGo_n (L := L) (tl := 0) (n := j) h k).1 k.1.2]
theorem zdLast_c {L : zLw} {w : Int32} {s t : zT9} (h : zR9 s t) (k : zOk s) : zdLast L w s = zdLast L w t := by
  have e2 : s.2.1 = t.2.1 := h.2.1
  have b := k.2.1
  unfold zdLast
  rw [← e2]
  refine zk2_c Iff.rfl (fun _ => Iff.rfl) (fun a _ => zFst_c (fun j => ?_) 101)
  have z := (zGo_n (L := L) (tl := 0) (n := j) h k).1
  unfold zPla
  rw [z.2.2.2.2.2.2.2.2.2.2 9 w.toInt.toNat (by decide) (by decide) (by omega)]
theorem zdSways_c {L : zLw} {x n : Int32} {s t : zT9} (h : zR9 s t) (k : zOk s) : zdSways L x n s = zdSways L x n t := by
  have e1 : s.1 = t.1 := h.1
  have l := fun st9 by9 => zBl9_c (zLk_c (L := L) (st := st9) (by9 := by9) (n := n.toInt.toNat) h k) k.1.2
  unfold zdSways
  rw [← e1, l, l]
section ZH
variable {L : zLw} {x n w q q1 q2 pe wo tx ch jo tr dy sd : Int32} {f : zRw} {m : Nat → Int32} {d1 d2 : zT9}
theorem zdReach_c1 (k : ¬ (1 ≤ x.toInt ∧ x.toInt ≤ 792)) : (1, 0) = zdReach L x (pe, wo, tx, ch, jo, tr, dy, sd, f) := zk2_1 k
theorem zdReach_c0 (k : 1 ≤ x.toInt ∧ x.toInt ≤ 792) (e : q = zFst (zPre L x (pe, wo, tx, ch, jo, tr, dy, sd, f)) 101) : (0, q) = zdReach L x (pe, wo, tx, ch, jo, tr, dy, sd, f) := zk2_0 k trivial e
theorem zdReach_1 (k : ¬ (1 ≤ x.toInt ∧ x.toInt ≤ 792)) : (1, 0) = zdReach L x (zM9 m) := zk2_1 k
theorem zdReach_m (k : 1 ≤ x.toInt ∧ x.toInt ≤ 792) (e : q = zFst (zPre L x (zM9 m)) 101) : (0, q) = zdReach L x (zM9 m) := zk2_0 k trivial e
theorem zdLast_c1 (k : ¬ (0 ≤ w.toInt ∧ w.toInt < wo.toInt)) : (1, 0) = zdLast L w (pe, wo, tx, ch, jo, tr, dy, sd, f) := zk2_1 k
theorem zdLast_c0 (k : 0 ≤ w.toInt ∧ w.toInt < wo.toInt) (e : q = zFst (zPla L w (pe, wo, tx, ch, jo, tr, dy, sd, f)) 101) : (0, q) = zdLast L w (pe, wo, tx, ch, jo, tr, dy, sd, f) := zk2_0 k trivial e
theorem zdLast_1 (k : ¬ (0 ≤ w.toInt ∧ w.toInt < (m 4).toInt)) : (1, 0) = zdLast L w (zM9 m) := zk2_1 k
theorem zdLast_m (k : 0 ≤ w.toInt ∧ w.toInt < (m 4).toInt) (e : q = zFst (zPla L w (zM9 m)) 101) : (0, q) = zdLast L w (zM9 m) := zk2_0 k trivial e
theorem zdSways_c1 (k : ¬ (0 ≤ x.toInt ∧ x.toInt < pe.toInt)) : (1, 0) = zdSways L x n (pe, wo, tx, ch, jo, tr, dy, sd, f) := zk2_1 k
theorem zdSways_c2 (h : 0 ≤ x.toInt ∧ x.toInt < pe.toInt) (k : ¬ (0 ≤ n.toInt ∧ n.toInt ≤ 30)) : (2, 0) = zdSways L x n (pe, wo, tx, ch, jo, tr, dy, sd, f) := zk2_2 h k
theorem zdSways_c0 (b : 0 ≤ pe.toInt ∧ pe.toInt ≤ 8) (h : 0 ≤ x.toInt ∧ x.toInt < pe.toInt) (k : 0 ≤ n.toInt ∧ n.toInt ≤ 30) (g1 : zR9 d1 (zLk L (zBit x.toInt.toNat) 10 n.toInt.toNat (pe, wo, tx, ch, jo, tr, dy, sd, f))) (e1 : q1 = zBl9 d1) (g2 : zR9 d2 (zLk L 0 0 n.toInt.toNat (pe, wo, tx, ch, jo, tr, dy, sd, f))) (e2 : q2 = zBl9 d2) : (0, q1 - q2) = zdSways L x n (pe, wo, tx, ch, jo, tr, dy, sd, f) := zk2_0 h k (by
  have b1 : d1.1 = pe := g1.1
  have b2 : d2.1 = pe := g2.1
  rw [e1, e2, zBl9_c g1 (by rw [b1]; exact b.2), zBl9_c g2 (by rw [b2]; exact b.2)])
theorem zdSways_1 (k : ¬ (0 ≤ x.toInt ∧ x.toInt < (m 3).toInt)) : (1, 0) = zdSways L x n (zM9 m) := zk2_1 k
theorem zdSways_2 (h : 0 ≤ x.toInt ∧ x.toInt < (m 3).toInt) (k : ¬ (0 ≤ n.toInt ∧ n.toInt ≤ 30)) : (2, 0) = zdSways L x n (zM9 m) := zk2_2 h k
theorem zdSways_m (h : 0 ≤ x.toInt ∧ x.toInt < (m 3).toInt) (k : 0 ≤ n.toInt ∧ n.toInt ≤ 30) (e1 : q1 = zBl9 (zLk L (zBit x.toInt.toNat) 10 n.toInt.toNat (zM9 m))) (e2 : q2 = zBl9 (zLk L 0 0 n.toInt.toNat (zM9 m))) : (0, q1 - q2) = zdSways L x n (zM9 m) := zk2_0 h k (by rw [e1, e2])
end ZH
/-! the guru; seeds -/
def zHr9 (s : zT9) : Nat → Bool := fun x => decide ((s.2.2.2.2.2.2.2.2 3 x).toInt = -1)
theorem zHr_y {s : zT9} {x : Nat} (h : (s.2.2.2.2.2.2.2.2 3 x).toInt = -1) : zHr9 s x = true := decide_eq_true h
theorem zHr_n {s : zT9} {x : Nat} (h : ¬ (s.2.2.2.2.2.2.2.2 3 x).toInt = -1) : ¬ zHr9 s x = true := fun q => h (of_decide_eq_true q)
def zGuW (L : zLw) (n : Int32) (s : zT9) : Nat → Int32 := fun k => zBl9 (zLk L (zBit k) 10 n.toInt.toNat s)
theorem zGuW_e {L : zLw} {n q : Int32} {s d : zT9} {k : Nat} (g : zR9 d (zLk L (zBit k) 10 n.toInt.toNat s)) (e : q = zBl9 d) (b : s.1.toInt ≤ 8) : q = zGuW L n s k := by
  have b1 : d.1 = s.1 := g.1
  rw [e]; exact zBl9_c g (by rw [b1]; exact b)
theorem zGu_y {P : Nat → Bool} {W : Nat → Int32} {b k k' mo v : Int32} (h : b = zBst P W k.toInt.toNat) (I : b.toInt = -1 ∨ mo = W b.toInt.toNat) (hk : k'.toInt = k.toInt + 1) (h0 : 0 ≤ k.toInt) (p : P k.toInt.toNat = true) (e : v = W k.toInt.toNat) (c : b.toInt = -1 ∨ mo.toInt < v.toInt) : k = zBst P W k'.toInt.toNat := zBst_y h hk h0 p (by
  rcases c with c | c
  · exact Or.inl c
  · rcases I with i | i
    · exact Or.inl i
    · exact Or.inr (by rw [← i, ← e]; exact c))
theorem zGu_n {P : Nat → Bool} {W : Nat → Int32} {b k k' : Int32} (h : b = zBst P W k.toInt.toNat) (hk : k'.toInt = k.toInt + 1) (h0 : 0 ≤ k.toInt) (p : ¬ P k.toInt.toNat = true) : b = zBst P W k'.toInt.toNat := zBst_n h hk h0 (fun q => p q.1)
theorem zGu_m {P : Nat → Bool} {W : Nat → Int32} {b k k' mo v : Int32} (h : b = zBst P W k.toInt.toNat) (I : b.toInt = -1 ∨ mo = W b.toInt.toNat) (hk : k'.toInt = k.toInt + 1) (h0 : 0 ≤ k.toInt) (e : v = W k.toInt.toNat) (c : ¬ b.toInt = -1 ∧ ¬ mo.toInt < v.toInt) : b = zBst P W k'.toInt.toNat := zBst_n h hk h0 (fun q => by
  rcases I with i | i
  · exact c.1 i
  · rcases q.2 with w | w
    · exact c.1 w
    · rw [← i, ← e] at w; exact c.2 w)
def zdGuru (L : zLw) (n : Int32) (s : zT9) : Int32 × Int32 := zk2 (0 ≤ n.toInt ∧ n.toInt ≤ 30) True (zBst (zHr9 s) (zGuW L n s) s.1.toInt.toNat)
theorem zdGuru_c {L : zLw} {n : Int32} {s t : zT9} (h : zR9 s t) (k : zOk s) : zdGuru L n s = zdGuru L n t := by
  have e1 : s.1 = t.1 := h.1
  have b := k.1
  unfold zdGuru
  rw [← e1]
  refine zk2_c Iff.rfl (fun _ => Iff.rfl) (fun a _ => zBst_c s.1.toInt.toNat (by omega) (fun x hx => ?_) (fun x hx => ?_))
  · unfold zHr9
    rw [h.2.2.2.2.2.2.2.2.1 3 x (by decide) (by omega)]
  · exact zBl9_c (zLk_c (L := L) (st := zBit x) (by9 := 10) (n := n.toInt.toNat) h k) k.1.2
theorem zdGuru_c1 {L : zLw} {n pe wo tx ch jo tr dy sd : Int32} {f : zRw} (k : ¬ (0 ≤ n.toInt ∧ n.toInt ≤ 30)) : (1, 0) = zdGuru L n (pe, wo, tx, ch, jo, tr, dy, sd, f) := zk2_1 k
theorem zdGuru_c0 {L : zLw} {n q pe wo tx ch jo tr dy sd : Int32} {f : zRw} (k : 0 ≤ n.toInt ∧ n.toInt ≤ 30) (e : q = zBst (zHr9 (pe, wo, tx, ch, jo, tr, dy, sd, f)) (zGuW L n (pe, wo, tx, ch, jo, tr, dy, sd, f)) pe.toInt.toNat) : (0, q) = zdGuru L n (pe, wo, tx, ch, jo, tr, dy, sd, f) := zk2_0 k trivial e
theorem zdGuru_1 {L : zLw} {n : Int32} {m : Nat → Int32} (k : ¬ (0 ≤ n.toInt ∧ n.toInt ≤ 30)) : (1, 0) = zdGuru L n (zM9 m) := zk2_1 k
theorem zdGuru_m {L : zLw} {n q : Int32} {m : Nat → Int32} (k : 0 ≤ n.toInt ∧ n.toInt ≤ 30) (e : q = zBst (zHr9 (zM9 m)) (zGuW L n (zM9 m)) (m 3).toInt.toNat) : (0, q) = zdGuru L n (zM9 m) := zk2_0 k trivial e
/-- the utmost of so many -/
def zUt (c : Int32) (W : Nat → Int32) : Nat → Int32
  | 0 => -1
  | k + 1 => if (zUt c W k).toInt = -1 ∨ (c.toInt = 0 ∧ (W (k + 1)).toInt < (zUt c W k).toInt) ∨ (¬ c.toInt = 0 ∧ (zUt c W k).toInt < (W (k + 1)).toInt) then W (k + 1) else zUt c W k
theorem zUt_0 {c u k : Int32} {W : Nat → Int32} (h : u = -1) (hk : k.toInt = 1) : u = zUt c W (k.toInt.toNat - 1) := by rw [hk]; exact h
theorem zUt_y {c u v k k' : Int32} {W : Nat → Int32} (h : u = zUt c W (k.toInt.toNat - 1)) (hk : k'.toInt = k.toInt + 1) (h1 : 1 ≤ k.toInt) (e : v = W k.toInt.toNat) (cc : u.toInt = -1 ∨ (c.toInt = 0 ∧ v.toInt < u.toInt) ∨ (¬ c.toInt = 0 ∧ u.toInt < v.toInt)) : v = zUt c W (k'.toInt.toNat - 1) := by
  rw [show k'.toInt.toNat - 1 = (k.toInt.toNat - 1) + 1 by omega]
  have e2 : v = W (k.toInt.toNat - 1 + 1) := by rw [show k.toInt.toNat - 1 + 1 = k.toInt.toNat by omega]; exact e
  show v = if (zUt c W (k.toInt.toNat - 1)).toInt = -1 ∨ (c.toInt = 0 ∧ (W (k.toInt.toNat - 1 + 1)).toInt < (zUt c W (k.toInt.toNat - 1)).toInt) ∨ (¬ c.toInt = 0 ∧ (zUt c W (k.toInt.toNat - 1)).toInt < (W (k.toInt.toNat - 1 + 1)).toInt) then W (k.toInt.toNat - 1 + 1) else zUt c W (k.toInt.toNat - 1)
  rw [← h, ← e2, if_pos cc]
theorem zUt_n {c u v k k' : Int32} {W : Nat → Int32} (h : u = zUt c W (k.toInt.toNat - 1)) (hk : k'.toInt = k.toInt + 1) (h1 : 1 ≤ k.toInt) (e : v = W k.toInt.toNat) (cc : ¬ (u.toInt = -1 ∨ (c.toInt = 0 ∧ v.toInt < u.toInt) ∨ (¬ c.toInt = 0 ∧ u.toInt < v.toInt))) : u = zUt c W (k'.toInt.toNat - 1) := by
  rw [show k'.toInt.toNat - 1 = (k.toInt.toNat - 1) + 1 by omega]
  have e2 : v = W (k.toInt.toNat - 1 + 1) := by rw [show k.toInt.toNat - 1 + 1 = k.toInt.toNat by omega]; exact e
  show u = if (zUt c W (k.toInt.toNat - 1)).toInt = -1 ∨ (c.toInt = 0 ∧ (W (k.toInt.toNat - 1 + 1)).toInt < (zUt c W (k.toInt.toNat - 1)).toInt) ∨ (¬ c.toInt = 0 ∧ (zUt c W (k.toInt.toNat - 1)).toInt < (W (k.toInt.toNat - 1 + 1)).toInt) then W (k.toInt.toNat - 1 + 1) else zUt c W (k.toInt.toNat - 1)
  rw [← h, ← e2, if_neg cc]
theorem zUt_g {c u v q k k' : Int32} {W : Nat → Int32} (h : u = zUt c W (k.toInt.toNat - 1)) (hk : k'.toInt = k.toInt + 1) (h1 : 1 ≤ k.toInt) (e : v = W k.toInt.toNat) (hu : ¬ u.toInt = -1) (hc : ¬ c.toInt = 0) (g : u.toInt ≤ q.toInt ∧ v.toInt ≤ q.toInt ∧ (q.toInt = u.toInt ∨ q.toInt = v.toInt)) : q = zUt c W (k'.toInt.toNat - 1) := by
  by_cases p : u.toInt < v.toInt
  · have z := zUt_y h hk h1 e (Or.inr (Or.inr ⟨hc, p⟩))
    rw [← z]; exact Int32.toInt_inj.mp (by omega)
  · have z := zUt_n h hk h1 e (by omega)
    rw [← z]; exact Int32.toInt_inj.mp (by omega)
theorem zUt_l {c u v q k k' : Int32} {W : Nat → Int32} (h : u = zUt c W (k.toInt.toNat - 1)) (hk : k'.toInt = k.toInt + 1) (h1 : 1 ≤ k.toInt) (e : v = W k.toInt.toNat) (hu : ¬ u.toInt = -1) (hc : c.toInt = 0) (g : q.toInt ≤ u.toInt ∧ q.toInt ≤ v.toInt ∧ (q.toInt = u.toInt ∨ q.toInt = v.toInt)) : q = zUt c W (k'.toInt.toNat - 1) := by
  by_cases p : v.toInt < u.toInt
  · have z := zUt_y h hk h1 e (Or.inr (Or.inl ⟨hc, p⟩))
    rw [← z]; exact Int32.toInt_inj.mp (by omega)
  · have z := zUt_n h hk h1 e (by omega)
    rw [← z]; exact Int32.toInt_inj.mp (by omega)
theorem zUt_x {c u k : Int32} {W : Nat → Int32} (h : u = zUt c W (k.toInt.toNat - 1)) (e : k.toInt = 7) : u = zUt c W 6 := by rw [e] at h; exact h
theorem zUt_c {c : Int32} {W V : Nat → Int32} (e : ∀ k, W k = V k) : ∀ n : Nat, zUt c W n = zUt c V n
  | 0 => rfl
  | n + 1 => by
    show (if (zUt c W n).toInt = -1 ∨ (c.toInt = 0 ∧ (W (n + 1)).toInt < (zUt c W n).toInt) ∨ (¬ c.toInt = 0 ∧ (zUt c W n).toInt < (W (n + 1)).toInt) then W (n + 1) else zUt c W n) = if (zUt c V n).toInt = -1 ∨ (c.toInt = 0 ∧ (V (n + 1)).toInt < (zUt c V n).toInt) ∨ (¬ c.toInt = 0 ∧ (zUt c V n).toInt < (V (n + 1)).toInt) then V (n + 1) else zUt c V n
    rw [zUt_c e n, e (n + 1)]
def zsd (s : zT9) (v : Int32) : zT9 := (s.1, s.2.1, s.2.2.1, s.2.2.2.1, s.2.2.2.2.1, s.2.2.2.2.2.1, s.2.2.2.2.2.2.1, v, s.2.2.2.2.2.2.2.2)
theorem zsd_c {s t : zT9} {v : Int32} (h : zR9 s t) : zR9 (zsd s v) (zsd t v) := ⟨h.1, h.2.1, h.2.2.1, h.2.2.2.1, h.2.2.2.2.1, h.2.2.2.2.2.1, h.2.2.2.2.2.2.1, rfl, h.2.2.2.2.2.2.2.2⟩
theorem zsd_ok {s : zT9} {v : Int32} (h : zOk s) : zOk (zsd s v) := ⟨h.1, h.2.1, h.2.2.1, h.2.2.2.1, h.2.2.2.2⟩
def zSpW (L : zLw) (n : Int32) (s : zT9) : Nat → Int32 := fun k => zBl9 (zGo L 1 n.toInt.toNat (zsd s (nI k)))
theorem zSpW_e {L : zLw} {n q : Int32} {s d : zT9} {k : Int32} (h0 : 0 ≤ k.toInt) (g : zR9 d (zGo L 1 n.toInt.toNat (zsd s k))) (e : q = zBl9 d) (b : s.1.toInt ≤ 8) : q = zSpW L n s k.toInt.toNat := by
  have b1 : d.1 = s.1 := g.1
  have z : nI k.toInt.toNat = k := (znat h0).symm
  show q = zBl9 (zGo L 1 n.toInt.toNat (zsd s (nI k.toInt.toNat)))
  rw [z, e]; exact zBl9_c g (by rw [b1]; exact b)
def zdSpan (L : zLw) (n c : Int32) (s : zT9) : Int32 × Int32 := zk2 (0 ≤ n.toInt ∧ n.toInt ≤ 60) True (zUt c (zSpW L n s) 6)
theorem zdSpan_c {L : zLw} {n c : Int32} {s t : zT9} (h : zR9 s t) (k : zOk s) : zdSpan L n c s = zdSpan L n c t := by
  unfold zdSpan
  rw [zUt_c (W := zSpW L n s) (V := zSpW L n t) (fun j => zBl9_c (zGo_n (L := L) (tl := 1) (n := n.toInt.toNat) (zsd_c (v := nI j) h) (zsd_ok k)).1 k.1.2) 6]
theorem zdSpan_c1 {L : zLw} {n c pe wo tx ch jo tr dy sd : Int32} {f : zRw} (k : ¬ (0 ≤ n.toInt ∧ n.toInt ≤ 60)) : (1, 0) = zdSpan L n c (pe, wo, tx, ch, jo, tr, dy, sd, f) := zk2_1 k
theorem zdSpan_c0 {L : zLw} {n c q pe wo tx ch jo tr dy sd : Int32} {f : zRw} (k : 0 ≤ n.toInt ∧ n.toInt ≤ 60) (e : q = zUt c (zSpW L n (pe, wo, tx, ch, jo, tr, dy, sd, f)) 6) : (0, q) = zdSpan L n c (pe, wo, tx, ch, jo, tr, dy, sd, f) := zk2_0 k trivial e
theorem zdSpan_1 {L : zLw} {n c : Int32} {m : Nat → Int32} (k : ¬ (0 ≤ n.toInt ∧ n.toInt ≤ 60)) : (1, 0) = zdSpan L n c (zM9 m) := zk2_1 k
theorem zdSpan_m {L : zLw} {n c q : Int32} {m : Nat → Int32} (k : 0 ≤ n.toInt ∧ n.toInt ≤ 60) (e : q = zUt c (zSpW L n (zM9 m)) 6) : (0, q) = zdSpan L n c (zM9 m) := zk2_0 k trivial e
theorem zM9_sd {fm f0 f : Nat → Int32} {v : Int32} (h : fm = f0) (e : f = upd f0 10 v) : zR9 (zM9 f) (zsd (zM9 fm) v) := by
  subst h; subst e
  have k : ∀ i : Nat, i ≠ 10 → upd fm 10 v i = fm i := fun i h => pk_un h
  exact ⟨k 3 (by decide), k 4 (by decide), k 0 (by decide), k 5 (by decide), k 6 (by decide), k 7 (by decide), k 8 (by decide), (show upd fm 10 v 10 = v from pk_us), zVo (Or.inl (by decide))⟩
theorem zGo_e {L : zLw} {tl : Int32} {n : Nat} {s t : zT9} (h : zR9 s t) (b8 : s.1.toInt ≤ 8) (b6 : s.2.1.toInt ≤ 6) : zR9 (zGo L tl n s) (zGo L tl n t) := by
  obtain ⟨s1, s2, s3, s4, s5, s6, s7, s8, s9⟩ := s
  obtain ⟨t1, t2, t3, t4, t5, t6, t7, t8, t9⟩ := t
  obtain ⟨e1, e2, e3, e4, e5, e6, e7, e8, e9⟩ := h
  have q1 : s1 = t1 := e1
  have q2 : s2 = t2 := e2
  have q3 : s3 = t3 := e3
  have q4 : s4 = t4 := e4
  have q5 : s5 = t5 := e5
  have q6 : s6 = t6 := e6
  have q7 : s7 = t7 := e7
  have q8 : s8 = t8 := e8
  have q9 : zEq s9 t9 := e9
  subst q1; subst q2; subst q3; subst q4; subst q5; subst q6; subst q7; subst q8
  have b8' : s1.toInt ≤ 8 := b8
  have b6' : s2.toInt ≤ 6 := b6
  have z := zNds_c (L := L) (pe := s1.toInt.toNat) (wo := s2.toInt.toNat) (tr := s6) (tl := tl) (a := (s4, s7, s8, s9)) (b := (s4, s7, s8, t9)) n (by omega) (by omega) ⟨rfl, rfl, rfl, q9⟩
  exact ⟨rfl, rfl, rfl, z.1.1, rfl, rfl, z.1.2.1, z.1.2.2.1, z.1.2.2.2⟩
set_option maxRecDepth 100000 in
set_option maxHeartbeats 4000000 in
theorem c_f_firstBelievedC (l : Launch) (g : zG) (fo : Nat) (o : Nat) (lo : Nat) (od : Nat) (a : Nat → Nat) (pe : Int32) (wo : Int32) (tx : Int32) (ch : Int32) (jo : Int32) (tr : Int32) (dy : Int32) (sd : Int32) (f : Nat → Nat → Int32) (lc : Nat) (lz : Int32) (ll : Int32) (lm : Int32) (lg : Int32) (ld : Int32) (fc : Nat → Int32) (ad : Nat → Nat) (ped : Int32) (wod : Int32) (txd : Int32) (chd : Int32) (jod : Int32) (trd : Int32) (dyd : Int32) (sdd : Int32) (fd : Nat → Nat → Int32) (xx : Int32) (b_pe : 0 ≤ pe.toInt ∧ pe.toInt ≤ 8) (b_wo : 0 ≤ wo.toInt ∧ wo.toInt ≤ 6) (rf : zZ4 f) (b_lz : 0 ≤ lz.toInt ∧ lz.toInt ≤ 400) (b_ped : 0 ≤ ped.toInt ∧ ped.toInt ≤ 8) (b_wod : 0 ≤ wod.toInt ∧ wod.toInt ≤ 6) (rfd : zZ4 fd) : zM' g l yX0_firstBelieved (Cond.code yX0_firstBelieved cX0_firstBelieved 3 (some .int) :: zB) ({ frames := 6, cells := 0, slots := 0, locals := 128 } : Room) [.ref fo, .int xx] [bFo g fo o lo od, bTown g o a pe wo tx ch jo tr dy sd f, bLaw g lo lc lz ll lm lg ld fc, bTown g od ad ped wod txd chd jod trd dyd sdd fd] (fun u : Int32 × Int32 × Int32 × Int32 × Int32 × Int32 × Int32 × Int32 × Int32 × Int32 × Int32 × (Nat → Nat → Int32) × Int32 => (fun (lm2 : Int32) (lg2 : Int32) (ld2 : Int32) (pe3 : Int32) (wo3 : Int32) (tx3 : Int32) (ch3 : Int32) (jo3 : Int32) (tr3 : Int32) (dy3 : Int32) (sd3 : Int32) (f3 : Nat → Nat → Int32) (q : Int32) => some (.int q)) (u.1) (u.2.1) (u.2.2.1) (u.2.2.2.1) (u.2.2.2.2.1) (u.2.2.2.2.2.1) (u.2.2.2.2.2.2.1) (u.2.2.2.2.2.2.2.1) (u.2.2.2.2.2.2.2.2.1) (u.2.2.2.2.2.2.2.2.2.1) (u.2.2.2.2.2.2.2.2.2.2.1) (u.2.2.2.2.2.2.2.2.2.2.2.1) (u.2.2.2.2.2.2.2.2.2.2.2.2)) (fun u : Int32 × Int32 × Int32 × Int32 × Int32 × Int32 × Int32 × Int32 × Int32 × Int32 × Int32 × (Nat → Nat → Int32) × Int32 => (fun (lm2 : Int32) (lg2 : Int32) (ld2 : Int32) (pe3 : Int32) (wo3 : Int32) (tx3 : Int32) (ch3 : Int32) (jo3 : Int32) (tr3 : Int32) (dy3 : Int32) (sd3 : Int32) (f3 : Nat → Nat → Int32) (q : Int32) => (0 ≤ pe3.toInt ∧ pe3.toInt ≤ 8) ∧ (0 ≤ wo3.toInt ∧ wo3.toInt ≤ 6) ∧ (zZ4 f3) ∧ (q = zFst (zPre (zLwR fc lz ll) xx (pe, wo, tx, ch, jo, tr, dy, sd, f)) 101)) (u.1) (u.2.1) (u.2.2.1) (u.2.2.2.1) (u.2.2.2.2.1) (u.2.2.2.2.2.1) (u.2.2.2.2.2.2.1) (u.2.2.2.2.2.2.2.1) (u.2.2.2.2.2.2.2.2.1) (u.2.2.2.2.2.2.2.2.2.1) (u.2.2.2.2.2.2.2.2.2.2.1) (u.2.2.2.2.2.2.2.2.2.2.2.1) (u.2.2.2.2.2.2.2.2.2.2.2.2)) (fun u : Int32 × Int32 × Int32 × Int32 × Int32 × Int32 × Int32 × Int32 × Int32 × Int32 × Int32 × (Nat → Nat → Int32) × Int32 => (fun (lm2 : Int32) (lg2 : Int32) (ld2 : Int32) (pe3 : Int32) (wo3 : Int32) (tx3 : Int32) (ch3 : Int32) (jo3 : Int32) (tr3 : Int32) (dy3 : Int32) (sd3 : Int32) (f3 : Nat → Nat → Int32) (q : Int32) => [bFo g fo o lo od, bTown g o a pe wo tx ch jo tr dy sd f, bLaw g lo lc lz ll lm2 lg2 ld2 fc, bTown g od ad pe3 wo3 tx3 ch3 jo3 tr3 dy3 sd3 f3]) (u.1) (u.2.1) (u.2.2.1) (u.2.2.2.1) (u.2.2.2.2.1) (u.2.2.2.2.2.1) (u.2.2.2.2.2.2.1) (u.2.2.2.2.2.2.2.1) (u.2.2.2.2.2.2.2.2.1) (u.2.2.2.2.2.2.2.2.2.1) (u.2.2.2.2.2.2.2.2.2.2.1) (u.2.2.2.2.2.2.2.2.2.2.2.1) (u.2.2.2.2.2.2.2.2.2.2.2.2)) := by
  refine zM'.of (cc := cX0_firstBelieved) (maxL := 3) (rt := (some .int)) (by decide) rfl (Nat.le_of_ble_eq_true rfl) ?_
  intro p e s m args below meth c A ls St hr hlocks hin hK hT hA hP hD hS hl
  obtain ⟨hx, hb, hml, hown, hts⟩ := id St
  have hl : lv_has ls 3 [(0, .ref fo), (1, .int xx)] := hl
  refine lv_aload_n hx hb dX0_firstBelieved_0 rfl (lv_at hl 0 rfl) ?_
  refine va_get (D := g.1) (ci := 0) (v := .ref od) (C := RX0) (T := TX0) (N := 3) hx hb hts izRX0 hown hK hP 0 rfl rfl 2 (by decide) (hts _ k25) (fun _ h9 => h9) rfl dX0_firstBelieved_1 ?_
  refine lv_aload_n hx hb dX0_firstBelieved_4 rfl (lv_at hl 0 rfl) ?_
  refine va_get (D := g.1) (ci := 0) (v := .ref o) (C := RX0) (T := TX0) (N := 3) hx hb hts izRX0 hown hK hP 0 rfl rfl 0 (by decide) (hts _ k26) (fun _ h9 => h9) rfl dX0_firstBelieved_5 ?_
  refine mcallV' (g := g) (q0 := 0) (ci := 7) (As := [.ref o]) (rest := []) St hK hT hA hP hD hS hl.1 [3, 1] [0, 2] rfl rfl rfl (c_copyFromC l g od ad ped wod txd chd jod trd dyd sdd fd o a pe wo tx ch jo tr dy sd f b_pe b_wo rf) (cwV 1 hts (zgL (zl4 k156 k157 k158 k24) k30) rfl rfl rfl (by decide +kernel) ⟨Nat.le_of_ble_eq_true rfl, Nat.le_of_ble_eq_true rfl⟩) rfl rfl rfl rfl (Nat.le_of_ble_eq_true rfl) dX0_firstBelieved_8 ⟨(Nat.le_of_ble_eq_true rfl), (Nat.le_of_ble_eq_true rfl)⟩ (fun h_1 H locs hq2 hP hD hS => ?_)
  replace hq2 : (zZ4 h_1) ∧ (zEq h_1 f) := hq2
  have hP : va_P g.1 vwCl (List.flatten [bFo g fo o lo od, bLaw g lo lc lz ll lm lg ld fc, bTown g od ad pe wo tx ch jo tr dy sd h_1, bTown g o a pe wo tx ch jo tr dy sd f]) H := hP
  have hD : va_D A (List.flatten [bFo g fo o lo od, bLaw g lo lc lz ll lm lg ld fc, bTown g od ad pe wo tx ch jo tr dy sd h_1, bTown g o a pe wo tx ch jo tr dy sd f]) := hD
  refine W.widen (k := 0) (n := 0) (Nat.le_of_ble_eq_true rfl) (Nat.le_of_ble_eq_true rfl) ?_
  refine W.eq (g2 := F0 m 11 ls []) rfl ?_
  obtain ⟨rh_1, hq2_1⟩ := hq2
  refine lv_iconst (v := 0) hx hb dX0_firstBelieved_11 (by decide) ?_
  refine lv_istore_n (lv' := [(2, .int 0), (0, .ref fo), (1, .int xx)]) hx hb dX0_firstBelieved_12 rfl hl (by decide) rfl (fun ls hl => ?_)
  have hl := lv_sub (l' := [(0, .ref fo), (1, .int xx), (2, .int 0)]) hl [1, 2, 0] rfl
  have LP13_14 : ∀ (kf : Nat) (x_3 : Int32) (x_4 : Int32) (x_5 : Int32) (x_6 : Int32) (x_7 : Int32) (x_8 : Int32) (x_9 : Int32) (f_10 : Nat → Nat → Int32), (0 ≤ x_3.toInt ∧ x_3.toInt ≤ 101) → (zZ4 f_10) → (zR9 (pe, wo, tx, x_7, jo, tr, x_8, x_9, f_10) (zGo (zLwR fc lz ll) 0 x_3.toInt.toNat (pe, wo, tx, ch, jo, tr, dy, sd, f))) → (((-1) : Int32) = zFst (zPre (zLwR fc lz ll) xx (pe, wo, tx, ch, jo, tr, dy, sd, f)) x_3.toInt.toNat) → ∀ (H : Heap) (locs : List Loc) (ls : Array Slot), ((102 - x_3.toInt).toNat) < kf → va_P g.1 vwCl (List.flatten [bFo g fo o lo od, bLaw g lo lc lz ll x_4 x_5 x_6 fc, bTown g od ad pe wo tx x_7 jo tr x_8 x_9 f_10, bTown g o a pe wo tx ch jo tr dy sd f]) H → va_D A (List.flatten [bFo g fo o lo od, bLaw g lo lc lz ll x_4 x_5 x_6 fc, bTown g od ad pe wo tx x_7 jo tr x_8 x_9 f_10, bTown g o a pe wo tx ch jo tr dy sd f]) → va_S A s.heap H locs → lv_has ls 3 [(0, .ref fo), (1, .int xx), (2, .int x_3)] → W p l e ({ frames := 6, cells := 0, slots := 0, locals := 128 } : Room) s m args below meth c H locs (0) (0) (zF g (fun u : Int32 × Int32 × Int32 × Int32 × Int32 × Int32 × Int32 × Int32 × Int32 × Int32 × Int32 × (Nat → Nat → Int32) × Int32 => (fun (lm2 : Int32) (lg2 : Int32) (ld2 : Int32) (pe3 : Int32) (wo3 : Int32) (tx3 : Int32) (ch3 : Int32) (jo3 : Int32) (tr3 : Int32) (dy3 : Int32) (sd3 : Int32) (f3 : Nat → Nat → Int32) (q : Int32) => some (.int q)) (u.1) (u.2.1) (u.2.2.1) (u.2.2.2.1) (u.2.2.2.2.1) (u.2.2.2.2.2.1) (u.2.2.2.2.2.2.1) (u.2.2.2.2.2.2.2.1) (u.2.2.2.2.2.2.2.2.1) (u.2.2.2.2.2.2.2.2.2.1) (u.2.2.2.2.2.2.2.2.2.2.1) (u.2.2.2.2.2.2.2.2.2.2.2.1) (u.2.2.2.2.2.2.2.2.2.2.2.2)) (fun u : Int32 × Int32 × Int32 × Int32 × Int32 × Int32 × Int32 × Int32 × Int32 × Int32 × Int32 × (Nat → Nat → Int32) × Int32 => (fun (lm2 : Int32) (lg2 : Int32) (ld2 : Int32) (pe3 : Int32) (wo3 : Int32) (tx3 : Int32) (ch3 : Int32) (jo3 : Int32) (tr3 : Int32) (dy3 : Int32) (sd3 : Int32) (f3 : Nat → Nat → Int32) (q : Int32) => (0 ≤ pe3.toInt ∧ pe3.toInt ≤ 8) ∧ (0 ≤ wo3.toInt ∧ wo3.toInt ≤ 6) ∧ (zZ4 f3) ∧ (q = zFst (zPre (zLwR fc lz ll) xx (pe, wo, tx, ch, jo, tr, dy, sd, f)) 101)) (u.1) (u.2.1) (u.2.2.1) (u.2.2.2.1) (u.2.2.2.2.1) (u.2.2.2.2.2.1) (u.2.2.2.2.2.2.1) (u.2.2.2.2.2.2.2.1) (u.2.2.2.2.2.2.2.2.1) (u.2.2.2.2.2.2.2.2.2.1) (u.2.2.2.2.2.2.2.2.2.2.1) (u.2.2.2.2.2.2.2.2.2.2.2.1) (u.2.2.2.2.2.2.2.2.2.2.2.2)) (fun u : Int32 × Int32 × Int32 × Int32 × Int32 × Int32 × Int32 × Int32 × Int32 × Int32 × Int32 × (Nat → Nat → Int32) × Int32 => (fun (lm2 : Int32) (lg2 : Int32) (ld2 : Int32) (pe3 : Int32) (wo3 : Int32) (tx3 : Int32) (ch3 : Int32) (jo3 : Int32) (tr3 : Int32) (dy3 : Int32) (sd3 : Int32) (f3 : Nat → Nat → Int32) (q : Int32) => [bFo g fo o lo od, bTown g o a pe wo tx ch jo tr dy sd f, bLaw g lo lc lz ll lm2 lg2 ld2 fc, bTown g od ad pe3 wo3 tx3 ch3 jo3 tr3 dy3 sd3 f3]) (u.1) (u.2.1) (u.2.2.1) (u.2.2.2.1) (u.2.2.2.2.1) (u.2.2.2.2.2.1) (u.2.2.2.2.2.2.1) (u.2.2.2.2.2.2.2.1) (u.2.2.2.2.2.2.2.2.1) (u.2.2.2.2.2.2.2.2.2.1) (u.2.2.2.2.2.2.2.2.2.2.1) (u.2.2.2.2.2.2.2.2.2.2.2.1) (u.2.2.2.2.2.2.2.2.2.2.2.2)) ({ frames := 6, cells := 0, slots := 0, locals := 128 } : Room) below args s A) (F0 m 13 ls []) := by
    intro kf
    induction kf with
    | zero => intro x_3 x_4 x_5 x_6 x_7 x_8 x_9 f_10 i11 rf_10 i12 i13 H locs ls hk; exact absurd hk (Nat.not_lt_zero _)
    | succ kf ih13_15 =>
      intro x_3 x_4 x_5 x_6 x_7 x_8 x_9 f_10 i11 rf_10 i12 i13 H locs ls hk13_15 hP hD hS hl
      refine lv_iload_n hx hb dX0_firstBelieved_13 rfl (lv_at hl 2 rfl) ?_
      refine lv_bipush (v := 100) hx hb dX0_firstBelieved_14 (by decide) ?_
      refine lv_icmp_gt (tgt := 52) hx hb dX0_firstBelieved_16 (by decide) (fun cb9 => ?_) (fun cb9 => ?_)
      · skip
        have c16 : 100 < x_3.toInt := zlti cb9 (by decide) rfl
        have n17 : 101 ≤ x_3.toInt := zL2 (a := 100) c16 (Int.le_refl _) (by decide)
        refine lv_iconst (v := (-1)) hx hb dX0_firstBelieved_52 (by decide) ?_
        have hP : va_P g.1 vwCl (List.flatten [bFo g fo o lo od, bLaw g lo lc lz ll x_4 x_5 x_6 fc, bTown g od ad pe wo tx x_7 jo tr x_8 x_9 f_10, bTown g o a pe wo tx ch jo tr dy sd f]) H := hP
        have hD : va_D A (List.flatten [bFo g fo o lo od, bLaw g lo lc lz ll x_4 x_5 x_6 fc, bTown g od ad pe wo tx x_7 jo tr x_8 x_9 f_10, bTown g o a pe wo tx ch jo tr dy sd f]) := hD
        obtain ⟨hP, hD⟩ := zord (g := g) (Bs' := [bFo g fo o lo od, bTown g o a pe wo tx ch jo tr dy sd f, bLaw g lo lc lz ll x_4 x_5 x_6 fc, bTown g od ad pe wo tx x_7 jo tr x_8 x_9 f_10]) [0, 3, 1, 2] rfl rfl hP hD
        exact mret_i hx hb hr hlocks hS (Nat.le_of_ble_eq_true rfl) (Nat.le_of_ble_eq_true rfl) dX0_firstBelieved_53 (x_4, x_5, x_6, pe, wo, tx, x_7, jo, tr, x_8, x_9, f_10, -1) rfl (show (0 ≤ pe.toInt ∧ pe.toInt ≤ 8) ∧ (0 ≤ wo.toInt ∧ wo.toInt ≤ 6) ∧ (zZ4 f_10) ∧ ((-1) = zFst (zPre (zLwR fc lz ll) xx (pe, wo, tx, ch, jo, tr, dy, sd, f)) 101) from ⟨(by first | assumption | omega | decide), (by first | assumption | omega | decide), (by first | assumption | omega | decide), (zFst_out i13 (by omega) (by omega))⟩) hP hD
      · skip
        have c18 : x_3.toInt ≤ 100 := zle (Int32.not_lt.mp cb9) rfl (by decide)
        have n19 : x_3.toInt ≤ 100 := Int.le_trans c18 (Int.le_refl _)
        refine lv_aload_n hx hb dX0_firstBelieved_19 rfl (lv_at hl 0 rfl) ?_
        refine va_get (D := g.1) (ci := 0) (v := .ref od) (C := RX0) (T := TX0) (N := 3) hx hb hts izRX0 hown hK hP 0 rfl rfl 2 (by decide) (hts _ k25) (fun _ h9 => h9) rfl dX0_firstBelieved_20 ?_
        refine mcallV' (g := g) (q0 := 0) (ci := 7) (As := []) (rest := []) St hK hT hA hP hD hS hl.1 [2] [0, 1, 3] rfl rfl rfl (c_believedF l g od ad pe wo tx x_7 jo tr x_8 x_9 f_10 b_pe b_wo rf_10) (cwV 0 hts (zgL (zl4 k163 k69 k70 k24) k60) rfl rfl rfl (by decide +kernel) ⟨Nat.le_of_ble_eq_true rfl, Nat.le_of_ble_eq_true rfl⟩) rfl rfl rfl rfl (Nat.le_of_ble_eq_true rfl) dX0_firstBelieved_23 ⟨(Nat.le_of_ble_eq_true rfl), (Nat.le_of_ble_eq_true rfl)⟩ (fun _u H locs hq20 hP hD hS => ?_)
        have hP : va_P g.1 vwCl (List.flatten [bFo g fo o lo od, bLaw g lo lc lz ll x_4 x_5 x_6 fc, bTown g o a pe wo tx ch jo tr dy sd f, bTown g od ad pe wo tx x_7 jo tr x_8 x_9 f_10]) H := hP
        have hD : va_D A (List.flatten [bFo g fo o lo od, bLaw g lo lc lz ll x_4 x_5 x_6 fc, bTown g o a pe wo tx ch jo tr dy sd f, bTown g od ad pe wo tx x_7 jo tr x_8 x_9 f_10]) := hD
        refine W.widen (k := 0) (n := 0) (Nat.le_of_ble_eq_true rfl) (Nat.le_of_ble_eq_true rfl) ?_
        refine W.eq (g2 := F0 m 26 ls [.int (zBel f_10 pe.toInt.toNat)]) rfl ?_
        refine lv_iload_n hx hb dX0_firstBelieved_26 rfl (lv_at hl 1 rfl) ?_
        refine lv_icmp_lt (tgt := 32) hx hb dX0_firstBelieved_27 (by decide) (fun cb9 => ?_) (fun cb9 => ?_)
        · skip
          have c21 : (zBel f_10 pe.toInt.toNat).toInt < xx.toInt := zlti cb9 rfl rfl
          refine lv_aload_n hx hb dX0_firstBelieved_32 rfl (lv_at hl 0 rfl) ?_
          refine va_get (D := g.1) (ci := 0) (v := .ref od) (C := RX0) (T := TX0) (N := 3) hx hb hts izRX0 hown hK hP 0 rfl rfl 2 (by decide) (hts _ k25) (fun _ h9 => h9) rfl dX0_firstBelieved_33 ?_
          refine lv_aload_n hx hb dX0_firstBelieved_36 rfl (lv_at hl 0 rfl) ?_
          refine va_get (D := g.1) (ci := 0) (v := .ref lo) (C := RX0) (T := TX0) (N := 3) hx hb hts izRX0 hown hK hP 0 rfl rfl 1 (by decide) (hts _ k27) (fun _ h9 => h9) rfl dX0_firstBelieved_37 ?_
          refine lv_iconst (v := 0) hx hb dX0_firstBelieved_40 (by decide) ?_
          refine lv_null hx hb dX0_firstBelieved_41 ?_
          refine mcallV' (g := g) (q0 := 0) (ci := 7) (As := [.ref lo, .int 0, .null]) (rest := []) St hK hT hA hP hD hS hl.1 [3, 1] [0, 2] rfl rfl rfl (c_passDayNF l g od ad pe wo tx x_7 jo tr x_8 x_9 f_10 lo lc lz ll x_4 x_5 x_6 fc 0 b_pe b_wo rf_10 b_lz) (cwV 3 hts (zgL (zl4 k160 k161 k162 k24) k154) rfl rfl rfl (by decide +kernel) ⟨Nat.le_of_ble_eq_true rfl, Nat.le_of_ble_eq_true rfl⟩) rfl rfl rfl rfl (Nat.le_of_ble_eq_true rfl) dX0_firstBelieved_42 ⟨(Nat.le_of_ble_eq_true rfl), (Nat.le_of_ble_eq_true rfl)⟩ (fun u_ H locs hq27 hP hD hS => ?_)
          obtain ⟨ch2_22, dy2_23, sd2_24, f2_25, q_26⟩ := u_
          replace hq27 : (zZ4 f2_25) ∧ (zDR (ch2_22, dy2_23, sd2_24, f2_25) (zDay (zLwR fc lz ll) pe.toInt.toNat wo.toInt.toNat tr 0 (x_7, x_8, x_9, f_10)) ∧ q_26 = (zDk (zLwR fc lz ll) pe.toInt.toNat wo.toInt.toNat (x_7, x_8, x_9, f_10)).2.2) := hq27
          have hP : va_P g.1 vwCl (List.flatten [bFo g fo o lo od, bTown g o a pe wo tx ch jo tr dy sd f, bTown g od ad pe wo tx ch2_22 jo tr dy2_23 sd2_24 f2_25, bLaw g lo lc lz ll (zMean f_10 pe.toInt.toNat) (zPop (zWks f_10 wo.toInt.toNat 1)) x_8 fc]) H := hP
          have hD : va_D A (List.flatten [bFo g fo o lo od, bTown g o a pe wo tx ch jo tr dy sd f, bTown g od ad pe wo tx ch2_22 jo tr dy2_23 sd2_24 f2_25, bLaw g lo lc lz ll (zMean f_10 pe.toInt.toNat) (zPop (zWks f_10 wo.toInt.toNat 1)) x_8 fc]) := hD
          refine W.widen (k := 0) (n := 0) (Nat.le_of_ble_eq_true rfl) (Nat.le_of_ble_eq_true rfl) ?_
          refine W.eq (g2 := F0 m 45 ls [.int q_26]) rfl ?_
          obtain ⟨rf2_25, hq27_1⟩ := hq27
          refine lv_pop hx hb dX0_firstBelieved_45 rfl ?_
          refine ziinc3 (n' := 1) (a' := 1) (b' := 101) (lv' := fun v9 => [(2, .int v9), (0, .ref fo), (1, .int xx)]) hx hb dX0_firstBelieved_46 hl (k := 2) rfl (by decide) (fun _ => rfl) (zaddK (i := x_3.toInt) (j := 1) rfl (by decide) i11.1 n19 (Int.le_refl _) (Int.le_refl _) (by decide)) (fun x_28 ls hx_28 hl => ?_)
          refine lv_goto (tgt := 13) hx hb dX0_firstBelieved_49 (by decide) ?_
          have hl := lv_sub (l' := [(0, .ref fo), (1, .int xx), (2, .int x_28)]) hl [1, 2, 0] rfl
          have hP : va_P g.1 vwCl (List.flatten [bFo g fo o lo od, bTown g o a pe wo tx ch jo tr dy sd f, bTown g od ad pe wo tx ch2_22 jo tr dy2_23 sd2_24 f2_25, bLaw g lo lc lz ll (zMean f_10 pe.toInt.toNat) (zPop (zWks f_10 wo.toInt.toNat 1)) x_8 fc]) H := hP
          have hD : va_D A (List.flatten [bFo g fo o lo od, bTown g o a pe wo tx ch jo tr dy sd f, bTown g od ad pe wo tx ch2_22 jo tr dy2_23 sd2_24 f2_25, bLaw g lo lc lz ll (zMean f_10 pe.toInt.toNat) (zPop (zWks f_10 wo.toInt.toNat 1)) x_8 fc]) := hD
          obtain ⟨hP, hD⟩ := zord (g := g) (Bs' := [bFo g fo o lo od, bLaw g lo lc lz ll (zMean f_10 pe.toInt.toNat) (zPop (zWks f_10 wo.toInt.toNat 1)) x_8 fc, bTown g od ad pe wo tx ch2_22 jo tr dy2_23 sd2_24 f2_25, bTown g o a pe wo tx ch jo tr dy sd f]) [0, 3, 2, 1] rfl rfl hP hD
          have hP : va_P g.1 vwCl (List.flatten [bFo g fo o lo od, bLaw g lo lc lz ll (zMean f_10 pe.toInt.toNat) (zPop (zWks f_10 wo.toInt.toNat 1)) x_8 fc, bTown g od ad pe wo tx ch2_22 jo tr dy2_23 sd2_24 f2_25, bTown g o a pe wo tx ch jo tr dy sd f]) H := hP
          have hD : va_D A (List.flatten [bFo g fo o lo od, bLaw g lo lc lz ll (zMean f_10 pe.toInt.toNat) (zPop (zWks f_10 wo.toInt.toNat 1)) x_8 fc, bTown g od ad pe wo tx ch2_22 jo tr dy2_23 sd2_24 f2_25, bTown g o a pe wo tx ch jo tr dy sd f]) := hD
          exact ih13_15 x_28 (zMean f_10 pe.toInt.toNat) (zPop (zWks f_10 wo.toInt.toNat 1)) x_8 ch2_22 dy2_23 sd2_24 f2_25 ⟨(Int.le_trans (by decide) hx_28.2.1), hx_28.2.2⟩ rf2_25 (zGo_d i12 (by omega) (by omega) hq27_1.1 (by omega)) (zFst_n i13 hx_28.1 (by omega) (fun q9 => absurd q9.2 (zPre_n (d := (pe, wo, tx, x_7, jo, tr, x_8, x_9, f_10)) (q := zBel f_10 pe.toInt.toNat) i12 (show pe.toInt ≤ 8 from by omega) rfl (show ¬ xx.toInt ≤ (zBel f_10 pe.toInt.toNat).toInt from by omega)))) H _ ls (zmK hx_28.1 (by decide) n19 (by decide) hk13_15)  hP hD hS (lv_sub hl [0, 1, 2] rfl)
        · skip
          have c29 : xx.toInt ≤ (zBel f_10 pe.toInt.toNat).toInt := zle (Int32.not_lt.mp cb9) rfl rfl
          refine lv_iload_n hx hb dX0_firstBelieved_30 rfl (lv_at hl 2 rfl) ?_
          have hP : va_P g.1 vwCl (List.flatten [bFo g fo o lo od, bLaw g lo lc lz ll x_4 x_5 x_6 fc, bTown g o a pe wo tx ch jo tr dy sd f, bTown g od ad pe wo tx x_7 jo tr x_8 x_9 f_10]) H := hP
          have hD : va_D A (List.flatten [bFo g fo o lo od, bLaw g lo lc lz ll x_4 x_5 x_6 fc, bTown g o a pe wo tx ch jo tr dy sd f, bTown g od ad pe wo tx x_7 jo tr x_8 x_9 f_10]) := hD
          obtain ⟨hP, hD⟩ := zord (g := g) (Bs' := [bFo g fo o lo od, bTown g o a pe wo tx ch jo tr dy sd f, bLaw g lo lc lz ll x_4 x_5 x_6 fc, bTown g od ad pe wo tx x_7 jo tr x_8 x_9 f_10]) [0, 2, 1, 3] rfl rfl hP hD
          exact mret_i hx hb hr hlocks hS (Nat.le_of_ble_eq_true rfl) (Nat.le_of_ble_eq_true rfl) dX0_firstBelieved_31 (x_4, x_5, x_6, pe, wo, tx, x_7, jo, tr, x_8, x_9, f_10, x_3) rfl (show (0 ≤ pe.toInt ∧ pe.toInt ≤ 8) ∧ (0 ≤ wo.toInt ∧ wo.toInt ≤ 6) ∧ (zZ4 f_10) ∧ (x_3 = zFst (zPre (zLwR fc lz ll) xx (pe, wo, tx, ch, jo, tr, dy, sd, f)) 101) from ⟨(by first | assumption | omega | decide), (by first | assumption | omega | decide), (by first | assumption | omega | decide), (zFst_hit i13 (zPre_y (d := (pe, wo, tx, x_7, jo, tr, x_8, x_9, f_10)) (q := zBel f_10 pe.toInt.toNat) i12 (show pe.toInt ≤ 8 from by omega) rfl (show xx.toInt ≤ (zBel f_10 pe.toInt.toNat).toInt from by omega)) (by omega))⟩) hP hD
  have hL0 : (0 : Int32).toInt = 0 := by decide
  have hP : va_P g.1 vwCl (List.flatten [bFo g fo o lo od, bLaw g lo lc lz ll lm lg ld fc, bTown g od ad pe wo tx ch jo tr dy sd h_1, bTown g o a pe wo tx ch jo tr dy sd f]) H := hP
  have hD : va_D A (List.flatten [bFo g fo o lo od, bLaw g lo lc lz ll lm lg ld fc, bTown g od ad pe wo tx ch jo tr dy sd h_1, bTown g o a pe wo tx ch jo tr dy sd f]) := hD
  exact LP13_14 _ 0 lm lg ld ch dy sd h_1 (by decide) rh_1 (zGoC_0 hq2_1 (by decide)) (zFst_0 rfl (by decide)) H _ ls (Nat.lt_succ_self _)  hP hD hS (lv_sub hl [0, 1, 2] rfl)
set_option maxRecDepth 100000 in
set_option maxHeartbeats 4000000 in
theorem c_x_reachesC (l : Launch) (hfl : l.stackTraces = false) (g : zG) (x : Nat) (ta : Nat) (o : Nat) (lo : Nat) (go : Nat) (tt : Nat) (lt : Nat) (mo : Nat) (fo : Nat) (ro : Nat) (fl9 : Int32) (a : Nat → Nat) (pe : Int32) (wo : Int32) (tx : Int32) (ch : Int32) (jo : Int32) (tr : Int32) (dy : Int32) (sd : Int32) (f : Nat → Nat → Int32) (lc : Nat) (lz : Int32) (ll : Int32) (lm : Int32) (lg : Int32) (ld : Int32) (fc : Nat → Int32) (oD : Nat) (aD : Nat → Nat) (peD : Int32) (woD : Int32) (txD : Int32) (chD : Int32) (joD : Int32) (trD : Int32) (dyD : Int32) (sdD : Int32) (fD : Nat → Nat → Int32) (n : Int32) (b_pe : 0 ≤ pe.toInt ∧ pe.toInt ≤ 8) (b_wo : 0 ≤ wo.toInt ∧ wo.toInt ≤ 6) (rf : zZ4 f) (b_lz : 0 ≤ lz.toInt ∧ lz.toInt ≤ 400) (b_peD : 0 ≤ peD.toInt ∧ peD.toInt ≤ 8) (b_woD : 0 ≤ woD.toInt ∧ woD.toInt ≤ 6) (rfD : zZ4 fD) : zX' g l yX11_reaches (Cond.code yX11_reaches cX11_reaches 2 (some .int) :: zB) ({ frames := 7, cells := 1, slots := 6, locals := 150 } : Room) [.ref x, .int n] [bDR g x ta o lo go tt lt mo fo ro fl9, bFo g fo o lo oD, bTown g o a pe wo tx ch jo tr dy sd f, bLaw g lo lc lz ll lm lg ld fc, bTown g oD aD peD woD txD chD joD trD dyD sdD fD] (fun u : Int32 × Int32 × Int32 × Int32 × Int32 × Int32 × Int32 × Int32 × Int32 × Int32 × Int32 × (Nat → Nat → Int32) × Int32 => (fun (lm2 : Int32) (lg2 : Int32) (ld2 : Int32) (peD2 : Int32) (woD2 : Int32) (txD2 : Int32) (chD2 : Int32) (joD2 : Int32) (trD2 : Int32) (dyD2 : Int32) (sdD2 : Int32) (fD2 : Nat → Nat → Int32) (q : Int32) => some (.int q)) (u.1) (u.2.1) (u.2.2.1) (u.2.2.2.1) (u.2.2.2.2.1) (u.2.2.2.2.2.1) (u.2.2.2.2.2.2.1) (u.2.2.2.2.2.2.2.1) (u.2.2.2.2.2.2.2.2.1) (u.2.2.2.2.2.2.2.2.2.1) (u.2.2.2.2.2.2.2.2.2.2.1) (u.2.2.2.2.2.2.2.2.2.2.2.1) (u.2.2.2.2.2.2.2.2.2.2.2.2)) (fun u : Int32 × Int32 × Int32 × Int32 × Int32 × Int32 × Int32 × Int32 × Int32 × Int32 × Int32 × (Nat → Nat → Int32) × Int32 => (fun (lm2 : Int32) (lg2 : Int32) (ld2 : Int32) (peD2 : Int32) (woD2 : Int32) (txD2 : Int32) (chD2 : Int32) (joD2 : Int32) (trD2 : Int32) (dyD2 : Int32) (sdD2 : Int32) (fD2 : Nat → Nat → Int32) (q : Int32) => (0 ≤ peD2.toInt ∧ peD2.toInt ≤ 8) ∧ (0 ≤ woD2.toInt ∧ woD2.toInt ≤ 6) ∧ (zZ4 fD2) ∧ ((0, q) = zdReach (zLwR fc lz ll) n (pe, wo, tx, ch, jo, tr, dy, sd, f))) (u.1) (u.2.1) (u.2.2.1) (u.2.2.2.1) (u.2.2.2.2.1) (u.2.2.2.2.2.1) (u.2.2.2.2.2.2.1) (u.2.2.2.2.2.2.2.1) (u.2.2.2.2.2.2.2.2.1) (u.2.2.2.2.2.2.2.2.2.1) (u.2.2.2.2.2.2.2.2.2.2.1) (u.2.2.2.2.2.2.2.2.2.2.2.1) (u.2.2.2.2.2.2.2.2.2.2.2.2)) (fun u : Int32 × Int32 × Int32 × Int32 × Int32 × Int32 × Int32 × Int32 × Int32 × Int32 × Int32 × (Nat → Nat → Int32) × Int32 => (fun (lm2 : Int32) (lg2 : Int32) (ld2 : Int32) (peD2 : Int32) (woD2 : Int32) (txD2 : Int32) (chD2 : Int32) (joD2 : Int32) (trD2 : Int32) (dyD2 : Int32) (sdD2 : Int32) (fD2 : Nat → Nat → Int32) (q : Int32) => [bDR g x ta o lo go tt lt mo fo ro fl9, bFo g fo o lo oD, bTown g o a pe wo tx ch jo tr dy sd f, bLaw g lo lc lz ll lm2 lg2 ld2 fc, bTown g oD aD peD2 woD2 txD2 chD2 joD2 trD2 dyD2 sdD2 fD2]) (u.1) (u.2.1) (u.2.2.1) (u.2.2.2.1) (u.2.2.2.2.1) (u.2.2.2.2.2.1) (u.2.2.2.2.2.2.1) (u.2.2.2.2.2.2.2.1) (u.2.2.2.2.2.2.2.2.1) (u.2.2.2.2.2.2.2.2.2.1) (u.2.2.2.2.2.2.2.2.2.2.1) (u.2.2.2.2.2.2.2.2.2.2.2.1) (u.2.2.2.2.2.2.2.2.2.2.2.2)) (fun (E : String) => fun u : Int32 × Int32 × Int32 × Int32 × Int32 × Int32 × Int32 × Int32 × Int32 × Int32 × Int32 × (Nat → Nat → Int32) => (fun (lm2 : Int32) (lg2 : Int32) (ld2 : Int32) (peD2 : Int32) (woD2 : Int32) (txD2 : Int32) (chD2 : Int32) (joD2 : Int32) (trD2 : Int32) (dyD2 : Int32) (sdD2 : Int32) (fD2 : Nat → Nat → Int32) => (E = "java/lang/IllegalArgumentException") ∧ (0 ≤ peD2.toInt ∧ peD2.toInt ≤ 8) ∧ (0 ≤ woD2.toInt ∧ woD2.toInt ≤ 6) ∧ (zZ4 fD2) ∧ (E = "java/lang/IllegalArgumentException" → (1, 0) = zdReach (zLwR fc lz ll) n (pe, wo, tx, ch, jo, tr, dy, sd, f))) (u.1) (u.2.1) (u.2.2.1) (u.2.2.2.1) (u.2.2.2.2.1) (u.2.2.2.2.2.1) (u.2.2.2.2.2.2.1) (u.2.2.2.2.2.2.2.1) (u.2.2.2.2.2.2.2.2.1) (u.2.2.2.2.2.2.2.2.2.1) (u.2.2.2.2.2.2.2.2.2.2.1) (u.2.2.2.2.2.2.2.2.2.2.2)) (fun u : Int32 × Int32 × Int32 × Int32 × Int32 × Int32 × Int32 × Int32 × Int32 × Int32 × Int32 × (Nat → Nat → Int32) => (fun (lm2 : Int32) (lg2 : Int32) (ld2 : Int32) (peD2 : Int32) (woD2 : Int32) (txD2 : Int32) (chD2 : Int32) (joD2 : Int32) (trD2 : Int32) (dyD2 : Int32) (sdD2 : Int32) (fD2 : Nat → Nat → Int32) => [bDR g x ta o lo go tt lt mo fo ro fl9, bFo g fo o lo oD, bTown g o a pe wo tx ch jo tr dy sd f, bLaw g lo lc lz ll lm2 lg2 ld2 fc, bTown g oD aD peD2 woD2 txD2 chD2 joD2 trD2 dyD2 sdD2 fD2]) (u.1) (u.2.1) (u.2.2.1) (u.2.2.2.1) (u.2.2.2.2.1) (u.2.2.2.2.2.1) (u.2.2.2.2.2.2.1) (u.2.2.2.2.2.2.2.1) (u.2.2.2.2.2.2.2.2.1) (u.2.2.2.2.2.2.2.2.2.1) (u.2.2.2.2.2.2.2.2.2.2.1) (u.2.2.2.2.2.2.2.2.2.2.2)) := by
  refine zX'.of (cc := cX11_reaches) (maxL := 2) (rt := (some .int)) (by decide) rfl (Nat.le_of_ble_eq_true rfl) ?_
  intro p e s m args below meth c A ls St hr hlocks htab hin hK hT hA hP hD hS hl
  obtain ⟨hx, hb, hml, hown, hts⟩ := id St
  have hl : lv_has ls 2 [(0, .ref x), (1, .int n)] := hl
  refine lv_aload_n hx hb dX11_reaches_0 rfl (lv_at hl 0 rfl) ?_
  refine lv_iload_n hx hb dX11_reaches_1 rfl (lv_at hl 1 rfl) ?_
  refine lv_iconst (v := 1) hx hb dX11_reaches_2 (by decide) ?_
  refine lv_sipush (v := 792) hx hb dX11_reaches_3 (by decide) ?_
  refine xcallV' (g := g) (q0 := 0) (ci := 9) (As := [.int n, .int 1, .int 792]) (rest := []) St hK hT hA hP hD hS hl.1 [0] [1, 2, 3, 4] rfl rfl rfl (c_x_nwE_1_792 l hfl g x ta o lo go tt lt mo fo ro fl9 n ) (cwV 3 hts (zgL (zl4 k668 k669 k670 k621) k667) rfl rfl rfl (by decide +kernel) ⟨Nat.le_of_ble_eq_true rfl, Nat.le_of_ble_eq_true rfl⟩) rfl rfl rfl rfl (Nat.le_of_ble_eq_true rfl) dX11_reaches_6 ⟨(Nat.le_of_ble_eq_true rfl), (Nat.le_of_ble_eq_true rfl)⟩ (fun E ce q9 u9 H locs hpx hP hD hS hce hcv hcl => ?_) (fun _u H locs hq1 hP hD hS => ?_)
  · skip
    have hpx : (E = "java/lang/IllegalArgumentException") ∧ (¬ (1 ≤ n.toInt ∧ n.toInt ≤ 792)) := hpx
    have hP : va_P g.1 vwCl (List.flatten [bFo g fo o lo oD, bTown g o a pe wo tx ch jo tr dy sd f, bLaw g lo lc lz ll lm lg ld fc, bTown g oD aD peD woD txD chD joD trD dyD sdD fD, bDR g x ta o lo go tt lt mo fo ro fl9]) H := hP
    have hD : va_D A (List.flatten [bFo g fo o lo oD, bTown g o a pe wo tx ch jo tr dy sd f, bLaw g lo lc lz ll lm lg ld fc, bTown g oD aD peD woD txD chD joD trD dyD sdD fD, bDR g x ta o lo go tt lt mo fo ro fl9]) := hD
    obtain ⟨hE9, hy2⟩ := hpx
    have hP : va_P g.1 vwCl (List.flatten [bFo g fo o lo oD, bTown g o a pe wo tx ch jo tr dy sd f, bLaw g lo lc lz ll lm lg ld fc, bTown g oD aD peD woD txD chD joD trD dyD sdD fD, bDR g x ta o lo go tt lt mo fo ro fl9]) H := hP
    have hD : va_D A (List.flatten [bFo g fo o lo oD, bTown g o a pe wo tx ch jo tr dy sd f, bLaw g lo lc lz ll lm lg ld fc, bTown g oD aD peD woD txD chD joD trD dyD sdD fD, bDR g x ta o lo go tt lt mo fo ro fl9]) := hD
    obtain ⟨hP, hD⟩ := zord (g := g) (Bs' := [bDR g x ta o lo go tt lt mo fo ro fl9, bFo g fo o lo oD, bTown g o a pe wo tx ch jo tr dy sd f, bLaw g lo lc lz ll lm lg ld fc, bTown g oD aD peD woD txD chD joD trD dyD sdD fD]) [4, 0, 1, 2, 3] rfl rfl hP hD
    exact zout htab hlocks hS (Nat.le_of_ble_eq_true rfl) (Nat.le_of_ble_eq_true rfl) hce hcv hcl (lm, lg, ld, peD, woD, txD, chD, joD, trD, dyD, sdD, fD) (show (E = "java/lang/IllegalArgumentException") ∧ (0 ≤ peD.toInt ∧ peD.toInt ≤ 8) ∧ (0 ≤ woD.toInt ∧ woD.toInt ≤ 6) ∧ (zZ4 fD) ∧ (E = "java/lang/IllegalArgumentException" → (1, 0) = zdReach (zLwR fc lz ll) n (pe, wo, tx, ch, jo, tr, dy, sd, f)) from ⟨hE9, (show 0 ≤ peD.toInt ∧ peD.toInt ≤ 8 from b_peD), (show 0 ≤ woD.toInt ∧ woD.toInt ≤ 6 from b_woD), (show zZ4 fD from rfD), (show E = "java/lang/IllegalArgumentException" → (1, 0) = zdReach (zLwR fc lz ll) n (pe, wo, tx, ch, jo, tr, dy, sd, f) from (fun h9 => zdReach_c1 hy2))⟩) hP hD
  · skip
    replace hq1 : (1 ≤ n.toInt ∧ n.toInt ≤ 792) := hq1
    have hP : va_P g.1 vwCl (List.flatten [bFo g fo o lo oD, bTown g o a pe wo tx ch jo tr dy sd f, bLaw g lo lc lz ll lm lg ld fc, bTown g oD aD peD woD txD chD joD trD dyD sdD fD, bDR g x ta o lo go tt lt mo fo ro fl9]) H := hP
    have hD : va_D A (List.flatten [bFo g fo o lo oD, bTown g o a pe wo tx ch jo tr dy sd f, bLaw g lo lc lz ll lm lg ld fc, bTown g oD aD peD woD txD chD joD trD dyD sdD fD, bDR g x ta o lo go tt lt mo fo ro fl9]) := hD
    refine W.widen (k := 1) (n := 6) (Nat.le_of_ble_eq_true rfl) (Nat.le_of_ble_eq_true rfl) ?_
    refine W.eq (g2 := F0 m 9 ls []) rfl ?_
    refine lv_aload_n hx hb dX11_reaches_9 rfl (lv_at hl 0 rfl) ?_
    refine va_get (D := g.1) (ci := 9) (v := .ref fo) (C := RX11) (T := TX11) (N := 10) hx hb hts izRX11 hown hK hP 27 rfl rfl 7 (by decide) (hts _ k554) (fun _ h9 => h9) rfl dX11_reaches_10 ?_
    refine lv_iload_n hx hb dX11_reaches_13 rfl (lv_at hl 1 rfl) ?_
    refine mcallV' (g := g) (q0 := 0) (ci := 0) (As := [.int n]) (rest := []) St hK hT hA hP hD hS hl.1 [0, 1, 2, 3] [4] rfl rfl rfl (c_f_firstBelievedC l g fo o lo oD a pe wo tx ch jo tr dy sd f lc lz ll lm lg ld fc aD peD woD txD chD joD trD dyD sdD fD n b_pe b_wo rf b_lz b_peD b_woD rfD) (cwV 1 hts (zgL (zl4 k697 k698 k699 k169) k174) rfl rfl rfl (by decide +kernel) ⟨Nat.le_of_ble_eq_true rfl, Nat.le_of_ble_eq_true rfl⟩) rfl rfl rfl rfl (Nat.le_of_ble_eq_true rfl) dX11_reaches_14 ⟨(Nat.le_of_ble_eq_true rfl), (Nat.le_of_ble_eq_true rfl)⟩ (fun u_ H locs hq16 hP hD hS => ?_)
    obtain ⟨lm2_3, lg2_4, ld2_5, pe3_6, wo3_7, tx3_8, ch3_9, jo3_10, tr3_11, dy3_12, sd3_13, f3_14, q_15⟩ := u_
    replace hq16 : (0 ≤ pe3_6.toInt ∧ pe3_6.toInt ≤ 8) ∧ (0 ≤ wo3_7.toInt ∧ wo3_7.toInt ≤ 6) ∧ (zZ4 f3_14) ∧ (q_15 = zFst (zPre (zLwR fc lz ll) n (pe, wo, tx, ch, jo, tr, dy, sd, f)) 101) := hq16
    have hP : va_P g.1 vwCl (List.flatten [bDR g x ta o lo go tt lt mo fo ro fl9, bFo g fo o lo oD, bTown g o a pe wo tx ch jo tr dy sd f, bLaw g lo lc lz ll lm2_3 lg2_4 ld2_5 fc, bTown g oD aD pe3_6 wo3_7 tx3_8 ch3_9 jo3_10 tr3_11 dy3_12 sd3_13 f3_14]) H := hP
    have hD : va_D A (List.flatten [bDR g x ta o lo go tt lt mo fo ro fl9, bFo g fo o lo oD, bTown g o a pe wo tx ch jo tr dy sd f, bLaw g lo lc lz ll lm2_3 lg2_4 ld2_5 fc, bTown g oD aD pe3_6 wo3_7 tx3_8 ch3_9 jo3_10 tr3_11 dy3_12 sd3_13 f3_14]) := hD
    refine W.widen (k := 1) (n := 6) (Nat.le_of_ble_eq_true rfl) (Nat.le_of_ble_eq_true rfl) ?_
    refine W.eq (g2 := F0 m 17 ls [.int q_15]) rfl ?_
    obtain ⟨hq16_0, hq16_1, rf3_14, hq16_3⟩ := hq16
    have hP : va_P g.1 vwCl (List.flatten [bDR g x ta o lo go tt lt mo fo ro fl9, bFo g fo o lo oD, bTown g o a pe wo tx ch jo tr dy sd f, bLaw g lo lc lz ll lm2_3 lg2_4 ld2_5 fc, bTown g oD aD pe3_6 wo3_7 tx3_8 ch3_9 jo3_10 tr3_11 dy3_12 sd3_13 f3_14]) H := hP
    have hD : va_D A (List.flatten [bDR g x ta o lo go tt lt mo fo ro fl9, bFo g fo o lo oD, bTown g o a pe wo tx ch jo tr dy sd f, bLaw g lo lc lz ll lm2_3 lg2_4 ld2_5 fc, bTown g oD aD pe3_6 wo3_7 tx3_8 ch3_9 jo3_10 tr3_11 dy3_12 sd3_13 f3_14]) := hD
    exact zret_i hx hb hr hlocks hS (Nat.le_of_ble_eq_true rfl) (Nat.le_of_ble_eq_true rfl) dX11_reaches_17 (lm2_3, lg2_4, ld2_5, pe3_6, wo3_7, tx3_8, ch3_9, jo3_10, tr3_11, dy3_12, sd3_13, f3_14, q_15) rfl (show (0 ≤ pe3_6.toInt ∧ pe3_6.toInt ≤ 8) ∧ (0 ≤ wo3_7.toInt ∧ wo3_7.toInt ≤ 6) ∧ (zZ4 f3_14) ∧ ((0, q_15) = zdReach (zLwR fc lz ll) n (pe, wo, tx, ch, jo, tr, dy, sd, f)) from ⟨(by first | assumption | omega | decide), (by first | assumption | omega | decide), (by first | assumption | omega | decide), (zdReach_c0 (by omega) hq16_3)⟩) hP hD
set_option maxRecDepth 100000 in
set_option maxHeartbeats 4000000 in
theorem l_reachesC (l : Launch) (hfl : l.stackTraces = false) (g : zG) (x : Nat) (ta : Nat) (o : Nat) (lo : Nat) (go : Nat) (tt : Nat) (lt : Nat) (mo : Nat) (fo : Nat) (ro : Nat) (fl9 : Int32) (a : Nat → Nat) (pe : Int32) (wo : Int32) (tx : Int32) (ch : Int32) (jo : Int32) (tr : Int32) (dy : Int32) (sd : Int32) (f : Nat → Nat → Int32) (lc : Nat) (lz : Int32) (ll : Int32) (lm : Int32) (lg : Int32) (ld : Int32) (fc : Nat → Int32) (oD : Nat) (aD : Nat → Nat) (peD : Int32) (woD : Int32) (txD : Int32) (chD : Int32) (joD : Int32) (trD : Int32) (dyD : Int32) (sdD : Int32) (fD : Nat → Nat → Int32) (oa : Nat) (fz : Nat → Int64) (n : Int32) (b_pe : 0 ≤ pe.toInt ∧ pe.toInt ≤ 8) (b_wo : 0 ≤ wo.toInt ∧ wo.toInt ≤ 6) (rf : zZ4 f) (b_lz : 0 ≤ lz.toInt ∧ lz.toInt ≤ 400) (b_peD : 0 ≤ peD.toInt ∧ peD.toInt ≤ 8) (b_woD : 0 ≤ woD.toInt ∧ woD.toInt ≤ 6) (rfD : zZ4 fD) : zX' g l yL_reaches (Cond.codeWith yL_reaches cL_reaches 4 (some .int) [(0, 9, 12, 13)] :: zB) ({ frames := 8, cells := 1, slots := 6, locals := 171 } : Room) [.ref x, .int n, .ref oa] [bDR g x ta o lo go tt lt mo fo ro fl9, bFo g fo o lo oD, bTown g o a pe wo tx ch jo tr dy sd f, bLaw g lo lc lz ll lm lg ld fc, bTown g oD aD peD woD txD chD joD trD dyD sdD fD, bOut g oa fz] (fun u : Int32 × Int32 × Int32 × Int32 × Int32 × Int32 × Int32 × Int32 × Int32 × Int32 × Int32 × (Nat → Nat → Int32) × (Nat → Int64) × Int32 × Int32 => (fun (lm2 : Int32) (lg2 : Int32) (ld2 : Int32) (peD2 : Int32) (woD2 : Int32) (txD2 : Int32) (chD2 : Int32) (joD2 : Int32) (trD2 : Int32) (dyD2 : Int32) (sdD2 : Int32) (fD2 : Nat → Nat → Int32) (fz2 : Nat → Int64) (q : Int32) (a9 : Int32) => some (.int q)) (u.1) (u.2.1) (u.2.2.1) (u.2.2.2.1) (u.2.2.2.2.1) (u.2.2.2.2.2.1) (u.2.2.2.2.2.2.1) (u.2.2.2.2.2.2.2.1) (u.2.2.2.2.2.2.2.2.1) (u.2.2.2.2.2.2.2.2.2.1) (u.2.2.2.2.2.2.2.2.2.2.1) (u.2.2.2.2.2.2.2.2.2.2.2.1) (u.2.2.2.2.2.2.2.2.2.2.2.2.1) (u.2.2.2.2.2.2.2.2.2.2.2.2.2.1) (u.2.2.2.2.2.2.2.2.2.2.2.2.2.2)) (fun u : Int32 × Int32 × Int32 × Int32 × Int32 × Int32 × Int32 × Int32 × Int32 × Int32 × Int32 × (Nat → Nat → Int32) × (Nat → Int64) × Int32 × Int32 => (fun (lm2 : Int32) (lg2 : Int32) (ld2 : Int32) (peD2 : Int32) (woD2 : Int32) (txD2 : Int32) (chD2 : Int32) (joD2 : Int32) (trD2 : Int32) (dyD2 : Int32) (sdD2 : Int32) (fD2 : Nat → Nat → Int32) (fz2 : Nat → Int64) (q : Int32) (a9 : Int32) => (0 ≤ peD2.toInt ∧ peD2.toInt ≤ 8) ∧ (0 ≤ woD2.toInt ∧ woD2.toInt ≤ 6) ∧ (zZ4 fD2) ∧ ((q, a9) = zdReach (zLwR fc lz ll) n (pe, wo, tx, ch, jo, tr, dy, sd, f)) ∧ (q.toInt = 0 → fz2 0 = Int32.toInt64 a9)) (u.1) (u.2.1) (u.2.2.1) (u.2.2.2.1) (u.2.2.2.2.1) (u.2.2.2.2.2.1) (u.2.2.2.2.2.2.1) (u.2.2.2.2.2.2.2.1) (u.2.2.2.2.2.2.2.2.1) (u.2.2.2.2.2.2.2.2.2.1) (u.2.2.2.2.2.2.2.2.2.2.1) (u.2.2.2.2.2.2.2.2.2.2.2.1) (u.2.2.2.2.2.2.2.2.2.2.2.2.1) (u.2.2.2.2.2.2.2.2.2.2.2.2.2.1) (u.2.2.2.2.2.2.2.2.2.2.2.2.2.2)) (fun u : Int32 × Int32 × Int32 × Int32 × Int32 × Int32 × Int32 × Int32 × Int32 × Int32 × Int32 × (Nat → Nat → Int32) × (Nat → Int64) × Int32 × Int32 => (fun (lm2 : Int32) (lg2 : Int32) (ld2 : Int32) (peD2 : Int32) (woD2 : Int32) (txD2 : Int32) (chD2 : Int32) (joD2 : Int32) (trD2 : Int32) (dyD2 : Int32) (sdD2 : Int32) (fD2 : Nat → Nat → Int32) (fz2 : Nat → Int64) (q : Int32) (a9 : Int32) => [bDR g x ta o lo go tt lt mo fo ro fl9, bFo g fo o lo oD, bTown g o a pe wo tx ch jo tr dy sd f, bLaw g lo lc lz ll lm2 lg2 ld2 fc, bTown g oD aD peD2 woD2 txD2 chD2 joD2 trD2 dyD2 sdD2 fD2, bOut g oa fz2]) (u.1) (u.2.1) (u.2.2.1) (u.2.2.2.1) (u.2.2.2.2.1) (u.2.2.2.2.2.1) (u.2.2.2.2.2.2.1) (u.2.2.2.2.2.2.2.1) (u.2.2.2.2.2.2.2.2.1) (u.2.2.2.2.2.2.2.2.2.1) (u.2.2.2.2.2.2.2.2.2.2.1) (u.2.2.2.2.2.2.2.2.2.2.2.1) (u.2.2.2.2.2.2.2.2.2.2.2.2.1) (u.2.2.2.2.2.2.2.2.2.2.2.2.2.1) (u.2.2.2.2.2.2.2.2.2.2.2.2.2.2)) zNo zN0 := by
  refine zX'.ofH (cc := cL_reaches) (maxL := 4) (rt := (some .int)) (by decide) rfl (Nat.le_of_ble_eq_true rfl) ?_
  intro p e s m args below meth c A ls St hr hlocks htab hin hK hT hA hP hD hS hl
  obtain ⟨hx, hb, hml, hown, hts⟩ := id St
  have hl : lv_has ls 4 [(0, .ref x), (1, .int n), (2, .ref oa)] := hl
  refine lv_aload_n hx hb dL_reaches_0 rfl (lv_at hl 2 rfl) ?_
  refine lv_iconst (v := 0) hx hb dL_reaches_1 (by decide) ?_
  refine lv_aload_n hx hb dL_reaches_2 rfl (lv_at hl 0 rfl) ?_
  refine lv_iload_n hx hb dL_reaches_3 rfl (lv_at hl 1 rfl) ?_
  refine xcallV' (g := g) (q0 := 0) (ci := 9) (As := [.int n]) (rest := [.int 0, .ref oa]) St hK hT hA hP hD hS hl.1 [0, 1, 2, 3, 4] [5] rfl rfl rfl (c_x_reachesC l hfl g x ta o lo go tt lt mo fo ro fl9 a pe wo tx ch jo tr dy sd f lc lz ll lm lg ld fc oD aD peD woD txD chD joD trD dyD sdD fD n b_pe b_wo rf b_lz b_peD b_woD rfD) (cwV 1 hts (zgL (zl4 k1232 k1233 k1234 k621) k700) rfl rfl rfl (by decide +kernel) ⟨Nat.le_of_ble_eq_true rfl, Nat.le_of_ble_eq_true rfl⟩) rfl rfl rfl rfl (Nat.le_of_ble_eq_true rfl) dL_reaches_4 ⟨(Nat.le_of_ble_eq_true rfl), (Nat.le_of_ble_eq_true rfl)⟩ (fun E ce q9 u9 H locs hpx hP hD hS hce hcv hcl => ?_) (fun u_ H locs hq14 hP hD hS => ?_)
  · skip
    obtain ⟨lm2_15, lg2_16, ld2_17, peD2_18, woD2_19, txD2_20, chD2_21, joD2_22, trD2_23, dyD2_24, sdD2_25, fD2_26⟩ := u9
    have hpx : (E = "java/lang/IllegalArgumentException") ∧ (0 ≤ peD2_18.toInt ∧ peD2_18.toInt ≤ 8) ∧ (0 ≤ woD2_19.toInt ∧ woD2_19.toInt ≤ 6) ∧ (zZ4 fD2_26) ∧ (E = "java/lang/IllegalArgumentException" → (1, 0) = zdReach (zLwR fc lz ll) n (pe, wo, tx, ch, jo, tr, dy, sd, f)) := hpx
    have hP : va_P g.1 vwCl (List.flatten [bOut g oa fz, bDR g x ta o lo go tt lt mo fo ro fl9, bFo g fo o lo oD, bTown g o a pe wo tx ch jo tr dy sd f, bLaw g lo lc lz ll lm2_15 lg2_16 ld2_17 fc, bTown g oD aD peD2_18 woD2_19 txD2_20 chD2_21 joD2_22 trD2_23 dyD2_24 sdD2_25 fD2_26]) H := hP
    have hD : va_D A (List.flatten [bOut g oa fz, bDR g x ta o lo go tt lt mo fo ro fl9, bFo g fo o lo oD, bTown g o a pe wo tx ch jo tr dy sd f, bLaw g lo lc lz ll lm2_15 lg2_16 ld2_17 fc, bTown g oD aD peD2_18 woD2_19 txD2_20 chD2_21 joD2_22 trD2_23 dyD2_24 sdD2_25 fD2_26]) := hD
    obtain ⟨hE9, hy27, hy28, rfD2_26, hy29⟩ := hpx
    obtain rfl := hE9
    refine vx_catch hown [] ⟨0, 9, 12, 13⟩ [] (by rw [htab]; rfl) (fun z hz => absurd hz List.not_mem_nil) (by decide) (by decide) (hts _ k1155) ((hT.1.2.2.2.2.1 _ (List.mem_of_getElem? (i := 1) rfl)).use) hce hcv hcl ?_
    refine W.widen (k := 1) (n := 6) (Nat.le_of_ble_eq_true rfl) (Nat.le_of_ble_eq_true rfl) ?_
    refine lv_astore_n (lv' := [(3, .ref q9), (0, .ref x), (1, .int n), (2, .ref oa)]) hx hb dL_reaches_12 rfl hl (by decide) rfl (fun ls hl => ?_)
    refine lv_iconst (v := 1) hx hb dL_reaches_13 (by decide) ?_
    have hL1 : (1 : Int32).toInt = 1 := by decide
    have hP : va_P g.1 vwCl (List.flatten [bOut g oa fz, bDR g x ta o lo go tt lt mo fo ro fl9, bFo g fo o lo oD, bTown g o a pe wo tx ch jo tr dy sd f, bLaw g lo lc lz ll lm2_15 lg2_16 ld2_17 fc, bTown g oD aD peD2_18 woD2_19 txD2_20 chD2_21 joD2_22 trD2_23 dyD2_24 sdD2_25 fD2_26]) H := hP
    have hD : va_D A (List.flatten [bOut g oa fz, bDR g x ta o lo go tt lt mo fo ro fl9, bFo g fo o lo oD, bTown g o a pe wo tx ch jo tr dy sd f, bLaw g lo lc lz ll lm2_15 lg2_16 ld2_17 fc, bTown g oD aD peD2_18 woD2_19 txD2_20 chD2_21 joD2_22 trD2_23 dyD2_24 sdD2_25 fD2_26]) := hD
    obtain ⟨hP, hD⟩ := zord (g := g) (Bs' := [bDR g x ta o lo go tt lt mo fo ro fl9, bFo g fo o lo oD, bTown g o a pe wo tx ch jo tr dy sd f, bLaw g lo lc lz ll lm2_15 lg2_16 ld2_17 fc, bTown g oD aD peD2_18 woD2_19 txD2_20 chD2_21 joD2_22 trD2_23 dyD2_24 sdD2_25 fD2_26, bOut g oa fz]) [1, 2, 3, 4, 5, 0] rfl rfl hP hD
    exact zret_i hx hb hr hlocks hS (Nat.le_of_ble_eq_true rfl) (Nat.le_of_ble_eq_true rfl) dL_reaches_14 (lm2_15, lg2_16, ld2_17, peD2_18, woD2_19, txD2_20, chD2_21, joD2_22, trD2_23, dyD2_24, sdD2_25, fD2_26, fz, (1 : Int32), (0 : Int32)) rfl (show (0 ≤ peD2_18.toInt ∧ peD2_18.toInt ≤ 8) ∧ (0 ≤ woD2_19.toInt ∧ woD2_19.toInt ≤ 6) ∧ (zZ4 fD2_26) ∧ ((1, 0) = zdReach (zLwR fc lz ll) n (pe, wo, tx, ch, jo, tr, dy, sd, f)) ∧ ((1 : Int32).toInt = 0 → fz 0 = Int32.toInt64 0) from ⟨(by first | assumption | omega | decide), (by first | assumption | omega | decide), (by first | assumption | omega | decide), (hy29 rfl), (fun h9 => absurd h9 (by decide))⟩) hP hD
  · skip
    obtain ⟨lm2_1, lg2_2, ld2_3, peD2_4, woD2_5, txD2_6, chD2_7, joD2_8, trD2_9, dyD2_10, sdD2_11, fD2_12, q_13⟩ := u_
    replace hq14 : (0 ≤ peD2_4.toInt ∧ peD2_4.toInt ≤ 8) ∧ (0 ≤ woD2_5.toInt ∧ woD2_5.toInt ≤ 6) ∧ (zZ4 fD2_12) ∧ ((0, q_13) = zdReach (zLwR fc lz ll) n (pe, wo, tx, ch, jo, tr, dy, sd, f)) := hq14
    have hP : va_P g.1 vwCl (List.flatten [bOut g oa fz, bDR g x ta o lo go tt lt mo fo ro fl9, bFo g fo o lo oD, bTown g o a pe wo tx ch jo tr dy sd f, bLaw g lo lc lz ll lm2_1 lg2_2 ld2_3 fc, bTown g oD aD peD2_4 woD2_5 txD2_6 chD2_7 joD2_8 trD2_9 dyD2_10 sdD2_11 fD2_12]) H := hP
    have hD : va_D A (List.flatten [bOut g oa fz, bDR g x ta o lo go tt lt mo fo ro fl9, bFo g fo o lo oD, bTown g o a pe wo tx ch jo tr dy sd f, bLaw g lo lc lz ll lm2_1 lg2_2 ld2_3 fc, bTown g oD aD peD2_4 woD2_5 txD2_6 chD2_7 joD2_8 trD2_9 dyD2_10 sdD2_11 fD2_12]) := hD
    refine W.widen (k := 1) (n := 6) (Nat.le_of_ble_eq_true rfl) (Nat.le_of_ble_eq_true rfl) ?_
    refine W.eq (g2 := F0 m 7 ls [.int q_13, .int 0, .ref oa]) rfl ?_
    obtain ⟨hq14_0, hq14_1, rfD2_12, hq14_3⟩ := hq14
    refine lv_i2l (v := (q_13 : Int32).toInt64) hx hb dL_reaches_7 rfl ?_
    refine va_last hx hb hK hP hD hS 0 2 rfl rfl (zin rfl) dL_reaches_8 (fun H locs hP hD hS => ?_)
    have hP : va_P g.1 vwCl (List.flatten [[(oa, .inl (g.2 2, 1, .inr (.inl (vp_updL fz 0 ((q_13 : Int32).toInt64)))))], bDR g x ta o lo go tt lt mo fo ro fl9, bFo g fo o lo oD, bTown g o a pe wo tx ch jo tr dy sd f, bLaw g lo lc lz ll lm2_1 lg2_2 ld2_3 fc, bTown g oD aD peD2_4 woD2_5 txD2_6 chD2_7 joD2_8 trD2_9 dyD2_10 sdD2_11 fD2_12]) H := hP
    have hD : va_D A (List.flatten [[(oa, .inl (g.2 2, 1, .inr (.inl (vp_updL fz 0 ((q_13 : Int32).toInt64)))))], bDR g x ta o lo go tt lt mo fo ro fl9, bFo g fo o lo oD, bTown g o a pe wo tx ch jo tr dy sd f, bLaw g lo lc lz ll lm2_1 lg2_2 ld2_3 fc, bTown g oD aD peD2_4 woD2_5 txD2_6 chD2_7 joD2_8 trD2_9 dyD2_10 sdD2_11 fD2_12]) := hD
    refine lv_goto (tgt := 15) hx hb dL_reaches_9 (by decide) ?_
    refine lv_iconst (v := 0) hx hb dL_reaches_15 (by decide) ?_
    have hL0 : (0 : Int32).toInt = 0 := by decide
    have hP : va_P g.1 vwCl (List.flatten [bOut g oa (vp_updL fz 0 ((q_13 : Int32).toInt64)), bDR g x ta o lo go tt lt mo fo ro fl9, bFo g fo o lo oD, bTown g o a pe wo tx ch jo tr dy sd f, bLaw g lo lc lz ll lm2_1 lg2_2 ld2_3 fc, bTown g oD aD peD2_4 woD2_5 txD2_6 chD2_7 joD2_8 trD2_9 dyD2_10 sdD2_11 fD2_12]) H := hP
    have hD : va_D A (List.flatten [bOut g oa (vp_updL fz 0 ((q_13 : Int32).toInt64)), bDR g x ta o lo go tt lt mo fo ro fl9, bFo g fo o lo oD, bTown g o a pe wo tx ch jo tr dy sd f, bLaw g lo lc lz ll lm2_1 lg2_2 ld2_3 fc, bTown g oD aD peD2_4 woD2_5 txD2_6 chD2_7 joD2_8 trD2_9 dyD2_10 sdD2_11 fD2_12]) := hD
    obtain ⟨hP, hD⟩ := zord (g := g) (Bs' := [bDR g x ta o lo go tt lt mo fo ro fl9, bFo g fo o lo oD, bTown g o a pe wo tx ch jo tr dy sd f, bLaw g lo lc lz ll lm2_1 lg2_2 ld2_3 fc, bTown g oD aD peD2_4 woD2_5 txD2_6 chD2_7 joD2_8 trD2_9 dyD2_10 sdD2_11 fD2_12, bOut g oa (vp_updL fz 0 ((q_13 : Int32).toInt64))]) [1, 2, 3, 4, 5, 0] rfl rfl hP hD
    exact zret_i hx hb hr hlocks hS (Nat.le_of_ble_eq_true rfl) (Nat.le_of_ble_eq_true rfl) dL_reaches_16 (lm2_1, lg2_2, ld2_3, peD2_4, woD2_5, txD2_6, chD2_7, joD2_8, trD2_9, dyD2_10, sdD2_11, fD2_12, vp_updL fz 0 ((q_13 : Int32).toInt64), (0 : Int32), q_13) rfl (show (0 ≤ peD2_4.toInt ∧ peD2_4.toInt ≤ 8) ∧ (0 ≤ woD2_5.toInt ∧ woD2_5.toInt ≤ 6) ∧ (zZ4 fD2_12) ∧ ((0, q_13) = zdReach (zLwR fc lz ll) n (pe, wo, tx, ch, jo, tr, dy, sd, f)) ∧ ((0 : Int32).toInt = 0 → (vp_updL fz 0 ((q_13 : Int32).toInt64)) 0 = Int32.toInt64 q_13) from ⟨(by first | assumption | omega | decide), (by first | assumption | omega | decide), (by first | assumption | omega | decide), hq14_3, (fun _ => rfl)⟩) hP hD
set_option maxRecDepth 100000 in
set_option maxHeartbeats 4000000 in
theorem m_reachesEC (l : Launch) (g : zG) (o : Nat) (a : Nat → Nat) (th : Int32) (hi : Int32) (ac : Int32) (tp : Int32) (ba : Int32) (en : Int32) (tA : Int32) (fl : Int32) (de : Int32) (iD : Int32) (iO : Int32) (tU : Int32) (fm : Nat → Int32) (fk : Nat → Int32) (fa : Nat → Int32) (fc : Nat → Int32) (ft : Nat → Int32) (ff : Nat → Int32) (fb : Nat → Int32) (fi : Nat → Int32) (x : Int32) (L : zLw) (rfm : rM fm) (rfa : rM fa) (hiD : 0 ≤ iD.toInt ∧ iD.toInt ≤ 1) (hiO : 0 ≤ iO.toInt ∧ iO.toInt ≤ 1) (hrg : zRg (zV fm)) (hL : zLm L fm) : zM' g l yX12_reaches (Cond.code yX12_reaches cX12_reaches 5 (some .int) :: zB) ({ frames := 33, cells := 0, slots := 0, locals := 736 } : Room) [.ref o, .int x] [bMo g o a th hi ac tp ba en tA fl de iD iO tU fm fk fa fc ft ff fb fi] (fun u : Int32 × (Nat → Int32) × (Nat → Int32) × Int32 × Int32 × Int32 × Int32 × Int32 × Int32 × Int32 × (Nat → Int32) × (Nat → Int32) × Int32 => (fun (th2 : Int32) (fm2 : Nat → Int32) (fa2 : Nat → Int32) (ba2 : Int32) (en2 : Int32) (at2 : Int32) (de2 : Int32) (iD2 : Int32) (iO2 : Int32) (tU2 : Int32) (ff2 : Nat → Int32) (fb2 : Nat → Int32) (q : Int32) => some (.int q)) (u.1) (u.2.1) (u.2.2.1) (u.2.2.2.1) (u.2.2.2.2.1) (u.2.2.2.2.2.1) (u.2.2.2.2.2.2.1) (u.2.2.2.2.2.2.2.1) (u.2.2.2.2.2.2.2.2.1) (u.2.2.2.2.2.2.2.2.2.1) (u.2.2.2.2.2.2.2.2.2.2.1) (u.2.2.2.2.2.2.2.2.2.2.2.1) (u.2.2.2.2.2.2.2.2.2.2.2.2)) (fun u : Int32 × (Nat → Int32) × (Nat → Int32) × Int32 × Int32 × Int32 × Int32 × Int32 × Int32 × Int32 × (Nat → Int32) × (Nat → Int32) × Int32 => (fun (th2 : Int32) (fm2 : Nat → Int32) (fa2 : Nat → Int32) (ba2 : Int32) (en2 : Int32) (at2 : Int32) (de2 : Int32) (iD2 : Int32) (iO2 : Int32) (tU2 : Int32) (ff2 : Nat → Int32) (fb2 : Nat → Int32) (q : Int32) => (0 ≤ iO2.toInt ∧ iO2.toInt ≤ 1) ∧ (0 ≤ iD2.toInt ∧ iD2.toInt ≤ 1) ∧ (rM fa2) ∧ (rM fm2) ∧ ((th2, q) = zdReach L x (zM9 fm)) ∧ (fm = fm2)) (u.1) (u.2.1) (u.2.2.1) (u.2.2.2.1) (u.2.2.2.2.1) (u.2.2.2.2.2.1) (u.2.2.2.2.2.2.1) (u.2.2.2.2.2.2.2.1) (u.2.2.2.2.2.2.2.2.1) (u.2.2.2.2.2.2.2.2.2.1) (u.2.2.2.2.2.2.2.2.2.2.1) (u.2.2.2.2.2.2.2.2.2.2.2.1) (u.2.2.2.2.2.2.2.2.2.2.2.2)) (fun u : Int32 × (Nat → Int32) × (Nat → Int32) × Int32 × Int32 × Int32 × Int32 × Int32 × Int32 × Int32 × (Nat → Int32) × (Nat → Int32) × Int32 => (fun (th2 : Int32) (fm2 : Nat → Int32) (fa2 : Nat → Int32) (ba2 : Int32) (en2 : Int32) (at2 : Int32) (de2 : Int32) (iD2 : Int32) (iO2 : Int32) (tU2 : Int32) (ff2 : Nat → Int32) (fb2 : Nat → Int32) (q : Int32) => [bMo g o a th2 hi ac tp ba2 en2 at2 fl de2 iD2 iO2 tU2 fm2 fk fa2 fc ft ff2 fb2 fi]) (u.1) (u.2.1) (u.2.2.1) (u.2.2.2.1) (u.2.2.2.2.1) (u.2.2.2.2.2.1) (u.2.2.2.2.2.2.1) (u.2.2.2.2.2.2.2.1) (u.2.2.2.2.2.2.2.2.1) (u.2.2.2.2.2.2.2.2.2.1) (u.2.2.2.2.2.2.2.2.2.2.1) (u.2.2.2.2.2.2.2.2.2.2.2.1) (u.2.2.2.2.2.2.2.2.2.2.2.2)) := by
  refine zM'.of (cc := cX12_reaches) (maxL := 5) (rt := (some .int)) (by decide) rfl (Nat.le_of_ble_eq_true rfl) ?_
  intro p e s m args below meth c A ls St hr hlocks hin hK hT hA hP hD hS hl
  obtain ⟨hx, hb, hml, hown, hts⟩ := id St
  have hl : lv_has ls 5 [(0, .ref o), (1, .int x)] := hl
  have hrm3 := rM3 rfm
  have hrm4 := rM4 rfm
  refine lv_aload_n hx hb dX12_reaches_0 rfl (lv_at hl 0 rfl) ?_
  refine lv_iload_n hx hb dX12_reaches_1 rfl (lv_at hl 1 rfl) ?_
  refine lv_iconst (v := 1) hx hb dX12_reaches_2 (by decide) ?_
  refine lv_sipush (v := 792) hx hb dX12_reaches_3 (by decide) ?_
  have hL1 : (1 : Int32).toInt = 1 := by decide
  have hL792 : (792 : Int32).toInt = 792 := by decide
  refine mcallS' (g := g) (As := [.int x, .int 1, .int 792]) (rest := [.ref o]) St hK hT hA hP hD hS hl.1 [] [0] rfl rfl rfl (m_isIn l g x 1 792 ) (va_cwS 3 hts (zgL (zl3 k837 k838 k839) k826) rfl rfl rfl (by decide +kernel) ⟨Nat.le_of_ble_eq_true rfl, Nat.le_of_ble_eq_true rfl⟩) rfl rfl (Nat.le_of_ble_eq_true rfl) dX12_reaches_6 ⟨(Nat.le_of_ble_eq_true rfl), (Nat.le_of_ble_eq_true rfl)⟩ (fun q_1 H locs hq2 hP hD hS => ?_)
  replace hq2 : (q_1 = 1 ∧ (1 : Int32).toInt ≤ x.toInt ∧ x.toInt ≤ (792 : Int32).toInt ∨ q_1 = 0 ∧ (x.toInt < (1 : Int32).toInt ∨ (792 : Int32).toInt < x.toInt)) := hq2
  have hP : va_P g.1 vwCl (List.flatten [bMo g o a th hi ac tp ba en tA fl de iD iO tU fm fk fa fc ft ff fb fi]) H := hP
  have hD : va_D A (List.flatten [bMo g o a th hi ac tp ba en tA fl de iD iO tU fm fk fa fc ft ff fb fi]) := hD
  refine W.widen (k := 0) (n := 0) (Nat.le_of_ble_eq_true rfl) (Nat.le_of_ble_eq_true rfl) ?_
  refine W.eq (g2 := F0 m 9 ls [.int q_1, .ref o]) rfl ?_
  rcases hq2 with ⟨rfl, hq2_k⟩ | ⟨rfl, hq2_k⟩
  · skip
    refine lv_if_ne (tgt := 16) hx hb dX12_reaches_9 (by decide) (fun _ => ?_) (fun c3 => absurd c3 (by decide))
    refine lv_iconst (v := 0) hx hb dX12_reaches_16 (by decide) ?_
    refine va_put (D := g.1) (ci := 10) (v := .int 0) (ty := .int) (C := RX12) (T := TX12) (N := 20) hx hb hts izRX12 tyX12 tyX12_ok nmX12 hown hK hP hD hS 0 rfl rfl 0 (by decide) (hts _ k825) (fun _ h9 => h9) rfl (by decide +kernel) rfl rfl (Nat.le_of_ble_eq_true rfl) dX12_reaches_17 (fun H locs hP hD hS => ?_)
    have hP : va_P g.1 vwCl (List.flatten [bMo g o a 0 hi ac tp ba en tA fl de iD iO tU fm fk fa fc ft ff fb fi]) H := hP
    have hD : va_D A (List.flatten [bMo g o a 0 hi ac tp ba en tA fl de iD iO tU fm fk fa fc ft ff fb fi]) := hD
    refine lv_aload_n hx hb dX12_reaches_20 rfl (lv_at hl 0 rfl) ?_
    refine va_get (D := g.1) (ci := 10) (v := .int 0) (C := RX12) (T := TX12) (N := 20) hx hb hts izRX12 hown hK hP 0 rfl rfl 0 (by decide) (hts _ k825) (fun _ h9 => h9) rfl dX12_reaches_21 ?_
    refine lv_if_le (tgt := 29) hx hb dX12_reaches_24 (by decide) (fun _ => ?_) (fun c4 => absurd (by decide) c4)
    refine lv_aload_n hx hb dX12_reaches_29 rfl (lv_at hl 0 rfl) ?_
    refine mcallV' (g := g) (q0 := 0) (ci := 10) (As := []) (rest := []) St hK hT hA hP hD hS hl.1 [0] [] rfl rfl rfl (m_putsAside l g o a 0 hi ac tp ba en tA fl de iD iO tU fm fk fa fc ft ff fb fi rfm rfa) (cwV 0 hts (zgL (zl4 k975 k976 k977 k839) k972) rfl rfl rfl (by decide +kernel) ⟨Nat.le_of_ble_eq_true rfl, Nat.le_of_ble_eq_true rfl⟩) rfl rfl rfl rfl (Nat.le_of_ble_eq_true rfl) dX12_reaches_30 ⟨(Nat.le_of_ble_eq_true rfl), (Nat.le_of_ble_eq_true rfl)⟩ (fun fa2_5 H locs hq6 hP hD hS => ?_)
    replace hq6 : (rM fa2_5) ∧ (zCy fa fa2_5 0 fm 0 379) ∧ ((fa2_5 0).toInt = (fm 0).toInt ∧ (fa2_5 3).toInt = (fm 3).toInt ∧ (fa2_5 4).toInt = (fm 4).toInt) := hq6
    have hP : va_P g.1 vwCl (List.flatten [bMo g o a 0 hi ac tp ba en tA fl de iD iO tU fm fk fa2_5 fc ft ff fb fi]) H := hP
    have hD : va_D A (List.flatten [bMo g o a 0 hi ac tp ba en tA fl de iD iO tU fm fk fa2_5 fc ft ff fb fi]) := hD
    refine W.widen (k := 0) (n := 0) (Nat.le_of_ble_eq_true rfl) (Nat.le_of_ble_eq_true rfl) ?_
    refine W.eq (g2 := F0 m 33 ls []) rfl ?_
    obtain ⟨rfa2_5, hq6_1, hq6_2⟩ := hq6
    refine lv_iconst (v := (-1)) hx hb dX12_reaches_33 (by decide) ?_
    refine lv_istore_n (lv' := [(2, .int (-1)), (0, .ref o), (1, .int x)]) hx hb dX12_reaches_34 rfl hl (by decide) rfl (fun ls hl => ?_)
    refine lv_iconst (v := 0) hx hb dX12_reaches_35 (by decide) ?_
    refine lv_istore_n (lv' := [(3, .int 0), (2, .int (-1)), (0, .ref o), (1, .int x)]) hx hb dX12_reaches_36 rfl hl (by decide) rfl (fun ls hl => ?_)
    have hl := lv_sub (l' := [(0, .ref o), (1, .int x), (2, .int (-1)), (3, .int 0)]) hl [2, 3, 1, 0] rfl
    have LP37_27 : ∀ (kf : Nat) (x_7 : Int32) (x_8 : Int32) (x_9 : Int32) (x_10 : Int32) (x_11 : Int32) (x_12 : Int32) (x_13 : Int32) (x_14 : Int32) (x_15 : Int32) (fm_16 : Nat → Int32) (ff_17 : Nat → Int32) (fb_18 : Nat → Int32), ((-1) ≤ x_7.toInt ∧ x_7.toInt ≤ 100) → (0 ≤ x_8.toInt ∧ x_8.toInt ≤ 101) → (0 ≤ x_13.toInt ∧ x_13.toInt ≤ 1) → (0 ≤ x_14.toInt ∧ x_14.toInt ≤ 1) → (rM fm_16) → (x_7 = zFst (zPre L x (zM9 fm)) x_8.toInt.toNat) → (zR9 (zM9 fm_16) (zGo L 0 x_8.toInt.toNat (zM9 fm))) → (zRg (zV fm_16)) → (zGk fm fm_16) → ∀ (H : Heap) (locs : List Loc) (ls : Array Slot), ((102 - x_8.toInt).toNat) < kf → va_P g.1 vwCl (List.flatten [bMo g o a 0 hi ac tp x_9 x_10 x_11 fl x_12 x_13 x_14 x_15 fm_16 fk fa2_5 fc ft ff_17 fb_18 fi]) H → va_D A (List.flatten [bMo g o a 0 hi ac tp x_9 x_10 x_11 fl x_12 x_13 x_14 x_15 fm_16 fk fa2_5 fc ft ff_17 fb_18 fi]) → va_S A s.heap H locs → lv_has ls 5 [(0, .ref o), (1, .int x), (2, .int x_7), (3, .int x_8)] → W p l e ({ frames := 33, cells := 0, slots := 0, locals := 736 } : Room) s m args below meth c H locs (0) (0) (zF g (fun u : Int32 × (Nat → Int32) × (Nat → Int32) × Int32 × Int32 × Int32 × Int32 × Int32 × Int32 × Int32 × (Nat → Int32) × (Nat → Int32) × Int32 => (fun (th2 : Int32) (fm2 : Nat → Int32) (fa2 : Nat → Int32) (ba2 : Int32) (en2 : Int32) (at2 : Int32) (de2 : Int32) (iD2 : Int32) (iO2 : Int32) (tU2 : Int32) (ff2 : Nat → Int32) (fb2 : Nat → Int32) (q : Int32) => some (.int q)) (u.1) (u.2.1) (u.2.2.1) (u.2.2.2.1) (u.2.2.2.2.1) (u.2.2.2.2.2.1) (u.2.2.2.2.2.2.1) (u.2.2.2.2.2.2.2.1) (u.2.2.2.2.2.2.2.2.1) (u.2.2.2.2.2.2.2.2.2.1) (u.2.2.2.2.2.2.2.2.2.2.1) (u.2.2.2.2.2.2.2.2.2.2.2.1) (u.2.2.2.2.2.2.2.2.2.2.2.2)) (fun u : Int32 × (Nat → Int32) × (Nat → Int32) × Int32 × Int32 × Int32 × Int32 × Int32 × Int32 × Int32 × (Nat → Int32) × (Nat → Int32) × Int32 => (fun (th2 : Int32) (fm2 : Nat → Int32) (fa2 : Nat → Int32) (ba2 : Int32) (en2 : Int32) (at2 : Int32) (de2 : Int32) (iD2 : Int32) (iO2 : Int32) (tU2 : Int32) (ff2 : Nat → Int32) (fb2 : Nat → Int32) (q : Int32) => (0 ≤ iO2.toInt ∧ iO2.toInt ≤ 1) ∧ (0 ≤ iD2.toInt ∧ iD2.toInt ≤ 1) ∧ (rM fa2) ∧ (rM fm2) ∧ ((th2, q) = zdReach L x (zM9 fm)) ∧ (fm = fm2)) (u.1) (u.2.1) (u.2.2.1) (u.2.2.2.1) (u.2.2.2.2.1) (u.2.2.2.2.2.1) (u.2.2.2.2.2.2.1) (u.2.2.2.2.2.2.2.1) (u.2.2.2.2.2.2.2.2.1) (u.2.2.2.2.2.2.2.2.2.1) (u.2.2.2.2.2.2.2.2.2.2.1) (u.2.2.2.2.2.2.2.2.2.2.2.1) (u.2.2.2.2.2.2.2.2.2.2.2.2)) (fun u : Int32 × (Nat → Int32) × (Nat → Int32) × Int32 × Int32 × Int32 × Int32 × Int32 × Int32 × Int32 × (Nat → Int32) × (Nat → Int32) × Int32 => (fun (th2 : Int32) (fm2 : Nat → Int32) (fa2 : Nat → Int32) (ba2 : Int32) (en2 : Int32) (at2 : Int32) (de2 : Int32) (iD2 : Int32) (iO2 : Int32) (tU2 : Int32) (ff2 : Nat → Int32) (fb2 : Nat → Int32) (q : Int32) => [bMo g o a th2 hi ac tp ba2 en2 at2 fl de2 iD2 iO2 tU2 fm2 fk fa2 fc ft ff2 fb2 fi]) (u.1) (u.2.1) (u.2.2.1) (u.2.2.2.1) (u.2.2.2.2.1) (u.2.2.2.2.2.1) (u.2.2.2.2.2.2.1) (u.2.2.2.2.2.2.2.1) (u.2.2.2.2.2.2.2.2.1) (u.2.2.2.2.2.2.2.2.2.1) (u.2.2.2.2.2.2.2.2.2.2.1) (u.2.2.2.2.2.2.2.2.2.2.2.1) (u.2.2.2.2.2.2.2.2.2.2.2.2)) ({ frames := 33, cells := 0, slots := 0, locals := 736 } : Room) below args s A) (F0 m 37 ls []) := by
      intro kf
      induction kf with
      | zero => intro x_7 x_8 x_9 x_10 x_11 x_12 x_13 x_14 x_15 fm_16 ff_17 fb_18 i19 i20 i21 i22 rfm_16 i23 i24 i25 i26 H locs ls hk; exact absurd hk (Nat.not_lt_zero _)
      | succ kf ih37_28 =>
        intro x_7 x_8 x_9 x_10 x_11 x_12 x_13 x_14 x_15 fm_16 ff_17 fb_18 i19 i20 i21 i22 rfm_16 i23 i24 i25 i26 H locs ls hk37_28 hP hD hS hl
        refine lv_iload_n hx hb dX12_reaches_37 rfl (lv_at hl 3 rfl) ?_
        refine lv_bipush (v := 100) hx hb dX12_reaches_38 (by decide) ?_
        refine lv_icmp_gt (tgt := 72) hx hb dX12_reaches_40 (by decide) (fun cb9 => ?_) (fun cb9 => ?_)
        · skip
          have c29 : 100 < x_8.toInt := zlti cb9 (by decide) rfl
          have n30 : 101 ≤ x_8.toInt := zL2 (a := 100) c29 (Int.le_refl _) (by decide)
          refine lv_aload_n hx hb dX12_reaches_72 rfl (lv_at hl 0 rfl) ?_
          refine mcallV' (g := g) (q0 := 0) (ci := 10) (As := []) (rest := []) St hK hT hA hP hD hS hl.1 [0] [] rfl rfl rfl (m_comesBack l g o a 0 hi ac tp x_9 x_10 x_11 fl x_12 x_13 x_14 x_15 fm_16 fk fa2_5 fc ft ff_17 fb_18 fi rfm_16 rfa2_5) (cwV 0 hts (zgL (zl4 k984 k985 k986 k839) k973) rfl rfl rfl (by decide +kernel) ⟨Nat.le_of_ble_eq_true rfl, Nat.le_of_ble_eq_true rfl⟩) rfl rfl rfl rfl (Nat.le_of_ble_eq_true rfl) dX12_reaches_73 ⟨(Nat.le_of_ble_eq_true rfl), (Nat.le_of_ble_eq_true rfl)⟩ (fun fm2_31 H locs hq32 hP hD hS => ?_)
          replace hq32 : (rM fm2_31) ∧ (zCy fm_16 fm2_31 0 fa2_5 0 379) ∧ ((fm2_31 0).toInt = (fa2_5 0).toInt ∧ (fm2_31 3).toInt = (fa2_5 3).toInt ∧ (fm2_31 4).toInt = (fa2_5 4).toInt) := hq32
          have hP : va_P g.1 vwCl (List.flatten [bMo g o a 0 hi ac tp x_9 x_10 x_11 fl x_12 x_13 x_14 x_15 fm2_31 fk fa2_5 fc ft ff_17 fb_18 fi]) H := hP
          have hD : va_D A (List.flatten [bMo g o a 0 hi ac tp x_9 x_10 x_11 fl x_12 x_13 x_14 x_15 fm2_31 fk fa2_5 fc ft ff_17 fb_18 fi]) := hD
          refine W.widen (k := 0) (n := 0) (Nat.le_of_ble_eq_true rfl) (Nat.le_of_ble_eq_true rfl) ?_
          refine W.eq (g2 := F0 m 76 ls []) rfl ?_
          obtain ⟨rfm2_31, hq32_1, hq32_2⟩ := hq32
          refine lv_iload_n hx hb dX12_reaches_76 rfl (lv_at hl 2 rfl) ?_
          have hP : va_P g.1 vwCl (List.flatten [bMo g o a 0 hi ac tp x_9 x_10 x_11 fl x_12 x_13 x_14 x_15 fm2_31 fk fa2_5 fc ft ff_17 fb_18 fi]) H := hP
          have hD : va_D A (List.flatten [bMo g o a 0 hi ac tp x_9 x_10 x_11 fl x_12 x_13 x_14 x_15 fm2_31 fk fa2_5 fc ft ff_17 fb_18 fi]) := hD
          exact mret_i hx hb hr hlocks hS (Nat.le_of_ble_eq_true rfl) (Nat.le_of_ble_eq_true rfl) dX12_reaches_77 ((0 : Int32), fm2_31, fa2_5, x_9, x_10, x_11, x_12, x_13, x_14, x_15, ff_17, fb_18, x_7) rfl (show (0 ≤ x_14.toInt ∧ x_14.toInt ≤ 1) ∧ (0 ≤ x_13.toInt ∧ x_13.toInt ≤ 1) ∧ (rM fa2_5) ∧ (rM fm2_31) ∧ ((0, x_7) = zdReach L x (zM9 fm)) ∧ (fm = fm2_31) from ⟨(by first | assumption | omega | decide), (by first | assumption | omega | decide), (by first | assumption | omega | decide), (by first | assumption | omega | decide), (zdReach_m (by omega) (zFst_out i23 (by omega) (by omega))), (zBackD hq6_1 i26 hq32_1)⟩) hP hD
        · skip
          have c33 : x_8.toInt ≤ 100 := zle (Int32.not_lt.mp cb9) rfl (by decide)
          have n34 : x_8.toInt ≤ 100 := Int.le_trans c33 (Int.le_refl _)
          refine lv_iload_n hx hb dX12_reaches_43 rfl (lv_at hl 2 rfl) ?_
          refine lv_iconst (v := (-1)) hx hb dX12_reaches_44 (by decide) ?_
          refine lv_icmp_ne (tgt := 72) hx hb dX12_reaches_45 (by decide) (fun cb9 => ?_) (fun cb9 => ?_)
          · skip
            have c35 : ¬ x_7.toInt = (-1) := zne cb9 rfl (by decide)
            have n36 : 0 ≤ x_7.toInt := zN1 c35 i19.1 (by decide)
            refine lv_aload_n hx hb dX12_reaches_72 rfl (lv_at hl 0 rfl) ?_
            refine mcallV' (g := g) (q0 := 0) (ci := 10) (As := []) (rest := []) St hK hT hA hP hD hS hl.1 [0] [] rfl rfl rfl (m_comesBack l g o a 0 hi ac tp x_9 x_10 x_11 fl x_12 x_13 x_14 x_15 fm_16 fk fa2_5 fc ft ff_17 fb_18 fi rfm_16 rfa2_5) (cwV 0 hts (zgL (zl4 k984 k985 k986 k839) k973) rfl rfl rfl (by decide +kernel) ⟨Nat.le_of_ble_eq_true rfl, Nat.le_of_ble_eq_true rfl⟩) rfl rfl rfl rfl (Nat.le_of_ble_eq_true rfl) dX12_reaches_73 ⟨(Nat.le_of_ble_eq_true rfl), (Nat.le_of_ble_eq_true rfl)⟩ (fun fm2_37 H locs hq38 hP hD hS => ?_)
            replace hq38 : (rM fm2_37) ∧ (zCy fm_16 fm2_37 0 fa2_5 0 379) ∧ ((fm2_37 0).toInt = (fa2_5 0).toInt ∧ (fm2_37 3).toInt = (fa2_5 3).toInt ∧ (fm2_37 4).toInt = (fa2_5 4).toInt) := hq38
            have hP : va_P g.1 vwCl (List.flatten [bMo g o a 0 hi ac tp x_9 x_10 x_11 fl x_12 x_13 x_14 x_15 fm2_37 fk fa2_5 fc ft ff_17 fb_18 fi]) H := hP
            have hD : va_D A (List.flatten [bMo g o a 0 hi ac tp x_9 x_10 x_11 fl x_12 x_13 x_14 x_15 fm2_37 fk fa2_5 fc ft ff_17 fb_18 fi]) := hD
            refine W.widen (k := 0) (n := 0) (Nat.le_of_ble_eq_true rfl) (Nat.le_of_ble_eq_true rfl) ?_
            refine W.eq (g2 := F0 m 76 ls []) rfl ?_
            obtain ⟨rfm2_37, hq38_1, hq38_2⟩ := hq38
            refine lv_iload_n hx hb dX12_reaches_76 rfl (lv_at hl 2 rfl) ?_
            have hP : va_P g.1 vwCl (List.flatten [bMo g o a 0 hi ac tp x_9 x_10 x_11 fl x_12 x_13 x_14 x_15 fm2_37 fk fa2_5 fc ft ff_17 fb_18 fi]) H := hP
            have hD : va_D A (List.flatten [bMo g o a 0 hi ac tp x_9 x_10 x_11 fl x_12 x_13 x_14 x_15 fm2_37 fk fa2_5 fc ft ff_17 fb_18 fi]) := hD
            exact mret_i hx hb hr hlocks hS (Nat.le_of_ble_eq_true rfl) (Nat.le_of_ble_eq_true rfl) dX12_reaches_77 ((0 : Int32), fm2_37, fa2_5, x_9, x_10, x_11, x_12, x_13, x_14, x_15, ff_17, fb_18, x_7) rfl (show (0 ≤ x_14.toInt ∧ x_14.toInt ≤ 1) ∧ (0 ≤ x_13.toInt ∧ x_13.toInt ≤ 1) ∧ (rM fa2_5) ∧ (rM fm2_37) ∧ ((0, x_7) = zdReach L x (zM9 fm)) ∧ (fm = fm2_37) from ⟨(by first | assumption | omega | decide), (by first | assumption | omega | decide), (by first | assumption | omega | decide), (by first | assumption | omega | decide), (zdReach_m (by omega) (zFst_out i23 (by omega) (by omega))), (zBackD hq6_1 i26 hq38_1)⟩) hP hD
          · skip
            have c39 : x_7.toInt = (-1) := zeq cb9 rfl (by decide)
            have n40 : x_7.toInt ≤ (-1) := Int.le_trans (Int.le_of_eq c39) (Int.le_refl _)
            refine lv_aload_n hx hb dX12_reaches_48 rfl (lv_at hl 0 rfl) ?_
            refine mcallV' (g := g) (q0 := 0) (ci := 10) (As := []) (rest := []) St hK hT hA hP hD hS hl.1 [0] [] rfl rfl rfl (m_believedG l g o a 0 hi ac tp x_9 x_10 x_11 fl x_12 x_13 x_14 x_15 fm_16 fk fa2_5 fc ft ff_17 fb_18 fi rfm_16) (cwV 0 hts (zgL (zl4 k856 k857 k858 k839) k849) rfl rfl rfl (by decide +kernel) ⟨Nat.le_of_ble_eq_true rfl, Nat.le_of_ble_eq_true rfl⟩) rfl rfl rfl rfl (Nat.le_of_ble_eq_true rfl) dX12_reaches_49 ⟨(Nat.le_of_ble_eq_true rfl), (Nat.le_of_ble_eq_true rfl)⟩ (fun _u H locs hq41 hP hD hS => ?_)
            have hP : va_P g.1 vwCl (List.flatten [bMo g o a 0 hi ac tp x_9 x_10 x_11 fl x_12 x_13 x_14 x_15 fm_16 fk fa2_5 fc ft ff_17 fb_18 fi]) H := hP
            have hD : va_D A (List.flatten [bMo g o a 0 hi ac tp x_9 x_10 x_11 fl x_12 x_13 x_14 x_15 fm_16 fk fa2_5 fc ft ff_17 fb_18 fi]) := hD
            refine W.widen (k := 0) (n := 0) (Nat.le_of_ble_eq_true rfl) (Nat.le_of_ble_eq_true rfl) ?_
            refine W.eq (g2 := F0 m 52 ls [.int (zBel (zV fm_16) (fm_16 3).toInt.toNat)]) rfl ?_
            refine lv_iload_n hx hb dX12_reaches_52 rfl (lv_at hl 1 rfl) ?_
            refine lv_icmp_lt (tgt := 58) hx hb dX12_reaches_53 (by decide) (fun cb9 => ?_) (fun cb9 => ?_)
            · skip
              have c42 : (zBel (zV fm_16) (fm_16 3).toInt.toNat).toInt < x.toInt := zlti cb9 rfl rfl
              refine lv_aload_n hx hb dX12_reaches_58 rfl (lv_at hl 0 rfl) ?_
              refine lv_iconst (v := 1) hx hb dX12_reaches_59 (by decide) ?_
              refine lv_iconst (v := 0) hx hb dX12_reaches_60 (by decide) ?_
              refine mcallV' (g := g) (q0 := 0) (ci := 10) (As := [.int 1, .int 0]) (rest := []) St hK hT hA hP hD hS hl.1 [0] [] rfl rfl rfl (m_goes0G l g o a 0 hi ac tp x_9 x_10 x_11 fl x_12 x_13 x_14 x_15 fm_16 fk fa2_5 fc ft ff_17 fb_18 fi 1 L rfm_16 (by first | assumption | omega | decide) (by first | assumption | omega | decide) (by first | assumption | omega | decide) i25 (zLm_k hL i26)) (cwV 2 hts (zgL (zl4 k1057 k1058 k1059 k839) k1028) rfl rfl rfl (by decide +kernel) ⟨Nat.le_of_ble_eq_true rfl, Nat.le_of_ble_eq_true rfl⟩) rfl rfl rfl rfl (Nat.le_of_ble_eq_true rfl) dX12_reaches_61 ⟨(Nat.le_of_ble_eq_true rfl), (Nat.le_of_ble_eq_true rfl)⟩ (fun u_ H locs hq54 hP hD hS => ?_)
              obtain ⟨ba2_43, en2_44, at2_45, de2_46, iD2_47, iO2_48, tU2_49, ff2_50, fm2_51, fb2_52, q_53⟩ := u_
              replace hq54 : (rM fm2_51) ∧ (0 ≤ iO2_48.toInt ∧ iO2_48.toInt ≤ 1) ∧ (0 ≤ iD2_47.toInt ∧ iD2_47.toInt ≤ 1) ∧ (zNR ((fm2_51 5, fm2_51 8, fm2_51 10, zV fm2_51), q_53) (zNds L (fm_16 3).toInt.toNat (fm_16 4).toInt.toNat (fm_16 7) 0 (1 : Int32).toInt.toNat (fm_16 5, fm_16 8, fm_16 10, zV fm_16))) ∧ (zGk fm_16 fm2_51) := hq54
              have hP : va_P g.1 vwCl (List.flatten [bMo g o a 0 hi ac tp ba2_43 en2_44 at2_45 fl de2_46 iD2_47 iO2_48 tU2_49 fm2_51 fk fa2_5 fc ft ff2_50 fb2_52 fi]) H := hP
              have hD : va_D A (List.flatten [bMo g o a 0 hi ac tp ba2_43 en2_44 at2_45 fl de2_46 iD2_47 iO2_48 tU2_49 fm2_51 fk fa2_5 fc ft ff2_50 fb2_52 fi]) := hD
              refine W.widen (k := 0) (n := 0) (Nat.le_of_ble_eq_true rfl) (Nat.le_of_ble_eq_true rfl) ?_
              refine W.eq (g2 := F0 m 64 ls [.int q_53]) rfl ?_
              obtain ⟨rfm2_51, hq54_1, hq54_2, hq54_3, hq54_4⟩ := hq54
              have rg55 : zRg (zV fm2_51) := zRg_go hq54_3 i25
              have gk56 : zGk fm fm2_51 := zGk_t i26 hq54_4
              refine lv_istore (lv' := [(4, .int q_53), (0, .ref o), (1, .int x), (2, .int x_7), (3, .int x_8)]) hx hb dX12_reaches_64 hl (by decide) rfl (fun ls hl => ?_)
              refine ziinc3 (n' := 1) (a' := 1) (b' := 101) (lv' := fun v9 => [(3, .int v9), (4, .int q_53), (0, .ref o), (1, .int x), (2, .int x_7)]) hx hb dX12_reaches_66 hl (k := 4) rfl (by decide) (fun _ => rfl) (zaddK (i := x_8.toInt) (j := 1) rfl (by decide) i20.1 n34 (Int.le_refl _) (Int.le_refl _) (by decide)) (fun x_57 ls hx_57 hl => ?_)
              refine lv_goto (tgt := 37) hx hb dX12_reaches_69 (by decide) ?_
              have hl := lv_sub (l' := [(0, .ref o), (1, .int x), (2, .int x_7), (3, .int x_57), (4, .int q_53)]) hl [2, 3, 4, 0, 1] rfl
              have hP : va_P g.1 vwCl (List.flatten [bMo g o a 0 hi ac tp ba2_43 en2_44 at2_45 fl de2_46 iD2_47 iO2_48 tU2_49 fm2_51 fk fa2_5 fc ft ff2_50 fb2_52 fi]) H := hP
              have hD : va_D A (List.flatten [bMo g o a 0 hi ac tp ba2_43 en2_44 at2_45 fl de2_46 iD2_47 iO2_48 tU2_49 fm2_51 fk fa2_5 fc ft ff2_50 fb2_52 fi]) := hD
              exact ih37_28 x_7 x_57 ba2_43 en2_44 at2_45 de2_46 iD2_47 iO2_48 tU2_49 fm2_51 ff2_50 fb2_52 ⟨i19.1, (Int.le_trans n40 (by decide))⟩ ⟨(Int.le_trans (by decide) hx_57.2.1), hx_57.2.2⟩ ⟨hq54_2.1, hq54_2.2⟩ ⟨hq54_1.1, hq54_1.2⟩ rfm2_51 (zFst_n i23 hx_57.1 (by omega) (fun q9 => absurd q9.2 (zPre_n (d := zM9 fm_16) (q := zBel (zV fm_16) (fm_16 3).toInt.toNat) i24 (show (fm_16 3).toInt ≤ 8 from (rM3 rfm_16).2) rfl (show ¬ x.toInt ≤ (zBel (zV fm_16) (fm_16 3).toInt.toNat).toInt from by omega)))) (zGo_dm i24 (by have h8 := rM3 rfm_16; omega) (by have h8 := rM4 rfm_16; omega) hq54_3 (by decide) hq54_4 (by omega)) rg55 gk56 H _ ls (zmK hx_57.1 (by decide) n34 (by decide) hk37_28)  hP hD hS (lv_sub hl [0, 1, 2, 3] rfl)
            · skip
              have c58 : x.toInt ≤ (zBel (zV fm_16) (fm_16 3).toInt.toNat).toInt := zle (Int32.not_lt.mp cb9) rfl rfl
              refine lv_iload_n hx hb dX12_reaches_56 rfl (lv_at hl 3 rfl) ?_
              refine lv_istore_n (lv' := [(2, .int x_8), (0, .ref o), (1, .int x), (3, .int x_8)]) hx hb dX12_reaches_57 rfl hl (by decide) rfl (fun ls hl => ?_)
              refine lv_aload_n hx hb dX12_reaches_58 rfl (lv_at hl 1 rfl) ?_
              refine lv_iconst (v := 1) hx hb dX12_reaches_59 (by decide) ?_
              refine lv_iconst (v := 0) hx hb dX12_reaches_60 (by decide) ?_
              refine mcallV' (g := g) (q0 := 0) (ci := 10) (As := [.int 1, .int 0]) (rest := []) St hK hT hA hP hD hS hl.1 [0] [] rfl rfl rfl (m_goes0G l g o a 0 hi ac tp x_9 x_10 x_11 fl x_12 x_13 x_14 x_15 fm_16 fk fa2_5 fc ft ff_17 fb_18 fi 1 L rfm_16 (by first | assumption | omega | decide) (by first | assumption | omega | decide) (by first | assumption | omega | decide) i25 (zLm_k hL i26)) (cwV 2 hts (zgL (zl4 k1057 k1058 k1059 k839) k1028) rfl rfl rfl (by decide +kernel) ⟨Nat.le_of_ble_eq_true rfl, Nat.le_of_ble_eq_true rfl⟩) rfl rfl rfl rfl (Nat.le_of_ble_eq_true rfl) dX12_reaches_61 ⟨(Nat.le_of_ble_eq_true rfl), (Nat.le_of_ble_eq_true rfl)⟩ (fun u_ H locs hq70 hP hD hS => ?_)
              obtain ⟨ba2_59, en2_60, at2_61, de2_62, iD2_63, iO2_64, tU2_65, ff2_66, fm2_67, fb2_68, q_69⟩ := u_
              replace hq70 : (rM fm2_67) ∧ (0 ≤ iO2_64.toInt ∧ iO2_64.toInt ≤ 1) ∧ (0 ≤ iD2_63.toInt ∧ iD2_63.toInt ≤ 1) ∧ (zNR ((fm2_67 5, fm2_67 8, fm2_67 10, zV fm2_67), q_69) (zNds L (fm_16 3).toInt.toNat (fm_16 4).toInt.toNat (fm_16 7) 0 (1 : Int32).toInt.toNat (fm_16 5, fm_16 8, fm_16 10, zV fm_16))) ∧ (zGk fm_16 fm2_67) := hq70
              have hP : va_P g.1 vwCl (List.flatten [bMo g o a 0 hi ac tp ba2_59 en2_60 at2_61 fl de2_62 iD2_63 iO2_64 tU2_65 fm2_67 fk fa2_5 fc ft ff2_66 fb2_68 fi]) H := hP
              have hD : va_D A (List.flatten [bMo g o a 0 hi ac tp ba2_59 en2_60 at2_61 fl de2_62 iD2_63 iO2_64 tU2_65 fm2_67 fk fa2_5 fc ft ff2_66 fb2_68 fi]) := hD
              refine W.widen (k := 0) (n := 0) (Nat.le_of_ble_eq_true rfl) (Nat.le_of_ble_eq_true rfl) ?_
              refine W.eq (g2 := F0 m 64 ls [.int q_69]) rfl ?_
              obtain ⟨rfm2_67, hq70_1, hq70_2, hq70_3, hq70_4⟩ := hq70
              have rg71 : zRg (zV fm2_67) := zRg_go hq70_3 i25
              have gk72 : zGk fm fm2_67 := zGk_t i26 hq70_4
              refine lv_istore (lv' := [(4, .int q_69), (2, .int x_8), (0, .ref o), (1, .int x), (3, .int x_8)]) hx hb dX12_reaches_64 hl (by decide) rfl (fun ls hl => ?_)
              refine ziinc3 (n' := 1) (a' := 1) (b' := 101) (lv' := fun v9 => [(3, .int v9), (4, .int q_69), (2, .int x_8), (0, .ref o), (1, .int x)]) hx hb dX12_reaches_66 hl (k := 4) rfl (by decide) (fun _ => rfl) (zaddK (i := x_8.toInt) (j := 1) rfl (by decide) i20.1 n34 (Int.le_refl _) (Int.le_refl _) (by decide)) (fun x_73 ls hx_73 hl => ?_)
              refine lv_goto (tgt := 37) hx hb dX12_reaches_69 (by decide) ?_
              have hl := lv_sub (l' := [(0, .ref o), (1, .int x), (2, .int x_8), (3, .int x_73), (4, .int q_69)]) hl [3, 4, 2, 0, 1] rfl
              have hP : va_P g.1 vwCl (List.flatten [bMo g o a 0 hi ac tp ba2_59 en2_60 at2_61 fl de2_62 iD2_63 iO2_64 tU2_65 fm2_67 fk fa2_5 fc ft ff2_66 fb2_68 fi]) H := hP
              have hD : va_D A (List.flatten [bMo g o a 0 hi ac tp ba2_59 en2_60 at2_61 fl de2_62 iD2_63 iO2_64 tU2_65 fm2_67 fk fa2_5 fc ft ff2_66 fb2_68 fi]) := hD
              exact ih37_28 x_8 x_73 ba2_59 en2_60 at2_61 de2_62 iD2_63 iO2_64 tU2_65 fm2_67 ff2_66 fb2_68 ⟨(Int.le_trans (by decide) i20.1), n34⟩ ⟨(Int.le_trans (by decide) hx_73.2.1), hx_73.2.2⟩ ⟨hq70_2.1, hq70_2.2⟩ ⟨hq70_1.1, hq70_1.2⟩ rfm2_67 (zFst_y i23 hx_73.1 (by omega) (by omega) (zPre_y (d := zM9 fm_16) (q := zBel (zV fm_16) (fm_16 3).toInt.toNat) i24 (show (fm_16 3).toInt ≤ 8 from (rM3 rfm_16).2) rfl (show x.toInt ≤ (zBel (zV fm_16) (fm_16 3).toInt.toNat).toInt from by omega))) (zGo_dm i24 (by have h8 := rM3 rfm_16; omega) (by have h8 := rM4 rfm_16; omega) hq70_3 (by decide) hq70_4 (by omega)) rg71 gk72 H _ ls (zmK hx_73.1 (by decide) n34 (by decide) hk37_28)  hP hD hS (lv_sub hl [0, 1, 2, 3] rfl)
    have hLn1 : ((-1) : Int32).toInt = (-1) := by decide
    have hL0 : (0 : Int32).toInt = 0 := by decide
    have hP : va_P g.1 vwCl (List.flatten [bMo g o a 0 hi ac tp ba en tA fl de iD iO tU fm fk fa2_5 fc ft ff fb fi]) H := hP
    have hD : va_D A (List.flatten [bMo g o a 0 hi ac tp ba en tA fl de iD iO tU fm fk fa2_5 fc ft ff fb fi]) := hD
    exact LP37_27 _ (-1) 0 ba en tA de iD iO tU fm ff fb (by decide) (by decide) ⟨hiD.1, hiD.2⟩ ⟨hiO.1, hiO.2⟩ rfm (zFst_0 rfl (by decide)) (zGo_i (by decide)) hrg (zGk_r _) H _ ls (Nat.lt_succ_self _)  hP hD hS (lv_sub hl [0, 1, 2, 3] rfl)
  · skip
    refine lv_if_ne (tgt := 16) hx hb dX12_reaches_9 (by decide) (fun c74 => absurd (by decide) c74) (fun _ => ?_)
    refine lv_iconst (v := 1) hx hb dX12_reaches_12 (by decide) ?_
    refine lv_goto (tgt := 17) hx hb dX12_reaches_13 (by decide) ?_
    refine va_put (D := g.1) (ci := 10) (v := .int 1) (ty := .int) (C := RX12) (T := TX12) (N := 20) hx hb hts izRX12 tyX12 tyX12_ok nmX12 hown hK hP hD hS 0 rfl rfl 0 (by decide) (hts _ k825) (fun _ h9 => h9) rfl (by decide +kernel) rfl rfl (Nat.le_of_ble_eq_true rfl) dX12_reaches_17 (fun H locs hP hD hS => ?_)
    have hP : va_P g.1 vwCl (List.flatten [bMo g o a 1 hi ac tp ba en tA fl de iD iO tU fm fk fa fc ft ff fb fi]) H := hP
    have hD : va_D A (List.flatten [bMo g o a 1 hi ac tp ba en tA fl de iD iO tU fm fk fa fc ft ff fb fi]) := hD
    refine lv_aload_n hx hb dX12_reaches_20 rfl (lv_at hl 0 rfl) ?_
    refine va_get (D := g.1) (ci := 10) (v := .int 1) (C := RX12) (T := TX12) (N := 20) hx hb hts izRX12 hown hK hP 0 rfl rfl 0 (by decide) (hts _ k825) (fun _ h9 => h9) rfl dX12_reaches_21 ?_
    refine lv_if_le (tgt := 29) hx hb dX12_reaches_24 (by decide) (fun c75 => absurd c75 (by decide)) (fun _ => ?_)
    refine lv_iconst (v := 0) hx hb dX12_reaches_27 (by decide) ?_
    have hP : va_P g.1 vwCl (List.flatten [bMo g o a 1 hi ac tp ba en tA fl de iD iO tU fm fk fa fc ft ff fb fi]) H := hP
    have hD : va_D A (List.flatten [bMo g o a 1 hi ac tp ba en tA fl de iD iO tU fm fk fa fc ft ff fb fi]) := hD
    exact mret_i hx hb hr hlocks hS (Nat.le_of_ble_eq_true rfl) (Nat.le_of_ble_eq_true rfl) dX12_reaches_28 ((1 : Int32), fm, fa, ba, en, tA, de, iD, iO, tU, ff, fb, (0 : Int32)) rfl (show (0 ≤ iO.toInt ∧ iO.toInt ≤ 1) ∧ (0 ≤ iD.toInt ∧ iD.toInt ≤ 1) ∧ (rM fa) ∧ (rM fm) ∧ ((1, 0) = zdReach L x (zM9 fm)) ∧ (fm = fm) from ⟨(by first | assumption | omega | decide), (by first | assumption | omega | decide), (by first | assumption | omega | decide), (by first | assumption | omega | decide), (zdReach_1 (by omega)), rfl⟩) hP hD
