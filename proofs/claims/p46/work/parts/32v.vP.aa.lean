/-! WHAT IS ASKED: when first -/
def zFst (P : Nat → Bool) : Nat → Int32
  | 0 => -1
  | k + 1 => if (zFst P k).toInt = -1 ∧ P k = true then nI k else zFst P k
theorem zFst_0 {P : Nat → Bool} {b k : Int32} (hb : b = -1) (hk : k.toInt = 0) : b = zFst P k.toInt.toNat := by rw [hk]; exact hb
theorem zFst_y {P : Nat → Bool} {b k k' : Int32} (h : b = zFst P k.toInt.toNat) (hk : k'.toInt = k.toInt + 1) (h0 : 0 ≤ k.toInt) (hb : b.toInt = -1) (p : P k.toInt.toNat = true) : k = zFst P k'.toInt.toNat := by
  rw [show k'.toInt.toNat = k.toInt.toNat + 1 by omega]
  show k = if (zFst P k.toInt.toNat).toInt = -1 ∧ P k.toInt.toNat = true then nI k.toInt.toNat else zFst P k.toInt.toNat
  rw [← h, if_pos ⟨hb, p⟩]; exact znat h0
theorem zFst_n {P : Nat → Bool} {b k k' : Int32} (h : b = zFst P k.toInt.toNat) (hk : k'.toInt = k.toInt + 1) (h0 : 0 ≤ k.toInt) (p : ¬ (b.toInt = -1 ∧ P k.toInt.toNat = true)) : b = zFst P k'.toInt.toNat := by
  rw [show k'.toInt.toNat = k.toInt.toNat + 1 by omega]
  show b = if (zFst P k.toInt.toNat).toInt = -1 ∧ P k.toInt.toNat = true then nI k.toInt.toNat else zFst P k.toInt.toNat
  rw [← h, if_neg p]
theorem zFst_up {P : Nat → Bool} {b : Int32} {k : Nat} (h : b = zFst P k) (hb : ¬ b.toInt = -1) : ∀ d : Nat, b = zFst P (k + d)
  | 0 => h
  | d + 1 => by
    have ih := zFst_up h hb d
    show b = if (zFst P (k + d)).toInt = -1 ∧ P (k + d) = true then nI (k + d) else zFst P (k + d)
    rw [← ih, if_neg (fun q => hb q.1)]
theorem zFst_hit {P : Nat → Bool} {k : Int32} (h : (-1 : Int32) = zFst P k.toInt.toNat) (p : P k.toInt.toNat = true) (hk : 0 ≤ k.toInt ∧ k.toInt ≤ 100) : k = zFst P 101 := by
  have e : k = zFst P (k.toInt.toNat + 1) := by
    show k = if (zFst P k.toInt.toNat).toInt = -1 ∧ P k.toInt.toNat = true then nI k.toInt.toNat else zFst P k.toInt.toNat
    rw [← h, if_pos ⟨by decide, p⟩]; exact znat hk.1
  have u := zFst_up e (by omega) (101 - (k.toInt.toNat + 1))
  rw [show k.toInt.toNat + 1 + (101 - (k.toInt.toNat + 1)) = 101 by omega] at u
  exact u
theorem zFst_out {P : Nat → Bool} {b k : Int32} (h : b = zFst P k.toInt.toNat) (e : k.toInt = 101 ∨ ¬ b.toInt = -1) (l : k.toInt ≤ 101) : b = zFst P 101 := by
  rcases e with e | e
  · rw [e] at h; exact h
  · have u := zFst_up h e (101 - k.toInt.toNat)
    rw [show k.toInt.toNat + (101 - k.toInt.toNat) = 101 by omega] at u
    exact u
theorem zFst_c {P Q : Nat → Bool} (h : ∀ k, P k = Q k) : ∀ n : Nat, zFst P n = zFst Q n
  | 0 => rfl
  | n + 1 => by
    show (if (zFst P n).toInt = -1 ∧ P n = true then nI n else zFst P n) = if (zFst Q n).toInt = -1 ∧ Q n = true then nI n else zFst Q n
    rw [zFst_c h n, h n]
theorem zGo_i {L : zLw} {tl k : Int32} {s : zT9} (hk : k.toInt = 0) : zR9 s (zGo L tl k.toInt.toNat s) := by rw [hk]; exact zR9_r _
/-- so many believe by then; a work has fallen by then -/
def zPre (L : zLw) (x : Int32) (s : zT9) : Nat → Bool := fun j => decide (x.toInt ≤ (zBl9 (zGo L 0 j s)).toInt)
def zPla (L : zLw) (w : Int32) (s : zT9) : Nat → Bool := fun j => decide (((zGo L 0 j s).2.2.2.2.2.2.2.2 9 w.toInt.toNat).toInt = 2)
theorem zPre_y {L : zLw} {x q : Int32} {s d : zT9} {j : Nat} (h : zR9 d (zGo L 0 j s)) (b : d.1.toInt ≤ 8) (e : q = zBl9 d) (c : x.toInt ≤ q.toInt) : zPre L x s j = true := by
  refine decide_eq_true ?_
  rw [← zBl9_c h b, ← e]; exact c
theorem zPre_n {L : zLw} {x q : Int32} {s d : zT9} {j : Nat} (h : zR9 d (zGo L 0 j s)) (b : d.1.toInt ≤ 8) (e : q = zBl9 d) (c : ¬ x.toInt ≤ q.toInt) : ¬ zPre L x s j = true := by
  intro p
  have p2 := of_decide_eq_true p
  rw [← zBl9_c h b, ← e] at p2; exact c p2
theorem zPla_y {L : zLw} {w v : Int32} {s d : zT9} {j : Nat} (h : zR9 d (zGo L 0 j s)) (hw : w.toInt.toNat < 6) (e : v = d.2.2.2.2.2.2.2.2 9 w.toInt.toNat) (c : v.toInt = 2) : zPla L w s j = true := by
  refine decide_eq_true ?_
  rw [← h.2.2.2.2.2.2.2.2.2.2 9 w.toInt.toNat (by decide) (by decide) hw, ← e]; exact c
theorem zPla_n {L : zLw} {w v : Int32} {s d : zT9} {j : Nat} (h : zR9 d (zGo L 0 j s)) (hw : w.toInt.toNat < 6) (e : v = d.2.2.2.2.2.2.2.2 9 w.toInt.toNat) (c : ¬ v.toInt = 2) : ¬ zPla L w s j = true := by
  intro p
  have p2 := of_decide_eq_true p
  rw [← h.2.2.2.2.2.2.2.2.2.2 9 w.toInt.toNat (by decide) (by decide) hw, ← e] at p2; exact c p2
def zdReach (L : zLw) (x : Int32) (s : zT9) : Int32 × Int32 := zk2 (1 ≤ x.toInt ∧ x.toInt ≤ 792) True (zFst (zPre L x s) 101)
def zdLast (L : zLw) (w : Int32) (s : zT9) : Int32 × Int32 := zk2 (0 ≤ w.toInt ∧ w.toInt < s.2.1.toInt) True (zFst (zPla L w s) 101)
def zdSways (L : zLw) (x n : Int32) (s : zT9) : Int32 × Int32 := zk2 (0 ≤ x.toInt ∧ x.toInt < s.1.toInt) (0 ≤ n.toInt ∧ n.toInt ≤ 30) (zBl9 (zLk L (zBit x.toInt.toNat) 10 n.toInt.toNat s) - zBl9 (zLk L 0 0 n.toInt.toNat s))
theorem zdReach_c {L : zLw} {x : Int32} {s t : zT9} (h : zR9 s t) (k : zOk s) : zdReach L x s = zdReach L x t := by
  unfold zdReach
  rw [zFst_c (fun j => ?_) 101]
  unfold zPre
  rw [zBl9_c (zGo_n (L := L) (tl := 0) (n := j) h k).1 k.1.2]
theorem zdLast_c {L : zLw} {w : Int32} {s t : zT9} (h : zR9 s t) (k : zOk s) : zdLast L w s = zdLast L w t := by
  have e2 : s.2.1 = t.2.1 := h.2.1
  have b := k.2.1
  unfold zdLast
  rw [← e2]
  refine zk2_c Iff.rfl (fun _ => Iff.rfl) (fun a _ => zFst_c (fun j => ?_) 101)
  have z := (zGo_n (L := L) (tl := 0) (n := j) h k).1
  unfold zPla
  rw [z.2.2.2.2.2.2.2.2.2.2 9 w.toInt.toNat (by decide) (by decide) (by omega)]
theorem zdSways_c {L : zLw} {x n : Int32} {s t : zT9} (h : zR9 s t) (k : zOk s) : zdSways L x n s = zdSways L x n t := by
  have e1 : s.1 = t.1 := h.1
  have l := fun st9 by9 => zBl9_c (zLk_c (L := L) (st := st9) (by9 := by9) (n := n.toInt.toNat) h k) k.1.2
  unfold zdSways
  rw [← e1, l, l]
section ZH
variable {L : zLw} {x n w q q1 q2 pe wo tx ch jo tr dy sd : Int32} {f : zRw} {m : Nat → Int32} {d1 d2 : zT9}
theorem zdReach_c1 (k : ¬ (1 ≤ x.toInt ∧ x.toInt ≤ 792)) : (1, 0) = zdReach L x (pe, wo, tx, ch, jo, tr, dy, sd, f) := zk2_1 k
theorem zdReach_c0 (k : 1 ≤ x.toInt ∧ x.toInt ≤ 792) (e : q = zFst (zPre L x (pe, wo, tx, ch, jo, tr, dy, sd, f)) 101) : (0, q) = zdReach L x (pe, wo, tx, ch, jo, tr, dy, sd, f) := zk2_0 k trivial e
theorem zdReach_1 (k : ¬ (1 ≤ x.toInt ∧ x.toInt ≤ 792)) : (1, 0) = zdReach L x (zM9 m) := zk2_1 k
theorem zdReach_m (k : 1 ≤ x.toInt ∧ x.toInt ≤ 792) (e : q = zFst (zPre L x (zM9 m)) 101) : (0, q) = zdReach L x (zM9 m) := zk2_0 k trivial e
theorem zdLast_c1 (k : ¬ (0 ≤ w.toInt ∧ w.toInt < wo.toInt)) : (1, 0) = zdLast L w (pe, wo, tx, ch, jo, tr, dy, sd, f) := zk2_1 k
theorem zdLast_c0 (k : 0 ≤ w.toInt ∧ w.toInt < wo.toInt) (e : q = zFst (zPla L w (pe, wo, tx, ch, jo, tr, dy, sd, f)) 101) : (0, q) = zdLast L w (pe, wo, tx, ch, jo, tr, dy, sd, f) := zk2_0 k trivial e
theorem zdLast_1 (k : ¬ (0 ≤ w.toInt ∧ w.toInt < (m 4).toInt)) : (1, 0) = zdLast L w (zM9 m) := zk2_1 k
theorem zdLast_m (k : 0 ≤ w.toInt ∧ w.toInt < (m 4).toInt) (e : q = zFst (zPla L w (zM9 m)) 101) : (0, q) = zdLast L w (zM9 m) := zk2_0 k trivial e
theorem zdSways_c1 (k : ¬ (0 ≤ x.toInt ∧ x.toInt < pe.toInt)) : (1, 0) = zdSways L x n (pe, wo, tx, ch, jo, tr, dy, sd, f) := zk2_1 k
theorem zdSways_c2 (h : 0 ≤ x.toInt ∧ x.toInt < pe.toInt) (k : ¬ (0 ≤ n.toInt ∧ n.toInt ≤ 30)) : (2, 0) = zdSways L x n (pe, wo, tx, ch, jo, tr, dy, sd, f) := zk2_2 h k
theorem zdSways_c0 (b : 0 ≤ pe.toInt ∧ pe.toInt ≤ 8) (h : 0 ≤ x.toInt ∧ x.toInt < pe.toInt) (k : 0 ≤ n.toInt ∧ n.toInt ≤ 30) (g1 : zR9 d1 (zLk L (zBit x.toInt.toNat) 10 n.toInt.toNat (pe, wo, tx, ch, jo, tr, dy, sd, f))) (e1 : q1 = zBl9 d1) (g2 : zR9 d2 (zLk L 0 0 n.toInt.toNat (pe, wo, tx, ch, jo, tr, dy, sd, f))) (e2 : q2 = zBl9 d2) : (0, q1 - q2) = zdSways L x n (pe, wo, tx, ch, jo, tr, dy, sd, f) := zk2_0 h k (by
  have b1 : d1.1 = pe := g1.1
  have b2 : d2.1 = pe := g2.1
  rw [e1, e2, zBl9_c g1 (by rw [b1]; exact b.2), zBl9_c g2 (by rw [b2]; exact b.2)])
theorem zdSways_1 (k : ¬ (0 ≤ x.toInt ∧ x.toInt < (m 3).toInt)) : (1, 0) = zdSways L x n (zM9 m) := zk2_1 k
theorem zdSways_2 (h : 0 ≤ x.toInt ∧ x.toInt < (m 3).toInt) (k : ¬ (0 ≤ n.toInt ∧ n.toInt ≤ 30)) : (2, 0) = zdSways L x n (zM9 m) := zk2_2 h k
theorem zdSways_m (h : 0 ≤ x.toInt ∧ x.toInt < (m 3).toInt) (k : 0 ≤ n.toInt ∧ n.toInt ≤ 30) (e1 : q1 = zBl9 (zLk L (zBit x.toInt.toNat) 10 n.toInt.toNat (zM9 m))) (e2 : q2 = zBl9 (zLk L 0 0 n.toInt.toNat (zM9 m))) : (0, q1 - q2) = zdSways L x n (zM9 m) := zk2_0 h k (by rw [e1, e2])
end ZH
/-! the guru; seeds -/
def zHr9 (s : zT9) : Nat → Bool := fun x => decide ((s.2.2.2.2.2.2.2.2 3 x).toInt = -1)
theorem zHr_y {s : zT9} {x : Nat} (h : (s.2.2.2.2.2.2.2.2 3 x).toInt = -1) : zHr9 s x = true := decide_eq_true h
theorem zHr_n {s : zT9} {x : Nat} (h : ¬ (s.2.2.2.2.2.2.2.2 3 x).toInt = -1) : ¬ zHr9 s x = true := fun q => h (of_decide_eq_true q)
def zGuW (L : zLw) (n : Int32) (s : zT9) : Nat → Int32 := fun k => zBl9 (zLk L (zBit k) 10 n.toInt.toNat s)
theorem zGuW_e {L : zLw} {n q : Int32} {s d : zT9} {k : Nat} (g : zR9 d (zLk L (zBit k) 10 n.toInt.toNat s)) (e : q = zBl9 d) (b : s.1.toInt ≤ 8) : q = zGuW L n s k := by
  have b1 : d.1 = s.1 := g.1
  rw [e]; exact zBl9_c g (by rw [b1]; exact b)
theorem zGu_y {P : Nat → Bool} {W : Nat → Int32} {b k k' mo v : Int32} (h : b = zBst P W k.toInt.toNat) (I : b.toInt = -1 ∨ mo = W b.toInt.toNat) (hk : k'.toInt = k.toInt + 1) (h0 : 0 ≤ k.toInt) (p : P k.toInt.toNat = true) (e : v = W k.toInt.toNat) (c : b.toInt = -1 ∨ mo.toInt < v.toInt) : k = zBst P W k'.toInt.toNat := zBst_y h hk h0 p (by
  rcases c with c | c
  · exact Or.inl c
  · rcases I with i | i
    · exact Or.inl i
    · exact Or.inr (by rw [← i, ← e]; exact c))
theorem zGu_n {P : Nat → Bool} {W : Nat → Int32} {b k k' : Int32} (h : b = zBst P W k.toInt.toNat) (hk : k'.toInt = k.toInt + 1) (h0 : 0 ≤ k.toInt) (p : ¬ P k.toInt.toNat = true) : b = zBst P W k'.toInt.toNat := zBst_n h hk h0 (fun q => p q.1)
theorem zGu_m {P : Nat → Bool} {W : Nat → Int32} {b k k' mo v : Int32} (h : b = zBst P W k.toInt.toNat) (I : b.toInt = -1 ∨ mo = W b.toInt.toNat) (hk : k'.toInt = k.toInt + 1) (h0 : 0 ≤ k.toInt) (e : v = W k.toInt.toNat) (c : ¬ b.toInt = -1 ∧ ¬ mo.toInt < v.toInt) : b = zBst P W k'.toInt.toNat := zBst_n h hk h0 (fun q => by
  rcases I with i | i
  · exact c.1 i
  · rcases q.2 with w | w
    · exact c.1 w
    · rw [← i, ← e] at w; exact c.2 w)
def zdGuru (L : zLw) (n : Int32) (s : zT9) : Int32 × Int32 := zk2 (0 ≤ n.toInt ∧ n.toInt ≤ 30) True (zBst (zHr9 s) (zGuW L n s) s.1.toInt.toNat)
theorem zdGuru_c {L : zLw} {n : Int32} {s t : zT9} (h : zR9 s t) (k : zOk s) : zdGuru L n s = zdGuru L n t := by
  have e1 : s.1 = t.1 := h.1
  have b := k.1
  unfold zdGuru
  rw [← e1]
  refine zk2_c Iff.rfl (fun _ => Iff.rfl) (fun a _ => zBst_c s.1.toInt.toNat (by omega) (fun x hx => ?_) (fun x hx => ?_))
  · unfold zHr9
    rw [h.2.2.2.2.2.2.2.2.1 3 x (by decide) (by omega)]
  · exact zBl9_c (zLk_c (L := L) (st := zBit x) (by9 := 10) (n := n.toInt.toNat) h k) k.1.2
theorem zdGuru_c1 {L : zLw} {n pe wo tx ch jo tr dy sd : Int32} {f : zRw} (k : ¬ (0 ≤ n.toInt ∧ n.toInt ≤ 30)) : (1, 0) = zdGuru L n (pe, wo, tx, ch, jo, tr, dy, sd, f) := zk2_1 k
theorem zdGuru_c0 {L : zLw} {n q pe wo tx ch jo tr dy sd : Int32} {f : zRw} (k : 0 ≤ n.toInt ∧ n.toInt ≤ 30) (e : q = zBst (zHr9 (pe, wo, tx, ch, jo, tr, dy, sd, f)) (zGuW L n (pe, wo, tx, ch, jo, tr, dy, sd, f)) pe.toInt.toNat) : (0, q) = zdGuru L n (pe, wo, tx, ch, jo, tr, dy, sd, f) := zk2_0 k trivial e
theorem zdGuru_1 {L : zLw} {n : Int32} {m : Nat → Int32} (k : ¬ (0 ≤ n.toInt ∧ n.toInt ≤ 30)) : (1, 0) = zdGuru L n (zM9 m) := zk2_1 k
theorem zdGuru_m {L : zLw} {n q : Int32} {m : Nat → Int32} (k : 0 ≤ n.toInt ∧ n.toInt ≤ 30) (e : q = zBst (zHr9 (zM9 m)) (zGuW L n (zM9 m)) (m 3).toInt.toNat) : (0, q) = zdGuru L n (zM9 m) := zk2_0 k trivial e
/-- the utmost of so many -/
def zUt (c : Int32) (W : Nat → Int32) : Nat → Int32
  | 0 => -1
  | k + 1 => if (zUt c W k).toInt = -1 ∨ (c.toInt = 0 ∧ (W (k + 1)).toInt < (zUt c W k).toInt) ∨ (¬ c.toInt = 0 ∧ (zUt c W k).toInt < (W (k + 1)).toInt) then W (k + 1) else zUt c W k
theorem zUt_0 {c u k : Int32} {W : Nat → Int32} (h : u = -1) (hk : k.toInt = 1) : u = zUt c W (k.toInt.toNat - 1) := by rw [hk]; exact h
theorem zUt_y {c u v k k' : Int32} {W : Nat → Int32} (h : u = zUt c W (k.toInt.toNat - 1)) (hk : k'.toInt = k.toInt + 1) (h1 : 1 ≤ k.toInt) (e : v = W k.toInt.toNat) (cc : u.toInt = -1 ∨ (c.toInt = 0 ∧ v.toInt < u.toInt) ∨ (¬ c.toInt = 0 ∧ u.toInt < v.toInt)) : v = zUt c W (k'.toInt.toNat - 1) := by
  rw [show k'.toInt.toNat - 1 = (k.toInt.toNat - 1) + 1 by omega]
  have e2 : v = W (k.toInt.toNat - 1 + 1) := by rw [show k.toInt.toNat - 1 + 1 = k.toInt.toNat by omega]; exact e
  show v = if (zUt c W (k.toInt.toNat - 1)).toInt = -1 ∨ (c.toInt = 0 ∧ (W (k.toInt.toNat - 1 + 1)).toInt < (zUt c W (k.toInt.toNat - 1)).toInt) ∨ (¬ c.toInt = 0 ∧ (zUt c W (k.toInt.toNat - 1)).toInt < (W (k.toInt.toNat - 1 + 1)).toInt) then W (k.toInt.toNat - 1 + 1) else zUt c W (k.toInt.toNat - 1)
  rw [← h, ← e2, if_pos cc]
theorem zUt_n {c u v k k' : Int32} {W : Nat → Int32} (h : u = zUt c W (k.toInt.toNat - 1)) (hk : k'.toInt = k.toInt + 1) (h1 : 1 ≤ k.toInt) (e : v = W k.toInt.toNat) (cc : ¬ (u.toInt = -1 ∨ (c.toInt = 0 ∧ v.toInt < u.toInt) ∨ (¬ c.toInt = 0 ∧ u.toInt < v.toInt))) : u = zUt c W (k'.toInt.toNat - 1) := by
  rw [show k'.toInt.toNat - 1 = (k.toInt.toNat - 1) + 1 by omega]
  have e2 : v = W (k.toInt.toNat - 1 + 1) := by rw [show k.toInt.toNat - 1 + 1 = k.toInt.toNat by omega]; exact e
  show u = if (zUt c W (k.toInt.toNat - 1)).toInt = -1 ∨ (c.toInt = 0 ∧ (W (k.toInt.toNat - 1 + 1)).toInt < (zUt c W (k.toInt.toNat - 1)).toInt) ∨ (¬ c.toInt = 0 ∧ (zUt c W (k.toInt.toNat - 1)).toInt < (W (k.toInt.toNat - 1 + 1)).toInt) then W (k.toInt.toNat - 1 + 1) else zUt c W (k.toInt.toNat - 1)
  rw [← h, ← e2, if_neg cc]
theorem zUt_g {c u v q k k' : Int32} {W : Nat → Int32} (h : u = zUt c W (k.toInt.toNat - 1)) (hk : k'.toInt = k.toInt + 1) (h1 : 1 ≤ k.toInt) (e : v = W k.toInt.toNat) (hu : ¬ u.toInt = -1) (hc : ¬ c.toInt = 0) (g : u.toInt ≤ q.toInt ∧ v.toInt ≤ q.toInt ∧ (q.toInt = u.toInt ∨ q.toInt = v.toInt)) : q = zUt c W (k'.toInt.toNat - 1) := by
  by_cases p : u.toInt < v.toInt
  · have z := zUt_y h hk h1 e (Or.inr (Or.inr ⟨hc, p⟩))
    rw [← z]; exact Int32.toInt_inj.mp (by omega)
  · have z := zUt_n h hk h1 e (by omega)
    rw [← z]; exact Int32.toInt_inj.mp (by omega)
theorem zUt_l {c u v q k k' : Int32} {W : Nat → Int32} (h : u = zUt c W (k.toInt.toNat - 1)) (hk : k'.toInt = k.toInt + 1) (h1 : 1 ≤ k.toInt) (e : v = W k.toInt.toNat) (hu : ¬ u.toInt = -1) (hc : c.toInt = 0) (g : q.toInt ≤ u.toInt ∧ q.toInt ≤ v.toInt ∧ (q.toInt = u.toInt ∨ q.toInt = v.toInt)) : q = zUt c W (k'.toInt.toNat - 1) := by
  by_cases p : v.toInt < u.toInt
  · have z := zUt_y h hk h1 e (Or.inr (Or.inl ⟨hc, p⟩))
    rw [← z]; exact Int32.toInt_inj.mp (by omega)
  · have z := zUt_n h hk h1 e (by omega)
    rw [← z]; exact Int32.toInt_inj.mp (by omega)
theorem zUt_x {c u k : Int32} {W : Nat → Int32} (h : u = zUt c W (k.toInt.toNat - 1)) (e : k.toInt = 7) : u = zUt c W 6 := by rw [e] at h; exact h
theorem zUt_c {c : Int32} {W V : Nat → Int32} (e : ∀ k, W k = V k) : ∀ n : Nat, zUt c W n = zUt c V n
  | 0 => rfl
  | n + 1 => by
    show (if (zUt c W n).toInt = -1 ∨ (c.toInt = 0 ∧ (W (n + 1)).toInt < (zUt c W n).toInt) ∨ (¬ c.toInt = 0 ∧ (zUt c W n).toInt < (W (n + 1)).toInt) then W (n + 1) else zUt c W n) = if (zUt c V n).toInt = -1 ∨ (c.toInt = 0 ∧ (V (n + 1)).toInt < (zUt c V n).toInt) ∨ (¬ c.toInt = 0 ∧ (zUt c V n).toInt < (V (n + 1)).toInt) then V (n + 1) else zUt c V n
    rw [zUt_c e n, e (n + 1)]
def zsd (s : zT9) (v : Int32) : zT9 := (s.1, s.2.1, s.2.2.1, s.2.2.2.1, s.2.2.2.2.1, s.2.2.2.2.2.1, s.2.2.2.2.2.2.1, v, s.2.2.2.2.2.2.2.2)
theorem zsd_c {s t : zT9} {v : Int32} (h : zR9 s t) : zR9 (zsd s v) (zsd t v) := ⟨h.1, h.2.1, h.2.2.1, h.2.2.2.1, h.2.2.2.2.1, h.2.2.2.2.2.1, h.2.2.2.2.2.2.1, rfl, h.2.2.2.2.2.2.2.2⟩
theorem zsd_ok {s : zT9} {v : Int32} (h : zOk s) : zOk (zsd s v) := ⟨h.1, h.2.1, h.2.2.1, h.2.2.2.1, h.2.2.2.2⟩
def zSpW (L : zLw) (n : Int32) (s : zT9) : Nat → Int32 := fun k => zBl9 (zGo L 1 n.toInt.toNat (zsd s (nI k)))
theorem zSpW_e {L : zLw} {n q : Int32} {s d : zT9} {k : Int32} (h0 : 0 ≤ k.toInt) (g : zR9 d (zGo L 1 n.toInt.toNat (zsd s k))) (e : q = zBl9 d) (b : s.1.toInt ≤ 8) : q = zSpW L n s k.toInt.toNat := by
  have b1 : d.1 = s.1 := g.1
  have z : nI k.toInt.toNat = k := (znat h0).symm
  show q = zBl9 (zGo L 1 n.toInt.toNat (zsd s (nI k.toInt.toNat)))
  rw [z, e]; exact zBl9_c g (by rw [b1]; exact b)
def zdSpan (L : zLw) (n c : Int32) (s : zT9) : Int32 × Int32 := zk2 (0 ≤ n.toInt ∧ n.toInt ≤ 60) True (zUt c (zSpW L n s) 6)
theorem zdSpan_c {L : zLw} {n c : Int32} {s t : zT9} (h : zR9 s t) (k : zOk s) : zdSpan L n c s = zdSpan L n c t := by
  unfold zdSpan
  rw [zUt_c (W := zSpW L n s) (V := zSpW L n t) (fun j => zBl9_c (zGo_n (L := L) (tl := 1) (n := n.toInt.toNat) (zsd_c (v := nI j) h) (zsd_ok k)).1 k.1.2) 6]
theorem zdSpan_c1 {L : zLw} {n c pe wo tx ch jo tr dy sd : Int32} {f : zRw} (k : ¬ (0 ≤ n.toInt ∧ n.toInt ≤ 60)) : (1, 0) = zdSpan L n c (pe, wo, tx, ch, jo, tr, dy, sd, f) := zk2_1 k
theorem zdSpan_c0 {L : zLw} {n c q pe wo tx ch jo tr dy sd : Int32} {f : zRw} (k : 0 ≤ n.toInt ∧ n.toInt ≤ 60) (e : q = zUt c (zSpW L n (pe, wo, tx, ch, jo, tr, dy, sd, f)) 6) : (0, q) = zdSpan L n c (pe, wo, tx, ch, jo, tr, dy, sd, f) := zk2_0 k trivial e
theorem zdSpan_1 {L : zLw} {n c : Int32} {m : Nat → Int32} (k : ¬ (0 ≤ n.toInt ∧ n.toInt ≤ 60)) : (1, 0) = zdSpan L n c (zM9 m) := zk2_1 k
theorem zdSpan_m {L : zLw} {n c q : Int32} {m : Nat → Int32} (k : 0 ≤ n.toInt ∧ n.toInt ≤ 60) (e : q = zUt c (zSpW L n (zM9 m)) 6) : (0, q) = zdSpan L n c (zM9 m) := zk2_0 k trivial e
theorem zM9_sd {fm f0 f : Nat → Int32} {v : Int32} (h : fm = f0) (e : f = upd f0 10 v) : zR9 (zM9 f) (zsd (zM9 fm) v) := by
  subst h; subst e
  have k : ∀ i : Nat, i ≠ 10 → upd fm 10 v i = fm i := fun i h => pk_un h
  exact ⟨k 3 (by decide), k 4 (by decide), k 0 (by decide), k 5 (by decide), k 6 (by decide), k 7 (by decide), k 8 (by decide), (show upd fm 10 v 10 = v from pk_us), zVo (Or.inl (by decide))⟩
theorem zGo_e {L : zLw} {tl : Int32} {n : Nat} {s t : zT9} (h : zR9 s t) (b8 : s.1.toInt ≤ 8) (b6 : s.2.1.toInt ≤ 6) : zR9 (zGo L tl n s) (zGo L tl n t) := by
  obtain ⟨s1, s2, s3, s4, s5, s6, s7, s8, s9⟩ := s
  obtain ⟨t1, t2, t3, t4, t5, t6, t7, t8, t9⟩ := t
  obtain ⟨e1, e2, e3, e4, e5, e6, e7, e8, e9⟩ := h
  have q1 : s1 = t1 := e1
  have q2 : s2 = t2 := e2
  have q3 : s3 = t3 := e3
  have q4 : s4 = t4 := e4
  have q5 : s5 = t5 := e5
  have q6 : s6 = t6 := e6
  have q7 : s7 = t7 := e7
  have q8 : s8 = t8 := e8
  have q9 : zEq s9 t9 := e9
  subst q1; subst q2; subst q3; subst q4; subst q5; subst q6; subst q7; subst q8
  have b8' : s1.toInt ≤ 8 := b8
  have b6' : s2.toInt ≤ 6 := b6
  have z := zNds_c (L := L) (pe := s1.toInt.toNat) (wo := s2.toInt.toNat) (tr := s6) (tl := tl) (a := (s4, s7, s8, s9)) (b := (s4, s7, s8, t9)) n (by omega) (by omega) ⟨rfl, rfl, rfl, q9⟩
  exact ⟨rfl, rfl, rfl, z.1.1, rfl, rfl, z.1.2.1, z.1.2.2.1, z.1.2.2.2⟩
