/-! WHAT IS ASKED: rows of the log -/
def zLgAt (l : zLgs) (ago : Int32) (k : Nat) : Int32 := if 0 ≤ ago.toInt ∧ ago.toInt < l.1.toInt then l.2 (4 * ago.toInt.toNat + k) else -1
theorem zLgAt_y {l : zLgs} {ago v : Int32} {k : Nat} (h : 0 ≤ ago.toInt ∧ ago.toInt < l.1.toInt) (e : v = l.2 (4 * ago.toInt.toNat + k)) : v = zLgAt l ago k := e.trans (if_pos h).symm
theorem zLgAt_n {l : zLgs} {ago : Int32} {k : Nat} (h : ¬ (0 ≤ ago.toInt ∧ ago.toInt < l.1.toInt)) : -1 = zLgAt l ago k := (if_neg h).symm
theorem zLgAt_c {l l' : zLgs} {ago : Int32} {k : Nat} (h : zLgR l l') (hb : l.1.toInt ≤ 60) (hk : k < 4) : zLgAt l ago k = zLgAt l' ago k := by
  unfold zLgAt
  by_cases q : 0 ≤ ago.toInt ∧ ago.toInt < l.1.toInt
  · rw [if_pos q, if_pos (by rw [← h.1]; exact q)]; exact h.2 _ (by omega)
  · rw [if_neg q, if_neg (by rw [← h.1]; exact q)]
theorem zLgC_at {fr : Nat → Int32} {gz gn ago p : Int32} {k : Nat} (hn : 0 ≤ gn.toInt ∧ gn.toInt ≤ 59) (ha : 0 ≤ ago.toInt ∧ ago.toInt ≤ 59) (hk : k < 4) (hp : p.toInt = (gn.toInt - 1 - ago.toInt) % 60) : fr (4 * p.toInt.toNat + k) = (zLgC fr gz gn).2 (4 * ago.toInt.toNat + k) := by
  show fr (4 * p.toInt.toNat + k) = fr (4 * ((gn.toInt.toNat + 59 - (4 * ago.toInt.toNat + k) / 4) % 60) + (4 * ago.toInt.toNat + k) % 4)
  have e1 : (4 * ago.toInt.toNat + k) / 4 = ago.toInt.toNat := by omega
  have e2 : (4 * ago.toInt.toNat + k) % 4 = k := by omega
  rw [e1, e2]
  have e3 : p.toInt.toNat = (gn.toInt.toNat + 59 - ago.toInt.toNat) % 60 := by omega
  rw [e3]
def zgLog (ago k : Int32) (l : zLgs) : Int32 × Int32 := zk2 (0 ≤ k.toInt ∧ k.toInt ≤ 3) True (zLgAt l ago k.toInt.toNat)
theorem zgLog_c {ago k : Int32} {l l' : zLgs} (hb : l.1.toInt ≤ 60) (h : zLgR l l') : zgLog ago k l = zgLog ago k l' := zk2_c Iff.rfl (fun _ => Iff.rfl) (fun a _ => zLgAt_c h hb (by omega))
theorem zgLog_1 {ago k : Int32} {l : zLgs} (h : ¬ (0 ≤ k.toInt ∧ k.toInt ≤ 3)) : (1, 0) = zgLog ago k l := zk2_1 h
theorem zgLog_0 {ago k v : Int32} {l : zLgs} (h : 0 ≤ k.toInt ∧ k.toInt ≤ 3) (e : v = zLgAt l ago k.toInt.toNat) : (0, v) = zgLog ago k l := zk2_0 h trivial e
/-! rows of a work -/
abbrev zLgO (l : zLgs) (ago w : Int32) : Prop := (zLgAt l ago (1 : Int32).toInt.toNat).toInt = w.toInt ∧ (zLgAt l ago (2 : Int32).toInt.toNat).toInt ≤ 1
def zLgG (l : zLgs) (w : Int32) : Nat → Int32 := fun a => if zLgO l (nI a) w then 1 else 0
def zLdB (l : zLgs) (w : Int32) : Nat → Bool
  | 0 => false
  | k + 1 => zLdB l w k || decide (zLgO l (nI k) w)
def zLdD (l : zLgs) (w : Int32) : Nat → Int32
  | 0 => -1
  | k + 1 => if zLdB l w k = true then zLdD l w k else if zLgO l (nI k) w then zLgAt l (nI k) (0 : Int32).toInt.toNat else -1
theorem zLgG_y {l : zLgs} {w k acc : Int32} (h0 : 0 ≤ k.toInt) (c : zLgO l k w) : acc + 1 = acc + zLgG l w k.toInt.toNat := by
  unfold zLgG
  rw [(znat h0).symm, if_pos c]
theorem zLgG_n {l : zLgs} {w k acc : Int32} (h0 : 0 ≤ k.toInt) (c : ¬ zLgO l k w) : acc = acc + zLgG l w k.toInt.toNat := by
  unfold zLgG
  rw [(znat h0).symm, if_neg c]; exact (Int32.add_zero _).symm
theorem zLdB_0 {l : zLgs} {w k : Int32} (h : k.toInt = 0) : ¬ zLdB l w k.toInt.toNat = true := by
  rw [h]
  exact (fun q => absurd (show false = true from q) (by decide))
theorem zLdB_s {l : zLgs} {w k k' : Int32} (h : ¬ zLdB l w k.toInt.toNat = true) (hk : k'.toInt = k.toInt + 1) (h0 : 0 ≤ k.toInt) (c : ¬ zLgO l k w) : ¬ zLdB l w k'.toInt.toNat = true := by
  rw [show k'.toInt.toNat = k.toInt.toNat + 1 by omega]
  intro q
  have q2 : (zLdB l w k.toInt.toNat || decide (zLgO l (nI k.toInt.toNat) w)) = true := q
  rw [(znat h0).symm, Bool.or_eq_true] at q2
  rcases q2 with q2 | q2
  · exact h q2
  · exact c (of_decide_eq_true q2)
theorem zLdD_m {l : zLgs} {w : Int32} : ∀ n : Nat, ¬ zLdB l w n = true → zLdD l w n = -1
  | 0, _ => rfl
  | n + 1, h => by
    have h2 : ¬ (zLdB l w n || decide (zLgO l (nI n) w)) = true := h
    rw [Bool.or_eq_true] at h2
    show (if zLdB l w n = true then zLdD l w n else if zLgO l (nI n) w then zLgAt l (nI n) (0 : Int32).toInt.toNat else -1) = -1
    rw [if_neg (fun q => h2 (Or.inl q)), if_neg (fun q => h2 (Or.inr (decide_eq_true q)))]
theorem zLdD_up {l : zLgs} {w : Int32} {n : Nat} (h : zLdB l w n = true) : ∀ d : Nat, zLdB l w (n + d) = true ∧ zLdD l w (n + d) = zLdD l w n
  | 0 => ⟨h, rfl⟩
  | d + 1 => by
    have ih := zLdD_up h d
    refine ⟨?_, ?_⟩
    · show (zLdB l w (n + d) || decide (zLgO l (nI (n + d)) w)) = true
      rw [ih.1]; rfl
    · show (if zLdB l w (n + d) = true then zLdD l w (n + d) else if zLgO l (nI (n + d)) w then zLgAt l (nI (n + d)) (0 : Int32).toInt.toNat else -1) = zLdD l w n
      rw [if_pos ih.1]; exact ih.2
theorem zLdD_hit {l : zLgs} {w k n v : Int32} (h : ¬ zLdB l w k.toInt.toNat = true) (h0 : 0 ≤ k.toInt) (c : zLgO l k w) (hn : k.toInt < n.toInt) (e : v = zLgAt l k (0 : Int32).toInt.toNat) : v = zLdD l w n.toInt.toNat := by
  have z : nI k.toInt.toNat = k := (znat h0).symm
  have a : zLdB l w (k.toInt.toNat + 1) = true := by
    show (zLdB l w k.toInt.toNat || decide (zLgO l (nI k.toInt.toNat) w)) = true
    rw [z, Bool.or_eq_true]; exact Or.inr (decide_eq_true c)
  have b : zLdD l w (k.toInt.toNat + 1) = v := by
    show (if zLdB l w k.toInt.toNat = true then zLdD l w k.toInt.toNat else if zLgO l (nI k.toInt.toNat) w then zLgAt l (nI k.toInt.toNat) (0 : Int32).toInt.toNat else -1) = v
    rw [if_neg h, z, if_pos c]; exact e.symm
  have u := (zLdD_up a (n.toInt.toNat - (k.toInt.toNat + 1))).2
  rw [show k.toInt.toNat + 1 + (n.toInt.toNat - (k.toInt.toNat + 1)) = n.toInt.toNat by omega] at u
  rw [u, b]
theorem zLdD_out {l : zLgs} {w k n : Int32} (h : ¬ zLdB l w k.toInt.toNat = true) (e : k.toInt = n.toInt) : -1 = zLdD l w n.toInt.toNat := by
  rw [e] at h; exact (zLdD_m _ h).symm
/-- from the end on -/
def zBk2 (l : zLgs) (w : Int32) (S : Nat) : Nat → Int32 × Int32
  | 0 => (0, -1)
  | t + 1 => if zLgO l (nI (S - 1 - t)) w then ((zBk2 l w S t).1 + 1, zLgAt l (nI (S - 1 - t)) (0 : Int32).toInt.toNat) else zBk2 l w S t
theorem zBk2_p {l : zLgs} {w : Int32} {S : Nat} : ∀ t : Nat, t ≤ S → zSu (zLgG l w) S = zSu (zLgG l w) (S - t) + (zBk2 l w S t).1 ∧ zLdD l w S = if zLdB l w (S - t) = true then zLdD l w (S - t) else (zBk2 l w S t).2
  | 0, _ => by
    refine ⟨(Int32.add_zero _).symm, ?_⟩
    show zLdD l w S = if zLdB l w S = true then zLdD l w S else -1
    by_cases q : zLdB l w S = true
    · rw [if_pos q]
    · rw [if_neg q]; exact zLdD_m _ q
  | t + 1, ht => by
    have ih := zBk2_p (l := l) (w := w) (S := S) t (by omega)
    have e : S - t = (S - (t + 1)) + 1 := by omega
    have a : S - 1 - t = S - (t + 1) := by omega
    rw [e] at ih
    have u : zBk2 l w S (t + 1) = if zLgO l (nI (S - (t + 1))) w then ((zBk2 l w S t).1 + 1, zLgAt l (nI (S - (t + 1))) (0 : Int32).toInt.toNat) else zBk2 l w S t := by
      show (if zLgO l (nI (S - 1 - t)) w then ((zBk2 l w S t).1 + 1, zLgAt l (nI (S - 1 - t)) (0 : Int32).toInt.toNat) else zBk2 l w S t) = _
      rw [a]
    generalize S - (t + 1) = p at ih u ⊢
    obtain ⟨i1, i2⟩ := ih
    have i1' : zSu (zLgG l w) S = (zSu (zLgG l w) p + zLgG l w p) + (zBk2 l w S t).1 := i1
    have i2' : zLdD l w S = if (zLdB l w p || decide (zLgO l (nI p) w)) = true then (if zLdB l w p = true then zLdD l w p else if zLgO l (nI p) w then zLgAt l (nI p) (0 : Int32).toInt.toNat else -1) else (zBk2 l w S t).2 := i2
    rw [u]
    by_cases c : zLgO l (nI p) w
    · rw [if_pos c]
      refine ⟨?_, ?_⟩
      · rw [i1', show zLgG l w p = 1 from if_pos c, Int32.add_assoc, Int32.add_comm 1]
      · rw [i2', if_pos (by rw [Bool.or_eq_true]; exact Or.inr (decide_eq_true c)), if_pos c]
    · rw [if_neg c]
      refine ⟨?_, ?_⟩
      · rw [i1', show zLgG l w p = 0 from if_neg c, Int32.add_zero]
      · rw [i2']
        by_cases d : zLdB l w p = true
        · rw [if_pos (by rw [Bool.or_eq_true]; exact Or.inl d), if_pos d, if_pos d]
        · rw [if_neg (fun q => ((Bool.or_eq_true _ _).mp q).elim d (fun q => c (of_decide_eq_true q))), if_neg d]
theorem zBk2_e {l : zLgs} {w : Int32} (S : Nat) : zSu (zLgG l w) S = (zBk2 l w S S).1 ∧ zLdD l w S = (zBk2 l w S S).2 := by
  have z := zBk2_p (l := l) (w := w) (S := S) S (Nat.le_refl S)
  rw [Nat.sub_self] at z
  refine ⟨z.1.trans (Int32.zero_add _), ?_⟩
  have z2 : zLdD l w S = if false = true then zLdD l w 0 else (zBk2 l w S S).2 := z.2
  rw [z2, if_neg (by decide)]
theorem zBk2_0 {l : zLgs} {w k : Int32} {S : Nat} (h : k.toInt = (S : Int) - 1) : (0, -1) = zBk2 l w S ((S : Int) - 1 - k.toInt).toNat := by
  rw [show ((S : Int) - 1 - k.toInt).toNat = 0 by omega]; rfl
theorem zBk2_y {l : zLgs} {w k k' a b v : Int32} {S : Nat} (h : (a, b) = zBk2 l w S ((S : Int) - 1 - k.toInt).toNat) (hk : k'.toInt = k.toInt - 1) (h0 : 0 ≤ k.toInt ∧ k.toInt < (S : Int)) (c : zLgO l k w) (e : v = zLgAt l k (0 : Int32).toInt.toNat) : (a + 1, v) = zBk2 l w S ((S : Int) - 1 - k'.toInt).toNat := by
  rw [show ((S : Int) - 1 - k'.toInt).toNat = ((S : Int) - 1 - k.toInt).toNat + 1 by omega]
  show (a + 1, v) = if zLgO l (nI (S - 1 - ((S : Int) - 1 - k.toInt).toNat)) w then ((zBk2 l w S ((S : Int) - 1 - k.toInt).toNat).1 + 1, zLgAt l (nI (S - 1 - ((S : Int) - 1 - k.toInt).toNat)) (0 : Int32).toInt.toNat) else zBk2 l w S ((S : Int) - 1 - k.toInt).toNat
  rw [show S - 1 - ((S : Int) - 1 - k.toInt).toNat = k.toInt.toNat by omega, (znat h0.1).symm, if_pos c, ← h, e]
theorem zBk2_n {l : zLgs} {w k k' a b : Int32} {S : Nat} (h : (a, b) = zBk2 l w S ((S : Int) - 1 - k.toInt).toNat) (hk : k'.toInt = k.toInt - 1) (h0 : 0 ≤ k.toInt ∧ k.toInt < (S : Int)) (c : ¬ zLgO l k w) : (a, b) = zBk2 l w S ((S : Int) - 1 - k'.toInt).toNat := by
  rw [show ((S : Int) - 1 - k'.toInt).toNat = ((S : Int) - 1 - k.toInt).toNat + 1 by omega]
  show (a, b) = if zLgO l (nI (S - 1 - ((S : Int) - 1 - k.toInt).toNat)) w then ((zBk2 l w S ((S : Int) - 1 - k.toInt).toNat).1 + 1, zLgAt l (nI (S - 1 - ((S : Int) - 1 - k.toInt).toNat)) (0 : Int32).toInt.toNat) else zBk2 l w S ((S : Int) - 1 - k.toInt).toNat
  rw [show S - 1 - ((S : Int) - 1 - k.toInt).toNat = k.toInt.toNat by omega, (znat h0.1).symm, if_neg c]; exact h
theorem zBk2_x {l : zLgs} {w k a b : Int32} {S : Nat} (h : (a, b) = zBk2 l w S ((S : Int) - 1 - k.toInt).toNat) (e : k.toInt = -1) : a = zSu (zLgG l w) S ∧ b = zLdD l w S := by
  rw [show ((S : Int) - 1 - k.toInt).toNat = S by omega] at h
  have z := zBk2_e (l := l) (w := w) S
  rw [z.1, z.2, ← h]; exact ⟨rfl, rfl⟩
def zgLed (w c wo : Int32) (l : zLgs) : Int32 × Int32 := zk2 (0 ≤ w.toInt ∧ w.toInt < wo.toInt) True (if c.toInt = 0 then zSu (zLgG l w) l.1.toInt.toNat else zLdD l w l.1.toInt.toNat)
theorem zLgO_c {l l' : zLgs} {a w : Int32} (h : zLgR l l') (hb : l.1.toInt ≤ 60) : zLgO l a w ↔ zLgO l' a w := by
  unfold zLgO
  rw [zLgAt_c (ago := a) (k := (1 : Int32).toInt.toNat) h hb (by decide), zLgAt_c (ago := a) (k := (2 : Int32).toInt.toNat) h hb (by decide)]
theorem zLgG_c {l l' : zLgs} {w : Int32} (h : zLgR l l') (hb : l.1.toInt ≤ 60) : zLgG l w = zLgG l' w := funext (fun a => by
  unfold zLgG
  by_cases q : zLgO l (nI a) w
  · rw [if_pos q, if_pos ((zLgO_c h hb).mp q)]
  · rw [if_neg q, if_neg (fun p => q ((zLgO_c h hb).mpr p))])
theorem zLd_c {l l' : zLgs} {w : Int32} (h : zLgR l l') (hb : l.1.toInt ≤ 60) : ∀ n : Nat, zLdB l w n = zLdB l' w n ∧ zLdD l w n = zLdD l' w n
  | 0 => ⟨rfl, rfl⟩
  | n + 1 => by
    have ih := zLd_c (w := w) h hb n
    refine ⟨?_, ?_⟩
    · show (zLdB l w n || decide (zLgO l (nI n) w)) = (zLdB l' w n || decide (zLgO l' (nI n) w))
      rw [ih.1, decide_eq_decide.mpr (zLgO_c (a := nI n) (w := w) h hb)]
    · show (if zLdB l w n = true then zLdD l w n else if zLgO l (nI n) w then zLgAt l (nI n) (0 : Int32).toInt.toNat else -1) = (if zLdB l' w n = true then zLdD l' w n else if zLgO l' (nI n) w then zLgAt l' (nI n) (0 : Int32).toInt.toNat else -1)
      rw [ih.1, ih.2, zLgAt_c (ago := nI n) (k := (0 : Int32).toInt.toNat) h hb (by decide)]
      by_cases q : zLgO l (nI n) w
      · rw [if_pos q, if_pos ((zLgO_c h hb).mp q)]
      · rw [if_neg q, if_neg (fun p => q ((zLgO_c h hb).mpr p))]
theorem zgLed_c {w c wo wo' : Int32} {l l' : zLgs} (e : wo = wo') (hb : 0 ≤ l.1.toInt ∧ l.1.toInt ≤ 60) (h : zLgR l l') : zgLed w c wo l = zgLed w c wo' l' := by
  subst e
  unfold zgLed
  rw [← h.1, zLgG_c h hb.2, (zLd_c h hb.2 _).2]
section ZL
variable {w c wo v : Int32} {l : zLgs}
theorem zgLed_1 (h : ¬ (0 ≤ w.toInt ∧ w.toInt < wo.toInt)) : (1, 0) = zgLed w c wo l := zk2_1 h
theorem zgLed_n (h : 0 ≤ w.toInt ∧ w.toInt < wo.toInt) (hc : c.toInt = 0) (e : v = zSu (zLgG l w) l.1.toInt.toNat) : (0, v) = zgLed w c wo l := zk2_0 h trivial (e.trans (if_pos hc).symm)
theorem zgLed_d (h : 0 ≤ w.toInt ∧ w.toInt < wo.toInt) (hc : ¬ c.toInt = 0) (e : v = zLdD l w l.1.toInt.toNat) : (0, v) = zgLed w c wo l := zk2_0 h trivial (e.trans (if_neg hc).symm)
end ZL
/-! what is counted -/
def zSa (f : zRw) (pe : Nat) : Int32 := zSu (fun x => f 2 x) pe
theorem zSa_c {f g : zRw} {pe : Nat} (h : zEq f g) (hp : pe ≤ 8) : zSa f pe = zSa g pe := zFo_c pe (fun i hi => h.1 2 i (by decide) (by omega))
def zgCnt (k : Int32) (s : zT9) (ll me : Int32) (l : zLgs) : Int32 := if k.toInt = 0 then s.1 else if k.toInt = 1 then s.2.1 else if k.toInt = 2 then s.2.2.1 else if k.toInt = 3 then ll else if k.toInt = 4 then s.2.2.2.2.2.2.1 else if k.toInt = 5 then s.2.2.2.1 else if k.toInt = 6 then zBl9 s else if k.toInt = 7 then zHs9 s else if k.toInt = 8 then zWks s.2.2.2.2.2.2.2.2 s.2.1.toInt.toNat 1 else if k.toInt = 9 then zWks s.2.2.2.2.2.2.2.2 s.2.1.toInt.toNat 2 else if k.toInt = 10 then zSa s.2.2.2.2.2.2.2.2 s.1.toInt.toNat else if k.toInt = 11 then l.1 else if k.toInt = 12 then me else -1
theorem zgCnt_c {k ll ll' me me' : Int32} {s t : zT9} {l l' : zLgs} (h : zR9 s t) (o : zOk s) (e1 : ll = ll') (e2 : me = me') (g : zLgR l l') : zgCnt k s ll me l = zgCnt k t ll' me' l' := by
  subst e1; subst e2
  obtain ⟨s1, s2, s3, s4, s5, s6, s7, s8, s9⟩ := s
  obtain ⟨t1, t2, t3, t4, t5, t6, t7, t8, t9⟩ := t
  obtain ⟨e1, e2, e3, e4, e5, e6, e7, e8, e9⟩ := h
  have q1 : s1 = t1 := e1
  have q2 : s2 = t2 := e2
  have q3 : s3 = t3 := e3
  have q4 : s4 = t4 := e4
  have q7 : s7 = t7 := e7
  have q9 : zEq s9 t9 := e9
  subst q1; subst q2; subst q3; subst q4; subst q7
  have b8 : 0 ≤ s1.toInt ∧ s1.toInt ≤ 8 := o.1
  have b6 : 0 ≤ s2.toInt ∧ s2.toInt ≤ 6 := o.2.1
  unfold zgCnt zBl9 zHs9
  dsimp only
  rw [g.1, zBel_c q9 (n := s1.toInt.toNat) (by omega), zHs_c q9 (n := s1.toInt.toNat) (by omega), zWks_c q9 (n := s2.toInt.toNat) (s := 1) (by omega), zWks_c q9 (n := s2.toInt.toNat) (s := 2) (by omega), zSa_c q9 (pe := s1.toInt.toNat) (by omega)]
theorem zgCnt_0 {k ll me : Int32} {s : zT9} {l : zLgs} (h : k.toInt = 0) : s.1 = zgCnt k s ll me l := by
  unfold zgCnt
  rw [if_pos h]
theorem zgCnt_1 {k ll me : Int32} {s : zT9} {l : zLgs} (h : k.toInt = 1) : s.2.1 = zgCnt k s ll me l := by
  unfold zgCnt
  rw [if_neg (show ¬ k.toInt = 0 by omega), if_pos h]
theorem zgCnt_2 {k ll me : Int32} {s : zT9} {l : zLgs} (h : k.toInt = 2) : s.2.2.1 = zgCnt k s ll me l := by
  unfold zgCnt
  rw [if_neg (show ¬ k.toInt = 0 by omega), if_neg (show ¬ k.toInt = 1 by omega), if_pos h]
theorem zgCnt_3 {k ll me : Int32} {s : zT9} {l : zLgs} (h : k.toInt = 3) : ll = zgCnt k s ll me l := by
  unfold zgCnt
  rw [if_neg (show ¬ k.toInt = 0 by omega), if_neg (show ¬ k.toInt = 1 by omega), if_neg (show ¬ k.toInt = 2 by omega), if_pos h]
theorem zgCnt_4 {k ll me : Int32} {s : zT9} {l : zLgs} (h : k.toInt = 4) : s.2.2.2.2.2.2.1 = zgCnt k s ll me l := by
  unfold zgCnt
  rw [if_neg (show ¬ k.toInt = 0 by omega), if_neg (show ¬ k.toInt = 1 by omega), if_neg (show ¬ k.toInt = 2 by omega), if_neg (show ¬ k.toInt = 3 by omega), if_pos h]
theorem zgCnt_5 {k ll me : Int32} {s : zT9} {l : zLgs} (h : k.toInt = 5) : s.2.2.2.1 = zgCnt k s ll me l := by
  unfold zgCnt
  rw [if_neg (show ¬ k.toInt = 0 by omega), if_neg (show ¬ k.toInt = 1 by omega), if_neg (show ¬ k.toInt = 2 by omega), if_neg (show ¬ k.toInt = 3 by omega), if_neg (show ¬ k.toInt = 4 by omega), if_pos h]
theorem zgCnt_6 {k ll me : Int32} {s : zT9} {l : zLgs} (h : k.toInt = 6) : zBl9 s = zgCnt k s ll me l := by
  unfold zgCnt
  rw [if_neg (show ¬ k.toInt = 0 by omega), if_neg (show ¬ k.toInt = 1 by omega), if_neg (show ¬ k.toInt = 2 by omega), if_neg (show ¬ k.toInt = 3 by omega), if_neg (show ¬ k.toInt = 4 by omega), if_neg (show ¬ k.toInt = 5 by omega), if_pos h]
theorem zgCnt_7 {k ll me : Int32} {s : zT9} {l : zLgs} (h : k.toInt = 7) : zHs9 s = zgCnt k s ll me l := by
  unfold zgCnt
  rw [if_neg (show ¬ k.toInt = 0 by omega), if_neg (show ¬ k.toInt = 1 by omega), if_neg (show ¬ k.toInt = 2 by omega), if_neg (show ¬ k.toInt = 3 by omega), if_neg (show ¬ k.toInt = 4 by omega), if_neg (show ¬ k.toInt = 5 by omega), if_neg (show ¬ k.toInt = 6 by omega), if_pos h]
theorem zgCnt_8 {k ll me : Int32} {s : zT9} {l : zLgs} (h : k.toInt = 8) : zWks s.2.2.2.2.2.2.2.2 s.2.1.toInt.toNat 1 = zgCnt k s ll me l := by
  unfold zgCnt
  rw [if_neg (show ¬ k.toInt = 0 by omega), if_neg (show ¬ k.toInt = 1 by omega), if_neg (show ¬ k.toInt = 2 by omega), if_neg (show ¬ k.toInt = 3 by omega), if_neg (show ¬ k.toInt = 4 by omega), if_neg (show ¬ k.toInt = 5 by omega), if_neg (show ¬ k.toInt = 6 by omega), if_neg (show ¬ k.toInt = 7 by omega), if_pos h]
theorem zgCnt_9 {k ll me : Int32} {s : zT9} {l : zLgs} (h : k.toInt = 9) : zWks s.2.2.2.2.2.2.2.2 s.2.1.toInt.toNat 2 = zgCnt k s ll me l := by
  unfold zgCnt
  rw [if_neg (show ¬ k.toInt = 0 by omega), if_neg (show ¬ k.toInt = 1 by omega), if_neg (show ¬ k.toInt = 2 by omega), if_neg (show ¬ k.toInt = 3 by omega), if_neg (show ¬ k.toInt = 4 by omega), if_neg (show ¬ k.toInt = 5 by omega), if_neg (show ¬ k.toInt = 6 by omega), if_neg (show ¬ k.toInt = 7 by omega), if_neg (show ¬ k.toInt = 8 by omega), if_pos h]
theorem zgCnt_10 {k ll me : Int32} {s : zT9} {l : zLgs} (h : k.toInt = 10) : zSa s.2.2.2.2.2.2.2.2 s.1.toInt.toNat = zgCnt k s ll me l := by
  unfold zgCnt
  rw [if_neg (show ¬ k.toInt = 0 by omega), if_neg (show ¬ k.toInt = 1 by omega), if_neg (show ¬ k.toInt = 2 by omega), if_neg (show ¬ k.toInt = 3 by omega), if_neg (show ¬ k.toInt = 4 by omega), if_neg (show ¬ k.toInt = 5 by omega), if_neg (show ¬ k.toInt = 6 by omega), if_neg (show ¬ k.toInt = 7 by omega), if_neg (show ¬ k.toInt = 8 by omega), if_neg (show ¬ k.toInt = 9 by omega), if_pos h]
theorem zgCnt_11 {k ll me : Int32} {s : zT9} {l : zLgs} (h : k.toInt = 11) : l.1 = zgCnt k s ll me l := by
  unfold zgCnt
  rw [if_neg (show ¬ k.toInt = 0 by omega), if_neg (show ¬ k.toInt = 1 by omega), if_neg (show ¬ k.toInt = 2 by omega), if_neg (show ¬ k.toInt = 3 by omega), if_neg (show ¬ k.toInt = 4 by omega), if_neg (show ¬ k.toInt = 5 by omega), if_neg (show ¬ k.toInt = 6 by omega), if_neg (show ¬ k.toInt = 7 by omega), if_neg (show ¬ k.toInt = 8 by omega), if_neg (show ¬ k.toInt = 9 by omega), if_neg (show ¬ k.toInt = 10 by omega), if_pos h]
theorem zgCnt_12 {k ll me : Int32} {s : zT9} {l : zLgs} (h : k.toInt = 12) : me = zgCnt k s ll me l := by
  unfold zgCnt
  rw [if_neg (show ¬ k.toInt = 0 by omega), if_neg (show ¬ k.toInt = 1 by omega), if_neg (show ¬ k.toInt = 2 by omega), if_neg (show ¬ k.toInt = 3 by omega), if_neg (show ¬ k.toInt = 4 by omega), if_neg (show ¬ k.toInt = 5 by omega), if_neg (show ¬ k.toInt = 6 by omega), if_neg (show ¬ k.toInt = 7 by omega), if_neg (show ¬ k.toInt = 8 by omega), if_neg (show ¬ k.toInt = 9 by omega), if_neg (show ¬ k.toInt = 10 by omega), if_neg (show ¬ k.toInt = 11 by omega), if_pos h]
theorem zgCnt_x {k ll me : Int32} {s : zT9} {l : zLgs} (h : ¬ (0 ≤ k.toInt ∧ k.toInt ≤ 12)) : -1 = zgCnt k s ll me l := by
  unfold zgCnt
  rw [if_neg (show ¬ k.toInt = 0 by omega), if_neg (show ¬ k.toInt = 1 by omega), if_neg (show ¬ k.toInt = 2 by omega), if_neg (show ¬ k.toInt = 3 by omega), if_neg (show ¬ k.toInt = 4 by omega), if_neg (show ¬ k.toInt = 5 by omega), if_neg (show ¬ k.toInt = 6 by omega), if_neg (show ¬ k.toInt = 7 by omega), if_neg (show ¬ k.toInt = 8 by omega), if_neg (show ¬ k.toInt = 9 by omega), if_neg (show ¬ k.toInt = 10 by omega), if_neg (show ¬ k.toInt = 11 by omega), if_neg (show ¬ k.toInt = 12 by omega)]
theorem zr60cN : ∀ n : Nat, n < 120 → (((nI n - 60).toInt = -60 ∧ ((nI n - 60) - (nI n - 60) / 60 * 60).toInt = 0) ∨ (¬ (nI n - 60).toInt = -60 ∧ ((nI n - 60) - (nI n - 60) / 60 * 60).toInt = (nI n - 60).toInt)) := by decide +kernel
theorem zr60c {x : Int32} (h : -60 ≤ x.toInt ∧ x.toInt ≤ 59) : (x.toInt = -60 ∧ (x - x / 60 * 60).toInt = 0) ∨ (¬ x.toInt = -60 ∧ (x - x / 60 * 60).toInt = x.toInt) := by
  have q : x = nI (x.toInt + 60).toNat - 60 := by
    apply Int32.toInt_inj.mp
    rw [zsub (x := nI (x.toInt + 60).toNat) (y := 60) (i := ((x.toInt + 60).toNat : Int)) (j := 60) (nI_toInt (by omega)) (by decide) (by omega)]; omega
  have z := zr60cN (x.toInt + 60).toNat (by omega)
  rw [← q] at z; exact z
theorem zLgM_at {m : Nat → Int32} {ago k : Int32} {j : Nat} (h : 0 ≤ ago.toInt ∧ ago.toInt < (m 9).toInt) (e : k.toInt.toNat = j) : m (139 + (4 * ago.toInt.toNat + k.toInt.toNat)) = zLgAt (zLgM m) ago j := by
  subst e; exact zLgAt_y h rfl
theorem zLgM_O {m : Nat → Int32} {ago w : Int32} (h : 0 ≤ ago.toInt ∧ ago.toInt < (m 9).toInt) (c1 : (m (139 + (4 * ago.toInt.toNat + (1 : Int32).toInt.toNat))).toInt = w.toInt) (c2 : (m (139 + (4 * ago.toInt.toNat + (2 : Int32).toInt.toNat))).toInt ≤ 1) : zLgO (zLgM m) ago w := by
  rw [zLgM_at h rfl] at c1 c2
  exact ⟨c1, c2⟩
theorem zLgM_n1 {m : Nat → Int32} {ago w : Int32} (h : 0 ≤ ago.toInt ∧ ago.toInt < (m 9).toInt) (c1 : ¬ (m (139 + (4 * ago.toInt.toNat + (1 : Int32).toInt.toNat))).toInt = w.toInt) : ¬ zLgO (zLgM m) ago w := by
  rw [zLgM_at h rfl] at c1
  exact fun q => c1 q.1
theorem zLgM_n2 {m : Nat → Int32} {ago w : Int32} (h : 0 ≤ ago.toInt ∧ ago.toInt < (m 9).toInt) (c2 : ¬ (m (139 + (4 * ago.toInt.toNat + (2 : Int32).toInt.toNat))).toInt ≤ 1) : ¬ zLgO (zLgM m) ago w := by
  rw [zLgM_at h rfl] at c2
  exact fun q => c2 q.2
theorem zgCnt_89 {k q ll me : Int32} {m : Nat → Int32} {l : zLgs} (h : (k.toInt = 8 ∧ q.toInt = 1) ∨ (k.toInt = 9 ∧ q.toInt = 2)) : zWks (zV m) (m 4).toInt.toNat q = zgCnt k (zM9 m) ll me l := by
  rcases h with ⟨a, b⟩ | ⟨a, b⟩
  · rw [show q = 1 from Int32.toInt_inj.mp (b.trans (by decide))]; exact zgCnt_8 (s := zM9 m) (l := l) (ll := ll) (me := me) a
  · rw [show q = 2 from Int32.toInt_inj.mp (b.trans (by decide))]; exact zgCnt_9 (s := zM9 m) (l := l) (ll := ll) (me := me) a
set_option maxRecDepth 100000 in
set_option maxHeartbeats 4000000 in
theorem j_floorMod60F (l : Launch) (g : zG) (x1 : Int32) (b_x1 : (-60) ≤ x1.toInt ∧ x1.toInt ≤ 59) : zM' g l yJ9_floorMod_7cf53 (Cond.code yJ9_floorMod_7cf53 cJ9_floorMod_7cf53 3 (some .int) :: zB) ({ frames := 0, cells := 0, slots := 0, locals := 0 } : Room) [.int x1, .int 60] [] (fun (q : Int32) => some (.int q)) (fun (q : Int32) => (0 ≤ q.toInt ∧ q.toInt ≤ 59) ∧ (q.toInt = x1.toInt % 60)) (fun (q : Int32) => []) := by
  refine zM'.ofF (cc := cJ9_floorMod_7cf53) (maxL := 3) (rt := (some .int)) (by decide +kernel) rfl (Nat.le_of_ble_eq_true rfl) ?_
  intro p e s m args below meth c A ls St hr hlocks hin hK hT hA hP hD hS hl
  obtain ⟨hx, hb, hml, hown, hts⟩ := id St
  have hl : lv_has ls 3 [(0, .int x1), (1, .int 60)] := hl
  refine lv_iload_n hx hb dJ9_floorMod_7cf53_0 rfl (lv_at hl 0 rfl) ?_
  refine lv_iload_n hx hb dJ9_floorMod_7cf53_1 rfl (lv_at hl 1 rfl) ?_
  refine lv_irem hx hb dJ9_floorMod_7cf53_2 (by decide) ?_
  refine zgp2 (P := fun r9 : Int32 => (x1.toInt = -60 ∧ r9.toInt = 0) ∨ (¬ x1.toInt = -60 ∧ r9.toInt = x1.toInt)) (zr60c (by omega)) (fun x_1 hx_1 => ?_)
  have w3 : (x1.toInt = -60 ∧ x_1.toInt = 0) ∨ (¬ x1.toInt = -60 ∧ x_1.toInt = x1.toInt) := hx_1
  have w2 : -59 ≤ x_1.toInt ∧ x_1.toInt ≤ 59 := by omega
  refine lv_istore_n (lv' := [(2, .int x_1), (0, .int x1), (1, .int 60)]) hx hb dJ9_floorMod_7cf53_3 rfl hl (by decide) rfl (fun ls hl => ?_)
  refine lv_iload_n hx hb dJ9_floorMod_7cf53_4 rfl (lv_at hl 1 rfl) ?_
  refine lv_iload_n hx hb dJ9_floorMod_7cf53_5 rfl (lv_at hl 2 rfl) ?_
  refine lv_ixor hx hb dJ9_floorMod_7cf53_6 ?_
  refine zgp2 (P := fun r9 : Int32 => r9.toInt < 0 ↔ x1.toInt < 0) (zxorS _ _ (by decide)) (fun x_4 hx_4 => ?_)
  refine lv_if_ge (tgt := 18) hx hb dJ9_floorMod_7cf53_7 (by decide) (fun cb9 => ?_) (fun cb9 => ?_)
  · skip
    have c5 : 0 ≤ x_4.toInt := zle cb9 (by decide) rfl
    have n6 : 0 ≤ x_4.toInt := Int.le_trans (Int.le_refl _) c5
    refine lv_iload_n hx hb dJ9_floorMod_7cf53_18 rfl (lv_at hl 0 rfl) ?_
    have hP : va_P g.1 vwCl (List.flatten []) s.heap := hP
    have hD : va_D A (List.flatten []) := hD
    exact mret_i hx hb hr hlocks hS (Nat.le_of_ble_eq_true rfl) (Nat.le_of_ble_eq_true rfl) dJ9_floorMod_7cf53_19 (x_1) rfl (show (0 ≤ x_1.toInt ∧ x_1.toInt ≤ 59) ∧ (x_1.toInt = x1.toInt % 60) from ⟨(by first | assumption | omega | decide | exact rfl | exact zb01 (by omega) | exact Or.inl (by decide) | exact Or.inr (by first | omega | decide)), (by first | assumption | omega | decide | exact rfl | exact zb01 (by omega) | exact Or.inl (by decide) | exact Or.inr (by first | omega | decide))⟩) hP hD
  · skip
    have c7 : x_4.toInt < 0 := zlti (Int32.not_le.mp cb9) rfl (by decide)
    have n8 : x_4.toInt ≤ (-1) := zL1 (b := 0) c7 (Int.le_refl _) (by decide)
    refine lv_iload_n hx hb dJ9_floorMod_7cf53_10 rfl (lv_at hl 0 rfl) ?_
    refine lv_if_eq (tgt := 18) hx hb dJ9_floorMod_7cf53_11 (by decide) (fun cb9 => ?_) (fun cb9 => ?_)
    · skip
      have c9 : x_1.toInt = 0 := zeq cb9 rfl (by decide)
      have n10 : 0 ≤ x_1.toInt := Int.le_trans (Int.le_refl _) (Int.le_of_eq c9.symm)
      have n11 : x_1.toInt ≤ 0 := Int.le_trans (Int.le_of_eq c9) (Int.le_refl _)
      refine lv_iload_n hx hb dJ9_floorMod_7cf53_18 rfl (lv_at hl 0 rfl) ?_
      have hP : va_P g.1 vwCl (List.flatten []) s.heap := hP
      have hD : va_D A (List.flatten []) := hD
      exact mret_i hx hb hr hlocks hS (Nat.le_of_ble_eq_true rfl) (Nat.le_of_ble_eq_true rfl) dJ9_floorMod_7cf53_19 (x_1) rfl (show (0 ≤ x_1.toInt ∧ x_1.toInt ≤ 59) ∧ (x_1.toInt = x1.toInt % 60) from ⟨(by first | assumption | omega | decide | exact rfl | exact zb01 (by omega) | exact Or.inl (by decide) | exact Or.inr (by first | omega | decide)), (by first | assumption | omega | decide | exact rfl | exact zb01 (by omega) | exact Or.inl (by decide) | exact Or.inr (by first | omega | decide))⟩) hP hD
    · skip
      have c12 : ¬ x_1.toInt = 0 := zne cb9 rfl (by decide)
      refine lv_iload_n hx hb dJ9_floorMod_7cf53_14 rfl (lv_at hl 0 rfl) ?_
      refine lv_iload_n hx hb dJ9_floorMod_7cf53_15 rfl (lv_at hl 2 rfl) ?_
      refine lv_iadd hx hb dJ9_floorMod_7cf53_16 ?_
      refine zg3 (zaddK (i := x_1.toInt) (j := 60) (a' := 1) (b' := 119) rfl (by decide) w2.1 w2.2 (Int.le_refl _) (Int.le_refl _) (by decide)) (fun x_13 hx_13 => ?_)
      have hP : va_P g.1 vwCl (List.flatten []) s.heap := hP
      have hD : va_D A (List.flatten []) := hD
      exact mret_i hx hb hr hlocks hS (Nat.le_of_ble_eq_true rfl) (Nat.le_of_ble_eq_true rfl) dJ9_floorMod_7cf53_17 (x_13) rfl (show (0 ≤ x_13.toInt ∧ x_13.toInt ≤ 59) ∧ (x_13.toInt = x1.toInt % 60) from ⟨(by first | assumption | omega | decide | exact rfl | exact zb01 (by omega) | exact Or.inl (by decide) | exact Or.inr (by first | omega | decide)), (by first | assumption | omega | decide | exact rfl | exact zb01 (by omega) | exact Or.inl (by decide) | exact Or.inr (by first | omega | decide))⟩) hP hD
set_option maxRecDepth 100000 in
set_option maxHeartbeats 4000000 in
theorem c_g_atZ (l : Launch) (g : zG) (go : Nat) (gr : Nat) (gz : Int32) (gn : Int32) (fr : Nat → Int32) (ago : Int32) (what : Int32) (b_gz : 0 ≤ gz.toInt ∧ gz.toInt ≤ 60) (b_gn : 0 ≤ gn.toInt ∧ gn.toInt ≤ 59) (b_what : 0 ≤ what.toInt ∧ what.toInt ≤ 3) : zM' g l yX3_at (Cond.code yX3_at cX3_at 3 (some .int) :: zB) ({ frames := 1, cells := 0, slots := 0, locals := 22 } : Room) [.ref go, .int ago, .int what] [bLog g go gr gz gn fr] (fun _ : Unit => some (.int (zLgAt (zLgC fr gz gn) ago what.toInt.toNat))) (fun _ : Unit => True) (fun _ : Unit => [bLog g go gr gz gn fr]) := by
  refine zM'.of (cc := cX3_at) (maxL := 3) (rt := (some .int)) (by decide) rfl (Nat.le_of_ble_eq_true rfl) ?_
  intro p e s m args below meth c A ls St hr hlocks hin hK hT hA hP hD hS hl
  obtain ⟨hx, hb, hml, hown, hts⟩ := id St
  have hl : lv_has ls 3 [(0, .ref go), (1, .int ago), (2, .int what)] := hl
  refine lv_iload_n hx hb dX3_at_0 rfl (lv_at hl 1 rfl) ?_
  refine lv_if_lt (tgt := 12) hx hb dX3_at_1 (by decide) (fun cb9 => ?_) (fun cb9 => ?_)
  · skip
    have c1 : ago.toInt < 0 := zlti cb9 rfl (by decide)
    have n2 : ago.toInt ≤ (-1) := zL1 (b := 0) c1 (Int.le_refl _) (by decide)
    refine lv_iconst (v := (-1)) hx hb dX3_at_12 (by decide) ?_
    refine ztop (r := (zLgAt (zLgC fr gz gn) ago what.toInt.toNat)) (zLgAt_n (fun q9 => by have h9 := q9.1; have h8 : ago.toInt < gz.toInt := q9.2; omega)) ?_
    have hP : va_P g.1 vwCl (List.flatten [bLog g go gr gz gn fr]) s.heap := hP
    have hD : va_D A (List.flatten [bLog g go gr gz gn fr]) := hD
    exact mret_i hx hb hr hlocks hS (Nat.le_of_ble_eq_true rfl) (Nat.le_of_ble_eq_true rfl) dX3_at_13 () rfl trivial hP hD
  · skip
    have c3 : 0 ≤ ago.toInt := zle (Int32.not_lt.mp cb9) (by decide) rfl
    have n4 : 0 ≤ ago.toInt := Int.le_trans (Int.le_refl _) c3
    refine lv_iload_n hx hb dX3_at_4 rfl (lv_at hl 1 rfl) ?_
    refine lv_aload_n hx hb dX3_at_5 rfl (lv_at hl 0 rfl) ?_
    refine va_get (D := g.1) (ci := 3) (v := .int gz) (C := RX3) (T := TX3) (N := 3) hx hb hts izRX3 hown hK hP 0 rfl rfl 1 (by decide) (hts _ k118) (fun _ h9 => h9) rfl dX3_at_6 ?_
    refine lv_icmp_lt (tgt := 14) hx hb dX3_at_9 (by decide) (fun cb9 => ?_) (fun cb9 => ?_)
    · skip
      have c5 : ago.toInt < gz.toInt := zlti cb9 rfl rfl
      have n6 : ago.toInt ≤ 59 := zL1 (b := 60) c5 b_gz.2 (by decide)
      have n7 : 1 ≤ gz.toInt := zL2 (a := 0) c5 n4 (by decide)
      refine lv_aload_n hx hb dX3_at_14 rfl (lv_at hl 0 rfl) ?_
      refine va_get (D := g.1) (ci := 3) (v := .ref gr) (C := RX3) (T := TX3) (N := 3) hx hb hts izRX3 hown hK hP 0 rfl rfl 0 (by decide) (hts _ k117) (fun _ h9 => h9) rfl dX3_at_15 ?_
      refine lv_aload_n hx hb dX3_at_18 rfl (lv_at hl 0 rfl) ?_
      refine va_get (D := g.1) (ci := 3) (v := .int gn) (C := RX3) (T := TX3) (N := 3) hx hb hts izRX3 hown hK hP 0 rfl rfl 2 (by decide) (hts _ k116) (fun _ h9 => h9) rfl dX3_at_19 ?_
      refine lv_iconst (v := 1) hx hb dX3_at_22 (by decide) ?_
      refine lv_isub hx hb dX3_at_23 ?_
      refine zg3 (zsubK (i := gn.toInt) (j := 1) (a' := (-1)) (b' := 58) rfl (by decide) b_gn.1 b_gn.2 (Int.le_refl _) (Int.le_refl _) (by decide)) (fun x_8 hx_8 => ?_)
      refine lv_iload_n hx hb dX3_at_24 rfl (lv_at hl 1 rfl) ?_
      refine lv_isub hx hb dX3_at_25 ?_
      refine zg3 (zsubK (i := x_8.toInt) (j := ago.toInt) (a' := (-60)) (b' := 58) rfl rfl hx_8.2.1 hx_8.2.2 n4 n6 (by decide)) (fun x_9 hx_9 => ?_)
      refine lv_bipush (v := 60) hx hb dX3_at_26 (by decide) ?_
      refine mcallS' (g := g) (As := [.int x_9, .int 60]) (rest := [.ref gr]) St hK hT hA hP hD hS hl.1 [] [0] rfl rfl rfl (j_floorMod60F l g x_9 (⟨hx_9.2.1, (Int.le_trans hx_9.2.2 (by decide))⟩)) (va_cwS 2 hts (zgL (zl3 k335 k336 k337) k333) rfl rfl rfl (by decide +kernel) ⟨Nat.le_of_ble_eq_true rfl, Nat.le_of_ble_eq_true rfl⟩) rfl rfl (Nat.le_of_ble_eq_true rfl) dX3_at_28 ⟨(Nat.le_of_ble_eq_true rfl), (Nat.le_of_ble_eq_true rfl)⟩ (fun q_10 H locs hq11 hP hD hS => ?_)
      replace hq11 : (0 ≤ q_10.toInt ∧ q_10.toInt ≤ 59) ∧ (q_10.toInt = x_9.toInt % 60) := hq11
      have hP : va_P g.1 vwCl (List.flatten [bLog g go gr gz gn fr]) H := hP
      have hD : va_D A (List.flatten [bLog g go gr gz gn fr]) := hD
      refine W.widen (k := 0) (n := 0) (Nat.le_of_ble_eq_true rfl) (Nat.le_of_ble_eq_true rfl) ?_
      refine W.eq (g2 := F0 m 31 ls [.int q_10, .ref gr]) rfl ?_
      obtain ⟨hq11_0, hq11_1⟩ := hq11
      refine lv_iconst (v := 4) hx hb dX3_at_31 (by decide) ?_
      refine lv_imul hx hb dX3_at_32 ?_
      refine zg3 (zmulKR (i := q_10.toInt) (n := 4) (a' := 0) (b' := 236) rfl (by decide) hq11_0.1 hq11_0.2 (by decide) (by decide)) (fun x_12 hx_12 => ?_)
      refine lv_iload_n hx hb dX3_at_33 rfl (lv_at hl 2 rfl) ?_
      refine lv_iadd hx hb dX3_at_34 ?_
      refine zg3 (zaddK (i := x_12.toInt) (j := what.toInt) (a' := 0) (b' := 239) rfl rfl hx_12.2.1 hx_12.2.2 b_what.1 b_what.2 (by decide)) (fun x_13 hx_13 => ?_)
      refine va_iald hx hb hK hP 1 0 rfl rfl (zinK (a := 0) (b := 239) hx_13.2.1 hx_13.2.2 (by decide)) dX3_at_35 ?_
      refine ztop (r := (fr (4 * q_10.toInt.toNat + what.toInt.toNat))) (zixF (by omega)) ?_
      refine ztop (r := (zLgAt (zLgC fr gz gn) ago what.toInt.toNat)) (zLgAt_y ⟨by omega, (show ago.toInt < gz.toInt from by omega)⟩ (zLgC_at b_gn (by omega) (by omega) (by omega))) ?_
      have hP : va_P g.1 vwCl (List.flatten [bLog g go gr gz gn fr]) H := hP
      have hD : va_D A (List.flatten [bLog g go gr gz gn fr]) := hD
      exact mret_i hx hb hr hlocks hS (Nat.le_of_ble_eq_true rfl) (Nat.le_of_ble_eq_true rfl) dX3_at_36 () rfl trivial hP hD
    · skip
      have c14 : gz.toInt ≤ ago.toInt := zle (Int32.not_lt.mp cb9) rfl rfl
      refine lv_iconst (v := (-1)) hx hb dX3_at_12 (by decide) ?_
      refine ztop (r := (zLgAt (zLgC fr gz gn) ago what.toInt.toNat)) (zLgAt_n (fun q9 => by have h9 := q9.1; have h8 : ago.toInt < gz.toInt := q9.2; omega)) ?_
      have hP : va_P g.1 vwCl (List.flatten [bLog g go gr gz gn fr]) s.heap := hP
      have hD : va_D A (List.flatten [bLog g go gr gz gn fr]) := hD
      exact mret_i hx hb hr hlocks hS (Nat.le_of_ble_eq_true rfl) (Nat.le_of_ble_eq_true rfl) dX3_at_13 () rfl trivial hP hD
set_option maxRecDepth 100000 in
set_option maxHeartbeats 4000000 in
theorem c_x_logC (l : Launch) (hfl : l.stackTraces = false) (g : zG) (x : Nat) (ta : Nat) (o : Nat) (lo : Nat) (go : Nat) (tt : Nat) (lt : Nat) (mo : Nat) (fo : Nat) (ro : Nat) (fl9 : Int32) (gr : Nat) (gz : Int32) (gn : Int32) (fr : Nat → Int32) (ago : Int32) (wh : Int32) (b_gz : 0 ≤ gz.toInt ∧ gz.toInt ≤ 60) (b_gn : 0 ≤ gn.toInt ∧ gn.toInt ≤ 59) : zX' g l yX11_log (Cond.code yX11_log cX11_log 3 (some .int) :: zB) ({ frames := 6, cells := 1, slots := 6, locals := 82 } : Room) [.ref x, .int ago, .int wh] [bDR g x ta o lo go tt lt mo fo ro fl9, bLog g go gr gz gn fr] (fun (q : Int32) => some (.int q)) (fun (q : Int32) => ((0, q) = zgLog ago wh (zLgC fr gz gn))) (fun (q : Int32) => [bDR g x ta o lo go tt lt mo fo ro fl9, bLog g go gr gz gn fr]) (fun (E : String) (_ : Unit) => (E = "java/util/NoSuchElementException") ∧ (E = "java/util/NoSuchElementException" → (1, 0) = zgLog ago wh (zLgC fr gz gn))) (fun _ : Unit => [bDR g x ta o lo go tt lt mo fo ro fl9, bLog g go gr gz gn fr]) := by
  refine zX'.of (cc := cX11_log) (maxL := 3) (rt := (some .int)) (by decide) rfl (Nat.le_of_ble_eq_true rfl) ?_
  intro p e s m args below meth c A ls St hr hlocks htab hin hK hT hA hP hD hS hl
  obtain ⟨hx, hb, hml, hown, hts⟩ := id St
  have hl : lv_has ls 3 [(0, .ref x), (1, .int ago), (2, .int wh)] := hl
  refine lv_iload_n hx hb dX11_log_0 rfl (lv_at hl 2 rfl) ?_
  refine lv_if_lt (tgt := 9) hx hb dX11_log_1 (by decide) (fun cb9 => ?_) (fun cb9 => ?_)
  · skip
    have c1 : wh.toInt < 0 := zlti cb9 rfl (by decide)
    have n2 : wh.toInt ≤ (-1) := zL1 (b := 0) c1 (Int.le_refl _) (by decide)
    obtain ⟨sa3, hsa3⟩ := hT.1.2.2.1 _ (List.mem_of_getElem? (i := 5) rfl)
    exact nx_throw (A := A) hx hb hfl hown (hts _ k611) (hts _ k612) hsa3 (nx_hat hts (hT.1.2.2.2.2.1 _ (List.mem_of_getElem? (i := 4) rfl))) hT.1.1 hT.1.2.1 hS (by rw [hml]; exact hl.1) dX11_log_9 dX11_log_12 dX11_log_13 dX11_log_16 dX11_log_19 (fun x hx => (htab x hx).elim) (Nat.le_of_ble_eq_true rfl) (Nat.le_of_ble_eq_true rfl) (Nat.le_of_ble_eq_true rfl) (Nat.le_of_ble_eq_true rfl) hlocks (fun t ht hz hk => ⟨⟨(), ⟨rfl, (show "java/util/NoSuchElementException" = "java/util/NoSuchElementException" → (1, 0) = zgLog ago wh (zLgC fr gz gn) from (fun _ => zgLog_1 (by omega)))⟩, hP.kept (fun k q hq => hk q.1 (hP k q hq).lt), hD⟩, ⟨Nat.le_trans hS.1 hz, fun q h1 h2 => (hk q (Nat.lt_of_lt_of_le h1 hS.1)).trans (hS.2.1 q h1 h2)⟩⟩) hS.2.2 (Nat.le_of_ble_eq_true rfl) (Nat.le_of_ble_eq_true rfl)
  · skip
    have c4 : 0 ≤ wh.toInt := zle (Int32.not_lt.mp cb9) (by decide) rfl
    have n5 : 0 ≤ wh.toInt := Int.le_trans (Int.le_refl _) c4
    refine lv_iload_n hx hb dX11_log_4 rfl (lv_at hl 2 rfl) ?_
    refine lv_iconst (v := 4) hx hb dX11_log_5 (by decide) ?_
    refine lv_icmp_lt (tgt := 20) hx hb dX11_log_6 (by decide) (fun cb9 => ?_) (fun cb9 => ?_)
    · skip
      have c6 : wh.toInt < 4 := zlti cb9 rfl (by decide)
      have n7 : wh.toInt ≤ 3 := zL1 (b := 4) c6 (Int.le_refl _) (by decide)
      refine lv_aload_n hx hb dX11_log_20 rfl (lv_at hl 0 rfl) ?_
      refine va_get (D := g.1) (ci := 9) (v := .ref go) (C := RX11) (T := TX11) (N := 10) hx hb hts izRX11 hown hK hP 0 rfl rfl 3 (by decide) (hts _ k542) (fun _ h9 => h9) rfl dX11_log_21 ?_
      refine lv_iload_n hx hb dX11_log_24 rfl (lv_at hl 1 rfl) ?_
      refine lv_iload_n hx hb dX11_log_25 rfl (lv_at hl 2 rfl) ?_
      refine mcallV' (g := g) (q0 := 0) (ci := 3) (As := [.int ago, .int wh]) (rest := []) St hK hT hA hP hD hS hl.1 [1] [0] rfl rfl rfl (c_g_atZ l g go gr gz gn fr ago wh b_gz b_gn (⟨n5, n7⟩)) (cwV 2 hts (zgL (zl4 k791 k340 k341 k123) k334) rfl rfl rfl (by decide +kernel) ⟨Nat.le_of_ble_eq_true rfl, Nat.le_of_ble_eq_true rfl⟩) rfl rfl rfl rfl (Nat.le_of_ble_eq_true rfl) dX11_log_26 ⟨(Nat.le_of_ble_eq_true rfl), (Nat.le_of_ble_eq_true rfl)⟩ (fun _u H locs hq8 hP hD hS => ?_)
      have hP : va_P g.1 vwCl (List.flatten [bDR g x ta o lo go tt lt mo fo ro fl9, bLog g go gr gz gn fr]) H := hP
      have hD : va_D A (List.flatten [bDR g x ta o lo go tt lt mo fo ro fl9, bLog g go gr gz gn fr]) := hD
      refine W.widen (k := 0) (n := 0) (Nat.le_of_ble_eq_true rfl) (Nat.le_of_ble_eq_true rfl) ?_
      refine W.eq (g2 := F0 m 29 ls [.int (zLgAt (zLgC fr gz gn) ago wh.toInt.toNat)]) rfl ?_
      have hP : va_P g.1 vwCl (List.flatten [bDR g x ta o lo go tt lt mo fo ro fl9, bLog g go gr gz gn fr]) H := hP
      have hD : va_D A (List.flatten [bDR g x ta o lo go tt lt mo fo ro fl9, bLog g go gr gz gn fr]) := hD
      exact zret_i hx hb hr hlocks hS (Nat.le_of_ble_eq_true rfl) (Nat.le_of_ble_eq_true rfl) dX11_log_29 (zLgAt (zLgC fr gz gn) ago wh.toInt.toNat) rfl (show ((0, (zLgAt (zLgC fr gz gn) ago wh.toInt.toNat)) = zgLog ago wh (zLgC fr gz gn)) from (zgLog_0 (by omega) rfl)) hP hD
    · skip
      have c9 : 4 ≤ wh.toInt := zle (Int32.not_lt.mp cb9) (by decide) rfl
      have n10 : 4 ≤ wh.toInt := Int.le_trans (Int.le_refl _) c9
      obtain ⟨sa11, hsa11⟩ := hT.1.2.2.1 _ (List.mem_of_getElem? (i := 5) rfl)
      exact nx_throw (A := A) hx hb hfl hown (hts _ k611) (hts _ k612) hsa11 (nx_hat hts (hT.1.2.2.2.2.1 _ (List.mem_of_getElem? (i := 4) rfl))) hT.1.1 hT.1.2.1 hS (by rw [hml]; exact hl.1) dX11_log_9 dX11_log_12 dX11_log_13 dX11_log_16 dX11_log_19 (fun x hx => (htab x hx).elim) (Nat.le_of_ble_eq_true rfl) (Nat.le_of_ble_eq_true rfl) (Nat.le_of_ble_eq_true rfl) (Nat.le_of_ble_eq_true rfl) hlocks (fun t ht hz hk => ⟨⟨(), ⟨rfl, (show "java/util/NoSuchElementException" = "java/util/NoSuchElementException" → (1, 0) = zgLog ago wh (zLgC fr gz gn) from (fun _ => zgLog_1 (by omega)))⟩, hP.kept (fun k q hq => hk q.1 (hP k q hq).lt), hD⟩, ⟨Nat.le_trans hS.1 hz, fun q h1 h2 => (hk q (Nat.lt_of_lt_of_le h1 hS.1)).trans (hS.2.1 q h1 h2)⟩⟩) hS.2.2 (Nat.le_of_ble_eq_true rfl) (Nat.le_of_ble_eq_true rfl)
set_option maxRecDepth 100000 in
set_option maxHeartbeats 4000000 in
theorem l_logC (l : Launch) (hfl : l.stackTraces = false) (g : zG) (x : Nat) (ta : Nat) (o : Nat) (lo : Nat) (go : Nat) (tt : Nat) (lt : Nat) (mo : Nat) (fo : Nat) (ro : Nat) (fl9 : Int32) (gr : Nat) (gz : Int32) (gn : Int32) (fr : Nat → Int32) (oa : Nat) (fz : Nat → Int64) (ago : Int32) (wh : Int32) (b_gz : 0 ≤ gz.toInt ∧ gz.toInt ≤ 60) (b_gn : 0 ≤ gn.toInt ∧ gn.toInt ≤ 59) : zX' g l yL_log (Cond.codeWith yL_log cL_log 5 (some .int) [(0, 10, 13, 26)] :: zB) ({ frames := 7, cells := 1, slots := 6, locals := 104 } : Room) [.ref x, .int ago, .int wh, .ref oa] [bDR g x ta o lo go tt lt mo fo ro fl9, bLog g go gr gz gn fr, bOut g oa fz] (fun u : (Nat → Int64) × Int32 × Int32 => (fun (fz2 : Nat → Int64) (q : Int32) (a9 : Int32) => some (.int q)) (u.1) (u.2.1) (u.2.2)) (fun u : (Nat → Int64) × Int32 × Int32 => (fun (fz2 : Nat → Int64) (q : Int32) (a9 : Int32) => ((q, a9) = zgLog ago wh (zLgC fr gz gn)) ∧ (q.toInt = 0 → fz2 0 = Int32.toInt64 a9)) (u.1) (u.2.1) (u.2.2)) (fun u : (Nat → Int64) × Int32 × Int32 => (fun (fz2 : Nat → Int64) (q : Int32) (a9 : Int32) => [bDR g x ta o lo go tt lt mo fo ro fl9, bLog g go gr gz gn fr, bOut g oa fz2]) (u.1) (u.2.1) (u.2.2)) zNo zN0 := by
  refine zX'.ofH (cc := cL_log) (maxL := 5) (rt := (some .int)) (by decide) rfl (Nat.le_of_ble_eq_true rfl) ?_
  intro p e s m args below meth c A ls St hr hlocks htab hin hK hT hA hP hD hS hl
  obtain ⟨hx, hb, hml, hown, hts⟩ := id St
  have hl : lv_has ls 5 [(0, .ref x), (1, .int ago), (2, .int wh), (3, .ref oa)] := hl
  refine lv_aload_n hx hb dL_log_0 rfl (lv_at hl 3 rfl) ?_
  refine lv_iconst (v := 0) hx hb dL_log_1 (by decide) ?_
  refine lv_aload_n hx hb dL_log_2 rfl (lv_at hl 0 rfl) ?_
  refine lv_iload_n hx hb dL_log_3 rfl (lv_at hl 1 rfl) ?_
  refine lv_iload_n hx hb dL_log_4 rfl (lv_at hl 2 rfl) ?_
  refine xcallV' (g := g) (q0 := 0) (ci := 9) (As := [.int ago, .int wh]) (rest := [.int 0, .ref oa]) St hK hT hA hP hD hS hl.1 [0, 1] [2] rfl rfl rfl (c_x_logC l hfl g x ta o lo go tt lt mo fo ro fl9 gr gz gn fr ago wh b_gz b_gn) (cwV 2 hts (zgL (zl4 k1289 k1290 k1291 k621) k790) rfl rfl rfl (by decide +kernel) ⟨Nat.le_of_ble_eq_true rfl, Nat.le_of_ble_eq_true rfl⟩) rfl rfl rfl rfl (Nat.le_of_ble_eq_true rfl) dL_log_5 ⟨(Nat.le_of_ble_eq_true rfl), (Nat.le_of_ble_eq_true rfl)⟩ (fun E ce q9 u9 H locs hpx hP hD hS hce hcv hcl => ?_) (fun q_1 H locs hq2 hP hD hS => ?_)
  · skip
    have hpx : (E = "java/util/NoSuchElementException") ∧ (E = "java/util/NoSuchElementException" → (1, 0) = zgLog ago wh (zLgC fr gz gn)) := hpx
    have hP : va_P g.1 vwCl (List.flatten [bOut g oa fz, bDR g x ta o lo go tt lt mo fo ro fl9, bLog g go gr gz gn fr]) H := hP
    have hD : va_D A (List.flatten [bOut g oa fz, bDR g x ta o lo go tt lt mo fo ro fl9, bLog g go gr gz gn fr]) := hD
    obtain ⟨hE9, hy3⟩ := hpx
    obtain rfl := hE9
    refine vx_catch hown [] ⟨0, 10, 13, 26⟩ [] (by rw [htab]; rfl) (fun z hz => absurd hz List.not_mem_nil) (by decide) (by decide) (hts _ k1166) ((hT.1.2.2.2.2.1 _ (List.mem_of_getElem? (i := 4) rfl)).use) hce hcv hcl ?_
    refine W.widen (k := 1) (n := 6) (Nat.le_of_ble_eq_true rfl) (Nat.le_of_ble_eq_true rfl) ?_
    refine lv_astore (lv' := [(4, .ref q9), (0, .ref x), (1, .int ago), (2, .int wh), (3, .ref oa)]) hx hb dL_log_13 hl (by decide) rfl (fun ls hl => ?_)
    refine lv_iconst (v := 1) hx hb dL_log_15 (by decide) ?_
    have hL1 : (1 : Int32).toInt = 1 := by decide
    have hP : va_P g.1 vwCl (List.flatten [bOut g oa fz, bDR g x ta o lo go tt lt mo fo ro fl9, bLog g go gr gz gn fr]) H := hP
    have hD : va_D A (List.flatten [bOut g oa fz, bDR g x ta o lo go tt lt mo fo ro fl9, bLog g go gr gz gn fr]) := hD
    obtain ⟨hP, hD⟩ := zord (g := g) (Bs' := [bDR g x ta o lo go tt lt mo fo ro fl9, bLog g go gr gz gn fr, bOut g oa fz]) [1, 2, 0] rfl rfl hP hD
    exact zret_i hx hb hr hlocks hS (Nat.le_of_ble_eq_true rfl) (Nat.le_of_ble_eq_true rfl) dL_log_16 (fz, (1 : Int32), (0 : Int32)) rfl (show ((1, 0) = zgLog ago wh (zLgC fr gz gn)) ∧ ((1 : Int32).toInt = 0 → fz 0 = Int32.toInt64 0) from ⟨(hy3 rfl), (fun h9 => absurd h9 (by decide))⟩) hP hD
  · skip
    replace hq2 : ((0, q_1) = zgLog ago wh (zLgC fr gz gn)) := hq2
    have hP : va_P g.1 vwCl (List.flatten [bOut g oa fz, bDR g x ta o lo go tt lt mo fo ro fl9, bLog g go gr gz gn fr]) H := hP
    have hD : va_D A (List.flatten [bOut g oa fz, bDR g x ta o lo go tt lt mo fo ro fl9, bLog g go gr gz gn fr]) := hD
    refine W.widen (k := 1) (n := 6) (Nat.le_of_ble_eq_true rfl) (Nat.le_of_ble_eq_true rfl) ?_
    refine W.eq (g2 := F0 m 8 ls [.int q_1, .int 0, .ref oa]) rfl ?_
    refine lv_i2l (v := (q_1 : Int32).toInt64) hx hb dL_log_8 rfl ?_
    refine va_last hx hb hK hP hD hS 0 2 rfl rfl (zin rfl) dL_log_9 (fun H locs hP hD hS => ?_)
    have hP : va_P g.1 vwCl (List.flatten [[(oa, .inl (g.2 2, 1, .inr (.inl (vp_updL fz 0 ((q_1 : Int32).toInt64)))))], bDR g x ta o lo go tt lt mo fo ro fl9, bLog g go gr gz gn fr]) H := hP
    have hD : va_D A (List.flatten [[(oa, .inl (g.2 2, 1, .inr (.inl (vp_updL fz 0 ((q_1 : Int32).toInt64)))))], bDR g x ta o lo go tt lt mo fo ro fl9, bLog g go gr gz gn fr]) := hD
    refine lv_goto (tgt := 17) hx hb dL_log_10 (by decide) ?_
    refine lv_iconst (v := 0) hx hb dL_log_17 (by decide) ?_
    have hL0 : (0 : Int32).toInt = 0 := by decide
    have hP : va_P g.1 vwCl (List.flatten [bOut g oa (vp_updL fz 0 ((q_1 : Int32).toInt64)), bDR g x ta o lo go tt lt mo fo ro fl9, bLog g go gr gz gn fr]) H := hP
    have hD : va_D A (List.flatten [bOut g oa (vp_updL fz 0 ((q_1 : Int32).toInt64)), bDR g x ta o lo go tt lt mo fo ro fl9, bLog g go gr gz gn fr]) := hD
    obtain ⟨hP, hD⟩ := zord (g := g) (Bs' := [bDR g x ta o lo go tt lt mo fo ro fl9, bLog g go gr gz gn fr, bOut g oa (vp_updL fz 0 ((q_1 : Int32).toInt64))]) [1, 2, 0] rfl rfl hP hD
    exact zret_i hx hb hr hlocks hS (Nat.le_of_ble_eq_true rfl) (Nat.le_of_ble_eq_true rfl) dL_log_18 (vp_updL fz 0 ((q_1 : Int32).toInt64), (0 : Int32), q_1) rfl (show ((0, q_1) = zgLog ago wh (zLgC fr gz gn)) ∧ ((0 : Int32).toInt = 0 → (vp_updL fz 0 ((q_1 : Int32).toInt64)) 0 = Int32.toInt64 q_1) from ⟨hq2, (fun _ => rfl)⟩) hP hD
set_option maxRecDepth 100000 in
set_option maxHeartbeats 4000000 in
theorem m_loggedG (l : Launch) (g : zG) (o : Nat) (a : Nat → Nat) (th : Int32) (hi : Int32) (ac : Int32) (tp : Int32) (ba : Int32) (en : Int32) (tA : Int32) (fl : Int32) (de : Int32) (iD : Int32) (iO : Int32) (tU : Int32) (fm : Nat → Int32) (fk : Nat → Int32) (fa : Nat → Int32) (fc : Nat → Int32) (ft : Nat → Int32) (ff : Nat → Int32) (fb : Nat → Int32) (fi : Nat → Int32) (ago : Int32) (what : Int32) (b_ago : 0 ≤ ago.toInt ∧ ago.toInt ≤ 59) (b_what : 0 ≤ what.toInt ∧ what.toInt ≤ 3) : zM' g l yX12_logged (Cond.code yX12_logged cX12_logged 3 (some .int) :: zB) ({ frames := 0, cells := 0, slots := 0, locals := 0 } : Room) [.ref o, .int ago, .int what] [bMo g o a th hi ac tp ba en tA fl de iD iO tU fm fk fa fc ft ff fb fi] (fun _ : Unit => some (.int (fm (139 + (4 * ago.toInt.toNat + what.toInt.toNat))))) (fun _ : Unit => True) (fun _ : Unit => [bMo g o a th hi ac tp ba en tA fl de iD iO tU fm fk fa fc ft ff fb fi]) := by
  refine zM'.of (cc := cX12_logged) (maxL := 3) (rt := (some .int)) (by decide) rfl (Nat.le_of_ble_eq_true rfl) ?_
  intro p e s m args below meth c A ls St hr hlocks hin hK hT hA hP hD hS hl
  obtain ⟨hx, hb, hml, hown, hts⟩ := id St
  have hl : lv_has ls 3 [(0, .ref o), (1, .int ago), (2, .int what)] := hl
  refine lv_aload_n hx hb dX12_logged_0 rfl (lv_at hl 0 rfl) ?_
  refine va_get (D := g.1) (ci := 10) (v := .ref (a 0)) (C := RX12) (T := TX12) (N := 20) hx hb hts izRX12 hown hK hP 0 rfl rfl 1 (by decide) (hts _ k815) (fun _ h9 => h9) rfl dX12_logged_1 ?_
  refine lv_sipush (v := 139) hx hb dX12_logged_4 (by decide) ?_
  refine lv_iconst (v := 4) hx hb dX12_logged_7 (by decide) ?_
  refine lv_iload_n hx hb dX12_logged_8 rfl (lv_at hl 1 rfl) ?_
  refine lv_imul hx hb dX12_logged_9 ?_
  refine zg3 (zmulKL (i := ago.toInt) (n := 4) (a' := 0) (b' := 236) rfl (by decide) b_ago.1 b_ago.2 (by decide) (by decide)) (fun x_1 hx_1 => ?_)
  refine lv_iadd hx hb dX12_logged_10 ?_
  refine zg3 (zaddK (i := 139) (j := x_1.toInt) (a' := 139) (b' := 375) (by decide) rfl (Int.le_refl _) (Int.le_refl _) hx_1.2.1 hx_1.2.2 (by decide)) (fun x_2 hx_2 => ?_)
  refine lv_iload_n hx hb dX12_logged_11 rfl (lv_at hl 2 rfl) ?_
  refine lv_iadd hx hb dX12_logged_12 ?_
  refine zg3 (zaddK (i := x_2.toInt) (j := what.toInt) (a' := 139) (b' := 378) rfl rfl hx_2.2.1 hx_2.2.2 b_what.1 b_what.2 (by decide)) (fun x_3 hx_3 => ?_)
  refine va_iald hx hb hK hP 1 0 rfl rfl (zinK (a := 139) (b := 378) hx_3.2.1 hx_3.2.2 (by decide)) dX12_logged_13 ?_
  refine ztop (r := (fm (139 + (4 * ago.toInt.toNat + what.toInt.toNat)))) (zixF (by omega)) ?_
  refine ztop (r := (fm (139 + (4 * ago.toInt.toNat + what.toInt.toNat)))) rfl ?_
  have hP : va_P g.1 vwCl (List.flatten [bMo g o a th hi ac tp ba en tA fl de iD iO tU fm fk fa fc ft ff fb fi]) s.heap := hP
  have hD : va_D A (List.flatten [bMo g o a th hi ac tp ba en tA fl de iD iO tU fm fk fa fc ft ff fb fi]) := hD
  exact mret_i hx hb hr hlocks hS (Nat.le_of_ble_eq_true rfl) (Nat.le_of_ble_eq_true rfl) dX12_logged_14 () rfl trivial hP hD
set_option maxRecDepth 100000 in
set_option maxHeartbeats 4000000 in
theorem m_logC (l : Launch) (g : zG) (o : Nat) (a : Nat → Nat) (th : Int32) (hi : Int32) (ac : Int32) (tp : Int32) (ba : Int32) (en : Int32) (tA : Int32) (fl : Int32) (de : Int32) (iD : Int32) (iO : Int32) (tU : Int32) (fm : Nat → Int32) (fk : Nat → Int32) (fa : Nat → Int32) (fc : Nat → Int32) (ft : Nat → Int32) (ff : Nat → Int32) (fb : Nat → Int32) (fi : Nat → Int32) (ago : Int32) (what : Int32) (rfm : rM fm) : zM' g l yX12_log (Cond.code yX12_log cX12_log 3 (some .int) :: zB) ({ frames := 1, cells := 0, slots := 0, locals := 22 } : Room) [.ref o, .int ago, .int what] [bMo g o a th hi ac tp ba en tA fl de iD iO tU fm fk fa fc ft ff fb fi] (fun u : Int32 × Int32 => (fun (th2 : Int32) (q : Int32) => some (.int q)) (u.1) (u.2)) (fun u : Int32 × Int32 => (fun (th2 : Int32) (q : Int32) => ((th2, q) = zgLog ago what (zLgM fm))) (u.1) (u.2)) (fun u : Int32 × Int32 => (fun (th2 : Int32) (q : Int32) => [bMo g o a th2 hi ac tp ba en tA fl de iD iO tU fm fk fa fc ft ff fb fi]) (u.1) (u.2)) := by
  refine zM'.of (cc := cX12_log) (maxL := 3) (rt := (some .int)) (by decide) rfl (Nat.le_of_ble_eq_true rfl) ?_
  intro p e s m args below meth c A ls St hr hlocks hin hK hT hA hP hD hS hl
  obtain ⟨hx, hb, hml, hown, hts⟩ := id St
  have hl : lv_has ls 3 [(0, .ref o), (1, .int ago), (2, .int what)] := hl
  have hrm9 := rM9 rfm
  have hrm3 := rM3 rfm
  have hrm4 := rM4 rfm
  refine lv_aload_n hx hb dX12_log_0 rfl (lv_at hl 0 rfl) ?_
  refine lv_iload_n hx hb dX12_log_1 rfl (lv_at hl 2 rfl) ?_
  refine lv_iconst (v := 0) hx hb dX12_log_2 (by decide) ?_
  refine lv_iconst (v := 3) hx hb dX12_log_3 (by decide) ?_
  have hL0 : (0 : Int32).toInt = 0 := by decide
  have hL3 : (3 : Int32).toInt = 3 := by decide
  refine mcallS' (g := g) (As := [.int what, .int 0, .int 3]) (rest := [.ref o]) St hK hT hA hP hD hS hl.1 [] [0] rfl rfl rfl (m_isIn l g what 0 3 ) (va_cwS 3 hts (zgL (zl3 k837 k838 k839) k826) rfl rfl rfl (by decide +kernel) ⟨Nat.le_of_ble_eq_true rfl, Nat.le_of_ble_eq_true rfl⟩) rfl rfl (Nat.le_of_ble_eq_true rfl) dX12_log_4 ⟨(Nat.le_of_ble_eq_true rfl), (Nat.le_of_ble_eq_true rfl)⟩ (fun q_1 H locs hq2 hP hD hS => ?_)
  replace hq2 : (q_1 = 1 ∧ (0 : Int32).toInt ≤ what.toInt ∧ what.toInt ≤ (3 : Int32).toInt ∨ q_1 = 0 ∧ (what.toInt < (0 : Int32).toInt ∨ (3 : Int32).toInt < what.toInt)) := hq2
  have hP : va_P g.1 vwCl (List.flatten [bMo g o a th hi ac tp ba en tA fl de iD iO tU fm fk fa fc ft ff fb fi]) H := hP
  have hD : va_D A (List.flatten [bMo g o a th hi ac tp ba en tA fl de iD iO tU fm fk fa fc ft ff fb fi]) := hD
  refine W.widen (k := 0) (n := 0) (Nat.le_of_ble_eq_true rfl) (Nat.le_of_ble_eq_true rfl) ?_
  refine W.eq (g2 := F0 m 7 ls [.int q_1, .ref o]) rfl ?_
  rcases hq2 with ⟨rfl, hq2_k⟩ | ⟨rfl, hq2_k⟩
  · skip
    refine lv_if_ne (tgt := 14) hx hb dX12_log_7 (by decide) (fun _ => ?_) (fun c3 => absurd c3 (by decide))
    refine lv_iconst (v := 0) hx hb dX12_log_14 (by decide) ?_
    refine va_put (D := g.1) (ci := 10) (v := .int 0) (ty := .int) (C := RX12) (T := TX12) (N := 20) hx hb hts izRX12 tyX12 tyX12_ok nmX12 hown hK hP hD hS 0 rfl rfl 0 (by decide) (hts _ k825) (fun _ h9 => h9) rfl (by decide +kernel) rfl rfl (Nat.le_of_ble_eq_true rfl) dX12_log_15 (fun H locs hP hD hS => ?_)
    have hP : va_P g.1 vwCl (List.flatten [bMo g o a 0 hi ac tp ba en tA fl de iD iO tU fm fk fa fc ft ff fb fi]) H := hP
    have hD : va_D A (List.flatten [bMo g o a 0 hi ac tp ba en tA fl de iD iO tU fm fk fa fc ft ff fb fi]) := hD
    refine lv_aload_n hx hb dX12_log_18 rfl (lv_at hl 0 rfl) ?_
    refine va_get (D := g.1) (ci := 10) (v := .int 0) (C := RX12) (T := TX12) (N := 20) hx hb hts izRX12 hown hK hP 0 rfl rfl 0 (by decide) (hts _ k825) (fun _ h9 => h9) rfl dX12_log_19 ?_
    refine lv_if_le (tgt := 27) hx hb dX12_log_22 (by decide) (fun _ => ?_) (fun c4 => absurd (by decide) c4)
    refine lv_iload_n hx hb dX12_log_27 rfl (lv_at hl 1 rfl) ?_
    refine lv_iconst (v := 0) hx hb dX12_log_28 (by decide) ?_
    refine lv_aload_n hx hb dX12_log_29 rfl (lv_at hl 0 rfl) ?_
    refine va_get (D := g.1) (ci := 10) (v := .ref (a 0)) (C := RX12) (T := TX12) (N := 20) hx hb hts izRX12 hown hK hP 0 rfl rfl 1 (by decide) (hts _ k815) (fun _ h9 => h9) rfl dX12_log_30 ?_
    refine lv_bipush (v := 9) hx hb dX12_log_33 (by decide) ?_
    refine va_iald hx hb hK hP 1 0 rfl rfl (zin rfl) dX12_log_35 ?_
    refine ztop (r := (fm 9)) rfl ?_
    refine lv_iconst (v := 1) hx hb dX12_log_36 (by decide) ?_
    refine lv_isub hx hb dX12_log_37 ?_
    refine zg3 (zsubK (i := (fm 9).toInt) (j := 1) (a' := (-1)) (b' := 59) rfl (by decide) (rM9 rfm).1 (rM9 rfm).2 (Int.le_refl _) (Int.le_refl _) (by decide)) (fun x_5 hx_5 => ?_)
    refine mcallS' (g := g) (As := [.int ago, .int 0, .int x_5]) (rest := []) St hK hT hA hP hD hS hl.1 [] [0] rfl rfl rfl (m_isIn l g ago 0 x_5 ) (va_cwS 3 hts (zgL (zl3 k837 k838 k839) k826) rfl rfl rfl (by decide +kernel) ⟨Nat.le_of_ble_eq_true rfl, Nat.le_of_ble_eq_true rfl⟩) rfl rfl (Nat.le_of_ble_eq_true rfl) dX12_log_38 ⟨(Nat.le_of_ble_eq_true rfl), (Nat.le_of_ble_eq_true rfl)⟩ (fun q_6 H locs hq7 hP hD hS => ?_)
    replace hq7 : (q_6 = 1 ∧ (0 : Int32).toInt ≤ ago.toInt ∧ ago.toInt ≤ x_5.toInt ∨ q_6 = 0 ∧ (ago.toInt < (0 : Int32).toInt ∨ x_5.toInt < ago.toInt)) := hq7
    have hP : va_P g.1 vwCl (List.flatten [bMo g o a 0 hi ac tp ba en tA fl de iD iO tU fm fk fa fc ft ff fb fi]) H := hP
    have hD : va_D A (List.flatten [bMo g o a 0 hi ac tp ba en tA fl de iD iO tU fm fk fa fc ft ff fb fi]) := hD
    refine W.widen (k := 0) (n := 0) (Nat.le_of_ble_eq_true rfl) (Nat.le_of_ble_eq_true rfl) ?_
    refine W.eq (g2 := F0 m 41 ls [.int q_6]) rfl ?_
    rcases hq7 with ⟨rfl, hq7_k⟩ | ⟨rfl, hq7_k⟩
    · skip
      refine lv_if_eq (tgt := 53) hx hb dX12_log_41 (by decide) (fun c8 => absurd c8 (by decide)) (fun _ => ?_)
      refine lv_aload_n hx hb dX12_log_44 rfl (lv_at hl 0 rfl) ?_
      refine lv_iload_n hx hb dX12_log_45 rfl (lv_at hl 1 rfl) ?_
      refine lv_iload_n hx hb dX12_log_46 rfl (lv_at hl 2 rfl) ?_
      refine mcallV' (g := g) (q0 := 0) (ci := 10) (As := [.int ago, .int what]) (rest := []) St hK hT hA hP hD hS hl.1 [0] [] rfl rfl rfl (m_loggedG l g o a 0 hi ac tp ba en tA fl de iD iO tU fm fk fa fc ft ff fb fi ago what (by first | assumption | omega | decide | exact Or.inl (by decide) | exact Or.inr (by decide)) (by first | assumption | omega | decide | exact Or.inl (by decide) | exact Or.inr (by decide))) (cwV 2 hts (zgL (zl4 k1139 k1140 k1141 k839) k1137) rfl rfl rfl (by decide +kernel) ⟨Nat.le_of_ble_eq_true rfl, Nat.le_of_ble_eq_true rfl⟩) rfl rfl rfl rfl (Nat.le_of_ble_eq_true rfl) dX12_log_47 ⟨(Nat.le_of_ble_eq_true rfl), (Nat.le_of_ble_eq_true rfl)⟩ (fun _u H locs hq9 hP hD hS => ?_)
      have hP : va_P g.1 vwCl (List.flatten [bMo g o a 0 hi ac tp ba en tA fl de iD iO tU fm fk fa fc ft ff fb fi]) H := hP
      have hD : va_D A (List.flatten [bMo g o a 0 hi ac tp ba en tA fl de iD iO tU fm fk fa fc ft ff fb fi]) := hD
      refine W.widen (k := 0) (n := 0) (Nat.le_of_ble_eq_true rfl) (Nat.le_of_ble_eq_true rfl) ?_
      refine W.eq (g2 := F0 m 50 ls [.int (fm (139 + (4 * ago.toInt.toNat + what.toInt.toNat)))]) rfl ?_
      refine lv_goto (tgt := 54) hx hb dX12_log_50 (by decide) ?_
      have hP : va_P g.1 vwCl (List.flatten [bMo g o a 0 hi ac tp ba en tA fl de iD iO tU fm fk fa fc ft ff fb fi]) H := hP
      have hD : va_D A (List.flatten [bMo g o a 0 hi ac tp ba en tA fl de iD iO tU fm fk fa fc ft ff fb fi]) := hD
      exact mret_i hx hb hr hlocks hS (Nat.le_of_ble_eq_true rfl) (Nat.le_of_ble_eq_true rfl) dX12_log_54 ((0 : Int32), fm (139 + (4 * ago.toInt.toNat + what.toInt.toNat))) rfl (show ((0, (fm (139 + (4 * ago.toInt.toNat + what.toInt.toNat)))) = zgLog ago what (zLgM fm)) from (zgLog_0 (by omega) (zLgM_at ⟨by omega, by omega⟩ rfl))) hP hD
    · skip
      refine lv_if_eq (tgt := 53) hx hb dX12_log_41 (by decide) (fun _ => ?_) (fun c10 => absurd (by decide) c10)
      refine lv_iconst (v := (-1)) hx hb dX12_log_53 (by decide) ?_
      have hP : va_P g.1 vwCl (List.flatten [bMo g o a 0 hi ac tp ba en tA fl de iD iO tU fm fk fa fc ft ff fb fi]) H := hP
      have hD : va_D A (List.flatten [bMo g o a 0 hi ac tp ba en tA fl de iD iO tU fm fk fa fc ft ff fb fi]) := hD
      exact mret_i hx hb hr hlocks hS (Nat.le_of_ble_eq_true rfl) (Nat.le_of_ble_eq_true rfl) dX12_log_54 ((0 : Int32), -1) rfl (show ((0, (-1)) = zgLog ago what (zLgM fm)) from (zgLog_0 (by omega) (zLgAt_n (fun q9 => by have h9 := q9.1; have h8 : ago.toInt < (fm 9).toInt := q9.2; omega)))) hP hD
  · skip
    refine lv_if_ne (tgt := 14) hx hb dX12_log_7 (by decide) (fun c11 => absurd (by decide) c11) (fun _ => ?_)
    refine lv_iconst (v := 1) hx hb dX12_log_10 (by decide) ?_
    refine lv_goto (tgt := 15) hx hb dX12_log_11 (by decide) ?_
    refine va_put (D := g.1) (ci := 10) (v := .int 1) (ty := .int) (C := RX12) (T := TX12) (N := 20) hx hb hts izRX12 tyX12 tyX12_ok nmX12 hown hK hP hD hS 0 rfl rfl 0 (by decide) (hts _ k825) (fun _ h9 => h9) rfl (by decide +kernel) rfl rfl (Nat.le_of_ble_eq_true rfl) dX12_log_15 (fun H locs hP hD hS => ?_)
    have hP : va_P g.1 vwCl (List.flatten [bMo g o a 1 hi ac tp ba en tA fl de iD iO tU fm fk fa fc ft ff fb fi]) H := hP
    have hD : va_D A (List.flatten [bMo g o a 1 hi ac tp ba en tA fl de iD iO tU fm fk fa fc ft ff fb fi]) := hD
    refine lv_aload_n hx hb dX12_log_18 rfl (lv_at hl 0 rfl) ?_
    refine va_get (D := g.1) (ci := 10) (v := .int 1) (C := RX12) (T := TX12) (N := 20) hx hb hts izRX12 hown hK hP 0 rfl rfl 0 (by decide) (hts _ k825) (fun _ h9 => h9) rfl dX12_log_19 ?_
    refine lv_if_le (tgt := 27) hx hb dX12_log_22 (by decide) (fun c12 => absurd c12 (by decide)) (fun _ => ?_)
    refine lv_iconst (v := 0) hx hb dX12_log_25 (by decide) ?_
    have hP : va_P g.1 vwCl (List.flatten [bMo g o a 1 hi ac tp ba en tA fl de iD iO tU fm fk fa fc ft ff fb fi]) H := hP
    have hD : va_D A (List.flatten [bMo g o a 1 hi ac tp ba en tA fl de iD iO tU fm fk fa fc ft ff fb fi]) := hD
    exact mret_i hx hb hr hlocks hS (Nat.le_of_ble_eq_true rfl) (Nat.le_of_ble_eq_true rfl) dX12_log_26 ((1 : Int32), (0 : Int32)) rfl (show ((1, 0) = zgLog ago what (zLgM fm)) from (zgLog_1 (by omega))) hP hD
