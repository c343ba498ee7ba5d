/-! WHAT IS ASKED: dreams of the class -/
theorem zLk_0 {L : zLw} {st by9 : Int32} {n : Nat} {s : zT9} (h : st = 0) (b : 0 ≤ s.1.toInt ∧ s.1.toInt ≤ 8) : zLk L st by9 n s = zGo L 0 n s := by
  unfold zLk
  rw [zRs_0 h _ (by omega)]; rfl
theorem zRsC_0 {st by9 k : Int32} {f h : zRw} (e : zEq h f) (hk : k.toInt = 0) : zEq h (zRsT st by9 k.toInt.toNat f) := by rw [hk]; exact e
theorem zRsC_n {st by9 k k' : Int32} {f h : zRw} (J : zEq h (zRsT st by9 k.toInt.toNat f)) (hk : k'.toInt = k.toInt + 1) (h0 : 0 ≤ k.toInt ∧ k.toInt < 8) (q : ((st >>> (k &&& 31)) &&& 1).toInt = 0) : zEq h (zRsT st by9 k'.toInt.toNat f) := by
  rw [show k'.toInt.toNat = k.toInt.toNat + 1 by omega]
  rw [znat h0.1] at q
  refine zEq_t ?_ (zRs1_c (by omega) J)
  rw [← zRs_n q]; exact zEq_r _
theorem zRsC_y {st by9 k k' : Int32} {f h h1 : zRw} (J : zEq h (zRsT st by9 k.toInt.toNat f)) (hk : k'.toInt = k.toInt + 1) (h0 : 0 ≤ k.toInt ∧ k.toInt < 8) (q : ¬ ((st >>> (k &&& 31)) &&& 1).toInt = 0) (e : h1 = zSet h 0 k.toInt.toNat (zCl (h 0 k.toInt.toNat + by9))) : zEq h1 (zRsT st by9 k'.toInt.toNat f) := by
  rw [show k'.toInt.toNat = k.toInt.toNat + 1 by omega]
  rw [znat h0.1] at q
  refine zEq_t ?_ (zRs1_c (by omega) J)
  rw [← zRs_y q e]; exact zEq_r _
theorem zLkC_0 {L : zLw} {st by9 k j : Int32} {pe wo tx ch jo tr dy sd : Int32} {f h : zRw} (J : zEq h (zRsT st by9 k.toInt.toNat f)) (e : k.toInt = pe.toInt) (hj : j.toInt = 0) : zR9 (pe, wo, tx, ch, jo, tr, dy, sd, h) (zGo L 0 j.toInt.toNat (zwf (pe, wo, tx, ch, jo, tr, dy, sd, f) (zRsT st by9 pe.toInt.toNat f))) := by
  rw [hj]
  rw [e] at J
  exact zR9_f J
theorem zLkC_x {L : zLw} {st by9 k n : Int32} {s t : zT9} (J : zR9 t (zGo L 0 k.toInt.toNat (zwf s (zRsT st by9 s.1.toInt.toNat s.2.2.2.2.2.2.2.2)))) (e : k.toInt = n.toInt) : zR9 t (zLk L st by9 n.toInt.toNat s) := by
  rw [e] at J; exact J
theorem zGoC_0 {L : zLw} {tl j : Int32} {pe wo tx ch jo tr dy sd : Int32} {f h : zRw} (J : zEq h f) (hj : j.toInt = 0) : zR9 (pe, wo, tx, ch, jo, tr, dy, sd, h) (zGo L tl j.toInt.toNat (pe, wo, tx, ch, jo, tr, dy, sd, f)) := by
  rw [hj]; exact zR9_f J
theorem zGoC_x {L : zLw} {tl k n : Int32} {s t : zT9} (J : zR9 t (zGo L tl k.toInt.toNat s)) (e : k.toInt = n.toInt) : zR9 t (zGo L tl n.toInt.toNat s) := by rw [← e]; exact J
theorem zObs {q a th b : Int32} {p p' : Int32 × Int32} (h1 : (q, a) = p) (h2 : (th, b) = p') (e : p = p') : q = th ∧ a = b := by
  have h := h1.trans (e.trans h2.symm)
  exact ⟨congrArg Prod.fst h, congrArg Prod.snd h⟩
section ZF
variable {L : zLw} {x n c pe wo tx ch jo tr dy sd pe2 wo2 tx2 ch2 jo2 tr2 dy2 sd2 q : Int32} {f f2 : zRw}
theorem zdAhead_c1 (h : ¬ (0 ≤ x.toInt ∧ x.toInt < pe.toInt)) : (1, 0) = zdAhead L x n (pe, wo, tx, ch, jo, tr, dy, sd, f) := zk2_1 h
theorem zdAhead_c2 (h : 0 ≤ x.toInt ∧ x.toInt < pe.toInt) (k : ¬ (0 ≤ n.toInt ∧ n.toInt ≤ 100)) : (2, 0) = zdAhead L x n (pe, wo, tx, ch, jo, tr, dy, sd, f) := zk2_2 h k
theorem zdThen_c1 (k : ¬ (0 ≤ n.toInt ∧ n.toInt ≤ 100)) : (1, 0) = zdThen L n c (pe, wo, tx, ch, jo, tr, dy, sd, f) := zk2_1 k
theorem zdFalls_c1 (k : ¬ (0 ≤ n.toInt ∧ n.toInt ≤ 100)) : (1, 0) = zdFalls L n (pe, wo, tx, ch, jo, tr, dy, sd, f) := zk2_1 k
theorem zdTrial_c1 (k : ¬ (0 ≤ n.toInt ∧ n.toInt ≤ 60)) : (1, 0) = zdTrial L n c (pe, wo, tx, ch, jo, tr, dy, sd, f) := zk2_1 k
theorem zdAhead_c0 (b : 0 ≤ pe.toInt ∧ pe.toInt ≤ 8) (hp : 0 ≤ x.toInt ∧ x.toInt < pe.toInt) (hn : 0 ≤ n.toInt ∧ n.toInt ≤ 100) (g : zR9 (pe2, wo2, tx2, ch2, jo2, tr2, dy2, sd2, f2) (zLk L 0 0 n.toInt.toNat (pe, wo, tx, ch, jo, tr, dy, sd, f))) : (0, f2 0 x.toInt.toNat) = zdAhead L x n (pe, wo, tx, ch, jo, tr, dy, sd, f) := by
  rw [zLk_0 rfl b] at g
  exact zk2_0 hp hn (g.2.2.2.2.2.2.2.2.1 0 _ (by decide) (by omega))
theorem zdThen_c0 (b : 0 ≤ pe.toInt ∧ pe.toInt ≤ 8) (hn : 0 ≤ n.toInt ∧ n.toInt ≤ 100) (g : zR9 (pe2, wo2, tx2, ch2, jo2, tr2, dy2, sd2, f2) (zLk L 0 0 n.toInt.toNat (pe, wo, tx, ch, jo, tr, dy, sd, f))) (e : q = zBl9 (pe2, wo2, tx2, ch2, jo2, tr2, dy2, sd2, f2)) (hc : c.toInt = 0) : (0, q) = zdThen L n c (pe, wo, tx, ch, jo, tr, dy, sd, f) := by
  rw [zLk_0 rfl b] at g
  refine zk2_0 hn trivial ?_
  have e1 : pe2 = pe := g.1
  rw [if_pos hc, e]
  exact zBl9_c g (by show pe2.toInt ≤ 8; rw [e1]; exact b.2)
theorem zdThen_c9 (b : 0 ≤ pe.toInt ∧ pe.toInt ≤ 8) (hn : 0 ≤ n.toInt ∧ n.toInt ≤ 100) (g : zR9 (pe2, wo2, tx2, ch2, jo2, tr2, dy2, sd2, f2) (zLk L 0 0 n.toInt.toNat (pe, wo, tx, ch, jo, tr, dy, sd, f))) (hc : ¬ c.toInt = 0) : (0, ch2) = zdThen L n c (pe, wo, tx, ch, jo, tr, dy, sd, f) := by
  rw [zLk_0 rfl b] at g
  refine zk2_0 hn trivial ?_
  rw [if_neg hc]; exact g.2.2.2.1
theorem zdTrial_c0 (b : 0 ≤ pe.toInt ∧ pe.toInt ≤ 8) (hn : 0 ≤ n.toInt ∧ n.toInt ≤ 60) (g : zR9 (pe2, wo2, tx2, ch2, jo2, tr2, dy2, sd2, f2) (zGo L 1 n.toInt.toNat (pe, wo, tx, ch, jo, tr, dy, sd, f))) (e : q = zBl9 (pe2, wo2, tx2, ch2, jo2, tr2, dy2, sd2, f2)) (hc : c.toInt = 0) : (0, q) = zdTrial L n c (pe, wo, tx, ch, jo, tr, dy, sd, f) := by
  refine zk2_0 hn trivial ?_
  have e1 : pe2 = pe := g.1
  rw [if_pos hc, e]
  exact zBl9_c g (by show pe2.toInt ≤ 8; rw [e1]; exact b.2)
theorem zdTrial_c9 (hn : 0 ≤ n.toInt ∧ n.toInt ≤ 60) (g : zR9 (pe2, wo2, tx2, ch2, jo2, tr2, dy2, sd2, f2) (zGo L 1 n.toInt.toNat (pe, wo, tx, ch, jo, tr, dy, sd, f))) (hc : ¬ c.toInt = 0) : (0, ch2) = zdTrial L n c (pe, wo, tx, ch, jo, tr, dy, sd, f) := by
  refine zk2_0 hn trivial ?_
  rw [if_neg hc]; exact g.2.2.2.1
theorem zdFalls_c0 (b : 0 ≤ pe.toInt ∧ pe.toInt ≤ 8) (bw : 0 ≤ wo.toInt ∧ wo.toInt ≤ 6) (hn : 0 ≤ n.toInt ∧ n.toInt ≤ 100) (g : zR9 (pe2, wo2, tx2, ch2, jo2, tr2, dy2, sd2, f2) (zLk L 0 0 n.toInt.toNat (pe, wo, tx, ch, jo, tr, dy, sd, f))) : (0, zWks f2 wo2.toInt.toNat 2 &&& (zWks f wo.toInt.toNat 2 ^^^ -1)) = zdFalls L n (pe, wo, tx, ch, jo, tr, dy, sd, f) := by
  rw [zLk_0 rfl b] at g
  have e2 : wo2 = wo := g.2.1
  refine zk2_0 hn trivial ?_
  rw [show zWks f2 wo2.toInt.toNat 2 = zWk9 (zGo L 0 n.toInt.toNat (pe, wo, tx, ch, jo, tr, dy, sd, f)) from zWk9_c g (by show wo2.toInt ≤ 6; rw [e2]; exact bw.2)]; rfl
end ZF
/-! WHAT IS ASKED of the town itself -/
def zWth (f : zRw) (pe x : Nat) : Int32 := f 1 x + f 2 x * zPrice f pe
def zShr (f : zRw) (pe x : Nat) : Int32 := if (zBel f pe).toInt = 0 ∨ ¬ (f 3 x).toInt = -1 then 0 else f 0 x * 100 / zBel f pe
def zDb (f : zRw) (pe : Nat) : Int32 := zOf (fun x => if (f 3 x).toInt = -1 ∧ (f 0 x).toInt < 33 then zBit x else 0) pe
theorem zWth_c {f g : zRw} {pe x : Nat} (h : zEq f g) (hp : pe ≤ 8) (hx : x < 8) : zWth f pe x = zWth g pe x := by
  unfold zWth
  rw [zPrice_c h hp, h.1 1 x (by decide) hx, h.1 2 x (by decide) hx]
theorem zShr_c {f g : zRw} {pe x : Nat} (h : zEq f g) (hp : pe ≤ 8) (hx : x < 8) : zShr f pe x = zShr g pe x := by
  unfold zShr
  rw [zBel_c h hp, h.1 3 x (by decide) hx, h.1 0 x (by decide) hx]
theorem zDb_c {f g : zRw} {pe : Nat} (h : zEq f g) (hp : pe ≤ 8) : zDb f pe = zDb g pe := zFo_c pe (fun i hi => by
  show (if (f 3 i).toInt = -1 ∧ (f 0 i).toInt < 33 then zBit i else 0) = (if (g 3 i).toInt = -1 ∧ (g 0 i).toInt < 33 then zBit i else 0)
  rw [h.1 3 i (by omega) (by omega), h.1 0 i (by omega) (by omega)])
theorem zDb_i (f : zRw) {n : Nat} (hn : n ≤ 8) : 0 ≤ (zDb f n).toInt ∧ (zDb f n).toInt ≤ 255 := by
  obtain ⟨m, h1, h2⟩ := zOr_b (g := fun x => if (f 3 x).toInt = -1 ∧ (f 0 x).toInt < 33 then zBit x else 0) (fun x => by
    by_cases q : (f 3 x).toInt = -1 ∧ (f 0 x).toInt < 33
    · exact Or.inr (if_pos q)
    · exact Or.inl (if_neg q)) n hn
  have h3 : m < 256 := Nat.lt_of_lt_of_le h1 (show 2 ^ n ≤ 2 ^ 8 from Nat.pow_le_pow_right (by decide) hn)
  rw [show zDb f n = nI m from h2, nI_toInt (by omega)]; omega
theorem zShr_0 {f : zRw} {pe x : Nat} (h : (zBel f pe).toInt = 0 ∨ ¬ (f 3 x).toInt = -1) : 0 = zShr f pe x := (if_pos h).symm
theorem zShr_1 {f : zRw} {pe x : Nat} (h : ¬ (zBel f pe).toInt = 0) (k : (f 3 x).toInt = -1) : f 0 x * 100 / zBel f pe = zShr f pe x := (if_neg (fun q => q.elim h (fun w => w k))).symm
theorem zShr_2 {f : zRw} {pe x : Nat} (h : ¬ (zBel f pe).toInt = 0) (k : (f 3 x).toInt = -1) : 100 * f 0 x / zBel f pe = zShr f pe x := by rw [Int32.mul_comm]; exact zShr_1 h k
/-- the best of those that may be, the least of several -/
def zBst (P : Nat → Bool) (W : Nat → Int32) : Nat → Int32
  | 0 => -1
  | k + 1 => if P k = true ∧ ((zBst P W k).toInt = -1 ∨ (W (zBst P W k).toInt.toNat).toInt < (W k).toInt) then nI k else zBst P W k
theorem zBst_0 {P : Nat → Bool} {W : Nat → Int32} {b k : Int32} (hb : b = -1) (hk : k.toInt = 0) : b = zBst P W k.toInt.toNat := by rw [hk]; exact hb
theorem zBst_y {P : Nat → Bool} {W : Nat → Int32} {b k k' : Int32} (h : b = zBst P W k.toInt.toNat) (hk : k'.toInt = k.toInt + 1) (h0 : 0 ≤ k.toInt) (p : P k.toInt.toNat = true) (q : b.toInt = -1 ∨ (W b.toInt.toNat).toInt < (W k.toInt.toNat).toInt) : k = zBst P W k'.toInt.toNat := by
  rw [show k'.toInt.toNat = k.toInt.toNat + 1 by omega]
  show k = if P k.toInt.toNat = true ∧ ((zBst P W k.toInt.toNat).toInt = -1 ∨ (W (zBst P W k.toInt.toNat).toInt.toNat).toInt < (W k.toInt.toNat).toInt) then nI k.toInt.toNat else zBst P W k.toInt.toNat
  rw [← h, if_pos ⟨p, q⟩]; exact znat h0
theorem zBst_n {P : Nat → Bool} {W : Nat → Int32} {b k k' : Int32} (h : b = zBst P W k.toInt.toNat) (hk : k'.toInt = k.toInt + 1) (h0 : 0 ≤ k.toInt) (p : ¬ (P k.toInt.toNat = true ∧ (b.toInt = -1 ∨ (W b.toInt.toNat).toInt < (W k.toInt.toNat).toInt))) : b = zBst P W k'.toInt.toNat := by
  rw [show k'.toInt.toNat = k.toInt.toNat + 1 by omega]
  show b = if P k.toInt.toNat = true ∧ ((zBst P W k.toInt.toNat).toInt = -1 ∨ (W (zBst P W k.toInt.toNat).toInt.toNat).toInt < (W k.toInt.toNat).toInt) then nI k.toInt.toNat else zBst P W k.toInt.toNat
  rw [← h, if_neg p]
theorem zBst_x {P : Nat → Bool} {W : Nat → Int32} {b k n : Int32} (h : b = zBst P W k.toInt.toNat) (e : k.toInt = n.toInt) : b = zBst P W n.toInt.toNat := by rw [← e]; exact h
theorem zBst_b (P : Nat → Bool) (W : Nat → Int32) : ∀ k : Nat, k ≤ 8 → -1 ≤ (zBst P W k).toInt ∧ (zBst P W k).toInt < (k : Int)
  | 0, _ => by
    show -1 ≤ (-1 : Int32).toInt ∧ (-1 : Int32).toInt < ((0 : Nat) : Int)
    decide
  | k + 1, hk => by
    have ih := zBst_b P W k (by omega)
    show -1 ≤ (if P k = true ∧ ((zBst P W k).toInt = -1 ∨ (W (zBst P W k).toInt.toNat).toInt < (W k).toInt) then nI k else zBst P W k).toInt ∧ (if P k = true ∧ ((zBst P W k).toInt = -1 ∨ (W (zBst P W k).toInt.toNat).toInt < (W k).toInt) then nI k else zBst P W k).toInt < ((k + 1 : Nat) : Int)
    by_cases q : P k = true ∧ ((zBst P W k).toInt = -1 ∨ (W (zBst P W k).toInt.toNat).toInt < (W k).toInt)
    · rw [if_pos q, nI_toInt (by omega)]; omega
    · rw [if_neg q]; omega
theorem zBst_c {P Q : Nat → Bool} {W V : Nat → Int32} : ∀ n : Nat, n ≤ 8 → (∀ k, k < n → P k = Q k) → (∀ k, k < n → W k = V k) → zBst P W n = zBst Q V n
  | 0, _, _, _ => rfl
  | n + 1, hn, hP, hW => by
    have ih := zBst_c n (by omega) (fun k hk => hP k (by omega)) (fun k hk => hW k (by omega))
    have b := zBst_b Q V n (by omega)
    show (if P n = true ∧ ((zBst P W n).toInt = -1 ∨ (W (zBst P W n).toInt.toNat).toInt < (W n).toInt) then nI n else zBst P W n) = (if Q n = true ∧ ((zBst Q V n).toInt = -1 ∨ (V (zBst Q V n).toInt.toNat).toInt < (V n).toInt) then nI n else zBst Q V n)
    rw [ih, hP n (by omega), hW n (by omega)]
    by_cases m : (zBst Q V n).toInt = -1
    · by_cases q : Q n = true
      · rw [if_pos ⟨q, Or.inl m⟩, if_pos ⟨q, Or.inl m⟩]
      · rw [if_neg (fun w => q w.1), if_neg (fun w => q w.1)]
    · rw [hW _ (by omega)]
def zoTrust (x o : Int32) (s : zT9) : Int32 × Int32 := zk2 ((0 ≤ x.toInt ∧ x.toInt < s.1.toInt) ∧ (0 ≤ o.toInt ∧ o.toInt < s.1.toInt)) (¬ x.toInt = o.toInt) (s.2.2.2.2.2.2.2.2 5 (8 * x.toInt.toNat + o.toInt.toNat))
def zPrc9 (s : zT9) : Int32 := zPrice s.2.2.2.2.2.2.2.2 s.1.toInt.toNat
def zDbt9 (s : zT9) : Int32 := zDb s.2.2.2.2.2.2.2.2 s.1.toInt.toNat
def zRch9 (s : zT9) : Int32 := zBst (fun _ => true) (zWth s.2.2.2.2.2.2.2.2 s.1.toInt.toNat) s.1.toInt.toNat
def zFrm9 (s : zT9) : Int32 := zBst (fun x => decide ((s.2.2.2.2.2.2.2.2 3 x).toInt = -1)) (s.2.2.2.2.2.2.2.2 0) s.1.toInt.toNat
def zWk4 (f : zRw) (w : Nat) (k : Int) : Int32 := if k = 0 then f 6 w else if k = 1 then f 7 w else if k = 2 then f 8 w else f 9 w
def zoWork (w k : Int32) (s : zT9) : Int32 × Int32 := zk2 (0 ≤ w.toInt ∧ w.toInt < s.2.1.toInt) (0 ≤ k.toInt ∧ k.toInt ≤ 3) (zWk4 s.2.2.2.2.2.2.2.2 w.toInt.toNat k.toInt)
theorem zWk4_c {f g : zRw} {w : Nat} {k : Int} (h : zEq f g) (hw : w < 6) : zWk4 f w k = zWk4 g w k := by
  unfold zWk4
  rw [h.2.2 6 w (by decide) (by decide) hw, h.2.2 7 w (by decide) (by decide) hw, h.2.2 8 w (by decide) (by decide) hw, h.2.2 9 w (by decide) (by decide) hw]
theorem zoTrust_c {x o : Int32} {s t : zT9} (h : zR9 s t) (k : zOk s) : zoTrust x o s = zoTrust x o t := by
  have b := k.1
  unfold zoTrust
  rw [← h.1]
  exact zk2_c Iff.rfl (fun _ => Iff.rfl) (fun a c => h.2.2.2.2.2.2.2.2.2.1 _ _ (by omega) (by omega) (by omega))
theorem zoWork_c {w q : Int32} {s t : zT9} (h : zR9 s t) (k : zOk s) : zoWork w q s = zoWork w q t := by
  have b := k.2.1
  unfold zoWork
  rw [← h.2.1]
  exact zk2_c Iff.rfl (fun _ => Iff.rfl) (fun a c => zWk4_c h.2.2.2.2.2.2.2.2 (by omega))
theorem zPrc9_c {s t : zT9} (h : zR9 s t) (k : zOk s) : zPrc9 s = zPrc9 t := by
  have b := k.1
  unfold zPrc9
  rw [← h.1]; exact zPrice_c h.2.2.2.2.2.2.2.2 (by omega)
theorem zDbt9_c {s t : zT9} (h : zR9 s t) (k : zOk s) : zDbt9 s = zDbt9 t := by
  have b := k.1
  unfold zDbt9
  rw [← h.1]; exact zDb_c h.2.2.2.2.2.2.2.2 (by omega)
theorem zRch9_c {s t : zT9} (h : zR9 s t) (k : zOk s) : zRch9 s = zRch9 t := by
  have b := k.1
  unfold zRch9
  rw [← h.1]; exact zBst_c _ (by omega) (fun _ _ => rfl) (fun i hi => zWth_c h.2.2.2.2.2.2.2.2 (by omega) (by omega))
theorem zFrm9_c {s t : zT9} (h : zR9 s t) (k : zOk s) : zFrm9 s = zFrm9 t := by
  have b := k.1
  unfold zFrm9
  rw [← h.1]
  refine zBst_c _ (by omega) (fun i hi => ?_) (fun i hi => h.2.2.2.2.2.2.2.2.1 0 i (by decide) (by omega))
  show decide ((s.2.2.2.2.2.2.2.2 3 i).toInt = -1) = decide ((t.2.2.2.2.2.2.2.2 3 i).toInt = -1)
  rw [h.2.2.2.2.2.2.2.2.1 3 i (by decide) (by omega)]
section ZG
variable {x o w n pe wo tx ch jo tr dy sd : Int32} {f : zRw} {m : Nat → Int32}
theorem zoTrust_c1 (h : ¬ ((0 ≤ x.toInt ∧ x.toInt < pe.toInt) ∧ (0 ≤ o.toInt ∧ o.toInt < pe.toInt))) : (1, 0) = zoTrust x o (pe, wo, tx, ch, jo, tr, dy, sd, f) := zk2_1 h
theorem zoTrust_c2 (h : (0 ≤ x.toInt ∧ x.toInt < pe.toInt) ∧ (0 ≤ o.toInt ∧ o.toInt < pe.toInt)) (k : x.toInt = o.toInt) : (2, 0) = zoTrust x o (pe, wo, tx, ch, jo, tr, dy, sd, f) := zk2_2 h (fun q => q k)
theorem zoTrust_c0 (h : (0 ≤ x.toInt ∧ x.toInt < pe.toInt) ∧ (0 ≤ o.toInt ∧ o.toInt < pe.toInt)) (k : ¬ x.toInt = o.toInt) : (0, f 5 (8 * x.toInt.toNat + o.toInt.toNat)) = zoTrust x o (pe, wo, tx, ch, jo, tr, dy, sd, f) := zk2_0 h k rfl
theorem zoTrust_m1 (h : ¬ ((0 ≤ x.toInt ∧ x.toInt < (m 3).toInt) ∧ (0 ≤ o.toInt ∧ o.toInt < (m 3).toInt))) : (1, 0) = zoTrust x o (zM9 m) := zk2_1 h
theorem zoTrust_m2 (h : (0 ≤ x.toInt ∧ x.toInt < (m 3).toInt) ∧ (0 ≤ o.toInt ∧ o.toInt < (m 3).toInt)) (k : x.toInt = o.toInt) : (2, 0) = zoTrust x o (zM9 m) := zk2_2 h (fun q => q k)
theorem zoTrust_m0 (h : (0 ≤ x.toInt ∧ x.toInt < (m 3).toInt) ∧ (0 ≤ o.toInt ∧ o.toInt < (m 3).toInt)) (k : ¬ x.toInt = o.toInt) : (0, zV m 5 (8 * x.toInt.toNat + o.toInt.toNat)) = zoTrust x o (zM9 m) := zk2_0 h k rfl
theorem zoWork_c1 (h : ¬ (0 ≤ w.toInt ∧ w.toInt < wo.toInt)) : (1, 0) = zoWork w n (pe, wo, tx, ch, jo, tr, dy, sd, f) := zk2_1 h
theorem zoWork_c2 (h : 0 ≤ w.toInt ∧ w.toInt < wo.toInt) (k : ¬ (0 ≤ n.toInt ∧ n.toInt ≤ 3)) : (2, 0) = zoWork w n (pe, wo, tx, ch, jo, tr, dy, sd, f) := zk2_2 h k
theorem zoWork_c0 {r : Nat} (h : 0 ≤ w.toInt ∧ w.toInt < wo.toInt) (k : (n.toInt = 0 ∧ r = 6) ∨ (n.toInt = 1 ∧ r = 7) ∨ (n.toInt = 2 ∧ r = 8) ∨ (n.toInt = 3 ∧ r = 9)) : (0, f r w.toInt.toNat) = zoWork w n (pe, wo, tx, ch, jo, tr, dy, sd, f) := zk2_0 h (by omega) (by
  show f r w.toInt.toNat = zWk4 f w.toInt.toNat n.toInt
  unfold zWk4
  rcases k with ⟨a, b⟩ | ⟨a, b⟩ | ⟨a, b⟩ | ⟨a, b⟩ <;> rw [a, b] <;> rfl)
theorem zoWork_m1 (h : ¬ (0 ≤ w.toInt ∧ w.toInt < (m 4).toInt)) : (1, 0) = zoWork w n (zM9 m) := zk2_1 h
theorem zoWork_m2 (h : 0 ≤ w.toInt ∧ w.toInt < (m 4).toInt) (k : ¬ (0 ≤ n.toInt ∧ n.toInt ≤ 3)) : (2, 0) = zoWork w n (zM9 m) := zk2_2 h k
theorem zoWork_m0 (h : 0 ≤ w.toInt ∧ w.toInt < (m 4).toInt) (k : 0 ≤ n.toInt ∧ n.toInt ≤ 3) : (0, m (115 + 4 * w.toInt.toNat + n.toInt.toNat)) = zoWork w n (zM9 m) := zk2_0 h k (by
  show m (115 + 4 * w.toInt.toNat + n.toInt.toNat) = zWk4 (zV m) w.toInt.toNat n.toInt
  unfold zWk4
  rcases (show n.toInt = 0 ∨ n.toInt = 1 ∨ n.toInt = 2 ∨ n.toInt = 3 by omega) with a | a | a | a <;> rw [a]
  · rfl
  · exact congrArg m (by omega)
  · exact congrArg m (by omega)
  · exact congrArg m (by omega))
end ZG
set_option maxRecDepth 100000 in
set_option maxHeartbeats 4000000 in
theorem c_f_lookAheadC (l : Launch) (g : zG) (fo : Nat) (o : Nat) (lo : Nat) (od : Nat) (a : Nat → Nat) (pe : Int32) (wo : Int32) (tx : Int32) (ch : Int32) (jo : Int32) (tr : Int32) (dy : Int32) (sd : Int32) (f : Nat → Nat → Int32) (lc : Nat) (lz : Int32) (ll : Int32) (lm : Int32) (lg : Int32) (ld : Int32) (fc : Nat → Int32) (ad : Nat → Nat) (ped : Int32) (wod : Int32) (txd : Int32) (chd : Int32) (jod : Int32) (trd : Int32) (dyd : Int32) (sdd : Int32) (fd : Nat → Nat → Int32) (st0 : Int32) (by9 : Int32) (n : Int32) (b_pe : 0 ≤ pe.toInt ∧ pe.toInt ≤ 8) (b_wo : 0 ≤ wo.toInt ∧ wo.toInt ≤ 6) (rf : zZ4 f) (b_lz : 0 ≤ lz.toInt ∧ lz.toInt ≤ 400) (b_ped : 0 ≤ ped.toInt ∧ ped.toInt ≤ 8) (b_wod : 0 ≤ wod.toInt ∧ wod.toInt ≤ 6) (rfd : zZ4 fd) (b_n : 0 ≤ n.toInt ∧ n.toInt ≤ 100) : zM' g l yX0_lookAhead (Cond.code yX0_lookAhead cX0_lookAhead 5 (some .int) :: zB) ({ frames := 6, cells := 0, slots := 0, locals := 128 } : Room) [.ref fo, .int st0, .int by9, .int n] [bFo g fo o lo od, bTown g o a pe wo tx ch jo tr dy sd f, bLaw g lo lc lz ll lm lg ld fc, bTown g od ad ped wod txd chd jod trd dyd sdd fd] (fun u : Int32 × Int32 × Int32 × Int32 × Int32 × Int32 × Int32 × Int32 × Int32 × Int32 × Int32 × (Nat → Nat → Int32) × Int32 => (fun (lm2 : Int32) (lg2 : Int32) (ld2 : Int32) (pe3 : Int32) (wo3 : Int32) (tx3 : Int32) (ch3 : Int32) (jo3 : Int32) (tr3 : Int32) (dy3 : Int32) (sd3 : Int32) (f3 : Nat → Nat → Int32) (q : Int32) => some (.int q)) (u.1) (u.2.1) (u.2.2.1) (u.2.2.2.1) (u.2.2.2.2.1) (u.2.2.2.2.2.1) (u.2.2.2.2.2.2.1) (u.2.2.2.2.2.2.2.1) (u.2.2.2.2.2.2.2.2.1) (u.2.2.2.2.2.2.2.2.2.1) (u.2.2.2.2.2.2.2.2.2.2.1) (u.2.2.2.2.2.2.2.2.2.2.2.1) (u.2.2.2.2.2.2.2.2.2.2.2.2)) (fun u : Int32 × Int32 × Int32 × Int32 × Int32 × Int32 × Int32 × Int32 × Int32 × Int32 × Int32 × (Nat → Nat → Int32) × Int32 => (fun (lm2 : Int32) (lg2 : Int32) (ld2 : Int32) (pe3 : Int32) (wo3 : Int32) (tx3 : Int32) (ch3 : Int32) (jo3 : Int32) (tr3 : Int32) (dy3 : Int32) (sd3 : Int32) (f3 : Nat → Nat → Int32) (q : Int32) => (0 ≤ pe3.toInt ∧ pe3.toInt ≤ 8) ∧ (0 ≤ wo3.toInt ∧ wo3.toInt ≤ 6) ∧ (zZ4 f3) ∧ (zR9 (pe3, wo3, tx3, ch3, jo3, tr3, dy3, sd3, f3) (zLk (zLwR fc lz ll) st0 by9 n.toInt.toNat (pe, wo, tx, ch, jo, tr, dy, sd, f))) ∧ (q = zBl9 (pe3, wo3, tx3, ch3, jo3, tr3, dy3, sd3, f3))) (u.1) (u.2.1) (u.2.2.1) (u.2.2.2.1) (u.2.2.2.2.1) (u.2.2.2.2.2.1) (u.2.2.2.2.2.2.1) (u.2.2.2.2.2.2.2.1) (u.2.2.2.2.2.2.2.2.1) (u.2.2.2.2.2.2.2.2.2.1) (u.2.2.2.2.2.2.2.2.2.2.1) (u.2.2.2.2.2.2.2.2.2.2.2.1) (u.2.2.2.2.2.2.2.2.2.2.2.2)) (fun u : Int32 × Int32 × Int32 × Int32 × Int32 × Int32 × Int32 × Int32 × Int32 × Int32 × Int32 × (Nat → Nat → Int32) × Int32 => (fun (lm2 : Int32) (lg2 : Int32) (ld2 : Int32) (pe3 : Int32) (wo3 : Int32) (tx3 : Int32) (ch3 : Int32) (jo3 : Int32) (tr3 : Int32) (dy3 : Int32) (sd3 : Int32) (f3 : Nat → Nat → Int32) (q : Int32) => [bFo g fo o lo od, bTown g o a pe wo tx ch jo tr dy sd f, bLaw g lo lc lz ll lm2 lg2 ld2 fc, bTown g od ad pe3 wo3 tx3 ch3 jo3 tr3 dy3 sd3 f3]) (u.1) (u.2.1) (u.2.2.1) (u.2.2.2.1) (u.2.2.2.2.1) (u.2.2.2.2.2.1) (u.2.2.2.2.2.2.1) (u.2.2.2.2.2.2.2.1) (u.2.2.2.2.2.2.2.2.1) (u.2.2.2.2.2.2.2.2.2.1) (u.2.2.2.2.2.2.2.2.2.2.1) (u.2.2.2.2.2.2.2.2.2.2.2.1) (u.2.2.2.2.2.2.2.2.2.2.2.2)) := by
  refine zM'.of (cc := cX0_lookAhead) (maxL := 5) (rt := (some .int)) (by decide) rfl (Nat.le_of_ble_eq_true rfl) ?_
  intro p e s m args below meth c A ls St hr hlocks hin hK hT hA hP hD hS hl
  obtain ⟨hx, hb, hml, hown, hts⟩ := id St
  have hl : lv_has ls 5 [(0, .ref fo), (1, .int st0), (2, .int by9), (3, .int n)] := hl
  refine lv_aload_n hx hb dX0_lookAhead_0 rfl (lv_at hl 0 rfl) ?_
  refine va_get (D := g.1) (ci := 0) (v := .ref od) (C := RX0) (T := TX0) (N := 3) hx hb hts izRX0 hown hK hP 0 rfl rfl 2 (by decide) (hts _ k25) (fun _ h9 => h9) rfl dX0_lookAhead_1 ?_
  refine lv_aload_n hx hb dX0_lookAhead_4 rfl (lv_at hl 0 rfl) ?_
  refine va_get (D := g.1) (ci := 0) (v := .ref o) (C := RX0) (T := TX0) (N := 3) hx hb hts izRX0 hown hK hP 0 rfl rfl 0 (by decide) (hts _ k26) (fun _ h9 => h9) rfl dX0_lookAhead_5 ?_
  refine mcallV' (g := g) (q0 := 0) (ci := 7) (As := [.ref o]) (rest := []) St hK hT hA hP hD hS hl.1 [3, 1] [0, 2] rfl rfl rfl (c_copyFromC l g od ad ped wod txd chd jod trd dyd sdd fd o a pe wo tx ch jo tr dy sd f b_pe b_wo rf) (cwV 1 hts (zgL (zl4 k156 k157 k158 k24) k30) rfl rfl rfl (by decide +kernel) ⟨Nat.le_of_ble_eq_true rfl, Nat.le_of_ble_eq_true rfl⟩) rfl rfl rfl rfl (Nat.le_of_ble_eq_true rfl) dX0_lookAhead_8 ⟨(Nat.le_of_ble_eq_true rfl), (Nat.le_of_ble_eq_true rfl)⟩ (fun h_1 H locs hq2 hP hD hS => ?_)
  replace hq2 : (zZ4 h_1) ∧ (zEq h_1 f) := hq2
  have hP : va_P g.1 vwCl (List.flatten [bFo g fo o lo od, bLaw g lo lc lz ll lm lg ld fc, bTown g od ad pe wo tx ch jo tr dy sd h_1, bTown g o a pe wo tx ch jo tr dy sd f]) H := hP
  have hD : va_D A (List.flatten [bFo g fo o lo od, bLaw g lo lc lz ll lm lg ld fc, bTown g od ad pe wo tx ch jo tr dy sd h_1, bTown g o a pe wo tx ch jo tr dy sd f]) := hD
  refine W.widen (k := 0) (n := 0) (Nat.le_of_ble_eq_true rfl) (Nat.le_of_ble_eq_true rfl) ?_
  refine W.eq (g2 := F0 m 11 ls []) rfl ?_
  obtain ⟨rh_1, hq2_1⟩ := hq2
  refine lv_iconst (v := 0) hx hb dX0_lookAhead_11 (by decide) ?_
  refine lv_istore (lv' := [(4, .int 0), (0, .ref fo), (1, .int st0), (2, .int by9), (3, .int n)]) hx hb dX0_lookAhead_12 hl (by decide) rfl (fun ls hl => ?_)
  have hl := lv_sub (l' := [(0, .ref fo), (1, .int st0), (2, .int by9), (3, .int n), (4, .int 0)]) hl [1, 2, 3, 4, 0] rfl
  have LP14_8 : ∀ (kf : Nat) (x_3 : Int32) (f_4 : Nat → Nat → Int32), (0 ≤ x_3.toInt ∧ x_3.toInt ≤ 8) → (zZ4 f_4) → (zEq f_4 (zRsT st0 by9 x_3.toInt.toNat f)) → (x_3.toInt ≤ pe.toInt) → ∀ (H : Heap) (locs : List Loc) (ls : Array Slot), ((9 - x_3.toInt).toNat) < kf → va_P g.1 vwCl (List.flatten [bFo g fo o lo od, bLaw g lo lc lz ll lm lg ld fc, bTown g od ad pe wo tx ch jo tr dy sd f_4, bTown g o a pe wo tx ch jo tr dy sd f]) H → va_D A (List.flatten [bFo g fo o lo od, bLaw g lo lc lz ll lm lg ld fc, bTown g od ad pe wo tx ch jo tr dy sd f_4, bTown g o a pe wo tx ch jo tr dy sd f]) → va_S A s.heap H locs → lv_has ls 5 [(0, .ref fo), (1, .int st0), (2, .int by9), (3, .int n), (4, .int x_3)] → W p l e ({ frames := 6, cells := 0, slots := 0, locals := 128 } : Room) s m args below meth c H locs (0) (0) (zF g (fun u : Int32 × Int32 × Int32 × Int32 × Int32 × Int32 × Int32 × Int32 × Int32 × Int32 × Int32 × (Nat → Nat → Int32) × Int32 => (fun (lm2 : Int32) (lg2 : Int32) (ld2 : Int32) (pe3 : Int32) (wo3 : Int32) (tx3 : Int32) (ch3 : Int32) (jo3 : Int32) (tr3 : Int32) (dy3 : Int32) (sd3 : Int32) (f3 : Nat → Nat → Int32) (q : Int32) => some (.int q)) (u.1) (u.2.1) (u.2.2.1) (u.2.2.2.1) (u.2.2.2.2.1) (u.2.2.2.2.2.1) (u.2.2.2.2.2.2.1) (u.2.2.2.2.2.2.2.1) (u.2.2.2.2.2.2.2.2.1) (u.2.2.2.2.2.2.2.2.2.1) (u.2.2.2.2.2.2.2.2.2.2.1) (u.2.2.2.2.2.2.2.2.2.2.2.1) (u.2.2.2.2.2.2.2.2.2.2.2.2)) (fun u : Int32 × Int32 × Int32 × Int32 × Int32 × Int32 × Int32 × Int32 × Int32 × Int32 × Int32 × (Nat → Nat → Int32) × Int32 => (fun (lm2 : Int32) (lg2 : Int32) (ld2 : Int32) (pe3 : Int32) (wo3 : Int32) (tx3 : Int32) (ch3 : Int32) (jo3 : Int32) (tr3 : Int32) (dy3 : Int32) (sd3 : Int32) (f3 : Nat → Nat → Int32) (q : Int32) => (0 ≤ pe3.toInt ∧ pe3.toInt ≤ 8) ∧ (0 ≤ wo3.toInt ∧ wo3.toInt ≤ 6) ∧ (zZ4 f3) ∧ (zR9 (pe3, wo3, tx3, ch3, jo3, tr3, dy3, sd3, f3) (zLk (zLwR fc lz ll) st0 by9 n.toInt.toNat (pe, wo, tx, ch, jo, tr, dy, sd, f))) ∧ (q = zBl9 (pe3, wo3, tx3, ch3, jo3, tr3, dy3, sd3, f3))) (u.1) (u.2.1) (u.2.2.1) (u.2.2.2.1) (u.2.2.2.2.1) (u.2.2.2.2.2.1) (u.2.2.2.2.2.2.1) (u.2.2.2.2.2.2.2.1) (u.2.2.2.2.2.2.2.2.1) (u.2.2.2.2.2.2.2.2.2.1) (u.2.2.2.2.2.2.2.2.2.2.1) (u.2.2.2.2.2.2.2.2.2.2.2.1) (u.2.2.2.2.2.2.2.2.2.2.2.2)) (fun u : Int32 × Int32 × Int32 × Int32 × Int32 × Int32 × Int32 × Int32 × Int32 × Int32 × Int32 × (Nat → Nat → Int32) × Int32 => (fun (lm2 : Int32) (lg2 : Int32) (ld2 : Int32) (pe3 : Int32) (wo3 : Int32) (tx3 : Int32) (ch3 : Int32) (jo3 : Int32) (tr3 : Int32) (dy3 : Int32) (sd3 : Int32) (f3 : Nat → Nat → Int32) (q : Int32) => [bFo g fo o lo od, bTown g o a pe wo tx ch jo tr dy sd f, bLaw g lo lc lz ll lm2 lg2 ld2 fc, bTown g od ad pe3 wo3 tx3 ch3 jo3 tr3 dy3 sd3 f3]) (u.1) (u.2.1) (u.2.2.1) (u.2.2.2.1) (u.2.2.2.2.1) (u.2.2.2.2.2.1) (u.2.2.2.2.2.2.1) (u.2.2.2.2.2.2.2.1) (u.2.2.2.2.2.2.2.2.1) (u.2.2.2.2.2.2.2.2.2.1) (u.2.2.2.2.2.2.2.2.2.2.1) (u.2.2.2.2.2.2.2.2.2.2.2.1) (u.2.2.2.2.2.2.2.2.2.2.2.2)) ({ frames := 6, cells := 0, slots := 0, locals := 128 } : Room) below args s A) (F0 m 14 ls []) := by
    intro kf
    induction kf with
    | zero => intro x_3 f_4 i5 rf_4 i6 i7 H locs ls hk; exact absurd hk (Nat.not_lt_zero _)
    | succ kf ih14_9 =>
      intro x_3 f_4 i5 rf_4 i6 i7 H locs ls hk14_9 hP hD hS hl
      refine lv_iload hx hb dX0_lookAhead_14 (lv_at hl 4 rfl) ?_
      refine lv_aload_n hx hb dX0_lookAhead_16 rfl (lv_at hl 0 rfl) ?_
      refine va_get (D := g.1) (ci := 0) (v := .ref o) (C := RX0) (T := TX0) (N := 3) hx hb hts izRX0 hown hK hP 0 rfl rfl 0 (by decide) (hts _ k26) (fun _ h9 => h9) rfl dX0_lookAhead_17 ?_
      refine va_get (D := g.1) (ci := 7) (v := .int pe) (C := RX9) (T := TX9) (N := 19) hx hb hts izRX9 hown hK hP 15 rfl rfl 0 (by decide) (hts _ k155) (fun _ h9 => h9) rfl dX0_lookAhead_20 ?_
      refine lv_icmp_ge (tgt := 51) hx hb dX0_lookAhead_23 (by decide) (fun cb9 => ?_) (fun cb9 => ?_)
      · skip
        have c10 : pe.toInt ≤ x_3.toInt := zle cb9 rfl rfl
        refine lv_iconst (v := 0) hx hb dX0_lookAhead_51 (by decide) ?_
        refine lv_istore (lv' := [(4, .int 0), (0, .ref fo), (1, .int st0), (2, .int by9), (3, .int n)]) hx hb dX0_lookAhead_52 hl (by decide) rfl (fun ls hl => ?_)
        have hl := lv_sub (l' := [(0, .ref fo), (1, .int st0), (2, .int by9), (3, .int n), (4, .int 0)]) hl [1, 2, 3, 4, 0] rfl
        have LP54_22 : ∀ (kf : Nat) (x_11 : Int32) (x_12 : Int32) (x_13 : Int32) (x_14 : Int32) (x_15 : Int32) (x_16 : Int32) (x_17 : Int32) (f_18 : Nat → Nat → Int32), (0 ≤ x_11.toInt ∧ x_11.toInt ≤ 100) → (zZ4 f_18) → (zR9 (pe, wo, tx, x_15, jo, tr, x_16, x_17, f_18) (zGo (zLwR fc lz ll) 0 x_11.toInt.toNat (zwf (pe, wo, tx, ch, jo, tr, dy, sd, f) (zRsT st0 by9 pe.toInt.toNat f)))) → (x_11.toInt ≤ n.toInt) → ∀ (H : Heap) (locs : List Loc) (ls : Array Slot), ((101 - x_11.toInt).toNat) < kf → va_P g.1 vwCl (List.flatten [bFo g fo o lo od, bLaw g lo lc lz ll x_12 x_13 x_14 fc, bTown g od ad pe wo tx x_15 jo tr x_16 x_17 f_18, bTown g o a pe wo tx ch jo tr dy sd f]) H → va_D A (List.flatten [bFo g fo o lo od, bLaw g lo lc lz ll x_12 x_13 x_14 fc, bTown g od ad pe wo tx x_15 jo tr x_16 x_17 f_18, bTown g o a pe wo tx ch jo tr dy sd f]) → va_S A s.heap H locs → lv_has ls 5 [(0, .ref fo), (1, .int st0), (2, .int by9), (3, .int n), (4, .int x_11)] → W p l e ({ frames := 6, cells := 0, slots := 0, locals := 128 } : Room) s m args below meth c H locs (0) (0) (zF g (fun u : Int32 × Int32 × Int32 × Int32 × Int32 × Int32 × Int32 × Int32 × Int32 × Int32 × Int32 × (Nat → Nat → Int32) × Int32 => (fun (lm2 : Int32) (lg2 : Int32) (ld2 : Int32) (pe3 : Int32) (wo3 : Int32) (tx3 : Int32) (ch3 : Int32) (jo3 : Int32) (tr3 : Int32) (dy3 : Int32) (sd3 : Int32) (f3 : Nat → Nat → Int32) (q : Int32) => some (.int q)) (u.1) (u.2.1) (u.2.2.1) (u.2.2.2.1) (u.2.2.2.2.1) (u.2.2.2.2.2.1) (u.2.2.2.2.2.2.1) (u.2.2.2.2.2.2.2.1) (u.2.2.2.2.2.2.2.2.1) (u.2.2.2.2.2.2.2.2.2.1) (u.2.2.2.2.2.2.2.2.2.2.1) (u.2.2.2.2.2.2.2.2.2.2.2.1) (u.2.2.2.2.2.2.2.2.2.2.2.2)) (fun u : Int32 × Int32 × Int32 × Int32 × Int32 × Int32 × Int32 × Int32 × Int32 × Int32 × Int32 × (Nat → Nat → Int32) × Int32 => (fun (lm2 : Int32) (lg2 : Int32) (ld2 : Int32) (pe3 : Int32) (wo3 : Int32) (tx3 : Int32) (ch3 : Int32) (jo3 : Int32) (tr3 : Int32) (dy3 : Int32) (sd3 : Int32) (f3 : Nat → Nat → Int32) (q : Int32) => (0 ≤ pe3.toInt ∧ pe3.toInt ≤ 8) ∧ (0 ≤ wo3.toInt ∧ wo3.toInt ≤ 6) ∧ (zZ4 f3) ∧ (zR9 (pe3, wo3, tx3, ch3, jo3, tr3, dy3, sd3, f3) (zLk (zLwR fc lz ll) st0 by9 n.toInt.toNat (pe, wo, tx, ch, jo, tr, dy, sd, f))) ∧ (q = zBl9 (pe3, wo3, tx3, ch3, jo3, tr3, dy3, sd3, f3))) (u.1) (u.2.1) (u.2.2.1) (u.2.2.2.1) (u.2.2.2.2.1) (u.2.2.2.2.2.1) (u.2.2.2.2.2.2.1) (u.2.2.2.2.2.2.2.1) (u.2.2.2.2.2.2.2.2.1) (u.2.2.2.2.2.2.2.2.2.1) (u.2.2.2.2.2.2.2.2.2.2.1) (u.2.2.2.2.2.2.2.2.2.2.2.1) (u.2.2.2.2.2.2.2.2.2.2.2.2)) (fun u : Int32 × Int32 × Int32 × Int32 × Int32 × Int32 × Int32 × Int32 × Int32 × Int32 × Int32 × (Nat → Nat → Int32) × Int32 => (fun (lm2 : Int32) (lg2 : Int32) (ld2 : Int32) (pe3 : Int32) (wo3 : Int32) (tx3 : Int32) (ch3 : Int32) (jo3 : Int32) (tr3 : Int32) (dy3 : Int32) (sd3 : Int32) (f3 : Nat → Nat → Int32) (q : Int32) => [bFo g fo o lo od, bTown g o a pe wo tx ch jo tr dy sd f, bLaw g lo lc lz ll lm2 lg2 ld2 fc, bTown g od ad pe3 wo3 tx3 ch3 jo3 tr3 dy3 sd3 f3]) (u.1) (u.2.1) (u.2.2.1) (u.2.2.2.1) (u.2.2.2.2.1) (u.2.2.2.2.2.1) (u.2.2.2.2.2.2.1) (u.2.2.2.2.2.2.2.1) (u.2.2.2.2.2.2.2.2.1) (u.2.2.2.2.2.2.2.2.2.1) (u.2.2.2.2.2.2.2.2.2.2.1) (u.2.2.2.2.2.2.2.2.2.2.2.1) (u.2.2.2.2.2.2.2.2.2.2.2.2)) ({ frames := 6, cells := 0, slots := 0, locals := 128 } : Room) below args s A) (F0 m 54 ls []) := by
          intro kf
          induction kf with
          | zero => intro x_11 x_12 x_13 x_14 x_15 x_16 x_17 f_18 i19 rf_18 i20 i21 H locs ls hk; exact absurd hk (Nat.not_lt_zero _)
          | succ kf ih54_23 =>
            intro x_11 x_12 x_13 x_14 x_15 x_16 x_17 f_18 i19 rf_18 i20 i21 H locs ls hk54_23 hP hD hS hl
            refine lv_iload hx hb dX0_lookAhead_54 (lv_at hl 4 rfl) ?_
            refine lv_iload_n hx hb dX0_lookAhead_56 rfl (lv_at hl 3 rfl) ?_
            refine lv_icmp_ge (tgt := 80) hx hb dX0_lookAhead_57 (by decide) (fun cb9 => ?_) (fun cb9 => ?_)
            · skip
              have c24 : n.toInt ≤ x_11.toInt := zle cb9 rfl rfl
              refine lv_aload_n hx hb dX0_lookAhead_80 rfl (lv_at hl 0 rfl) ?_
              refine va_get (D := g.1) (ci := 0) (v := .ref od) (C := RX0) (T := TX0) (N := 3) hx hb hts izRX0 hown hK hP 0 rfl rfl 2 (by decide) (hts _ k25) (fun _ h9 => h9) rfl dX0_lookAhead_81 ?_
              refine mcallV' (g := g) (q0 := 0) (ci := 7) (As := []) (rest := []) St hK hT hA hP hD hS hl.1 [2] [0, 1, 3] rfl rfl rfl (c_believedF l g od ad pe wo tx x_15 jo tr x_16 x_17 f_18 b_pe b_wo rf_18) (cwV 0 hts (zgL (zl4 k163 k69 k70 k24) k60) rfl rfl rfl (by decide +kernel) ⟨Nat.le_of_ble_eq_true rfl, Nat.le_of_ble_eq_true rfl⟩) rfl rfl rfl rfl (Nat.le_of_ble_eq_true rfl) dX0_lookAhead_84 ⟨(Nat.le_of_ble_eq_true rfl), (Nat.le_of_ble_eq_true rfl)⟩ (fun _u H locs hq25 hP hD hS => ?_)
              have hP : va_P g.1 vwCl (List.flatten [bFo g fo o lo od, bLaw g lo lc lz ll x_12 x_13 x_14 fc, bTown g o a pe wo tx ch jo tr dy sd f, bTown g od ad pe wo tx x_15 jo tr x_16 x_17 f_18]) H := hP
              have hD : va_D A (List.flatten [bFo g fo o lo od, bLaw g lo lc lz ll x_12 x_13 x_14 fc, bTown g o a pe wo tx ch jo tr dy sd f, bTown g od ad pe wo tx x_15 jo tr x_16 x_17 f_18]) := hD
              refine W.widen (k := 0) (n := 0) (Nat.le_of_ble_eq_true rfl) (Nat.le_of_ble_eq_true rfl) ?_
              refine W.eq (g2 := F0 m 87 ls [.int (zBel f_18 pe.toInt.toNat)]) rfl ?_
              have hP : va_P g.1 vwCl (List.flatten [bFo g fo o lo od, bLaw g lo lc lz ll x_12 x_13 x_14 fc, bTown g o a pe wo tx ch jo tr dy sd f, bTown g od ad pe wo tx x_15 jo tr x_16 x_17 f_18]) H := hP
              have hD : va_D A (List.flatten [bFo g fo o lo od, bLaw g lo lc lz ll x_12 x_13 x_14 fc, bTown g o a pe wo tx ch jo tr dy sd f, bTown g od ad pe wo tx x_15 jo tr x_16 x_17 f_18]) := hD
              obtain ⟨hP, hD⟩ := zord (g := g) (Bs' := [bFo g fo o lo od, bTown g o a pe wo tx ch jo tr dy sd f, bLaw g lo lc lz ll x_12 x_13 x_14 fc, bTown g od ad pe wo tx x_15 jo tr x_16 x_17 f_18]) [0, 2, 1, 3] rfl rfl hP hD
              exact mret_i hx hb hr hlocks hS (Nat.le_of_ble_eq_true rfl) (Nat.le_of_ble_eq_true rfl) dX0_lookAhead_87 (x_12, x_13, x_14, pe, wo, tx, x_15, jo, tr, x_16, x_17, f_18, zBel f_18 pe.toInt.toNat) rfl (show (0 ≤ pe.toInt ∧ pe.toInt ≤ 8) ∧ (0 ≤ wo.toInt ∧ wo.toInt ≤ 6) ∧ (zZ4 f_18) ∧ (zR9 (pe, wo, tx, x_15, jo, tr, x_16, x_17, f_18) (zLk (zLwR fc lz ll) st0 by9 n.toInt.toNat (pe, wo, tx, ch, jo, tr, dy, sd, f))) ∧ ((zBel f_18 pe.toInt.toNat) = zBl9 (pe, wo, tx, x_15, jo, tr, x_16, x_17, f_18)) from ⟨(by first | assumption | omega | decide), (by first | assumption | omega | decide), (by first | assumption | omega | decide), (zLkC_x (s := (pe, wo, tx, ch, jo, tr, dy, sd, f)) i20 (by omega)), rfl⟩) hP hD
            · skip
              have c26 : x_11.toInt < n.toInt := zlti (Int32.not_le.mp cb9) rfl rfl
              have n27 : x_11.toInt ≤ 99 := zL1 (b := 100) c26 b_n.2 (by decide)
              have n28 : 1 ≤ n.toInt := zL2 (a := 0) c26 i19.1 (by decide)
              refine lv_aload_n hx hb dX0_lookAhead_60 rfl (lv_at hl 0 rfl) ?_
              refine va_get (D := g.1) (ci := 0) (v := .ref od) (C := RX0) (T := TX0) (N := 3) hx hb hts izRX0 hown hK hP 0 rfl rfl 2 (by decide) (hts _ k25) (fun _ h9 => h9) rfl dX0_lookAhead_61 ?_
              refine lv_aload_n hx hb dX0_lookAhead_64 rfl (lv_at hl 0 rfl) ?_
              refine va_get (D := g.1) (ci := 0) (v := .ref lo) (C := RX0) (T := TX0) (N := 3) hx hb hts izRX0 hown hK hP 0 rfl rfl 1 (by decide) (hts _ k27) (fun _ h9 => h9) rfl dX0_lookAhead_65 ?_
              refine lv_iconst (v := 0) hx hb dX0_lookAhead_68 (by decide) ?_
              refine lv_null hx hb dX0_lookAhead_69 ?_
              refine mcallV' (g := g) (q0 := 0) (ci := 7) (As := [.ref lo, .int 0, .null]) (rest := []) St hK hT hA hP hD hS hl.1 [2, 1] [0, 3] rfl rfl rfl (c_passDayNF l g od ad pe wo tx x_15 jo tr x_16 x_17 f_18 lo lc lz ll x_12 x_13 x_14 fc 0 b_pe b_wo rf_18 b_lz) (cwV 3 hts (zgL (zl4 k160 k161 k162 k24) k154) rfl rfl rfl (by decide +kernel) ⟨Nat.le_of_ble_eq_true rfl, Nat.le_of_ble_eq_true rfl⟩) rfl rfl rfl rfl (Nat.le_of_ble_eq_true rfl) dX0_lookAhead_70 ⟨(Nat.le_of_ble_eq_true rfl), (Nat.le_of_ble_eq_true rfl)⟩ (fun u_ H locs hq34 hP hD hS => ?_)
              obtain ⟨ch2_29, dy2_30, sd2_31, f2_32, q_33⟩ := u_
              replace hq34 : (zZ4 f2_32) ∧ (zDR (ch2_29, dy2_30, sd2_31, f2_32) (zDay (zLwR fc lz ll) pe.toInt.toNat wo.toInt.toNat tr 0 (x_15, x_16, x_17, f_18)) ∧ q_33 = (zDk (zLwR fc lz ll) pe.toInt.toNat wo.toInt.toNat (x_15, x_16, x_17, f_18)).2.2) := hq34
              have hP : va_P g.1 vwCl (List.flatten [bFo g fo o lo od, bTown g o a pe wo tx ch jo tr dy sd f, bTown g od ad pe wo tx ch2_29 jo tr dy2_30 sd2_31 f2_32, bLaw g lo lc lz ll (zMean f_18 pe.toInt.toNat) (zPop (zWks f_18 wo.toInt.toNat 1)) x_16 fc]) H := hP
              have hD : va_D A (List.flatten [bFo g fo o lo od, bTown g o a pe wo tx ch jo tr dy sd f, bTown g od ad pe wo tx ch2_29 jo tr dy2_30 sd2_31 f2_32, bLaw g lo lc lz ll (zMean f_18 pe.toInt.toNat) (zPop (zWks f_18 wo.toInt.toNat 1)) x_16 fc]) := hD
              refine W.widen (k := 0) (n := 0) (Nat.le_of_ble_eq_true rfl) (Nat.le_of_ble_eq_true rfl) ?_
              refine W.eq (g2 := F0 m 73 ls [.int q_33]) rfl ?_
              obtain ⟨rf2_32, hq34_1⟩ := hq34
              refine lv_pop hx hb dX0_lookAhead_73 rfl ?_
              refine ziinc3 (n' := 1) (a' := 1) (b' := 100) (lv' := fun v9 => [(4, .int v9), (0, .ref fo), (1, .int st0), (2, .int by9), (3, .int n)]) hx hb dX0_lookAhead_74 hl (k := 4) rfl (by decide) (fun _ => rfl) (zaddK (i := x_11.toInt) (j := 1) rfl (by decide) i19.1 n27 (Int.le_refl _) (Int.le_refl _) (by decide)) (fun x_35 ls hx_35 hl => ?_)
              refine lv_goto (tgt := 54) hx hb dX0_lookAhead_77 (by decide) ?_
              have hl := lv_sub (l' := [(0, .ref fo), (1, .int st0), (2, .int by9), (3, .int n), (4, .int x_35)]) hl [1, 2, 3, 4, 0] rfl
              have hP : va_P g.1 vwCl (List.flatten [bFo g fo o lo od, bTown g o a pe wo tx ch jo tr dy sd f, bTown g od ad pe wo tx ch2_29 jo tr dy2_30 sd2_31 f2_32, bLaw g lo lc lz ll (zMean f_18 pe.toInt.toNat) (zPop (zWks f_18 wo.toInt.toNat 1)) x_16 fc]) H := hP
              have hD : va_D A (List.flatten [bFo g fo o lo od, bTown g o a pe wo tx ch jo tr dy sd f, bTown g od ad pe wo tx ch2_29 jo tr dy2_30 sd2_31 f2_32, bLaw g lo lc lz ll (zMean f_18 pe.toInt.toNat) (zPop (zWks f_18 wo.toInt.toNat 1)) x_16 fc]) := hD
              obtain ⟨hP, hD⟩ := zord (g := g) (Bs' := [bFo g fo o lo od, bLaw g lo lc lz ll (zMean f_18 pe.toInt.toNat) (zPop (zWks f_18 wo.toInt.toNat 1)) x_16 fc, bTown g od ad pe wo tx ch2_29 jo tr dy2_30 sd2_31 f2_32, bTown g o a pe wo tx ch jo tr dy sd f]) [0, 3, 2, 1] rfl rfl hP hD
              have hP : va_P g.1 vwCl (List.flatten [bFo g fo o lo od, bLaw g lo lc lz ll (zMean f_18 pe.toInt.toNat) (zPop (zWks f_18 wo.toInt.toNat 1)) x_16 fc, bTown g od ad pe wo tx ch2_29 jo tr dy2_30 sd2_31 f2_32, bTown g o a pe wo tx ch jo tr dy sd f]) H := hP
              have hD : va_D A (List.flatten [bFo g fo o lo od, bLaw g lo lc lz ll (zMean f_18 pe.toInt.toNat) (zPop (zWks f_18 wo.toInt.toNat 1)) x_16 fc, bTown g od ad pe wo tx ch2_29 jo tr dy2_30 sd2_31 f2_32, bTown g o a pe wo tx ch jo tr dy sd f]) := hD
              exact ih54_23 x_35 (zMean f_18 pe.toInt.toNat) (zPop (zWks f_18 wo.toInt.toNat 1)) x_16 ch2_29 dy2_30 sd2_31 f2_32 ⟨(Int.le_trans (by decide) hx_35.2.1), hx_35.2.2⟩ rf2_32 (zGo_d i20 (by omega) (by omega) hq34_1.1 (by omega)) (by first | omega | assumption | decide) H _ ls (zmK hx_35.1 (by decide) n27 (by decide) hk54_23)  hP hD hS (lv_sub hl [0, 1, 2, 3, 4] rfl)
        have hL0 : (0 : Int32).toInt = 0 := by decide
        have hP : va_P g.1 vwCl (List.flatten [bFo g fo o lo od, bLaw g lo lc lz ll lm lg ld fc, bTown g od ad pe wo tx ch jo tr dy sd f_4, bTown g o a pe wo tx ch jo tr dy sd f]) H := hP
        have hD : va_D A (List.flatten [bFo g fo o lo od, bLaw g lo lc lz ll lm lg ld fc, bTown g od ad pe wo tx ch jo tr dy sd f_4, bTown g o a pe wo tx ch jo tr dy sd f]) := hD
        exact LP54_22 _ 0 lm lg ld ch dy sd f_4 (by decide) rf_4 (zLkC_0 i6 (by omega) (by decide)) (by first | omega | assumption | decide) H _ ls (Nat.lt_succ_self _)  hP hD hS (lv_sub hl [0, 1, 2, 3, 4] rfl)
      · skip
        have c36 : x_3.toInt < pe.toInt := zlti (Int32.not_le.mp cb9) rfl rfl
        have n37 : x_3.toInt ≤ 7 := zL1 (b := 8) c36 b_pe.2 (by decide)
        have n38 : 1 ≤ pe.toInt := zL2 (a := 0) c36 i5.1 (by decide)
        refine lv_iload_n hx hb dX0_lookAhead_26 rfl (lv_at hl 1 rfl) ?_
        refine lv_iload hx hb dX0_lookAhead_27 (lv_at hl 4 rfl) ?_
        refine lv_ishr hx hb dX0_lookAhead_29 ?_
        refine lv_iconst (v := 1) hx hb dX0_lookAhead_30 (by decide) ?_
        refine lv_iand hx hb dX0_lookAhead_31 ?_
        refine lv_if_eq (tgt := 45) hx hb dX0_lookAhead_32 (by decide) (fun cb9 => ?_) (fun cb9 => ?_)
        · skip
          have c39 : ((st0 >>> (x_3 &&& 31)) &&& 1).toInt = 0 := zeq cb9 rfl (by decide)
          have n40 : 0 ≤ ((st0 >>> (x_3 &&& 31)) &&& 1).toInt := Int.le_trans (Int.le_refl _) (Int.le_of_eq c39.symm)
          have n41 : ((st0 >>> (x_3 &&& 31)) &&& 1).toInt ≤ 0 := Int.le_trans (Int.le_of_eq c39) (Int.le_refl _)
          refine ziinc3 (n' := 1) (a' := 1) (b' := 8) (lv' := fun v9 => [(4, .int v9), (0, .ref fo), (1, .int st0), (2, .int by9), (3, .int n)]) hx hb dX0_lookAhead_45 hl (k := 4) rfl (by decide) (fun _ => rfl) (zaddK (i := x_3.toInt) (j := 1) rfl (by decide) i5.1 n37 (Int.le_refl _) (Int.le_refl _) (by decide)) (fun x_42 ls hx_42 hl => ?_)
          refine lv_goto (tgt := 14) hx hb dX0_lookAhead_48 (by decide) ?_
          have hl := lv_sub (l' := [(0, .ref fo), (1, .int st0), (2, .int by9), (3, .int n), (4, .int x_42)]) hl [1, 2, 3, 4, 0] rfl
          have hP : va_P g.1 vwCl (List.flatten [bFo g fo o lo od, bLaw g lo lc lz ll lm lg ld fc, bTown g od ad pe wo tx ch jo tr dy sd f_4, bTown g o a pe wo tx ch jo tr dy sd f]) H := hP
          have hD : va_D A (List.flatten [bFo g fo o lo od, bLaw g lo lc lz ll lm lg ld fc, bTown g od ad pe wo tx ch jo tr dy sd f_4, bTown g o a pe wo tx ch jo tr dy sd f]) := hD
          exact ih14_9 x_42 f_4 ⟨(Int.le_trans (by decide) hx_42.2.1), hx_42.2.2⟩ rf_4 (zRsC_n i6 hx_42.1 (by omega) c39) (by first | omega | assumption | decide) H _ ls (zmK hx_42.1 (by decide) n37 (by decide) hk14_9)  hP hD hS (lv_sub hl [0, 1, 2, 3, 4] rfl)
        · skip
          have c43 : ¬ ((st0 >>> (x_3 &&& 31)) &&& 1).toInt = 0 := zne cb9 rfl (by decide)
          refine lv_aload_n hx hb dX0_lookAhead_35 rfl (lv_at hl 0 rfl) ?_
          refine va_get (D := g.1) (ci := 0) (v := .ref od) (C := RX0) (T := TX0) (N := 3) hx hb hts izRX0 hown hK hP 0 rfl rfl 2 (by decide) (hts _ k25) (fun _ h9 => h9) rfl dX0_lookAhead_36 ?_
          refine lv_iload hx hb dX0_lookAhead_39 (lv_at hl 4 rfl) ?_
          refine lv_iload_n hx hb dX0_lookAhead_41 rfl (lv_at hl 2 rfl) ?_
          refine mcallV' (g := g) (q0 := 0) (ci := 7) (As := [.int x_3, .int by9]) (rest := []) St hK hT hA hP hD hS hl.1 [2] [0, 1, 3] rfl rfl rfl (c_raiseF l g od ad pe wo tx ch jo tr dy sd f_4 x_3 by9 rf_4 (⟨i5.1, n37⟩)) (cwV 2 hts (zgL (zl4 k159 k132 k133 k24) k47) rfl rfl rfl (by decide +kernel) ⟨Nat.le_of_ble_eq_true rfl, Nat.le_of_ble_eq_true rfl⟩) rfl rfl rfl rfl (Nat.le_of_ble_eq_true rfl) dX0_lookAhead_42 ⟨(Nat.le_of_ble_eq_true rfl), (Nat.le_of_ble_eq_true rfl)⟩ (fun f2_44 H locs hq45 hP hD hS => ?_)
          replace hq45 : (zZ4 f2_44) ∧ (f2_44 = zSet f_4 0 (x_3.toInt.toNat) (zCl (f_4 0 x_3.toInt.toNat + by9))) := hq45
          have hP : va_P g.1 vwCl (List.flatten [bFo g fo o lo od, bLaw g lo lc lz ll lm lg ld fc, bTown g o a pe wo tx ch jo tr dy sd f, bTown g od ad pe wo tx ch jo tr dy sd f2_44]) H := hP
          have hD : va_D A (List.flatten [bFo g fo o lo od, bLaw g lo lc lz ll lm lg ld fc, bTown g o a pe wo tx ch jo tr dy sd f, bTown g od ad pe wo tx ch jo tr dy sd f2_44]) := hD
          refine W.widen (k := 0) (n := 0) (Nat.le_of_ble_eq_true rfl) (Nat.le_of_ble_eq_true rfl) ?_
          refine W.eq (g2 := F0 m 45 ls []) rfl ?_
          obtain ⟨rf2_44, hq45_1⟩ := hq45
          refine ziinc3 (n' := 1) (a' := 1) (b' := 8) (lv' := fun v9 => [(4, .int v9), (0, .ref fo), (1, .int st0), (2, .int by9), (3, .int n)]) hx hb dX0_lookAhead_45 hl (k := 4) rfl (by decide) (fun _ => rfl) (zaddK (i := x_3.toInt) (j := 1) rfl (by decide) i5.1 n37 (Int.le_refl _) (Int.le_refl _) (by decide)) (fun x_46 ls hx_46 hl => ?_)
          refine lv_goto (tgt := 14) hx hb dX0_lookAhead_48 (by decide) ?_
          have hl := lv_sub (l' := [(0, .ref fo), (1, .int st0), (2, .int by9), (3, .int n), (4, .int x_46)]) hl [1, 2, 3, 4, 0] rfl
          have hP : va_P g.1 vwCl (List.flatten [bFo g fo o lo od, bLaw g lo lc lz ll lm lg ld fc, bTown g o a pe wo tx ch jo tr dy sd f, bTown g od ad pe wo tx ch jo tr dy sd f2_44]) H := hP
          have hD : va_D A (List.flatten [bFo g fo o lo od, bLaw g lo lc lz ll lm lg ld fc, bTown g o a pe wo tx ch jo tr dy sd f, bTown g od ad pe wo tx ch jo tr dy sd f2_44]) := hD
          obtain ⟨hP, hD⟩ := zord (g := g) (Bs' := [bFo g fo o lo od, bLaw g lo lc lz ll lm lg ld fc, bTown g od ad pe wo tx ch jo tr dy sd f2_44, bTown g o a pe wo tx ch jo tr dy sd f]) [0, 1, 3, 2] rfl rfl hP hD
          have hP : va_P g.1 vwCl (List.flatten [bFo g fo o lo od, bLaw g lo lc lz ll lm lg ld fc, bTown g od ad pe wo tx ch jo tr dy sd f2_44, bTown g o a pe wo tx ch jo tr dy sd f]) H := hP
          have hD : va_D A (List.flatten [bFo g fo o lo od, bLaw g lo lc lz ll lm lg ld fc, bTown g od ad pe wo tx ch jo tr dy sd f2_44, bTown g o a pe wo tx ch jo tr dy sd f]) := hD
          exact ih14_9 x_46 f2_44 ⟨(Int.le_trans (by decide) hx_46.2.1), hx_46.2.2⟩ rf2_44 (zRsC_y i6 hx_46.1 (by omega) c43 hq45_1) (by first | omega | assumption | decide) H _ ls (zmK hx_46.1 (by decide) n37 (by decide) hk14_9)  hP hD hS (lv_sub hl [0, 1, 2, 3, 4] rfl)
  have hL0 : (0 : Int32).toInt = 0 := by decide
  have hP : va_P g.1 vwCl (List.flatten [bFo g fo o lo od, bLaw g lo lc lz ll lm lg ld fc, bTown g od ad pe wo tx ch jo tr dy sd h_1, bTown g o a pe wo tx ch jo tr dy sd f]) H := hP
  have hD : va_D A (List.flatten [bFo g fo o lo od, bLaw g lo lc lz ll lm lg ld fc, bTown g od ad pe wo tx ch jo tr dy sd h_1, bTown g o a pe wo tx ch jo tr dy sd f]) := hD
  exact LP14_8 _ 0 h_1 (by decide) rh_1 (zRsC_0 hq2_1 (by decide)) (by first | omega | assumption | decide) H _ ls (Nat.lt_succ_self _)  hP hD hS (lv_sub hl [0, 1, 2, 3, 4] rfl)
