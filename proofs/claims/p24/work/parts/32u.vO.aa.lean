/-! WHAT IS ASKED: dreams of the class -/
theorem zLk_0 {L : zLw} {st by9 : Int32} {n : Nat} {s : zT9} (h : st = 0) (b : 0 ≤ s.1.toInt ∧ s.1.toInt ≤ 8) : zLk L st by9 n s = zGo L 0 n s := by
  unfold zLk
  rw [zRs_0 h _ (by omega)]; rfl
theorem zRsC_0 {st by9 k : Int32} {f h : zRw} (e : zEq h f) (hk : k.toInt = 0) : zEq h (zRsT st by9 k.toInt.toNat f) := by rw [hk]; exact e
theorem zRsC_n {st by9 k k' : Int32} {f h : zRw} (J : zEq h (zRsT st by9 k.toInt.toNat f)) (hk : k'.toInt = k.toInt + 1) (h0 : 0 ≤ k.toInt ∧ k.toInt < 8) (q : ((st >>> (k &&& 31)) &&& 1).toInt = 0) : zEq h (zRsT st by9 k'.toInt.toNat f) := by
  rw [show k'.toInt.toNat = k.toInt.toNat + 1 by omega]
  rw [znat h0.1] at q
  refine zEq_t ?_ (zRs1_c (by omega) J)
  rw [← zRs_n q]; exact zEq_r _
theorem zRsC_y {st by9 k k' : Int32} {f h h1 : zRw} (J : zEq h (zRsT st by9 k.toInt.toNat f)) (hk : k'.toInt = k.toInt + 1) (h0 : 0 ≤ k.toInt ∧ k.toInt < 8) (q : ¬ ((st >>> (k &&& 31)) &&& 1).toInt = 0) (e : h1 = zSet h 0 k.toInt.toNat (zCl (h 0 k.toInt.toNat + by9))) : zEq h1 (zRsT st by9 k'.toInt.toNat f) := by
  rw [show k'.toInt.toNat = k.toInt.toNat + 1 by omega]
  rw [znat h0.1] at q
  refine zEq_t ?_ (zRs1_c (by omega) J)
  rw [← zRs_y q e]; exact zEq_r _
theorem zLkC_0 {L : zLw} {st by9 k j : Int32} {pe wo tx ch jo tr dy sd : Int32} {f h : zRw} (J : zEq h (zRsT st by9 k.toInt.toNat f)) (e : k.toInt = pe.toInt) (hj : j.toInt = 0) : zR9 (pe, wo, tx, ch, jo, tr, dy, sd, h) (zGo L 0 j.toInt.toNat (zwf (pe, wo, tx, ch, jo, tr, dy, sd, f) (zRsT st by9 pe.toInt.toNat f))) := by
  rw [hj]
  rw [e] at J
  exact zR9_f J
theorem zLkC_x {L : zLw} {st by9 k n : Int32} {s t : zT9} (J : zR9 t (zGo L 0 k.toInt.toNat (zwf s (zRsT st by9 s.1.toInt.toNat s.2.2.2.2.2.2.2.2)))) (e : k.toInt = n.toInt) : zR9 t (zLk L st by9 n.toInt.toNat s) := by
  rw [e] at J; exact J
theorem zGoC_0 {L : zLw} {tl j : Int32} {pe wo tx ch jo tr dy sd : Int32} {f h : zRw} (J : zEq h f) (hj : j.toInt = 0) : zR9 (pe, wo, tx, ch, jo, tr, dy, sd, h) (zGo L tl j.toInt.toNat (pe, wo, tx, ch, jo, tr, dy, sd, f)) := by
  rw [hj]; exact zR9_f J
theorem zGoC_x {L : zLw} {tl k n : Int32} {s t : zT9} (J : zR9 t (zGo L tl k.toInt.toNat s)) (e : k.toInt = n.toInt) : zR9 t (zGo L tl n.toInt.toNat s) := by rw [← e]; exact J
theorem zObs {q a th b : Int32} {p p' : Int32 × Int32} (h1 : (q, a) = p) (h2 : (th, b) = p') (e : p = p') : q = th ∧ a = b := by
  have h := h1.trans (e.trans h2.symm)
  exact ⟨congrArg Prod.fst h, congrArg Prod.snd h⟩
section ZF
variable {L : zLw} {x n c pe wo tx ch jo tr dy sd pe2 wo2 tx2 ch2 jo2 tr2 dy2 sd2 q : Int32} {f f2 : zRw}
theorem zdAhead_c1 (h : ¬ (0 ≤ x.toInt ∧ x.toInt < pe.toInt)) : (1, 0) = zdAhead L x n (pe, wo, tx, ch, jo, tr, dy, sd, f) := zk2_1 h
theorem zdAhead_c2 (h : 0 ≤ x.toInt ∧ x.toInt < pe.toInt) (k : ¬ (0 ≤ n.toInt ∧ n.toInt ≤ 100)) : (2, 0) = zdAhead L x n (pe, wo, tx, ch, jo, tr, dy, sd, f) := zk2_2 h k
theorem zdThen_c1 (k : ¬ (0 ≤ n.toInt ∧ n.toInt ≤ 100)) : (1, 0) = zdThen L n c (pe, wo, tx, ch, jo, tr, dy, sd, f) := zk2_1 k
theorem zdFalls_c1 (k : ¬ (0 ≤ n.toInt ∧ n.toInt ≤ 100)) : (1, 0) = zdFalls L n (pe, wo, tx, ch, jo, tr, dy, sd, f) := zk2_1 k
theorem zdTrial_c1 (k : ¬ (0 ≤ n.toInt ∧ n.toInt ≤ 60)) : (1, 0) = zdTrial L n c (pe, wo, tx, ch, jo, tr, dy, sd, f) := zk2_1 k
theorem zdAhead_c0 (b : 0 ≤ pe.toInt ∧ pe.toInt ≤ 8) (hp : 0 ≤ x.toInt ∧ x.toInt < pe.toInt) (hn : 0 ≤ n.toInt ∧ n.toInt ≤ 100) (g : zR9 (pe2, wo2, tx2, ch2, jo2, tr2, dy2, sd2, f2) (zLk L 0 0 n.toInt.toNat (pe, wo, tx, ch, jo, tr, dy, sd, f))) : (0, f2 0 x.toInt.toNat) = zdAhead L x n (pe, wo, tx, ch, jo, tr, dy, sd, f) := by
  rw [zLk_0 rfl b] at g
  exact zk2_0 hp hn (g.2.2.2.2.2.2.2.2.1 0 _ (by decide) (by omega))
theorem zdThen_c0 (b : 0 ≤ pe.toInt ∧ pe.toInt ≤ 8) (hn : 0 ≤ n.toInt ∧ n.toInt ≤ 100) (g : zR9 (pe2, wo2, tx2, ch2, jo2, tr2, dy2, sd2, f2) (zLk L 0 0 n.toInt.toNat (pe, wo, tx, ch, jo, tr, dy, sd, f))) (e : q = zBl9 (pe2, wo2, tx2, ch2, jo2, tr2, dy2, sd2, f2)) (hc : c.toInt = 0) : (0, q) = zdThen L n c (pe, wo, tx, ch, jo, tr, dy, sd, f) := by
  rw [zLk_0 rfl b] at g
  refine zk2_0 hn trivial ?_
  have e1 : pe2 = pe := g.1
  rw [if_pos hc, e]
  exact zBl9_c g (by show pe2.toInt ≤ 8; rw [e1]; exact b.2)
theorem zdThen_c9 (b : 0 ≤ pe.toInt ∧ pe.toInt ≤ 8) (hn : 0 ≤ n.toInt ∧ n.toInt ≤ 100) (g : zR9 (pe2, wo2, tx2, ch2, jo2, tr2, dy2, sd2, f2) (zLk L 0 0 n.toInt.toNat (pe, wo, tx, ch, jo, tr, dy, sd, f))) (hc : ¬ c.toInt = 0) : (0, ch2) = zdThen L n c (pe, wo, tx, ch, jo, tr, dy, sd, f) := by
  rw [zLk_0 rfl b] at g
  refine zk2_0 hn trivial ?_
  rw [if_neg hc]; exact g.2.2.2.1
theorem zdTrial_c0 (b : 0 ≤ pe.toInt ∧ pe.toInt ≤ 8) (hn : 0 ≤ n.toInt ∧ n.toInt ≤ 60) (g : zR9 (pe2, wo2, tx2, ch2, jo2, tr2, dy2, sd2, f2) (zGo L 1 n.toInt.toNat (pe, wo, tx, ch, jo, tr, dy, sd, f))) (e : q = zBl9 (pe2, wo2, tx2, ch2, jo2, tr2, dy2, sd2, f2)) (hc : c.toInt = 0) : (0, q) = zdTrial L n c (pe, wo, tx, ch, jo, tr, dy, sd, f) := by
  refine zk2_0 hn trivial ?_
  have e1 : pe2 = pe := g.1
  rw [if_pos hc, e]
  exact zBl9_c g (by show pe2.toInt ≤ 8; rw [e1]; exact b.2)
theorem zdTrial_c9 (hn : 0 ≤ n.toInt ∧ n.toInt ≤ 60) (g : zR9 (pe2, wo2, tx2, ch2, jo2, tr2, dy2, sd2, f2) (zGo L 1 n.toInt.toNat (pe, wo, tx, ch, jo, tr, dy, sd, f))) (hc : ¬ c.toInt = 0) : (0, ch2) = zdTrial L n c (pe, wo, tx, ch, jo, tr, dy, sd, f) := by
  refine zk2_0 hn trivial ?_
  rw [if_neg hc]; exact g.2.2.2.1
theorem zdFalls_c0 (b : 0 ≤ pe.toInt ∧ pe.toInt ≤ 8) (bw : 0 ≤ wo.toInt ∧ wo.toInt ≤ 6) (hn : 0 ≤ n.toInt ∧ n.toInt ≤ 100) (g : zR9 (pe2, wo2, tx2, ch2, jo2, tr2, dy2, sd2, f2) (zLk L 0 0 n.toInt.toNat (pe, wo, tx, ch, jo, tr, dy, sd, f))) : (0, zWks f2 wo2.toInt.toNat 2 &&& (zWks f wo.toInt.toNat 2 ^^^ -1)) = zdFalls L n (pe, wo, tx, ch, jo, tr, dy, sd, f) := by
  rw [zLk_0 rfl b] at g
  have e2 : wo2 = wo := g.2.1
  refine zk2_0 hn trivial ?_
  rw [show zWks f2 wo2.toInt.toNat 2 = zWk9 (zGo L 0 n.toInt.toNat (pe, wo, tx, ch, jo, tr, dy, sd, f)) from zWk9_c g (by show wo2.toInt ≤ 6; rw [e2]; exact bw.2)]; rfl
end ZF
/-! WHAT IS ASKED of the town itself -/
def zWth (f : zRw) (pe x : Nat) : Int32 := f 1 x + f 2 x * zPrice f pe
def zShr (f : zRw) (pe x : Nat) : Int32 := if (zBel f pe).toInt = 0 ∨ ¬ (f 3 x).toInt = -1 then 0 else f 0 x * 100 / zBel f pe
def zDb (f : zRw) (pe : Nat) : Int32 := zOf (fun x => if (f 3 x).toInt = -1 ∧ (f 0 x).toInt < 33 then zBit x else 0) pe
theorem zWth_c {f g : zRw} {pe x : Nat} (h : zEq f g) (hp : pe ≤ 8) (hx : x < 8) : zWth f pe x = zWth g pe x := by
  unfold zWth
  rw [zPrice_c h hp, h.1 1 x (by decide) hx, h.1 2 x (by decide) hx]
theorem zShr_c {f g : zRw} {pe x : Nat} (h : zEq f g) (hp : pe ≤ 8) (hx : x < 8) : zShr f pe x = zShr g pe x := by
  unfold zShr
  rw [zBel_c h hp, h.1 3 x (by decide) hx, h.1 0 x (by decide) hx]
theorem zDb_c {f g : zRw} {pe : Nat} (h : zEq f g) (hp : pe ≤ 8) : zDb f pe = zDb g pe := zFo_c pe (fun i hi => by
  show (if (f 3 i).toInt = -1 ∧ (f 0 i).toInt < 33 then zBit i else 0) = (if (g 3 i).toInt = -1 ∧ (g 0 i).toInt < 33 then zBit i else 0)
  rw [h.1 3 i (by omega) (by omega), h.1 0 i (by omega) (by omega)])
theorem zDb_i (f : zRw) {n : Nat} (hn : n ≤ 8) : 0 ≤ (zDb f n).toInt ∧ (zDb f n).toInt ≤ 255 := by
  obtain ⟨m, h1, h2⟩ := zOr_b (g := fun x => if (f 3 x).toInt = -1 ∧ (f 0 x).toInt < 33 then zBit x else 0) (fun x => by
    by_cases q : (f 3 x).toInt = -1 ∧ (f 0 x).toInt < 33
    · exact Or.inr (if_pos q)
    · exact Or.inl (if_neg q)) n hn
  have h3 : m < 256 := Nat.lt_of_lt_of_le h1 (show 2 ^ n ≤ 2 ^ 8 from Nat.pow_le_pow_right (by decide) hn)
  rw [show zDb f n = nI m from h2, nI_toInt (by omega)]; omega
theorem zShr_0 {f : zRw} {pe x : Nat} (h : (zBel f pe).toInt = 0 ∨ ¬ (f 3 x).toInt = -1) : 0 = zShr f pe x := (if_pos h).symm
theorem zShr_1 {f : zRw} {pe x : Nat} (h : ¬ (zBel f pe).toInt = 0) (k : (f 3 x).toInt = -1) : f 0 x * 100 / zBel f pe = zShr f pe x := (if_neg (fun q => q.elim h (fun w => w k))).symm
theorem zShr_2 {f : zRw} {pe x : Nat} (h : ¬ (zBel f pe).toInt = 0) (k : (f 3 x).toInt = -1) : 100 * f 0 x / zBel f pe = zShr f pe x := by rw [Int32.mul_comm]; exact zShr_1 h k
/-- the best of those that may be, the least of several -/
def zBst (P : Nat → Bool) (W : Nat → Int32) : Nat → Int32
  | 0 => -1
  | k + 1 => if P k = true ∧ ((zBst P W k).toInt = -1 ∨ (W (zBst P W k).toInt.toNat).toInt < (W k).toInt) then nI k else zBst P W k
theorem zBst_0 {P : Nat → Bool} {W : Nat → Int32} {b k : Int32} (hb : b = -1) (hk : k.toInt = 0) : b = zBst P W k.toInt.toNat := by rw [hk]; exact hb
theorem zBst_y {P : Nat → Bool} {W : Nat → Int32} {b k k' : Int32} (h : b = zBst P W k.toInt.toNat) (hk : k'.toInt = k.toInt + 1) (h0 : 0 ≤ k.toInt) (p : P k.toInt.toNat = true) (q : b.toInt = -1 ∨ (W b.toInt.toNat).toInt < (W k.toInt.toNat).toInt) : k = zBst P W k'.toInt.toNat := by
  rw [show k'.toInt.toNat = k.toInt.toNat + 1 by omega]
  show k = if P k.toInt.toNat = true ∧ ((zBst P W k.toInt.toNat).toInt = -1 ∨ (W (zBst P W k.toInt.toNat).toInt.toNat).toInt < (W k.toInt.toNat).toInt) then nI k.toInt.toNat else zBst P W k.toInt.toNat
  rw [← h, if_pos ⟨p, q⟩]; exact znat h0
theorem zBst_n {P : Nat → Bool} {W : Nat → Int32} {b k k' : Int32} (h : b = zBst P W k.toInt.toNat) (hk : k'.toInt = k.toInt + 1) (h0 : 0 ≤ k.toInt) (p : ¬ (P k.toInt.toNat = true ∧ (b.toInt = -1 ∨ (W b.toInt.toNat).toInt < (W k.toInt.toNat).toInt))) : b = zBst P W k'.toInt.toNat := by
  rw [show k'.toInt.toNat = k.toInt.toNat + 1 by omega]
  show b = if P k.toInt.toNat = true ∧ ((zBst P W k.toInt.toNat).toInt = -1 ∨ (W (zBst P W k.toInt.toNat).toInt.toNat).toInt < (W k.toInt.toNat).toInt) then nI k.toInt.toNat else zBst P W k.toInt.toNat
  rw [← h, if_neg p]
theorem zBst_x {P : Nat → Bool} {W : Nat → Int32} {b k n : Int32} (h : b = zBst P W k.toInt.toNat) (e : k.toInt = n.toInt) : b = zBst P W n.toInt.toNat := by rw [← e]; exact h
theorem zBst_b (P : Nat → Bool) (W : Nat → Int32) : ∀ k : Nat, k ≤ 8 → -1 ≤ (zBst P W k).toInt ∧ (zBst P W k).toInt < (k : Int)
  | 0, _ => by
    show -1 ≤ (-1 : Int32).toInt ∧ (-1 : Int32).toInt < ((0 : Nat) : Int)
    decide
  | k + 1, hk => by
    have ih := zBst_b P W k (by omega)
    show -1 ≤ (if P k = true ∧ ((zBst P W k).toInt = -1 ∨ (W (zBst P W k).toInt.toNat).toInt < (W k).toInt) then nI k else zBst P W k).toInt ∧ (if P k = true ∧ ((zBst P W k).toInt = -1 ∨ (W (zBst P W k).toInt.toNat).toInt < (W k).toInt) then nI k else zBst P W k).toInt < ((k + 1 : Nat) : Int)
    by_cases q : P k = true ∧ ((zBst P W k).toInt = -1 ∨ (W (zBst P W k).toInt.toNat).toInt < (W k).toInt)
    · rw [if_pos q, nI_toInt (by omega)]; omega
    · rw [if_neg q]; omega
theorem zBst_c {P Q : Nat → Bool} {W V : Nat → Int32} : ∀ n : Nat, n ≤ 8 → (∀ k, k < n → P k = Q k) → (∀ k, k < n → W k = V k) → zBst P W n = zBst Q V n
  | 0, _, _, _ => rfl
  | n + 1, hn, hP, hW => by
    have ih := zBst_c n (by omega) (fun k hk => hP k (by omega)) (fun k hk => hW k (by omega))
    have b := zBst_b Q V n (by omega)
    show (if P n = true ∧ ((zBst P W n).toInt = -1 ∨ (W (zBst P W n).toInt.toNat).toInt < (W n).toInt) then nI n else zBst P W n) = (if Q n = true ∧ ((zBst Q V n).toInt = -1 ∨ (V (zBst Q V n).toInt.toNat).toInt < (V n).toInt) then nI n else zBst Q V n)
    rw [ih, hP n (by omega), hW n (by omega)]
    by_cases m : (zBst Q V n).toInt = -1
    · by_cases q : Q n = true
      · rw [if_pos ⟨q, Or.inl m⟩, if_pos ⟨q, Or.inl m⟩]
      · rw [if_neg (fun w => q w.1), if_neg (fun w => q w.1)]
    · rw [hW _ (by omega)]
def zoTrust (x o : Int32) (s : zT9) : Int32 × Int32 := zk2 ((0 ≤ x.toInt ∧ x.toInt < s.1.toInt) ∧ (0 ≤ o.toInt ∧ o.toInt < s.1.toInt)) (¬ x.toInt = o.toInt) (s.2.2.2.2.2.2.2.2 5 (8 * x.toInt.toNat + o.toInt.toNat))
def zPrc9 (s : zT9) : Int32 := zPrice s.2.2.2.2.2.2.2.2 s.1.toInt.toNat
def zDbt9 (s : zT9) : Int32 := zDb s.2.2.2.2.2.2.2.2 s.1.toInt.toNat
def zRch9 (s : zT9) : Int32 := zBst (fun _ => true) (zWth s.2.2.2.2.2.2.2.2 s.1.toInt.toNat) s.1.toInt.toNat
def zFrm9 (s : zT9) : Int32 := zBst (fun x => decide ((s.2.2.2.2.2.2.2.2 3 x).toInt = -1)) (s.2.2.2.2.2.2.2.2 0) s.1.toInt.toNat
def zWk4 (f : zRw) (w : Nat) (k : Int) : Int32 := if k = 0 then f 6 w else if k = 1 then f 7 w else if k = 2 then f 8 w else f 9 w
def zoWork (w k : Int32) (s : zT9) : Int32 × Int32 := zk2 (0 ≤ w.toInt ∧ w.toInt < s.2.1.toInt) (0 ≤ k.toInt ∧ k.toInt ≤ 3) (zWk4 s.2.2.2.2.2.2.2.2 w.toInt.toNat k.toInt)
theorem zWk4_c {f g : zRw} {w : Nat} {k : Int} (h : zEq f g) (hw : w < 6) : zWk4 f w k = zWk4 g w k := by
  unfold zWk4
  rw [h.2.2 6 w (by decide) (by decide) hw, h.2.2 7 w (by decide) (by decide) hw, h.2.2 8 w (by decide) (by decide) hw, h.2.2 9 w (by decide) (by decide) hw]
theorem zoTrust_c {x o : Int32} {s t : zT9} (h : zR9 s t) (k : zOk s) : zoTrust x o s = zoTrust x o t := by
  have b := k.1
  unfold zoTrust
  rw [← h.1]
  exact zk2_c Iff.rfl (fun _ => Iff.rfl) (fun a c => h.2.2.2.2.2.2.2.2.2.1 _ _ (by omega) (by omega) (by omega))
theorem zoWork_c {w q : Int32} {s t : zT9} (h : zR9 s t) (k : zOk s) : zoWork w q s = zoWork w q t := by
  have b := k.2.1
  unfold zoWork
  rw [← h.2.1]
  exact zk2_c Iff.rfl (fun _ => Iff.rfl) (fun a c => zWk4_c h.2.2.2.2.2.2.2.2 (by omega))
theorem zPrc9_c {s t : zT9} (h : zR9 s t) (k : zOk s) : zPrc9 s = zPrc9 t := by
  have b := k.1
  unfold zPrc9
  rw [← h.1]; exact zPrice_c h.2.2.2.2.2.2.2.2 (by omega)
theorem zDbt9_c {s t : zT9} (h : zR9 s t) (k : zOk s) : zDbt9 s = zDbt9 t := by
  have b := k.1
  unfold zDbt9
  rw [← h.1]; exact zDb_c h.2.2.2.2.2.2.2.2 (by omega)
theorem zRch9_c {s t : zT9} (h : zR9 s t) (k : zOk s) : zRch9 s = zRch9 t := by
  have b := k.1
  unfold zRch9
  rw [← h.1]; exact zBst_c _ (by omega) (fun _ _ => rfl) (fun i hi => zWth_c h.2.2.2.2.2.2.2.2 (by omega) (by omega))
theorem zFrm9_c {s t : zT9} (h : zR9 s t) (k : zOk s) : zFrm9 s = zFrm9 t := by
  have b := k.1
  unfold zFrm9
  rw [← h.1]
  refine zBst_c _ (by omega) (fun i hi => ?_) (fun i hi => h.2.2.2.2.2.2.2.2.1 0 i (by decide) (by omega))
  show decide ((s.2.2.2.2.2.2.2.2 3 i).toInt = -1) = decide ((t.2.2.2.2.2.2.2.2 3 i).toInt = -1)
  rw [h.2.2.2.2.2.2.2.2.1 3 i (by decide) (by omega)]
section ZG
variable {x o w n pe wo tx ch jo tr dy sd : Int32} {f : zRw} {m : Nat → Int32}
theorem zoTrust_c1 (h : ¬ ((0 ≤ x.toInt ∧ x.toInt < pe.toInt) ∧ (0 ≤ o.toInt ∧ o.toInt < pe.toInt))) : (1, 0) = zoTrust x o (pe, wo, tx, ch, jo, tr, dy, sd, f) := zk2_1 h
theorem zoTrust_c2 (h : (0 ≤ x.toInt ∧ x.toInt < pe.toInt) ∧ (0 ≤ o.toInt ∧ o.toInt < pe.toInt)) (k : x.toInt = o.toInt) : (2, 0) = zoTrust x o (pe, wo, tx, ch, jo, tr, dy, sd, f) := zk2_2 h (fun q => q k)
theorem zoTrust_c0 (h : (0 ≤ x.toInt ∧ x.toInt < pe.toInt) ∧ (0 ≤ o.toInt ∧ o.toInt < pe.toInt)) (k : ¬ x.toInt = o.toInt) : (0, f 5 (8 * x.toInt.toNat + o.toInt.toNat)) = zoTrust x o (pe, wo, tx, ch, jo, tr, dy, sd, f) := zk2_0 h k rfl
theorem zoTrust_m1 (h : ¬ ((0 ≤ x.toInt ∧ x.toInt < (m 3).toInt) ∧ (0 ≤ o.toInt ∧ o.toInt < (m 3).toInt))) : (1, 0) = zoTrust x o (zM9 m) := zk2_1 h
theorem zoTrust_m2 (h : (0 ≤ x.toInt ∧ x.toInt < (m 3).toInt) ∧ (0 ≤ o.toInt ∧ o.toInt < (m 3).toInt)) (k : x.toInt = o.toInt) : (2, 0) = zoTrust x o (zM9 m) := zk2_2 h (fun q => q k)
theorem zoTrust_m0 (h : (0 ≤ x.toInt ∧ x.toInt < (m 3).toInt) ∧ (0 ≤ o.toInt ∧ o.toInt < (m 3).toInt)) (k : ¬ x.toInt = o.toInt) : (0, zV m 5 (8 * x.toInt.toNat + o.toInt.toNat)) = zoTrust x o (zM9 m) := zk2_0 h k rfl
theorem zoWork_c1 (h : ¬ (0 ≤ w.toInt ∧ w.toInt < wo.toInt)) : (1, 0) = zoWork w n (pe, wo, tx, ch, jo, tr, dy, sd, f) := zk2_1 h
theorem zoWork_c2 (h : 0 ≤ w.toInt ∧ w.toInt < wo.toInt) (k : ¬ (0 ≤ n.toInt ∧ n.toInt ≤ 3)) : (2, 0) = zoWork w n (pe, wo, tx, ch, jo, tr, dy, sd, f) := zk2_2 h k
theorem zoWork_c0 {r : Nat} (h : 0 ≤ w.toInt ∧ w.toInt < wo.toInt) (k : (n.toInt = 0 ∧ r = 6) ∨ (n.toInt = 1 ∧ r = 7) ∨ (n.toInt = 2 ∧ r = 8) ∨ (n.toInt = 3 ∧ r = 9)) : (0, f r w.toInt.toNat) = zoWork w n (pe, wo, tx, ch, jo, tr, dy, sd, f) := zk2_0 h (by omega) (by
  show f r w.toInt.toNat = zWk4 f w.toInt.toNat n.toInt
  unfold zWk4
  rcases k with ⟨a, b⟩ | ⟨a, b⟩ | ⟨a, b⟩ | ⟨a, b⟩ <;> rw [a, b] <;> rfl)
theorem zoWork_m1 (h : ¬ (0 ≤ w.toInt ∧ w.toInt < (m 4).toInt)) : (1, 0) = zoWork w n (zM9 m) := zk2_1 h
theorem zoWork_m2 (h : 0 ≤ w.toInt ∧ w.toInt < (m 4).toInt) (k : ¬ (0 ≤ n.toInt ∧ n.toInt ≤ 3)) : (2, 0) = zoWork w n (zM9 m) := zk2_2 h k
theorem zoWork_m0 (h : 0 ≤ w.toInt ∧ w.toInt < (m 4).toInt) (k : 0 ≤ n.toInt ∧ n.toInt ≤ 3) : (0, m (115 + 4 * w.toInt.toNat + n.toInt.toNat)) = zoWork w n (zM9 m) := zk2_0 h k (by
  show m (115 + 4 * w.toInt.toNat + n.toInt.toNat) = zWk4 (zV m) w.toInt.toNat n.toInt
  unfold zWk4
  rcases (show n.toInt = 0 ∨ n.toInt = 1 ∨ n.toInt = 2 ∨ n.toInt = 3 by omega) with a | a | a | a <;> rw [a]
  · rfl
  · exact congrArg m (by omega)
  · exact congrArg m (by omega)
  · exact congrArg m (by omega))
end ZG
