/-! WHAT IS ASKED: dreams of the class -/
theorem zLk_0 {L : zLw} {st by9 : Int32} {n : Nat} {s : zT9} (h : st = 0) (b : 0 ≤ s.1.toInt ∧ s.1.toInt ≤ 8) : zLk L st by9 n s = zGo L 0 n s := by
  unfold zLk
  rw [zRs_0 h _ (by omega)]; rfl
theorem zRsC_0 {st by9 k : Int32} {f h : zRw} (e : zEq h f) (hk : k.toInt = 0) : zEq h (zRsT st by9 k.toInt.toNat f) := by rw [hk]; exact e
theorem zRsC_n {st by9 k k' : Int32} {f h : zRw} (J : zEq h (zRsT st by9 k.toInt.toNat f)) (hk : k'.toInt = k.toInt + 1) (h0 : 0 ≤ k.toInt ∧ k.toInt < 8) (q : ((st >>> (k &&& 31)) &&& 1).toInt = 0) : zEq h (zRsT st by9 k'.toInt.toNat f) := by
  rw [show k'.toInt.toNat = k.toInt.toNat + 1 by omega]
  rw [znat h0.1] at q
  refine zEq_t ?_ (zRs1_c (by omega) J)
  rw [← zRs_n q]; exact zEq_r _
theorem zRsC_y {st by9 k k' : Int32} {f h h1 : zRw} (J : zEq h (zRsT st by9 k.toInt.toNat f)) (hk : k'.toInt = k.toInt + 1) (h0 : 0 ≤ k.toInt ∧ k.toInt < 8) (q : ¬ ((st >>> (k &&& 31)) &&& 1).toInt = 0) (e : h1 = zSet h 0 k.toInt.toNat (zCl (h 0 k.toInt.toNat + by9))) : zEq h1 (zRsT st by9 k'.toInt.toNat f) := by
  rw [show k'.toInt.toNat = k.toInt.toNat + 1 by omega]
  rw [znat h0.1] at q
  refine zEq_t ?_ (zRs1_c (by omega) J)
  rw [← zRs_y q e]; exact zEq_r _
theorem zLkC_0 {L : zLw} {st by9 k j : Int32} {pe wo tx ch jo tr dy sd : Int32} {f h : zRw} (J : zEq h (zRsT st by9 k.toInt.toNat f)) (e : k.toInt = pe.toInt) (hj : j.toInt = 0) : zR9 (pe, wo, tx, ch, jo, tr, dy, sd, h) (zGo L 0 j.toInt.toNat (zwf (pe, wo, tx, ch, jo, tr, dy, sd, f) (zRsT st by9 pe.toInt.toNat f))) := by
  rw [hj]
  rw [e] at J
  exact zR9_f J
theorem zLkC_x {L : zLw} {st by9 k n : Int32} {s t : zT9} (J : zR9 t (zGo L 0 k.toInt.toNat (zwf s (zRsT st by9 s.1.toInt.toNat s.2.2.2.2.2.2.2.2)))) (e : k.toInt = n.toInt) : zR9 t (zLk L st by9 n.toInt.toNat s) := by
  rw [e] at J; exact J
theorem zGoC_0 {L : zLw} {tl j : Int32} {pe wo tx ch jo tr dy sd : Int32} {f h : zRw} (J : zEq h f) (hj : j.toInt = 0) : zR9 (pe, wo, tx, ch, jo, tr, dy, sd, h) (zGo L tl j.toInt.toNat (pe, wo, tx, ch, jo, tr, dy, sd, f)) := by
  rw [hj]; exact zR9_f J
theorem zGoC_x {L : zLw} {tl k n : Int32} {s t : zT9} (J : zR9 t (zGo L tl k.toInt.toNat s)) (e : k.toInt = n.toInt) : zR9 t (zGo L tl n.toInt.toNat s) := by rw [← e]; exact J
theorem zObs {q a th b : Int32} {p p' : Int32 × Int32} (h1 : (q, a) = p) (h2 : (th, b) = p') (e : p = p') : q = th ∧ a = b := by
  have h := h1.trans (e.trans h2.symm)
  exact ⟨congrArg Prod.fst h, congrArg Prod.snd h⟩
section ZF
variable {L : zLw} {x n c pe wo tx ch jo tr dy sd pe2 wo2 tx2 ch2 jo2 tr2 dy2 sd2 q : Int32} {f f2 : zRw}
theorem zdAhead_c1 (h : ¬ (0 ≤ x.toInt ∧ x.toInt < pe.toInt)) : (1, 0) = zdAhead L x n (pe, wo, tx, ch, jo, tr, dy, sd, f) := zk2_1 h
theorem zdAhead_c2 (h : 0 ≤ x.toInt ∧ x.toInt < pe.toInt) (k : ¬ (0 ≤ n.toInt ∧ n.toInt ≤ 100)) : (2, 0) = zdAhead L x n (pe, wo, tx, ch, jo, tr, dy, sd, f) := zk2_2 h k
theorem zdThen_c1 (k : ¬ (0 ≤ n.toInt ∧ n.toInt ≤ 100)) : (1, 0) = zdThen L n c (pe, wo, tx, ch, jo, tr, dy, sd, f) := zk2_1 k
theorem zdFalls_c1 (k : ¬ (0 ≤ n.toInt ∧ n.toInt ≤ 100)) : (1, 0) = zdFalls L n (pe, wo, tx, ch, jo, tr, dy, sd, f) := zk2_1 k
theorem zdTrial_c1 (k : ¬ (0 ≤ n.toInt ∧ n.toInt ≤ 60)) : (1, 0) = zdTrial L n c (pe, wo, tx, ch, jo, tr, dy, sd, f) := zk2_1 k
theorem zdAhead_c0 (b : 0 ≤ pe.toInt ∧ pe.toInt ≤ 8) (hp : 0 ≤ x.toInt ∧ x.toInt < pe.toInt) (hn : 0 ≤ n.toInt ∧ n.toInt ≤ 100) (g : zR9 (pe2, wo2, tx2, ch2, jo2, tr2, dy2, sd2, f2) (zLk L 0 0 n.toInt.toNat (pe, wo, tx, ch, jo, tr, dy, sd, f))) : (0, f2 0 x.toInt.toNat) = zdAhead L x n (pe, wo, tx, ch, jo, tr, dy, sd, f) := by
  rw [zLk_0 rfl b] at g
  exact zk2_0 hp hn (g.2.2.2.2.2.2.2.2.1 0 _ (by decide) (by omega))
theorem zdThen_c0 (b : 0 ≤ pe.toInt ∧ pe.toInt ≤ 8) (hn : 0 ≤ n.toInt ∧ n.toInt ≤ 100) (g : zR9 (pe2, wo2, tx2, ch2, jo2, tr2, dy2, sd2, f2) (zLk L 0 0 n.toInt.toNat (pe, wo, tx, ch, jo, tr, dy, sd, f))) (e : q = zBl9 (pe2, wo2, tx2, ch2, jo2, tr2, dy2, sd2, f2)) (hc : c.toInt = 0) : (0, q) = zdThen L n c (pe, wo, tx, ch, jo, tr, dy, sd, f) := by
  rw [zLk_0 rfl b] at g
  refine zk2_0 hn trivial ?_
  have e1 : pe2 = pe := g.1
  rw [if_pos hc, e]
  exact zBl9_c g (by show pe2.toInt ≤ 8; rw [e1]; exact b.2)
theorem zdThen_c9 (b : 0 ≤ pe.toInt ∧ pe.toInt ≤ 8) (hn : 0 ≤ n.toInt ∧ n.toInt ≤ 100) (g : zR9 (pe2, wo2, tx2, ch2, jo2, tr2, dy2, sd2, f2) (zLk L 0 0 n.toInt.toNat (pe, wo, tx, ch, jo, tr, dy, sd, f))) (hc : ¬ c.toInt = 0) : (0, ch2) = zdThen L n c (pe, wo, tx, ch, jo, tr, dy, sd, f) := by
  rw [zLk_0 rfl b] at g
  refine zk2_0 hn trivial ?_
  rw [if_neg hc]; exact g.2.2.2.1
theorem zdTrial_c0 (b : 0 ≤ pe.toInt ∧ pe.toInt ≤ 8) (hn : 0 ≤ n.toInt ∧ n.toInt ≤ 60) (g : zR9 (pe2, wo2, tx2, ch2, jo2, tr2, dy2, sd2, f2) (zGo L 1 n.toInt.toNat (pe, wo, tx, ch, jo, tr, dy, sd, f))) (e : q = zBl9 (pe2, wo2, tx2, ch2, jo2, tr2, dy2, sd2, f2)) (hc : c.toInt = 0) : (0, q) = zdTrial L n c (pe, wo, tx, ch, jo, tr, dy, sd, f) := by
  refine zk2_0 hn trivial ?_
  have e1 : pe2 = pe := g.1
  rw [if_pos hc, e]
  exact zBl9_c g (by show pe2.toInt ≤ 8; rw [e1]; exact b.2)
theorem zdTrial_c9 (hn : 0 ≤ n.toInt ∧ n.toInt ≤ 60) (g : zR9 (pe2, wo2, tx2, ch2, jo2, tr2, dy2, sd2, f2) (zGo L 1 n.toInt.toNat (pe, wo, tx, ch, jo, tr, dy, sd, f))) (hc : ¬ c.toInt = 0) : (0, ch2) = zdTrial L n c (pe, wo, tx, ch, jo, tr, dy, sd, f) := by
  refine zk2_0 hn trivial ?_
  rw [if_neg hc]; exact g.2.2.2.1
theorem zdFalls_c0 (b : 0 ≤ pe.toInt ∧ pe.toInt ≤ 8) (bw : 0 ≤ wo.toInt ∧ wo.toInt ≤ 6) (hn : 0 ≤ n.toInt ∧ n.toInt ≤ 100) (g : zR9 (pe2, wo2, tx2, ch2, jo2, tr2, dy2, sd2, f2) (zLk L 0 0 n.toInt.toNat (pe, wo, tx, ch, jo, tr, dy, sd, f))) : (0, zWks f2 wo2.toInt.toNat 2 &&& (zWks f wo.toInt.toNat 2 ^^^ -1)) = zdFalls L n (pe, wo, tx, ch, jo, tr, dy, sd, f) := by
  rw [zLk_0 rfl b] at g
  have e2 : wo2 = wo := g.2.1
  refine zk2_0 hn trivial ?_
  rw [show zWks f2 wo2.toInt.toNat 2 = zWk9 (zGo L 0 n.toInt.toNat (pe, wo, tx, ch, jo, tr, dy, sd, f)) from zWk9_c g (by show wo2.toInt ≤ 6; rw [e2]; exact bw.2)]; rfl
end ZF
/-! WHAT IS ASKED of the town itself -/
def zWth (f : zRw) (pe x : Nat) : Int32 := f 1 x + f 2 x * zPrice f pe
def zShr (f : zRw) (pe x : Nat) : Int32 := if (zBel f pe).toInt = 0 ∨ ¬ (f 3 x).toInt = -1 then 0 else f 0 x * 100 / zBel f pe
def zDb (f : zRw) (pe : Nat) : Int32 := zOf (fun x => if (f 3 x).toInt = -1 ∧ (f 0 x).toInt < 33 then zBit x else 0) pe
theorem zWth_c {f g : zRw} {pe x : Nat} (h : zEq f g) (hp : pe ≤ 8) (hx : x < 8) : zWth f pe x = zWth g pe x := by
  unfold zWth
  rw [zPrice_c h hp, h.1 1 x (by decide) hx, h.1 2 x (by decide) hx]
theorem zShr_c {f g : zRw} {pe x : Nat} (h : zEq f g) (hp : pe ≤ 8) (hx : x < 8) : zShr f pe x = zShr g pe x := by
  unfold zShr
  rw [zBel_c h hp, h.1 3 x (by decide) hx, h.1 0 x (by decide) hx]
theorem zDb_c {f g : zRw} {pe : Nat} (h : zEq f g) (hp : pe ≤ 8) : zDb f pe = zDb g pe := zFo_c pe (fun i hi => by
  show (if (f 3 i).toInt = -1 ∧ (f 0 i).toInt < 33 then zBit i else 0) = (if (g 3 i).toInt = -1 ∧ (g 0 i).toInt < 33 then zBit i else 0)
  rw [h.1 3 i (by omega) (by omega), h.1 0 i (by omega) (by omega)])
theorem zDb_i (f : zRw) {n : Nat} (hn : n ≤ 8) : 0 ≤ (zDb f n).toInt ∧ (zDb f n).toInt ≤ 255 := by
  obtain ⟨m, h1, h2⟩ := zOr_b (g := fun x => if (f 3 x).toInt = -1 ∧ (f 0 x).toInt < 33 then zBit x else 0) (fun x => by
    by_cases q : (f 3 x).toInt = -1 ∧ (f 0 x).toInt < 33
    · exact Or.inr (if_pos q)
    · exact Or.inl (if_neg q)) n hn
  have h3 : m < 256 := Nat.lt_of_lt_of_le h1 (show 2 ^ n ≤ 2 ^ 8 from Nat.pow_le_pow_right (by decide) hn)
  rw [show zDb f n = nI m from h2, nI_toInt (by omega)]; omega
theorem zShr_0 {f : zRw} {pe x : Nat} (h : (zBel f pe).toInt = 0 ∨ ¬ (f 3 x).toInt = -1) : 0 = zShr f pe x := (if_pos h).symm
theorem zShr_1 {f : zRw} {pe x : Nat} (h : ¬ (zBel f pe).toInt = 0) (k : (f 3 x).toInt = -1) : f 0 x * 100 / zBel f pe = zShr f pe x := (if_neg (fun q => q.elim h (fun w => w k))).symm
theorem zShr_2 {f : zRw} {pe x : Nat} (h : ¬ (zBel f pe).toInt = 0) (k : (f 3 x).toInt = -1) : 100 * f 0 x / zBel f pe = zShr f pe x := by rw [Int32.mul_comm]; exact zShr_1 h k
/-- the best of those that may be, the least of several -/
def zBst (P : Nat → Bool) (W : Nat → Int32) : Nat → Int32
  | 0 => -1
  | k + 1 => if P k = true ∧ ((zBst P W k).toInt = -1 ∨ (W (zBst P W k).toInt.toNat).toInt < (W k).toInt) then nI k else zBst P W k
theorem zBst_0 {P : Nat → Bool} {W : Nat → Int32} {b k : Int32} (hb : b = -1) (hk : k.toInt = 0) : b = zBst P W k.toInt.toNat := by rw [hk]; exact hb
theorem zBst_y {P : Nat → Bool} {W : Nat → Int32} {b k k' : Int32} (h : b = zBst P W k.toInt.toNat) (hk : k'.toInt = k.toInt + 1) (h0 : 0 ≤ k.toInt) (p : P k.toInt.toNat = true) (q : b.toInt = -1 ∨ (W b.toInt.toNat).toInt < (W k.toInt.toNat).toInt) : k = zBst P W k'.toInt.toNat := by
  rw [show k'.toInt.toNat = k.toInt.toNat + 1 by omega]
  show k = if P k.toInt.toNat = true ∧ ((zBst P W k.toInt.toNat).toInt = -1 ∨ (W (zBst P W k.toInt.toNat).toInt.toNat).toInt < (W k.toInt.toNat).toInt) then nI k.toInt.toNat else zBst P W k.toInt.toNat
  rw [← h, if_pos ⟨p, q⟩]; exact znat h0
theorem zBst_n {P : Nat → Bool} {W : Nat → Int32} {b k k' : Int32} (h : b = zBst P W k.toInt.toNat) (hk : k'.toInt = k.toInt + 1) (h0 : 0 ≤ k.toInt) (p : ¬ (P k.toInt.toNat = true ∧ (b.toInt = -1 ∨ (W b.toInt.toNat).toInt < (W k.toInt.toNat).toInt))) : b = zBst P W k'.toInt.toNat := by
  rw [show k'.toInt.toNat = k.toInt.toNat + 1 by omega]
  show b = if P k.toInt.toNat = true ∧ ((zBst P W k.toInt.toNat).toInt = -1 ∨ (W (zBst P W k.toInt.toNat).toInt.toNat).toInt < (W k.toInt.toNat).toInt) then nI k.toInt.toNat else zBst P W k.toInt.toNat
  rw [← h, if_neg p]
theorem zBst_x {P : Nat → Bool} {W : Nat → Int32} {b k n : Int32} (h : b = zBst P W k.toInt.toNat) (e : k.toInt = n.toInt) : b = zBst P W n.toInt.toNat := by rw [← e]; exact h
theorem zBst_b (P : Nat → Bool) (W : Nat → Int32) : ∀ k : Nat, k ≤ 8 → -1 ≤ (zBst P W k).toInt ∧ (zBst P W k).toInt < (k : Int)
  | 0, _ => by
    show -1 ≤ (-1 : Int32).toInt ∧ (-1 : Int32).toInt < ((0 : Nat) : Int)
    decide
  | k + 1, hk => by
    have ih := zBst_b P W k (by omega)
    show -1 ≤ (if P k = true ∧ ((zBst P W k).toInt = -1 ∨ (W (zBst P W k).toInt.toNat).toInt < (W k).toInt) then nI k else zBst P W k).toInt ∧ (if P k = true ∧ ((zBst P W k).toInt = -1 ∨ (W (zBst P W k).toInt.toNat).toInt < (W k).toInt) then nI k else zBst P W k).toInt < ((k + 1 : Nat) : Int)
    by_cases q : P k = true ∧ ((zBst P W k).toInt = -1 ∨ (W (zBst P W k).toInt.toNat).toInt < (W k).toInt)
    · rw [if_pos q, nI_toInt (by omega)]; omega
    · rw [if_neg q]; omega
theorem zBst_c {P Q : Nat → Bool} {W V : Nat → Int32} : ∀ n : Nat, n ≤ 8 → (∀ k, k < n → P k = Q k) → (∀ k, k < n → W k = V k) → zBst P W n = zBst Q V n
  | 0, _, _, _ => rfl
  | n + 1, hn, hP, hW => by
    have ih := zBst_c n (by omega) (fun k hk => hP k (by omega)) (fun k hk => hW k (by omega))
    have b := zBst_b Q V n (by omega)
    show (if P n = true ∧ ((zBst P W n).toInt = -1 ∨ (W (zBst P W n).toInt.toNat).toInt < (W n).toInt) then nI n else zBst P W n) = (if Q n = true ∧ ((zBst Q V n).toInt = -1 ∨ (V (zBst Q V n).toInt.toNat).toInt < (V n).toInt) then nI n else zBst Q V n)
    rw [ih, hP n (by omega), hW n (by omega)]
    by_cases m : (zBst Q V n).toInt = -1
    · by_cases q : Q n = true
      · rw [if_pos ⟨q, Or.inl m⟩, if_pos ⟨q, Or.inl m⟩]
      · rw [if_neg (fun w => q w.1), if_neg (fun w => q w.1)]
    · rw [hW _ (by omega)]
def zoTrust (x o : Int32) (s : zT9) : Int32 × Int32 := zk2 ((0 ≤ x.toInt ∧ x.toInt < s.1.toInt) ∧ (0 ≤ o.toInt ∧ o.toInt < s.1.toInt)) (¬ x.toInt = o.toInt) (s.2.2.2.2.2.2.2.2 5 (8 * x.toInt.toNat + o.toInt.toNat))
def zPrc9 (s : zT9) : Int32 := zPrice s.2.2.2.2.2.2.2.2 s.1.toInt.toNat
def zDbt9 (s : zT9) : Int32 := zDb s.2.2.2.2.2.2.2.2 s.1.toInt.toNat
def zRch9 (s : zT9) : Int32 := zBst (fun _ => true) (zWth s.2.2.2.2.2.2.2.2 s.1.toInt.toNat) s.1.toInt.toNat
def zFrm9 (s : zT9) : Int32 := zBst (fun x => decide ((s.2.2.2.2.2.2.2.2 3 x).toInt = -1)) (s.2.2.2.2.2.2.2.2 0) s.1.toInt.toNat
def zWk4 (f : zRw) (w : Nat) (k : Int) : Int32 := if k = 0 then f 6 w else if k = 1 then f 7 w else if k = 2 then f 8 w else f 9 w
def zoWork (w k : Int32) (s : zT9) : Int32 × Int32 := zk2 (0 ≤ w.toInt ∧ w.toInt < s.2.1.toInt) (0 ≤ k.toInt ∧ k.toInt ≤ 3) (zWk4 s.2.2.2.2.2.2.2.2 w.toInt.toNat k.toInt)
theorem zWk4_c {f g : zRw} {w : Nat} {k : Int} (h : zEq f g) (hw : w < 6) : zWk4 f w k = zWk4 g w k := by
  unfold zWk4
  rw [h.2.2 6 w (by decide) (by decide) hw, h.2.2 7 w (by decide) (by decide) hw, h.2.2 8 w (by decide) (by decide) hw, h.2.2 9 w (by decide) (by decide) hw]
theorem zoTrust_c {x o : Int32} {s t : zT9} (h : zR9 s t) (k : zOk s) : zoTrust x o s = zoTrust x o t := by
  have b := k.1
  unfold zoTrust
  rw [← h.1]
  exact zk2_c Iff.rfl (fun _ => Iff.rfl) (fun a c => h.2.2.2.2.2.2.2.2.2.1 _ _ (by omega) (by omega) (by omega))
theorem zoWork_c {w q : Int32} {s t : zT9} (h : zR9 s t) (k : zOk s) : zoWork w q s = zoWork w q t := by
  have b := k.2.1
  unfold zoWork
  rw [← h.2.1]
  exact zk2_c Iff.rfl (fun _ => Iff.rfl) (fun a c => zWk4_c h.2.2.2.2.2.2.2.2 (by omega))
theorem zPrc9_c {s t : zT9} (h : zR9 s t) (k : zOk s) : zPrc9 s = zPrc9 t := by
  have b := k.1
  unfold zPrc9
  rw [← h.1]; exact zPrice_c h.2.2.2.2.2.2.2.2 (by omega)
theorem zDbt9_c {s t : zT9} (h : zR9 s t) (k : zOk s) : zDbt9 s = zDbt9 t := by
  have b := k.1
  unfold zDbt9
  rw [← h.1]; exact zDb_c h.2.2.2.2.2.2.2.2 (by omega)
theorem zRch9_c {s t : zT9} (h : zR9 s t) (k : zOk s) : zRch9 s = zRch9 t := by
  have b := k.1
  unfold zRch9
  rw [← h.1]; exact zBst_c _ (by omega) (fun _ _ => rfl) (fun i hi => zWth_c h.2.2.2.2.2.2.2.2 (by omega) (by omega))
theorem zFrm9_c {s t : zT9} (h : zR9 s t) (k : zOk s) : zFrm9 s = zFrm9 t := by
  have b := k.1
  unfold zFrm9
  rw [← h.1]
  refine zBst_c _ (by omega) (fun i hi => ?_) (fun i hi => h.2.2.2.2.2.2.2.2.1 0 i (by decide) (by omega))
  show decide ((s.2.2.2.2.2.2.2.2 3 i).toInt = -1) = decide ((t.2.2.2.2.2.2.2.2 3 i).toInt = -1)
  rw [h.2.2.2.2.2.2.2.2.1 3 i (by decide) (by omega)]
section ZG
variable {x o w n pe wo tx ch jo tr dy sd : Int32} {f : zRw} {m : Nat → Int32}
theorem zoTrust_c1 (h : ¬ ((0 ≤ x.toInt ∧ x.toInt < pe.toInt) ∧ (0 ≤ o.toInt ∧ o.toInt < pe.toInt))) : (1, 0) = zoTrust x o (pe, wo, tx, ch, jo, tr, dy, sd, f) := zk2_1 h
theorem zoTrust_c2 (h : (0 ≤ x.toInt ∧ x.toInt < pe.toInt) ∧ (0 ≤ o.toInt ∧ o.toInt < pe.toInt)) (k : x.toInt = o.toInt) : (2, 0) = zoTrust x o (pe, wo, tx, ch, jo, tr, dy, sd, f) := zk2_2 h (fun q => q k)
theorem zoTrust_c0 (h : (0 ≤ x.toInt ∧ x.toInt < pe.toInt) ∧ (0 ≤ o.toInt ∧ o.toInt < pe.toInt)) (k : ¬ x.toInt = o.toInt) : (0, f 5 (8 * x.toInt.toNat + o.toInt.toNat)) = zoTrust x o (pe, wo, tx, ch, jo, tr, dy, sd, f) := zk2_0 h k rfl
theorem zoTrust_m1 (h : ¬ ((0 ≤ x.toInt ∧ x.toInt < (m 3).toInt) ∧ (0 ≤ o.toInt ∧ o.toInt < (m 3).toInt))) : (1, 0) = zoTrust x o (zM9 m) := zk2_1 h
theorem zoTrust_m2 (h : (0 ≤ x.toInt ∧ x.toInt < (m 3).toInt) ∧ (0 ≤ o.toInt ∧ o.toInt < (m 3).toInt)) (k : x.toInt = o.toInt) : (2, 0) = zoTrust x o (zM9 m) := zk2_2 h (fun q => q k)
theorem zoTrust_m0 (h : (0 ≤ x.toInt ∧ x.toInt < (m 3).toInt) ∧ (0 ≤ o.toInt ∧ o.toInt < (m 3).toInt)) (k : ¬ x.toInt = o.toInt) : (0, zV m 5 (8 * x.toInt.toNat + o.toInt.toNat)) = zoTrust x o (zM9 m) := zk2_0 h k rfl
theorem zoWork_c1 (h : ¬ (0 ≤ w.toInt ∧ w.toInt < wo.toInt)) : (1, 0) = zoWork w n (pe, wo, tx, ch, jo, tr, dy, sd, f) := zk2_1 h
theorem zoWork_c2 (h : 0 ≤ w.toInt ∧ w.toInt < wo.toInt) (k : ¬ (0 ≤ n.toInt ∧ n.toInt ≤ 3)) : (2, 0) = zoWork w n (pe, wo, tx, ch, jo, tr, dy, sd, f) := zk2_2 h k
theorem zoWork_c0 {r : Nat} (h : 0 ≤ w.toInt ∧ w.toInt < wo.toInt) (k : (n.toInt = 0 ∧ r = 6) ∨ (n.toInt = 1 ∧ r = 7) ∨ (n.toInt = 2 ∧ r = 8) ∨ (n.toInt = 3 ∧ r = 9)) : (0, f r w.toInt.toNat) = zoWork w n (pe, wo, tx, ch, jo, tr, dy, sd, f) := zk2_0 h (by omega) (by
  show f r w.toInt.toNat = zWk4 f w.toInt.toNat n.toInt
  unfold zWk4
  rcases k with ⟨a, b⟩ | ⟨a, b⟩ | ⟨a, b⟩ | ⟨a, b⟩ <;> rw [a, b] <;> rfl)
theorem zoWork_m1 (h : ¬ (0 ≤ w.toInt ∧ w.toInt < (m 4).toInt)) : (1, 0) = zoWork w n (zM9 m) := zk2_1 h
theorem zoWork_m2 (h : 0 ≤ w.toInt ∧ w.toInt < (m 4).toInt) (k : ¬ (0 ≤ n.toInt ∧ n.toInt ≤ 3)) : (2, 0) = zoWork w n (zM9 m) := zk2_2 h k
theorem zoWork_m0 (h : 0 ≤ w.toInt ∧ w.toInt < (m 4).toInt) (k : 0 ≤ n.toInt ∧ n.toInt ≤ 3) : (0, m (115 + 4 * w.toInt.toNat + n.toInt.toNat)) = zoWork w n (zM9 m) := zk2_0 h k (by
  show m (115 + 4 * w.toInt.toNat + n.toInt.toNat) = zWk4 (zV m) w.toInt.toNat n.toInt
  unfold zWk4
  rcases (show n.toInt = 0 ∨ n.toInt = 1 ∨ n.toInt = 2 ∨ n.toInt = 3 by omega) with a | a | a | a <;> rw [a]
  · rfl
  · exact congrArg m (by omega)
  · exact congrArg m (by omega)
  · exact congrArg m (by omega))
end ZG
set_option maxRecDepth 100000 in
set_option maxHeartbeats 4000000 in
theorem c_doubtersF (l : Launch) (g : zG) (o : Nat) (a : Nat → Nat) (pe : Int32) (wo : Int32) (tx : Int32) (ch : Int32) (jo : Int32) (tr : Int32) (dy : Int32) (sd : Int32) (f : Nat → Nat → Int32) (b_pe : 0 ≤ pe.toInt ∧ pe.toInt ≤ 8) (b_wo : 0 ≤ wo.toInt ∧ wo.toInt ≤ 6) (rf : zZ4 f) : zM' g l yX9_doubters (Cond.code yX9_doubters cX9_doubters 3 (some .int) :: zB) ({ frames := 1, cells := 0, slots := 0, locals := 21 } : Room) [.ref o] [bTown g o a pe wo tx ch jo tr dy sd f] (fun _ : Unit => some (.int (zDb f pe.toInt.toNat))) (fun _ : Unit => True) (fun _ : Unit => [bTown g o a pe wo tx ch jo tr dy sd f]) := by
  refine zM'.of (cc := cX9_doubters) (maxL := 3) (rt := (some .int)) (by decide) rfl (Nat.le_of_ble_eq_true rfl) ?_
  intro p e s m args below meth c A ls St hr hlocks hin hK hT hA hP hD hS hl
  obtain ⟨hx, hb, hml, hown, hts⟩ := id St
  have hl : lv_has ls 3 [(0, .ref o)] := hl
  refine lv_iconst (v := 0) hx hb dX9_doubters_0 (by decide) ?_
  refine lv_istore_n (lv' := [(1, .int 0), (0, .ref o)]) hx hb dX9_doubters_1 rfl hl (by decide) rfl (fun ls hl => ?_)
  refine lv_iconst (v := 0) hx hb dX9_doubters_2 (by decide) ?_
  refine lv_istore_n (lv' := [(2, .int 0), (1, .int 0), (0, .ref o)]) hx hb dX9_doubters_3 rfl hl (by decide) rfl (fun ls hl => ?_)
  have hl := lv_sub (l' := [(0, .ref o), (1, .int 0), (2, .int 0)]) hl [2, 1, 0] rfl
  have LP4_6 : ∀ (kf : Nat) (x_1 : Int32) (x_2 : Int32), (0 ≤ x_2.toInt ∧ x_2.toInt ≤ 8) → (x_1 = zOf (fun x => if (f 3 x).toInt = -1 ∧ (f 0 x).toInt < 33 then zBit x else 0) x_2.toInt.toNat) → (x_2.toInt ≤ pe.toInt) → ∀ (H : Heap) (locs : List Loc) (ls : Array Slot), ((9 - x_2.toInt).toNat) < kf → va_P g.1 vwCl (List.flatten [bTown g o a pe wo tx ch jo tr dy sd f]) H → va_D A (List.flatten [bTown g o a pe wo tx ch jo tr dy sd f]) → va_S A s.heap H locs → lv_has ls 3 [(0, .ref o), (1, .int x_1), (2, .int x_2)] → W p l e ({ frames := 1, cells := 0, slots := 0, locals := 21 } : Room) s m args below meth c H locs (0) (0) (zF g (fun _ : Unit => some (.int (zDb f pe.toInt.toNat))) (fun _ : Unit => True) (fun _ : Unit => [bTown g o a pe wo tx ch jo tr dy sd f]) ({ frames := 1, cells := 0, slots := 0, locals := 21 } : Room) below args s A) (F0 m 4 ls []) := by
    intro kf
    induction kf with
    | zero => intro x_1 x_2 i3 i4 i5 H locs ls hk; exact absurd hk (Nat.not_lt_zero _)
    | succ kf ih4_7 =>
      intro x_1 x_2 i3 i4 i5 H locs ls hk4_7 hP hD hS hl
      refine lv_iload_n hx hb dX9_doubters_4 rfl (lv_at hl 2 rfl) ?_
      refine lv_aload_n hx hb dX9_doubters_5 rfl (lv_at hl 0 rfl) ?_
      refine va_get (D := g.1) (ci := 7) (v := .int pe) (C := RX9) (T := TX9) (N := 19) hx hb hts izRX9 hown hK hP 0 rfl rfl 0 (by decide) (hts _ k31) (fun _ h9 => h9) rfl dX9_doubters_6 ?_
      refine lv_icmp_ge (tgt := 43) hx hb dX9_doubters_9 (by decide) (fun cb9 => ?_) (fun cb9 => ?_)
      · skip
        have c8 : pe.toInt ≤ x_2.toInt := zle cb9 rfl rfl
        refine lv_iload_n hx hb dX9_doubters_43 rfl (lv_at hl 1 rfl) ?_
        refine ztop (r := (zDb f pe.toInt.toNat)) (zFo_x i4 (by omega)) ?_
        have hP : va_P g.1 vwCl (List.flatten [bTown g o a pe wo tx ch jo tr dy sd f]) H := hP
        have hD : va_D A (List.flatten [bTown g o a pe wo tx ch jo tr dy sd f]) := hD
        exact mret_i hx hb hr hlocks hS (Nat.le_of_ble_eq_true rfl) (Nat.le_of_ble_eq_true rfl) dX9_doubters_44 () rfl trivial hP hD
      · skip
        have c9 : x_2.toInt < pe.toInt := zlti (Int32.not_le.mp cb9) rfl rfl
        have n10 : x_2.toInt ≤ 7 := zL1 (b := 8) c9 b_pe.2 (by decide)
        have n11 : 1 ≤ pe.toInt := zL2 (a := 0) c9 i3.1 (by decide)
        refine lv_aload_n hx hb dX9_doubters_12 rfl (lv_at hl 0 rfl) ?_
        refine lv_iload_n hx hb dX9_doubters_13 rfl (lv_at hl 2 rfl) ?_
        refine mcallV' (g := g) (q0 := 0) (ci := 7) (As := [.int x_2]) (rest := []) St hK hT hA hP hD hS hl.1 [0] [] rfl rfl rfl (c_isHereF l g o a pe wo tx ch jo tr dy sd f x_2 (⟨i3.1, n10⟩)) (cwV 1 hts (zgL (zl4 k53 k54 k55 k24) k51) rfl rfl rfl (by decide +kernel) ⟨Nat.le_of_ble_eq_true rfl, Nat.le_of_ble_eq_true rfl⟩) rfl rfl rfl rfl (Nat.le_of_ble_eq_true rfl) dX9_doubters_14 ⟨(Nat.le_of_ble_eq_true rfl), (Nat.le_of_ble_eq_true rfl)⟩ (fun q_12 H locs hq13 hP hD hS => ?_)
        replace hq13 : (q_12 = 1 ∧ (f 3 x_2.toInt.toNat).toInt = -1 ∨ q_12 = 0 ∧ ¬ (f 3 x_2.toInt.toNat).toInt = -1) := hq13
        have hP : va_P g.1 vwCl (List.flatten [bTown g o a pe wo tx ch jo tr dy sd f]) H := hP
        have hD : va_D A (List.flatten [bTown g o a pe wo tx ch jo tr dy sd f]) := hD
        refine W.widen (k := 0) (n := 0) (Nat.le_of_ble_eq_true rfl) (Nat.le_of_ble_eq_true rfl) ?_
        refine W.eq (g2 := F0 m 17 ls [.int q_12]) rfl ?_
        rcases hq13 with ⟨rfl, hq13_k⟩ | ⟨rfl, hq13_k⟩
        · skip
          refine lv_if_eq (tgt := 37) hx hb dX9_doubters_17 (by decide) (fun c14 => absurd c14 (by decide)) (fun _ => ?_)
          refine lv_aload_n hx hb dX9_doubters_20 rfl (lv_at hl 0 rfl) ?_
          refine va_get (D := g.1) (ci := 7) (v := .ref (a 0)) (C := RX9) (T := TX9) (N := 19) hx hb hts izRX9 hown hK hP 0 rfl rfl 8 (by decide) (hts _ k9) (fun _ h9 => h9) rfl dX9_doubters_21 ?_
          refine lv_iload_n hx hb dX9_doubters_24 rfl (lv_at hl 2 rfl) ?_
          refine va_iald hx hb hK hP 1 0 rfl rfl (zinK (a := 0) (b := 7) i3.1 n10 (by decide)) dX9_doubters_25 ?_
          refine ztop (r := (f 0 x_2.toInt.toNat)) rfl ?_
          refine lv_bipush (v := 33) hx hb dX9_doubters_26 (by decide) ?_
          refine lv_icmp_ge (tgt := 37) hx hb dX9_doubters_28 (by decide) (fun cb9 => ?_) (fun cb9 => ?_)
          · skip
            have c15 : 33 ≤ (f 0 x_2.toInt.toNat).toInt := zle cb9 (by decide) rfl
            have n16 : 33 ≤ (f 0 x_2.toInt.toNat).toInt := Int.le_trans (Int.le_refl _) c15
            refine ziinc3 (n' := 1) (a' := 1) (b' := 8) (lv' := fun v9 => [(2, .int v9), (0, .ref o), (1, .int x_1)]) hx hb dX9_doubters_37 hl (k := 2) rfl (by decide) (fun _ => rfl) (zaddK (i := x_2.toInt) (j := 1) rfl (by decide) i3.1 n10 (Int.le_refl _) (Int.le_refl _) (by decide)) (fun x_17 ls hx_17 hl => ?_)
            refine lv_goto (tgt := 4) hx hb dX9_doubters_40 (by decide) ?_
            have hl := lv_sub (l' := [(0, .ref o), (1, .int x_1), (2, .int x_17)]) hl [1, 2, 0] rfl
            have hP : va_P g.1 vwCl (List.flatten [bTown g o a pe wo tx ch jo tr dy sd f]) H := hP
            have hD : va_D A (List.flatten [bTown g o a pe wo tx ch jo tr dy sd f]) := hD
            exact ih4_7 x_1 x_17 ⟨(Int.le_trans (by decide) hx_17.2.1), hx_17.2.2⟩ (zFo_s i4 hx_17.1 (by omega) (by (try dsimp only); (repeat' split) <;> first | rfl | exact (Int32.add_zero _).symm | exact Int32.or_zero.symm | (exfalso; omega))) (by first | omega | assumption | decide) H _ ls (zmK hx_17.1 (by decide) n10 (by decide) hk4_7)  hP hD hS (lv_sub hl [0, 1, 2] rfl)
          · skip
            have c18 : (f 0 x_2.toInt.toNat).toInt < 33 := zlti (Int32.not_le.mp cb9) rfl (by decide)
            have n19 : (f 0 x_2.toInt.toNat).toInt ≤ 32 := zL1 (b := 33) c18 (Int.le_refl _) (by decide)
            refine lv_iload_n hx hb dX9_doubters_31 rfl (lv_at hl 1 rfl) ?_
            refine lv_iconst (v := 1) hx hb dX9_doubters_32 (by decide) ?_
            refine lv_iload_n hx hb dX9_doubters_33 rfl (lv_at hl 2 rfl) ?_
            refine lv_ishl hx hb dX9_doubters_34 ?_
            refine ztop (r := (zBit x_2.toInt.toNat)) (zBit_k i3.1) ?_
            refine lv_ior hx hb dX9_doubters_35 ?_
            refine lv_istore_n (lv' := [(1, .int (x_1 ||| (zBit x_2.toInt.toNat))), (0, .ref o), (2, .int x_2)]) hx hb dX9_doubters_36 rfl hl (by decide) rfl (fun ls hl => ?_)
            refine ziinc3 (n' := 1) (a' := 1) (b' := 8) (lv' := fun v9 => [(2, .int v9), (1, .int (x_1 ||| (zBit x_2.toInt.toNat))), (0, .ref o)]) hx hb dX9_doubters_37 hl (k := 2) rfl (by decide) (fun _ => rfl) (zaddK (i := x_2.toInt) (j := 1) rfl (by decide) i3.1 n10 (Int.le_refl _) (Int.le_refl _) (by decide)) (fun x_20 ls hx_20 hl => ?_)
            refine lv_goto (tgt := 4) hx hb dX9_doubters_40 (by decide) ?_
            have hl := lv_sub (l' := [(0, .ref o), (1, .int (x_1 ||| (zBit x_2.toInt.toNat))), (2, .int x_20)]) hl [2, 1, 0] rfl
            have hP : va_P g.1 vwCl (List.flatten [bTown g o a pe wo tx ch jo tr dy sd f]) H := hP
            have hD : va_D A (List.flatten [bTown g o a pe wo tx ch jo tr dy sd f]) := hD
            exact ih4_7 (x_1 ||| (zBit x_2.toInt.toNat)) x_20 ⟨(Int.le_trans (by decide) hx_20.2.1), hx_20.2.2⟩ (zFo_s i4 hx_20.1 (by omega) (by (try dsimp only); (repeat' split) <;> first | rfl | exact (Int32.add_zero _).symm | exact Int32.or_zero.symm | (exfalso; omega))) (by first | omega | assumption | decide) H _ ls (zmK hx_20.1 (by decide) n10 (by decide) hk4_7)  hP hD hS (lv_sub hl [0, 1, 2] rfl)
        · skip
          refine lv_if_eq (tgt := 37) hx hb dX9_doubters_17 (by decide) (fun _ => ?_) (fun c21 => absurd (by decide) c21)
          refine ziinc3 (n' := 1) (a' := 1) (b' := 8) (lv' := fun v9 => [(2, .int v9), (0, .ref o), (1, .int x_1)]) hx hb dX9_doubters_37 hl (k := 2) rfl (by decide) (fun _ => rfl) (zaddK (i := x_2.toInt) (j := 1) rfl (by decide) i3.1 n10 (Int.le_refl _) (Int.le_refl _) (by decide)) (fun x_22 ls hx_22 hl => ?_)
          refine lv_goto (tgt := 4) hx hb dX9_doubters_40 (by decide) ?_
          have hl := lv_sub (l' := [(0, .ref o), (1, .int x_1), (2, .int x_22)]) hl [1, 2, 0] rfl
          have hP : va_P g.1 vwCl (List.flatten [bTown g o a pe wo tx ch jo tr dy sd f]) H := hP
          have hD : va_D A (List.flatten [bTown g o a pe wo tx ch jo tr dy sd f]) := hD
          exact ih4_7 x_1 x_22 ⟨(Int.le_trans (by decide) hx_22.2.1), hx_22.2.2⟩ (zFo_s i4 hx_22.1 (by omega) (by (try dsimp only); (repeat' split) <;> first | rfl | exact (Int32.add_zero _).symm | exact Int32.or_zero.symm | (exfalso; omega))) (by first | omega | assumption | decide) H _ ls (zmK hx_22.1 (by decide) n10 (by decide) hk4_7)  hP hD hS (lv_sub hl [0, 1, 2] rfl)
  have hL0 : (0 : Int32).toInt = 0 := by decide
  have hP : va_P g.1 vwCl (List.flatten [bTown g o a pe wo tx ch jo tr dy sd f]) s.heap := hP
  have hD : va_D A (List.flatten [bTown g o a pe wo tx ch jo tr dy sd f]) := hD
  exact LP4_6 _ 0 0 (by decide) (zFo_0 (by decide) (by decide)) (by first | omega | assumption | decide) s.heap _ ls (Nat.lt_succ_self _)  hP hD hS (lv_sub hl [0, 1, 2] rfl)
set_option maxRecDepth 100000 in
set_option maxHeartbeats 4000000 in
theorem c_x_doubtsC (l : Launch) (g : zG) (x : Nat) (ta : Nat) (o : Nat) (lo : Nat) (go : Nat) (tt : Nat) (lt : Nat) (mo : Nat) (fo : Nat) (ro : Nat) (fl9 : Int32) (a : Nat → Nat) (pe : Int32) (wo : Int32) (tx : Int32) (ch : Int32) (jo : Int32) (tr : Int32) (dy : Int32) (sd : Int32) (f : Nat → Nat → Int32) (b_pe : 0 ≤ pe.toInt ∧ pe.toInt ≤ 8) (b_wo : 0 ≤ wo.toInt ∧ wo.toInt ≤ 6) (rf : zZ4 f) : zM' g l yX11_doubts (Cond.code yX11_doubts cX11_doubts 1 (some .int) :: zB) ({ frames := 2, cells := 0, slots := 0, locals := 43 } : Room) [.ref x] [bDR g x ta o lo go tt lt mo fo ro fl9, bTown g o a pe wo tx ch jo tr dy sd f] (fun (q : Int32) => some (.int q)) (fun (q : Int32) => (q = zDbt9 (pe, wo, tx, ch, jo, tr, dy, sd, f))) (fun (q : Int32) => [bDR g x ta o lo go tt lt mo fo ro fl9, bTown g o a pe wo tx ch jo tr dy sd f]) := by
  refine zM'.of (cc := cX11_doubts) (maxL := 1) (rt := (some .int)) (by decide) rfl (Nat.le_of_ble_eq_true rfl) ?_
  intro p e s m args below meth c A ls St hr hlocks hin hK hT hA hP hD hS hl
  obtain ⟨hx, hb, hml, hown, hts⟩ := id St
  have hl : lv_has ls 1 [(0, .ref x)] := hl
  refine lv_aload_n hx hb dX11_doubts_0 rfl (lv_at hl 0 rfl) ?_
  refine va_get (D := g.1) (ci := 9) (v := .ref o) (C := RX11) (T := TX11) (N := 10) hx hb hts izRX11 hown hK hP 0 rfl rfl 1 (by decide) (hts _ k538) (fun _ h9 => h9) rfl dX11_doubts_1 ?_
  refine mcallV' (g := g) (q0 := 0) (ci := 7) (As := []) (rest := []) St hK hT hA hP hD hS hl.1 [1] [0] rfl rfl rfl (c_doubtersF l g o a pe wo tx ch jo tr dy sd f b_pe b_wo rf) (cwV 0 hts (zgL (zl4 k702 k178 k179 k24) k175) rfl rfl rfl (by decide +kernel) ⟨Nat.le_of_ble_eq_true rfl, Nat.le_of_ble_eq_true rfl⟩) rfl rfl rfl rfl (Nat.le_of_ble_eq_true rfl) dX11_doubts_4 ⟨(Nat.le_of_ble_eq_true rfl), (Nat.le_of_ble_eq_true rfl)⟩ (fun _u H locs hq1 hP hD hS => ?_)
  have hP : va_P g.1 vwCl (List.flatten [bDR g x ta o lo go tt lt mo fo ro fl9, bTown g o a pe wo tx ch jo tr dy sd f]) H := hP
  have hD : va_D A (List.flatten [bDR g x ta o lo go tt lt mo fo ro fl9, bTown g o a pe wo tx ch jo tr dy sd f]) := hD
  refine W.widen (k := 0) (n := 0) (Nat.le_of_ble_eq_true rfl) (Nat.le_of_ble_eq_true rfl) ?_
  refine W.eq (g2 := F0 m 7 ls [.int (zDb f pe.toInt.toNat)]) rfl ?_
  have hP : va_P g.1 vwCl (List.flatten [bDR g x ta o lo go tt lt mo fo ro fl9, bTown g o a pe wo tx ch jo tr dy sd f]) H := hP
  have hD : va_D A (List.flatten [bDR g x ta o lo go tt lt mo fo ro fl9, bTown g o a pe wo tx ch jo tr dy sd f]) := hD
  exact mret_i hx hb hr hlocks hS (Nat.le_of_ble_eq_true rfl) (Nat.le_of_ble_eq_true rfl) dX11_doubts_7 (zDb f pe.toInt.toNat) rfl (show ((zDb f pe.toInt.toNat) = zDbt9 (pe, wo, tx, ch, jo, tr, dy, sd, f)) from rfl) hP hD
set_option maxRecDepth 100000 in
set_option maxHeartbeats 4000000 in
theorem m_doubtsNowG (l : Launch) (g : zG) (o : Nat) (a : Nat → Nat) (th : Int32) (hi : Int32) (ac : Int32) (tp : Int32) (ba : Int32) (en : Int32) (tA : Int32) (fl : Int32) (de : Int32) (iD : Int32) (iO : Int32) (tU : Int32) (fm : Nat → Int32) (fk : Nat → Int32) (fa : Nat → Int32) (fc : Nat → Int32) (ft : Nat → Int32) (ff : Nat → Int32) (fb : Nat → Int32) (fi : Nat → Int32) (rfm : rM fm) : zM' g l yX12_doubtsNow (Cond.code yX12_doubtsNow cX12_doubtsNow 3 (some .int) :: zB) ({ frames := 2, cells := 0, slots := 0, locals := 43 } : Room) [.ref o] [bMo g o a th hi ac tp ba en tA fl de iD iO tU fm fk fa fc ft ff fb fi] (fun _ : Unit => some (.int (zDb (zV fm) (fm 3).toInt.toNat))) (fun _ : Unit => True) (fun _ : Unit => [bMo g o a th hi ac tp ba en tA fl de iD iO tU fm fk fa fc ft ff fb fi]) := by
  refine zM'.of (cc := cX12_doubtsNow) (maxL := 3) (rt := (some .int)) (by decide) rfl (Nat.le_of_ble_eq_true rfl) ?_
  intro p e s m args below meth c A ls St hr hlocks hin hK hT hA hP hD hS hl
  obtain ⟨hx, hb, hml, hown, hts⟩ := id St
  have hl : lv_has ls 3 [(0, .ref o)] := hl
  have hrm3 := rM3 rfm
  have hrm4 := rM4 rfm
  refine lv_iconst (v := 0) hx hb dX12_doubtsNow_0 (by decide) ?_
  refine lv_istore_n (lv' := [(1, .int 0), (0, .ref o)]) hx hb dX12_doubtsNow_1 rfl hl (by decide) rfl (fun ls hl => ?_)
  refine lv_iconst (v := 0) hx hb dX12_doubtsNow_2 (by decide) ?_
  refine lv_istore_n (lv' := [(2, .int 0), (1, .int 0), (0, .ref o)]) hx hb dX12_doubtsNow_3 rfl hl (by decide) rfl (fun ls hl => ?_)
  have hl := lv_sub (l' := [(0, .ref o), (1, .int 0), (2, .int 0)]) hl [2, 1, 0] rfl
  have LP4_6 : ∀ (kf : Nat) (x_1 : Int32) (x_2 : Int32), (0 ≤ x_2.toInt ∧ x_2.toInt ≤ 8) → (x_1 = zOf (fun x => if ((zV fm) 3 x).toInt = -1 ∧ ((zV fm) 0 x).toInt < 33 then zBit x else 0) x_2.toInt.toNat) → (x_2.toInt ≤ (fm 3).toInt) → ∀ (H : Heap) (locs : List Loc) (ls : Array Slot), ((9 - x_2.toInt).toNat) < kf → va_P g.1 vwCl (List.flatten [bMo g o a th hi ac tp ba en tA fl de iD iO tU fm fk fa fc ft ff fb fi]) H → va_D A (List.flatten [bMo g o a th hi ac tp ba en tA fl de iD iO tU fm fk fa fc ft ff fb fi]) → va_S A s.heap H locs → lv_has ls 3 [(0, .ref o), (1, .int x_1), (2, .int x_2)] → W p l e ({ frames := 2, cells := 0, slots := 0, locals := 43 } : Room) s m args below meth c H locs (0) (0) (zF g (fun _ : Unit => some (.int (zDb (zV fm) (fm 3).toInt.toNat))) (fun _ : Unit => True) (fun _ : Unit => [bMo g o a th hi ac tp ba en tA fl de iD iO tU fm fk fa fc ft ff fb fi]) ({ frames := 2, cells := 0, slots := 0, locals := 43 } : Room) below args s A) (F0 m 4 ls []) := by
    intro kf
    induction kf with
    | zero => intro x_1 x_2 i3 i4 i5 H locs ls hk; exact absurd hk (Nat.not_lt_zero _)
    | succ kf ih4_7 =>
      intro x_1 x_2 i3 i4 i5 H locs ls hk4_7 hP hD hS hl
      refine lv_iload_n hx hb dX12_doubtsNow_4 rfl (lv_at hl 2 rfl) ?_
      refine lv_aload_n hx hb dX12_doubtsNow_5 rfl (lv_at hl 0 rfl) ?_
      refine va_get (D := g.1) (ci := 10) (v := .ref (a 0)) (C := RX12) (T := TX12) (N := 20) hx hb hts izRX12 hown hK hP 0 rfl rfl 1 (by decide) (hts _ k815) (fun _ h9 => h9) rfl dX12_doubtsNow_6 ?_
      refine lv_iconst (v := 3) hx hb dX12_doubtsNow_9 (by decide) ?_
      refine va_iald hx hb hK hP 1 0 rfl rfl (zin rfl) dX12_doubtsNow_10 ?_
      refine ztop (r := (fm 3)) rfl ?_
      refine lv_icmp_ge (tgt := 49) hx hb dX12_doubtsNow_11 (by decide) (fun cb9 => ?_) (fun cb9 => ?_)
      · skip
        have c8 : (fm 3).toInt ≤ x_2.toInt := zle cb9 rfl rfl
        refine lv_iload_n hx hb dX12_doubtsNow_49 rfl (lv_at hl 1 rfl) ?_
        refine ztop (r := (zDb (zV fm) (fm 3).toInt.toNat)) (zFo_x i4 (by omega)) ?_
        have hP : va_P g.1 vwCl (List.flatten [bMo g o a th hi ac tp ba en tA fl de iD iO tU fm fk fa fc ft ff fb fi]) H := hP
        have hD : va_D A (List.flatten [bMo g o a th hi ac tp ba en tA fl de iD iO tU fm fk fa fc ft ff fb fi]) := hD
        exact mret_i hx hb hr hlocks hS (Nat.le_of_ble_eq_true rfl) (Nat.le_of_ble_eq_true rfl) dX12_doubtsNow_50 () rfl trivial hP hD
      · skip
        have c9 : x_2.toInt < (fm 3).toInt := zlti (Int32.not_le.mp cb9) rfl rfl
        have n10 : x_2.toInt ≤ 7 := zL1 (b := 8) c9 (rM3 rfm).2 (by decide)
        have n11 : 1 ≤ (fm 3).toInt := zL2 (a := 0) c9 i3.1 (by decide)
        refine lv_iload_n hx hb dX12_doubtsNow_14 rfl (lv_at hl 1 rfl) ?_
        refine lv_aload_n hx hb dX12_doubtsNow_15 rfl (lv_at hl 0 rfl) ?_
        refine lv_iload_n hx hb dX12_doubtsNow_16 rfl (lv_at hl 2 rfl) ?_
        refine mcallV' (g := g) (q0 := 0) (ci := 10) (As := [.int x_2]) (rest := [.int x_1]) St hK hT hA hP hD hS hl.1 [0] [] rfl rfl rfl (m_isHereG l g o a th hi ac tp ba en tA fl de iD iO tU fm fk fa fc ft ff fb fi x_2 (⟨i3.1, n10⟩)) (cwV 1 hts (zgL (zl4 k844 k845 k846 k837) k839) rfl rfl rfl (by decide +kernel) ⟨Nat.le_of_ble_eq_true rfl, Nat.le_of_ble_eq_true rfl⟩) rfl rfl rfl rfl (Nat.le_of_ble_eq_true rfl) dX12_doubtsNow_17 ⟨(Nat.le_of_ble_eq_true rfl), (Nat.le_of_ble_eq_true rfl)⟩ (fun q_12 H locs hq13 hP hD hS => ?_)
        replace hq13 : (q_12 = 1 ∧ (zV fm 3 x_2.toInt.toNat).toInt = -1 ∨ q_12 = 0 ∧ ¬ (zV fm 3 x_2.toInt.toNat).toInt = -1) := hq13
        have hP : va_P g.1 vwCl (List.flatten [bMo g o a th hi ac tp ba en tA fl de iD iO tU fm fk fa fc ft ff fb fi]) H := hP
        have hD : va_D A (List.flatten [bMo g o a th hi ac tp ba en tA fl de iD iO tU fm fk fa fc ft ff fb fi]) := hD
        refine W.widen (k := 0) (n := 0) (Nat.le_of_ble_eq_true rfl) (Nat.le_of_ble_eq_true rfl) ?_
        refine W.eq (g2 := F0 m 20 ls [.int q_12, .int x_1]) rfl ?_
        rcases hq13 with ⟨rfl, hq13_k⟩ | ⟨rfl, hq13_k⟩
        · skip
          refine lv_if_eq (tgt := 40) hx hb dX12_doubtsNow_20 (by decide) (fun c14 => absurd c14 (by decide)) (fun _ => ?_)
          refine lv_aload_n hx hb dX12_doubtsNow_23 rfl (lv_at hl 0 rfl) ?_
          refine lv_iload_n hx hb dX12_doubtsNow_24 rfl (lv_at hl 2 rfl) ?_
          refine lv_iconst (v := 0) hx hb dX12_doubtsNow_25 (by decide) ?_
          refine mcallV' (g := g) (q0 := 0) (ci := 10) (As := [.int x_2, .int 0]) (rest := [.int x_1]) St hK hT hA hP hD hS hl.1 [0] [] rfl rfl rfl (m_of0F l g o a th hi ac tp ba en tA fl de iD iO tU fm fk fa fc ft ff fb fi x_2 (⟨i3.1, n10⟩)) (cwV 2 hts (zgL (zl4 k840 k841 k842 k837) k829) rfl rfl rfl (by decide +kernel) ⟨Nat.le_of_ble_eq_true rfl, Nat.le_of_ble_eq_true rfl⟩) rfl rfl rfl rfl (Nat.le_of_ble_eq_true rfl) dX12_doubtsNow_26 ⟨(Nat.le_of_ble_eq_true rfl), (Nat.le_of_ble_eq_true rfl)⟩ (fun _u H locs hq15 hP hD hS => ?_)
          have hP : va_P g.1 vwCl (List.flatten [bMo g o a th hi ac tp ba en tA fl de iD iO tU fm fk fa fc ft ff fb fi]) H := hP
          have hD : va_D A (List.flatten [bMo g o a th hi ac tp ba en tA fl de iD iO tU fm fk fa fc ft ff fb fi]) := hD
          refine W.widen (k := 0) (n := 0) (Nat.le_of_ble_eq_true rfl) (Nat.le_of_ble_eq_true rfl) ?_
          refine W.eq (g2 := F0 m 29 ls [.int (zV fm 0 x_2.toInt.toNat), .int x_1]) rfl ?_
          refine lv_bipush (v := 33) hx hb dX12_doubtsNow_29 (by decide) ?_
          refine lv_icmp_ge (tgt := 40) hx hb dX12_doubtsNow_31 (by decide) (fun cb9 => ?_) (fun cb9 => ?_)
          · skip
            have c16 : 33 ≤ (zV fm 0 x_2.toInt.toNat).toInt := zle cb9 (by decide) rfl
            have n17 : 33 ≤ (zV fm 0 x_2.toInt.toNat).toInt := Int.le_trans (Int.le_refl _) c16
            refine lv_iconst (v := 0) hx hb dX12_doubtsNow_40 (by decide) ?_
            refine lv_ior hx hb dX12_doubtsNow_41 ?_
            refine lv_istore_n (lv' := [(1, .int (x_1 ||| 0)), (0, .ref o), (2, .int x_2)]) hx hb dX12_doubtsNow_42 rfl hl (by decide) rfl (fun ls hl => ?_)
            refine ziinc3 (n' := 1) (a' := 1) (b' := 8) (lv' := fun v9 => [(2, .int v9), (1, .int (x_1 ||| 0)), (0, .ref o)]) hx hb dX12_doubtsNow_43 hl (k := 2) rfl (by decide) (fun _ => rfl) (zaddK (i := x_2.toInt) (j := 1) rfl (by decide) i3.1 n10 (Int.le_refl _) (Int.le_refl _) (by decide)) (fun x_18 ls hx_18 hl => ?_)
            refine lv_goto (tgt := 4) hx hb dX12_doubtsNow_46 (by decide) ?_
            have hl := lv_sub (l' := [(0, .ref o), (1, .int (x_1 ||| 0)), (2, .int x_18)]) hl [2, 1, 0] rfl
            have hP : va_P g.1 vwCl (List.flatten [bMo g o a th hi ac tp ba en tA fl de iD iO tU fm fk fa fc ft ff fb fi]) H := hP
            have hD : va_D A (List.flatten [bMo g o a th hi ac tp ba en tA fl de iD iO tU fm fk fa fc ft ff fb fi]) := hD
            exact ih4_7 (x_1 ||| 0) x_18 ⟨(Int.le_trans (by decide) hx_18.2.1), hx_18.2.2⟩ (zFo_s i4 hx_18.1 (by omega) (by (try dsimp only); (repeat' split) <;> first | rfl | exact (Int32.add_zero _).symm | exact Int32.or_zero.symm | (exfalso; omega))) (by first | omega | assumption | decide) H _ ls (zmK hx_18.1 (by decide) n10 (by decide) hk4_7)  hP hD hS (lv_sub hl [0, 1, 2] rfl)
          · skip
            have c19 : (zV fm 0 x_2.toInt.toNat).toInt < 33 := zlti (Int32.not_le.mp cb9) rfl (by decide)
            have n20 : (zV fm 0 x_2.toInt.toNat).toInt ≤ 32 := zL1 (b := 33) c19 (Int.le_refl _) (by decide)
            refine lv_iconst (v := 1) hx hb dX12_doubtsNow_34 (by decide) ?_
            refine lv_iload_n hx hb dX12_doubtsNow_35 rfl (lv_at hl 2 rfl) ?_
            refine lv_ishl hx hb dX12_doubtsNow_36 ?_
            refine ztop (r := (zBit x_2.toInt.toNat)) (zBit_k i3.1) ?_
            refine lv_goto (tgt := 41) hx hb dX12_doubtsNow_37 (by decide) ?_
            refine lv_ior hx hb dX12_doubtsNow_41 ?_
            refine lv_istore_n (lv' := [(1, .int (x_1 ||| (zBit x_2.toInt.toNat))), (0, .ref o), (2, .int x_2)]) hx hb dX12_doubtsNow_42 rfl hl (by decide) rfl (fun ls hl => ?_)
            refine ziinc3 (n' := 1) (a' := 1) (b' := 8) (lv' := fun v9 => [(2, .int v9), (1, .int (x_1 ||| (zBit x_2.toInt.toNat))), (0, .ref o)]) hx hb dX12_doubtsNow_43 hl (k := 2) rfl (by decide) (fun _ => rfl) (zaddK (i := x_2.toInt) (j := 1) rfl (by decide) i3.1 n10 (Int.le_refl _) (Int.le_refl _) (by decide)) (fun x_21 ls hx_21 hl => ?_)
            refine lv_goto (tgt := 4) hx hb dX12_doubtsNow_46 (by decide) ?_
            have hl := lv_sub (l' := [(0, .ref o), (1, .int (x_1 ||| (zBit x_2.toInt.toNat))), (2, .int x_21)]) hl [2, 1, 0] rfl
            have hP : va_P g.1 vwCl (List.flatten [bMo g o a th hi ac tp ba en tA fl de iD iO tU fm fk fa fc ft ff fb fi]) H := hP
            have hD : va_D A (List.flatten [bMo g o a th hi ac tp ba en tA fl de iD iO tU fm fk fa fc ft ff fb fi]) := hD
            exact ih4_7 (x_1 ||| (zBit x_2.toInt.toNat)) x_21 ⟨(Int.le_trans (by decide) hx_21.2.1), hx_21.2.2⟩ (zFo_s i4 hx_21.1 (by omega) (by (try dsimp only); (repeat' split) <;> first | rfl | exact (Int32.add_zero _).symm | exact Int32.or_zero.symm | (exfalso; omega))) (by first | omega | assumption | decide) H _ ls (zmK hx_21.1 (by decide) n10 (by decide) hk4_7)  hP hD hS (lv_sub hl [0, 1, 2] rfl)
        · skip
          refine lv_if_eq (tgt := 40) hx hb dX12_doubtsNow_20 (by decide) (fun _ => ?_) (fun c22 => absurd (by decide) c22)
          refine lv_iconst (v := 0) hx hb dX12_doubtsNow_40 (by decide) ?_
          refine lv_ior hx hb dX12_doubtsNow_41 ?_
          refine lv_istore_n (lv' := [(1, .int (x_1 ||| 0)), (0, .ref o), (2, .int x_2)]) hx hb dX12_doubtsNow_42 rfl hl (by decide) rfl (fun ls hl => ?_)
          refine ziinc3 (n' := 1) (a' := 1) (b' := 8) (lv' := fun v9 => [(2, .int v9), (1, .int (x_1 ||| 0)), (0, .ref o)]) hx hb dX12_doubtsNow_43 hl (k := 2) rfl (by decide) (fun _ => rfl) (zaddK (i := x_2.toInt) (j := 1) rfl (by decide) i3.1 n10 (Int.le_refl _) (Int.le_refl _) (by decide)) (fun x_23 ls hx_23 hl => ?_)
          refine lv_goto (tgt := 4) hx hb dX12_doubtsNow_46 (by decide) ?_
          have hl := lv_sub (l' := [(0, .ref o), (1, .int (x_1 ||| 0)), (2, .int x_23)]) hl [2, 1, 0] rfl
          have hP : va_P g.1 vwCl (List.flatten [bMo g o a th hi ac tp ba en tA fl de iD iO tU fm fk fa fc ft ff fb fi]) H := hP
          have hD : va_D A (List.flatten [bMo g o a th hi ac tp ba en tA fl de iD iO tU fm fk fa fc ft ff fb fi]) := hD
          exact ih4_7 (x_1 ||| 0) x_23 ⟨(Int.le_trans (by decide) hx_23.2.1), hx_23.2.2⟩ (zFo_s i4 hx_23.1 (by omega) (by (try dsimp only); (repeat' split) <;> first | rfl | exact (Int32.add_zero _).symm | exact Int32.or_zero.symm | (exfalso; omega))) (by first | omega | assumption | decide) H _ ls (zmK hx_23.1 (by decide) n10 (by decide) hk4_7)  hP hD hS (lv_sub hl [0, 1, 2] rfl)
  have hL0 : (0 : Int32).toInt = 0 := by decide
  have hP : va_P g.1 vwCl (List.flatten [bMo g o a th hi ac tp ba en tA fl de iD iO tU fm fk fa fc ft ff fb fi]) s.heap := hP
  have hD : va_D A (List.flatten [bMo g o a th hi ac tp ba en tA fl de iD iO tU fm fk fa fc ft ff fb fi]) := hD
  exact LP4_6 _ 0 0 (by decide) (zFo_0 (by decide) (by decide)) (by first | omega | assumption | decide) s.heap _ ls (Nat.lt_succ_self _)  hP hD hS (lv_sub hl [0, 1, 2] rfl)
set_option maxRecDepth 100000 in
set_option maxHeartbeats 4000000 in
theorem m_doubtsC (l : Launch) (g : zG) (o : Nat) (a : Nat → Nat) (th : Int32) (hi : Int32) (ac : Int32) (tp : Int32) (ba : Int32) (en : Int32) (tA : Int32) (fl : Int32) (de : Int32) (iD : Int32) (iO : Int32) (tU : Int32) (fm : Nat → Int32) (fk : Nat → Int32) (fa : Nat → Int32) (fc : Nat → Int32) (ft : Nat → Int32) (ff : Nat → Int32) (fb : Nat → Int32) (fi : Nat → Int32) (rfm : rM fm) : zM' g l yX12_doubts (Cond.code yX12_doubts cX12_doubts 1 (some .int) :: zB) ({ frames := 3, cells := 0, slots := 0, locals := 65 } : Room) [.ref o] [bMo g o a th hi ac tp ba en tA fl de iD iO tU fm fk fa fc ft ff fb fi] (fun (q : Int32) => some (.int q)) (fun (q : Int32) => (q = zDbt9 (zM9 fm))) (fun (q : Int32) => [bMo g o a 0 hi ac tp ba en tA fl de iD iO tU fm fk fa fc ft ff fb fi]) := by
  refine zM'.of (cc := cX12_doubts) (maxL := 1) (rt := (some .int)) (by decide) rfl (Nat.le_of_ble_eq_true rfl) ?_
  intro p e s m args below meth c A ls St hr hlocks hin hK hT hA hP hD hS hl
  obtain ⟨hx, hb, hml, hown, hts⟩ := id St
  have hl : lv_has ls 1 [(0, .ref o)] := hl
  have hrm3 := rM3 rfm
  have hrm4 := rM4 rfm
  refine lv_aload_n hx hb dX12_doubts_0 rfl (lv_at hl 0 rfl) ?_
  refine lv_iconst (v := 0) hx hb dX12_doubts_1 (by decide) ?_
  refine va_put (D := g.1) (ci := 10) (v := .int 0) (ty := .int) (C := RX12) (T := TX12) (N := 20) hx hb hts izRX12 tyX12 tyX12_ok nmX12 hown hK hP hD hS 0 rfl rfl 0 (by decide) (hts _ k871) (fun _ h9 => h9) rfl (by decide +kernel) rfl rfl (Nat.le_of_ble_eq_true rfl) dX12_doubts_2 (fun H locs hP hD hS => ?_)
  have hP : va_P g.1 vwCl (List.flatten [bMo g o a 0 hi ac tp ba en tA fl de iD iO tU fm fk fa fc ft ff fb fi]) H := hP
  have hD : va_D A (List.flatten [bMo g o a 0 hi ac tp ba en tA fl de iD iO tU fm fk fa fc ft ff fb fi]) := hD
  refine lv_aload_n hx hb dX12_doubts_5 rfl (lv_at hl 0 rfl) ?_
  refine mcallV' (g := g) (q0 := 0) (ci := 10) (As := []) (rest := []) St hK hT hA hP hD hS hl.1 [0] [] rfl rfl rfl (m_doubtsNowG l g o a 0 hi ac tp ba en tA fl de iD iO tU fm fk fa fc ft ff fb fi rfm) (cwV 0 hts (zgL (zl4 k1074 k1075 k1076 k837) k1072) rfl rfl rfl (by decide +kernel) ⟨Nat.le_of_ble_eq_true rfl, Nat.le_of_ble_eq_true rfl⟩) rfl rfl rfl rfl (Nat.le_of_ble_eq_true rfl) dX12_doubts_6 ⟨(Nat.le_of_ble_eq_true rfl), (Nat.le_of_ble_eq_true rfl)⟩ (fun _u H locs hq1 hP hD hS => ?_)
  have hP : va_P g.1 vwCl (List.flatten [bMo g o a 0 hi ac tp ba en tA fl de iD iO tU fm fk fa fc ft ff fb fi]) H := hP
  have hD : va_D A (List.flatten [bMo g o a 0 hi ac tp ba en tA fl de iD iO tU fm fk fa fc ft ff fb fi]) := hD
  refine W.widen (k := 0) (n := 0) (Nat.le_of_ble_eq_true rfl) (Nat.le_of_ble_eq_true rfl) ?_
  refine W.eq (g2 := F0 m 9 ls [.int (zDb (zV fm) (fm 3).toInt.toNat)]) rfl ?_
  have hP : va_P g.1 vwCl (List.flatten [bMo g o a 0 hi ac tp ba en tA fl de iD iO tU fm fk fa fc ft ff fb fi]) H := hP
  have hD : va_D A (List.flatten [bMo g o a 0 hi ac tp ba en tA fl de iD iO tU fm fk fa fc ft ff fb fi]) := hD
  exact mret_i hx hb hr hlocks hS (Nat.le_of_ble_eq_true rfl) (Nat.le_of_ble_eq_true rfl) dX12_doubts_9 (zDb (zV fm) (fm 3).toInt.toNat) rfl (show ((zDb (zV fm) (fm 3).toInt.toNat) = zDbt9 (zM9 fm)) from rfl) hP hD
