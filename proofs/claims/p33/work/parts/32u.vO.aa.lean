/-! WHAT IS ASKED: dreams of the class -/
theorem zLk_0 {L : zLw} {st by9 : Int32} {n : Nat} {s : zT9} (h : st = 0) (b : 0 ≤ s.1.toInt ∧ s.1.toInt ≤ 8) : zLk L st by9 n s = zGo L 0 n s := by
  unfold zLk
  rw [zRs_0 h _ (by omega)]; rfl
theorem zRsC_0 {st by9 k : Int32} {f h : zRw} (e : zEq h f) (hk : k.toInt = 0) : zEq h (zRsT st by9 k.toInt.toNat f) := by rw [hk]; exact e
theorem zRsC_n {st by9 k k' : Int32} {f h : zRw} (J : zEq h (zRsT st by9 k.toInt.toNat f)) (hk : k'.toInt = k.toInt + 1) (h0 : 0 ≤ k.toInt ∧ k.toInt < 8) (q : ((st >>> (k &&& 31)) &&& 1).toInt = 0) : zEq h (zRsT st by9 k'.toInt.toNat f) := by
  rw [show k'.toInt.toNat = k.toInt.toNat + 1 by omega]
  rw [znat h0.1] at q
  refine zEq_t ?_ (zRs1_c (by omega) J)
  rw [← zRs_n q]; exact zEq_r _
theorem zRsC_y {st by9 k k' : Int32} {f h h1 : zRw} (J : zEq h (zRsT st by9 k.toInt.toNat f)) (hk : k'.toInt = k.toInt + 1) (h0 : 0 ≤ k.toInt ∧ k.toInt < 8) (q : ¬ ((st >>> (k &&& 31)) &&& 1).toInt = 0) (e : h1 = zSet h 0 k.toInt.toNat (zCl (h 0 k.toInt.toNat + by9))) : zEq h1 (zRsT st by9 k'.toInt.toNat f) := by
  rw [show k'.toInt.toNat = k.toInt.toNat + 1 by omega]
  rw [znat h0.1] at q
  refine zEq_t ?_ (zRs1_c (by omega) J)
  rw [← zRs_y q e]; exact zEq_r _
theorem zLkC_0 {L : zLw} {st by9 k j : Int32} {pe wo tx ch jo tr dy sd : Int32} {f h : zRw} (J : zEq h (zRsT st by9 k.toInt.toNat f)) (e : k.toInt = pe.toInt) (hj : j.toInt = 0) : zR9 (pe, wo, tx, ch, jo, tr, dy, sd, h) (zGo L 0 j.toInt.toNat (zwf (pe, wo, tx, ch, jo, tr, dy, sd, f) (zRsT st by9 pe.toInt.toNat f))) := by
  rw [hj]
  rw [e] at J
  exact zR9_f J
theorem zLkC_x {L : zLw} {st by9 k n : Int32} {s t : zT9} (J : zR9 t (zGo L 0 k.toInt.toNat (zwf s (zRsT st by9 s.1.toInt.toNat s.2.2.2.2.2.2.2.2)))) (e : k.toInt = n.toInt) : zR9 t (zLk L st by9 n.toInt.toNat s) := by
  rw [e] at J; exact J
theorem zGoC_0 {L : zLw} {tl j : Int32} {pe wo tx ch jo tr dy sd : Int32} {f h : zRw} (J : zEq h f) (hj : j.toInt = 0) : zR9 (pe, wo, tx, ch, jo, tr, dy, sd, h) (zGo L tl j.toInt.toNat (pe, wo, tx, ch, jo, tr, dy, sd, f)) := by
  rw [hj]; exact zR9_f J
theorem zGoC_x {L : zLw} {tl k n : Int32} {s t : zT9} (J : zR9 t (zGo L tl k.toInt.toNat s)) (e : k.toInt = n.toInt) : zR9 t (zGo L tl n.toInt.toNat s) := by rw [← e]; exact J
theorem zObs {q a th b : Int32} {p p' : Int32 × Int32} (h1 : (q, a) = p) (h2 : (th, b) = p') (e : p = p') : q = th ∧ a = b := by
  have h := h1.trans (e.trans h2.symm)
  exact ⟨congrArg Prod.fst h, congrArg Prod.snd h⟩
section ZF
variable {L : zLw} {x n c pe wo tx ch jo tr dy sd pe2 wo2 tx2 ch2 jo2 tr2 dy2 sd2 q : Int32} {f f2 : zRw}
theorem zdAhead_c1 (h : ¬ (0 ≤ x.toInt ∧ x.toInt < pe.toInt)) : (1, 0) = zdAhead L x n (pe, wo, tx, ch, jo, tr, dy, sd, f) := zk2_1 h
theorem zdAhead_c2 (h : 0 ≤ x.toInt ∧ x.toInt < pe.toInt) (k : ¬ (0 ≤ n.toInt ∧ n.toInt ≤ 100)) : (2, 0) = zdAhead L x n (pe, wo, tx, ch, jo, tr, dy, sd, f) := zk2_2 h k
theorem zdThen_c1 (k : ¬ (0 ≤ n.toInt ∧ n.toInt ≤ 100)) : (1, 0) = zdThen L n c (pe, wo, tx, ch, jo, tr, dy, sd, f) := zk2_1 k
theorem zdFalls_c1 (k : ¬ (0 ≤ n.toInt ∧ n.toInt ≤ 100)) : (1, 0) = zdFalls L n (pe, wo, tx, ch, jo, tr, dy, sd, f) := zk2_1 k
theorem zdTrial_c1 (k : ¬ (0 ≤ n.toInt ∧ n.toInt ≤ 60)) : (1, 0) = zdTrial L n c (pe, wo, tx, ch, jo, tr, dy, sd, f) := zk2_1 k
theorem zdAhead_c0 (b : 0 ≤ pe.toInt ∧ pe.toInt ≤ 8) (hp : 0 ≤ x.toInt ∧ x.toInt < pe.toInt) (hn : 0 ≤ n.toInt ∧ n.toInt ≤ 100) (g : zR9 (pe2, wo2, tx2, ch2, jo2, tr2, dy2, sd2, f2) (zLk L 0 0 n.toInt.toNat (pe, wo, tx, ch, jo, tr, dy, sd, f))) : (0, f2 0 x.toInt.toNat) = zdAhead L x n (pe, wo, tx, ch, jo, tr, dy, sd, f) := by
  rw [zLk_0 rfl b] at g
  exact zk2_0 hp hn (g.2.2.2.2.2.2.2.2.1 0 _ (by decide) (by omega))
theorem zdThen_c0 (b : 0 ≤ pe.toInt ∧ pe.toInt ≤ 8) (hn : 0 ≤ n.toInt ∧ n.toInt ≤ 100) (g : zR9 (pe2, wo2, tx2, ch2, jo2, tr2, dy2, sd2, f2) (zLk L 0 0 n.toInt.toNat (pe, wo, tx, ch, jo, tr, dy, sd, f))) (e : q = zBl9 (pe2, wo2, tx2, ch2, jo2, tr2, dy2, sd2, f2)) (hc : c.toInt = 0) : (0, q) = zdThen L n c (pe, wo, tx, ch, jo, tr, dy, sd, f) := by
  rw [zLk_0 rfl b] at g
  refine zk2_0 hn trivial ?_
  have e1 : pe2 = pe := g.1
  rw [if_pos hc, e]
  exact zBl9_c g (by show pe2.toInt ≤ 8; rw [e1]; exact b.2)
theorem zdThen_c9 (b : 0 ≤ pe.toInt ∧ pe.toInt ≤ 8) (hn : 0 ≤ n.toInt ∧ n.toInt ≤ 100) (g : zR9 (pe2, wo2, tx2, ch2, jo2, tr2, dy2, sd2, f2) (zLk L 0 0 n.toInt.toNat (pe, wo, tx, ch, jo, tr, dy, sd, f))) (hc : ¬ c.toInt = 0) : (0, ch2) = zdThen L n c (pe, wo, tx, ch, jo, tr, dy, sd, f) := by
  rw [zLk_0 rfl b] at g
  refine zk2_0 hn trivial ?_
  rw [if_neg hc]; exact g.2.2.2.1
theorem zdTrial_c0 (b : 0 ≤ pe.toInt ∧ pe.toInt ≤ 8) (hn : 0 ≤ n.toInt ∧ n.toInt ≤ 60) (g : zR9 (pe2, wo2, tx2, ch2, jo2, tr2, dy2, sd2, f2) (zGo L 1 n.toInt.toNat (pe, wo, tx, ch, jo, tr, dy, sd, f))) (e : q = zBl9 (pe2, wo2, tx2, ch2, jo2, tr2, dy2, sd2, f2)) (hc : c.toInt = 0) : (0, q) = zdTrial L n c (pe, wo, tx, ch, jo, tr, dy, sd, f) := by
  refine zk2_0 hn trivial ?_
  have e1 : pe2 = pe := g.1
  rw [if_pos hc, e]
  exact zBl9_c g (by show pe2.toInt ≤ 8; rw [e1]; exact b.2)
theorem zdTrial_c9 (hn : 0 ≤ n.toInt ∧ n.toInt ≤ 60) (g : zR9 (pe2, wo2, tx2, ch2, jo2, tr2, dy2, sd2, f2) (zGo L 1 n.toInt.toNat (pe, wo, tx, ch, jo, tr, dy, sd, f))) (hc : ¬ c.toInt = 0) : (0, ch2) = zdTrial L n c (pe, wo, tx, ch, jo, tr, dy, sd, f) := by
  refine zk2_0 hn trivial ?_
  rw [if_neg hc]; exact g.2.2.2.1
theorem zdFalls_c0 (b : 0 ≤ pe.toInt ∧ pe.toInt ≤ 8) (bw : 0 ≤ wo.toInt ∧ wo.toInt ≤ 6) (hn : 0 ≤ n.toInt ∧ n.toInt ≤ 100) (g : zR9 (pe2, wo2, tx2, ch2, jo2, tr2, dy2, sd2, f2) (zLk L 0 0 n.toInt.toNat (pe, wo, tx, ch, jo, tr, dy, sd, f))) : (0, zWks f2 wo2.toInt.toNat 2 &&& (zWks f wo.toInt.toNat 2 ^^^ -1)) = zdFalls L n (pe, wo, tx, ch, jo, tr, dy, sd, f) := by
  rw [zLk_0 rfl b] at g
  have e2 : wo2 = wo := g.2.1
  refine zk2_0 hn trivial ?_
  rw [show zWks f2 wo2.toInt.toNat 2 = zWk9 (zGo L 0 n.toInt.toNat (pe, wo, tx, ch, jo, tr, dy, sd, f)) from zWk9_c g (by show wo2.toInt ≤ 6; rw [e2]; exact bw.2)]; rfl
end ZF
/-! WHAT IS ASKED of the town itself -/
def zWth (f : zRw) (pe x : Nat) : Int32 := f 1 x + f 2 x * zPrice f pe
def zShr (f : zRw) (pe x : Nat) : Int32 := if (zBel f pe).toInt = 0 ∨ ¬ (f 3 x).toInt = -1 then 0 else f 0 x * 100 / zBel f pe
def zDb (f : zRw) (pe : Nat) : Int32 := zOf (fun x => if (f 3 x).toInt = -1 ∧ (f 0 x).toInt < 33 then zBit x else 0) pe
theorem zWth_c {f g : zRw} {pe x : Nat} (h : zEq f g) (hp : pe ≤ 8) (hx : x < 8) : zWth f pe x = zWth g pe x := by
  unfold zWth
  rw [zPrice_c h hp, h.1 1 x (by decide) hx, h.1 2 x (by decide) hx]
theorem zShr_c {f g : zRw} {pe x : Nat} (h : zEq f g) (hp : pe ≤ 8) (hx : x < 8) : zShr f pe x = zShr g pe x := by
  unfold zShr
  rw [zBel_c h hp, h.1 3 x (by decide) hx, h.1 0 x (by decide) hx]
theorem zDb_c {f g : zRw} {pe : Nat} (h : zEq f g) (hp : pe ≤ 8) : zDb f pe = zDb g pe := zFo_c pe (fun i hi => by
  show (if (f 3 i).toInt = -1 ∧ (f 0 i).toInt < 33 then zBit i else 0) = (if (g 3 i).toInt = -1 ∧ (g 0 i).toInt < 33 then zBit i else 0)
  rw [h.1 3 i (by omega) (by omega), h.1 0 i (by omega) (by omega)])
theorem zDb_i (f : zRw) {n : Nat} (hn : n ≤ 8) : 0 ≤ (zDb f n).toInt ∧ (zDb f n).toInt ≤ 255 := by
  obtain ⟨m, h1, h2⟩ := zOr_b (g := fun x => if (f 3 x).toInt = -1 ∧ (f 0 x).toInt < 33 then zBit x else 0) (fun x => by
    by_cases q : (f 3 x).toInt = -1 ∧ (f 0 x).toInt < 33
    · exact Or.inr (if_pos q)
    · exact Or.inl (if_neg q)) n hn
  have h3 : m < 256 := Nat.lt_of_lt_of_le h1 (show 2 ^ n ≤ 2 ^ 8 from Nat.pow_le_pow_right (by decide) hn)
  rw [show zDb f n = nI m from h2, nI_toInt (by omega)]; omega
theorem zShr_0 {f : zRw} {pe x : Nat} (h : (zBel f pe).toInt = 0 ∨ ¬ (f 3 x).toInt = -1) : 0 = zShr f pe x := (if_pos h).symm
theorem zShr_1 {f : zRw} {pe x : Nat} (h : ¬ (zBel f pe).toInt = 0) (k : (f 3 x).toInt = -1) : f 0 x * 100 / zBel f pe = zShr f pe x := (if_neg (fun q => q.elim h (fun w => w k))).symm
theorem zShr_2 {f : zRw} {pe x : Nat} (h : ¬ (zBel f pe).toInt = 0) (k : (f 3 x).toInt = -1) : 100 * f 0 x / zBel f pe = zShr f pe x := by rw [Int32.mul_comm]; exact zShr_1 h k
/-- the best of those that may be, the least of several -/
def zBst (P : Nat → Bool) (W : Nat → Int32) : Nat → Int32
  | 0 => -1
  | k + 1 => if P k = true ∧ ((zBst P W k).toInt = -1 ∨ (W (zBst P W k).toInt.toNat).toInt < (W k).toInt) then nI k else zBst P W k
theorem zBst_0 {P : Nat → Bool} {W : Nat → Int32} {b k : Int32} (hb : b = -1) (hk : k.toInt = 0) : b = zBst P W k.toInt.toNat := by rw [hk]; exact hb
theorem zBst_y {P : Nat → Bool} {W : Nat → Int32} {b k k' : Int32} (h : b = zBst P W k.toInt.toNat) (hk : k'.toInt = k.toInt + 1) (h0 : 0 ≤ k.toInt) (p : P k.toInt.toNat = true) (q : b.toInt = -1 ∨ (W b.toInt.toNat).toInt < (W k.toInt.toNat).toInt) : k = zBst P W k'.toInt.toNat := by
  rw [show k'.toInt.toNat = k.toInt.toNat + 1 by omega]
  show k = if P k.toInt.toNat = true ∧ ((zBst P W k.toInt.toNat).toInt = -1 ∨ (W (zBst P W k.toInt.toNat).toInt.toNat).toInt < (W k.toInt.toNat).toInt) then nI k.toInt.toNat else zBst P W k.toInt.toNat
  rw [← h, if_pos ⟨p, q⟩]; exact znat h0
theorem zBst_n {P : Nat → Bool} {W : Nat → Int32} {b k k' : Int32} (h : b = zBst P W k.toInt.toNat) (hk : k'.toInt = k.toInt + 1) (h0 : 0 ≤ k.toInt) (p : ¬ (P k.toInt.toNat = true ∧ (b.toInt = -1 ∨ (W b.toInt.toNat).toInt < (W k.toInt.toNat).toInt))) : b = zBst P W k'.toInt.toNat := by
  rw [show k'.toInt.toNat = k.toInt.toNat + 1 by omega]
  show b = if P k.toInt.toNat = true ∧ ((zBst P W k.toInt.toNat).toInt = -1 ∨ (W (zBst P W k.toInt.toNat).toInt.toNat).toInt < (W k.toInt.toNat).toInt) then nI k.toInt.toNat else zBst P W k.toInt.toNat
  rw [← h, if_neg p]
theorem zBst_x {P : Nat → Bool} {W : Nat → Int32} {b k n : Int32} (h : b = zBst P W k.toInt.toNat) (e : k.toInt = n.toInt) : b = zBst P W n.toInt.toNat := by rw [← e]; exact h
theorem zBst_b (P : Nat → Bool) (W : Nat → Int32) : ∀ k : Nat, k ≤ 8 → -1 ≤ (zBst P W k).toInt ∧ (zBst P W k).toInt < (k : Int)
  | 0, _ => by
    show -1 ≤ (-1 : Int32).toInt ∧ (-1 : Int32).toInt < ((0 : Nat) : Int)
    decide
  | k + 1, hk => by
    have ih := zBst_b P W k (by omega)
    show -1 ≤ (if P k = true ∧ ((zBst P W k).toInt = -1 ∨ (W (zBst P W k).toInt.toNat).toInt < (W k).toInt) then nI k else zBst P W k).toInt ∧ (if P k = true ∧ ((zBst P W k).toInt = -1 ∨ (W (zBst P W k).toInt.toNat).toInt < (W k).toInt) then nI k else zBst P W k).toInt < ((k + 1 : Nat) : Int)
    by_cases q : P k = true ∧ ((zBst P W k).toInt = -1 ∨ (W (zBst P W k).toInt.toNat).toInt < (W k).toInt)
    · rw [if_pos q, nI_toInt (by omega)]; omega
    · rw [if_neg q]; omega
theorem zBst_c {P Q : Nat → Bool} {W V : Nat → Int32} : ∀ n : Nat, n ≤ 8 → (∀ k, k < n → P k = Q k) → (∀ k, k < n → W k = V k) → zBst P W n = zBst Q V n
  | 0, _, _, _ => rfl
  | n + 1, hn, hP, hW => by
    have ih := zBst_c n (by omega) (fun k hk => hP k (by omega)) (fun k hk => hW k (by omega))
    have b := zBst_b Q V n (by omega)
    show (if P n = true ∧ ((zBst P W n).toInt = -1 ∨ (W (zBst P W n).toInt.toNat).toInt < (W n).toInt) then nI n else zBst P W n) = (if Q n = true ∧ ((zBst Q V n).toInt = -1 ∨ (V (zBst Q V n).toInt.toNat).toInt < (V n).toInt) then nI n else zBst Q V n)
    rw [ih, hP n (by omega), hW n (by omega)]
    by_cases m : (zBst Q V n).toInt = -1
    · by_cases q : Q n = true
      · rw [if_pos ⟨q, Or.inl m⟩, if_pos ⟨q, Or.inl m⟩]
      · rw [if_neg (fun w => q w.1), if_neg (fun w => q w.1)]
    · rw [hW _ (by omega)]
def zoTrust (x o : Int32) (s : zT9) : Int32 × Int32 := zk2 ((0 ≤ x.toInt ∧ x.toInt < s.1.toInt) ∧ (0 ≤ o.toInt ∧ o.toInt < s.1.toInt)) (¬ x.toInt = o.toInt) (s.2.2.2.2.2.2.2.2 5 (8 * x.toInt.toNat + o.toInt.toNat))
def zPrc9 (s : zT9) : Int32 := zPrice s.2.2.2.2.2.2.2.2 s.1.toInt.toNat
def zDbt9 (s : zT9) : Int32 := zDb s.2.2.2.2.2.2.2.2 s.1.toInt.toNat
def zRch9 (s : zT9) : Int32 := zBst (fun _ => true) (zWth s.2.2.2.2.2.2.2.2 s.1.toInt.toNat) s.1.toInt.toNat
def zFrm9 (s : zT9) : Int32 := zBst (fun x => decide ((s.2.2.2.2.2.2.2.2 3 x).toInt = -1)) (s.2.2.2.2.2.2.2.2 0) s.1.toInt.toNat
def zWk4 (f : zRw) (w : Nat) (k : Int) : Int32 := if k = 0 then f 6 w else if k = 1 then f 7 w else if k = 2 then f 8 w else f 9 w
def zoWork (w k : Int32) (s : zT9) : Int32 × Int32 := zk2 (0 ≤ w.toInt ∧ w.toInt < s.2.1.toInt) (0 ≤ k.toInt ∧ k.toInt ≤ 3) (zWk4 s.2.2.2.2.2.2.2.2 w.toInt.toNat k.toInt)
theorem zWk4_c {f g : zRw} {w : Nat} {k : Int} (h : zEq f g) (hw : w < 6) : zWk4 f w k = zWk4 g w k := by
  unfold zWk4
  rw [h.2.2 6 w (by decide) (by decide) hw, h.2.2 7 w (by decide) (by decide) hw, h.2.2 8 w (by decide) (by decide) hw, h.2.2 9 w (by decide) (by decide) hw]
theorem zoTrust_c {x o : Int32} {s t : zT9} (h : zR9 s t) (k : zOk s) : zoTrust x o s = zoTrust x o t := by
  have b := k.1
  unfold zoTrust
  rw [← h.1]
  exact zk2_c Iff.rfl (fun _ => Iff.rfl) (fun a c => h.2.2.2.2.2.2.2.2.2.1 _ _ (by omega) (by omega) (by omega))
theorem zoWork_c {w q : Int32} {s t : zT9} (h : zR9 s t) (k : zOk s) : zoWork w q s = zoWork w q t := by
  have b := k.2.1
  unfold zoWork
  rw [← h.2.1]
  exact zk2_c Iff.rfl (fun _ => Iff.rfl) (fun a c => zWk4_c h.2.2.2.2.2.2.2.2 (by omega))
theorem zPrc9_c {s t : zT9} (h : zR9 s t) (k : zOk s) : zPrc9 s = zPrc9 t := by
  have b := k.1
  unfold zPrc9
  rw [← h.1]; exact zPrice_c h.2.2.2.2.2.2.2.2 (by omega)
theorem zDbt9_c {s t : zT9} (h : zR9 s t) (k : zOk s) : zDbt9 s = zDbt9 t := by
  have b := k.1
  unfold zDbt9
  rw [← h.1]; exact zDb_c h.2.2.2.2.2.2.2.2 (by omega)
theorem zRch9_c {s t : zT9} (h : zR9 s t) (k : zOk s) : zRch9 s = zRch9 t := by
  have b := k.1
  unfold zRch9
  rw [← h.1]; exact zBst_c _ (by omega) (fun _ _ => rfl) (fun i hi => zWth_c h.2.2.2.2.2.2.2.2 (by omega) (by omega))
theorem zFrm9_c {s t : zT9} (h : zR9 s t) (k : zOk s) : zFrm9 s = zFrm9 t := by
  have b := k.1
  unfold zFrm9
  rw [← h.1]
  refine zBst_c _ (by omega) (fun i hi => ?_) (fun i hi => h.2.2.2.2.2.2.2.2.1 0 i (by decide) (by omega))
  show decide ((s.2.2.2.2.2.2.2.2 3 i).toInt = -1) = decide ((t.2.2.2.2.2.2.2.2 3 i).toInt = -1)
  rw [h.2.2.2.2.2.2.2.2.1 3 i (by decide) (by omega)]
section ZG
variable {x o w n pe wo tx ch jo tr dy sd : Int32} {f : zRw} {m : Nat → Int32}
theorem zoTrust_c1 (h : ¬ ((0 ≤ x.toInt ∧ x.toInt < pe.toInt) ∧ (0 ≤ o.toInt ∧ o.toInt < pe.toInt))) : (1, 0) = zoTrust x o (pe, wo, tx, ch, jo, tr, dy, sd, f) := zk2_1 h
theorem zoTrust_c2 (h : (0 ≤ x.toInt ∧ x.toInt < pe.toInt) ∧ (0 ≤ o.toInt ∧ o.toInt < pe.toInt)) (k : x.toInt = o.toInt) : (2, 0) = zoTrust x o (pe, wo, tx, ch, jo, tr, dy, sd, f) := zk2_2 h (fun q => q k)
theorem zoTrust_c0 (h : (0 ≤ x.toInt ∧ x.toInt < pe.toInt) ∧ (0 ≤ o.toInt ∧ o.toInt < pe.toInt)) (k : ¬ x.toInt = o.toInt) : (0, f 5 (8 * x.toInt.toNat + o.toInt.toNat)) = zoTrust x o (pe, wo, tx, ch, jo, tr, dy, sd, f) := zk2_0 h k rfl
theorem zoTrust_m1 (h : ¬ ((0 ≤ x.toInt ∧ x.toInt < (m 3).toInt) ∧ (0 ≤ o.toInt ∧ o.toInt < (m 3).toInt))) : (1, 0) = zoTrust x o (zM9 m) := zk2_1 h
theorem zoTrust_m2 (h : (0 ≤ x.toInt ∧ x.toInt < (m 3).toInt) ∧ (0 ≤ o.toInt ∧ o.toInt < (m 3).toInt)) (k : x.toInt = o.toInt) : (2, 0) = zoTrust x o (zM9 m) := zk2_2 h (fun q => q k)
theorem zoTrust_m0 (h : (0 ≤ x.toInt ∧ x.toInt < (m 3).toInt) ∧ (0 ≤ o.toInt ∧ o.toInt < (m 3).toInt)) (k : ¬ x.toInt = o.toInt) : (0, zV m 5 (8 * x.toInt.toNat + o.toInt.toNat)) = zoTrust x o (zM9 m) := zk2_0 h k rfl
theorem zoWork_c1 (h : ¬ (0 ≤ w.toInt ∧ w.toInt < wo.toInt)) : (1, 0) = zoWork w n (pe, wo, tx, ch, jo, tr, dy, sd, f) := zk2_1 h
theorem zoWork_c2 (h : 0 ≤ w.toInt ∧ w.toInt < wo.toInt) (k : ¬ (0 ≤ n.toInt ∧ n.toInt ≤ 3)) : (2, 0) = zoWork w n (pe, wo, tx, ch, jo, tr, dy, sd, f) := zk2_2 h k
theorem zoWork_c0 {r : Nat} (h : 0 ≤ w.toInt ∧ w.toInt < wo.toInt) (k : (n.toInt = 0 ∧ r = 6) ∨ (n.toInt = 1 ∧ r = 7) ∨ (n.toInt = 2 ∧ r = 8) ∨ (n.toInt = 3 ∧ r = 9)) : (0, f r w.toInt.toNat) = zoWork w n (pe, wo, tx, ch, jo, tr, dy, sd, f) := zk2_0 h (by omega) (by
  show f r w.toInt.toNat = zWk4 f w.toInt.toNat n.toInt
  unfold zWk4
  rcases k with ⟨a, b⟩ | ⟨a, b⟩ | ⟨a, b⟩ | ⟨a, b⟩ <;> rw [a, b] <;> rfl)
theorem zoWork_m1 (h : ¬ (0 ≤ w.toInt ∧ w.toInt < (m 4).toInt)) : (1, 0) = zoWork w n (zM9 m) := zk2_1 h
theorem zoWork_m2 (h : 0 ≤ w.toInt ∧ w.toInt < (m 4).toInt) (k : ¬ (0 ≤ n.toInt ∧ n.toInt ≤ 3)) : (2, 0) = zoWork w n (zM9 m) := zk2_2 h k
theorem zoWork_m0 (h : 0 ≤ w.toInt ∧ w.toInt < (m 4).toInt) (k : 0 ≤ n.toInt ∧ n.toInt ≤ 3) : (0, m (115 + 4 * w.toInt.toNat + n.toInt.toNat)) = zoWork w n (zM9 m) := zk2_0 h k (by
  show m (115 + 4 * w.toInt.toNat + n.toInt.toNat) = zWk4 (zV m) w.toInt.toNat n.toInt
  unfold zWk4
  rcases (show n.toInt = 0 ∨ n.toInt = 1 ∨ n.toInt = 2 ∨ n.toInt = 3 by omega) with a | a | a | a <;> rw [a]
  · rfl
  · exact congrArg m (by omega)
  · exact congrArg m (by omega)
  · exact congrArg m (by omega))
end ZG
set_option maxRecDepth 100000 in
set_option maxHeartbeats 4000000 in
theorem c_f_lookAheadC (l : Launch) (g : zG) (fo : Nat) (o : Nat) (lo : Nat) (od : Nat) (a : Nat → Nat) (pe : Int32) (wo : Int32) (tx : Int32) (ch : Int32) (jo : Int32) (tr : Int32) (dy : Int32) (sd : Int32) (f : Nat → Nat → Int32) (lc : Nat) (lz : Int32) (ll : Int32) (lm : Int32) (lg : Int32) (ld : Int32) (fc : Nat → Int32) (ad : Nat → Nat) (ped : Int32) (wod : Int32) (txd : Int32) (chd : Int32) (jod : Int32) (trd : Int32) (dyd : Int32) (sdd : Int32) (fd : Nat → Nat → Int32) (st0 : Int32) (by9 : Int32) (n : Int32) (b_pe : 0 ≤ pe.toInt ∧ pe.toInt ≤ 8) (b_wo : 0 ≤ wo.toInt ∧ wo.toInt ≤ 6) (rf : zZ4 f) (b_lz : 0 ≤ lz.toInt ∧ lz.toInt ≤ 400) (b_ped : 0 ≤ ped.toInt ∧ ped.toInt ≤ 8) (b_wod : 0 ≤ wod.toInt ∧ wod.toInt ≤ 6) (rfd : zZ4 fd) (b_n : 0 ≤ n.toInt ∧ n.toInt ≤ 100) : zM' g l yX0_lookAhead (Cond.code yX0_lookAhead cX0_lookAhead 5 (some .int) :: zB) ({ frames := 6, cells := 0, slots := 0, locals := 128 } : Room) [.ref fo, .int st0, .int by9, .int n] [bFo g fo o lo od, bTown g o a pe wo tx ch jo tr dy sd f, bLaw g lo lc lz ll lm lg ld fc, bTown g od ad ped wod txd chd jod trd dyd sdd fd] (fun u : Int32 × Int32 × Int32 × Int32 × Int32 × Int32 × Int32 × Int32 × Int32 × Int32 × Int32 × (Nat → Nat → Int32) × Int32 => (fun (lm2 : Int32) (lg2 : Int32) (ld2 : Int32) (pe3 : Int32) (wo3 : Int32) (tx3 : Int32) (ch3 : Int32) (jo3 : Int32) (tr3 : Int32) (dy3 : Int32) (sd3 : Int32) (f3 : Nat → Nat → Int32) (q : Int32) => some (.int q)) (u.1) (u.2.1) (u.2.2.1) (u.2.2.2.1) (u.2.2.2.2.1) (u.2.2.2.2.2.1) (u.2.2.2.2.2.2.1) (u.2.2.2.2.2.2.2.1) (u.2.2.2.2.2.2.2.2.1) (u.2.2.2.2.2.2.2.2.2.1) (u.2.2.2.2.2.2.2.2.2.2.1) (u.2.2.2.2.2.2.2.2.2.2.2.1) (u.2.2.2.2.2.2.2.2.2.2.2.2)) (fun u : Int32 × Int32 × Int32 × Int32 × Int32 × Int32 × Int32 × Int32 × Int32 × Int32 × Int32 × (Nat → Nat → Int32) × Int32 => (fun (lm2 : Int32) (lg2 : Int32) (ld2 : Int32) (pe3 : Int32) (wo3 : Int32) (tx3 : Int32) (ch3 : Int32) (jo3 : Int32) (tr3 : Int32) (dy3 : Int32) (sd3 : Int32) (f3 : Nat → Nat → Int32) (q : Int32) => (0 ≤ pe3.toInt ∧ pe3.toInt ≤ 8) ∧ (0 ≤ wo3.toInt ∧ wo3.toInt ≤ 6) ∧ (zZ4 f3) ∧ (zR9 (pe3, wo3, tx3, ch3, jo3, tr3, dy3, sd3, f3) (zLk (zLwR fc lz ll) st0 by9 n.toInt.toNat (pe, wo, tx, ch, jo, tr, dy, sd, f))) ∧ (q = zBl9 (pe3, wo3, tx3, ch3, jo3, tr3, dy3, sd3, f3))) (u.1) (u.2.1) (u.2.2.1) (u.2.2.2.1) (u.2.2.2.2.1) (u.2.2.2.2.2.1) (u.2.2.2.2.2.2.1) (u.2.2.2.2.2.2.2.1) (u.2.2.2.2.2.2.2.2.1) (u.2.2.2.2.2.2.2.2.2.1) (u.2.2.2.2.2.2.2.2.2.2.1) (u.2.2.2.2.2.2.2.2.2.2.2.1) (u.2.2.2.2.2.2.2.2.2.2.2.2)) (fun u : Int32 × Int32 × Int32 × Int32 × Int32 × Int32 × Int32 × Int32 × Int32 × Int32 × Int32 × (Nat → Nat → Int32) × Int32 => (fun (lm2 : Int32) (lg2 : Int32) (ld2 : Int32) (pe3 : Int32) (wo3 : Int32) (tx3 : Int32) (ch3 : Int32) (jo3 : Int32) (tr3 : Int32) (dy3 : Int32) (sd3 : Int32) (f3 : Nat → Nat → Int32) (q : Int32) => [bFo g fo o lo od, bTown g o a pe wo tx ch jo tr dy sd f, bLaw g lo lc lz ll lm2 lg2 ld2 fc, bTown g od ad pe3 wo3 tx3 ch3 jo3 tr3 dy3 sd3 f3]) (u.1) (u.2.1) (u.2.2.1) (u.2.2.2.1) (u.2.2.2.2.1) (u.2.2.2.2.2.1) (u.2.2.2.2.2.2.1) (u.2.2.2.2.2.2.2.1) (u.2.2.2.2.2.2.2.2.1) (u.2.2.2.2.2.2.2.2.2.1) (u.2.2.2.2.2.2.2.2.2.2.1) (u.2.2.2.2.2.2.2.2.2.2.2.1) (u.2.2.2.2.2.2.2.2.2.2.2.2)) := by
  refine zM'.of (cc := cX0_lookAhead) (maxL := 5) (rt := (some .int)) (by decide) rfl (Nat.le_of_ble_eq_true rfl) ?_
  intro p e s m args below meth c A ls St hr hlocks hin hK hT hA hP hD hS hl
  obtain ⟨hx, hb, hml, hown, hts⟩ := id St
  have hl : lv_has ls 5 [(0, .ref fo), (1, .int st0), (2, .int by9), (3, .int n)] := hl
  refine lv_aload_n hx hb dX0_lookAhead_0 rfl (lv_at hl 0 rfl) ?_
  refine va_get (D := g.1) (ci := 0) (v := .ref od) (C := RX0) (T := TX0) (N := 3) hx hb hts izRX0 hown hK hP 0 rfl rfl 2 (by decide) (hts _ k25) (fun _ h9 => h9) rfl dX0_lookAhead_1 ?_
  refine lv_aload_n hx hb dX0_lookAhead_4 rfl (lv_at hl 0 rfl) ?_
  refine va_get (D := g.1) (ci := 0) (v := .ref o) (C := RX0) (T := TX0) (N := 3) hx hb hts izRX0 hown hK hP 0 rfl rfl 0 (by decide) (hts _ k26) (fun _ h9 => h9) rfl dX0_lookAhead_5 ?_
  refine mcallV' (g := g) (q0 := 0) (ci := 7) (As := [.ref o]) (rest := []) St hK hT hA hP hD hS hl.1 [3, 1] [0, 2] rfl rfl rfl (c_copyFromC l g od ad ped wod txd chd jod trd dyd sdd fd o a pe wo tx ch jo tr dy sd f b_pe b_wo rf) (cwV 1 hts (zgL (zl4 k156 k157 k158 k24) k30) rfl rfl rfl (by decide +kernel) ⟨Nat.le_of_ble_eq_true rfl, Nat.le_of_ble_eq_true rfl⟩) rfl rfl rfl rfl (Nat.le_of_ble_eq_true rfl) dX0_lookAhead_8 ⟨(Nat.le_of_ble_eq_true rfl), (Nat.le_of_ble_eq_true rfl)⟩ (fun h_1 H locs hq2 hP hD hS => ?_)
  replace hq2 : (zZ4 h_1) ∧ (zEq h_1 f) := hq2
  have hP : va_P g.1 vwCl (List.flatten [bFo g fo o lo od, bLaw g lo lc lz ll lm lg ld fc, bTown g od ad pe wo tx ch jo tr dy sd h_1, bTown g o a pe wo tx ch jo tr dy sd f]) H := hP
  have hD : va_D A (List.flatten [bFo g fo o lo od, bLaw g lo lc lz ll lm lg ld fc, bTown g od ad pe wo tx ch jo tr dy sd h_1, bTown g o a pe wo tx ch jo tr dy sd f]) := hD
  refine W.widen (k := 0) (n := 0) (Nat.le_of_ble_eq_true rfl) (Nat.le_of_ble_eq_true rfl) ?_
  refine W.eq (g2 := F0 m 11 ls []) rfl ?_
  obtain ⟨rh_1, hq2_1⟩ := hq2
  refine lv_iconst (v := 0) hx hb dX0_lookAhead_11 (by decide) ?_
  refine lv_istore (lv' := [(4, .int 0), (0, .ref fo), (1, .int st0), (2, .int by9), (3, .int n)]) hx hb dX0_lookAhead_12 hl (by decide) rfl (fun ls hl => ?_)
  have hl := lv_sub (l' := [(0, .ref fo), (1, .int st0), (2, .int by9), (3, .int n), (4, .int 0)]) hl [1, 2, 3, 4, 0] rfl
  have LP14_8 : ∀ (kf : Nat) (x_3 : Int32) (f_4 : Nat → Nat → Int32), (0 ≤ x_3.toInt ∧ x_3.toInt ≤ 8) → (zZ4 f_4) → (zEq f_4 (zRsT st0 by9 x_3.toInt.toNat f)) → (x_3.toInt ≤ pe.toInt) → ∀ (H : Heap) (locs : List Loc) (ls : Array Slot), ((9 - x_3.toInt).toNat) < kf → va_P g.1 vwCl (List.flatten [bFo g fo o lo od, bLaw g lo lc lz ll lm lg ld fc, bTown g od ad pe wo tx ch jo tr dy sd f_4, bTown g o a pe wo tx ch jo tr dy sd f]) H → va_D A (List.flatten [bFo g fo o lo od, bLaw g lo lc lz ll lm lg ld fc, bTown g od ad pe wo tx ch jo tr dy sd f_4, bTown g o a pe wo tx ch jo tr dy sd f]) → va_S A s.heap H locs → lv_has ls 5 [(0, .ref fo), (1, .int st0), (2, .int by9), (3, .int n), (4, .int x_3)] → W p l e ({ frames := 6, cells := 0, slots := 0, locals := 128 } : Room) s m args below meth c H locs (0) (0) (zF g (fun u : Int32 × Int32 × Int32 × Int32 × Int32 × Int32 × Int32 × Int32 × Int32 × Int32 × Int32 × (Nat → Nat → Int32) × Int32 => (fun (lm2 : Int32) (lg2 : Int32) (ld2 : Int32) (pe3 : Int32) (wo3 : Int32) (tx3 : Int32) (ch3 : Int32) (jo3 : Int32) (tr3 : Int32) (dy3 : Int32) (sd3 : Int32) (f3 : Nat → Nat → Int32) (q : Int32) => some (.int q)) (u.1) (u.2.1) (u.2.2.1) (u.2.2.2.1) (u.2.2.2.2.1) (u.2.2.2.2.2.1) (u.2.2.2.2.2.2.1) (u.2.2.2.2.2.2.2.1) (u.2.2.2.2.2.2.2.2.1) (u.2.2.2.2.2.2.2.2.2.1) (u.2.2.2.2.2.2.2.2.2.2.1) (u.2.2.2.2.2.2.2.2.2.2.2.1) (u.2.2.2.2.2.2.2.2.2.2.2.2)) (fun u : Int32 × Int32 × Int32 × Int32 × Int32 × Int32 × Int32 × Int32 × Int32 × Int32 × Int32 × (Nat → Nat → Int32) × Int32 => (fun (lm2 : Int32) (lg2 : Int32) (ld2 : Int32) (pe3 : Int32) (wo3 : Int32) (tx3 : Int32) (ch3 : Int32) (jo3 : Int32) (tr3 : Int32) (dy3 : Int32) (sd3 : Int32) (f3 : Nat → Nat → Int32) (q : Int32) => (0 ≤ pe3.toInt ∧ pe3.toInt ≤ 8) ∧ (0 ≤ wo3.toInt ∧ wo3.toInt ≤ 6) ∧ (zZ4 f3) ∧ (zR9 (pe3, wo3, tx3, ch3, jo3, tr3, dy3, sd3, f3) (zLk (zLwR fc lz ll) st0 by9 n.toInt.toNat (pe, wo, tx, ch, jo, tr, dy, sd, f))) ∧ (q = zBl9 (pe3, wo3, tx3, ch3, jo3, tr3, dy3, sd3, f3))) (u.1) (u.2.1) (u.2.2.1) (u.2.2.2.1) (u.2.2.2.2.1) (u.2.2.2.2.2.1) (u.2.2.2.2.2.2.1) (u.2.2.2.2.2.2.2.1) (u.2.2.2.2.2.2.2.2.1) (u.2.2.2.2.2.2.2.2.2.1) (u.2.2.2.2.2.2.2.2.2.2.1) (u.2.2.2.2.2.2.2.2.2.2.2.1) (u.2.2.2.2.2.2.2.2.2.2.2.2)) (fun u : Int32 × Int32 × Int32 × Int32 × Int32 × Int32 × Int32 × Int32 × Int32 × Int32 × Int32 × (Nat → Nat → Int32) × Int32 => (fun (lm2 : Int32) (lg2 : Int32) (ld2 : Int32) (pe3 : Int32) (wo3 : Int32) (tx3 : Int32) (ch3 : Int32) (jo3 : Int32) (tr3 : Int32) (dy3 : Int32) (sd3 : Int32) (f3 : Nat → Nat → Int32) (q : Int32) => [bFo g fo o lo od, bTown g o a pe wo tx ch jo tr dy sd f, bLaw g lo lc lz ll lm2 lg2 ld2 fc, bTown g od ad pe3 wo3 tx3 ch3 jo3 tr3 dy3 sd3 f3]) (u.1) (u.2.1) (u.2.2.1) (u.2.2.2.1) (u.2.2.2.2.1) (u.2.2.2.2.2.1) (u.2.2.2.2.2.2.1) (u.2.2.2.2.2.2.2.1) (u.2.2.2.2.2.2.2.2.1) (u.2.2.2.2.2.2.2.2.2.1) (u.2.2.2.2.2.2.2.2.2.2.1) (u.2.2.2.2.2.2.2.2.2.2.2.1) (u.2.2.2.2.2.2.2.2.2.2.2.2)) ({ frames := 6, cells := 0, slots := 0, locals := 128 } : Room) below args s A) (F0 m 14 ls []) := by
    intro kf
    induction kf with
    | zero => intro x_3 f_4 i5 rf_4 i6 i7 H locs ls hk; exact absurd hk (Nat.not_lt_zero _)
    | succ kf ih14_9 =>
      intro x_3 f_4 i5 rf_4 i6 i7 H locs ls hk14_9 hP hD hS hl
      refine lv_iload hx hb dX0_lookAhead_14 (lv_at hl 4 rfl) ?_
      refine lv_aload_n hx hb dX0_lookAhead_16 rfl (lv_at hl 0 rfl) ?_
      refine va_get (D := g.1) (ci := 0) (v := .ref o) (C := RX0) (T := TX0) (N := 3) hx hb hts izRX0 hown hK hP 0 rfl rfl 0 (by decide) (hts _ k26) (fun _ h9 => h9) rfl dX0_lookAhead_17 ?_
      refine va_get (D := g.1) (ci := 7) (v := .int pe) (C := RX9) (T := TX9) (N := 19) hx hb hts izRX9 hown hK hP 15 rfl rfl 0 (by decide) (hts _ k155) (fun _ h9 => h9) rfl dX0_lookAhead_20 ?_
      refine lv_icmp_ge (tgt := 51) hx hb dX0_lookAhead_23 (by decide) (fun cb9 => ?_) (fun cb9 => ?_)
      · skip
        have c10 : pe.toInt ≤ x_3.toInt := zle cb9 rfl rfl
        refine lv_iconst (v := 0) hx hb dX0_lookAhead_51 (by decide) ?_
        refine lv_istore (lv' := [(4, .int 0), (0, .ref fo), (1, .int st0), (2, .int by9), (3, .int n)]) hx hb dX0_lookAhead_52 hl (by decide) rfl (fun ls hl => ?_)
        have hl := lv_sub (l' := [(0, .ref fo), (1, .int st0), (2, .int by9), (3, .int n), (4, .int 0)]) hl [1, 2, 3, 4, 0] rfl
        have LP54_22 : ∀ (kf : Nat) (x_11 : Int32) (x_12 : Int32) (x_13 : Int32) (x_14 : Int32) (x_15 : Int32) (x_16 : Int32) (x_17 : Int32) (f_18 : Nat → Nat → Int32), (0 ≤ x_11.toInt ∧ x_11.toInt ≤ 100) → (zZ4 f_18) → (zR9 (pe, wo, tx, x_15, jo, tr, x_16, x_17, f_18) (zGo (zLwR fc lz ll) 0 x_11.toInt.toNat (zwf (pe, wo, tx, ch, jo, tr, dy, sd, f) (zRsT st0 by9 pe.toInt.toNat f)))) → (x_11.toInt ≤ n.toInt) → ∀ (H : Heap) (locs : List Loc) (ls : Array Slot), ((101 - x_11.toInt).toNat) < kf → va_P g.1 vwCl (List.flatten [bFo g fo o lo od, bLaw g lo lc lz ll x_12 x_13 x_14 fc, bTown g od ad pe wo tx x_15 jo tr x_16 x_17 f_18, bTown g o a pe wo tx ch jo tr dy sd f]) H → va_D A (List.flatten [bFo g fo o lo od, bLaw g lo lc lz ll x_12 x_13 x_14 fc, bTown g od ad pe wo tx x_15 jo tr x_16 x_17 f_18, bTown g o a pe wo tx ch jo tr dy sd f]) → va_S A s.heap H locs → lv_has ls 5 [(0, .ref fo), (1, .int st0), (2, .int by9), (3, .int n), (4, .int x_11)] → W p l e ({ frames := 6, cells := 0, slots := 0, locals := 128 } : Room) s m args below meth c H locs (0) (0) (zF g (fun u : Int32 × Int32 × Int32 × Int32 × Int32 × Int32 × Int32 × Int32 × Int32 × Int32 × Int32 × (Nat → Nat → Int32) × Int32 => (fun (lm2 : Int32) (lg2 : Int32) (ld2 : Int32) (pe3 : Int32) (wo3 : Int32) (tx3 : Int32) (ch3 : Int32) (jo3 : Int32) (tr3 : Int32) (dy3 : Int32) (sd3 : Int32) (f3 : Nat → Nat → Int32) (q : Int32) => some (.int q)) (u.1) (u.2.1) (u.2.2.1) (u.2.2.2.1) (u.2.2.2.2.1) (u.2.2.2.2.2.1) (u.2.2.2.2.2.2.1) (u.2.2.2.2.2.2.2.1) (u.2.2.2.2.2.2.2.2.1) (u.2.2.2.2.2.2.2.2.2.1) (u.2.2.2.2.2.2.2.2.2.2.1) (u.2.2.2.2.2.2.2.2.2.2.2.1) (u.2.2.2.2.2.2.2.2.2.2.2.2)) (fun u : Int32 × Int32 × Int32 × Int32 × Int32 × Int32 × Int32 × Int32 × Int32 × Int32 × Int32 × (Nat → Nat → Int32) × Int32 => (fun (lm2 : Int32) (lg2 : Int32) (ld2 : Int32) (pe3 : Int32) (wo3 : Int32) (tx3 : Int32) (ch3 : Int32) (jo3 : Int32) (tr3 : Int32) (dy3 : Int32) (sd3 : Int32) (f3 : Nat → Nat → Int32) (q : Int32) => (0 ≤ pe3.toInt ∧ pe3.toInt ≤ 8) ∧ (0 ≤ wo3.toInt ∧ wo3.toInt ≤ 6) ∧ (zZ4 f3) ∧ (zR9 (pe3, wo3, tx3, ch3, jo3, tr3, dy3, sd3, f3) (zLk (zLwR fc lz ll) st0 by9 n.toInt.toNat (pe, wo, tx, ch, jo, tr, dy, sd, f))) ∧ (q = zBl9 (pe3, wo3, tx3, ch3, jo3, tr3, dy3, sd3, f3))) (u.1) (u.2.1) (u.2.2.1) (u.2.2.2.1) (u.2.2.2.2.1) (u.2.2.2.2.2.1) (u.2.2.2.2.2.2.1) (u.2.2.2.2.2.2.2.1) (u.2.2.2.2.2.2.2.2.1) (u.2.2.2.2.2.2.2.2.2.1) (u.2.2.2.2.2.2.2.2.2.2.1) (u.2.2.2.2.2.2.2.2.2.2.2.1) (u.2.2.2.2.2.2.2.2.2.2.2.2)) (fun u : Int32 × Int32 × Int32 × Int32 × Int32 × Int32 × Int32 × Int32 × Int32 × Int32 × Int32 × (Nat → Nat → Int32) × Int32 => (fun (lm2 : Int32) (lg2 : Int32) (ld2 : Int32) (pe3 : Int32) (wo3 : Int32) (tx3 : Int32) (ch3 : Int32) (jo3 : Int32) (tr3 : Int32) (dy3 : Int32) (sd3 : Int32) (f3 : Nat → Nat → Int32) (q : Int32) => [bFo g fo o lo od, bTown g o a pe wo tx ch jo tr dy sd f, bLaw g lo lc lz ll lm2 lg2 ld2 fc, bTown g od ad pe3 wo3 tx3 ch3 jo3 tr3 dy3 sd3 f3]) (u.1) (u.2.1) (u.2.2.1) (u.2.2.2.1) (u.2.2.2.2.1) (u.2.2.2.2.2.1) (u.2.2.2.2.2.2.1) (u.2.2.2.2.2.2.2.1) (u.2.2.2.2.2.2.2.2.1) (u.2.2.2.2.2.2.2.2.2.1) (u.2.2.2.2.2.2.2.2.2.2.1) (u.2.2.2.2.2.2.2.2.2.2.2.1) (u.2.2.2.2.2.2.2.2.2.2.2.2)) ({ frames := 6, cells := 0, slots := 0, locals := 128 } : Room) below args s A) (F0 m 54 ls []) := by
          intro kf
          induction kf with
          | zero => intro x_11 x_12 x_13 x_14 x_15 x_16 x_17 f_18 i19 rf_18 i20 i21 H locs ls hk; exact absurd hk (Nat.not_lt_zero _)
          | succ kf ih54_23 =>
            intro x_11 x_12 x_13 x_14 x_15 x_16 x_17 f_18 i19 rf_18 i20 i21 H locs ls hk54_23 hP hD hS hl
            refine lv_iload hx hb dX0_lookAhead_54 (lv_at hl 4 rfl) ?_
            refine lv_iload_n hx hb dX0_lookAhead_56 rfl (lv_at hl 3 rfl) ?_
            refine lv_icmp_ge (tgt := 80) hx hb dX0_lookAhead_57 (by decide) (fun cb9 => ?_) (fun cb9 => ?_)
            · skip
              have c24 : n.toInt ≤ x_11.toInt := zle cb9 rfl rfl
              refine lv_aload_n hx hb dX0_lookAhead_80 rfl (lv_at hl 0 rfl) ?_
              refine va_get (D := g.1) (ci := 0) (v := .ref od) (C := RX0) (T := TX0) (N := 3) hx hb hts izRX0 hown hK hP 0 rfl rfl 2 (by decide) (hts _ k25) (fun _ h9 => h9) rfl dX0_lookAhead_81 ?_
              refine mcallV' (g := g) (q0 := 0) (ci := 7) (As := []) (rest := []) St hK hT hA hP hD hS hl.1 [2] [0, 1, 3] rfl rfl rfl (c_believedF l g od ad pe wo tx x_15 jo tr x_16 x_17 f_18 b_pe b_wo rf_18) (cwV 0 hts (zgL (zl4 k163 k69 k70 k24) k60) rfl rfl rfl (by decide +kernel) ⟨Nat.le_of_ble_eq_true rfl, Nat.le_of_ble_eq_true rfl⟩) rfl rfl rfl rfl (Nat.le_of_ble_eq_true rfl) dX0_lookAhead_84 ⟨(Nat.le_of_ble_eq_true rfl), (Nat.le_of_ble_eq_true rfl)⟩ (fun _u H locs hq25 hP hD hS => ?_)
              have hP : va_P g.1 vwCl (List.flatten [bFo g fo o lo od, bLaw g lo lc lz ll x_12 x_13 x_14 fc, bTown g o a pe wo tx ch jo tr dy sd f, bTown g od ad pe wo tx x_15 jo tr x_16 x_17 f_18]) H := hP
              have hD : va_D A (List.flatten [bFo g fo o lo od, bLaw g lo lc lz ll x_12 x_13 x_14 fc, bTown g o a pe wo tx ch jo tr dy sd f, bTown g od ad pe wo tx x_15 jo tr x_16 x_17 f_18]) := hD
              refine W.widen (k := 0) (n := 0) (Nat.le_of_ble_eq_true rfl) (Nat.le_of_ble_eq_true rfl) ?_
              refine W.eq (g2 := F0 m 87 ls [.int (zBel f_18 pe.toInt.toNat)]) rfl ?_
              have hP : va_P g.1 vwCl (List.flatten [bFo g fo o lo od, bLaw g lo lc lz ll x_12 x_13 x_14 fc, bTown g o a pe wo tx ch jo tr dy sd f, bTown g od ad pe wo tx x_15 jo tr x_16 x_17 f_18]) H := hP
              have hD : va_D A (List.flatten [bFo g fo o lo od, bLaw g lo lc lz ll x_12 x_13 x_14 fc, bTown g o a pe wo tx ch jo tr dy sd f, bTown g od ad pe wo tx x_15 jo tr x_16 x_17 f_18]) := hD
              obtain ⟨hP, hD⟩ := zord (g := g) (Bs' := [bFo g fo o lo od, bTown g o a pe wo tx ch jo tr dy sd f, bLaw g lo lc lz ll x_12 x_13 x_14 fc, bTown g od ad pe wo tx x_15 jo tr x_16 x_17 f_18]) [0, 2, 1, 3] rfl rfl hP hD
              exact mret_i hx hb hr hlocks hS (Nat.le_of_ble_eq_true rfl) (Nat.le_of_ble_eq_true rfl) dX0_lookAhead_87 (x_12, x_13, x_14, pe, wo, tx, x_15, jo, tr, x_16, x_17, f_18, zBel f_18 pe.toInt.toNat) rfl (show (0 ≤ pe.toInt ∧ pe.toInt ≤ 8) ∧ (0 ≤ wo.toInt ∧ wo.toInt ≤ 6) ∧ (zZ4 f_18) ∧ (zR9 (pe, wo, tx, x_15, jo, tr, x_16, x_17, f_18) (zLk (zLwR fc lz ll) st0 by9 n.toInt.toNat (pe, wo, tx, ch, jo, tr, dy, sd, f))) ∧ ((zBel f_18 pe.toInt.toNat) = zBl9 (pe, wo, tx, x_15, jo, tr, x_16, x_17, f_18)) from ⟨(by first | assumption | omega | decide), (by first | assumption | omega | decide), (by first | assumption | omega | decide), (zLkC_x (s := (pe, wo, tx, ch, jo, tr, dy, sd, f)) i20 (by omega)), rfl⟩) hP hD
            · skip
              have c26 : x_11.toInt < n.toInt := zlti (Int32.not_le.mp cb9) rfl rfl
              have n27 : x_11.toInt ≤ 99 := zL1 (b := 100) c26 b_n.2 (by decide)
              have n28 : 1 ≤ n.toInt := zL2 (a := 0) c26 i19.1 (by decide)
              refine lv_aload_n hx hb dX0_lookAhead_60 rfl (lv_at hl 0 rfl) ?_
              refine va_get (D := g.1) (ci := 0) (v := .ref od) (C := RX0) (T := TX0) (N := 3) hx hb hts izRX0 hown hK hP 0 rfl rfl 2 (by decide) (hts _ k25) (fun _ h9 => h9) rfl dX0_lookAhead_61 ?_
              refine lv_aload_n hx hb dX0_lookAhead_64 rfl (lv_at hl 0 rfl) ?_
              refine va_get (D := g.1) (ci := 0) (v := .ref lo) (C := RX0) (T := TX0) (N := 3) hx hb hts izRX0 hown hK hP 0 rfl rfl 1 (by decide) (hts _ k27) (fun _ h9 => h9) rfl dX0_lookAhead_65 ?_
              refine lv_iconst (v := 0) hx hb dX0_lookAhead_68 (by decide) ?_
              refine lv_null hx hb dX0_lookAhead_69 ?_
              refine mcallV' (g := g) (q0 := 0) (ci := 7) (As := [.ref lo, .int 0, .null]) (rest := []) St hK hT hA hP hD hS hl.1 [2, 1] [0, 3] rfl rfl rfl (c_passDayNF l g od ad pe wo tx x_15 jo tr x_16 x_17 f_18 lo lc lz ll x_12 x_13 x_14 fc 0 b_pe b_wo rf_18 b_lz) (cwV 3 hts (zgL (zl4 k160 k161 k162 k24) k154) rfl rfl rfl (by decide +kernel) ⟨Nat.le_of_ble_eq_true rfl, Nat.le_of_ble_eq_true rfl⟩) rfl rfl rfl rfl (Nat.le_of_ble_eq_true rfl) dX0_lookAhead_70 ⟨(Nat.le_of_ble_eq_true rfl), (Nat.le_of_ble_eq_true rfl)⟩ (fun u_ H locs hq34 hP hD hS => ?_)
              obtain ⟨ch2_29, dy2_30, sd2_31, f2_32, q_33⟩ := u_
              replace hq34 : (zZ4 f2_32) ∧ (zDR (ch2_29, dy2_30, sd2_31, f2_32) (zDay (zLwR fc lz ll) pe.toInt.toNat wo.toInt.toNat tr 0 (x_15, x_16, x_17, f_18)) ∧ q_33 = (zDk (zLwR fc lz ll) pe.toInt.toNat wo.toInt.toNat (x_15, x_16, x_17, f_18)).2.2) := hq34
              have hP : va_P g.1 vwCl (List.flatten [bFo g fo o lo od, bTown g o a pe wo tx ch jo tr dy sd f, bTown g od ad pe wo tx ch2_29 jo tr dy2_30 sd2_31 f2_32, bLaw g lo lc lz ll (zMean f_18 pe.toInt.toNat) (zPop (zWks f_18 wo.toInt.toNat 1)) x_16 fc]) H := hP
              have hD : va_D A (List.flatten [bFo g fo o lo od, bTown g o a pe wo tx ch jo tr dy sd f, bTown g od ad pe wo tx ch2_29 jo tr dy2_30 sd2_31 f2_32, bLaw g lo lc lz ll (zMean f_18 pe.toInt.toNat) (zPop (zWks f_18 wo.toInt.toNat 1)) x_16 fc]) := hD
              refine W.widen (k := 0) (n := 0) (Nat.le_of_ble_eq_true rfl) (Nat.le_of_ble_eq_true rfl) ?_
              refine W.eq (g2 := F0 m 73 ls [.int q_33]) rfl ?_
              obtain ⟨rf2_32, hq34_1⟩ := hq34
              refine lv_pop hx hb dX0_lookAhead_73 rfl ?_
              refine ziinc3 (n' := 1) (a' := 1) (b' := 100) (lv' := fun v9 => [(4, .int v9), (0, .ref fo), (1, .int st0), (2, .int by9), (3, .int n)]) hx hb dX0_lookAhead_74 hl (k := 4) rfl (by decide) (fun _ => rfl) (zaddK (i := x_11.toInt) (j := 1) rfl (by decide) i19.1 n27 (Int.le_refl _) (Int.le_refl _) (by decide)) (fun x_35 ls hx_35 hl => ?_)
              refine lv_goto (tgt := 54) hx hb dX0_lookAhead_77 (by decide) ?_
              have hl := lv_sub (l' := [(0, .ref fo), (1, .int st0), (2, .int by9), (3, .int n), (4, .int x_35)]) hl [1, 2, 3, 4, 0] rfl
              have hP : va_P g.1 vwCl (List.flatten [bFo g fo o lo od, bTown g o a pe wo tx ch jo tr dy sd f, bTown g od ad pe wo tx ch2_29 jo tr dy2_30 sd2_31 f2_32, bLaw g lo lc lz ll (zMean f_18 pe.toInt.toNat) (zPop (zWks f_18 wo.toInt.toNat 1)) x_16 fc]) H := hP
              have hD : va_D A (List.flatten [bFo g fo o lo od, bTown g o a pe wo tx ch jo tr dy sd f, bTown g od ad pe wo tx ch2_29 jo tr dy2_30 sd2_31 f2_32, bLaw g lo lc lz ll (zMean f_18 pe.toInt.toNat) (zPop (zWks f_18 wo.toInt.toNat 1)) x_16 fc]) := hD
              obtain ⟨hP, hD⟩ := zord (g := g) (Bs' := [bFo g fo o lo od, bLaw g lo lc lz ll (zMean f_18 pe.toInt.toNat) (zPop (zWks f_18 wo.toInt.toNat 1)) x_16 fc, bTown g od ad pe wo tx ch2_29 jo tr dy2_30 sd2_31 f2_32, bTown g o a pe wo tx ch jo tr dy sd f]) [0, 3, 2, 1] rfl rfl hP hD
              have hP : va_P g.1 vwCl (List.flatten [bFo g fo o lo od, bLaw g lo lc lz ll (zMean f_18 pe.toInt.toNat) (zPop (zWks f_18 wo.toInt.toNat 1)) x_16 fc, bTown g od ad pe wo tx ch2_29 jo tr dy2_30 sd2_31 f2_32, bTown g o a pe wo tx ch jo tr dy sd f]) H := hP
              have hD : va_D A (List.flatten [bFo g fo o lo od, bLaw g lo lc lz ll (zMean f_18 pe.toInt.toNat) (zPop (zWks f_18 wo.toInt.toNat 1)) x_16 fc, bTown g od ad pe wo tx ch2_29 jo tr dy2_30 sd2_31 f2_32, bTown g o a pe wo tx ch jo tr dy sd f]) := hD
              exact ih54_23 x_35 (zMean f_18 pe.toInt.toNat) (zPop (zWks f_18 wo.toInt.toNat 1)) x_16 ch2_29 dy2_30 sd2_31 f2_32 ⟨(Int.le_trans (by decide) hx_35.2.1), hx_35.2.2⟩ rf2_32 (zGo_d i20 (by omega) (by omega) hq34_1.1 (by omega)) (by first | omega | assumption | decide) H _ ls (zmK hx_35.1 (by decide) n27 (by decide) hk54_23)  hP hD hS (lv_sub hl [0, 1, 2, 3, 4] rfl)
        have hL0 : (0 : Int32).toInt = 0 := by decide
        have hP : va_P g.1 vwCl (List.flatten [bFo g fo o lo od, bLaw g lo lc lz ll lm lg ld fc, bTown g od ad pe wo tx ch jo tr dy sd f_4, bTown g o a pe wo tx ch jo tr dy sd f]) H := hP
        have hD : va_D A (List.flatten [bFo g fo o lo od, bLaw g lo lc lz ll lm lg ld fc, bTown g od ad pe wo tx ch jo tr dy sd f_4, bTown g o a pe wo tx ch jo tr dy sd f]) := hD
        exact LP54_22 _ 0 lm lg ld ch dy sd f_4 (by decide) rf_4 (zLkC_0 i6 (by omega) (by decide)) (by first | omega | assumption | decide) H _ ls (Nat.lt_succ_self _)  hP hD hS (lv_sub hl [0, 1, 2, 3, 4] rfl)
      · skip
        have c36 : x_3.toInt < pe.toInt := zlti (Int32.not_le.mp cb9) rfl rfl
        have n37 : x_3.toInt ≤ 7 := zL1 (b := 8) c36 b_pe.2 (by decide)
        have n38 : 1 ≤ pe.toInt := zL2 (a := 0) c36 i5.1 (by decide)
        refine lv_iload_n hx hb dX0_lookAhead_26 rfl (lv_at hl 1 rfl) ?_
        refine lv_iload hx hb dX0_lookAhead_27 (lv_at hl 4 rfl) ?_
        refine lv_ishr hx hb dX0_lookAhead_29 ?_
        refine lv_iconst (v := 1) hx hb dX0_lookAhead_30 (by decide) ?_
        refine lv_iand hx hb dX0_lookAhead_31 ?_
        refine lv_if_eq (tgt := 45) hx hb dX0_lookAhead_32 (by decide) (fun cb9 => ?_) (fun cb9 => ?_)
        · skip
          have c39 : ((st0 >>> (x_3 &&& 31)) &&& 1).toInt = 0 := zeq cb9 rfl (by decide)
          have n40 : 0 ≤ ((st0 >>> (x_3 &&& 31)) &&& 1).toInt := Int.le_trans (Int.le_refl _) (Int.le_of_eq c39.symm)
          have n41 : ((st0 >>> (x_3 &&& 31)) &&& 1).toInt ≤ 0 := Int.le_trans (Int.le_of_eq c39) (Int.le_refl _)
          refine ziinc3 (n' := 1) (a' := 1) (b' := 8) (lv' := fun v9 => [(4, .int v9), (0, .ref fo), (1, .int st0), (2, .int by9), (3, .int n)]) hx hb dX0_lookAhead_45 hl (k := 4) rfl (by decide) (fun _ => rfl) (zaddK (i := x_3.toInt) (j := 1) rfl (by decide) i5.1 n37 (Int.le_refl _) (Int.le_refl _) (by decide)) (fun x_42 ls hx_42 hl => ?_)
          refine lv_goto (tgt := 14) hx hb dX0_lookAhead_48 (by decide) ?_
          have hl := lv_sub (l' := [(0, .ref fo), (1, .int st0), (2, .int by9), (3, .int n), (4, .int x_42)]) hl [1, 2, 3, 4, 0] rfl
          have hP : va_P g.1 vwCl (List.flatten [bFo g fo o lo od, bLaw g lo lc lz ll lm lg ld fc, bTown g od ad pe wo tx ch jo tr dy sd f_4, bTown g o a pe wo tx ch jo tr dy sd f]) H := hP
          have hD : va_D A (List.flatten [bFo g fo o lo od, bLaw g lo lc lz ll lm lg ld fc, bTown g od ad pe wo tx ch jo tr dy sd f_4, bTown g o a pe wo tx ch jo tr dy sd f]) := hD
          exact ih14_9 x_42 f_4 ⟨(Int.le_trans (by decide) hx_42.2.1), hx_42.2.2⟩ rf_4 (zRsC_n i6 hx_42.1 (by omega) c39) (by first | omega | assumption | decide) H _ ls (zmK hx_42.1 (by decide) n37 (by decide) hk14_9)  hP hD hS (lv_sub hl [0, 1, 2, 3, 4] rfl)
        · skip
          have c43 : ¬ ((st0 >>> (x_3 &&& 31)) &&& 1).toInt = 0 := zne cb9 rfl (by decide)
          refine lv_aload_n hx hb dX0_lookAhead_35 rfl (lv_at hl 0 rfl) ?_
          refine va_get (D := g.1) (ci := 0) (v := .ref od) (C := RX0) (T := TX0) (N := 3) hx hb hts izRX0 hown hK hP 0 rfl rfl 2 (by decide) (hts _ k25) (fun _ h9 => h9) rfl dX0_lookAhead_36 ?_
          refine lv_iload hx hb dX0_lookAhead_39 (lv_at hl 4 rfl) ?_
          refine lv_iload_n hx hb dX0_lookAhead_41 rfl (lv_at hl 2 rfl) ?_
          refine mcallV' (g := g) (q0 := 0) (ci := 7) (As := [.int x_3, .int by9]) (rest := []) St hK hT hA hP hD hS hl.1 [2] [0, 1, 3] rfl rfl rfl (c_raiseF l g od ad pe wo tx ch jo tr dy sd f_4 x_3 by9 rf_4 (⟨i5.1, n37⟩)) (cwV 2 hts (zgL (zl4 k159 k132 k133 k24) k47) rfl rfl rfl (by decide +kernel) ⟨Nat.le_of_ble_eq_true rfl, Nat.le_of_ble_eq_true rfl⟩) rfl rfl rfl rfl (Nat.le_of_ble_eq_true rfl) dX0_lookAhead_42 ⟨(Nat.le_of_ble_eq_true rfl), (Nat.le_of_ble_eq_true rfl)⟩ (fun f2_44 H locs hq45 hP hD hS => ?_)
          replace hq45 : (zZ4 f2_44) ∧ (f2_44 = zSet f_4 0 (x_3.toInt.toNat) (zCl (f_4 0 x_3.toInt.toNat + by9))) := hq45
          have hP : va_P g.1 vwCl (List.flatten [bFo g fo o lo od, bLaw g lo lc lz ll lm lg ld fc, bTown g o a pe wo tx ch jo tr dy sd f, bTown g od ad pe wo tx ch jo tr dy sd f2_44]) H := hP
          have hD : va_D A (List.flatten [bFo g fo o lo od, bLaw g lo lc lz ll lm lg ld fc, bTown g o a pe wo tx ch jo tr dy sd f, bTown g od ad pe wo tx ch jo tr dy sd f2_44]) := hD
          refine W.widen (k := 0) (n := 0) (Nat.le_of_ble_eq_true rfl) (Nat.le_of_ble_eq_true rfl) ?_
          refine W.eq (g2 := F0 m 45 ls []) rfl ?_
          obtain ⟨rf2_44, hq45_1⟩ := hq45
          refine ziinc3 (n' := 1) (a' := 1) (b' := 8) (lv' := fun v9 => [(4, .int v9), (0, .ref fo), (1, .int st0), (2, .int by9), (3, .int n)]) hx hb dX0_lookAhead_45 hl (k := 4) rfl (by decide) (fun _ => rfl) (zaddK (i := x_3.toInt) (j := 1) rfl (by decide) i5.1 n37 (Int.le_refl _) (Int.le_refl _) (by decide)) (fun x_46 ls hx_46 hl => ?_)
          refine lv_goto (tgt := 14) hx hb dX0_lookAhead_48 (by decide) ?_
          have hl := lv_sub (l' := [(0, .ref fo), (1, .int st0), (2, .int by9), (3, .int n), (4, .int x_46)]) hl [1, 2, 3, 4, 0] rfl
          have hP : va_P g.1 vwCl (List.flatten [bFo g fo o lo od, bLaw g lo lc lz ll lm lg ld fc, bTown g o a pe wo tx ch jo tr dy sd f, bTown g od ad pe wo tx ch jo tr dy sd f2_44]) H := hP
          have hD : va_D A (List.flatten [bFo g fo o lo od, bLaw g lo lc lz ll lm lg ld fc, bTown g o a pe wo tx ch jo tr dy sd f, bTown g od ad pe wo tx ch jo tr dy sd f2_44]) := hD
          obtain ⟨hP, hD⟩ := zord (g := g) (Bs' := [bFo g fo o lo od, bLaw g lo lc lz ll lm lg ld fc, bTown g od ad pe wo tx ch jo tr dy sd f2_44, bTown g o a pe wo tx ch jo tr dy sd f]) [0, 1, 3, 2] rfl rfl hP hD
          have hP : va_P g.1 vwCl (List.flatten [bFo g fo o lo od, bLaw g lo lc lz ll lm lg ld fc, bTown g od ad pe wo tx ch jo tr dy sd f2_44, bTown g o a pe wo tx ch jo tr dy sd f]) H := hP
          have hD : va_D A (List.flatten [bFo g fo o lo od, bLaw g lo lc lz ll lm lg ld fc, bTown g od ad pe wo tx ch jo tr dy sd f2_44, bTown g o a pe wo tx ch jo tr dy sd f]) := hD
          exact ih14_9 x_46 f2_44 ⟨(Int.le_trans (by decide) hx_46.2.1), hx_46.2.2⟩ rf2_44 (zRsC_y i6 hx_46.1 (by omega) c43 hq45_1) (by first | omega | assumption | decide) H _ ls (zmK hx_46.1 (by decide) n37 (by decide) hk14_9)  hP hD hS (lv_sub hl [0, 1, 2, 3, 4] rfl)
  have hL0 : (0 : Int32).toInt = 0 := by decide
  have hP : va_P g.1 vwCl (List.flatten [bFo g fo o lo od, bLaw g lo lc lz ll lm lg ld fc, bTown g od ad pe wo tx ch jo tr dy sd h_1, bTown g o a pe wo tx ch jo tr dy sd f]) H := hP
  have hD : va_D A (List.flatten [bFo g fo o lo od, bLaw g lo lc lz ll lm lg ld fc, bTown g od ad pe wo tx ch jo tr dy sd h_1, bTown g o a pe wo tx ch jo tr dy sd f]) := hD
  exact LP14_8 _ 0 h_1 (by decide) rh_1 (zRsC_0 hq2_1 (by decide)) (by first | omega | assumption | decide) H _ ls (Nat.lt_succ_self _)  hP hD hS (lv_sub hl [0, 1, 2, 3, 4] rfl)
set_option maxRecDepth 100000 in
set_option maxHeartbeats 4000000 in
theorem c_f_tryOutC (l : Launch) (g : zG) (fo : Nat) (o : Nat) (lo : Nat) (od : Nat) (a : Nat → Nat) (pe : Int32) (wo : Int32) (tx : Int32) (ch : Int32) (jo : Int32) (tr : Int32) (dy : Int32) (sd : Int32) (f : Nat → Nat → Int32) (lc : Nat) (lz : Int32) (ll : Int32) (lm : Int32) (lg : Int32) (ld : Int32) (fc : Nat → Int32) (ad : Nat → Nat) (ped : Int32) (wod : Int32) (txd : Int32) (chd : Int32) (jod : Int32) (trd : Int32) (dyd : Int32) (sdd : Int32) (fd : Nat → Nat → Int32) (se : Int32) (n : Int32) (b_pe : 0 ≤ pe.toInt ∧ pe.toInt ≤ 8) (b_wo : 0 ≤ wo.toInt ∧ wo.toInt ≤ 6) (rf : zZ4 f) (b_lz : 0 ≤ lz.toInt ∧ lz.toInt ≤ 400) (b_ped : 0 ≤ ped.toInt ∧ ped.toInt ≤ 8) (b_wod : 0 ≤ wod.toInt ∧ wod.toInt ≤ 6) (rfd : zZ4 fd) (b_n : 0 ≤ n.toInt ∧ n.toInt ≤ 100) : zM' g l yX0_tryOut (Cond.code yX0_tryOut cX0_tryOut 4 (some .int) :: zB) ({ frames := 6, cells := 0, slots := 0, locals := 128 } : Room) [.ref fo, .int se, .int n] [bFo g fo o lo od, bTown g o a pe wo tx ch jo tr dy sd f, bLaw g lo lc lz ll lm lg ld fc, bTown g od ad ped wod txd chd jod trd dyd sdd fd] (fun u : Int32 × Int32 × Int32 × Int32 × Int32 × Int32 × Int32 × Int32 × Int32 × Int32 × Int32 × (Nat → Nat → Int32) × Int32 => (fun (lm2 : Int32) (lg2 : Int32) (ld2 : Int32) (pe3 : Int32) (wo3 : Int32) (tx3 : Int32) (ch3 : Int32) (jo3 : Int32) (tr3 : Int32) (dy3 : Int32) (sd3 : Int32) (f3 : Nat → Nat → Int32) (q : Int32) => some (.int q)) (u.1) (u.2.1) (u.2.2.1) (u.2.2.2.1) (u.2.2.2.2.1) (u.2.2.2.2.2.1) (u.2.2.2.2.2.2.1) (u.2.2.2.2.2.2.2.1) (u.2.2.2.2.2.2.2.2.1) (u.2.2.2.2.2.2.2.2.2.1) (u.2.2.2.2.2.2.2.2.2.2.1) (u.2.2.2.2.2.2.2.2.2.2.2.1) (u.2.2.2.2.2.2.2.2.2.2.2.2)) (fun u : Int32 × Int32 × Int32 × Int32 × Int32 × Int32 × Int32 × Int32 × Int32 × Int32 × Int32 × (Nat → Nat → Int32) × Int32 => (fun (lm2 : Int32) (lg2 : Int32) (ld2 : Int32) (pe3 : Int32) (wo3 : Int32) (tx3 : Int32) (ch3 : Int32) (jo3 : Int32) (tr3 : Int32) (dy3 : Int32) (sd3 : Int32) (f3 : Nat → Nat → Int32) (q : Int32) => (0 ≤ pe3.toInt ∧ pe3.toInt ≤ 8) ∧ (0 ≤ wo3.toInt ∧ wo3.toInt ≤ 6) ∧ (zZ4 f3) ∧ (zR9 (pe3, wo3, tx3, ch3, jo3, tr3, dy3, sd3, f3) (zGo (zLwR fc lz ll) 1 n.toInt.toNat (pe, wo, tx, ch, jo, tr, dy, se, f))) ∧ (q = zBl9 (pe3, wo3, tx3, ch3, jo3, tr3, dy3, sd3, f3))) (u.1) (u.2.1) (u.2.2.1) (u.2.2.2.1) (u.2.2.2.2.1) (u.2.2.2.2.2.1) (u.2.2.2.2.2.2.1) (u.2.2.2.2.2.2.2.1) (u.2.2.2.2.2.2.2.2.1) (u.2.2.2.2.2.2.2.2.2.1) (u.2.2.2.2.2.2.2.2.2.2.1) (u.2.2.2.2.2.2.2.2.2.2.2.1) (u.2.2.2.2.2.2.2.2.2.2.2.2)) (fun u : Int32 × Int32 × Int32 × Int32 × Int32 × Int32 × Int32 × Int32 × Int32 × Int32 × Int32 × (Nat → Nat → Int32) × Int32 => (fun (lm2 : Int32) (lg2 : Int32) (ld2 : Int32) (pe3 : Int32) (wo3 : Int32) (tx3 : Int32) (ch3 : Int32) (jo3 : Int32) (tr3 : Int32) (dy3 : Int32) (sd3 : Int32) (f3 : Nat → Nat → Int32) (q : Int32) => [bFo g fo o lo od, bTown g o a pe wo tx ch jo tr dy sd f, bLaw g lo lc lz ll lm2 lg2 ld2 fc, bTown g od ad pe3 wo3 tx3 ch3 jo3 tr3 dy3 sd3 f3]) (u.1) (u.2.1) (u.2.2.1) (u.2.2.2.1) (u.2.2.2.2.1) (u.2.2.2.2.2.1) (u.2.2.2.2.2.2.1) (u.2.2.2.2.2.2.2.1) (u.2.2.2.2.2.2.2.2.1) (u.2.2.2.2.2.2.2.2.2.1) (u.2.2.2.2.2.2.2.2.2.2.1) (u.2.2.2.2.2.2.2.2.2.2.2.1) (u.2.2.2.2.2.2.2.2.2.2.2.2)) := by
  refine zM'.of (cc := cX0_tryOut) (maxL := 4) (rt := (some .int)) (by decide) rfl (Nat.le_of_ble_eq_true rfl) ?_
  intro p e s m args below meth c A ls St hr hlocks hin hK hT hA hP hD hS hl
  obtain ⟨hx, hb, hml, hown, hts⟩ := id St
  have hl : lv_has ls 4 [(0, .ref fo), (1, .int se), (2, .int n)] := hl
  refine lv_aload_n hx hb dX0_tryOut_0 rfl (lv_at hl 0 rfl) ?_
  refine va_get (D := g.1) (ci := 0) (v := .ref od) (C := RX0) (T := TX0) (N := 3) hx hb hts izRX0 hown hK hP 0 rfl rfl 2 (by decide) (hts _ k25) (fun _ h9 => h9) rfl dX0_tryOut_1 ?_
  refine lv_aload_n hx hb dX0_tryOut_4 rfl (lv_at hl 0 rfl) ?_
  refine va_get (D := g.1) (ci := 0) (v := .ref o) (C := RX0) (T := TX0) (N := 3) hx hb hts izRX0 hown hK hP 0 rfl rfl 0 (by decide) (hts _ k26) (fun _ h9 => h9) rfl dX0_tryOut_5 ?_
  refine mcallV' (g := g) (q0 := 0) (ci := 7) (As := [.ref o]) (rest := []) St hK hT hA hP hD hS hl.1 [3, 1] [0, 2] rfl rfl rfl (c_copyFromC l g od ad ped wod txd chd jod trd dyd sdd fd o a pe wo tx ch jo tr dy sd f b_pe b_wo rf) (cwV 1 hts (zgL (zl4 k156 k157 k158 k24) k30) rfl rfl rfl (by decide +kernel) ⟨Nat.le_of_ble_eq_true rfl, Nat.le_of_ble_eq_true rfl⟩) rfl rfl rfl rfl (Nat.le_of_ble_eq_true rfl) dX0_tryOut_8 ⟨(Nat.le_of_ble_eq_true rfl), (Nat.le_of_ble_eq_true rfl)⟩ (fun h_1 H locs hq2 hP hD hS => ?_)
  replace hq2 : (zZ4 h_1) ∧ (zEq h_1 f) := hq2
  have hP : va_P g.1 vwCl (List.flatten [bFo g fo o lo od, bLaw g lo lc lz ll lm lg ld fc, bTown g od ad pe wo tx ch jo tr dy sd h_1, bTown g o a pe wo tx ch jo tr dy sd f]) H := hP
  have hD : va_D A (List.flatten [bFo g fo o lo od, bLaw g lo lc lz ll lm lg ld fc, bTown g od ad pe wo tx ch jo tr dy sd h_1, bTown g o a pe wo tx ch jo tr dy sd f]) := hD
  refine W.widen (k := 0) (n := 0) (Nat.le_of_ble_eq_true rfl) (Nat.le_of_ble_eq_true rfl) ?_
  refine W.eq (g2 := F0 m 11 ls []) rfl ?_
  obtain ⟨rh_1, hq2_1⟩ := hq2
  refine lv_aload_n hx hb dX0_tryOut_11 rfl (lv_at hl 0 rfl) ?_
  refine va_get (D := g.1) (ci := 0) (v := .ref od) (C := RX0) (T := TX0) (N := 3) hx hb hts izRX0 hown hK hP 0 rfl rfl 2 (by decide) (hts _ k25) (fun _ h9 => h9) rfl dX0_tryOut_12 ?_
  refine lv_iload_n hx hb dX0_tryOut_15 rfl (lv_at hl 1 rfl) ?_
  refine va_put (D := g.1) (ci := 7) (v := .int se) (ty := .int) (C := RX9) (T := TX9) (N := 19) hx hb hts izRX9 tyX9 tyX9_ok nmX9 hown hK hP hD hS 3 rfl rfl 7 (by decide) (hts _ k191) (fun _ h9 => h9) rfl (by decide +kernel) rfl rfl (Nat.le_of_ble_eq_true rfl) dX0_tryOut_16 (fun H locs hP hD hS => ?_)
  have hP : va_P g.1 vwCl (List.flatten [bFo g fo o lo od, bLaw g lo lc lz ll lm lg ld fc, bTown g od ad pe wo tx ch jo tr dy se h_1, bTown g o a pe wo tx ch jo tr dy sd f]) H := hP
  have hD : va_D A (List.flatten [bFo g fo o lo od, bLaw g lo lc lz ll lm lg ld fc, bTown g od ad pe wo tx ch jo tr dy se h_1, bTown g o a pe wo tx ch jo tr dy sd f]) := hD
  refine lv_iconst (v := 0) hx hb dX0_tryOut_19 (by decide) ?_
  refine lv_istore_n (lv' := [(3, .int 0), (0, .ref fo), (1, .int se), (2, .int n)]) hx hb dX0_tryOut_20 rfl hl (by decide) rfl (fun ls hl => ?_)
  have hl := lv_sub (l' := [(0, .ref fo), (1, .int se), (2, .int n), (3, .int 0)]) hl [1, 2, 3, 0] rfl
  have LP21_14 : ∀ (kf : Nat) (x_3 : Int32) (x_4 : Int32) (x_5 : Int32) (x_6 : Int32) (x_7 : Int32) (x_8 : Int32) (x_9 : Int32) (f_10 : Nat → Nat → Int32), (0 ≤ x_3.toInt ∧ x_3.toInt ≤ 100) → (zZ4 f_10) → (zR9 (pe, wo, tx, x_7, jo, tr, x_8, x_9, f_10) (zGo (zLwR fc lz ll) 1 x_3.toInt.toNat (pe, wo, tx, ch, jo, tr, dy, se, f))) → (x_3.toInt ≤ n.toInt) → ∀ (H : Heap) (locs : List Loc) (ls : Array Slot), ((101 - x_3.toInt).toNat) < kf → va_P g.1 vwCl (List.flatten [bFo g fo o lo od, bLaw g lo lc lz ll x_4 x_5 x_6 fc, bTown g od ad pe wo tx x_7 jo tr x_8 x_9 f_10, bTown g o a pe wo tx ch jo tr dy sd f]) H → va_D A (List.flatten [bFo g fo o lo od, bLaw g lo lc lz ll x_4 x_5 x_6 fc, bTown g od ad pe wo tx x_7 jo tr x_8 x_9 f_10, bTown g o a pe wo tx ch jo tr dy sd f]) → va_S A s.heap H locs → lv_has ls 4 [(0, .ref fo), (1, .int se), (2, .int n), (3, .int x_3)] → W p l e ({ frames := 6, cells := 0, slots := 0, locals := 128 } : Room) s m args below meth c H locs (0) (0) (zF g (fun u : Int32 × Int32 × Int32 × Int32 × Int32 × Int32 × Int32 × Int32 × Int32 × Int32 × Int32 × (Nat → Nat → Int32) × Int32 => (fun (lm2 : Int32) (lg2 : Int32) (ld2 : Int32) (pe3 : Int32) (wo3 : Int32) (tx3 : Int32) (ch3 : Int32) (jo3 : Int32) (tr3 : Int32) (dy3 : Int32) (sd3 : Int32) (f3 : Nat → Nat → Int32) (q : Int32) => some (.int q)) (u.1) (u.2.1) (u.2.2.1) (u.2.2.2.1) (u.2.2.2.2.1) (u.2.2.2.2.2.1) (u.2.2.2.2.2.2.1) (u.2.2.2.2.2.2.2.1) (u.2.2.2.2.2.2.2.2.1) (u.2.2.2.2.2.2.2.2.2.1) (u.2.2.2.2.2.2.2.2.2.2.1) (u.2.2.2.2.2.2.2.2.2.2.2.1) (u.2.2.2.2.2.2.2.2.2.2.2.2)) (fun u : Int32 × Int32 × Int32 × Int32 × Int32 × Int32 × Int32 × Int32 × Int32 × Int32 × Int32 × (Nat → Nat → Int32) × Int32 => (fun (lm2 : Int32) (lg2 : Int32) (ld2 : Int32) (pe3 : Int32) (wo3 : Int32) (tx3 : Int32) (ch3 : Int32) (jo3 : Int32) (tr3 : Int32) (dy3 : Int32) (sd3 : Int32) (f3 : Nat → Nat → Int32) (q : Int32) => (0 ≤ pe3.toInt ∧ pe3.toInt ≤ 8) ∧ (0 ≤ wo3.toInt ∧ wo3.toInt ≤ 6) ∧ (zZ4 f3) ∧ (zR9 (pe3, wo3, tx3, ch3, jo3, tr3, dy3, sd3, f3) (zGo (zLwR fc lz ll) 1 n.toInt.toNat (pe, wo, tx, ch, jo, tr, dy, se, f))) ∧ (q = zBl9 (pe3, wo3, tx3, ch3, jo3, tr3, dy3, sd3, f3))) (u.1) (u.2.1) (u.2.2.1) (u.2.2.2.1) (u.2.2.2.2.1) (u.2.2.2.2.2.1) (u.2.2.2.2.2.2.1) (u.2.2.2.2.2.2.2.1) (u.2.2.2.2.2.2.2.2.1) (u.2.2.2.2.2.2.2.2.2.1) (u.2.2.2.2.2.2.2.2.2.2.1) (u.2.2.2.2.2.2.2.2.2.2.2.1) (u.2.2.2.2.2.2.2.2.2.2.2.2)) (fun u : Int32 × Int32 × Int32 × Int32 × Int32 × Int32 × Int32 × Int32 × Int32 × Int32 × Int32 × (Nat → Nat → Int32) × Int32 => (fun (lm2 : Int32) (lg2 : Int32) (ld2 : Int32) (pe3 : Int32) (wo3 : Int32) (tx3 : Int32) (ch3 : Int32) (jo3 : Int32) (tr3 : Int32) (dy3 : Int32) (sd3 : Int32) (f3 : Nat → Nat → Int32) (q : Int32) => [bFo g fo o lo od, bTown g o a pe wo tx ch jo tr dy sd f, bLaw g lo lc lz ll lm2 lg2 ld2 fc, bTown g od ad pe3 wo3 tx3 ch3 jo3 tr3 dy3 sd3 f3]) (u.1) (u.2.1) (u.2.2.1) (u.2.2.2.1) (u.2.2.2.2.1) (u.2.2.2.2.2.1) (u.2.2.2.2.2.2.1) (u.2.2.2.2.2.2.2.1) (u.2.2.2.2.2.2.2.2.1) (u.2.2.2.2.2.2.2.2.2.1) (u.2.2.2.2.2.2.2.2.2.2.1) (u.2.2.2.2.2.2.2.2.2.2.2.1) (u.2.2.2.2.2.2.2.2.2.2.2.2)) ({ frames := 6, cells := 0, slots := 0, locals := 128 } : Room) below args s A) (F0 m 21 ls []) := by
    intro kf
    induction kf with
    | zero => intro x_3 x_4 x_5 x_6 x_7 x_8 x_9 f_10 i11 rf_10 i12 i13 H locs ls hk; exact absurd hk (Nat.not_lt_zero _)
    | succ kf ih21_15 =>
      intro x_3 x_4 x_5 x_6 x_7 x_8 x_9 f_10 i11 rf_10 i12 i13 H locs ls hk21_15 hP hD hS hl
      refine lv_iload_n hx hb dX0_tryOut_21 rfl (lv_at hl 3 rfl) ?_
      refine lv_iload_n hx hb dX0_tryOut_22 rfl (lv_at hl 2 rfl) ?_
      refine lv_icmp_ge (tgt := 46) hx hb dX0_tryOut_23 (by decide) (fun cb9 => ?_) (fun cb9 => ?_)
      · skip
        have c16 : n.toInt ≤ x_3.toInt := zle cb9 rfl rfl
        refine lv_aload_n hx hb dX0_tryOut_46 rfl (lv_at hl 0 rfl) ?_
        refine va_get (D := g.1) (ci := 0) (v := .ref od) (C := RX0) (T := TX0) (N := 3) hx hb hts izRX0 hown hK hP 0 rfl rfl 2 (by decide) (hts _ k25) (fun _ h9 => h9) rfl dX0_tryOut_47 ?_
        refine mcallV' (g := g) (q0 := 0) (ci := 7) (As := []) (rest := []) St hK hT hA hP hD hS hl.1 [2] [0, 1, 3] rfl rfl rfl (c_believedF l g od ad pe wo tx x_7 jo tr x_8 x_9 f_10 b_pe b_wo rf_10) (cwV 0 hts (zgL (zl4 k163 k69 k70 k24) k60) rfl rfl rfl (by decide +kernel) ⟨Nat.le_of_ble_eq_true rfl, Nat.le_of_ble_eq_true rfl⟩) rfl rfl rfl rfl (Nat.le_of_ble_eq_true rfl) dX0_tryOut_50 ⟨(Nat.le_of_ble_eq_true rfl), (Nat.le_of_ble_eq_true rfl)⟩ (fun _u H locs hq17 hP hD hS => ?_)
        have hP : va_P g.1 vwCl (List.flatten [bFo g fo o lo od, bLaw g lo lc lz ll x_4 x_5 x_6 fc, bTown g o a pe wo tx ch jo tr dy sd f, bTown g od ad pe wo tx x_7 jo tr x_8 x_9 f_10]) H := hP
        have hD : va_D A (List.flatten [bFo g fo o lo od, bLaw g lo lc lz ll x_4 x_5 x_6 fc, bTown g o a pe wo tx ch jo tr dy sd f, bTown g od ad pe wo tx x_7 jo tr x_8 x_9 f_10]) := hD
        refine W.widen (k := 0) (n := 0) (Nat.le_of_ble_eq_true rfl) (Nat.le_of_ble_eq_true rfl) ?_
        refine W.eq (g2 := F0 m 53 ls [.int (zBel f_10 pe.toInt.toNat)]) rfl ?_
        have hP : va_P g.1 vwCl (List.flatten [bFo g fo o lo od, bLaw g lo lc lz ll x_4 x_5 x_6 fc, bTown g o a pe wo tx ch jo tr dy sd f, bTown g od ad pe wo tx x_7 jo tr x_8 x_9 f_10]) H := hP
        have hD : va_D A (List.flatten [bFo g fo o lo od, bLaw g lo lc lz ll x_4 x_5 x_6 fc, bTown g o a pe wo tx ch jo tr dy sd f, bTown g od ad pe wo tx x_7 jo tr x_8 x_9 f_10]) := hD
        obtain ⟨hP, hD⟩ := zord (g := g) (Bs' := [bFo g fo o lo od, bTown g o a pe wo tx ch jo tr dy sd f, bLaw g lo lc lz ll x_4 x_5 x_6 fc, bTown g od ad pe wo tx x_7 jo tr x_8 x_9 f_10]) [0, 2, 1, 3] rfl rfl hP hD
        exact mret_i hx hb hr hlocks hS (Nat.le_of_ble_eq_true rfl) (Nat.le_of_ble_eq_true rfl) dX0_tryOut_53 (x_4, x_5, x_6, pe, wo, tx, x_7, jo, tr, x_8, x_9, f_10, zBel f_10 pe.toInt.toNat) rfl (show (0 ≤ pe.toInt ∧ pe.toInt ≤ 8) ∧ (0 ≤ wo.toInt ∧ wo.toInt ≤ 6) ∧ (zZ4 f_10) ∧ (zR9 (pe, wo, tx, x_7, jo, tr, x_8, x_9, f_10) (zGo (zLwR fc lz ll) 1 n.toInt.toNat (pe, wo, tx, ch, jo, tr, dy, se, f))) ∧ ((zBel f_10 pe.toInt.toNat) = zBl9 (pe, wo, tx, x_7, jo, tr, x_8, x_9, f_10)) from ⟨(by first | assumption | omega | decide), (by first | assumption | omega | decide), (by first | assumption | omega | decide), (zGoC_x i12 (by omega)), rfl⟩) hP hD
      · skip
        have c18 : x_3.toInt < n.toInt := zlti (Int32.not_le.mp cb9) rfl rfl
        have n19 : x_3.toInt ≤ 99 := zL1 (b := 100) c18 b_n.2 (by decide)
        have n20 : 1 ≤ n.toInt := zL2 (a := 0) c18 i11.1 (by decide)
        refine lv_aload_n hx hb dX0_tryOut_26 rfl (lv_at hl 0 rfl) ?_
        refine va_get (D := g.1) (ci := 0) (v := .ref od) (C := RX0) (T := TX0) (N := 3) hx hb hts izRX0 hown hK hP 0 rfl rfl 2 (by decide) (hts _ k25) (fun _ h9 => h9) rfl dX0_tryOut_27 ?_
        refine lv_aload_n hx hb dX0_tryOut_30 rfl (lv_at hl 0 rfl) ?_
        refine va_get (D := g.1) (ci := 0) (v := .ref lo) (C := RX0) (T := TX0) (N := 3) hx hb hts izRX0 hown hK hP 0 rfl rfl 1 (by decide) (hts _ k27) (fun _ h9 => h9) rfl dX0_tryOut_31 ?_
        refine lv_iconst (v := 1) hx hb dX0_tryOut_34 (by decide) ?_
        refine lv_null hx hb dX0_tryOut_35 ?_
        refine mcallV' (g := g) (q0 := 0) (ci := 7) (As := [.ref lo, .int 1, .null]) (rest := []) St hK hT hA hP hD hS hl.1 [2, 1] [0, 3] rfl rfl rfl (c_passDayNF l g od ad pe wo tx x_7 jo tr x_8 x_9 f_10 lo lc lz ll x_4 x_5 x_6 fc 1 b_pe b_wo rf_10 b_lz) (cwV 3 hts (zgL (zl4 k160 k161 k162 k24) k154) rfl rfl rfl (by decide +kernel) ⟨Nat.le_of_ble_eq_true rfl, Nat.le_of_ble_eq_true rfl⟩) rfl rfl rfl rfl (Nat.le_of_ble_eq_true rfl) dX0_tryOut_36 ⟨(Nat.le_of_ble_eq_true rfl), (Nat.le_of_ble_eq_true rfl)⟩ (fun u_ H locs hq26 hP hD hS => ?_)
        obtain ⟨ch2_21, dy2_22, sd2_23, f2_24, q_25⟩ := u_
        replace hq26 : (zZ4 f2_24) ∧ (zDR (ch2_21, dy2_22, sd2_23, f2_24) (zDay (zLwR fc lz ll) pe.toInt.toNat wo.toInt.toNat tr 1 (x_7, x_8, x_9, f_10)) ∧ q_25 = (zDk (zLwR fc lz ll) pe.toInt.toNat wo.toInt.toNat (x_7, x_8, x_9, f_10)).2.2) := hq26
        have hP : va_P g.1 vwCl (List.flatten [bFo g fo o lo od, bTown g o a pe wo tx ch jo tr dy sd f, bTown g od ad pe wo tx ch2_21 jo tr dy2_22 sd2_23 f2_24, bLaw g lo lc lz ll (zMean f_10 pe.toInt.toNat) (zPop (zWks f_10 wo.toInt.toNat 1)) x_8 fc]) H := hP
        have hD : va_D A (List.flatten [bFo g fo o lo od, bTown g o a pe wo tx ch jo tr dy sd f, bTown g od ad pe wo tx ch2_21 jo tr dy2_22 sd2_23 f2_24, bLaw g lo lc lz ll (zMean f_10 pe.toInt.toNat) (zPop (zWks f_10 wo.toInt.toNat 1)) x_8 fc]) := hD
        refine W.widen (k := 0) (n := 0) (Nat.le_of_ble_eq_true rfl) (Nat.le_of_ble_eq_true rfl) ?_
        refine W.eq (g2 := F0 m 39 ls [.int q_25]) rfl ?_
        obtain ⟨rf2_24, hq26_1⟩ := hq26
        refine lv_pop hx hb dX0_tryOut_39 rfl ?_
        refine ziinc3 (n' := 1) (a' := 1) (b' := 100) (lv' := fun v9 => [(3, .int v9), (0, .ref fo), (1, .int se), (2, .int n)]) hx hb dX0_tryOut_40 hl (k := 3) rfl (by decide) (fun _ => rfl) (zaddK (i := x_3.toInt) (j := 1) rfl (by decide) i11.1 n19 (Int.le_refl _) (Int.le_refl _) (by decide)) (fun x_27 ls hx_27 hl => ?_)
        refine lv_goto (tgt := 21) hx hb dX0_tryOut_43 (by decide) ?_
        have hl := lv_sub (l' := [(0, .ref fo), (1, .int se), (2, .int n), (3, .int x_27)]) hl [1, 2, 3, 0] rfl
        have hP : va_P g.1 vwCl (List.flatten [bFo g fo o lo od, bTown g o a pe wo tx ch jo tr dy sd f, bTown g od ad pe wo tx ch2_21 jo tr dy2_22 sd2_23 f2_24, bLaw g lo lc lz ll (zMean f_10 pe.toInt.toNat) (zPop (zWks f_10 wo.toInt.toNat 1)) x_8 fc]) H := hP
        have hD : va_D A (List.flatten [bFo g fo o lo od, bTown g o a pe wo tx ch jo tr dy sd f, bTown g od ad pe wo tx ch2_21 jo tr dy2_22 sd2_23 f2_24, bLaw g lo lc lz ll (zMean f_10 pe.toInt.toNat) (zPop (zWks f_10 wo.toInt.toNat 1)) x_8 fc]) := hD
        obtain ⟨hP, hD⟩ := zord (g := g) (Bs' := [bFo g fo o lo od, bLaw g lo lc lz ll (zMean f_10 pe.toInt.toNat) (zPop (zWks f_10 wo.toInt.toNat 1)) x_8 fc, bTown g od ad pe wo tx ch2_21 jo tr dy2_22 sd2_23 f2_24, bTown g o a pe wo tx ch jo tr dy sd f]) [0, 3, 2, 1] rfl rfl hP hD
        have hP : va_P g.1 vwCl (List.flatten [bFo g fo o lo od, bLaw g lo lc lz ll (zMean f_10 pe.toInt.toNat) (zPop (zWks f_10 wo.toInt.toNat 1)) x_8 fc, bTown g od ad pe wo tx ch2_21 jo tr dy2_22 sd2_23 f2_24, bTown g o a pe wo tx ch jo tr dy sd f]) H := hP
        have hD : va_D A (List.flatten [bFo g fo o lo od, bLaw g lo lc lz ll (zMean f_10 pe.toInt.toNat) (zPop (zWks f_10 wo.toInt.toNat 1)) x_8 fc, bTown g od ad pe wo tx ch2_21 jo tr dy2_22 sd2_23 f2_24, bTown g o a pe wo tx ch jo tr dy sd f]) := hD
        exact ih21_15 x_27 (zMean f_10 pe.toInt.toNat) (zPop (zWks f_10 wo.toInt.toNat 1)) x_8 ch2_21 dy2_22 sd2_23 f2_24 ⟨(Int.le_trans (by decide) hx_27.2.1), hx_27.2.2⟩ rf2_24 (zGo_d i12 (by omega) (by omega) hq26_1.1 (by omega)) (by first | omega | assumption | decide) H _ ls (zmK hx_27.1 (by decide) n19 (by decide) hk21_15)  hP hD hS (lv_sub hl [0, 1, 2, 3] rfl)
  have hL0 : (0 : Int32).toInt = 0 := by decide
  have hP : va_P g.1 vwCl (List.flatten [bFo g fo o lo od, bLaw g lo lc lz ll lm lg ld fc, bTown g od ad pe wo tx ch jo tr dy se h_1, bTown g o a pe wo tx ch jo tr dy sd f]) H := hP
  have hD : va_D A (List.flatten [bFo g fo o lo od, bLaw g lo lc lz ll lm lg ld fc, bTown g od ad pe wo tx ch jo tr dy se h_1, bTown g o a pe wo tx ch jo tr dy sd f]) := hD
  exact LP21_14 _ 0 lm lg ld ch dy se h_1 (by decide) rh_1 (zGoC_0 hq2_1 (by decide)) (by first | omega | assumption | decide) H _ ls (Nat.lt_succ_self _)  hP hD hS (lv_sub hl [0, 1, 2, 3] rfl)
set_option maxRecDepth 100000 in
set_option maxHeartbeats 4000000 in
theorem c_x_aheadC (l : Launch) (hfl : l.stackTraces = false) (g : zG) (x : Nat) (ta : Nat) (o : Nat) (lo : Nat) (go : Nat) (tt : Nat) (lt : Nat) (mo : Nat) (fo : Nat) (ro : Nat) (fl9 : Int32) (a : Nat → Nat) (pe : Int32) (wo : Int32) (tx : Int32) (ch : Int32) (jo : Int32) (tr : Int32) (dy : Int32) (sd : Int32) (f : Nat → Nat → Int32) (lc : Nat) (lz : Int32) (ll : Int32) (lm : Int32) (lg : Int32) (ld : Int32) (fc : Nat → Int32) (oD : Nat) (aD : Nat → Nat) (peD : Int32) (woD : Int32) (txD : Int32) (chD : Int32) (joD : Int32) (trD : Int32) (dyD : Int32) (sdD : Int32) (fD : Nat → Nat → Int32) (pp : Int32) (n : Int32) (b_pe : 0 ≤ pe.toInt ∧ pe.toInt ≤ 8) (b_wo : 0 ≤ wo.toInt ∧ wo.toInt ≤ 6) (rf : zZ4 f) (b_lz : 0 ≤ lz.toInt ∧ lz.toInt ≤ 400) (b_peD : 0 ≤ peD.toInt ∧ peD.toInt ≤ 8) (b_woD : 0 ≤ woD.toInt ∧ woD.toInt ≤ 6) (rfD : zZ4 fD) : zX' g l yX11_ahead (Cond.code yX11_ahead cX11_ahead 3 (some .int) :: zB) ({ frames := 7, cells := 2, slots := 12, locals := 152 } : Room) [.ref x, .int pp, .int n] [bDR g x ta o lo go tt lt mo fo ro fl9, bFo g fo o lo oD, bTown g o a pe wo tx ch jo tr dy sd f, bLaw g lo lc lz ll lm lg ld fc, bTown g oD aD peD woD txD chD joD trD dyD sdD fD] (fun u : Int32 × Int32 × Int32 × Int32 × Int32 × Int32 × Int32 × Int32 × Int32 × Int32 × Int32 × (Nat → Nat → Int32) × Int32 => (fun (lm2 : Int32) (lg2 : Int32) (ld2 : Int32) (peD2 : Int32) (woD2 : Int32) (txD2 : Int32) (chD2 : Int32) (joD2 : Int32) (trD2 : Int32) (dyD2 : Int32) (sdD2 : Int32) (fD2 : Nat → Nat → Int32) (q : Int32) => some (.int q)) (u.1) (u.2.1) (u.2.2.1) (u.2.2.2.1) (u.2.2.2.2.1) (u.2.2.2.2.2.1) (u.2.2.2.2.2.2.1) (u.2.2.2.2.2.2.2.1) (u.2.2.2.2.2.2.2.2.1) (u.2.2.2.2.2.2.2.2.2.1) (u.2.2.2.2.2.2.2.2.2.2.1) (u.2.2.2.2.2.2.2.2.2.2.2.1) (u.2.2.2.2.2.2.2.2.2.2.2.2)) (fun u : Int32 × Int32 × Int32 × Int32 × Int32 × Int32 × Int32 × Int32 × Int32 × Int32 × Int32 × (Nat → Nat → Int32) × Int32 => (fun (lm2 : Int32) (lg2 : Int32) (ld2 : Int32) (peD2 : Int32) (woD2 : Int32) (txD2 : Int32) (chD2 : Int32) (joD2 : Int32) (trD2 : Int32) (dyD2 : Int32) (sdD2 : Int32) (fD2 : Nat → Nat → Int32) (q : Int32) => (0 ≤ peD2.toInt ∧ peD2.toInt ≤ 8) ∧ (0 ≤ woD2.toInt ∧ woD2.toInt ≤ 6) ∧ (zZ4 fD2) ∧ ((0, q) = zdAhead (zLwR fc lz ll) pp n (pe, wo, tx, ch, jo, tr, dy, sd, f))) (u.1) (u.2.1) (u.2.2.1) (u.2.2.2.1) (u.2.2.2.2.1) (u.2.2.2.2.2.1) (u.2.2.2.2.2.2.1) (u.2.2.2.2.2.2.2.1) (u.2.2.2.2.2.2.2.2.1) (u.2.2.2.2.2.2.2.2.2.1) (u.2.2.2.2.2.2.2.2.2.2.1) (u.2.2.2.2.2.2.2.2.2.2.2.1) (u.2.2.2.2.2.2.2.2.2.2.2.2)) (fun u : Int32 × Int32 × Int32 × Int32 × Int32 × Int32 × Int32 × Int32 × Int32 × Int32 × Int32 × (Nat → Nat → Int32) × Int32 => (fun (lm2 : Int32) (lg2 : Int32) (ld2 : Int32) (peD2 : Int32) (woD2 : Int32) (txD2 : Int32) (chD2 : Int32) (joD2 : Int32) (trD2 : Int32) (dyD2 : Int32) (sdD2 : Int32) (fD2 : Nat → Nat → Int32) (q : Int32) => [bDR g x ta o lo go tt lt mo fo ro fl9, bFo g fo o lo oD, bTown g o a pe wo tx ch jo tr dy sd f, bLaw g lo lc lz ll lm2 lg2 ld2 fc, bTown g oD aD peD2 woD2 txD2 chD2 joD2 trD2 dyD2 sdD2 fD2]) (u.1) (u.2.1) (u.2.2.1) (u.2.2.2.1) (u.2.2.2.2.1) (u.2.2.2.2.2.1) (u.2.2.2.2.2.2.1) (u.2.2.2.2.2.2.2.1) (u.2.2.2.2.2.2.2.2.1) (u.2.2.2.2.2.2.2.2.2.1) (u.2.2.2.2.2.2.2.2.2.2.1) (u.2.2.2.2.2.2.2.2.2.2.2.1) (u.2.2.2.2.2.2.2.2.2.2.2.2)) (fun (E : String) => fun u : Int32 × Int32 × Int32 × Int32 × Int32 × Int32 × Int32 × Int32 × Int32 × Int32 × Int32 × (Nat → Nat → Int32) => (fun (lm2 : Int32) (lg2 : Int32) (ld2 : Int32) (peD2 : Int32) (woD2 : Int32) (txD2 : Int32) (chD2 : Int32) (joD2 : Int32) (trD2 : Int32) (dyD2 : Int32) (sdD2 : Int32) (fD2 : Nat → Nat → Int32) => (E = "java/lang/IndexOutOfBoundsException" ∨ E = "java/lang/IllegalArgumentException") ∧ (0 ≤ peD2.toInt ∧ peD2.toInt ≤ 8) ∧ (0 ≤ woD2.toInt ∧ woD2.toInt ≤ 6) ∧ (zZ4 fD2) ∧ (E = "java/lang/IndexOutOfBoundsException" → (1, 0) = zdAhead (zLwR fc lz ll) pp n (pe, wo, tx, ch, jo, tr, dy, sd, f)) ∧ (E = "java/lang/IllegalArgumentException" → (2, 0) = zdAhead (zLwR fc lz ll) pp n (pe, wo, tx, ch, jo, tr, dy, sd, f))) (u.1) (u.2.1) (u.2.2.1) (u.2.2.2.1) (u.2.2.2.2.1) (u.2.2.2.2.2.1) (u.2.2.2.2.2.2.1) (u.2.2.2.2.2.2.2.1) (u.2.2.2.2.2.2.2.2.1) (u.2.2.2.2.2.2.2.2.2.1) (u.2.2.2.2.2.2.2.2.2.2.1) (u.2.2.2.2.2.2.2.2.2.2.2)) (fun u : Int32 × Int32 × Int32 × Int32 × Int32 × Int32 × Int32 × Int32 × Int32 × Int32 × Int32 × (Nat → Nat → Int32) => (fun (lm2 : Int32) (lg2 : Int32) (ld2 : Int32) (peD2 : Int32) (woD2 : Int32) (txD2 : Int32) (chD2 : Int32) (joD2 : Int32) (trD2 : Int32) (dyD2 : Int32) (sdD2 : Int32) (fD2 : Nat → Nat → Int32) => [bDR g x ta o lo go tt lt mo fo ro fl9, bFo g fo o lo oD, bTown g o a pe wo tx ch jo tr dy sd f, bLaw g lo lc lz ll lm2 lg2 ld2 fc, bTown g oD aD peD2 woD2 txD2 chD2 joD2 trD2 dyD2 sdD2 fD2]) (u.1) (u.2.1) (u.2.2.1) (u.2.2.2.1) (u.2.2.2.2.1) (u.2.2.2.2.2.1) (u.2.2.2.2.2.2.1) (u.2.2.2.2.2.2.2.1) (u.2.2.2.2.2.2.2.2.1) (u.2.2.2.2.2.2.2.2.2.1) (u.2.2.2.2.2.2.2.2.2.2.1) (u.2.2.2.2.2.2.2.2.2.2.2)) := by
  refine zX'.of (cc := cX11_ahead) (maxL := 3) (rt := (some .int)) (by decide) rfl (Nat.le_of_ble_eq_true rfl) ?_
  intro p e s m args below meth c A ls St hr hlocks htab hin hK hT hA hP hD hS hl
  obtain ⟨hx, hb, hml, hown, hts⟩ := id St
  have hl : lv_has ls 3 [(0, .ref x), (1, .int pp), (2, .int n)] := hl
  refine lv_aload_n hx hb dX11_ahead_0 rfl (lv_at hl 0 rfl) ?_
  refine lv_iload_n hx hb dX11_ahead_1 rfl (lv_at hl 1 rfl) ?_
  refine xcallV' (g := g) (q0 := 0) (ci := 9) (As := [.int pp]) (rest := []) St hK hT hA hP hD hS hl.1 [0, 2] [1, 3, 4] rfl rfl rfl (c_x_needPersonE l hfl g x ta o lo go tt lt mo fo ro fl9 a pe wo tx ch jo tr dy sd f pp b_pe b_wo rf) (cwV 1 hts (zgL (zl4 k618 k619 k620 k621) k607) rfl rfl rfl (by decide +kernel) ⟨Nat.le_of_ble_eq_true rfl, Nat.le_of_ble_eq_true rfl⟩) rfl rfl rfl rfl (Nat.le_of_ble_eq_true rfl) dX11_ahead_2 ⟨(Nat.le_of_ble_eq_true rfl), (Nat.le_of_ble_eq_true rfl)⟩ (fun E ce q9 u9 H locs hpx hP hD hS hce hcv hcl => ?_) (fun _u H locs hq1 hP hD hS => ?_)
  · skip
    have hpx : (E = "java/lang/IndexOutOfBoundsException") ∧ (¬ (0 ≤ pp.toInt ∧ pp.toInt < pe.toInt)) := hpx
    have hP : va_P g.1 vwCl (List.flatten [bFo g fo o lo oD, bLaw g lo lc lz ll lm lg ld fc, bTown g oD aD peD woD txD chD joD trD dyD sdD fD, bDR g x ta o lo go tt lt mo fo ro fl9, bTown g o a pe wo tx ch jo tr dy sd f]) H := hP
    have hD : va_D A (List.flatten [bFo g fo o lo oD, bLaw g lo lc lz ll lm lg ld fc, bTown g oD aD peD woD txD chD joD trD dyD sdD fD, bDR g x ta o lo go tt lt mo fo ro fl9, bTown g o a pe wo tx ch jo tr dy sd f]) := hD
    obtain ⟨hE9, hy2⟩ := hpx
    have hP : va_P g.1 vwCl (List.flatten [bFo g fo o lo oD, bLaw g lo lc lz ll lm lg ld fc, bTown g oD aD peD woD txD chD joD trD dyD sdD fD, bDR g x ta o lo go tt lt mo fo ro fl9, bTown g o a pe wo tx ch jo tr dy sd f]) H := hP
    have hD : va_D A (List.flatten [bFo g fo o lo oD, bLaw g lo lc lz ll lm lg ld fc, bTown g oD aD peD woD txD chD joD trD dyD sdD fD, bDR g x ta o lo go tt lt mo fo ro fl9, bTown g o a pe wo tx ch jo tr dy sd f]) := hD
    obtain ⟨hP, hD⟩ := zord (g := g) (Bs' := [bDR g x ta o lo go tt lt mo fo ro fl9, bFo g fo o lo oD, bTown g o a pe wo tx ch jo tr dy sd f, bLaw g lo lc lz ll lm lg ld fc, bTown g oD aD peD woD txD chD joD trD dyD sdD fD]) [3, 0, 4, 1, 2] rfl rfl hP hD
    exact zout htab hlocks hS (Nat.le_of_ble_eq_true rfl) (Nat.le_of_ble_eq_true rfl) hce hcv hcl (lm, lg, ld, peD, woD, txD, chD, joD, trD, dyD, sdD, fD) (show (E = "java/lang/IndexOutOfBoundsException" ∨ E = "java/lang/IllegalArgumentException") ∧ (0 ≤ peD.toInt ∧ peD.toInt ≤ 8) ∧ (0 ≤ woD.toInt ∧ woD.toInt ≤ 6) ∧ (zZ4 fD) ∧ (E = "java/lang/IndexOutOfBoundsException" → (1, 0) = zdAhead (zLwR fc lz ll) pp n (pe, wo, tx, ch, jo, tr, dy, sd, f)) ∧ (E = "java/lang/IllegalArgumentException" → (2, 0) = zdAhead (zLwR fc lz ll) pp n (pe, wo, tx, ch, jo, tr, dy, sd, f)) from ⟨(Or.inl hE9), (show 0 ≤ peD.toInt ∧ peD.toInt ≤ 8 from b_peD), (show 0 ≤ woD.toInt ∧ woD.toInt ≤ 6 from b_woD), (show zZ4 fD from rfD), (show E = "java/lang/IndexOutOfBoundsException" → (1, 0) = zdAhead (zLwR fc lz ll) pp n (pe, wo, tx, ch, jo, tr, dy, sd, f) from (fun h9 => zdAhead_c1 hy2)), (show E = "java/lang/IllegalArgumentException" → (2, 0) = zdAhead (zLwR fc lz ll) pp n (pe, wo, tx, ch, jo, tr, dy, sd, f) from (fun h9 => absurd (hE9.symm.trans h9) (by decide)))⟩) hP hD
  · skip
    replace hq1 : (0 ≤ pp.toInt ∧ pp.toInt ≤ 7) ∧ (pp.toInt < pe.toInt) := hq1
    have hP : va_P g.1 vwCl (List.flatten [bFo g fo o lo oD, bLaw g lo lc lz ll lm lg ld fc, bTown g oD aD peD woD txD chD joD trD dyD sdD fD, bDR g x ta o lo go tt lt mo fo ro fl9, bTown g o a pe wo tx ch jo tr dy sd f]) H := hP
    have hD : va_D A (List.flatten [bFo g fo o lo oD, bLaw g lo lc lz ll lm lg ld fc, bTown g oD aD peD woD txD chD joD trD dyD sdD fD, bDR g x ta o lo go tt lt mo fo ro fl9, bTown g o a pe wo tx ch jo tr dy sd f]) := hD
    refine W.widen (k := 1) (n := 6) (Nat.le_of_ble_eq_true rfl) (Nat.le_of_ble_eq_true rfl) ?_
    refine W.eq (g2 := F0 m 5 ls []) rfl ?_
    obtain ⟨hq1_0, hq1_1⟩ := hq1
    refine lv_aload_n hx hb dX11_ahead_5 rfl (lv_at hl 0 rfl) ?_
    refine lv_iload_n hx hb dX11_ahead_6 rfl (lv_at hl 2 rfl) ?_
    refine lv_iconst (v := 0) hx hb dX11_ahead_7 (by decide) ?_
    refine lv_bipush (v := 100) hx hb dX11_ahead_8 (by decide) ?_
    refine xcallV' (g := g) (q0 := 0) (ci := 9) (As := [.int n, .int 0, .int 100]) (rest := []) St hK hT hA hP hD hS hl.1 [3] [0, 1, 2, 4] rfl rfl rfl (c_x_nwE_0_100 l hfl g x ta o lo go tt lt mo fo ro fl9 n ) (cwV 3 hts (zgL (zl4 k668 k669 k670 k621) k667) rfl rfl rfl (by decide +kernel) ⟨Nat.le_of_ble_eq_true rfl, Nat.le_of_ble_eq_true rfl⟩) rfl rfl rfl rfl (Nat.le_of_ble_eq_true rfl) dX11_ahead_10 ⟨(Nat.le_of_ble_eq_true rfl), (Nat.le_of_ble_eq_true rfl)⟩ (fun E ce q9 u9 H locs hpx hP hD hS hce hcv hcl => ?_) (fun _u H locs hq3 hP hD hS => ?_)
    · skip
      have hpx : (E = "java/lang/IllegalArgumentException") ∧ (¬ (0 ≤ n.toInt ∧ n.toInt ≤ 100)) := hpx
      have hP : va_P g.1 vwCl (List.flatten [bFo g fo o lo oD, bLaw g lo lc lz ll lm lg ld fc, bTown g oD aD peD woD txD chD joD trD dyD sdD fD, bTown g o a pe wo tx ch jo tr dy sd f, bDR g x ta o lo go tt lt mo fo ro fl9]) H := hP
      have hD : va_D A (List.flatten [bFo g fo o lo oD, bLaw g lo lc lz ll lm lg ld fc, bTown g oD aD peD woD txD chD joD trD dyD sdD fD, bTown g o a pe wo tx ch jo tr dy sd f, bDR g x ta o lo go tt lt mo fo ro fl9]) := hD
      obtain ⟨hE9, hy4⟩ := hpx
      have hP : va_P g.1 vwCl (List.flatten [bFo g fo o lo oD, bLaw g lo lc lz ll lm lg ld fc, bTown g oD aD peD woD txD chD joD trD dyD sdD fD, bTown g o a pe wo tx ch jo tr dy sd f, bDR g x ta o lo go tt lt mo fo ro fl9]) H := hP
      have hD : va_D A (List.flatten [bFo g fo o lo oD, bLaw g lo lc lz ll lm lg ld fc, bTown g oD aD peD woD txD chD joD trD dyD sdD fD, bTown g o a pe wo tx ch jo tr dy sd f, bDR g x ta o lo go tt lt mo fo ro fl9]) := hD
      obtain ⟨hP, hD⟩ := zord (g := g) (Bs' := [bDR g x ta o lo go tt lt mo fo ro fl9, bFo g fo o lo oD, bTown g o a pe wo tx ch jo tr dy sd f, bLaw g lo lc lz ll lm lg ld fc, bTown g oD aD peD woD txD chD joD trD dyD sdD fD]) [4, 0, 3, 1, 2] rfl rfl hP hD
      exact zout htab hlocks hS (Nat.le_of_ble_eq_true rfl) (Nat.le_of_ble_eq_true rfl) hce hcv hcl (lm, lg, ld, peD, woD, txD, chD, joD, trD, dyD, sdD, fD) (show (E = "java/lang/IndexOutOfBoundsException" ∨ E = "java/lang/IllegalArgumentException") ∧ (0 ≤ peD.toInt ∧ peD.toInt ≤ 8) ∧ (0 ≤ woD.toInt ∧ woD.toInt ≤ 6) ∧ (zZ4 fD) ∧ (E = "java/lang/IndexOutOfBoundsException" → (1, 0) = zdAhead (zLwR fc lz ll) pp n (pe, wo, tx, ch, jo, tr, dy, sd, f)) ∧ (E = "java/lang/IllegalArgumentException" → (2, 0) = zdAhead (zLwR fc lz ll) pp n (pe, wo, tx, ch, jo, tr, dy, sd, f)) from ⟨(Or.inr hE9), (show 0 ≤ peD.toInt ∧ peD.toInt ≤ 8 from b_peD), (show 0 ≤ woD.toInt ∧ woD.toInt ≤ 6 from b_woD), (show zZ4 fD from rfD), (show E = "java/lang/IndexOutOfBoundsException" → (1, 0) = zdAhead (zLwR fc lz ll) pp n (pe, wo, tx, ch, jo, tr, dy, sd, f) from (fun h9 => absurd (hE9.symm.trans h9) (by decide))), (show E = "java/lang/IllegalArgumentException" → (2, 0) = zdAhead (zLwR fc lz ll) pp n (pe, wo, tx, ch, jo, tr, dy, sd, f) from (fun h9 => zdAhead_c2 (by omega) hy4))⟩) hP hD
    · skip
      replace hq3 : (0 ≤ n.toInt ∧ n.toInt ≤ 100) := hq3
      have hP : va_P g.1 vwCl (List.flatten [bFo g fo o lo oD, bLaw g lo lc lz ll lm lg ld fc, bTown g oD aD peD woD txD chD joD trD dyD sdD fD, bTown g o a pe wo tx ch jo tr dy sd f, bDR g x ta o lo go tt lt mo fo ro fl9]) H := hP
      have hD : va_D A (List.flatten [bFo g fo o lo oD, bLaw g lo lc lz ll lm lg ld fc, bTown g oD aD peD woD txD chD joD trD dyD sdD fD, bTown g o a pe wo tx ch jo tr dy sd f, bDR g x ta o lo go tt lt mo fo ro fl9]) := hD
      refine W.widen (k := 2) (n := 12) (Nat.le_of_ble_eq_true rfl) (Nat.le_of_ble_eq_true rfl) ?_
      refine W.eq (g2 := F0 m 13 ls []) rfl ?_
      refine lv_aload_n hx hb dX11_ahead_13 rfl (lv_at hl 0 rfl) ?_
      refine va_get (D := g.1) (ci := 9) (v := .ref fo) (C := RX11) (T := TX11) (N := 10) hx hb hts izRX11 hown hK hP 27 rfl rfl 7 (by decide) (hts _ k554) (fun _ h9 => h9) rfl dX11_ahead_14 ?_
      refine lv_iconst (v := 0) hx hb dX11_ahead_17 (by decide) ?_
      refine lv_iconst (v := 0) hx hb dX11_ahead_18 (by decide) ?_
      refine lv_iload_n hx hb dX11_ahead_19 rfl (lv_at hl 2 rfl) ?_
      refine mcallV' (g := g) (q0 := 0) (ci := 0) (As := [.int 0, .int 0, .int n]) (rest := []) St hK hT hA hP hD hS hl.1 [0, 3, 1, 2] [4] rfl rfl rfl (c_f_lookAheadC l g fo o lo oD a pe wo tx ch jo tr dy sd f lc lz ll lm lg ld fc aD peD woD txD chD joD trD dyD sdD fD 0 0 n b_pe b_wo rf b_lz b_peD b_woD rfD hq3) (cwV 3 hts (zgL (zl4 k685 k167 k168 k169) k164) rfl rfl rfl (by decide +kernel) ⟨Nat.le_of_ble_eq_true rfl, Nat.le_of_ble_eq_true rfl⟩) rfl rfl rfl rfl (Nat.le_of_ble_eq_true rfl) dX11_ahead_20 ⟨(Nat.le_of_ble_eq_true rfl), (Nat.le_of_ble_eq_true rfl)⟩ (fun u_ H locs hq18 hP hD hS => ?_)
      obtain ⟨lm2_5, lg2_6, ld2_7, pe3_8, wo3_9, tx3_10, ch3_11, jo3_12, tr3_13, dy3_14, sd3_15, f3_16, q_17⟩ := u_
      replace hq18 : (0 ≤ pe3_8.toInt ∧ pe3_8.toInt ≤ 8) ∧ (0 ≤ wo3_9.toInt ∧ wo3_9.toInt ≤ 6) ∧ (zZ4 f3_16) ∧ (zR9 (pe3_8, wo3_9, tx3_10, ch3_11, jo3_12, tr3_13, dy3_14, sd3_15, f3_16) (zLk (zLwR fc lz ll) 0 0 n.toInt.toNat (pe, wo, tx, ch, jo, tr, dy, sd, f))) ∧ (q_17 = zBl9 (pe3_8, wo3_9, tx3_10, ch3_11, jo3_12, tr3_13, dy3_14, sd3_15, f3_16)) := hq18
      have hP : va_P g.1 vwCl (List.flatten [bDR g x ta o lo go tt lt mo fo ro fl9, bFo g fo o lo oD, bTown g o a pe wo tx ch jo tr dy sd f, bLaw g lo lc lz ll lm2_5 lg2_6 ld2_7 fc, bTown g oD aD pe3_8 wo3_9 tx3_10 ch3_11 jo3_12 tr3_13 dy3_14 sd3_15 f3_16]) H := hP
      have hD : va_D A (List.flatten [bDR g x ta o lo go tt lt mo fo ro fl9, bFo g fo o lo oD, bTown g o a pe wo tx ch jo tr dy sd f, bLaw g lo lc lz ll lm2_5 lg2_6 ld2_7 fc, bTown g oD aD pe3_8 wo3_9 tx3_10 ch3_11 jo3_12 tr3_13 dy3_14 sd3_15 f3_16]) := hD
      refine W.widen (k := 2) (n := 12) (Nat.le_of_ble_eq_true rfl) (Nat.le_of_ble_eq_true rfl) ?_
      refine W.eq (g2 := F0 m 23 ls [.int q_17]) rfl ?_
      obtain ⟨hq18_0, hq18_1, rf3_16, hq18_3, hq18_4⟩ := hq18
      refine lv_pop hx hb dX11_ahead_23 rfl ?_
      refine lv_aload_n hx hb dX11_ahead_24 rfl (lv_at hl 0 rfl) ?_
      refine va_get (D := g.1) (ci := 9) (v := .ref fo) (C := RX11) (T := TX11) (N := 10) hx hb hts izRX11 hown hK hP 0 rfl rfl 7 (by decide) (hts _ k554) (fun _ h9 => h9) rfl dX11_ahead_25 ?_
      refine va_get (D := g.1) (ci := 0) (v := .ref oD) (C := RX0) (T := TX0) (N := 3) hx hb hts izRX0 hown hK hP 1 rfl rfl 2 (by decide) (hts _ k684) (fun _ h9 => h9) rfl dX11_ahead_28 ?_
      refine va_get (D := g.1) (ci := 7) (v := .ref (aD 0)) (C := RX9) (T := TX9) (N := 19) hx hb hts izRX9 hown hK hP 16 rfl rfl 8 (by decide) (hts _ k613) (fun _ h9 => h9) rfl dX11_ahead_31 ?_
      refine lv_iload_n hx hb dX11_ahead_34 rfl (lv_at hl 1 rfl) ?_
      refine va_iald hx hb hK hP 17 0 rfl rfl (zinK (a := 0) (b := 7) hq1_0.1 hq1_0.2 (by decide)) dX11_ahead_35 ?_
      refine ztop (r := (f3_16 0 pp.toInt.toNat)) rfl ?_
      have hP : va_P g.1 vwCl (List.flatten [bDR g x ta o lo go tt lt mo fo ro fl9, bFo g fo o lo oD, bTown g o a pe wo tx ch jo tr dy sd f, bLaw g lo lc lz ll lm2_5 lg2_6 ld2_7 fc, bTown g oD aD pe3_8 wo3_9 tx3_10 ch3_11 jo3_12 tr3_13 dy3_14 sd3_15 f3_16]) H := hP
      have hD : va_D A (List.flatten [bDR g x ta o lo go tt lt mo fo ro fl9, bFo g fo o lo oD, bTown g o a pe wo tx ch jo tr dy sd f, bLaw g lo lc lz ll lm2_5 lg2_6 ld2_7 fc, bTown g oD aD pe3_8 wo3_9 tx3_10 ch3_11 jo3_12 tr3_13 dy3_14 sd3_15 f3_16]) := hD
      exact zret_i hx hb hr hlocks hS (Nat.le_of_ble_eq_true rfl) (Nat.le_of_ble_eq_true rfl) dX11_ahead_36 (lm2_5, lg2_6, ld2_7, pe3_8, wo3_9, tx3_10, ch3_11, jo3_12, tr3_13, dy3_14, sd3_15, f3_16, f3_16 0 pp.toInt.toNat) rfl (show (0 ≤ pe3_8.toInt ∧ pe3_8.toInt ≤ 8) ∧ (0 ≤ wo3_9.toInt ∧ wo3_9.toInt ≤ 6) ∧ (zZ4 f3_16) ∧ ((0, (f3_16 0 pp.toInt.toNat)) = zdAhead (zLwR fc lz ll) pp n (pe, wo, tx, ch, jo, tr, dy, sd, f)) from ⟨(by first | assumption | omega | decide), (by first | assumption | omega | decide), (by first | assumption | omega | decide), (zdAhead_c0 b_pe (by omega) (by omega) hq18_3)⟩) hP hD
set_option maxRecDepth 100000 in
set_option maxHeartbeats 4000000 in
theorem l_aheadC (l : Launch) (hfl : l.stackTraces = false) (g : zG) (x : Nat) (ta : Nat) (o : Nat) (lo : Nat) (go : Nat) (tt : Nat) (lt : Nat) (mo : Nat) (fo : Nat) (ro : Nat) (fl9 : Int32) (a : Nat → Nat) (pe : Int32) (wo : Int32) (tx : Int32) (ch : Int32) (jo : Int32) (tr : Int32) (dy : Int32) (sd : Int32) (f : Nat → Nat → Int32) (lc : Nat) (lz : Int32) (ll : Int32) (lm : Int32) (lg : Int32) (ld : Int32) (fc : Nat → Int32) (oD : Nat) (aD : Nat → Nat) (peD : Int32) (woD : Int32) (txD : Int32) (chD : Int32) (joD : Int32) (trD : Int32) (dyD : Int32) (sdD : Int32) (fD : Nat → Nat → Int32) (oa : Nat) (fz : Nat → Int64) (pp : Int32) (n : Int32) (b_pe : 0 ≤ pe.toInt ∧ pe.toInt ≤ 8) (b_wo : 0 ≤ wo.toInt ∧ wo.toInt ≤ 6) (rf : zZ4 f) (b_lz : 0 ≤ lz.toInt ∧ lz.toInt ≤ 400) (b_peD : 0 ≤ peD.toInt ∧ peD.toInt ≤ 8) (b_woD : 0 ≤ woD.toInt ∧ woD.toInt ≤ 6) (rfD : zZ4 fD) : zX' g l yL_ahead (Cond.codeWith yL_ahead cL_ahead 5 (some .int) [(0, 10, 13, 24), (0, 10, 17, 13)] :: zB) ({ frames := 8, cells := 2, slots := 12, locals := 174 } : Room) [.ref x, .int pp, .int n, .ref oa] [bDR g x ta o lo go tt lt mo fo ro fl9, bFo g fo o lo oD, bTown g o a pe wo tx ch jo tr dy sd f, bLaw g lo lc lz ll lm lg ld fc, bTown g oD aD peD woD txD chD joD trD dyD sdD fD, bOut g oa fz] (fun u : Int32 × Int32 × Int32 × Int32 × Int32 × Int32 × Int32 × Int32 × Int32 × Int32 × Int32 × (Nat → Nat → Int32) × (Nat → Int64) × Int32 × Int32 => (fun (lm2 : Int32) (lg2 : Int32) (ld2 : Int32) (peD2 : Int32) (woD2 : Int32) (txD2 : Int32) (chD2 : Int32) (joD2 : Int32) (trD2 : Int32) (dyD2 : Int32) (sdD2 : Int32) (fD2 : Nat → Nat → Int32) (fz2 : Nat → Int64) (q : Int32) (a9 : Int32) => some (.int q)) (u.1) (u.2.1) (u.2.2.1) (u.2.2.2.1) (u.2.2.2.2.1) (u.2.2.2.2.2.1) (u.2.2.2.2.2.2.1) (u.2.2.2.2.2.2.2.1) (u.2.2.2.2.2.2.2.2.1) (u.2.2.2.2.2.2.2.2.2.1) (u.2.2.2.2.2.2.2.2.2.2.1) (u.2.2.2.2.2.2.2.2.2.2.2.1) (u.2.2.2.2.2.2.2.2.2.2.2.2.1) (u.2.2.2.2.2.2.2.2.2.2.2.2.2.1) (u.2.2.2.2.2.2.2.2.2.2.2.2.2.2)) (fun u : Int32 × Int32 × Int32 × Int32 × Int32 × Int32 × Int32 × Int32 × Int32 × Int32 × Int32 × (Nat → Nat → Int32) × (Nat → Int64) × Int32 × Int32 => (fun (lm2 : Int32) (lg2 : Int32) (ld2 : Int32) (peD2 : Int32) (woD2 : Int32) (txD2 : Int32) (chD2 : Int32) (joD2 : Int32) (trD2 : Int32) (dyD2 : Int32) (sdD2 : Int32) (fD2 : Nat → Nat → Int32) (fz2 : Nat → Int64) (q : Int32) (a9 : Int32) => (0 ≤ peD2.toInt ∧ peD2.toInt ≤ 8) ∧ (0 ≤ woD2.toInt ∧ woD2.toInt ≤ 6) ∧ (zZ4 fD2) ∧ ((q, a9) = zdAhead (zLwR fc lz ll) pp n (pe, wo, tx, ch, jo, tr, dy, sd, f)) ∧ (q.toInt = 0 → fz2 0 = Int32.toInt64 a9)) (u.1) (u.2.1) (u.2.2.1) (u.2.2.2.1) (u.2.2.2.2.1) (u.2.2.2.2.2.1) (u.2.2.2.2.2.2.1) (u.2.2.2.2.2.2.2.1) (u.2.2.2.2.2.2.2.2.1) (u.2.2.2.2.2.2.2.2.2.1) (u.2.2.2.2.2.2.2.2.2.2.1) (u.2.2.2.2.2.2.2.2.2.2.2.1) (u.2.2.2.2.2.2.2.2.2.2.2.2.1) (u.2.2.2.2.2.2.2.2.2.2.2.2.2.1) (u.2.2.2.2.2.2.2.2.2.2.2.2.2.2)) (fun u : Int32 × Int32 × Int32 × Int32 × Int32 × Int32 × Int32 × Int32 × Int32 × Int32 × Int32 × (Nat → Nat → Int32) × (Nat → Int64) × Int32 × Int32 => (fun (lm2 : Int32) (lg2 : Int32) (ld2 : Int32) (peD2 : Int32) (woD2 : Int32) (txD2 : Int32) (chD2 : Int32) (joD2 : Int32) (trD2 : Int32) (dyD2 : Int32) (sdD2 : Int32) (fD2 : Nat → Nat → Int32) (fz2 : Nat → Int64) (q : Int32) (a9 : Int32) => [bDR g x ta o lo go tt lt mo fo ro fl9, bFo g fo o lo oD, bTown g o a pe wo tx ch jo tr dy sd f, bLaw g lo lc lz ll lm2 lg2 ld2 fc, bTown g oD aD peD2 woD2 txD2 chD2 joD2 trD2 dyD2 sdD2 fD2, bOut g oa fz2]) (u.1) (u.2.1) (u.2.2.1) (u.2.2.2.1) (u.2.2.2.2.1) (u.2.2.2.2.2.1) (u.2.2.2.2.2.2.1) (u.2.2.2.2.2.2.2.1) (u.2.2.2.2.2.2.2.2.1) (u.2.2.2.2.2.2.2.2.2.1) (u.2.2.2.2.2.2.2.2.2.2.1) (u.2.2.2.2.2.2.2.2.2.2.2.1) (u.2.2.2.2.2.2.2.2.2.2.2.2.1) (u.2.2.2.2.2.2.2.2.2.2.2.2.2.1) (u.2.2.2.2.2.2.2.2.2.2.2.2.2.2)) zNo zN0 := by
  refine zX'.ofH (cc := cL_ahead) (maxL := 5) (rt := (some .int)) (by decide) rfl (Nat.le_of_ble_eq_true rfl) ?_
  intro p e s m args below meth c A ls St hr hlocks htab hin hK hT hA hP hD hS hl
  obtain ⟨hx, hb, hml, hown, hts⟩ := id St
  have hl : lv_has ls 5 [(0, .ref x), (1, .int pp), (2, .int n), (3, .ref oa)] := hl
  refine lv_aload_n hx hb dL_ahead_0 rfl (lv_at hl 3 rfl) ?_
  refine lv_iconst (v := 0) hx hb dL_ahead_1 (by decide) ?_
  refine lv_aload_n hx hb dL_ahead_2 rfl (lv_at hl 0 rfl) ?_
  refine lv_iload_n hx hb dL_ahead_3 rfl (lv_at hl 1 rfl) ?_
  refine lv_iload_n hx hb dL_ahead_4 rfl (lv_at hl 2 rfl) ?_
  refine xcallV' (g := g) (q0 := 0) (ci := 9) (As := [.int pp, .int n]) (rest := [.int 0, .ref oa]) St hK hT hA hP hD hS hl.1 [0, 1, 2, 3, 4] [5] rfl rfl rfl (c_x_aheadC l hfl g x ta o lo go tt lt mo fo ro fl9 a pe wo tx ch jo tr dy sd f lc lz ll lm lg ld fc oD aD peD woD txD chD joD trD dyD sdD fD pp n b_pe b_wo rf b_lz b_peD b_woD rfD) (cwV 2 hts (zgL (zl4 k1212 k1213 k1214 k621) k686) rfl rfl rfl (by decide +kernel) ⟨Nat.le_of_ble_eq_true rfl, Nat.le_of_ble_eq_true rfl⟩) rfl rfl rfl rfl (Nat.le_of_ble_eq_true rfl) dL_ahead_5 ⟨(Nat.le_of_ble_eq_true rfl), (Nat.le_of_ble_eq_true rfl)⟩ (fun E ce q9 u9 H locs hpx hP hD hS hce hcv hcl => ?_) (fun u_ H locs hq14 hP hD hS => ?_)
  · skip
    obtain ⟨lm2_15, lg2_16, ld2_17, peD2_18, woD2_19, txD2_20, chD2_21, joD2_22, trD2_23, dyD2_24, sdD2_25, fD2_26⟩ := u9
    have hpx : (E = "java/lang/IndexOutOfBoundsException" ∨ E = "java/lang/IllegalArgumentException") ∧ (0 ≤ peD2_18.toInt ∧ peD2_18.toInt ≤ 8) ∧ (0 ≤ woD2_19.toInt ∧ woD2_19.toInt ≤ 6) ∧ (zZ4 fD2_26) ∧ (E = "java/lang/IndexOutOfBoundsException" → (1, 0) = zdAhead (zLwR fc lz ll) pp n (pe, wo, tx, ch, jo, tr, dy, sd, f)) ∧ (E = "java/lang/IllegalArgumentException" → (2, 0) = zdAhead (zLwR fc lz ll) pp n (pe, wo, tx, ch, jo, tr, dy, sd, f)) := hpx
    have hP : va_P g.1 vwCl (List.flatten [bOut g oa fz, bDR g x ta o lo go tt lt mo fo ro fl9, bFo g fo o lo oD, bTown g o a pe wo tx ch jo tr dy sd f, bLaw g lo lc lz ll lm2_15 lg2_16 ld2_17 fc, bTown g oD aD peD2_18 woD2_19 txD2_20 chD2_21 joD2_22 trD2_23 dyD2_24 sdD2_25 fD2_26]) H := hP
    have hD : va_D A (List.flatten [bOut g oa fz, bDR g x ta o lo go tt lt mo fo ro fl9, bFo g fo o lo oD, bTown g o a pe wo tx ch jo tr dy sd f, bLaw g lo lc lz ll lm2_15 lg2_16 ld2_17 fc, bTown g oD aD peD2_18 woD2_19 txD2_20 chD2_21 joD2_22 trD2_23 dyD2_24 sdD2_25 fD2_26]) := hD
    obtain ⟨hE9, hy27, hy28, rfD2_26, hy29, hy30⟩ := hpx
    rcases hE9 with rfl | rfl
    · skip
      refine vx_catch hown [] ⟨0, 10, 13, 24⟩ [⟨0, 10, 17, 13⟩] (by rw [htab]; rfl) (fun z hz => absurd hz List.not_mem_nil) (by decide) (by decide) (hts _ k1165) ((hT.1.2.2.2.2.1 _ (List.mem_of_getElem? (i := 0) rfl)).use) hce hcv hcl ?_
      refine W.widen (k := 2) (n := 12) (Nat.le_of_ble_eq_true rfl) (Nat.le_of_ble_eq_true rfl) ?_
      refine lv_astore (lv' := [(4, .ref q9), (0, .ref x), (1, .int pp), (2, .int n), (3, .ref oa)]) hx hb dL_ahead_13 hl (by decide) rfl (fun ls hl => ?_)
      refine lv_iconst (v := 1) hx hb dL_ahead_15 (by decide) ?_
      have hL1 : (1 : Int32).toInt = 1 := by decide
      have hP : va_P g.1 vwCl (List.flatten [bOut g oa fz, bDR g x ta o lo go tt lt mo fo ro fl9, bFo g fo o lo oD, bTown g o a pe wo tx ch jo tr dy sd f, bLaw g lo lc lz ll lm2_15 lg2_16 ld2_17 fc, bTown g oD aD peD2_18 woD2_19 txD2_20 chD2_21 joD2_22 trD2_23 dyD2_24 sdD2_25 fD2_26]) H := hP
      have hD : va_D A (List.flatten [bOut g oa fz, bDR g x ta o lo go tt lt mo fo ro fl9, bFo g fo o lo oD, bTown g o a pe wo tx ch jo tr dy sd f, bLaw g lo lc lz ll lm2_15 lg2_16 ld2_17 fc, bTown g oD aD peD2_18 woD2_19 txD2_20 chD2_21 joD2_22 trD2_23 dyD2_24 sdD2_25 fD2_26]) := hD
      obtain ⟨hP, hD⟩ := zord (g := g) (Bs' := [bDR g x ta o lo go tt lt mo fo ro fl9, bFo g fo o lo oD, bTown g o a pe wo tx ch jo tr dy sd f, bLaw g lo lc lz ll lm2_15 lg2_16 ld2_17 fc, bTown g oD aD peD2_18 woD2_19 txD2_20 chD2_21 joD2_22 trD2_23 dyD2_24 sdD2_25 fD2_26, bOut g oa fz]) [1, 2, 3, 4, 5, 0] rfl rfl hP hD
      exact zret_i hx hb hr hlocks hS (Nat.le_of_ble_eq_true rfl) (Nat.le_of_ble_eq_true rfl) dL_ahead_16 (lm2_15, lg2_16, ld2_17, peD2_18, woD2_19, txD2_20, chD2_21, joD2_22, trD2_23, dyD2_24, sdD2_25, fD2_26, fz, (1 : Int32), (0 : Int32)) rfl (show (0 ≤ peD2_18.toInt ∧ peD2_18.toInt ≤ 8) ∧ (0 ≤ woD2_19.toInt ∧ woD2_19.toInt ≤ 6) ∧ (zZ4 fD2_26) ∧ ((1, 0) = zdAhead (zLwR fc lz ll) pp n (pe, wo, tx, ch, jo, tr, dy, sd, f)) ∧ ((1 : Int32).toInt = 0 → fz 0 = Int32.toInt64 0) from ⟨(by first | assumption | omega | decide), (by first | assumption | omega | decide), (by first | assumption | omega | decide), (hy29 rfl), (fun h9 => absurd h9 (by decide))⟩) hP hD
    · skip
      refine vx_catch hown [⟨0, 10, 13, 24⟩] ⟨0, 10, 17, 13⟩ [] (by rw [htab]; rfl) (fun z hz => by
            rcases List.mem_cons.mp hz with rfl | hz; · exact Or.inr ⟨by decide, "java/lang/IndexOutOfBoundsException", hts _ k1165, hT.1.2.2.2.2.2.1 _ (List.mem_of_getElem? (i := 4) rfl)⟩
            cases hz) (by decide) (by decide) (hts _ k1155) ((hT.1.2.2.2.2.1 _ (List.mem_of_getElem? (i := 1) rfl)).use) hce hcv hcl ?_
      refine W.widen (k := 2) (n := 12) (Nat.le_of_ble_eq_true rfl) (Nat.le_of_ble_eq_true rfl) ?_
      refine lv_astore (lv' := [(4, .ref q9), (0, .ref x), (1, .int pp), (2, .int n), (3, .ref oa)]) hx hb dL_ahead_17 hl (by decide) rfl (fun ls hl => ?_)
      refine lv_iconst (v := 2) hx hb dL_ahead_19 (by decide) ?_
      have hL2 : (2 : Int32).toInt = 2 := by decide
      have hP : va_P g.1 vwCl (List.flatten [bOut g oa fz, bDR g x ta o lo go tt lt mo fo ro fl9, bFo g fo o lo oD, bTown g o a pe wo tx ch jo tr dy sd f, bLaw g lo lc lz ll lm2_15 lg2_16 ld2_17 fc, bTown g oD aD peD2_18 woD2_19 txD2_20 chD2_21 joD2_22 trD2_23 dyD2_24 sdD2_25 fD2_26]) H := hP
      have hD : va_D A (List.flatten [bOut g oa fz, bDR g x ta o lo go tt lt mo fo ro fl9, bFo g fo o lo oD, bTown g o a pe wo tx ch jo tr dy sd f, bLaw g lo lc lz ll lm2_15 lg2_16 ld2_17 fc, bTown g oD aD peD2_18 woD2_19 txD2_20 chD2_21 joD2_22 trD2_23 dyD2_24 sdD2_25 fD2_26]) := hD
      obtain ⟨hP, hD⟩ := zord (g := g) (Bs' := [bDR g x ta o lo go tt lt mo fo ro fl9, bFo g fo o lo oD, bTown g o a pe wo tx ch jo tr dy sd f, bLaw g lo lc lz ll lm2_15 lg2_16 ld2_17 fc, bTown g oD aD peD2_18 woD2_19 txD2_20 chD2_21 joD2_22 trD2_23 dyD2_24 sdD2_25 fD2_26, bOut g oa fz]) [1, 2, 3, 4, 5, 0] rfl rfl hP hD
      exact zret_i hx hb hr hlocks hS (Nat.le_of_ble_eq_true rfl) (Nat.le_of_ble_eq_true rfl) dL_ahead_20 (lm2_15, lg2_16, ld2_17, peD2_18, woD2_19, txD2_20, chD2_21, joD2_22, trD2_23, dyD2_24, sdD2_25, fD2_26, fz, (2 : Int32), (0 : Int32)) rfl (show (0 ≤ peD2_18.toInt ∧ peD2_18.toInt ≤ 8) ∧ (0 ≤ woD2_19.toInt ∧ woD2_19.toInt ≤ 6) ∧ (zZ4 fD2_26) ∧ ((2, 0) = zdAhead (zLwR fc lz ll) pp n (pe, wo, tx, ch, jo, tr, dy, sd, f)) ∧ ((2 : Int32).toInt = 0 → fz 0 = Int32.toInt64 0) from ⟨(by first | assumption | omega | decide), (by first | assumption | omega | decide), (by first | assumption | omega | decide), (hy30 rfl), (fun h9 => absurd h9 (by decide))⟩) hP hD
  · skip
    obtain ⟨lm2_1, lg2_2, ld2_3, peD2_4, woD2_5, txD2_6, chD2_7, joD2_8, trD2_9, dyD2_10, sdD2_11, fD2_12, q_13⟩ := u_
    replace hq14 : (0 ≤ peD2_4.toInt ∧ peD2_4.toInt ≤ 8) ∧ (0 ≤ woD2_5.toInt ∧ woD2_5.toInt ≤ 6) ∧ (zZ4 fD2_12) ∧ ((0, q_13) = zdAhead (zLwR fc lz ll) pp n (pe, wo, tx, ch, jo, tr, dy, sd, f)) := hq14
    have hP : va_P g.1 vwCl (List.flatten [bOut g oa fz, bDR g x ta o lo go tt lt mo fo ro fl9, bFo g fo o lo oD, bTown g o a pe wo tx ch jo tr dy sd f, bLaw g lo lc lz ll lm2_1 lg2_2 ld2_3 fc, bTown g oD aD peD2_4 woD2_5 txD2_6 chD2_7 joD2_8 trD2_9 dyD2_10 sdD2_11 fD2_12]) H := hP
    have hD : va_D A (List.flatten [bOut g oa fz, bDR g x ta o lo go tt lt mo fo ro fl9, bFo g fo o lo oD, bTown g o a pe wo tx ch jo tr dy sd f, bLaw g lo lc lz ll lm2_1 lg2_2 ld2_3 fc, bTown g oD aD peD2_4 woD2_5 txD2_6 chD2_7 joD2_8 trD2_9 dyD2_10 sdD2_11 fD2_12]) := hD
    refine W.widen (k := 2) (n := 12) (Nat.le_of_ble_eq_true rfl) (Nat.le_of_ble_eq_true rfl) ?_
    refine W.eq (g2 := F0 m 8 ls [.int q_13, .int 0, .ref oa]) rfl ?_
    obtain ⟨hq14_0, hq14_1, rfD2_12, hq14_3⟩ := hq14
    refine lv_i2l (v := (q_13 : Int32).toInt64) hx hb dL_ahead_8 rfl ?_
    refine va_last hx hb hK hP hD hS 0 2 rfl rfl (zin rfl) dL_ahead_9 (fun H locs hP hD hS => ?_)
    have hP : va_P g.1 vwCl (List.flatten [[(oa, .inl (g.2 2, 1, .inr (.inl (vp_updL fz 0 ((q_13 : Int32).toInt64)))))], bDR g x ta o lo go tt lt mo fo ro fl9, bFo g fo o lo oD, bTown g o a pe wo tx ch jo tr dy sd f, bLaw g lo lc lz ll lm2_1 lg2_2 ld2_3 fc, bTown g oD aD peD2_4 woD2_5 txD2_6 chD2_7 joD2_8 trD2_9 dyD2_10 sdD2_11 fD2_12]) H := hP
    have hD : va_D A (List.flatten [[(oa, .inl (g.2 2, 1, .inr (.inl (vp_updL fz 0 ((q_13 : Int32).toInt64)))))], bDR g x ta o lo go tt lt mo fo ro fl9, bFo g fo o lo oD, bTown g o a pe wo tx ch jo tr dy sd f, bLaw g lo lc lz ll lm2_1 lg2_2 ld2_3 fc, bTown g oD aD peD2_4 woD2_5 txD2_6 chD2_7 joD2_8 trD2_9 dyD2_10 sdD2_11 fD2_12]) := hD
    refine lv_goto (tgt := 21) hx hb dL_ahead_10 (by decide) ?_
    refine lv_iconst (v := 0) hx hb dL_ahead_21 (by decide) ?_
    have hL0 : (0 : Int32).toInt = 0 := by decide
    have hP : va_P g.1 vwCl (List.flatten [bOut g oa (vp_updL fz 0 ((q_13 : Int32).toInt64)), bDR g x ta o lo go tt lt mo fo ro fl9, bFo g fo o lo oD, bTown g o a pe wo tx ch jo tr dy sd f, bLaw g lo lc lz ll lm2_1 lg2_2 ld2_3 fc, bTown g oD aD peD2_4 woD2_5 txD2_6 chD2_7 joD2_8 trD2_9 dyD2_10 sdD2_11 fD2_12]) H := hP
    have hD : va_D A (List.flatten [bOut g oa (vp_updL fz 0 ((q_13 : Int32).toInt64)), bDR g x ta o lo go tt lt mo fo ro fl9, bFo g fo o lo oD, bTown g o a pe wo tx ch jo tr dy sd f, bLaw g lo lc lz ll lm2_1 lg2_2 ld2_3 fc, bTown g oD aD peD2_4 woD2_5 txD2_6 chD2_7 joD2_8 trD2_9 dyD2_10 sdD2_11 fD2_12]) := hD
    obtain ⟨hP, hD⟩ := zord (g := g) (Bs' := [bDR g x ta o lo go tt lt mo fo ro fl9, bFo g fo o lo oD, bTown g o a pe wo tx ch jo tr dy sd f, bLaw g lo lc lz ll lm2_1 lg2_2 ld2_3 fc, bTown g oD aD peD2_4 woD2_5 txD2_6 chD2_7 joD2_8 trD2_9 dyD2_10 sdD2_11 fD2_12, bOut g oa (vp_updL fz 0 ((q_13 : Int32).toInt64))]) [1, 2, 3, 4, 5, 0] rfl rfl hP hD
    exact zret_i hx hb hr hlocks hS (Nat.le_of_ble_eq_true rfl) (Nat.le_of_ble_eq_true rfl) dL_ahead_22 (lm2_1, lg2_2, ld2_3, peD2_4, woD2_5, txD2_6, chD2_7, joD2_8, trD2_9, dyD2_10, sdD2_11, fD2_12, vp_updL fz 0 ((q_13 : Int32).toInt64), (0 : Int32), q_13) rfl (show (0 ≤ peD2_4.toInt ∧ peD2_4.toInt ≤ 8) ∧ (0 ≤ woD2_5.toInt ∧ woD2_5.toInt ≤ 6) ∧ (zZ4 fD2_12) ∧ ((0, q_13) = zdAhead (zLwR fc lz ll) pp n (pe, wo, tx, ch, jo, tr, dy, sd, f)) ∧ ((0 : Int32).toInt = 0 → (vp_updL fz 0 ((q_13 : Int32).toInt64)) 0 = Int32.toInt64 q_13) from ⟨(by first | assumption | omega | decide), (by first | assumption | omega | decide), (by first | assumption | omega | decide), hq14_3, (fun _ => rfl)⟩) hP hD
set_option maxRecDepth 100000 in
set_option maxHeartbeats 4000000 in
theorem c_x_thenC (l : Launch) (hfl : l.stackTraces = false) (g : zG) (x : Nat) (ta : Nat) (o : Nat) (lo : Nat) (go : Nat) (tt : Nat) (lt : Nat) (mo : Nat) (fo : Nat) (ro : Nat) (fl9 : Int32) (a : Nat → Nat) (pe : Int32) (wo : Int32) (tx : Int32) (ch : Int32) (jo : Int32) (tr : Int32) (dy : Int32) (sd : Int32) (f : Nat → Nat → Int32) (lc : Nat) (lz : Int32) (ll : Int32) (lm : Int32) (lg : Int32) (ld : Int32) (fc : Nat → Int32) (oD : Nat) (aD : Nat → Nat) (peD : Int32) (woD : Int32) (txD : Int32) (chD : Int32) (joD : Int32) (trD : Int32) (dyD : Int32) (sdD : Int32) (fD : Nat → Nat → Int32) (n : Int32) (c9 : Int32) (b_pe : 0 ≤ pe.toInt ∧ pe.toInt ≤ 8) (b_wo : 0 ≤ wo.toInt ∧ wo.toInt ≤ 6) (rf : zZ4 f) (b_lz : 0 ≤ lz.toInt ∧ lz.toInt ≤ 400) (b_peD : 0 ≤ peD.toInt ∧ peD.toInt ≤ 8) (b_woD : 0 ≤ woD.toInt ∧ woD.toInt ≤ 6) (rfD : zZ4 fD) : zX' g l yX11_then (Cond.code yX11_then cX11_then 4 (some .int) :: zB) ({ frames := 7, cells := 1, slots := 6, locals := 152 } : Room) [.ref x, .int n, .int c9] [bDR g x ta o lo go tt lt mo fo ro fl9, bFo g fo o lo oD, bTown g o a pe wo tx ch jo tr dy sd f, bLaw g lo lc lz ll lm lg ld fc, bTown g oD aD peD woD txD chD joD trD dyD sdD fD] (fun u : Int32 × Int32 × Int32 × Int32 × Int32 × Int32 × Int32 × Int32 × Int32 × Int32 × Int32 × (Nat → Nat → Int32) × Int32 => (fun (lm2 : Int32) (lg2 : Int32) (ld2 : Int32) (peD2 : Int32) (woD2 : Int32) (txD2 : Int32) (chD2 : Int32) (joD2 : Int32) (trD2 : Int32) (dyD2 : Int32) (sdD2 : Int32) (fD2 : Nat → Nat → Int32) (q : Int32) => some (.int q)) (u.1) (u.2.1) (u.2.2.1) (u.2.2.2.1) (u.2.2.2.2.1) (u.2.2.2.2.2.1) (u.2.2.2.2.2.2.1) (u.2.2.2.2.2.2.2.1) (u.2.2.2.2.2.2.2.2.1) (u.2.2.2.2.2.2.2.2.2.1) (u.2.2.2.2.2.2.2.2.2.2.1) (u.2.2.2.2.2.2.2.2.2.2.2.1) (u.2.2.2.2.2.2.2.2.2.2.2.2)) (fun u : Int32 × Int32 × Int32 × Int32 × Int32 × Int32 × Int32 × Int32 × Int32 × Int32 × Int32 × (Nat → Nat → Int32) × Int32 => (fun (lm2 : Int32) (lg2 : Int32) (ld2 : Int32) (peD2 : Int32) (woD2 : Int32) (txD2 : Int32) (chD2 : Int32) (joD2 : Int32) (trD2 : Int32) (dyD2 : Int32) (sdD2 : Int32) (fD2 : Nat → Nat → Int32) (q : Int32) => (0 ≤ peD2.toInt ∧ peD2.toInt ≤ 8) ∧ (0 ≤ woD2.toInt ∧ woD2.toInt ≤ 6) ∧ (zZ4 fD2) ∧ ((0, q) = zdThen (zLwR fc lz ll) n c9 (pe, wo, tx, ch, jo, tr, dy, sd, f))) (u.1) (u.2.1) (u.2.2.1) (u.2.2.2.1) (u.2.2.2.2.1) (u.2.2.2.2.2.1) (u.2.2.2.2.2.2.1) (u.2.2.2.2.2.2.2.1) (u.2.2.2.2.2.2.2.2.1) (u.2.2.2.2.2.2.2.2.2.1) (u.2.2.2.2.2.2.2.2.2.2.1) (u.2.2.2.2.2.2.2.2.2.2.2.1) (u.2.2.2.2.2.2.2.2.2.2.2.2)) (fun u : Int32 × Int32 × Int32 × Int32 × Int32 × Int32 × Int32 × Int32 × Int32 × Int32 × Int32 × (Nat → Nat → Int32) × Int32 => (fun (lm2 : Int32) (lg2 : Int32) (ld2 : Int32) (peD2 : Int32) (woD2 : Int32) (txD2 : Int32) (chD2 : Int32) (joD2 : Int32) (trD2 : Int32) (dyD2 : Int32) (sdD2 : Int32) (fD2 : Nat → Nat → Int32) (q : Int32) => [bDR g x ta o lo go tt lt mo fo ro fl9, bFo g fo o lo oD, bTown g o a pe wo tx ch jo tr dy sd f, bLaw g lo lc lz ll lm2 lg2 ld2 fc, bTown g oD aD peD2 woD2 txD2 chD2 joD2 trD2 dyD2 sdD2 fD2]) (u.1) (u.2.1) (u.2.2.1) (u.2.2.2.1) (u.2.2.2.2.1) (u.2.2.2.2.2.1) (u.2.2.2.2.2.2.1) (u.2.2.2.2.2.2.2.1) (u.2.2.2.2.2.2.2.2.1) (u.2.2.2.2.2.2.2.2.2.1) (u.2.2.2.2.2.2.2.2.2.2.1) (u.2.2.2.2.2.2.2.2.2.2.2.1) (u.2.2.2.2.2.2.2.2.2.2.2.2)) (fun (E : String) => fun u : Int32 × Int32 × Int32 × Int32 × Int32 × Int32 × Int32 × Int32 × Int32 × Int32 × Int32 × (Nat → Nat → Int32) => (fun (lm2 : Int32) (lg2 : Int32) (ld2 : Int32) (peD2 : Int32) (woD2 : Int32) (txD2 : Int32) (chD2 : Int32) (joD2 : Int32) (trD2 : Int32) (dyD2 : Int32) (sdD2 : Int32) (fD2 : Nat → Nat → Int32) => (E = "java/lang/IllegalArgumentException") ∧ (0 ≤ peD2.toInt ∧ peD2.toInt ≤ 8) ∧ (0 ≤ woD2.toInt ∧ woD2.toInt ≤ 6) ∧ (zZ4 fD2) ∧ (E = "java/lang/IllegalArgumentException" → (1, 0) = zdThen (zLwR fc lz ll) n c9 (pe, wo, tx, ch, jo, tr, dy, sd, f))) (u.1) (u.2.1) (u.2.2.1) (u.2.2.2.1) (u.2.2.2.2.1) (u.2.2.2.2.2.1) (u.2.2.2.2.2.2.1) (u.2.2.2.2.2.2.2.1) (u.2.2.2.2.2.2.2.2.1) (u.2.2.2.2.2.2.2.2.2.1) (u.2.2.2.2.2.2.2.2.2.2.1) (u.2.2.2.2.2.2.2.2.2.2.2)) (fun u : Int32 × Int32 × Int32 × Int32 × Int32 × Int32 × Int32 × Int32 × Int32 × Int32 × Int32 × (Nat → Nat → Int32) => (fun (lm2 : Int32) (lg2 : Int32) (ld2 : Int32) (peD2 : Int32) (woD2 : Int32) (txD2 : Int32) (chD2 : Int32) (joD2 : Int32) (trD2 : Int32) (dyD2 : Int32) (sdD2 : Int32) (fD2 : Nat → Nat → Int32) => [bDR g x ta o lo go tt lt mo fo ro fl9, bFo g fo o lo oD, bTown g o a pe wo tx ch jo tr dy sd f, bLaw g lo lc lz ll lm2 lg2 ld2 fc, bTown g oD aD peD2 woD2 txD2 chD2 joD2 trD2 dyD2 sdD2 fD2]) (u.1) (u.2.1) (u.2.2.1) (u.2.2.2.1) (u.2.2.2.2.1) (u.2.2.2.2.2.1) (u.2.2.2.2.2.2.1) (u.2.2.2.2.2.2.2.1) (u.2.2.2.2.2.2.2.2.1) (u.2.2.2.2.2.2.2.2.2.1) (u.2.2.2.2.2.2.2.2.2.2.1) (u.2.2.2.2.2.2.2.2.2.2.2)) := by
  refine zX'.of (cc := cX11_then) (maxL := 4) (rt := (some .int)) (by decide) rfl (Nat.le_of_ble_eq_true rfl) ?_
  intro p e s m args below meth c A ls St hr hlocks htab hin hK hT hA hP hD hS hl
  obtain ⟨hx, hb, hml, hown, hts⟩ := id St
  have hl : lv_has ls 4 [(0, .ref x), (1, .int n), (2, .int c9)] := hl
  refine lv_aload_n hx hb dX11_then_0 rfl (lv_at hl 0 rfl) ?_
  refine lv_iload_n hx hb dX11_then_1 rfl (lv_at hl 1 rfl) ?_
  refine lv_iconst (v := 0) hx hb dX11_then_2 (by decide) ?_
  refine lv_bipush (v := 100) hx hb dX11_then_3 (by decide) ?_
  refine xcallV' (g := g) (q0 := 0) (ci := 9) (As := [.int n, .int 0, .int 100]) (rest := []) St hK hT hA hP hD hS hl.1 [0] [1, 2, 3, 4] rfl rfl rfl (c_x_nwE_0_100 l hfl g x ta o lo go tt lt mo fo ro fl9 n ) (cwV 3 hts (zgL (zl4 k668 k669 k670 k621) k667) rfl rfl rfl (by decide +kernel) ⟨Nat.le_of_ble_eq_true rfl, Nat.le_of_ble_eq_true rfl⟩) rfl rfl rfl rfl (Nat.le_of_ble_eq_true rfl) dX11_then_5 ⟨(Nat.le_of_ble_eq_true rfl), (Nat.le_of_ble_eq_true rfl)⟩ (fun E ce q9 u9 H locs hpx hP hD hS hce hcv hcl => ?_) (fun _u H locs hq1 hP hD hS => ?_)
  · skip
    have hpx : (E = "java/lang/IllegalArgumentException") ∧ (¬ (0 ≤ n.toInt ∧ n.toInt ≤ 100)) := hpx
    have hP : va_P g.1 vwCl (List.flatten [bFo g fo o lo oD, bTown g o a pe wo tx ch jo tr dy sd f, bLaw g lo lc lz ll lm lg ld fc, bTown g oD aD peD woD txD chD joD trD dyD sdD fD, bDR g x ta o lo go tt lt mo fo ro fl9]) H := hP
    have hD : va_D A (List.flatten [bFo g fo o lo oD, bTown g o a pe wo tx ch jo tr dy sd f, bLaw g lo lc lz ll lm lg ld fc, bTown g oD aD peD woD txD chD joD trD dyD sdD fD, bDR g x ta o lo go tt lt mo fo ro fl9]) := hD
    obtain ⟨hE9, hy2⟩ := hpx
    have hP : va_P g.1 vwCl (List.flatten [bFo g fo o lo oD, bTown g o a pe wo tx ch jo tr dy sd f, bLaw g lo lc lz ll lm lg ld fc, bTown g oD aD peD woD txD chD joD trD dyD sdD fD, bDR g x ta o lo go tt lt mo fo ro fl9]) H := hP
    have hD : va_D A (List.flatten [bFo g fo o lo oD, bTown g o a pe wo tx ch jo tr dy sd f, bLaw g lo lc lz ll lm lg ld fc, bTown g oD aD peD woD txD chD joD trD dyD sdD fD, bDR g x ta o lo go tt lt mo fo ro fl9]) := hD
    obtain ⟨hP, hD⟩ := zord (g := g) (Bs' := [bDR g x ta o lo go tt lt mo fo ro fl9, bFo g fo o lo oD, bTown g o a pe wo tx ch jo tr dy sd f, bLaw g lo lc lz ll lm lg ld fc, bTown g oD aD peD woD txD chD joD trD dyD sdD fD]) [4, 0, 1, 2, 3] rfl rfl hP hD
    exact zout htab hlocks hS (Nat.le_of_ble_eq_true rfl) (Nat.le_of_ble_eq_true rfl) hce hcv hcl (lm, lg, ld, peD, woD, txD, chD, joD, trD, dyD, sdD, fD) (show (E = "java/lang/IllegalArgumentException") ∧ (0 ≤ peD.toInt ∧ peD.toInt ≤ 8) ∧ (0 ≤ woD.toInt ∧ woD.toInt ≤ 6) ∧ (zZ4 fD) ∧ (E = "java/lang/IllegalArgumentException" → (1, 0) = zdThen (zLwR fc lz ll) n c9 (pe, wo, tx, ch, jo, tr, dy, sd, f)) from ⟨hE9, (show 0 ≤ peD.toInt ∧ peD.toInt ≤ 8 from b_peD), (show 0 ≤ woD.toInt ∧ woD.toInt ≤ 6 from b_woD), (show zZ4 fD from rfD), (show E = "java/lang/IllegalArgumentException" → (1, 0) = zdThen (zLwR fc lz ll) n c9 (pe, wo, tx, ch, jo, tr, dy, sd, f) from (fun h9 => zdThen_c1 hy2))⟩) hP hD
  · skip
    replace hq1 : (0 ≤ n.toInt ∧ n.toInt ≤ 100) := hq1
    have hP : va_P g.1 vwCl (List.flatten [bFo g fo o lo oD, bTown g o a pe wo tx ch jo tr dy sd f, bLaw g lo lc lz ll lm lg ld fc, bTown g oD aD peD woD txD chD joD trD dyD sdD fD, bDR g x ta o lo go tt lt mo fo ro fl9]) H := hP
    have hD : va_D A (List.flatten [bFo g fo o lo oD, bTown g o a pe wo tx ch jo tr dy sd f, bLaw g lo lc lz ll lm lg ld fc, bTown g oD aD peD woD txD chD joD trD dyD sdD fD, bDR g x ta o lo go tt lt mo fo ro fl9]) := hD
    refine W.widen (k := 1) (n := 6) (Nat.le_of_ble_eq_true rfl) (Nat.le_of_ble_eq_true rfl) ?_
    refine W.eq (g2 := F0 m 8 ls []) rfl ?_
    refine lv_aload_n hx hb dX11_then_8 rfl (lv_at hl 0 rfl) ?_
    refine va_get (D := g.1) (ci := 9) (v := .ref fo) (C := RX11) (T := TX11) (N := 10) hx hb hts izRX11 hown hK hP 27 rfl rfl 7 (by decide) (hts _ k554) (fun _ h9 => h9) rfl dX11_then_9 ?_
    refine lv_iconst (v := 0) hx hb dX11_then_12 (by decide) ?_
    refine lv_iconst (v := 0) hx hb dX11_then_13 (by decide) ?_
    refine lv_iload_n hx hb dX11_then_14 rfl (lv_at hl 1 rfl) ?_
    refine mcallV' (g := g) (q0 := 0) (ci := 0) (As := [.int 0, .int 0, .int n]) (rest := []) St hK hT hA hP hD hS hl.1 [0, 1, 2, 3] [4] rfl rfl rfl (c_f_lookAheadC l g fo o lo oD a pe wo tx ch jo tr dy sd f lc lz ll lm lg ld fc aD peD woD txD chD joD trD dyD sdD fD 0 0 n b_pe b_wo rf b_lz b_peD b_woD rfD hq1) (cwV 3 hts (zgL (zl4 k685 k167 k168 k169) k164) rfl rfl rfl (by decide +kernel) ⟨Nat.le_of_ble_eq_true rfl, Nat.le_of_ble_eq_true rfl⟩) rfl rfl rfl rfl (Nat.le_of_ble_eq_true rfl) dX11_then_15 ⟨(Nat.le_of_ble_eq_true rfl), (Nat.le_of_ble_eq_true rfl)⟩ (fun u_ H locs hq16 hP hD hS => ?_)
    obtain ⟨lm2_3, lg2_4, ld2_5, pe3_6, wo3_7, tx3_8, ch3_9, jo3_10, tr3_11, dy3_12, sd3_13, f3_14, q_15⟩ := u_
    replace hq16 : (0 ≤ pe3_6.toInt ∧ pe3_6.toInt ≤ 8) ∧ (0 ≤ wo3_7.toInt ∧ wo3_7.toInt ≤ 6) ∧ (zZ4 f3_14) ∧ (zR9 (pe3_6, wo3_7, tx3_8, ch3_9, jo3_10, tr3_11, dy3_12, sd3_13, f3_14) (zLk (zLwR fc lz ll) 0 0 n.toInt.toNat (pe, wo, tx, ch, jo, tr, dy, sd, f))) ∧ (q_15 = zBl9 (pe3_6, wo3_7, tx3_8, ch3_9, jo3_10, tr3_11, dy3_12, sd3_13, f3_14)) := hq16
    have hP : va_P g.1 vwCl (List.flatten [bDR g x ta o lo go tt lt mo fo ro fl9, bFo g fo o lo oD, bTown g o a pe wo tx ch jo tr dy sd f, bLaw g lo lc lz ll lm2_3 lg2_4 ld2_5 fc, bTown g oD aD pe3_6 wo3_7 tx3_8 ch3_9 jo3_10 tr3_11 dy3_12 sd3_13 f3_14]) H := hP
    have hD : va_D A (List.flatten [bDR g x ta o lo go tt lt mo fo ro fl9, bFo g fo o lo oD, bTown g o a pe wo tx ch jo tr dy sd f, bLaw g lo lc lz ll lm2_3 lg2_4 ld2_5 fc, bTown g oD aD pe3_6 wo3_7 tx3_8 ch3_9 jo3_10 tr3_11 dy3_12 sd3_13 f3_14]) := hD
    refine W.widen (k := 1) (n := 6) (Nat.le_of_ble_eq_true rfl) (Nat.le_of_ble_eq_true rfl) ?_
    refine W.eq (g2 := F0 m 18 ls [.int q_15]) rfl ?_
    obtain ⟨hq16_0, hq16_1, rf3_14, hq16_3, hq16_4⟩ := hq16
    refine lv_istore_n (lv' := [(3, .int q_15), (0, .ref x), (1, .int n), (2, .int c9)]) hx hb dX11_then_18 rfl hl (by decide) rfl (fun ls hl => ?_)
    refine lv_iload_n hx hb dX11_then_19 rfl (lv_at hl 3 rfl) ?_
    refine lv_if_eq (tgt := 36) hx hb dX11_then_20 (by decide) (fun cb9 => ?_) (fun cb9 => ?_)
    · skip
      have c17 : c9.toInt = 0 := zeq cb9 rfl (by decide)
      have n18 : 0 ≤ c9.toInt := Int.le_trans (Int.le_refl _) (Int.le_of_eq c17.symm)
      have n19 : c9.toInt ≤ 0 := Int.le_trans (Int.le_of_eq c17) (Int.le_refl _)
      refine lv_iload_n hx hb dX11_then_36 rfl (lv_at hl 0 rfl) ?_
      have hP : va_P g.1 vwCl (List.flatten [bDR g x ta o lo go tt lt mo fo ro fl9, bFo g fo o lo oD, bTown g o a pe wo tx ch jo tr dy sd f, bLaw g lo lc lz ll lm2_3 lg2_4 ld2_5 fc, bTown g oD aD pe3_6 wo3_7 tx3_8 ch3_9 jo3_10 tr3_11 dy3_12 sd3_13 f3_14]) H := hP
      have hD : va_D A (List.flatten [bDR g x ta o lo go tt lt mo fo ro fl9, bFo g fo o lo oD, bTown g o a pe wo tx ch jo tr dy sd f, bLaw g lo lc lz ll lm2_3 lg2_4 ld2_5 fc, bTown g oD aD pe3_6 wo3_7 tx3_8 ch3_9 jo3_10 tr3_11 dy3_12 sd3_13 f3_14]) := hD
      exact zret_i hx hb hr hlocks hS (Nat.le_of_ble_eq_true rfl) (Nat.le_of_ble_eq_true rfl) dX11_then_37 (lm2_3, lg2_4, ld2_5, pe3_6, wo3_7, tx3_8, ch3_9, jo3_10, tr3_11, dy3_12, sd3_13, f3_14, q_15) rfl (show (0 ≤ pe3_6.toInt ∧ pe3_6.toInt ≤ 8) ∧ (0 ≤ wo3_7.toInt ∧ wo3_7.toInt ≤ 6) ∧ (zZ4 f3_14) ∧ ((0, q_15) = zdThen (zLwR fc lz ll) n c9 (pe, wo, tx, ch, jo, tr, dy, sd, f)) from ⟨(by first | assumption | omega | decide), (by first | assumption | omega | decide), (by first | assumption | omega | decide), (zdThen_c0 b_pe (by omega) hq16_3 hq16_4 (by omega))⟩) hP hD
    · skip
      have c20 : ¬ c9.toInt = 0 := zne cb9 rfl (by decide)
      refine lv_aload_n hx hb dX11_then_23 rfl (lv_at hl 1 rfl) ?_
      refine va_get (D := g.1) (ci := 9) (v := .ref fo) (C := RX11) (T := TX11) (N := 10) hx hb hts izRX11 hown hK hP 0 rfl rfl 7 (by decide) (hts _ k554) (fun _ h9 => h9) rfl dX11_then_24 ?_
      refine va_get (D := g.1) (ci := 0) (v := .ref oD) (C := RX0) (T := TX0) (N := 3) hx hb hts izRX0 hown hK hP 1 rfl rfl 2 (by decide) (hts _ k684) (fun _ h9 => h9) rfl dX11_then_27 ?_
      refine va_get (D := g.1) (ci := 7) (v := .int ch3_9) (C := RX9) (T := TX9) (N := 19) hx hb hts izRX9 hown hK hP 16 rfl rfl 3 (by decide) (hts _ k677) (fun _ h9 => h9) rfl dX11_then_30 ?_
      refine lv_goto (tgt := 37) hx hb dX11_then_33 (by decide) ?_
      have hP : va_P g.1 vwCl (List.flatten [bDR g x ta o lo go tt lt mo fo ro fl9, bFo g fo o lo oD, bTown g o a pe wo tx ch jo tr dy sd f, bLaw g lo lc lz ll lm2_3 lg2_4 ld2_5 fc, bTown g oD aD pe3_6 wo3_7 tx3_8 ch3_9 jo3_10 tr3_11 dy3_12 sd3_13 f3_14]) H := hP
      have hD : va_D A (List.flatten [bDR g x ta o lo go tt lt mo fo ro fl9, bFo g fo o lo oD, bTown g o a pe wo tx ch jo tr dy sd f, bLaw g lo lc lz ll lm2_3 lg2_4 ld2_5 fc, bTown g oD aD pe3_6 wo3_7 tx3_8 ch3_9 jo3_10 tr3_11 dy3_12 sd3_13 f3_14]) := hD
      exact zret_i hx hb hr hlocks hS (Nat.le_of_ble_eq_true rfl) (Nat.le_of_ble_eq_true rfl) dX11_then_37 (lm2_3, lg2_4, ld2_5, pe3_6, wo3_7, tx3_8, ch3_9, jo3_10, tr3_11, dy3_12, sd3_13, f3_14, ch3_9) rfl (show (0 ≤ pe3_6.toInt ∧ pe3_6.toInt ≤ 8) ∧ (0 ≤ wo3_7.toInt ∧ wo3_7.toInt ≤ 6) ∧ (zZ4 f3_14) ∧ ((0, ch3_9) = zdThen (zLwR fc lz ll) n c9 (pe, wo, tx, ch, jo, tr, dy, sd, f)) from ⟨(by first | assumption | omega | decide), (by first | assumption | omega | decide), (by first | assumption | omega | decide), (zdThen_c9 b_pe (by omega) hq16_3 (by omega))⟩) hP hD
set_option maxRecDepth 100000 in
set_option maxHeartbeats 4000000 in
theorem l_thenC (l : Launch) (hfl : l.stackTraces = false) (g : zG) (x : Nat) (ta : Nat) (o : Nat) (lo : Nat) (go : Nat) (tt : Nat) (lt : Nat) (mo : Nat) (fo : Nat) (ro : Nat) (fl9 : Int32) (a : Nat → Nat) (pe : Int32) (wo : Int32) (tx : Int32) (ch : Int32) (jo : Int32) (tr : Int32) (dy : Int32) (sd : Int32) (f : Nat → Nat → Int32) (lc : Nat) (lz : Int32) (ll : Int32) (lm : Int32) (lg : Int32) (ld : Int32) (fc : Nat → Int32) (oD : Nat) (aD : Nat → Nat) (peD : Int32) (woD : Int32) (txD : Int32) (chD : Int32) (joD : Int32) (trD : Int32) (dyD : Int32) (sdD : Int32) (fD : Nat → Nat → Int32) (oa : Nat) (fz : Nat → Int64) (n : Int32) (c9 : Int32) (b_pe : 0 ≤ pe.toInt ∧ pe.toInt ≤ 8) (b_wo : 0 ≤ wo.toInt ∧ wo.toInt ≤ 6) (rf : zZ4 f) (b_lz : 0 ≤ lz.toInt ∧ lz.toInt ≤ 400) (b_peD : 0 ≤ peD.toInt ∧ peD.toInt ≤ 8) (b_woD : 0 ≤ woD.toInt ∧ woD.toInt ≤ 6) (rfD : zZ4 fD) : zX' g l yL_then (Cond.codeWith yL_then cL_then 5 (some .int) [(0, 10, 13, 13)] :: zB) ({ frames := 8, cells := 1, slots := 6, locals := 175 } : Room) [.ref x, .int n, .int c9, .ref oa] [bDR g x ta o lo go tt lt mo fo ro fl9, bFo g fo o lo oD, bTown g o a pe wo tx ch jo tr dy sd f, bLaw g lo lc lz ll lm lg ld fc, bTown g oD aD peD woD txD chD joD trD dyD sdD fD, bOut g oa fz] (fun u : Int32 × Int32 × Int32 × Int32 × Int32 × Int32 × Int32 × Int32 × Int32 × Int32 × Int32 × (Nat → Nat → Int32) × (Nat → Int64) × Int32 × Int32 => (fun (lm2 : Int32) (lg2 : Int32) (ld2 : Int32) (peD2 : Int32) (woD2 : Int32) (txD2 : Int32) (chD2 : Int32) (joD2 : Int32) (trD2 : Int32) (dyD2 : Int32) (sdD2 : Int32) (fD2 : Nat → Nat → Int32) (fz2 : Nat → Int64) (q : Int32) (a9 : Int32) => some (.int q)) (u.1) (u.2.1) (u.2.2.1) (u.2.2.2.1) (u.2.2.2.2.1) (u.2.2.2.2.2.1) (u.2.2.2.2.2.2.1) (u.2.2.2.2.2.2.2.1) (u.2.2.2.2.2.2.2.2.1) (u.2.2.2.2.2.2.2.2.2.1) (u.2.2.2.2.2.2.2.2.2.2.1) (u.2.2.2.2.2.2.2.2.2.2.2.1) (u.2.2.2.2.2.2.2.2.2.2.2.2.1) (u.2.2.2.2.2.2.2.2.2.2.2.2.2.1) (u.2.2.2.2.2.2.2.2.2.2.2.2.2.2)) (fun u : Int32 × Int32 × Int32 × Int32 × Int32 × Int32 × Int32 × Int32 × Int32 × Int32 × Int32 × (Nat → Nat → Int32) × (Nat → Int64) × Int32 × Int32 => (fun (lm2 : Int32) (lg2 : Int32) (ld2 : Int32) (peD2 : Int32) (woD2 : Int32) (txD2 : Int32) (chD2 : Int32) (joD2 : Int32) (trD2 : Int32) (dyD2 : Int32) (sdD2 : Int32) (fD2 : Nat → Nat → Int32) (fz2 : Nat → Int64) (q : Int32) (a9 : Int32) => (0 ≤ peD2.toInt ∧ peD2.toInt ≤ 8) ∧ (0 ≤ woD2.toInt ∧ woD2.toInt ≤ 6) ∧ (zZ4 fD2) ∧ ((q, a9) = zdThen (zLwR fc lz ll) n c9 (pe, wo, tx, ch, jo, tr, dy, sd, f)) ∧ (q.toInt = 0 → fz2 0 = Int32.toInt64 a9)) (u.1) (u.2.1) (u.2.2.1) (u.2.2.2.1) (u.2.2.2.2.1) (u.2.2.2.2.2.1) (u.2.2.2.2.2.2.1) (u.2.2.2.2.2.2.2.1) (u.2.2.2.2.2.2.2.2.1) (u.2.2.2.2.2.2.2.2.2.1) (u.2.2.2.2.2.2.2.2.2.2.1) (u.2.2.2.2.2.2.2.2.2.2.2.1) (u.2.2.2.2.2.2.2.2.2.2.2.2.1) (u.2.2.2.2.2.2.2.2.2.2.2.2.2.1) (u.2.2.2.2.2.2.2.2.2.2.2.2.2.2)) (fun u : Int32 × Int32 × Int32 × Int32 × Int32 × Int32 × Int32 × Int32 × Int32 × Int32 × Int32 × (Nat → Nat → Int32) × (Nat → Int64) × Int32 × Int32 => (fun (lm2 : Int32) (lg2 : Int32) (ld2 : Int32) (peD2 : Int32) (woD2 : Int32) (txD2 : Int32) (chD2 : Int32) (joD2 : Int32) (trD2 : Int32) (dyD2 : Int32) (sdD2 : Int32) (fD2 : Nat → Nat → Int32) (fz2 : Nat → Int64) (q : Int32) (a9 : Int32) => [bDR g x ta o lo go tt lt mo fo ro fl9, bFo g fo o lo oD, bTown g o a pe wo tx ch jo tr dy sd f, bLaw g lo lc lz ll lm2 lg2 ld2 fc, bTown g oD aD peD2 woD2 txD2 chD2 joD2 trD2 dyD2 sdD2 fD2, bOut g oa fz2]) (u.1) (u.2.1) (u.2.2.1) (u.2.2.2.1) (u.2.2.2.2.1) (u.2.2.2.2.2.1) (u.2.2.2.2.2.2.1) (u.2.2.2.2.2.2.2.1) (u.2.2.2.2.2.2.2.2.1) (u.2.2.2.2.2.2.2.2.2.1) (u.2.2.2.2.2.2.2.2.2.2.1) (u.2.2.2.2.2.2.2.2.2.2.2.1) (u.2.2.2.2.2.2.2.2.2.2.2.2.1) (u.2.2.2.2.2.2.2.2.2.2.2.2.2.1) (u.2.2.2.2.2.2.2.2.2.2.2.2.2.2)) zNo zN0 := by
  refine zX'.ofH (cc := cL_then) (maxL := 5) (rt := (some .int)) (by decide) rfl (Nat.le_of_ble_eq_true rfl) ?_
  intro p e s m args below meth c A ls St hr hlocks htab hin hK hT hA hP hD hS hl
  obtain ⟨hx, hb, hml, hown, hts⟩ := id St
  have hl : lv_has ls 5 [(0, .ref x), (1, .int n), (2, .int c9), (3, .ref oa)] := hl
  refine lv_aload_n hx hb dL_then_0 rfl (lv_at hl 3 rfl) ?_
  refine lv_iconst (v := 0) hx hb dL_then_1 (by decide) ?_
  refine lv_aload_n hx hb dL_then_2 rfl (lv_at hl 0 rfl) ?_
  refine lv_iload_n hx hb dL_then_3 rfl (lv_at hl 1 rfl) ?_
  refine lv_iload_n hx hb dL_then_4 rfl (lv_at hl 2 rfl) ?_
  refine xcallV' (g := g) (q0 := 0) (ci := 9) (As := [.int n, .int c9]) (rest := [.int 0, .ref oa]) St hK hT hA hP hD hS hl.1 [0, 1, 2, 3, 4] [5] rfl rfl rfl (c_x_thenC l hfl g x ta o lo go tt lt mo fo ro fl9 a pe wo tx ch jo tr dy sd f lc lz ll lm lg ld fc oD aD peD woD txD chD joD trD dyD sdD fD n c9 b_pe b_wo rf b_lz b_peD b_woD rfD) (cwV 2 hts (zgL (zl4 k1216 k1217 k1218 k621) k687) rfl rfl rfl (by decide +kernel) ⟨Nat.le_of_ble_eq_true rfl, Nat.le_of_ble_eq_true rfl⟩) rfl rfl rfl rfl (Nat.le_of_ble_eq_true rfl) dL_then_5 ⟨(Nat.le_of_ble_eq_true rfl), (Nat.le_of_ble_eq_true rfl)⟩ (fun E ce q9 u9 H locs hpx hP hD hS hce hcv hcl => ?_) (fun u_ H locs hq14 hP hD hS => ?_)
  · skip
    obtain ⟨lm2_15, lg2_16, ld2_17, peD2_18, woD2_19, txD2_20, chD2_21, joD2_22, trD2_23, dyD2_24, sdD2_25, fD2_26⟩ := u9
    have hpx : (E = "java/lang/IllegalArgumentException") ∧ (0 ≤ peD2_18.toInt ∧ peD2_18.toInt ≤ 8) ∧ (0 ≤ woD2_19.toInt ∧ woD2_19.toInt ≤ 6) ∧ (zZ4 fD2_26) ∧ (E = "java/lang/IllegalArgumentException" → (1, 0) = zdThen (zLwR fc lz ll) n c9 (pe, wo, tx, ch, jo, tr, dy, sd, f)) := hpx
    have hP : va_P g.1 vwCl (List.flatten [bOut g oa fz, bDR g x ta o lo go tt lt mo fo ro fl9, bFo g fo o lo oD, bTown g o a pe wo tx ch jo tr dy sd f, bLaw g lo lc lz ll lm2_15 lg2_16 ld2_17 fc, bTown g oD aD peD2_18 woD2_19 txD2_20 chD2_21 joD2_22 trD2_23 dyD2_24 sdD2_25 fD2_26]) H := hP
    have hD : va_D A (List.flatten [bOut g oa fz, bDR g x ta o lo go tt lt mo fo ro fl9, bFo g fo o lo oD, bTown g o a pe wo tx ch jo tr dy sd f, bLaw g lo lc lz ll lm2_15 lg2_16 ld2_17 fc, bTown g oD aD peD2_18 woD2_19 txD2_20 chD2_21 joD2_22 trD2_23 dyD2_24 sdD2_25 fD2_26]) := hD
    obtain ⟨hE9, hy27, hy28, rfD2_26, hy29⟩ := hpx
    obtain rfl := hE9
    refine vx_catch hown [] ⟨0, 10, 13, 13⟩ [] (by rw [htab]; rfl) (fun z hz => absurd hz List.not_mem_nil) (by decide) (by decide) (hts _ k1155) ((hT.1.2.2.2.2.1 _ (List.mem_of_getElem? (i := 1) rfl)).use) hce hcv hcl ?_
    refine W.widen (k := 1) (n := 6) (Nat.le_of_ble_eq_true rfl) (Nat.le_of_ble_eq_true rfl) ?_
    refine lv_astore (lv' := [(4, .ref q9), (0, .ref x), (1, .int n), (2, .int c9), (3, .ref oa)]) hx hb dL_then_13 hl (by decide) rfl (fun ls hl => ?_)
    refine lv_iconst (v := 1) hx hb dL_then_15 (by decide) ?_
    have hL1 : (1 : Int32).toInt = 1 := by decide
    have hP : va_P g.1 vwCl (List.flatten [bOut g oa fz, bDR g x ta o lo go tt lt mo fo ro fl9, bFo g fo o lo oD, bTown g o a pe wo tx ch jo tr dy sd f, bLaw g lo lc lz ll lm2_15 lg2_16 ld2_17 fc, bTown g oD aD peD2_18 woD2_19 txD2_20 chD2_21 joD2_22 trD2_23 dyD2_24 sdD2_25 fD2_26]) H := hP
    have hD : va_D A (List.flatten [bOut g oa fz, bDR g x ta o lo go tt lt mo fo ro fl9, bFo g fo o lo oD, bTown g o a pe wo tx ch jo tr dy sd f, bLaw g lo lc lz ll lm2_15 lg2_16 ld2_17 fc, bTown g oD aD peD2_18 woD2_19 txD2_20 chD2_21 joD2_22 trD2_23 dyD2_24 sdD2_25 fD2_26]) := hD
    obtain ⟨hP, hD⟩ := zord (g := g) (Bs' := [bDR g x ta o lo go tt lt mo fo ro fl9, bFo g fo o lo oD, bTown g o a pe wo tx ch jo tr dy sd f, bLaw g lo lc lz ll lm2_15 lg2_16 ld2_17 fc, bTown g oD aD peD2_18 woD2_19 txD2_20 chD2_21 joD2_22 trD2_23 dyD2_24 sdD2_25 fD2_26, bOut g oa fz]) [1, 2, 3, 4, 5, 0] rfl rfl hP hD
    exact zret_i hx hb hr hlocks hS (Nat.le_of_ble_eq_true rfl) (Nat.le_of_ble_eq_true rfl) dL_then_16 (lm2_15, lg2_16, ld2_17, peD2_18, woD2_19, txD2_20, chD2_21, joD2_22, trD2_23, dyD2_24, sdD2_25, fD2_26, fz, (1 : Int32), (0 : Int32)) rfl (show (0 ≤ peD2_18.toInt ∧ peD2_18.toInt ≤ 8) ∧ (0 ≤ woD2_19.toInt ∧ woD2_19.toInt ≤ 6) ∧ (zZ4 fD2_26) ∧ ((1, 0) = zdThen (zLwR fc lz ll) n c9 (pe, wo, tx, ch, jo, tr, dy, sd, f)) ∧ ((1 : Int32).toInt = 0 → fz 0 = Int32.toInt64 0) from ⟨(by first | assumption | omega | decide), (by first | assumption | omega | decide), (by first | assumption | omega | decide), (hy29 rfl), (fun h9 => absurd h9 (by decide))⟩) hP hD
  · skip
    obtain ⟨lm2_1, lg2_2, ld2_3, peD2_4, woD2_5, txD2_6, chD2_7, joD2_8, trD2_9, dyD2_10, sdD2_11, fD2_12, q_13⟩ := u_
    replace hq14 : (0 ≤ peD2_4.toInt ∧ peD2_4.toInt ≤ 8) ∧ (0 ≤ woD2_5.toInt ∧ woD2_5.toInt ≤ 6) ∧ (zZ4 fD2_12) ∧ ((0, q_13) = zdThen (zLwR fc lz ll) n c9 (pe, wo, tx, ch, jo, tr, dy, sd, f)) := hq14
    have hP : va_P g.1 vwCl (List.flatten [bOut g oa fz, bDR g x ta o lo go tt lt mo fo ro fl9, bFo g fo o lo oD, bTown g o a pe wo tx ch jo tr dy sd f, bLaw g lo lc lz ll lm2_1 lg2_2 ld2_3 fc, bTown g oD aD peD2_4 woD2_5 txD2_6 chD2_7 joD2_8 trD2_9 dyD2_10 sdD2_11 fD2_12]) H := hP
    have hD : va_D A (List.flatten [bOut g oa fz, bDR g x ta o lo go tt lt mo fo ro fl9, bFo g fo o lo oD, bTown g o a pe wo tx ch jo tr dy sd f, bLaw g lo lc lz ll lm2_1 lg2_2 ld2_3 fc, bTown g oD aD peD2_4 woD2_5 txD2_6 chD2_7 joD2_8 trD2_9 dyD2_10 sdD2_11 fD2_12]) := hD
    refine W.widen (k := 1) (n := 6) (Nat.le_of_ble_eq_true rfl) (Nat.le_of_ble_eq_true rfl) ?_
    refine W.eq (g2 := F0 m 8 ls [.int q_13, .int 0, .ref oa]) rfl ?_
    obtain ⟨hq14_0, hq14_1, rfD2_12, hq14_3⟩ := hq14
    refine lv_i2l (v := (q_13 : Int32).toInt64) hx hb dL_then_8 rfl ?_
    refine va_last hx hb hK hP hD hS 0 2 rfl rfl (zin rfl) dL_then_9 (fun H locs hP hD hS => ?_)
    have hP : va_P g.1 vwCl (List.flatten [[(oa, .inl (g.2 2, 1, .inr (.inl (vp_updL fz 0 ((q_13 : Int32).toInt64)))))], bDR g x ta o lo go tt lt mo fo ro fl9, bFo g fo o lo oD, bTown g o a pe wo tx ch jo tr dy sd f, bLaw g lo lc lz ll lm2_1 lg2_2 ld2_3 fc, bTown g oD aD peD2_4 woD2_5 txD2_6 chD2_7 joD2_8 trD2_9 dyD2_10 sdD2_11 fD2_12]) H := hP
    have hD : va_D A (List.flatten [[(oa, .inl (g.2 2, 1, .inr (.inl (vp_updL fz 0 ((q_13 : Int32).toInt64)))))], bDR g x ta o lo go tt lt mo fo ro fl9, bFo g fo o lo oD, bTown g o a pe wo tx ch jo tr dy sd f, bLaw g lo lc lz ll lm2_1 lg2_2 ld2_3 fc, bTown g oD aD peD2_4 woD2_5 txD2_6 chD2_7 joD2_8 trD2_9 dyD2_10 sdD2_11 fD2_12]) := hD
    refine lv_goto (tgt := 17) hx hb dL_then_10 (by decide) ?_
    refine lv_iconst (v := 0) hx hb dL_then_17 (by decide) ?_
    have hL0 : (0 : Int32).toInt = 0 := by decide
    have hP : va_P g.1 vwCl (List.flatten [bOut g oa (vp_updL fz 0 ((q_13 : Int32).toInt64)), bDR g x ta o lo go tt lt mo fo ro fl9, bFo g fo o lo oD, bTown g o a pe wo tx ch jo tr dy sd f, bLaw g lo lc lz ll lm2_1 lg2_2 ld2_3 fc, bTown g oD aD peD2_4 woD2_5 txD2_6 chD2_7 joD2_8 trD2_9 dyD2_10 sdD2_11 fD2_12]) H := hP
    have hD : va_D A (List.flatten [bOut g oa (vp_updL fz 0 ((q_13 : Int32).toInt64)), bDR g x ta o lo go tt lt mo fo ro fl9, bFo g fo o lo oD, bTown g o a pe wo tx ch jo tr dy sd f, bLaw g lo lc lz ll lm2_1 lg2_2 ld2_3 fc, bTown g oD aD peD2_4 woD2_5 txD2_6 chD2_7 joD2_8 trD2_9 dyD2_10 sdD2_11 fD2_12]) := hD
    obtain ⟨hP, hD⟩ := zord (g := g) (Bs' := [bDR g x ta o lo go tt lt mo fo ro fl9, bFo g fo o lo oD, bTown g o a pe wo tx ch jo tr dy sd f, bLaw g lo lc lz ll lm2_1 lg2_2 ld2_3 fc, bTown g oD aD peD2_4 woD2_5 txD2_6 chD2_7 joD2_8 trD2_9 dyD2_10 sdD2_11 fD2_12, bOut g oa (vp_updL fz 0 ((q_13 : Int32).toInt64))]) [1, 2, 3, 4, 5, 0] rfl rfl hP hD
    exact zret_i hx hb hr hlocks hS (Nat.le_of_ble_eq_true rfl) (Nat.le_of_ble_eq_true rfl) dL_then_18 (lm2_1, lg2_2, ld2_3, peD2_4, woD2_5, txD2_6, chD2_7, joD2_8, trD2_9, dyD2_10, sdD2_11, fD2_12, vp_updL fz 0 ((q_13 : Int32).toInt64), (0 : Int32), q_13) rfl (show (0 ≤ peD2_4.toInt ∧ peD2_4.toInt ≤ 8) ∧ (0 ≤ woD2_5.toInt ∧ woD2_5.toInt ≤ 6) ∧ (zZ4 fD2_12) ∧ ((0, q_13) = zdThen (zLwR fc lz ll) n c9 (pe, wo, tx, ch, jo, tr, dy, sd, f)) ∧ ((0 : Int32).toInt = 0 → (vp_updL fz 0 ((q_13 : Int32).toInt64)) 0 = Int32.toInt64 q_13) from ⟨(by first | assumption | omega | decide), (by first | assumption | omega | decide), (by first | assumption | omega | decide), hq14_3, (fun _ => rfl)⟩) hP hD
set_option maxRecDepth 100000 in
set_option maxHeartbeats 4000000 in
theorem c_x_fallsC (l : Launch) (hfl : l.stackTraces = false) (g : zG) (x : Nat) (ta : Nat) (o : Nat) (lo : Nat) (go : Nat) (tt : Nat) (lt : Nat) (mo : Nat) (fo : Nat) (ro : Nat) (fl9 : Int32) (a : Nat → Nat) (pe : Int32) (wo : Int32) (tx : Int32) (ch : Int32) (jo : Int32) (tr : Int32) (dy : Int32) (sd : Int32) (f : Nat → Nat → Int32) (lc : Nat) (lz : Int32) (ll : Int32) (lm : Int32) (lg : Int32) (ld : Int32) (fc : Nat → Int32) (oD : Nat) (aD : Nat → Nat) (peD : Int32) (woD : Int32) (txD : Int32) (chD : Int32) (joD : Int32) (trD : Int32) (dyD : Int32) (sdD : Int32) (fD : Nat → Nat → Int32) (n : Int32) (b_pe : 0 ≤ pe.toInt ∧ pe.toInt ≤ 8) (b_wo : 0 ≤ wo.toInt ∧ wo.toInt ≤ 6) (rf : zZ4 f) (b_lz : 0 ≤ lz.toInt ∧ lz.toInt ≤ 400) (b_peD : 0 ≤ peD.toInt ∧ peD.toInt ≤ 8) (b_woD : 0 ≤ woD.toInt ∧ woD.toInt ≤ 6) (rfD : zZ4 fD) : zX' g l yX11_falls (Cond.code yX11_falls cX11_falls 2 (some .int) :: zB) ({ frames := 7, cells := 1, slots := 6, locals := 152 } : Room) [.ref x, .int n] [bDR g x ta o lo go tt lt mo fo ro fl9, bFo g fo o lo oD, bTown g o a pe wo tx ch jo tr dy sd f, bLaw g lo lc lz ll lm lg ld fc, bTown g oD aD peD woD txD chD joD trD dyD sdD fD] (fun u : Int32 × Int32 × Int32 × Int32 × Int32 × Int32 × Int32 × Int32 × Int32 × Int32 × Int32 × (Nat → Nat → Int32) × Int32 => (fun (lm2 : Int32) (lg2 : Int32) (ld2 : Int32) (peD2 : Int32) (woD2 : Int32) (txD2 : Int32) (chD2 : Int32) (joD2 : Int32) (trD2 : Int32) (dyD2 : Int32) (sdD2 : Int32) (fD2 : Nat → Nat → Int32) (q : Int32) => some (.int q)) (u.1) (u.2.1) (u.2.2.1) (u.2.2.2.1) (u.2.2.2.2.1) (u.2.2.2.2.2.1) (u.2.2.2.2.2.2.1) (u.2.2.2.2.2.2.2.1) (u.2.2.2.2.2.2.2.2.1) (u.2.2.2.2.2.2.2.2.2.1) (u.2.2.2.2.2.2.2.2.2.2.1) (u.2.2.2.2.2.2.2.2.2.2.2.1) (u.2.2.2.2.2.2.2.2.2.2.2.2)) (fun u : Int32 × Int32 × Int32 × Int32 × Int32 × Int32 × Int32 × Int32 × Int32 × Int32 × Int32 × (Nat → Nat → Int32) × Int32 => (fun (lm2 : Int32) (lg2 : Int32) (ld2 : Int32) (peD2 : Int32) (woD2 : Int32) (txD2 : Int32) (chD2 : Int32) (joD2 : Int32) (trD2 : Int32) (dyD2 : Int32) (sdD2 : Int32) (fD2 : Nat → Nat → Int32) (q : Int32) => (0 ≤ peD2.toInt ∧ peD2.toInt ≤ 8) ∧ (0 ≤ woD2.toInt ∧ woD2.toInt ≤ 6) ∧ (zZ4 fD2) ∧ ((0, q) = zdFalls (zLwR fc lz ll) n (pe, wo, tx, ch, jo, tr, dy, sd, f))) (u.1) (u.2.1) (u.2.2.1) (u.2.2.2.1) (u.2.2.2.2.1) (u.2.2.2.2.2.1) (u.2.2.2.2.2.2.1) (u.2.2.2.2.2.2.2.1) (u.2.2.2.2.2.2.2.2.1) (u.2.2.2.2.2.2.2.2.2.1) (u.2.2.2.2.2.2.2.2.2.2.1) (u.2.2.2.2.2.2.2.2.2.2.2.1) (u.2.2.2.2.2.2.2.2.2.2.2.2)) (fun u : Int32 × Int32 × Int32 × Int32 × Int32 × Int32 × Int32 × Int32 × Int32 × Int32 × Int32 × (Nat → Nat → Int32) × Int32 => (fun (lm2 : Int32) (lg2 : Int32) (ld2 : Int32) (peD2 : Int32) (woD2 : Int32) (txD2 : Int32) (chD2 : Int32) (joD2 : Int32) (trD2 : Int32) (dyD2 : Int32) (sdD2 : Int32) (fD2 : Nat → Nat → Int32) (q : Int32) => [bDR g x ta o lo go tt lt mo fo ro fl9, bFo g fo o lo oD, bTown g o a pe wo tx ch jo tr dy sd f, bLaw g lo lc lz ll lm2 lg2 ld2 fc, bTown g oD aD peD2 woD2 txD2 chD2 joD2 trD2 dyD2 sdD2 fD2]) (u.1) (u.2.1) (u.2.2.1) (u.2.2.2.1) (u.2.2.2.2.1) (u.2.2.2.2.2.1) (u.2.2.2.2.2.2.1) (u.2.2.2.2.2.2.2.1) (u.2.2.2.2.2.2.2.2.1) (u.2.2.2.2.2.2.2.2.2.1) (u.2.2.2.2.2.2.2.2.2.2.1) (u.2.2.2.2.2.2.2.2.2.2.2.1) (u.2.2.2.2.2.2.2.2.2.2.2.2)) (fun (E : String) => fun u : Int32 × Int32 × Int32 × Int32 × Int32 × Int32 × Int32 × Int32 × Int32 × Int32 × Int32 × (Nat → Nat → Int32) => (fun (lm2 : Int32) (lg2 : Int32) (ld2 : Int32) (peD2 : Int32) (woD2 : Int32) (txD2 : Int32) (chD2 : Int32) (joD2 : Int32) (trD2 : Int32) (dyD2 : Int32) (sdD2 : Int32) (fD2 : Nat → Nat → Int32) => (E = "java/lang/IllegalArgumentException") ∧ (0 ≤ peD2.toInt ∧ peD2.toInt ≤ 8) ∧ (0 ≤ woD2.toInt ∧ woD2.toInt ≤ 6) ∧ (zZ4 fD2) ∧ (E = "java/lang/IllegalArgumentException" → (1, 0) = zdFalls (zLwR fc lz ll) n (pe, wo, tx, ch, jo, tr, dy, sd, f))) (u.1) (u.2.1) (u.2.2.1) (u.2.2.2.1) (u.2.2.2.2.1) (u.2.2.2.2.2.1) (u.2.2.2.2.2.2.1) (u.2.2.2.2.2.2.2.1) (u.2.2.2.2.2.2.2.2.1) (u.2.2.2.2.2.2.2.2.2.1) (u.2.2.2.2.2.2.2.2.2.2.1) (u.2.2.2.2.2.2.2.2.2.2.2)) (fun u : Int32 × Int32 × Int32 × Int32 × Int32 × Int32 × Int32 × Int32 × Int32 × Int32 × Int32 × (Nat → Nat → Int32) => (fun (lm2 : Int32) (lg2 : Int32) (ld2 : Int32) (peD2 : Int32) (woD2 : Int32) (txD2 : Int32) (chD2 : Int32) (joD2 : Int32) (trD2 : Int32) (dyD2 : Int32) (sdD2 : Int32) (fD2 : Nat → Nat → Int32) => [bDR g x ta o lo go tt lt mo fo ro fl9, bFo g fo o lo oD, bTown g o a pe wo tx ch jo tr dy sd f, bLaw g lo lc lz ll lm2 lg2 ld2 fc, bTown g oD aD peD2 woD2 txD2 chD2 joD2 trD2 dyD2 sdD2 fD2]) (u.1) (u.2.1) (u.2.2.1) (u.2.2.2.1) (u.2.2.2.2.1) (u.2.2.2.2.2.1) (u.2.2.2.2.2.2.1) (u.2.2.2.2.2.2.2.1) (u.2.2.2.2.2.2.2.2.1) (u.2.2.2.2.2.2.2.2.2.1) (u.2.2.2.2.2.2.2.2.2.2.1) (u.2.2.2.2.2.2.2.2.2.2.2)) := by
  refine zX'.of (cc := cX11_falls) (maxL := 2) (rt := (some .int)) (by decide) rfl (Nat.le_of_ble_eq_true rfl) ?_
  intro p e s m args below meth c A ls St hr hlocks htab hin hK hT hA hP hD hS hl
  obtain ⟨hx, hb, hml, hown, hts⟩ := id St
  have hl : lv_has ls 2 [(0, .ref x), (1, .int n)] := hl
  refine lv_aload_n hx hb dX11_falls_0 rfl (lv_at hl 0 rfl) ?_
  refine lv_iload_n hx hb dX11_falls_1 rfl (lv_at hl 1 rfl) ?_
  refine lv_iconst (v := 0) hx hb dX11_falls_2 (by decide) ?_
  refine lv_bipush (v := 100) hx hb dX11_falls_3 (by decide) ?_
  refine xcallV' (g := g) (q0 := 0) (ci := 9) (As := [.int n, .int 0, .int 100]) (rest := []) St hK hT hA hP hD hS hl.1 [0] [1, 2, 3, 4] rfl rfl rfl (c_x_nwE_0_100 l hfl g x ta o lo go tt lt mo fo ro fl9 n ) (cwV 3 hts (zgL (zl4 k668 k669 k670 k621) k667) rfl rfl rfl (by decide +kernel) ⟨Nat.le_of_ble_eq_true rfl, Nat.le_of_ble_eq_true rfl⟩) rfl rfl rfl rfl (Nat.le_of_ble_eq_true rfl) dX11_falls_5 ⟨(Nat.le_of_ble_eq_true rfl), (Nat.le_of_ble_eq_true rfl)⟩ (fun E ce q9 u9 H locs hpx hP hD hS hce hcv hcl => ?_) (fun _u H locs hq1 hP hD hS => ?_)
  · skip
    have hpx : (E = "java/lang/IllegalArgumentException") ∧ (¬ (0 ≤ n.toInt ∧ n.toInt ≤ 100)) := hpx
    have hP : va_P g.1 vwCl (List.flatten [bFo g fo o lo oD, bTown g o a pe wo tx ch jo tr dy sd f, bLaw g lo lc lz ll lm lg ld fc, bTown g oD aD peD woD txD chD joD trD dyD sdD fD, bDR g x ta o lo go tt lt mo fo ro fl9]) H := hP
    have hD : va_D A (List.flatten [bFo g fo o lo oD, bTown g o a pe wo tx ch jo tr dy sd f, bLaw g lo lc lz ll lm lg ld fc, bTown g oD aD peD woD txD chD joD trD dyD sdD fD, bDR g x ta o lo go tt lt mo fo ro fl9]) := hD
    obtain ⟨hE9, hy2⟩ := hpx
    have hP : va_P g.1 vwCl (List.flatten [bFo g fo o lo oD, bTown g o a pe wo tx ch jo tr dy sd f, bLaw g lo lc lz ll lm lg ld fc, bTown g oD aD peD woD txD chD joD trD dyD sdD fD, bDR g x ta o lo go tt lt mo fo ro fl9]) H := hP
    have hD : va_D A (List.flatten [bFo g fo o lo oD, bTown g o a pe wo tx ch jo tr dy sd f, bLaw g lo lc lz ll lm lg ld fc, bTown g oD aD peD woD txD chD joD trD dyD sdD fD, bDR g x ta o lo go tt lt mo fo ro fl9]) := hD
    obtain ⟨hP, hD⟩ := zord (g := g) (Bs' := [bDR g x ta o lo go tt lt mo fo ro fl9, bFo g fo o lo oD, bTown g o a pe wo tx ch jo tr dy sd f, bLaw g lo lc lz ll lm lg ld fc, bTown g oD aD peD woD txD chD joD trD dyD sdD fD]) [4, 0, 1, 2, 3] rfl rfl hP hD
    exact zout htab hlocks hS (Nat.le_of_ble_eq_true rfl) (Nat.le_of_ble_eq_true rfl) hce hcv hcl (lm, lg, ld, peD, woD, txD, chD, joD, trD, dyD, sdD, fD) (show (E = "java/lang/IllegalArgumentException") ∧ (0 ≤ peD.toInt ∧ peD.toInt ≤ 8) ∧ (0 ≤ woD.toInt ∧ woD.toInt ≤ 6) ∧ (zZ4 fD) ∧ (E = "java/lang/IllegalArgumentException" → (1, 0) = zdFalls (zLwR fc lz ll) n (pe, wo, tx, ch, jo, tr, dy, sd, f)) from ⟨hE9, (show 0 ≤ peD.toInt ∧ peD.toInt ≤ 8 from b_peD), (show 0 ≤ woD.toInt ∧ woD.toInt ≤ 6 from b_woD), (show zZ4 fD from rfD), (show E = "java/lang/IllegalArgumentException" → (1, 0) = zdFalls (zLwR fc lz ll) n (pe, wo, tx, ch, jo, tr, dy, sd, f) from (fun h9 => zdFalls_c1 hy2))⟩) hP hD
  · skip
    replace hq1 : (0 ≤ n.toInt ∧ n.toInt ≤ 100) := hq1
    have hP : va_P g.1 vwCl (List.flatten [bFo g fo o lo oD, bTown g o a pe wo tx ch jo tr dy sd f, bLaw g lo lc lz ll lm lg ld fc, bTown g oD aD peD woD txD chD joD trD dyD sdD fD, bDR g x ta o lo go tt lt mo fo ro fl9]) H := hP
    have hD : va_D A (List.flatten [bFo g fo o lo oD, bTown g o a pe wo tx ch jo tr dy sd f, bLaw g lo lc lz ll lm lg ld fc, bTown g oD aD peD woD txD chD joD trD dyD sdD fD, bDR g x ta o lo go tt lt mo fo ro fl9]) := hD
    refine W.widen (k := 1) (n := 6) (Nat.le_of_ble_eq_true rfl) (Nat.le_of_ble_eq_true rfl) ?_
    refine W.eq (g2 := F0 m 8 ls []) rfl ?_
    refine lv_aload_n hx hb dX11_falls_8 rfl (lv_at hl 0 rfl) ?_
    refine va_get (D := g.1) (ci := 9) (v := .ref fo) (C := RX11) (T := TX11) (N := 10) hx hb hts izRX11 hown hK hP 27 rfl rfl 7 (by decide) (hts _ k554) (fun _ h9 => h9) rfl dX11_falls_9 ?_
    refine lv_iconst (v := 0) hx hb dX11_falls_12 (by decide) ?_
    refine lv_iconst (v := 0) hx hb dX11_falls_13 (by decide) ?_
    refine lv_iload_n hx hb dX11_falls_14 rfl (lv_at hl 1 rfl) ?_
    refine mcallV' (g := g) (q0 := 0) (ci := 0) (As := [.int 0, .int 0, .int n]) (rest := []) St hK hT hA hP hD hS hl.1 [0, 1, 2, 3] [4] rfl rfl rfl (c_f_lookAheadC l g fo o lo oD a pe wo tx ch jo tr dy sd f lc lz ll lm lg ld fc aD peD woD txD chD joD trD dyD sdD fD 0 0 n b_pe b_wo rf b_lz b_peD b_woD rfD hq1) (cwV 3 hts (zgL (zl4 k685 k167 k168 k169) k164) rfl rfl rfl (by decide +kernel) ⟨Nat.le_of_ble_eq_true rfl, Nat.le_of_ble_eq_true rfl⟩) rfl rfl rfl rfl (Nat.le_of_ble_eq_true rfl) dX11_falls_15 ⟨(Nat.le_of_ble_eq_true rfl), (Nat.le_of_ble_eq_true rfl)⟩ (fun u_ H locs hq16 hP hD hS => ?_)
    obtain ⟨lm2_3, lg2_4, ld2_5, pe3_6, wo3_7, tx3_8, ch3_9, jo3_10, tr3_11, dy3_12, sd3_13, f3_14, q_15⟩ := u_
    replace hq16 : (0 ≤ pe3_6.toInt ∧ pe3_6.toInt ≤ 8) ∧ (0 ≤ wo3_7.toInt ∧ wo3_7.toInt ≤ 6) ∧ (zZ4 f3_14) ∧ (zR9 (pe3_6, wo3_7, tx3_8, ch3_9, jo3_10, tr3_11, dy3_12, sd3_13, f3_14) (zLk (zLwR fc lz ll) 0 0 n.toInt.toNat (pe, wo, tx, ch, jo, tr, dy, sd, f))) ∧ (q_15 = zBl9 (pe3_6, wo3_7, tx3_8, ch3_9, jo3_10, tr3_11, dy3_12, sd3_13, f3_14)) := hq16
    have hP : va_P g.1 vwCl (List.flatten [bDR g x ta o lo go tt lt mo fo ro fl9, bFo g fo o lo oD, bTown g o a pe wo tx ch jo tr dy sd f, bLaw g lo lc lz ll lm2_3 lg2_4 ld2_5 fc, bTown g oD aD pe3_6 wo3_7 tx3_8 ch3_9 jo3_10 tr3_11 dy3_12 sd3_13 f3_14]) H := hP
    have hD : va_D A (List.flatten [bDR g x ta o lo go tt lt mo fo ro fl9, bFo g fo o lo oD, bTown g o a pe wo tx ch jo tr dy sd f, bLaw g lo lc lz ll lm2_3 lg2_4 ld2_5 fc, bTown g oD aD pe3_6 wo3_7 tx3_8 ch3_9 jo3_10 tr3_11 dy3_12 sd3_13 f3_14]) := hD
    refine W.widen (k := 1) (n := 6) (Nat.le_of_ble_eq_true rfl) (Nat.le_of_ble_eq_true rfl) ?_
    refine W.eq (g2 := F0 m 18 ls [.int q_15]) rfl ?_
    obtain ⟨hq16_0, hq16_1, rf3_14, hq16_3, hq16_4⟩ := hq16
    refine lv_pop hx hb dX11_falls_18 rfl ?_
    refine lv_aload_n hx hb dX11_falls_19 rfl (lv_at hl 0 rfl) ?_
    refine va_get (D := g.1) (ci := 9) (v := .ref fo) (C := RX11) (T := TX11) (N := 10) hx hb hts izRX11 hown hK hP 0 rfl rfl 7 (by decide) (hts _ k554) (fun _ h9 => h9) rfl dX11_falls_20 ?_
    refine va_get (D := g.1) (ci := 0) (v := .ref oD) (C := RX0) (T := TX0) (N := 3) hx hb hts izRX0 hown hK hP 1 rfl rfl 2 (by decide) (hts _ k684) (fun _ h9 => h9) rfl dX11_falls_23 ?_
    refine lv_iconst (v := 2) hx hb dX11_falls_26 (by decide) ?_
    refine mcallV' (g := g) (q0 := 0) (ci := 7) (As := [.int 2]) (rest := []) St hK hT hA hP hD hS hl.1 [4] [0, 1, 2, 3] rfl rfl rfl (c_worksInF l g oD aD pe3_6 wo3_7 tx3_8 ch3_9 jo3_10 tr3_11 dy3_12 sd3_13 f3_14 2 hq16_0 hq16_1 rf3_14) (cwV 1 hts (zgL (zl4 k711 k80 k81 k24) k71) rfl rfl rfl (by decide +kernel) ⟨Nat.le_of_ble_eq_true rfl, Nat.le_of_ble_eq_true rfl⟩) rfl rfl rfl rfl (Nat.le_of_ble_eq_true rfl) dX11_falls_27 ⟨(Nat.le_of_ble_eq_true rfl), (Nat.le_of_ble_eq_true rfl)⟩ (fun _u H locs hq17 hP hD hS => ?_)
    have hP : va_P g.1 vwCl (List.flatten [bDR g x ta o lo go tt lt mo fo ro fl9, bFo g fo o lo oD, bTown g o a pe wo tx ch jo tr dy sd f, bLaw g lo lc lz ll lm2_3 lg2_4 ld2_5 fc, bTown g oD aD pe3_6 wo3_7 tx3_8 ch3_9 jo3_10 tr3_11 dy3_12 sd3_13 f3_14]) H := hP
    have hD : va_D A (List.flatten [bDR g x ta o lo go tt lt mo fo ro fl9, bFo g fo o lo oD, bTown g o a pe wo tx ch jo tr dy sd f, bLaw g lo lc lz ll lm2_3 lg2_4 ld2_5 fc, bTown g oD aD pe3_6 wo3_7 tx3_8 ch3_9 jo3_10 tr3_11 dy3_12 sd3_13 f3_14]) := hD
    refine W.widen (k := 1) (n := 6) (Nat.le_of_ble_eq_true rfl) (Nat.le_of_ble_eq_true rfl) ?_
    refine W.eq (g2 := F0 m 30 ls [.int (zWks f3_14 wo3_7.toInt.toNat 2)]) rfl ?_
    refine lv_aload_n hx hb dX11_falls_30 rfl (lv_at hl 0 rfl) ?_
    refine va_get (D := g.1) (ci := 9) (v := .ref o) (C := RX11) (T := TX11) (N := 10) hx hb hts izRX11 hown hK hP 0 rfl rfl 1 (by decide) (hts _ k538) (fun _ h9 => h9) rfl dX11_falls_31 ?_
    refine lv_iconst (v := 2) hx hb dX11_falls_34 (by decide) ?_
    refine mcallV' (g := g) (q0 := 0) (ci := 7) (As := [.int 2]) (rest := [.int (zWks f3_14 wo3_7.toInt.toNat 2)]) St hK hT hA hP hD hS hl.1 [2] [0, 1, 3, 4] rfl rfl rfl (c_worksInF l g o a pe wo tx ch jo tr dy sd f 2 b_pe b_wo rf) (cwV 1 hts (zgL (zl4 k711 k80 k81 k24) k71) rfl rfl rfl (by decide +kernel) ⟨Nat.le_of_ble_eq_true rfl, Nat.le_of_ble_eq_true rfl⟩) rfl rfl rfl rfl (Nat.le_of_ble_eq_true rfl) dX11_falls_35 ⟨(Nat.le_of_ble_eq_true rfl), (Nat.le_of_ble_eq_true rfl)⟩ (fun _u H locs hq18 hP hD hS => ?_)
    have hP : va_P g.1 vwCl (List.flatten [bDR g x ta o lo go tt lt mo fo ro fl9, bFo g fo o lo oD, bLaw g lo lc lz ll lm2_3 lg2_4 ld2_5 fc, bTown g oD aD pe3_6 wo3_7 tx3_8 ch3_9 jo3_10 tr3_11 dy3_12 sd3_13 f3_14, bTown g o a pe wo tx ch jo tr dy sd f]) H := hP
    have hD : va_D A (List.flatten [bDR g x ta o lo go tt lt mo fo ro fl9, bFo g fo o lo oD, bLaw g lo lc lz ll lm2_3 lg2_4 ld2_5 fc, bTown g oD aD pe3_6 wo3_7 tx3_8 ch3_9 jo3_10 tr3_11 dy3_12 sd3_13 f3_14, bTown g o a pe wo tx ch jo tr dy sd f]) := hD
    refine W.widen (k := 1) (n := 6) (Nat.le_of_ble_eq_true rfl) (Nat.le_of_ble_eq_true rfl) ?_
    refine W.eq (g2 := F0 m 38 ls [.int (zWks f wo.toInt.toNat 2), .int (zWks f3_14 wo3_7.toInt.toNat 2)]) rfl ?_
    refine lv_iconst (v := (-1)) hx hb dX11_falls_38 (by decide) ?_
    refine lv_ixor hx hb dX11_falls_39 ?_
    refine lv_iand hx hb dX11_falls_40 ?_
    have hP : va_P g.1 vwCl (List.flatten [bDR g x ta o lo go tt lt mo fo ro fl9, bFo g fo o lo oD, bLaw g lo lc lz ll lm2_3 lg2_4 ld2_5 fc, bTown g oD aD pe3_6 wo3_7 tx3_8 ch3_9 jo3_10 tr3_11 dy3_12 sd3_13 f3_14, bTown g o a pe wo tx ch jo tr dy sd f]) H := hP
    have hD : va_D A (List.flatten [bDR g x ta o lo go tt lt mo fo ro fl9, bFo g fo o lo oD, bLaw g lo lc lz ll lm2_3 lg2_4 ld2_5 fc, bTown g oD aD pe3_6 wo3_7 tx3_8 ch3_9 jo3_10 tr3_11 dy3_12 sd3_13 f3_14, bTown g o a pe wo tx ch jo tr dy sd f]) := hD
    obtain ⟨hP, hD⟩ := zord (g := g) (Bs' := [bDR g x ta o lo go tt lt mo fo ro fl9, bFo g fo o lo oD, bTown g o a pe wo tx ch jo tr dy sd f, bLaw g lo lc lz ll lm2_3 lg2_4 ld2_5 fc, bTown g oD aD pe3_6 wo3_7 tx3_8 ch3_9 jo3_10 tr3_11 dy3_12 sd3_13 f3_14]) [0, 1, 4, 2, 3] rfl rfl hP hD
    exact zret_i hx hb hr hlocks hS (Nat.le_of_ble_eq_true rfl) (Nat.le_of_ble_eq_true rfl) dX11_falls_41 (lm2_3, lg2_4, ld2_5, pe3_6, wo3_7, tx3_8, ch3_9, jo3_10, tr3_11, dy3_12, sd3_13, f3_14, (zWks f3_14 wo3_7.toInt.toNat 2) &&& ((zWks f wo.toInt.toNat 2) ^^^ (-1))) rfl (show (0 ≤ pe3_6.toInt ∧ pe3_6.toInt ≤ 8) ∧ (0 ≤ wo3_7.toInt ∧ wo3_7.toInt ≤ 6) ∧ (zZ4 f3_14) ∧ ((0, ((zWks f3_14 wo3_7.toInt.toNat 2) &&& ((zWks f wo.toInt.toNat 2) ^^^ (-1)))) = zdFalls (zLwR fc lz ll) n (pe, wo, tx, ch, jo, tr, dy, sd, f)) from ⟨(by first | assumption | omega | decide), (by first | assumption | omega | decide), (by first | assumption | omega | decide), (zdFalls_c0 b_pe b_wo (by omega) hq16_3)⟩) hP hD
set_option maxRecDepth 100000 in
set_option maxHeartbeats 4000000 in
theorem l_fallsC (l : Launch) (hfl : l.stackTraces = false) (g : zG) (x : Nat) (ta : Nat) (o : Nat) (lo : Nat) (go : Nat) (tt : Nat) (lt : Nat) (mo : Nat) (fo : Nat) (ro : Nat) (fl9 : Int32) (a : Nat → Nat) (pe : Int32) (wo : Int32) (tx : Int32) (ch : Int32) (jo : Int32) (tr : Int32) (dy : Int32) (sd : Int32) (f : Nat → Nat → Int32) (lc : Nat) (lz : Int32) (ll : Int32) (lm : Int32) (lg : Int32) (ld : Int32) (fc : Nat → Int32) (oD : Nat) (aD : Nat → Nat) (peD : Int32) (woD : Int32) (txD : Int32) (chD : Int32) (joD : Int32) (trD : Int32) (dyD : Int32) (sdD : Int32) (fD : Nat → Nat → Int32) (oa : Nat) (fz : Nat → Int64) (n : Int32) (b_pe : 0 ≤ pe.toInt ∧ pe.toInt ≤ 8) (b_wo : 0 ≤ wo.toInt ∧ wo.toInt ≤ 6) (rf : zZ4 f) (b_lz : 0 ≤ lz.toInt ∧ lz.toInt ≤ 400) (b_peD : 0 ≤ peD.toInt ∧ peD.toInt ≤ 8) (b_woD : 0 ≤ woD.toInt ∧ woD.toInt ≤ 6) (rfD : zZ4 fD) : zX' g l yL_falls (Cond.codeWith yL_falls cL_falls 4 (some .int) [(0, 9, 12, 13)] :: zB) ({ frames := 8, cells := 1, slots := 6, locals := 173 } : Room) [.ref x, .int n, .ref oa] [bDR g x ta o lo go tt lt mo fo ro fl9, bFo g fo o lo oD, bTown g o a pe wo tx ch jo tr dy sd f, bLaw g lo lc lz ll lm lg ld fc, bTown g oD aD peD woD txD chD joD trD dyD sdD fD, bOut g oa fz] (fun u : Int32 × Int32 × Int32 × Int32 × Int32 × Int32 × Int32 × Int32 × Int32 × Int32 × Int32 × (Nat → Nat → Int32) × (Nat → Int64) × Int32 × Int32 => (fun (lm2 : Int32) (lg2 : Int32) (ld2 : Int32) (peD2 : Int32) (woD2 : Int32) (txD2 : Int32) (chD2 : Int32) (joD2 : Int32) (trD2 : Int32) (dyD2 : Int32) (sdD2 : Int32) (fD2 : Nat → Nat → Int32) (fz2 : Nat → Int64) (q : Int32) (a9 : Int32) => some (.int q)) (u.1) (u.2.1) (u.2.2.1) (u.2.2.2.1) (u.2.2.2.2.1) (u.2.2.2.2.2.1) (u.2.2.2.2.2.2.1) (u.2.2.2.2.2.2.2.1) (u.2.2.2.2.2.2.2.2.1) (u.2.2.2.2.2.2.2.2.2.1) (u.2.2.2.2.2.2.2.2.2.2.1) (u.2.2.2.2.2.2.2.2.2.2.2.1) (u.2.2.2.2.2.2.2.2.2.2.2.2.1) (u.2.2.2.2.2.2.2.2.2.2.2.2.2.1) (u.2.2.2.2.2.2.2.2.2.2.2.2.2.2)) (fun u : Int32 × Int32 × Int32 × Int32 × Int32 × Int32 × Int32 × Int32 × Int32 × Int32 × Int32 × (Nat → Nat → Int32) × (Nat → Int64) × Int32 × Int32 => (fun (lm2 : Int32) (lg2 : Int32) (ld2 : Int32) (peD2 : Int32) (woD2 : Int32) (txD2 : Int32) (chD2 : Int32) (joD2 : Int32) (trD2 : Int32) (dyD2 : Int32) (sdD2 : Int32) (fD2 : Nat → Nat → Int32) (fz2 : Nat → Int64) (q : Int32) (a9 : Int32) => (0 ≤ peD2.toInt ∧ peD2.toInt ≤ 8) ∧ (0 ≤ woD2.toInt ∧ woD2.toInt ≤ 6) ∧ (zZ4 fD2) ∧ ((q, a9) = zdFalls (zLwR fc lz ll) n (pe, wo, tx, ch, jo, tr, dy, sd, f)) ∧ (q.toInt = 0 → fz2 0 = Int32.toInt64 a9)) (u.1) (u.2.1) (u.2.2.1) (u.2.2.2.1) (u.2.2.2.2.1) (u.2.2.2.2.2.1) (u.2.2.2.2.2.2.1) (u.2.2.2.2.2.2.2.1) (u.2.2.2.2.2.2.2.2.1) (u.2.2.2.2.2.2.2.2.2.1) (u.2.2.2.2.2.2.2.2.2.2.1) (u.2.2.2.2.2.2.2.2.2.2.2.1) (u.2.2.2.2.2.2.2.2.2.2.2.2.1) (u.2.2.2.2.2.2.2.2.2.2.2.2.2.1) (u.2.2.2.2.2.2.2.2.2.2.2.2.2.2)) (fun u : Int32 × Int32 × Int32 × Int32 × Int32 × Int32 × Int32 × Int32 × Int32 × Int32 × Int32 × (Nat → Nat → Int32) × (Nat → Int64) × Int32 × Int32 => (fun (lm2 : Int32) (lg2 : Int32) (ld2 : Int32) (peD2 : Int32) (woD2 : Int32) (txD2 : Int32) (chD2 : Int32) (joD2 : Int32) (trD2 : Int32) (dyD2 : Int32) (sdD2 : Int32) (fD2 : Nat → Nat → Int32) (fz2 : Nat → Int64) (q : Int32) (a9 : Int32) => [bDR g x ta o lo go tt lt mo fo ro fl9, bFo g fo o lo oD, bTown g o a pe wo tx ch jo tr dy sd f, bLaw g lo lc lz ll lm2 lg2 ld2 fc, bTown g oD aD peD2 woD2 txD2 chD2 joD2 trD2 dyD2 sdD2 fD2, bOut g oa fz2]) (u.1) (u.2.1) (u.2.2.1) (u.2.2.2.1) (u.2.2.2.2.1) (u.2.2.2.2.2.1) (u.2.2.2.2.2.2.1) (u.2.2.2.2.2.2.2.1) (u.2.2.2.2.2.2.2.2.1) (u.2.2.2.2.2.2.2.2.2.1) (u.2.2.2.2.2.2.2.2.2.2.1) (u.2.2.2.2.2.2.2.2.2.2.2.1) (u.2.2.2.2.2.2.2.2.2.2.2.2.1) (u.2.2.2.2.2.2.2.2.2.2.2.2.2.1) (u.2.2.2.2.2.2.2.2.2.2.2.2.2.2)) zNo zN0 := by
  refine zX'.ofH (cc := cL_falls) (maxL := 4) (rt := (some .int)) (by decide) rfl (Nat.le_of_ble_eq_true rfl) ?_
  intro p e s m args below meth c A ls St hr hlocks htab hin hK hT hA hP hD hS hl
  obtain ⟨hx, hb, hml, hown, hts⟩ := id St
  have hl : lv_has ls 4 [(0, .ref x), (1, .int n), (2, .ref oa)] := hl
  refine lv_aload_n hx hb dL_falls_0 rfl (lv_at hl 2 rfl) ?_
  refine lv_iconst (v := 0) hx hb dL_falls_1 (by decide) ?_
  refine lv_aload_n hx hb dL_falls_2 rfl (lv_at hl 0 rfl) ?_
  refine lv_iload_n hx hb dL_falls_3 rfl (lv_at hl 1 rfl) ?_
  refine xcallV' (g := g) (q0 := 0) (ci := 9) (As := [.int n]) (rest := [.int 0, .ref oa]) St hK hT hA hP hD hS hl.1 [0, 1, 2, 3, 4] [5] rfl rfl rfl (c_x_fallsC l hfl g x ta o lo go tt lt mo fo ro fl9 a pe wo tx ch jo tr dy sd f lc lz ll lm lg ld fc oD aD peD woD txD chD joD trD dyD sdD fD n b_pe b_wo rf b_lz b_peD b_woD rfD) (cwV 1 hts (zgL (zl4 k1240 k1241 k1242 k621) k712) rfl rfl rfl (by decide +kernel) ⟨Nat.le_of_ble_eq_true rfl, Nat.le_of_ble_eq_true rfl⟩) rfl rfl rfl rfl (Nat.le_of_ble_eq_true rfl) dL_falls_4 ⟨(Nat.le_of_ble_eq_true rfl), (Nat.le_of_ble_eq_true rfl)⟩ (fun E ce q9 u9 H locs hpx hP hD hS hce hcv hcl => ?_) (fun u_ H locs hq14 hP hD hS => ?_)
  · skip
    obtain ⟨lm2_15, lg2_16, ld2_17, peD2_18, woD2_19, txD2_20, chD2_21, joD2_22, trD2_23, dyD2_24, sdD2_25, fD2_26⟩ := u9
    have hpx : (E = "java/lang/IllegalArgumentException") ∧ (0 ≤ peD2_18.toInt ∧ peD2_18.toInt ≤ 8) ∧ (0 ≤ woD2_19.toInt ∧ woD2_19.toInt ≤ 6) ∧ (zZ4 fD2_26) ∧ (E = "java/lang/IllegalArgumentException" → (1, 0) = zdFalls (zLwR fc lz ll) n (pe, wo, tx, ch, jo, tr, dy, sd, f)) := hpx
    have hP : va_P g.1 vwCl (List.flatten [bOut g oa fz, bDR g x ta o lo go tt lt mo fo ro fl9, bFo g fo o lo oD, bTown g o a pe wo tx ch jo tr dy sd f, bLaw g lo lc lz ll lm2_15 lg2_16 ld2_17 fc, bTown g oD aD peD2_18 woD2_19 txD2_20 chD2_21 joD2_22 trD2_23 dyD2_24 sdD2_25 fD2_26]) H := hP
    have hD : va_D A (List.flatten [bOut g oa fz, bDR g x ta o lo go tt lt mo fo ro fl9, bFo g fo o lo oD, bTown g o a pe wo tx ch jo tr dy sd f, bLaw g lo lc lz ll lm2_15 lg2_16 ld2_17 fc, bTown g oD aD peD2_18 woD2_19 txD2_20 chD2_21 joD2_22 trD2_23 dyD2_24 sdD2_25 fD2_26]) := hD
    obtain ⟨hE9, hy27, hy28, rfD2_26, hy29⟩ := hpx
    obtain rfl := hE9
    refine vx_catch hown [] ⟨0, 9, 12, 13⟩ [] (by rw [htab]; rfl) (fun z hz => absurd hz List.not_mem_nil) (by decide) (by decide) (hts _ k1155) ((hT.1.2.2.2.2.1 _ (List.mem_of_getElem? (i := 1) rfl)).use) hce hcv hcl ?_
    refine W.widen (k := 1) (n := 6) (Nat.le_of_ble_eq_true rfl) (Nat.le_of_ble_eq_true rfl) ?_
    refine lv_astore_n (lv' := [(3, .ref q9), (0, .ref x), (1, .int n), (2, .ref oa)]) hx hb dL_falls_12 rfl hl (by decide) rfl (fun ls hl => ?_)
    refine lv_iconst (v := 1) hx hb dL_falls_13 (by decide) ?_
    have hL1 : (1 : Int32).toInt = 1 := by decide
    have hP : va_P g.1 vwCl (List.flatten [bOut g oa fz, bDR g x ta o lo go tt lt mo fo ro fl9, bFo g fo o lo oD, bTown g o a pe wo tx ch jo tr dy sd f, bLaw g lo lc lz ll lm2_15 lg2_16 ld2_17 fc, bTown g oD aD peD2_18 woD2_19 txD2_20 chD2_21 joD2_22 trD2_23 dyD2_24 sdD2_25 fD2_26]) H := hP
    have hD : va_D A (List.flatten [bOut g oa fz, bDR g x ta o lo go tt lt mo fo ro fl9, bFo g fo o lo oD, bTown g o a pe wo tx ch jo tr dy sd f, bLaw g lo lc lz ll lm2_15 lg2_16 ld2_17 fc, bTown g oD aD peD2_18 woD2_19 txD2_20 chD2_21 joD2_22 trD2_23 dyD2_24 sdD2_25 fD2_26]) := hD
    obtain ⟨hP, hD⟩ := zord (g := g) (Bs' := [bDR g x ta o lo go tt lt mo fo ro fl9, bFo g fo o lo oD, bTown g o a pe wo tx ch jo tr dy sd f, bLaw g lo lc lz ll lm2_15 lg2_16 ld2_17 fc, bTown g oD aD peD2_18 woD2_19 txD2_20 chD2_21 joD2_22 trD2_23 dyD2_24 sdD2_25 fD2_26, bOut g oa fz]) [1, 2, 3, 4, 5, 0] rfl rfl hP hD
    exact zret_i hx hb hr hlocks hS (Nat.le_of_ble_eq_true rfl) (Nat.le_of_ble_eq_true rfl) dL_falls_14 (lm2_15, lg2_16, ld2_17, peD2_18, woD2_19, txD2_20, chD2_21, joD2_22, trD2_23, dyD2_24, sdD2_25, fD2_26, fz, (1 : Int32), (0 : Int32)) rfl (show (0 ≤ peD2_18.toInt ∧ peD2_18.toInt ≤ 8) ∧ (0 ≤ woD2_19.toInt ∧ woD2_19.toInt ≤ 6) ∧ (zZ4 fD2_26) ∧ ((1, 0) = zdFalls (zLwR fc lz ll) n (pe, wo, tx, ch, jo, tr, dy, sd, f)) ∧ ((1 : Int32).toInt = 0 → fz 0 = Int32.toInt64 0) from ⟨(by first | assumption | omega | decide), (by first | assumption | omega | decide), (by first | assumption | omega | decide), (hy29 rfl), (fun h9 => absurd h9 (by decide))⟩) hP hD
  · skip
    obtain ⟨lm2_1, lg2_2, ld2_3, peD2_4, woD2_5, txD2_6, chD2_7, joD2_8, trD2_9, dyD2_10, sdD2_11, fD2_12, q_13⟩ := u_
    replace hq14 : (0 ≤ peD2_4.toInt ∧ peD2_4.toInt ≤ 8) ∧ (0 ≤ woD2_5.toInt ∧ woD2_5.toInt ≤ 6) ∧ (zZ4 fD2_12) ∧ ((0, q_13) = zdFalls (zLwR fc lz ll) n (pe, wo, tx, ch, jo, tr, dy, sd, f)) := hq14
    have hP : va_P g.1 vwCl (List.flatten [bOut g oa fz, bDR g x ta o lo go tt lt mo fo ro fl9, bFo g fo o lo oD, bTown g o a pe wo tx ch jo tr dy sd f, bLaw g lo lc lz ll lm2_1 lg2_2 ld2_3 fc, bTown g oD aD peD2_4 woD2_5 txD2_6 chD2_7 joD2_8 trD2_9 dyD2_10 sdD2_11 fD2_12]) H := hP
    have hD : va_D A (List.flatten [bOut g oa fz, bDR g x ta o lo go tt lt mo fo ro fl9, bFo g fo o lo oD, bTown g o a pe wo tx ch jo tr dy sd f, bLaw g lo lc lz ll lm2_1 lg2_2 ld2_3 fc, bTown g oD aD peD2_4 woD2_5 txD2_6 chD2_7 joD2_8 trD2_9 dyD2_10 sdD2_11 fD2_12]) := hD
    refine W.widen (k := 1) (n := 6) (Nat.le_of_ble_eq_true rfl) (Nat.le_of_ble_eq_true rfl) ?_
    refine W.eq (g2 := F0 m 7 ls [.int q_13, .int 0, .ref oa]) rfl ?_
    obtain ⟨hq14_0, hq14_1, rfD2_12, hq14_3⟩ := hq14
    refine lv_i2l (v := (q_13 : Int32).toInt64) hx hb dL_falls_7 rfl ?_
    refine va_last hx hb hK hP hD hS 0 2 rfl rfl (zin rfl) dL_falls_8 (fun H locs hP hD hS => ?_)
    have hP : va_P g.1 vwCl (List.flatten [[(oa, .inl (g.2 2, 1, .inr (.inl (vp_updL fz 0 ((q_13 : Int32).toInt64)))))], bDR g x ta o lo go tt lt mo fo ro fl9, bFo g fo o lo oD, bTown g o a pe wo tx ch jo tr dy sd f, bLaw g lo lc lz ll lm2_1 lg2_2 ld2_3 fc, bTown g oD aD peD2_4 woD2_5 txD2_6 chD2_7 joD2_8 trD2_9 dyD2_10 sdD2_11 fD2_12]) H := hP
    have hD : va_D A (List.flatten [[(oa, .inl (g.2 2, 1, .inr (.inl (vp_updL fz 0 ((q_13 : Int32).toInt64)))))], bDR g x ta o lo go tt lt mo fo ro fl9, bFo g fo o lo oD, bTown g o a pe wo tx ch jo tr dy sd f, bLaw g lo lc lz ll lm2_1 lg2_2 ld2_3 fc, bTown g oD aD peD2_4 woD2_5 txD2_6 chD2_7 joD2_8 trD2_9 dyD2_10 sdD2_11 fD2_12]) := hD
    refine lv_goto (tgt := 15) hx hb dL_falls_9 (by decide) ?_
    refine lv_iconst (v := 0) hx hb dL_falls_15 (by decide) ?_
    have hL0 : (0 : Int32).toInt = 0 := by decide
    have hP : va_P g.1 vwCl (List.flatten [bOut g oa (vp_updL fz 0 ((q_13 : Int32).toInt64)), bDR g x ta o lo go tt lt mo fo ro fl9, bFo g fo o lo oD, bTown g o a pe wo tx ch jo tr dy sd f, bLaw g lo lc lz ll lm2_1 lg2_2 ld2_3 fc, bTown g oD aD peD2_4 woD2_5 txD2_6 chD2_7 joD2_8 trD2_9 dyD2_10 sdD2_11 fD2_12]) H := hP
    have hD : va_D A (List.flatten [bOut g oa (vp_updL fz 0 ((q_13 : Int32).toInt64)), bDR g x ta o lo go tt lt mo fo ro fl9, bFo g fo o lo oD, bTown g o a pe wo tx ch jo tr dy sd f, bLaw g lo lc lz ll lm2_1 lg2_2 ld2_3 fc, bTown g oD aD peD2_4 woD2_5 txD2_6 chD2_7 joD2_8 trD2_9 dyD2_10 sdD2_11 fD2_12]) := hD
    obtain ⟨hP, hD⟩ := zord (g := g) (Bs' := [bDR g x ta o lo go tt lt mo fo ro fl9, bFo g fo o lo oD, bTown g o a pe wo tx ch jo tr dy sd f, bLaw g lo lc lz ll lm2_1 lg2_2 ld2_3 fc, bTown g oD aD peD2_4 woD2_5 txD2_6 chD2_7 joD2_8 trD2_9 dyD2_10 sdD2_11 fD2_12, bOut g oa (vp_updL fz 0 ((q_13 : Int32).toInt64))]) [1, 2, 3, 4, 5, 0] rfl rfl hP hD
    exact zret_i hx hb hr hlocks hS (Nat.le_of_ble_eq_true rfl) (Nat.le_of_ble_eq_true rfl) dL_falls_16 (lm2_1, lg2_2, ld2_3, peD2_4, woD2_5, txD2_6, chD2_7, joD2_8, trD2_9, dyD2_10, sdD2_11, fD2_12, vp_updL fz 0 ((q_13 : Int32).toInt64), (0 : Int32), q_13) rfl (show (0 ≤ peD2_4.toInt ∧ peD2_4.toInt ≤ 8) ∧ (0 ≤ woD2_5.toInt ∧ woD2_5.toInt ≤ 6) ∧ (zZ4 fD2_12) ∧ ((0, q_13) = zdFalls (zLwR fc lz ll) n (pe, wo, tx, ch, jo, tr, dy, sd, f)) ∧ ((0 : Int32).toInt = 0 → (vp_updL fz 0 ((q_13 : Int32).toInt64)) 0 = Int32.toInt64 q_13) from ⟨(by first | assumption | omega | decide), (by first | assumption | omega | decide), (by first | assumption | omega | decide), hq14_3, (fun _ => rfl)⟩) hP hD
set_option maxRecDepth 100000 in
set_option maxHeartbeats 4000000 in
theorem c_x_trialC (l : Launch) (hfl : l.stackTraces = false) (g : zG) (x : Nat) (ta : Nat) (o : Nat) (lo : Nat) (go : Nat) (tt : Nat) (lt : Nat) (mo : Nat) (fo : Nat) (ro : Nat) (fl9 : Int32) (a : Nat → Nat) (pe : Int32) (wo : Int32) (tx : Int32) (ch : Int32) (jo : Int32) (tr : Int32) (dy : Int32) (sd : Int32) (f : Nat → Nat → Int32) (lc : Nat) (lz : Int32) (ll : Int32) (lm : Int32) (lg : Int32) (ld : Int32) (fc : Nat → Int32) (oD : Nat) (aD : Nat → Nat) (peD : Int32) (woD : Int32) (txD : Int32) (chD : Int32) (joD : Int32) (trD : Int32) (dyD : Int32) (sdD : Int32) (fD : Nat → Nat → Int32) (n : Int32) (c9 : Int32) (b_pe : 0 ≤ pe.toInt ∧ pe.toInt ≤ 8) (b_wo : 0 ≤ wo.toInt ∧ wo.toInt ≤ 6) (rf : zZ4 f) (b_lz : 0 ≤ lz.toInt ∧ lz.toInt ≤ 400) (b_peD : 0 ≤ peD.toInt ∧ peD.toInt ≤ 8) (b_woD : 0 ≤ woD.toInt ∧ woD.toInt ≤ 6) (rfD : zZ4 fD) : zX' g l yX11_trial (Cond.code yX11_trial cX11_trial 4 (some .int) :: zB) ({ frames := 7, cells := 1, slots := 6, locals := 151 } : Room) [.ref x, .int n, .int c9] [bDR g x ta o lo go tt lt mo fo ro fl9, bFo g fo o lo oD, bTown g o a pe wo tx ch jo tr dy sd f, bLaw g lo lc lz ll lm lg ld fc, bTown g oD aD peD woD txD chD joD trD dyD sdD fD] (fun u : Int32 × Int32 × Int32 × Int32 × Int32 × Int32 × Int32 × Int32 × Int32 × Int32 × Int32 × (Nat → Nat → Int32) × Int32 => (fun (lm2 : Int32) (lg2 : Int32) (ld2 : Int32) (peD2 : Int32) (woD2 : Int32) (txD2 : Int32) (chD2 : Int32) (joD2 : Int32) (trD2 : Int32) (dyD2 : Int32) (sdD2 : Int32) (fD2 : Nat → Nat → Int32) (q : Int32) => some (.int q)) (u.1) (u.2.1) (u.2.2.1) (u.2.2.2.1) (u.2.2.2.2.1) (u.2.2.2.2.2.1) (u.2.2.2.2.2.2.1) (u.2.2.2.2.2.2.2.1) (u.2.2.2.2.2.2.2.2.1) (u.2.2.2.2.2.2.2.2.2.1) (u.2.2.2.2.2.2.2.2.2.2.1) (u.2.2.2.2.2.2.2.2.2.2.2.1) (u.2.2.2.2.2.2.2.2.2.2.2.2)) (fun u : Int32 × Int32 × Int32 × Int32 × Int32 × Int32 × Int32 × Int32 × Int32 × Int32 × Int32 × (Nat → Nat → Int32) × Int32 => (fun (lm2 : Int32) (lg2 : Int32) (ld2 : Int32) (peD2 : Int32) (woD2 : Int32) (txD2 : Int32) (chD2 : Int32) (joD2 : Int32) (trD2 : Int32) (dyD2 : Int32) (sdD2 : Int32) (fD2 : Nat → Nat → Int32) (q : Int32) => (0 ≤ peD2.toInt ∧ peD2.toInt ≤ 8) ∧ (0 ≤ woD2.toInt ∧ woD2.toInt ≤ 6) ∧ (zZ4 fD2) ∧ ((0, q) = zdTrial (zLwR fc lz ll) n c9 (pe, wo, tx, ch, jo, tr, dy, sd, f))) (u.1) (u.2.1) (u.2.2.1) (u.2.2.2.1) (u.2.2.2.2.1) (u.2.2.2.2.2.1) (u.2.2.2.2.2.2.1) (u.2.2.2.2.2.2.2.1) (u.2.2.2.2.2.2.2.2.1) (u.2.2.2.2.2.2.2.2.2.1) (u.2.2.2.2.2.2.2.2.2.2.1) (u.2.2.2.2.2.2.2.2.2.2.2.1) (u.2.2.2.2.2.2.2.2.2.2.2.2)) (fun u : Int32 × Int32 × Int32 × Int32 × Int32 × Int32 × Int32 × Int32 × Int32 × Int32 × Int32 × (Nat → Nat → Int32) × Int32 => (fun (lm2 : Int32) (lg2 : Int32) (ld2 : Int32) (peD2 : Int32) (woD2 : Int32) (txD2 : Int32) (chD2 : Int32) (joD2 : Int32) (trD2 : Int32) (dyD2 : Int32) (sdD2 : Int32) (fD2 : Nat → Nat → Int32) (q : Int32) => [bDR g x ta o lo go tt lt mo fo ro fl9, bFo g fo o lo oD, bTown g o a pe wo tx ch jo tr dy sd f, bLaw g lo lc lz ll lm2 lg2 ld2 fc, bTown g oD aD peD2 woD2 txD2 chD2 joD2 trD2 dyD2 sdD2 fD2]) (u.1) (u.2.1) (u.2.2.1) (u.2.2.2.1) (u.2.2.2.2.1) (u.2.2.2.2.2.1) (u.2.2.2.2.2.2.1) (u.2.2.2.2.2.2.2.1) (u.2.2.2.2.2.2.2.2.1) (u.2.2.2.2.2.2.2.2.2.1) (u.2.2.2.2.2.2.2.2.2.2.1) (u.2.2.2.2.2.2.2.2.2.2.2.1) (u.2.2.2.2.2.2.2.2.2.2.2.2)) (fun (E : String) => fun u : Int32 × Int32 × Int32 × Int32 × Int32 × Int32 × Int32 × Int32 × Int32 × Int32 × Int32 × (Nat → Nat → Int32) => (fun (lm2 : Int32) (lg2 : Int32) (ld2 : Int32) (peD2 : Int32) (woD2 : Int32) (txD2 : Int32) (chD2 : Int32) (joD2 : Int32) (trD2 : Int32) (dyD2 : Int32) (sdD2 : Int32) (fD2 : Nat → Nat → Int32) => (E = "java/lang/IllegalArgumentException") ∧ (0 ≤ peD2.toInt ∧ peD2.toInt ≤ 8) ∧ (0 ≤ woD2.toInt ∧ woD2.toInt ≤ 6) ∧ (zZ4 fD2) ∧ (E = "java/lang/IllegalArgumentException" → (1, 0) = zdTrial (zLwR fc lz ll) n c9 (pe, wo, tx, ch, jo, tr, dy, sd, f))) (u.1) (u.2.1) (u.2.2.1) (u.2.2.2.1) (u.2.2.2.2.1) (u.2.2.2.2.2.1) (u.2.2.2.2.2.2.1) (u.2.2.2.2.2.2.2.1) (u.2.2.2.2.2.2.2.2.1) (u.2.2.2.2.2.2.2.2.2.1) (u.2.2.2.2.2.2.2.2.2.2.1) (u.2.2.2.2.2.2.2.2.2.2.2)) (fun u : Int32 × Int32 × Int32 × Int32 × Int32 × Int32 × Int32 × Int32 × Int32 × Int32 × Int32 × (Nat → Nat → Int32) => (fun (lm2 : Int32) (lg2 : Int32) (ld2 : Int32) (peD2 : Int32) (woD2 : Int32) (txD2 : Int32) (chD2 : Int32) (joD2 : Int32) (trD2 : Int32) (dyD2 : Int32) (sdD2 : Int32) (fD2 : Nat → Nat → Int32) => [bDR g x ta o lo go tt lt mo fo ro fl9, bFo g fo o lo oD, bTown g o a pe wo tx ch jo tr dy sd f, bLaw g lo lc lz ll lm2 lg2 ld2 fc, bTown g oD aD peD2 woD2 txD2 chD2 joD2 trD2 dyD2 sdD2 fD2]) (u.1) (u.2.1) (u.2.2.1) (u.2.2.2.1) (u.2.2.2.2.1) (u.2.2.2.2.2.1) (u.2.2.2.2.2.2.1) (u.2.2.2.2.2.2.2.1) (u.2.2.2.2.2.2.2.2.1) (u.2.2.2.2.2.2.2.2.2.1) (u.2.2.2.2.2.2.2.2.2.2.1) (u.2.2.2.2.2.2.2.2.2.2.2)) := by
  refine zX'.of (cc := cX11_trial) (maxL := 4) (rt := (some .int)) (by decide) rfl (Nat.le_of_ble_eq_true rfl) ?_
  intro p e s m args below meth c A ls St hr hlocks htab hin hK hT hA hP hD hS hl
  obtain ⟨hx, hb, hml, hown, hts⟩ := id St
  have hl : lv_has ls 4 [(0, .ref x), (1, .int n), (2, .int c9)] := hl
  refine lv_aload_n hx hb dX11_trial_0 rfl (lv_at hl 0 rfl) ?_
  refine lv_iload_n hx hb dX11_trial_1 rfl (lv_at hl 1 rfl) ?_
  refine lv_iconst (v := 0) hx hb dX11_trial_2 (by decide) ?_
  refine lv_bipush (v := 60) hx hb dX11_trial_3 (by decide) ?_
  refine xcallV' (g := g) (q0 := 0) (ci := 9) (As := [.int n, .int 0, .int 60]) (rest := []) St hK hT hA hP hD hS hl.1 [0] [1, 2, 3, 4] rfl rfl rfl (c_x_nwE_0_60 l hfl g x ta o lo go tt lt mo fo ro fl9 n ) (cwV 3 hts (zgL (zl4 k668 k669 k670 k621) k667) rfl rfl rfl (by decide +kernel) ⟨Nat.le_of_ble_eq_true rfl, Nat.le_of_ble_eq_true rfl⟩) rfl rfl rfl rfl (Nat.le_of_ble_eq_true rfl) dX11_trial_5 ⟨(Nat.le_of_ble_eq_true rfl), (Nat.le_of_ble_eq_true rfl)⟩ (fun E ce q9 u9 H locs hpx hP hD hS hce hcv hcl => ?_) (fun _u H locs hq1 hP hD hS => ?_)
  · skip
    have hpx : (E = "java/lang/IllegalArgumentException") ∧ (¬ (0 ≤ n.toInt ∧ n.toInt ≤ 60)) := hpx
    have hP : va_P g.1 vwCl (List.flatten [bFo g fo o lo oD, bTown g o a pe wo tx ch jo tr dy sd f, bLaw g lo lc lz ll lm lg ld fc, bTown g oD aD peD woD txD chD joD trD dyD sdD fD, bDR g x ta o lo go tt lt mo fo ro fl9]) H := hP
    have hD : va_D A (List.flatten [bFo g fo o lo oD, bTown g o a pe wo tx ch jo tr dy sd f, bLaw g lo lc lz ll lm lg ld fc, bTown g oD aD peD woD txD chD joD trD dyD sdD fD, bDR g x ta o lo go tt lt mo fo ro fl9]) := hD
    obtain ⟨hE9, hy2⟩ := hpx
    have hP : va_P g.1 vwCl (List.flatten [bFo g fo o lo oD, bTown g o a pe wo tx ch jo tr dy sd f, bLaw g lo lc lz ll lm lg ld fc, bTown g oD aD peD woD txD chD joD trD dyD sdD fD, bDR g x ta o lo go tt lt mo fo ro fl9]) H := hP
    have hD : va_D A (List.flatten [bFo g fo o lo oD, bTown g o a pe wo tx ch jo tr dy sd f, bLaw g lo lc lz ll lm lg ld fc, bTown g oD aD peD woD txD chD joD trD dyD sdD fD, bDR g x ta o lo go tt lt mo fo ro fl9]) := hD
    obtain ⟨hP, hD⟩ := zord (g := g) (Bs' := [bDR g x ta o lo go tt lt mo fo ro fl9, bFo g fo o lo oD, bTown g o a pe wo tx ch jo tr dy sd f, bLaw g lo lc lz ll lm lg ld fc, bTown g oD aD peD woD txD chD joD trD dyD sdD fD]) [4, 0, 1, 2, 3] rfl rfl hP hD
    exact zout htab hlocks hS (Nat.le_of_ble_eq_true rfl) (Nat.le_of_ble_eq_true rfl) hce hcv hcl (lm, lg, ld, peD, woD, txD, chD, joD, trD, dyD, sdD, fD) (show (E = "java/lang/IllegalArgumentException") ∧ (0 ≤ peD.toInt ∧ peD.toInt ≤ 8) ∧ (0 ≤ woD.toInt ∧ woD.toInt ≤ 6) ∧ (zZ4 fD) ∧ (E = "java/lang/IllegalArgumentException" → (1, 0) = zdTrial (zLwR fc lz ll) n c9 (pe, wo, tx, ch, jo, tr, dy, sd, f)) from ⟨hE9, (show 0 ≤ peD.toInt ∧ peD.toInt ≤ 8 from b_peD), (show 0 ≤ woD.toInt ∧ woD.toInt ≤ 6 from b_woD), (show zZ4 fD from rfD), (show E = "java/lang/IllegalArgumentException" → (1, 0) = zdTrial (zLwR fc lz ll) n c9 (pe, wo, tx, ch, jo, tr, dy, sd, f) from (fun h9 => zdTrial_c1 hy2))⟩) hP hD
  · skip
    replace hq1 : (0 ≤ n.toInt ∧ n.toInt ≤ 60) := hq1
    have hP : va_P g.1 vwCl (List.flatten [bFo g fo o lo oD, bTown g o a pe wo tx ch jo tr dy sd f, bLaw g lo lc lz ll lm lg ld fc, bTown g oD aD peD woD txD chD joD trD dyD sdD fD, bDR g x ta o lo go tt lt mo fo ro fl9]) H := hP
    have hD : va_D A (List.flatten [bFo g fo o lo oD, bTown g o a pe wo tx ch jo tr dy sd f, bLaw g lo lc lz ll lm lg ld fc, bTown g oD aD peD woD txD chD joD trD dyD sdD fD, bDR g x ta o lo go tt lt mo fo ro fl9]) := hD
    refine W.widen (k := 1) (n := 6) (Nat.le_of_ble_eq_true rfl) (Nat.le_of_ble_eq_true rfl) ?_
    refine W.eq (g2 := F0 m 8 ls []) rfl ?_
    refine lv_aload_n hx hb dX11_trial_8 rfl (lv_at hl 0 rfl) ?_
    refine va_get (D := g.1) (ci := 9) (v := .ref fo) (C := RX11) (T := TX11) (N := 10) hx hb hts izRX11 hown hK hP 27 rfl rfl 7 (by decide) (hts _ k554) (fun _ h9 => h9) rfl dX11_trial_9 ?_
    refine lv_aload_n hx hb dX11_trial_12 rfl (lv_at hl 0 rfl) ?_
    refine va_get (D := g.1) (ci := 9) (v := .ref o) (C := RX11) (T := TX11) (N := 10) hx hb hts izRX11 hown hK hP 27 rfl rfl 1 (by decide) (hts _ k538) (fun _ h9 => h9) rfl dX11_trial_13 ?_
    refine va_get (D := g.1) (ci := 7) (v := .int sd) (C := RX9) (T := TX9) (N := 19) hx hb hts izRX9 hown hK hP 1 rfl rfl 7 (by decide) (hts _ k776) (fun _ h9 => h9) rfl dX11_trial_16 ?_
    refine lv_iload_n hx hb dX11_trial_19 rfl (lv_at hl 1 rfl) ?_
    refine mcallV' (g := g) (q0 := 0) (ci := 0) (As := [.int sd, .int n]) (rest := []) St hK hT hA hP hD hS hl.1 [0, 1, 2, 3] [4] rfl rfl rfl (c_f_tryOutC l g fo o lo oD a pe wo tx ch jo tr dy sd f lc lz ll lm lg ld fc aD peD woD txD chD joD trD dyD sdD fD sd n b_pe b_wo rf b_lz b_peD b_woD rfD (⟨hq1.1, (Int.le_trans hq1.2 (by decide))⟩)) (cwV 2 hts (zgL (zl4 k777 k194 k195 k169) k192) rfl rfl rfl (by decide +kernel) ⟨Nat.le_of_ble_eq_true rfl, Nat.le_of_ble_eq_true rfl⟩) rfl rfl rfl rfl (Nat.le_of_ble_eq_true rfl) dX11_trial_20 ⟨(Nat.le_of_ble_eq_true rfl), (Nat.le_of_ble_eq_true rfl)⟩ (fun u_ H locs hq16 hP hD hS => ?_)
    obtain ⟨lm2_3, lg2_4, ld2_5, pe3_6, wo3_7, tx3_8, ch3_9, jo3_10, tr3_11, dy3_12, sd3_13, f3_14, q_15⟩ := u_
    replace hq16 : (0 ≤ pe3_6.toInt ∧ pe3_6.toInt ≤ 8) ∧ (0 ≤ wo3_7.toInt ∧ wo3_7.toInt ≤ 6) ∧ (zZ4 f3_14) ∧ (zR9 (pe3_6, wo3_7, tx3_8, ch3_9, jo3_10, tr3_11, dy3_12, sd3_13, f3_14) (zGo (zLwR fc lz ll) 1 n.toInt.toNat (pe, wo, tx, ch, jo, tr, dy, sd, f))) ∧ (q_15 = zBl9 (pe3_6, wo3_7, tx3_8, ch3_9, jo3_10, tr3_11, dy3_12, sd3_13, f3_14)) := hq16
    have hP : va_P g.1 vwCl (List.flatten [bDR g x ta o lo go tt lt mo fo ro fl9, bFo g fo o lo oD, bTown g o a pe wo tx ch jo tr dy sd f, bLaw g lo lc lz ll lm2_3 lg2_4 ld2_5 fc, bTown g oD aD pe3_6 wo3_7 tx3_8 ch3_9 jo3_10 tr3_11 dy3_12 sd3_13 f3_14]) H := hP
    have hD : va_D A (List.flatten [bDR g x ta o lo go tt lt mo fo ro fl9, bFo g fo o lo oD, bTown g o a pe wo tx ch jo tr dy sd f, bLaw g lo lc lz ll lm2_3 lg2_4 ld2_5 fc, bTown g oD aD pe3_6 wo3_7 tx3_8 ch3_9 jo3_10 tr3_11 dy3_12 sd3_13 f3_14]) := hD
    refine W.widen (k := 1) (n := 6) (Nat.le_of_ble_eq_true rfl) (Nat.le_of_ble_eq_true rfl) ?_
    refine W.eq (g2 := F0 m 23 ls [.int q_15]) rfl ?_
    obtain ⟨hq16_0, hq16_1, rf3_14, hq16_3, hq16_4⟩ := hq16
    refine lv_istore_n (lv' := [(3, .int q_15), (0, .ref x), (1, .int n), (2, .int c9)]) hx hb dX11_trial_23 rfl hl (by decide) rfl (fun ls hl => ?_)
    refine lv_iload_n hx hb dX11_trial_24 rfl (lv_at hl 3 rfl) ?_
    refine lv_if_eq (tgt := 41) hx hb dX11_trial_25 (by decide) (fun cb9 => ?_) (fun cb9 => ?_)
    · skip
      have c17 : c9.toInt = 0 := zeq cb9 rfl (by decide)
      have n18 : 0 ≤ c9.toInt := Int.le_trans (Int.le_refl _) (Int.le_of_eq c17.symm)
      have n19 : c9.toInt ≤ 0 := Int.le_trans (Int.le_of_eq c17) (Int.le_refl _)
      refine lv_iload_n hx hb dX11_trial_41 rfl (lv_at hl 0 rfl) ?_
      have hP : va_P g.1 vwCl (List.flatten [bDR g x ta o lo go tt lt mo fo ro fl9, bFo g fo o lo oD, bTown g o a pe wo tx ch jo tr dy sd f, bLaw g lo lc lz ll lm2_3 lg2_4 ld2_5 fc, bTown g oD aD pe3_6 wo3_7 tx3_8 ch3_9 jo3_10 tr3_11 dy3_12 sd3_13 f3_14]) H := hP
      have hD : va_D A (List.flatten [bDR g x ta o lo go tt lt mo fo ro fl9, bFo g fo o lo oD, bTown g o a pe wo tx ch jo tr dy sd f, bLaw g lo lc lz ll lm2_3 lg2_4 ld2_5 fc, bTown g oD aD pe3_6 wo3_7 tx3_8 ch3_9 jo3_10 tr3_11 dy3_12 sd3_13 f3_14]) := hD
      exact zret_i hx hb hr hlocks hS (Nat.le_of_ble_eq_true rfl) (Nat.le_of_ble_eq_true rfl) dX11_trial_42 (lm2_3, lg2_4, ld2_5, pe3_6, wo3_7, tx3_8, ch3_9, jo3_10, tr3_11, dy3_12, sd3_13, f3_14, q_15) rfl (show (0 ≤ pe3_6.toInt ∧ pe3_6.toInt ≤ 8) ∧ (0 ≤ wo3_7.toInt ∧ wo3_7.toInt ≤ 6) ∧ (zZ4 f3_14) ∧ ((0, q_15) = zdTrial (zLwR fc lz ll) n c9 (pe, wo, tx, ch, jo, tr, dy, sd, f)) from ⟨(by first | assumption | omega | decide), (by first | assumption | omega | decide), (by first | assumption | omega | decide), (zdTrial_c0 b_pe (by omega) hq16_3 hq16_4 (by omega))⟩) hP hD
    · skip
      have c20 : ¬ c9.toInt = 0 := zne cb9 rfl (by decide)
      refine lv_aload_n hx hb dX11_trial_28 rfl (lv_at hl 1 rfl) ?_
      refine va_get (D := g.1) (ci := 9) (v := .ref fo) (C := RX11) (T := TX11) (N := 10) hx hb hts izRX11 hown hK hP 0 rfl rfl 7 (by decide) (hts _ k554) (fun _ h9 => h9) rfl dX11_trial_29 ?_
      refine va_get (D := g.1) (ci := 0) (v := .ref oD) (C := RX0) (T := TX0) (N := 3) hx hb hts izRX0 hown hK hP 1 rfl rfl 2 (by decide) (hts _ k684) (fun _ h9 => h9) rfl dX11_trial_32 ?_
      refine va_get (D := g.1) (ci := 7) (v := .int ch3_9) (C := RX9) (T := TX9) (N := 19) hx hb hts izRX9 hown hK hP 16 rfl rfl 3 (by decide) (hts _ k677) (fun _ h9 => h9) rfl dX11_trial_35 ?_
      refine lv_goto (tgt := 42) hx hb dX11_trial_38 (by decide) ?_
      have hP : va_P g.1 vwCl (List.flatten [bDR g x ta o lo go tt lt mo fo ro fl9, bFo g fo o lo oD, bTown g o a pe wo tx ch jo tr dy sd f, bLaw g lo lc lz ll lm2_3 lg2_4 ld2_5 fc, bTown g oD aD pe3_6 wo3_7 tx3_8 ch3_9 jo3_10 tr3_11 dy3_12 sd3_13 f3_14]) H := hP
      have hD : va_D A (List.flatten [bDR g x ta o lo go tt lt mo fo ro fl9, bFo g fo o lo oD, bTown g o a pe wo tx ch jo tr dy sd f, bLaw g lo lc lz ll lm2_3 lg2_4 ld2_5 fc, bTown g oD aD pe3_6 wo3_7 tx3_8 ch3_9 jo3_10 tr3_11 dy3_12 sd3_13 f3_14]) := hD
      exact zret_i hx hb hr hlocks hS (Nat.le_of_ble_eq_true rfl) (Nat.le_of_ble_eq_true rfl) dX11_trial_42 (lm2_3, lg2_4, ld2_5, pe3_6, wo3_7, tx3_8, ch3_9, jo3_10, tr3_11, dy3_12, sd3_13, f3_14, ch3_9) rfl (show (0 ≤ pe3_6.toInt ∧ pe3_6.toInt ≤ 8) ∧ (0 ≤ wo3_7.toInt ∧ wo3_7.toInt ≤ 6) ∧ (zZ4 f3_14) ∧ ((0, ch3_9) = zdTrial (zLwR fc lz ll) n c9 (pe, wo, tx, ch, jo, tr, dy, sd, f)) from ⟨(by first | assumption | omega | decide), (by first | assumption | omega | decide), (by first | assumption | omega | decide), (zdTrial_c9 (by omega) hq16_3 (by omega))⟩) hP hD
set_option maxRecDepth 100000 in
set_option maxHeartbeats 4000000 in
theorem l_trialC (l : Launch) (hfl : l.stackTraces = false) (g : zG) (x : Nat) (ta : Nat) (o : Nat) (lo : Nat) (go : Nat) (tt : Nat) (lt : Nat) (mo : Nat) (fo : Nat) (ro : Nat) (fl9 : Int32) (a : Nat → Nat) (pe : Int32) (wo : Int32) (tx : Int32) (ch : Int32) (jo : Int32) (tr : Int32) (dy : Int32) (sd : Int32) (f : Nat → Nat → Int32) (lc : Nat) (lz : Int32) (ll : Int32) (lm : Int32) (lg : Int32) (ld : Int32) (fc : Nat → Int32) (oD : Nat) (aD : Nat → Nat) (peD : Int32) (woD : Int32) (txD : Int32) (chD : Int32) (joD : Int32) (trD : Int32) (dyD : Int32) (sdD : Int32) (fD : Nat → Nat → Int32) (oa : Nat) (fz : Nat → Int64) (n : Int32) (c9 : Int32) (b_pe : 0 ≤ pe.toInt ∧ pe.toInt ≤ 8) (b_wo : 0 ≤ wo.toInt ∧ wo.toInt ≤ 6) (rf : zZ4 f) (b_lz : 0 ≤ lz.toInt ∧ lz.toInt ≤ 400) (b_peD : 0 ≤ peD.toInt ∧ peD.toInt ≤ 8) (b_woD : 0 ≤ woD.toInt ∧ woD.toInt ≤ 6) (rfD : zZ4 fD) : zX' g l yL_trial (Cond.codeWith yL_trial cL_trial 5 (some .int) [(0, 10, 13, 13)] :: zB) ({ frames := 8, cells := 1, slots := 6, locals := 174 } : Room) [.ref x, .int n, .int c9, .ref oa] [bDR g x ta o lo go tt lt mo fo ro fl9, bFo g fo o lo oD, bTown g o a pe wo tx ch jo tr dy sd f, bLaw g lo lc lz ll lm lg ld fc, bTown g oD aD peD woD txD chD joD trD dyD sdD fD, bOut g oa fz] (fun u : Int32 × Int32 × Int32 × Int32 × Int32 × Int32 × Int32 × Int32 × Int32 × Int32 × Int32 × (Nat → Nat → Int32) × (Nat → Int64) × Int32 × Int32 => (fun (lm2 : Int32) (lg2 : Int32) (ld2 : Int32) (peD2 : Int32) (woD2 : Int32) (txD2 : Int32) (chD2 : Int32) (joD2 : Int32) (trD2 : Int32) (dyD2 : Int32) (sdD2 : Int32) (fD2 : Nat → Nat → Int32) (fz2 : Nat → Int64) (q : Int32) (a9 : Int32) => some (.int q)) (u.1) (u.2.1) (u.2.2.1) (u.2.2.2.1) (u.2.2.2.2.1) (u.2.2.2.2.2.1) (u.2.2.2.2.2.2.1) (u.2.2.2.2.2.2.2.1) (u.2.2.2.2.2.2.2.2.1) (u.2.2.2.2.2.2.2.2.2.1) (u.2.2.2.2.2.2.2.2.2.2.1) (u.2.2.2.2.2.2.2.2.2.2.2.1) (u.2.2.2.2.2.2.2.2.2.2.2.2.1) (u.2.2.2.2.2.2.2.2.2.2.2.2.2.1) (u.2.2.2.2.2.2.2.2.2.2.2.2.2.2)) (fun u : Int32 × Int32 × Int32 × Int32 × Int32 × Int32 × Int32 × Int32 × Int32 × Int32 × Int32 × (Nat → Nat → Int32) × (Nat → Int64) × Int32 × Int32 => (fun (lm2 : Int32) (lg2 : Int32) (ld2 : Int32) (peD2 : Int32) (woD2 : Int32) (txD2 : Int32) (chD2 : Int32) (joD2 : Int32) (trD2 : Int32) (dyD2 : Int32) (sdD2 : Int32) (fD2 : Nat → Nat → Int32) (fz2 : Nat → Int64) (q : Int32) (a9 : Int32) => (0 ≤ peD2.toInt ∧ peD2.toInt ≤ 8) ∧ (0 ≤ woD2.toInt ∧ woD2.toInt ≤ 6) ∧ (zZ4 fD2) ∧ ((q, a9) = zdTrial (zLwR fc lz ll) n c9 (pe, wo, tx, ch, jo, tr, dy, sd, f)) ∧ (q.toInt = 0 → fz2 0 = Int32.toInt64 a9)) (u.1) (u.2.1) (u.2.2.1) (u.2.2.2.1) (u.2.2.2.2.1) (u.2.2.2.2.2.1) (u.2.2.2.2.2.2.1) (u.2.2.2.2.2.2.2.1) (u.2.2.2.2.2.2.2.2.1) (u.2.2.2.2.2.2.2.2.2.1) (u.2.2.2.2.2.2.2.2.2.2.1) (u.2.2.2.2.2.2.2.2.2.2.2.1) (u.2.2.2.2.2.2.2.2.2.2.2.2.1) (u.2.2.2.2.2.2.2.2.2.2.2.2.2.1) (u.2.2.2.2.2.2.2.2.2.2.2.2.2.2)) (fun u : Int32 × Int32 × Int32 × Int32 × Int32 × Int32 × Int32 × Int32 × Int32 × Int32 × Int32 × (Nat → Nat → Int32) × (Nat → Int64) × Int32 × Int32 => (fun (lm2 : Int32) (lg2 : Int32) (ld2 : Int32) (peD2 : Int32) (woD2 : Int32) (txD2 : Int32) (chD2 : Int32) (joD2 : Int32) (trD2 : Int32) (dyD2 : Int32) (sdD2 : Int32) (fD2 : Nat → Nat → Int32) (fz2 : Nat → Int64) (q : Int32) (a9 : Int32) => [bDR g x ta o lo go tt lt mo fo ro fl9, bFo g fo o lo oD, bTown g o a pe wo tx ch jo tr dy sd f, bLaw g lo lc lz ll lm2 lg2 ld2 fc, bTown g oD aD peD2 woD2 txD2 chD2 joD2 trD2 dyD2 sdD2 fD2, bOut g oa fz2]) (u.1) (u.2.1) (u.2.2.1) (u.2.2.2.1) (u.2.2.2.2.1) (u.2.2.2.2.2.1) (u.2.2.2.2.2.2.1) (u.2.2.2.2.2.2.2.1) (u.2.2.2.2.2.2.2.2.1) (u.2.2.2.2.2.2.2.2.2.1) (u.2.2.2.2.2.2.2.2.2.2.1) (u.2.2.2.2.2.2.2.2.2.2.2.1) (u.2.2.2.2.2.2.2.2.2.2.2.2.1) (u.2.2.2.2.2.2.2.2.2.2.2.2.2.1) (u.2.2.2.2.2.2.2.2.2.2.2.2.2.2)) zNo zN0 := by
  refine zX'.ofH (cc := cL_trial) (maxL := 5) (rt := (some .int)) (by decide) rfl (Nat.le_of_ble_eq_true rfl) ?_
  intro p e s m args below meth c A ls St hr hlocks htab hin hK hT hA hP hD hS hl
  obtain ⟨hx, hb, hml, hown, hts⟩ := id St
  have hl : lv_has ls 5 [(0, .ref x), (1, .int n), (2, .int c9), (3, .ref oa)] := hl
  refine lv_aload_n hx hb dL_trial_0 rfl (lv_at hl 3 rfl) ?_
  refine lv_iconst (v := 0) hx hb dL_trial_1 (by decide) ?_
  refine lv_aload_n hx hb dL_trial_2 rfl (lv_at hl 0 rfl) ?_
  refine lv_iload_n hx hb dL_trial_3 rfl (lv_at hl 1 rfl) ?_
  refine lv_iload_n hx hb dL_trial_4 rfl (lv_at hl 2 rfl) ?_
  refine xcallV' (g := g) (q0 := 0) (ci := 9) (As := [.int n, .int c9]) (rest := [.int 0, .ref oa]) St hK hT hA hP hD hS hl.1 [0, 1, 2, 3, 4] [5] rfl rfl rfl (c_x_trialC l hfl g x ta o lo go tt lt mo fo ro fl9 a pe wo tx ch jo tr dy sd f lc lz ll lm lg ld fc oD aD peD woD txD chD joD trD dyD sdD fD n c9 b_pe b_wo rf b_lz b_peD b_woD rfD) (cwV 2 hts (zgL (zl4 k1276 k1277 k1278 k621) k778) rfl rfl rfl (by decide +kernel) ⟨Nat.le_of_ble_eq_true rfl, Nat.le_of_ble_eq_true rfl⟩) rfl rfl rfl rfl (Nat.le_of_ble_eq_true rfl) dL_trial_5 ⟨(Nat.le_of_ble_eq_true rfl), (Nat.le_of_ble_eq_true rfl)⟩ (fun E ce q9 u9 H locs hpx hP hD hS hce hcv hcl => ?_) (fun u_ H locs hq14 hP hD hS => ?_)
  · skip
    obtain ⟨lm2_15, lg2_16, ld2_17, peD2_18, woD2_19, txD2_20, chD2_21, joD2_22, trD2_23, dyD2_24, sdD2_25, fD2_26⟩ := u9
    have hpx : (E = "java/lang/IllegalArgumentException") ∧ (0 ≤ peD2_18.toInt ∧ peD2_18.toInt ≤ 8) ∧ (0 ≤ woD2_19.toInt ∧ woD2_19.toInt ≤ 6) ∧ (zZ4 fD2_26) ∧ (E = "java/lang/IllegalArgumentException" → (1, 0) = zdTrial (zLwR fc lz ll) n c9 (pe, wo, tx, ch, jo, tr, dy, sd, f)) := hpx
    have hP : va_P g.1 vwCl (List.flatten [bOut g oa fz, bDR g x ta o lo go tt lt mo fo ro fl9, bFo g fo o lo oD, bTown g o a pe wo tx ch jo tr dy sd f, bLaw g lo lc lz ll lm2_15 lg2_16 ld2_17 fc, bTown g oD aD peD2_18 woD2_19 txD2_20 chD2_21 joD2_22 trD2_23 dyD2_24 sdD2_25 fD2_26]) H := hP
    have hD : va_D A (List.flatten [bOut g oa fz, bDR g x ta o lo go tt lt mo fo ro fl9, bFo g fo o lo oD, bTown g o a pe wo tx ch jo tr dy sd f, bLaw g lo lc lz ll lm2_15 lg2_16 ld2_17 fc, bTown g oD aD peD2_18 woD2_19 txD2_20 chD2_21 joD2_22 trD2_23 dyD2_24 sdD2_25 fD2_26]) := hD
    obtain ⟨hE9, hy27, hy28, rfD2_26, hy29⟩ := hpx
    obtain rfl := hE9
    refine vx_catch hown [] ⟨0, 10, 13, 13⟩ [] (by rw [htab]; rfl) (fun z hz => absurd hz List.not_mem_nil) (by decide) (by decide) (hts _ k1155) ((hT.1.2.2.2.2.1 _ (List.mem_of_getElem? (i := 1) rfl)).use) hce hcv hcl ?_
    refine W.widen (k := 1) (n := 6) (Nat.le_of_ble_eq_true rfl) (Nat.le_of_ble_eq_true rfl) ?_
    refine lv_astore (lv' := [(4, .ref q9), (0, .ref x), (1, .int n), (2, .int c9), (3, .ref oa)]) hx hb dL_trial_13 hl (by decide) rfl (fun ls hl => ?_)
    refine lv_iconst (v := 1) hx hb dL_trial_15 (by decide) ?_
    have hL1 : (1 : Int32).toInt = 1 := by decide
    have hP : va_P g.1 vwCl (List.flatten [bOut g oa fz, bDR g x ta o lo go tt lt mo fo ro fl9, bFo g fo o lo oD, bTown g o a pe wo tx ch jo tr dy sd f, bLaw g lo lc lz ll lm2_15 lg2_16 ld2_17 fc, bTown g oD aD peD2_18 woD2_19 txD2_20 chD2_21 joD2_22 trD2_23 dyD2_24 sdD2_25 fD2_26]) H := hP
    have hD : va_D A (List.flatten [bOut g oa fz, bDR g x ta o lo go tt lt mo fo ro fl9, bFo g fo o lo oD, bTown g o a pe wo tx ch jo tr dy sd f, bLaw g lo lc lz ll lm2_15 lg2_16 ld2_17 fc, bTown g oD aD peD2_18 woD2_19 txD2_20 chD2_21 joD2_22 trD2_23 dyD2_24 sdD2_25 fD2_26]) := hD
    obtain ⟨hP, hD⟩ := zord (g := g) (Bs' := [bDR g x ta o lo go tt lt mo fo ro fl9, bFo g fo o lo oD, bTown g o a pe wo tx ch jo tr dy sd f, bLaw g lo lc lz ll lm2_15 lg2_16 ld2_17 fc, bTown g oD aD peD2_18 woD2_19 txD2_20 chD2_21 joD2_22 trD2_23 dyD2_24 sdD2_25 fD2_26, bOut g oa fz]) [1, 2, 3, 4, 5, 0] rfl rfl hP hD
    exact zret_i hx hb hr hlocks hS (Nat.le_of_ble_eq_true rfl) (Nat.le_of_ble_eq_true rfl) dL_trial_16 (lm2_15, lg2_16, ld2_17, peD2_18, woD2_19, txD2_20, chD2_21, joD2_22, trD2_23, dyD2_24, sdD2_25, fD2_26, fz, (1 : Int32), (0 : Int32)) rfl (show (0 ≤ peD2_18.toInt ∧ peD2_18.toInt ≤ 8) ∧ (0 ≤ woD2_19.toInt ∧ woD2_19.toInt ≤ 6) ∧ (zZ4 fD2_26) ∧ ((1, 0) = zdTrial (zLwR fc lz ll) n c9 (pe, wo, tx, ch, jo, tr, dy, sd, f)) ∧ ((1 : Int32).toInt = 0 → fz 0 = Int32.toInt64 0) from ⟨(by first | assumption | omega | decide), (by first | assumption | omega | decide), (by first | assumption | omega | decide), (hy29 rfl), (fun h9 => absurd h9 (by decide))⟩) hP hD
  · skip
    obtain ⟨lm2_1, lg2_2, ld2_3, peD2_4, woD2_5, txD2_6, chD2_7, joD2_8, trD2_9, dyD2_10, sdD2_11, fD2_12, q_13⟩ := u_
    replace hq14 : (0 ≤ peD2_4.toInt ∧ peD2_4.toInt ≤ 8) ∧ (0 ≤ woD2_5.toInt ∧ woD2_5.toInt ≤ 6) ∧ (zZ4 fD2_12) ∧ ((0, q_13) = zdTrial (zLwR fc lz ll) n c9 (pe, wo, tx, ch, jo, tr, dy, sd, f)) := hq14
    have hP : va_P g.1 vwCl (List.flatten [bOut g oa fz, bDR g x ta o lo go tt lt mo fo ro fl9, bFo g fo o lo oD, bTown g o a pe wo tx ch jo tr dy sd f, bLaw g lo lc lz ll lm2_1 lg2_2 ld2_3 fc, bTown g oD aD peD2_4 woD2_5 txD2_6 chD2_7 joD2_8 trD2_9 dyD2_10 sdD2_11 fD2_12]) H := hP
    have hD : va_D A (List.flatten [bOut g oa fz, bDR g x ta o lo go tt lt mo fo ro fl9, bFo g fo o lo oD, bTown g o a pe wo tx ch jo tr dy sd f, bLaw g lo lc lz ll lm2_1 lg2_2 ld2_3 fc, bTown g oD aD peD2_4 woD2_5 txD2_6 chD2_7 joD2_8 trD2_9 dyD2_10 sdD2_11 fD2_12]) := hD
    refine W.widen (k := 1) (n := 6) (Nat.le_of_ble_eq_true rfl) (Nat.le_of_ble_eq_true rfl) ?_
    refine W.eq (g2 := F0 m 8 ls [.int q_13, .int 0, .ref oa]) rfl ?_
    obtain ⟨hq14_0, hq14_1, rfD2_12, hq14_3⟩ := hq14
    refine lv_i2l (v := (q_13 : Int32).toInt64) hx hb dL_trial_8 rfl ?_
    refine va_last hx hb hK hP hD hS 0 2 rfl rfl (zin rfl) dL_trial_9 (fun H locs hP hD hS => ?_)
    have hP : va_P g.1 vwCl (List.flatten [[(oa, .inl (g.2 2, 1, .inr (.inl (vp_updL fz 0 ((q_13 : Int32).toInt64)))))], bDR g x ta o lo go tt lt mo fo ro fl9, bFo g fo o lo oD, bTown g o a pe wo tx ch jo tr dy sd f, bLaw g lo lc lz ll lm2_1 lg2_2 ld2_3 fc, bTown g oD aD peD2_4 woD2_5 txD2_6 chD2_7 joD2_8 trD2_9 dyD2_10 sdD2_11 fD2_12]) H := hP
    have hD : va_D A (List.flatten [[(oa, .inl (g.2 2, 1, .inr (.inl (vp_updL fz 0 ((q_13 : Int32).toInt64)))))], bDR g x ta o lo go tt lt mo fo ro fl9, bFo g fo o lo oD, bTown g o a pe wo tx ch jo tr dy sd f, bLaw g lo lc lz ll lm2_1 lg2_2 ld2_3 fc, bTown g oD aD peD2_4 woD2_5 txD2_6 chD2_7 joD2_8 trD2_9 dyD2_10 sdD2_11 fD2_12]) := hD
    refine lv_goto (tgt := 17) hx hb dL_trial_10 (by decide) ?_
    refine lv_iconst (v := 0) hx hb dL_trial_17 (by decide) ?_
    have hL0 : (0 : Int32).toInt = 0 := by decide
    have hP : va_P g.1 vwCl (List.flatten [bOut g oa (vp_updL fz 0 ((q_13 : Int32).toInt64)), bDR g x ta o lo go tt lt mo fo ro fl9, bFo g fo o lo oD, bTown g o a pe wo tx ch jo tr dy sd f, bLaw g lo lc lz ll lm2_1 lg2_2 ld2_3 fc, bTown g oD aD peD2_4 woD2_5 txD2_6 chD2_7 joD2_8 trD2_9 dyD2_10 sdD2_11 fD2_12]) H := hP
    have hD : va_D A (List.flatten [bOut g oa (vp_updL fz 0 ((q_13 : Int32).toInt64)), bDR g x ta o lo go tt lt mo fo ro fl9, bFo g fo o lo oD, bTown g o a pe wo tx ch jo tr dy sd f, bLaw g lo lc lz ll lm2_1 lg2_2 ld2_3 fc, bTown g oD aD peD2_4 woD2_5 txD2_6 chD2_7 joD2_8 trD2_9 dyD2_10 sdD2_11 fD2_12]) := hD
    obtain ⟨hP, hD⟩ := zord (g := g) (Bs' := [bDR g x ta o lo go tt lt mo fo ro fl9, bFo g fo o lo oD, bTown g o a pe wo tx ch jo tr dy sd f, bLaw g lo lc lz ll lm2_1 lg2_2 ld2_3 fc, bTown g oD aD peD2_4 woD2_5 txD2_6 chD2_7 joD2_8 trD2_9 dyD2_10 sdD2_11 fD2_12, bOut g oa (vp_updL fz 0 ((q_13 : Int32).toInt64))]) [1, 2, 3, 4, 5, 0] rfl rfl hP hD
    exact zret_i hx hb hr hlocks hS (Nat.le_of_ble_eq_true rfl) (Nat.le_of_ble_eq_true rfl) dL_trial_18 (lm2_1, lg2_2, ld2_3, peD2_4, woD2_5, txD2_6, chD2_7, joD2_8, trD2_9, dyD2_10, sdD2_11, fD2_12, vp_updL fz 0 ((q_13 : Int32).toInt64), (0 : Int32), q_13) rfl (show (0 ≤ peD2_4.toInt ∧ peD2_4.toInt ≤ 8) ∧ (0 ≤ woD2_5.toInt ∧ woD2_5.toInt ≤ 6) ∧ (zZ4 fD2_12) ∧ ((0, q_13) = zdTrial (zLwR fc lz ll) n c9 (pe, wo, tx, ch, jo, tr, dy, sd, f)) ∧ ((0 : Int32).toInt = 0 → (vp_updL fz 0 ((q_13 : Int32).toInt64)) 0 = Int32.toInt64 q_13) from ⟨(by first | assumption | omega | decide), (by first | assumption | omega | decide), (by first | assumption | omega | decide), hq14_3, (fun _ => rfl)⟩) hP hD
set_option maxRecDepth 100000 in
set_option maxHeartbeats 4000000 in
theorem c_doubtersF (l : Launch) (g : zG) (o : Nat) (a : Nat → Nat) (pe : Int32) (wo : Int32) (tx : Int32) (ch : Int32) (jo : Int32) (tr : Int32) (dy : Int32) (sd : Int32) (f : Nat → Nat → Int32) (b_pe : 0 ≤ pe.toInt ∧ pe.toInt ≤ 8) (b_wo : 0 ≤ wo.toInt ∧ wo.toInt ≤ 6) (rf : zZ4 f) : zM' g l yX9_doubters (Cond.code yX9_doubters cX9_doubters 3 (some .int) :: zB) ({ frames := 1, cells := 0, slots := 0, locals := 21 } : Room) [.ref o] [bTown g o a pe wo tx ch jo tr dy sd f] (fun _ : Unit => some (.int (zDb f pe.toInt.toNat))) (fun _ : Unit => True) (fun _ : Unit => [bTown g o a pe wo tx ch jo tr dy sd f]) := by
  refine zM'.of (cc := cX9_doubters) (maxL := 3) (rt := (some .int)) (by decide) rfl (Nat.le_of_ble_eq_true rfl) ?_
  intro p e s m args below meth c A ls St hr hlocks hin hK hT hA hP hD hS hl
  obtain ⟨hx, hb, hml, hown, hts⟩ := id St
  have hl : lv_has ls 3 [(0, .ref o)] := hl
  refine lv_iconst (v := 0) hx hb dX9_doubters_0 (by decide) ?_
  refine lv_istore_n (lv' := [(1, .int 0), (0, .ref o)]) hx hb dX9_doubters_1 rfl hl (by decide) rfl (fun ls hl => ?_)
  refine lv_iconst (v := 0) hx hb dX9_doubters_2 (by decide) ?_
  refine lv_istore_n (lv' := [(2, .int 0), (1, .int 0), (0, .ref o)]) hx hb dX9_doubters_3 rfl hl (by decide) rfl (fun ls hl => ?_)
  have hl := lv_sub (l' := [(0, .ref o), (1, .int 0), (2, .int 0)]) hl [2, 1, 0] rfl
  have LP4_6 : ∀ (kf : Nat) (x_1 : Int32) (x_2 : Int32), (0 ≤ x_2.toInt ∧ x_2.toInt ≤ 8) → (x_1 = zOf (fun x => if (f 3 x).toInt = -1 ∧ (f 0 x).toInt < 33 then zBit x else 0) x_2.toInt.toNat) → (x_2.toInt ≤ pe.toInt) → ∀ (H : Heap) (locs : List Loc) (ls : Array Slot), ((9 - x_2.toInt).toNat) < kf → va_P g.1 vwCl (List.flatten [bTown g o a pe wo tx ch jo tr dy sd f]) H → va_D A (List.flatten [bTown g o a pe wo tx ch jo tr dy sd f]) → va_S A s.heap H locs → lv_has ls 3 [(0, .ref o), (1, .int x_1), (2, .int x_2)] → W p l e ({ frames := 1, cells := 0, slots := 0, locals := 21 } : Room) s m args below meth c H locs (0) (0) (zF g (fun _ : Unit => some (.int (zDb f pe.toInt.toNat))) (fun _ : Unit => True) (fun _ : Unit => [bTown g o a pe wo tx ch jo tr dy sd f]) ({ frames := 1, cells := 0, slots := 0, locals := 21 } : Room) below args s A) (F0 m 4 ls []) := by
    intro kf
    induction kf with
    | zero => intro x_1 x_2 i3 i4 i5 H locs ls hk; exact absurd hk (Nat.not_lt_zero _)
    | succ kf ih4_7 =>
      intro x_1 x_2 i3 i4 i5 H locs ls hk4_7 hP hD hS hl
      refine lv_iload_n hx hb dX9_doubters_4 rfl (lv_at hl 2 rfl) ?_
      refine lv_aload_n hx hb dX9_doubters_5 rfl (lv_at hl 0 rfl) ?_
      refine va_get (D := g.1) (ci := 7) (v := .int pe) (C := RX9) (T := TX9) (N := 19) hx hb hts izRX9 hown hK hP 0 rfl rfl 0 (by decide) (hts _ k31) (fun _ h9 => h9) rfl dX9_doubters_6 ?_
      refine lv_icmp_ge (tgt := 43) hx hb dX9_doubters_9 (by decide) (fun cb9 => ?_) (fun cb9 => ?_)
      · skip
        have c8 : pe.toInt ≤ x_2.toInt := zle cb9 rfl rfl
        refine lv_iload_n hx hb dX9_doubters_43 rfl (lv_at hl 1 rfl) ?_
        refine ztop (r := (zDb f pe.toInt.toNat)) (zFo_x i4 (by omega)) ?_
        have hP : va_P g.1 vwCl (List.flatten [bTown g o a pe wo tx ch jo tr dy sd f]) H := hP
        have hD : va_D A (List.flatten [bTown g o a pe wo tx ch jo tr dy sd f]) := hD
        exact mret_i hx hb hr hlocks hS (Nat.le_of_ble_eq_true rfl) (Nat.le_of_ble_eq_true rfl) dX9_doubters_44 () rfl trivial hP hD
      · skip
        have c9 : x_2.toInt < pe.toInt := zlti (Int32.not_le.mp cb9) rfl rfl
        have n10 : x_2.toInt ≤ 7 := zL1 (b := 8) c9 b_pe.2 (by decide)
        have n11 : 1 ≤ pe.toInt := zL2 (a := 0) c9 i3.1 (by decide)
        refine lv_aload_n hx hb dX9_doubters_12 rfl (lv_at hl 0 rfl) ?_
        refine lv_iload_n hx hb dX9_doubters_13 rfl (lv_at hl 2 rfl) ?_
        refine mcallV' (g := g) (q0 := 0) (ci := 7) (As := [.int x_2]) (rest := []) St hK hT hA hP hD hS hl.1 [0] [] rfl rfl rfl (c_isHereF l g o a pe wo tx ch jo tr dy sd f x_2 (⟨i3.1, n10⟩)) (cwV 1 hts (zgL (zl4 k53 k54 k55 k24) k51) rfl rfl rfl (by decide +kernel) ⟨Nat.le_of_ble_eq_true rfl, Nat.le_of_ble_eq_true rfl⟩) rfl rfl rfl rfl (Nat.le_of_ble_eq_true rfl) dX9_doubters_14 ⟨(Nat.le_of_ble_eq_true rfl), (Nat.le_of_ble_eq_true rfl)⟩ (fun q_12 H locs hq13 hP hD hS => ?_)
        replace hq13 : (q_12 = 1 ∧ (f 3 x_2.toInt.toNat).toInt = -1 ∨ q_12 = 0 ∧ ¬ (f 3 x_2.toInt.toNat).toInt = -1) := hq13
        have hP : va_P g.1 vwCl (List.flatten [bTown g o a pe wo tx ch jo tr dy sd f]) H := hP
        have hD : va_D A (List.flatten [bTown g o a pe wo tx ch jo tr dy sd f]) := hD
        refine W.widen (k := 0) (n := 0) (Nat.le_of_ble_eq_true rfl) (Nat.le_of_ble_eq_true rfl) ?_
        refine W.eq (g2 := F0 m 17 ls [.int q_12]) rfl ?_
        rcases hq13 with ⟨rfl, hq13_k⟩ | ⟨rfl, hq13_k⟩
        · skip
          refine lv_if_eq (tgt := 37) hx hb dX9_doubters_17 (by decide) (fun c14 => absurd c14 (by decide)) (fun _ => ?_)
          refine lv_aload_n hx hb dX9_doubters_20 rfl (lv_at hl 0 rfl) ?_
          refine va_get (D := g.1) (ci := 7) (v := .ref (a 0)) (C := RX9) (T := TX9) (N := 19) hx hb hts izRX9 hown hK hP 0 rfl rfl 8 (by decide) (hts _ k9) (fun _ h9 => h9) rfl dX9_doubters_21 ?_
          refine lv_iload_n hx hb dX9_doubters_24 rfl (lv_at hl 2 rfl) ?_
          refine va_iald hx hb hK hP 1 0 rfl rfl (zinK (a := 0) (b := 7) i3.1 n10 (by decide)) dX9_doubters_25 ?_
          refine ztop (r := (f 0 x_2.toInt.toNat)) rfl ?_
          refine lv_bipush (v := 33) hx hb dX9_doubters_26 (by decide) ?_
          refine lv_icmp_ge (tgt := 37) hx hb dX9_doubters_28 (by decide) (fun cb9 => ?_) (fun cb9 => ?_)
          · skip
            have c15 : 33 ≤ (f 0 x_2.toInt.toNat).toInt := zle cb9 (by decide) rfl
            have n16 : 33 ≤ (f 0 x_2.toInt.toNat).toInt := Int.le_trans (Int.le_refl _) c15
            refine ziinc3 (n' := 1) (a' := 1) (b' := 8) (lv' := fun v9 => [(2, .int v9), (0, .ref o), (1, .int x_1)]) hx hb dX9_doubters_37 hl (k := 2) rfl (by decide) (fun _ => rfl) (zaddK (i := x_2.toInt) (j := 1) rfl (by decide) i3.1 n10 (Int.le_refl _) (Int.le_refl _) (by decide)) (fun x_17 ls hx_17 hl => ?_)
            refine lv_goto (tgt := 4) hx hb dX9_doubters_40 (by decide) ?_
            have hl := lv_sub (l' := [(0, .ref o), (1, .int x_1), (2, .int x_17)]) hl [1, 2, 0] rfl
            have hP : va_P g.1 vwCl (List.flatten [bTown g o a pe wo tx ch jo tr dy sd f]) H := hP
            have hD : va_D A (List.flatten [bTown g o a pe wo tx ch jo tr dy sd f]) := hD
            exact ih4_7 x_1 x_17 ⟨(Int.le_trans (by decide) hx_17.2.1), hx_17.2.2⟩ (zFo_s i4 hx_17.1 (by omega) (by (try dsimp only); (repeat' split) <;> first | rfl | exact (Int32.add_zero _).symm | exact Int32.or_zero.symm | (exfalso; omega))) (by first | omega | assumption | decide) H _ ls (zmK hx_17.1 (by decide) n10 (by decide) hk4_7)  hP hD hS (lv_sub hl [0, 1, 2] rfl)
          · skip
            have c18 : (f 0 x_2.toInt.toNat).toInt < 33 := zlti (Int32.not_le.mp cb9) rfl (by decide)
            have n19 : (f 0 x_2.toInt.toNat).toInt ≤ 32 := zL1 (b := 33) c18 (Int.le_refl _) (by decide)
            refine lv_iload_n hx hb dX9_doubters_31 rfl (lv_at hl 1 rfl) ?_
            refine lv_iconst (v := 1) hx hb dX9_doubters_32 (by decide) ?_
            refine lv_iload_n hx hb dX9_doubters_33 rfl (lv_at hl 2 rfl) ?_
            refine lv_ishl hx hb dX9_doubters_34 ?_
            refine ztop (r := (zBit x_2.toInt.toNat)) (zBit_k i3.1) ?_
            refine lv_ior hx hb dX9_doubters_35 ?_
            refine lv_istore_n (lv' := [(1, .int (x_1 ||| (zBit x_2.toInt.toNat))), (0, .ref o), (2, .int x_2)]) hx hb dX9_doubters_36 rfl hl (by decide) rfl (fun ls hl => ?_)
            refine ziinc3 (n' := 1) (a' := 1) (b' := 8) (lv' := fun v9 => [(2, .int v9), (1, .int (x_1 ||| (zBit x_2.toInt.toNat))), (0, .ref o)]) hx hb dX9_doubters_37 hl (k := 2) rfl (by decide) (fun _ => rfl) (zaddK (i := x_2.toInt) (j := 1) rfl (by decide) i3.1 n10 (Int.le_refl _) (Int.le_refl _) (by decide)) (fun x_20 ls hx_20 hl => ?_)
            refine lv_goto (tgt := 4) hx hb dX9_doubters_40 (by decide) ?_
            have hl := lv_sub (l' := [(0, .ref o), (1, .int (x_1 ||| (zBit x_2.toInt.toNat))), (2, .int x_20)]) hl [2, 1, 0] rfl
            have hP : va_P g.1 vwCl (List.flatten [bTown g o a pe wo tx ch jo tr dy sd f]) H := hP
            have hD : va_D A (List.flatten [bTown g o a pe wo tx ch jo tr dy sd f]) := hD
            exact ih4_7 (x_1 ||| (zBit x_2.toInt.toNat)) x_20 ⟨(Int.le_trans (by decide) hx_20.2.1), hx_20.2.2⟩ (zFo_s i4 hx_20.1 (by omega) (by (try dsimp only); (repeat' split) <;> first | rfl | exact (Int32.add_zero _).symm | exact Int32.or_zero.symm | (exfalso; omega))) (by first | omega | assumption | decide) H _ ls (zmK hx_20.1 (by decide) n10 (by decide) hk4_7)  hP hD hS (lv_sub hl [0, 1, 2] rfl)
        · skip
          refine lv_if_eq (tgt := 37) hx hb dX9_doubters_17 (by decide) (fun _ => ?_) (fun c21 => absurd (by decide) c21)
          refine ziinc3 (n' := 1) (a' := 1) (b' := 8) (lv' := fun v9 => [(2, .int v9), (0, .ref o), (1, .int x_1)]) hx hb dX9_doubters_37 hl (k := 2) rfl (by decide) (fun _ => rfl) (zaddK (i := x_2.toInt) (j := 1) rfl (by decide) i3.1 n10 (Int.le_refl _) (Int.le_refl _) (by decide)) (fun x_22 ls hx_22 hl => ?_)
          refine lv_goto (tgt := 4) hx hb dX9_doubters_40 (by decide) ?_
          have hl := lv_sub (l' := [(0, .ref o), (1, .int x_1), (2, .int x_22)]) hl [1, 2, 0] rfl
          have hP : va_P g.1 vwCl (List.flatten [bTown g o a pe wo tx ch jo tr dy sd f]) H := hP
          have hD : va_D A (List.flatten [bTown g o a pe wo tx ch jo tr dy sd f]) := hD
          exact ih4_7 x_1 x_22 ⟨(Int.le_trans (by decide) hx_22.2.1), hx_22.2.2⟩ (zFo_s i4 hx_22.1 (by omega) (by (try dsimp only); (repeat' split) <;> first | rfl | exact (Int32.add_zero _).symm | exact Int32.or_zero.symm | (exfalso; omega))) (by first | omega | assumption | decide) H _ ls (zmK hx_22.1 (by decide) n10 (by decide) hk4_7)  hP hD hS (lv_sub hl [0, 1, 2] rfl)
  have hL0 : (0 : Int32).toInt = 0 := by decide
  have hP : va_P g.1 vwCl (List.flatten [bTown g o a pe wo tx ch jo tr dy sd f]) s.heap := hP
  have hD : va_D A (List.flatten [bTown g o a pe wo tx ch jo tr dy sd f]) := hD
  exact LP4_6 _ 0 0 (by decide) (zFo_0 (by decide) (by decide)) (by first | omega | assumption | decide) s.heap _ ls (Nat.lt_succ_self _)  hP hD hS (lv_sub hl [0, 1, 2] rfl)
set_option maxRecDepth 100000 in
set_option maxHeartbeats 4000000 in
theorem c_worthOfF (l : Launch) (g : zG) (o : Nat) (a : Nat → Nat) (pe : Int32) (wo : Int32) (tx : Int32) (ch : Int32) (jo : Int32) (tr : Int32) (dy : Int32) (sd : Int32) (f : Nat → Nat → Int32) (x1 : Int32) (b_pe : 0 ≤ pe.toInt ∧ pe.toInt ≤ 8) (b_wo : 0 ≤ wo.toInt ∧ wo.toInt ≤ 6) (rf : zZ4 f) (b_x1 : 0 ≤ x1.toInt ∧ x1.toInt ≤ 7) : zM' g l yX9_worthOf (Cond.code yX9_worthOf cX9_worthOf 2 (some .int) :: zB) ({ frames := 4, cells := 0, slots := 0, locals := 85 } : Room) [.ref o, .int x1] [bTown g o a pe wo tx ch jo tr dy sd f] (fun _ : Unit => some (.int (zWth f pe.toInt.toNat x1.toInt.toNat))) (fun _ : Unit => True) (fun _ : Unit => [bTown g o a pe wo tx ch jo tr dy sd f]) := by
  refine zM'.of (cc := cX9_worthOf) (maxL := 2) (rt := (some .int)) (by decide) rfl (Nat.le_of_ble_eq_true rfl) ?_
  intro p e s m args below meth c A ls St hr hlocks hin hK hT hA hP hD hS hl
  obtain ⟨hx, hb, hml, hown, hts⟩ := id St
  have hl : lv_has ls 2 [(0, .ref o), (1, .int x1)] := hl
  refine lv_aload_n hx hb dX9_worthOf_0 rfl (lv_at hl 0 rfl) ?_
  refine va_get (D := g.1) (ci := 7) (v := .ref (a 1)) (C := RX9) (T := TX9) (N := 19) hx hb hts izRX9 hown hK hP 0 rfl rfl 9 (by decide) (hts _ k10) (fun _ h9 => h9) rfl dX9_worthOf_1 ?_
  refine lv_iload_n hx hb dX9_worthOf_4 rfl (lv_at hl 1 rfl) ?_
  refine va_iald hx hb hK hP 2 0 rfl rfl (zinK (a := 0) (b := 7) b_x1.1 b_x1.2 (by decide)) dX9_worthOf_5 ?_
  refine ztop (r := (f 1 x1.toInt.toNat)) rfl ?_
  refine lv_aload_n hx hb dX9_worthOf_6 rfl (lv_at hl 0 rfl) ?_
  refine va_get (D := g.1) (ci := 7) (v := .ref (a 2)) (C := RX9) (T := TX9) (N := 19) hx hb hts izRX9 hown hK hP 0 rfl rfl 10 (by decide) (hts _ k11) (fun _ h9 => h9) rfl dX9_worthOf_7 ?_
  refine lv_iload_n hx hb dX9_worthOf_10 rfl (lv_at hl 1 rfl) ?_
  refine va_iald hx hb hK hP 3 0 rfl rfl (zinK (a := 0) (b := 7) b_x1.1 b_x1.2 (by decide)) dX9_worthOf_11 ?_
  refine ztop (r := (f 2 x1.toInt.toNat)) rfl ?_
  refine lv_aload_n hx hb dX9_worthOf_12 rfl (lv_at hl 0 rfl) ?_
  refine mcallV' (g := g) (q0 := 0) (ci := 7) (As := []) (rest := [.int (f 2 x1.toInt.toNat), .int (f 1 x1.toInt.toNat)]) St hK hT hA hP hD hS hl.1 [0] [] rfl rfl rfl (c_sharePriceF l g o a pe wo tx ch jo tr dy sd f b_pe b_wo rf) (cwV 0 hts (zgL (zl4 k515 k188 k189 k24) k186) rfl rfl rfl (by decide +kernel) ⟨Nat.le_of_ble_eq_true rfl, Nat.le_of_ble_eq_true rfl⟩) rfl rfl rfl rfl (Nat.le_of_ble_eq_true rfl) dX9_worthOf_13 ⟨(Nat.le_of_ble_eq_true rfl), (Nat.le_of_ble_eq_true rfl)⟩ (fun _u H locs hq1 hP hD hS => ?_)
  have hP : va_P g.1 vwCl (List.flatten [bTown g o a pe wo tx ch jo tr dy sd f]) H := hP
  have hD : va_D A (List.flatten [bTown g o a pe wo tx ch jo tr dy sd f]) := hD
  refine W.widen (k := 0) (n := 0) (Nat.le_of_ble_eq_true rfl) (Nat.le_of_ble_eq_true rfl) ?_
  refine W.eq (g2 := F0 m 16 ls [.int (zPrice f pe.toInt.toNat), .int (f 2 x1.toInt.toNat), .int (f 1 x1.toInt.toNat)]) rfl ?_
  refine lv_imul hx hb dX9_worthOf_16 ?_
  refine lv_iadd hx hb dX9_worthOf_17 ?_
  refine ztop (r := (zWth f pe.toInt.toNat x1.toInt.toNat)) rfl ?_
  have hP : va_P g.1 vwCl (List.flatten [bTown g o a pe wo tx ch jo tr dy sd f]) H := hP
  have hD : va_D A (List.flatten [bTown g o a pe wo tx ch jo tr dy sd f]) := hD
  exact mret_i hx hb hr hlocks hS (Nat.le_of_ble_eq_true rfl) (Nat.le_of_ble_eq_true rfl) dX9_worthOf_18 () rfl trivial hP hD
set_option maxRecDepth 100000 in
set_option maxHeartbeats 4000000 in
theorem c_shareOfF (l : Launch) (g : zG) (o : Nat) (a : Nat → Nat) (pe : Int32) (wo : Int32) (tx : Int32) (ch : Int32) (jo : Int32) (tr : Int32) (dy : Int32) (sd : Int32) (f : Nat → Nat → Int32) (x1 : Int32) (b_pe : 0 ≤ pe.toInt ∧ pe.toInt ≤ 8) (b_wo : 0 ≤ wo.toInt ∧ wo.toInt ≤ 6) (rf : zZ4 f) (b_x1 : 0 ≤ x1.toInt ∧ x1.toInt ≤ 7) : zM' g l yX9_shareOf (Cond.code yX9_shareOf cX9_shareOf 3 (some .int) :: zB) ({ frames := 2, cells := 0, slots := 0, locals := 43 } : Room) [.ref o, .int x1] [bTown g o a pe wo tx ch jo tr dy sd f] (fun _ : Unit => some (.int (zShr f pe.toInt.toNat x1.toInt.toNat))) (fun _ : Unit => True) (fun _ : Unit => [bTown g o a pe wo tx ch jo tr dy sd f]) := by
  refine zM'.of (cc := cX9_shareOf) (maxL := 3) (rt := (some .int)) (by decide) rfl (Nat.le_of_ble_eq_true rfl) ?_
  intro p e s m args below meth c A ls St hr hlocks hin hK hT hA hP hD hS hl
  obtain ⟨hx, hb, hml, hown, hts⟩ := id St
  have hl : lv_has ls 3 [(0, .ref o), (1, .int x1)] := hl
  refine lv_aload_n hx hb dX9_shareOf_0 rfl (lv_at hl 0 rfl) ?_
  refine mcallV' (g := g) (q0 := 0) (ci := 7) (As := []) (rest := []) St hK hT hA hP hD hS hl.1 [0] [] rfl rfl rfl (c_believedF l g o a pe wo tx ch jo tr dy sd f b_pe b_wo rf) (cwV 0 hts (zgL (zl4 k68 k69 k70 k24) k60) rfl rfl rfl (by decide +kernel) ⟨Nat.le_of_ble_eq_true rfl, Nat.le_of_ble_eq_true rfl⟩) rfl rfl rfl rfl (Nat.le_of_ble_eq_true rfl) dX9_shareOf_1 ⟨(Nat.le_of_ble_eq_true rfl), (Nat.le_of_ble_eq_true rfl)⟩ (fun _u H locs hq1 hP hD hS => ?_)
  have hP : va_P g.1 vwCl (List.flatten [bTown g o a pe wo tx ch jo tr dy sd f]) H := hP
  have hD : va_D A (List.flatten [bTown g o a pe wo tx ch jo tr dy sd f]) := hD
  refine W.widen (k := 0) (n := 0) (Nat.le_of_ble_eq_true rfl) (Nat.le_of_ble_eq_true rfl) ?_
  refine W.eq (g2 := F0 m 4 ls [.int (zBel f pe.toInt.toNat)]) rfl ?_
  refine lv_istore_n (lv' := [(2, .int (zBel f pe.toInt.toNat)), (0, .ref o), (1, .int x1)]) hx hb dX9_shareOf_4 rfl hl (by decide) rfl (fun ls hl => ?_)
  refine lv_iload_n hx hb dX9_shareOf_5 rfl (lv_at hl 0 rfl) ?_
  refine lv_if_eq (tgt := 17) hx hb dX9_shareOf_6 (by decide) (fun cb9 => ?_) (fun cb9 => ?_)
  · skip
    have c2 : (zBel f pe.toInt.toNat).toInt = 0 := zeq cb9 rfl (by decide)
    have n3 : 0 ≤ (zBel f pe.toInt.toNat).toInt := Int.le_trans (Int.le_refl _) (Int.le_of_eq c2.symm)
    have n4 : (zBel f pe.toInt.toNat).toInt ≤ 0 := Int.le_trans (Int.le_of_eq c2) (Int.le_refl _)
    refine lv_iconst (v := 0) hx hb dX9_shareOf_17 (by decide) ?_
    refine lv_goto (tgt := 32) hx hb dX9_shareOf_18 (by decide) ?_
    refine ztop (r := (zShr f pe.toInt.toNat x1.toInt.toNat)) (zShr_0 (Or.inl (by omega))) ?_
    have hP : va_P g.1 vwCl (List.flatten [bTown g o a pe wo tx ch jo tr dy sd f]) H := hP
    have hD : va_D A (List.flatten [bTown g o a pe wo tx ch jo tr dy sd f]) := hD
    exact mret_i hx hb hr hlocks hS (Nat.le_of_ble_eq_true rfl) (Nat.le_of_ble_eq_true rfl) dX9_shareOf_32 () rfl trivial hP hD
  · skip
    have c5 : ¬ (zBel f pe.toInt.toNat).toInt = 0 := zne cb9 rfl (by decide)
    refine lv_aload_n hx hb dX9_shareOf_9 rfl (lv_at hl 1 rfl) ?_
    refine lv_iload_n hx hb dX9_shareOf_10 rfl (lv_at hl 2 rfl) ?_
    refine mcallV' (g := g) (q0 := 0) (ci := 7) (As := [.int x1]) (rest := []) St hK hT hA hP hD hS hl.1 [0] [] rfl rfl rfl (c_isHereF l g o a pe wo tx ch jo tr dy sd f x1 b_x1) (cwV 1 hts (zgL (zl4 k53 k54 k55 k24) k51) rfl rfl rfl (by decide +kernel) ⟨Nat.le_of_ble_eq_true rfl, Nat.le_of_ble_eq_true rfl⟩) rfl rfl rfl rfl (Nat.le_of_ble_eq_true rfl) dX9_shareOf_11 ⟨(Nat.le_of_ble_eq_true rfl), (Nat.le_of_ble_eq_true rfl)⟩ (fun q_6 H locs hq7 hP hD hS => ?_)
    replace hq7 : (q_6 = 1 ∧ (f 3 x1.toInt.toNat).toInt = -1 ∨ q_6 = 0 ∧ ¬ (f 3 x1.toInt.toNat).toInt = -1) := hq7
    have hP : va_P g.1 vwCl (List.flatten [bTown g o a pe wo tx ch jo tr dy sd f]) H := hP
    have hD : va_D A (List.flatten [bTown g o a pe wo tx ch jo tr dy sd f]) := hD
    refine W.widen (k := 0) (n := 0) (Nat.le_of_ble_eq_true rfl) (Nat.le_of_ble_eq_true rfl) ?_
    refine W.eq (g2 := F0 m 14 ls [.int q_6]) rfl ?_
    rcases hq7 with ⟨rfl, hq7_k⟩ | ⟨rfl, hq7_k⟩
    · skip
      refine lv_if_ne (tgt := 21) hx hb dX9_shareOf_14 (by decide) (fun _ => ?_) (fun c8 => absurd c8 (by decide))
      refine lv_aload_n hx hb dX9_shareOf_21 rfl (lv_at hl 1 rfl) ?_
      refine va_get (D := g.1) (ci := 7) (v := .ref (a 0)) (C := RX9) (T := TX9) (N := 19) hx hb hts izRX9 hown hK hP 0 rfl rfl 8 (by decide) (hts _ k9) (fun _ h9 => h9) rfl dX9_shareOf_22 ?_
      refine lv_iload_n hx hb dX9_shareOf_25 rfl (lv_at hl 2 rfl) ?_
      refine va_iald hx hb hK hP 1 0 rfl rfl (zinK (a := 0) (b := 7) b_x1.1 b_x1.2 (by decide)) dX9_shareOf_26 ?_
      refine ztop (r := (f 0 x1.toInt.toNat)) rfl ?_
      refine lv_bipush (v := 100) hx hb dX9_shareOf_27 (by decide) ?_
      refine lv_imul hx hb dX9_shareOf_29 ?_
      refine lv_iload_n hx hb dX9_shareOf_30 rfl (lv_at hl 0 rfl) ?_
      refine lv_idiv hx hb dX9_shareOf_31 (zne0 (by omega)) ?_
      refine ztop (r := (zShr f pe.toInt.toNat x1.toInt.toNat)) (zShr_1 (by omega) hq7_k) ?_
      have hP : va_P g.1 vwCl (List.flatten [bTown g o a pe wo tx ch jo tr dy sd f]) H := hP
      have hD : va_D A (List.flatten [bTown g o a pe wo tx ch jo tr dy sd f]) := hD
      exact mret_i hx hb hr hlocks hS (Nat.le_of_ble_eq_true rfl) (Nat.le_of_ble_eq_true rfl) dX9_shareOf_32 () rfl trivial hP hD
    · skip
      refine lv_if_ne (tgt := 21) hx hb dX9_shareOf_14 (by decide) (fun c9 => absurd (by decide) c9) (fun _ => ?_)
      refine lv_iconst (v := 0) hx hb dX9_shareOf_17 (by decide) ?_
      refine lv_goto (tgt := 32) hx hb dX9_shareOf_18 (by decide) ?_
      refine ztop (r := (zShr f pe.toInt.toNat x1.toInt.toNat)) (zShr_0 (Or.inr hq7_k)) ?_
      have hP : va_P g.1 vwCl (List.flatten [bTown g o a pe wo tx ch jo tr dy sd f]) H := hP
      have hD : va_D A (List.flatten [bTown g o a pe wo tx ch jo tr dy sd f]) := hD
      exact mret_i hx hb hr hlocks hS (Nat.le_of_ble_eq_true rfl) (Nat.le_of_ble_eq_true rfl) dX9_shareOf_32 () rfl trivial hP hD
set_option maxRecDepth 100000 in
set_option maxHeartbeats 4000000 in
theorem c_x_priceC (l : Launch) (g : zG) (x : Nat) (ta : Nat) (o : Nat) (lo : Nat) (go : Nat) (tt : Nat) (lt : Nat) (mo : Nat) (fo : Nat) (ro : Nat) (fl9 : Int32) (a : Nat → Nat) (pe : Int32) (wo : Int32) (tx : Int32) (ch : Int32) (jo : Int32) (tr : Int32) (dy : Int32) (sd : Int32) (f : Nat → Nat → Int32) (b_pe : 0 ≤ pe.toInt ∧ pe.toInt ≤ 8) (b_wo : 0 ≤ wo.toInt ∧ wo.toInt ≤ 6) (rf : zZ4 f) : zM' g l yX11_price (Cond.code yX11_price cX11_price 1 (some .int) :: zB) ({ frames := 4, cells := 0, slots := 0, locals := 85 } : Room) [.ref x] [bDR g x ta o lo go tt lt mo fo ro fl9, bTown g o a pe wo tx ch jo tr dy sd f] (fun (q : Int32) => some (.int q)) (fun (q : Int32) => (q = zPrc9 (pe, wo, tx, ch, jo, tr, dy, sd, f))) (fun (q : Int32) => [bDR g x ta o lo go tt lt mo fo ro fl9, bTown g o a pe wo tx ch jo tr dy sd f]) := by
  refine zM'.of (cc := cX11_price) (maxL := 1) (rt := (some .int)) (by decide) rfl (Nat.le_of_ble_eq_true rfl) ?_
  intro p e s m args below meth c A ls St hr hlocks hin hK hT hA hP hD hS hl
  obtain ⟨hx, hb, hml, hown, hts⟩ := id St
  have hl : lv_has ls 1 [(0, .ref x)] := hl
  refine lv_aload_n hx hb dX11_price_0 rfl (lv_at hl 0 rfl) ?_
  refine va_get (D := g.1) (ci := 9) (v := .ref o) (C := RX11) (T := TX11) (N := 10) hx hb hts izRX11 hown hK hP 0 rfl rfl 1 (by decide) (hts _ k538) (fun _ h9 => h9) rfl dX11_price_1 ?_
  refine mcallV' (g := g) (q0 := 0) (ci := 7) (As := []) (rest := []) St hK hT hA hP hD hS hl.1 [1] [0] rfl rfl rfl (c_sharePriceF l g o a pe wo tx ch jo tr dy sd f b_pe b_wo rf) (cwV 0 hts (zgL (zl4 k649 k188 k189 k24) k186) rfl rfl rfl (by decide +kernel) ⟨Nat.le_of_ble_eq_true rfl, Nat.le_of_ble_eq_true rfl⟩) rfl rfl rfl rfl (Nat.le_of_ble_eq_true rfl) dX11_price_4 ⟨(Nat.le_of_ble_eq_true rfl), (Nat.le_of_ble_eq_true rfl)⟩ (fun _u H locs hq1 hP hD hS => ?_)
  have hP : va_P g.1 vwCl (List.flatten [bDR g x ta o lo go tt lt mo fo ro fl9, bTown g o a pe wo tx ch jo tr dy sd f]) H := hP
  have hD : va_D A (List.flatten [bDR g x ta o lo go tt lt mo fo ro fl9, bTown g o a pe wo tx ch jo tr dy sd f]) := hD
  refine W.widen (k := 0) (n := 0) (Nat.le_of_ble_eq_true rfl) (Nat.le_of_ble_eq_true rfl) ?_
  refine W.eq (g2 := F0 m 7 ls [.int (zPrice f pe.toInt.toNat)]) rfl ?_
  have hP : va_P g.1 vwCl (List.flatten [bDR g x ta o lo go tt lt mo fo ro fl9, bTown g o a pe wo tx ch jo tr dy sd f]) H := hP
  have hD : va_D A (List.flatten [bDR g x ta o lo go tt lt mo fo ro fl9, bTown g o a pe wo tx ch jo tr dy sd f]) := hD
  exact mret_i hx hb hr hlocks hS (Nat.le_of_ble_eq_true rfl) (Nat.le_of_ble_eq_true rfl) dX11_price_7 (zPrice f pe.toInt.toNat) rfl (show ((zPrice f pe.toInt.toNat) = zPrc9 (pe, wo, tx, ch, jo, tr, dy, sd, f)) from rfl) hP hD
set_option maxRecDepth 100000 in
set_option maxHeartbeats 4000000 in
theorem c_x_doubtsC (l : Launch) (g : zG) (x : Nat) (ta : Nat) (o : Nat) (lo : Nat) (go : Nat) (tt : Nat) (lt : Nat) (mo : Nat) (fo : Nat) (ro : Nat) (fl9 : Int32) (a : Nat → Nat) (pe : Int32) (wo : Int32) (tx : Int32) (ch : Int32) (jo : Int32) (tr : Int32) (dy : Int32) (sd : Int32) (f : Nat → Nat → Int32) (b_pe : 0 ≤ pe.toInt ∧ pe.toInt ≤ 8) (b_wo : 0 ≤ wo.toInt ∧ wo.toInt ≤ 6) (rf : zZ4 f) : zM' g l yX11_doubts (Cond.code yX11_doubts cX11_doubts 1 (some .int) :: zB) ({ frames := 2, cells := 0, slots := 0, locals := 43 } : Room) [.ref x] [bDR g x ta o lo go tt lt mo fo ro fl9, bTown g o a pe wo tx ch jo tr dy sd f] (fun (q : Int32) => some (.int q)) (fun (q : Int32) => (q = zDbt9 (pe, wo, tx, ch, jo, tr, dy, sd, f))) (fun (q : Int32) => [bDR g x ta o lo go tt lt mo fo ro fl9, bTown g o a pe wo tx ch jo tr dy sd f]) := by
  refine zM'.of (cc := cX11_doubts) (maxL := 1) (rt := (some .int)) (by decide) rfl (Nat.le_of_ble_eq_true rfl) ?_
  intro p e s m args below meth c A ls St hr hlocks hin hK hT hA hP hD hS hl
  obtain ⟨hx, hb, hml, hown, hts⟩ := id St
  have hl : lv_has ls 1 [(0, .ref x)] := hl
  refine lv_aload_n hx hb dX11_doubts_0 rfl (lv_at hl 0 rfl) ?_
  refine va_get (D := g.1) (ci := 9) (v := .ref o) (C := RX11) (T := TX11) (N := 10) hx hb hts izRX11 hown hK hP 0 rfl rfl 1 (by decide) (hts _ k538) (fun _ h9 => h9) rfl dX11_doubts_1 ?_
  refine mcallV' (g := g) (q0 := 0) (ci := 7) (As := []) (rest := []) St hK hT hA hP hD hS hl.1 [1] [0] rfl rfl rfl (c_doubtersF l g o a pe wo tx ch jo tr dy sd f b_pe b_wo rf) (cwV 0 hts (zgL (zl4 k702 k178 k179 k24) k175) rfl rfl rfl (by decide +kernel) ⟨Nat.le_of_ble_eq_true rfl, Nat.le_of_ble_eq_true rfl⟩) rfl rfl rfl rfl (Nat.le_of_ble_eq_true rfl) dX11_doubts_4 ⟨(Nat.le_of_ble_eq_true rfl), (Nat.le_of_ble_eq_true rfl)⟩ (fun _u H locs hq1 hP hD hS => ?_)
  have hP : va_P g.1 vwCl (List.flatten [bDR g x ta o lo go tt lt mo fo ro fl9, bTown g o a pe wo tx ch jo tr dy sd f]) H := hP
  have hD : va_D A (List.flatten [bDR g x ta o lo go tt lt mo fo ro fl9, bTown g o a pe wo tx ch jo tr dy sd f]) := hD
  refine W.widen (k := 0) (n := 0) (Nat.le_of_ble_eq_true rfl) (Nat.le_of_ble_eq_true rfl) ?_
  refine W.eq (g2 := F0 m 7 ls [.int (zDb f pe.toInt.toNat)]) rfl ?_
  have hP : va_P g.1 vwCl (List.flatten [bDR g x ta o lo go tt lt mo fo ro fl9, bTown g o a pe wo tx ch jo tr dy sd f]) H := hP
  have hD : va_D A (List.flatten [bDR g x ta o lo go tt lt mo fo ro fl9, bTown g o a pe wo tx ch jo tr dy sd f]) := hD
  exact mret_i hx hb hr hlocks hS (Nat.le_of_ble_eq_true rfl) (Nat.le_of_ble_eq_true rfl) dX11_doubts_7 (zDb f pe.toInt.toNat) rfl (show ((zDb f pe.toInt.toNat) = zDbt9 (pe, wo, tx, ch, jo, tr, dy, sd, f)) from rfl) hP hD
set_option maxRecDepth 100000 in
set_option maxHeartbeats 4000000 in
theorem c_x_richestC (l : Launch) (g : zG) (x : Nat) (ta : Nat) (o : Nat) (lo : Nat) (go : Nat) (tt : Nat) (lt : Nat) (mo : Nat) (fo : Nat) (ro : Nat) (fl9 : Int32) (a : Nat → Nat) (pe : Int32) (wo : Int32) (tx : Int32) (ch : Int32) (jo : Int32) (tr : Int32) (dy : Int32) (sd : Int32) (f : Nat → Nat → Int32) (b_pe : 0 ≤ pe.toInt ∧ pe.toInt ≤ 8) (b_wo : 0 ≤ wo.toInt ∧ wo.toInt ≤ 6) (rf : zZ4 f) : zM' g l yX11_richest (Cond.code yX11_richest cX11_richest 3 (some .int) :: zB) ({ frames := 5, cells := 0, slots := 0, locals := 106 } : Room) [.ref x] [bDR g x ta o lo go tt lt mo fo ro fl9, bTown g o a pe wo tx ch jo tr dy sd f] (fun (q : Int32) => some (.int q)) (fun (q : Int32) => (q = zRch9 (pe, wo, tx, ch, jo, tr, dy, sd, f))) (fun (q : Int32) => [bDR g x ta o lo go tt lt mo fo ro fl9, bTown g o a pe wo tx ch jo tr dy sd f]) := by
  refine zM'.of (cc := cX11_richest) (maxL := 3) (rt := (some .int)) (by decide) rfl (Nat.le_of_ble_eq_true rfl) ?_
  intro p e s m args below meth c A ls St hr hlocks hin hK hT hA hP hD hS hl
  obtain ⟨hx, hb, hml, hown, hts⟩ := id St
  have hl : lv_has ls 3 [(0, .ref x)] := hl
  refine lv_iconst (v := (-1)) hx hb dX11_richest_0 (by decide) ?_
  refine lv_istore_n (lv' := [(1, .int (-1)), (0, .ref x)]) hx hb dX11_richest_1 rfl hl (by decide) rfl (fun ls hl => ?_)
  refine lv_iconst (v := 0) hx hb dX11_richest_2 (by decide) ?_
  refine lv_istore_n (lv' := [(2, .int 0), (1, .int (-1)), (0, .ref x)]) hx hb dX11_richest_3 rfl hl (by decide) rfl (fun ls hl => ?_)
  have hl := lv_sub (l' := [(0, .ref x), (1, .int (-1)), (2, .int 0)]) hl [2, 1, 0] rfl
  have LP4_7 : ∀ (kf : Nat) (x_1 : Int32) (x_2 : Int32), ((-1) ≤ x_1.toInt ∧ x_1.toInt ≤ 7) → (0 ≤ x_2.toInt ∧ x_2.toInt ≤ 8) → (x_1 = zBst (fun _ => true) (zWth f pe.toInt.toNat) x_2.toInt.toNat) → (x_2.toInt ≤ pe.toInt) → ∀ (H : Heap) (locs : List Loc) (ls : Array Slot), ((9 - x_2.toInt).toNat) < kf → va_P g.1 vwCl (List.flatten [bDR g x ta o lo go tt lt mo fo ro fl9, bTown g o a pe wo tx ch jo tr dy sd f]) H → va_D A (List.flatten [bDR g x ta o lo go tt lt mo fo ro fl9, bTown g o a pe wo tx ch jo tr dy sd f]) → va_S A s.heap H locs → lv_has ls 3 [(0, .ref x), (1, .int x_1), (2, .int x_2)] → W p l e ({ frames := 5, cells := 0, slots := 0, locals := 106 } : Room) s m args below meth c H locs (0) (0) (zF g (fun (q : Int32) => some (.int q)) (fun (q : Int32) => (q = zRch9 (pe, wo, tx, ch, jo, tr, dy, sd, f))) (fun (q : Int32) => [bDR g x ta o lo go tt lt mo fo ro fl9, bTown g o a pe wo tx ch jo tr dy sd f]) ({ frames := 5, cells := 0, slots := 0, locals := 106 } : Room) below args s A) (F0 m 4 ls []) := by
    intro kf
    induction kf with
    | zero => intro x_1 x_2 i3 i4 i5 i6 H locs ls hk; exact absurd hk (Nat.not_lt_zero _)
    | succ kf ih4_8 =>
      intro x_1 x_2 i3 i4 i5 i6 H locs ls hk4_8 hP hD hS hl
      refine lv_iload_n hx hb dX11_richest_4 rfl (lv_at hl 2 rfl) ?_
      refine lv_aload_n hx hb dX11_richest_5 rfl (lv_at hl 0 rfl) ?_
      refine va_get (D := g.1) (ci := 9) (v := .ref o) (C := RX11) (T := TX11) (N := 10) hx hb hts izRX11 hown hK hP 0 rfl rfl 1 (by decide) (hts _ k538) (fun _ h9 => h9) rfl dX11_richest_6 ?_
      refine va_get (D := g.1) (ci := 7) (v := .int pe) (C := RX9) (T := TX9) (N := 19) hx hb hts izRX9 hown hK hP 1 rfl rfl 0 (by decide) (hts _ k610) (fun _ h9 => h9) rfl dX11_richest_9 ?_
      refine lv_icmp_ge (tgt := 47) hx hb dX11_richest_12 (by decide) (fun cb9 => ?_) (fun cb9 => ?_)
      · skip
        have c9 : pe.toInt ≤ x_2.toInt := zle cb9 rfl rfl
        refine lv_iload_n hx hb dX11_richest_47 rfl (lv_at hl 1 rfl) ?_
        have hP : va_P g.1 vwCl (List.flatten [bDR g x ta o lo go tt lt mo fo ro fl9, bTown g o a pe wo tx ch jo tr dy sd f]) H := hP
        have hD : va_D A (List.flatten [bDR g x ta o lo go tt lt mo fo ro fl9, bTown g o a pe wo tx ch jo tr dy sd f]) := hD
        exact mret_i hx hb hr hlocks hS (Nat.le_of_ble_eq_true rfl) (Nat.le_of_ble_eq_true rfl) dX11_richest_48 (x_1) rfl (show (x_1 = zRch9 (pe, wo, tx, ch, jo, tr, dy, sd, f)) from (zBst_x i5 (by omega))) hP hD
      · skip
        have c10 : x_2.toInt < pe.toInt := zlti (Int32.not_le.mp cb9) rfl rfl
        have n11 : x_2.toInt ≤ 7 := zL1 (b := 8) c10 b_pe.2 (by decide)
        have n12 : 1 ≤ pe.toInt := zL2 (a := 0) c10 i4.1 (by decide)
        refine lv_iload_n hx hb dX11_richest_15 rfl (lv_at hl 1 rfl) ?_
        refine lv_iconst (v := (-1)) hx hb dX11_richest_16 (by decide) ?_
        refine lv_icmp_eq (tgt := 39) hx hb dX11_richest_17 (by decide) (fun cb9 => ?_) (fun cb9 => ?_)
        · skip
          have c13 : x_1.toInt = (-1) := zeq cb9 rfl (by decide)
          have n14 : x_1.toInt ≤ (-1) := Int.le_trans (Int.le_of_eq c13) (Int.le_refl _)
          refine lv_iload_n hx hb dX11_richest_39 rfl (lv_at hl 2 rfl) ?_
          refine lv_istore_n (lv' := [(1, .int x_2), (0, .ref x), (2, .int x_2)]) hx hb dX11_richest_40 rfl hl (by decide) rfl (fun ls hl => ?_)
          refine ziinc3 (n' := 1) (a' := 1) (b' := 8) (lv' := fun v9 => [(2, .int v9), (1, .int x_2), (0, .ref x)]) hx hb dX11_richest_41 hl (k := 2) rfl (by decide) (fun _ => rfl) (zaddK (i := x_2.toInt) (j := 1) rfl (by decide) i4.1 n11 (Int.le_refl _) (Int.le_refl _) (by decide)) (fun x_15 ls hx_15 hl => ?_)
          refine lv_goto (tgt := 4) hx hb dX11_richest_44 (by decide) ?_
          have hl := lv_sub (l' := [(0, .ref x), (1, .int x_2), (2, .int x_15)]) hl [2, 1, 0] rfl
          have hP : va_P g.1 vwCl (List.flatten [bDR g x ta o lo go tt lt mo fo ro fl9, bTown g o a pe wo tx ch jo tr dy sd f]) H := hP
          have hD : va_D A (List.flatten [bDR g x ta o lo go tt lt mo fo ro fl9, bTown g o a pe wo tx ch jo tr dy sd f]) := hD
          exact ih4_8 x_2 x_15 ⟨(Int.le_trans (by decide) i4.1), n11⟩ ⟨(Int.le_trans (by decide) hx_15.2.1), hx_15.2.2⟩ (zBst_y i5 hx_15.1 (by omega) rfl (by omega)) (by first | omega | assumption | decide) H _ ls (zmK hx_15.1 (by decide) n11 (by decide) hk4_8)  hP hD hS (lv_sub hl [0, 1, 2] rfl)
        · skip
          have c16 : ¬ x_1.toInt = (-1) := zne cb9 rfl (by decide)
          have n17 : 0 ≤ x_1.toInt := zN1 c16 i3.1 (by decide)
          refine lv_aload_n hx hb dX11_richest_20 rfl (lv_at hl 0 rfl) ?_
          refine va_get (D := g.1) (ci := 9) (v := .ref o) (C := RX11) (T := TX11) (N := 10) hx hb hts izRX11 hown hK hP 0 rfl rfl 1 (by decide) (hts _ k538) (fun _ h9 => h9) rfl dX11_richest_21 ?_
          refine lv_iload_n hx hb dX11_richest_24 rfl (lv_at hl 2 rfl) ?_
          refine mcallV' (g := g) (q0 := 0) (ci := 7) (As := [.int x_2]) (rest := []) St hK hT hA hP hD hS hl.1 [1] [0] rfl rfl rfl (c_worthOfF l g o a pe wo tx ch jo tr dy sd f x_2 b_pe b_wo rf (⟨i4.1, n11⟩)) (cwV 1 hts (zgL (zl4 k626 k627 k628 k24) k516) rfl rfl rfl (by decide +kernel) ⟨Nat.le_of_ble_eq_true rfl, Nat.le_of_ble_eq_true rfl⟩) rfl rfl rfl rfl (Nat.le_of_ble_eq_true rfl) dX11_richest_25 ⟨(Nat.le_of_ble_eq_true rfl), (Nat.le_of_ble_eq_true rfl)⟩ (fun _u H locs hq18 hP hD hS => ?_)
          have hP : va_P g.1 vwCl (List.flatten [bDR g x ta o lo go tt lt mo fo ro fl9, bTown g o a pe wo tx ch jo tr dy sd f]) H := hP
          have hD : va_D A (List.flatten [bDR g x ta o lo go tt lt mo fo ro fl9, bTown g o a pe wo tx ch jo tr dy sd f]) := hD
          refine W.widen (k := 0) (n := 0) (Nat.le_of_ble_eq_true rfl) (Nat.le_of_ble_eq_true rfl) ?_
          refine W.eq (g2 := F0 m 28 ls [.int (zWth f pe.toInt.toNat x_2.toInt.toNat)]) rfl ?_
          refine lv_aload_n hx hb dX11_richest_28 rfl (lv_at hl 0 rfl) ?_
          refine va_get (D := g.1) (ci := 9) (v := .ref o) (C := RX11) (T := TX11) (N := 10) hx hb hts izRX11 hown hK hP 0 rfl rfl 1 (by decide) (hts _ k538) (fun _ h9 => h9) rfl dX11_richest_29 ?_
          refine lv_iload_n hx hb dX11_richest_32 rfl (lv_at hl 1 rfl) ?_
          refine mcallV' (g := g) (q0 := 0) (ci := 7) (As := [.int x_1]) (rest := [.int (zWth f pe.toInt.toNat x_2.toInt.toNat)]) St hK hT hA hP hD hS hl.1 [1] [0] rfl rfl rfl (c_worthOfF l g o a pe wo tx ch jo tr dy sd f x_1 b_pe b_wo rf (⟨n17, i3.2⟩)) (cwV 1 hts (zgL (zl4 k626 k627 k628 k24) k516) rfl rfl rfl (by decide +kernel) ⟨Nat.le_of_ble_eq_true rfl, Nat.le_of_ble_eq_true rfl⟩) rfl rfl rfl rfl (Nat.le_of_ble_eq_true rfl) dX11_richest_33 ⟨(Nat.le_of_ble_eq_true rfl), (Nat.le_of_ble_eq_true rfl)⟩ (fun _u H locs hq19 hP hD hS => ?_)
          have hP : va_P g.1 vwCl (List.flatten [bDR g x ta o lo go tt lt mo fo ro fl9, bTown g o a pe wo tx ch jo tr dy sd f]) H := hP
          have hD : va_D A (List.flatten [bDR g x ta o lo go tt lt mo fo ro fl9, bTown g o a pe wo tx ch jo tr dy sd f]) := hD
          refine W.widen (k := 0) (n := 0) (Nat.le_of_ble_eq_true rfl) (Nat.le_of_ble_eq_true rfl) ?_
          refine W.eq (g2 := F0 m 36 ls [.int (zWth f pe.toInt.toNat x_1.toInt.toNat), .int (zWth f pe.toInt.toNat x_2.toInt.toNat)]) rfl ?_
          refine lv_icmp_le (tgt := 41) hx hb dX11_richest_36 (by decide) (fun cb9 => ?_) (fun cb9 => ?_)
          · skip
            have c20 : (zWth f pe.toInt.toNat x_2.toInt.toNat).toInt ≤ (zWth f pe.toInt.toNat x_1.toInt.toNat).toInt := zle cb9 rfl rfl
            refine ziinc3 (n' := 1) (a' := 1) (b' := 8) (lv' := fun v9 => [(2, .int v9), (0, .ref x), (1, .int x_1)]) hx hb dX11_richest_41 hl (k := 2) rfl (by decide) (fun _ => rfl) (zaddK (i := x_2.toInt) (j := 1) rfl (by decide) i4.1 n11 (Int.le_refl _) (Int.le_refl _) (by decide)) (fun x_21 ls hx_21 hl => ?_)
            refine lv_goto (tgt := 4) hx hb dX11_richest_44 (by decide) ?_
            have hl := lv_sub (l' := [(0, .ref x), (1, .int x_1), (2, .int x_21)]) hl [1, 2, 0] rfl
            have hP : va_P g.1 vwCl (List.flatten [bDR g x ta o lo go tt lt mo fo ro fl9, bTown g o a pe wo tx ch jo tr dy sd f]) H := hP
            have hD : va_D A (List.flatten [bDR g x ta o lo go tt lt mo fo ro fl9, bTown g o a pe wo tx ch jo tr dy sd f]) := hD
            exact ih4_8 x_1 x_21 ⟨(Int.le_trans (by decide) n17), i3.2⟩ ⟨(Int.le_trans (by decide) hx_21.2.1), hx_21.2.2⟩ (zBst_n i5 hx_21.1 (by omega) (fun q9 => by have h9 := q9.2; omega)) (by first | omega | assumption | decide) H _ ls (zmK hx_21.1 (by decide) n11 (by decide) hk4_8)  hP hD hS (lv_sub hl [0, 1, 2] rfl)
          · skip
            have c22 : (zWth f pe.toInt.toNat x_1.toInt.toNat).toInt < (zWth f pe.toInt.toNat x_2.toInt.toNat).toInt := zlti (Int32.not_le.mp cb9) rfl rfl
            refine lv_iload_n hx hb dX11_richest_39 rfl (lv_at hl 2 rfl) ?_
            refine lv_istore_n (lv' := [(1, .int x_2), (0, .ref x), (2, .int x_2)]) hx hb dX11_richest_40 rfl hl (by decide) rfl (fun ls hl => ?_)
            refine ziinc3 (n' := 1) (a' := 1) (b' := 8) (lv' := fun v9 => [(2, .int v9), (1, .int x_2), (0, .ref x)]) hx hb dX11_richest_41 hl (k := 2) rfl (by decide) (fun _ => rfl) (zaddK (i := x_2.toInt) (j := 1) rfl (by decide) i4.1 n11 (Int.le_refl _) (Int.le_refl _) (by decide)) (fun x_23 ls hx_23 hl => ?_)
            refine lv_goto (tgt := 4) hx hb dX11_richest_44 (by decide) ?_
            have hl := lv_sub (l' := [(0, .ref x), (1, .int x_2), (2, .int x_23)]) hl [2, 1, 0] rfl
            have hP : va_P g.1 vwCl (List.flatten [bDR g x ta o lo go tt lt mo fo ro fl9, bTown g o a pe wo tx ch jo tr dy sd f]) H := hP
            have hD : va_D A (List.flatten [bDR g x ta o lo go tt lt mo fo ro fl9, bTown g o a pe wo tx ch jo tr dy sd f]) := hD
            exact ih4_8 x_2 x_23 ⟨(Int.le_trans (by decide) i4.1), n11⟩ ⟨(Int.le_trans (by decide) hx_23.2.1), hx_23.2.2⟩ (zBst_y i5 hx_23.1 (by omega) rfl (by omega)) (by first | omega | assumption | decide) H _ ls (zmK hx_23.1 (by decide) n11 (by decide) hk4_8)  hP hD hS (lv_sub hl [0, 1, 2] rfl)
  have hLn1 : ((-1) : Int32).toInt = (-1) := by decide
  have hL0 : (0 : Int32).toInt = 0 := by decide
  have hP : va_P g.1 vwCl (List.flatten [bDR g x ta o lo go tt lt mo fo ro fl9, bTown g o a pe wo tx ch jo tr dy sd f]) s.heap := hP
  have hD : va_D A (List.flatten [bDR g x ta o lo go tt lt mo fo ro fl9, bTown g o a pe wo tx ch jo tr dy sd f]) := hD
  exact LP4_7 _ (-1) 0 (by decide) (by decide) (zBst_0 rfl (by decide)) (by first | omega | assumption | decide) s.heap _ ls (Nat.lt_succ_self _)  hP hD hS (lv_sub hl [0, 1, 2] rfl)
set_option maxRecDepth 100000 in
set_option maxHeartbeats 4000000 in
theorem c_x_firmestC (l : Launch) (g : zG) (x : Nat) (ta : Nat) (o : Nat) (lo : Nat) (go : Nat) (tt : Nat) (lt : Nat) (mo : Nat) (fo : Nat) (ro : Nat) (fl9 : Int32) (a : Nat → Nat) (pe : Int32) (wo : Int32) (tx : Int32) (ch : Int32) (jo : Int32) (tr : Int32) (dy : Int32) (sd : Int32) (f : Nat → Nat → Int32) (b_pe : 0 ≤ pe.toInt ∧ pe.toInt ≤ 8) (b_wo : 0 ≤ wo.toInt ∧ wo.toInt ≤ 6) (rf : zZ4 f) : zM' g l yX11_firmest (Cond.code yX11_firmest cX11_firmest 3 (some .int) :: zB) ({ frames := 1, cells := 0, slots := 0, locals := 21 } : Room) [.ref x] [bDR g x ta o lo go tt lt mo fo ro fl9, bTown g o a pe wo tx ch jo tr dy sd f] (fun (q : Int32) => some (.int q)) (fun (q : Int32) => (q = zFrm9 (pe, wo, tx, ch, jo, tr, dy, sd, f))) (fun (q : Int32) => [bDR g x ta o lo go tt lt mo fo ro fl9, bTown g o a pe wo tx ch jo tr dy sd f]) := by
  refine zM'.of (cc := cX11_firmest) (maxL := 3) (rt := (some .int)) (by decide) rfl (Nat.le_of_ble_eq_true rfl) ?_
  intro p e s m args below meth c A ls St hr hlocks hin hK hT hA hP hD hS hl
  obtain ⟨hx, hb, hml, hown, hts⟩ := id St
  have hl : lv_has ls 3 [(0, .ref x)] := hl
  refine lv_iconst (v := (-1)) hx hb dX11_firmest_0 (by decide) ?_
  refine lv_istore_n (lv' := [(1, .int (-1)), (0, .ref x)]) hx hb dX11_firmest_1 rfl hl (by decide) rfl (fun ls hl => ?_)
  refine lv_iconst (v := 0) hx hb dX11_firmest_2 (by decide) ?_
  refine lv_istore_n (lv' := [(2, .int 0), (1, .int (-1)), (0, .ref x)]) hx hb dX11_firmest_3 rfl hl (by decide) rfl (fun ls hl => ?_)
  have hl := lv_sub (l' := [(0, .ref x), (1, .int (-1)), (2, .int 0)]) hl [2, 1, 0] rfl
  have LP4_7 : ∀ (kf : Nat) (x_1 : Int32) (x_2 : Int32), ((-1) ≤ x_1.toInt ∧ x_1.toInt ≤ 7) → (0 ≤ x_2.toInt ∧ x_2.toInt ≤ 8) → (x_1 = zBst (fun x => decide ((f 3 x).toInt = -1)) (f 0) x_2.toInt.toNat) → (x_2.toInt ≤ pe.toInt) → ∀ (H : Heap) (locs : List Loc) (ls : Array Slot), ((9 - x_2.toInt).toNat) < kf → va_P g.1 vwCl (List.flatten [bDR g x ta o lo go tt lt mo fo ro fl9, bTown g o a pe wo tx ch jo tr dy sd f]) H → va_D A (List.flatten [bDR g x ta o lo go tt lt mo fo ro fl9, bTown g o a pe wo tx ch jo tr dy sd f]) → va_S A s.heap H locs → lv_has ls 3 [(0, .ref x), (1, .int x_1), (2, .int x_2)] → W p l e ({ frames := 1, cells := 0, slots := 0, locals := 21 } : Room) s m args below meth c H locs (0) (0) (zF g (fun (q : Int32) => some (.int q)) (fun (q : Int32) => (q = zFrm9 (pe, wo, tx, ch, jo, tr, dy, sd, f))) (fun (q : Int32) => [bDR g x ta o lo go tt lt mo fo ro fl9, bTown g o a pe wo tx ch jo tr dy sd f]) ({ frames := 1, cells := 0, slots := 0, locals := 21 } : Room) below args s A) (F0 m 4 ls []) := by
    intro kf
    induction kf with
    | zero => intro x_1 x_2 i3 i4 i5 i6 H locs ls hk; exact absurd hk (Nat.not_lt_zero _)
    | succ kf ih4_8 =>
      intro x_1 x_2 i3 i4 i5 i6 H locs ls hk4_8 hP hD hS hl
      refine lv_iload_n hx hb dX11_firmest_4 rfl (lv_at hl 2 rfl) ?_
      refine lv_aload_n hx hb dX11_firmest_5 rfl (lv_at hl 0 rfl) ?_
      refine va_get (D := g.1) (ci := 9) (v := .ref o) (C := RX11) (T := TX11) (N := 10) hx hb hts izRX11 hown hK hP 0 rfl rfl 1 (by decide) (hts _ k538) (fun _ h9 => h9) rfl dX11_firmest_6 ?_
      refine va_get (D := g.1) (ci := 7) (v := .int pe) (C := RX9) (T := TX9) (N := 19) hx hb hts izRX9 hown hK hP 1 rfl rfl 0 (by decide) (hts _ k610) (fun _ h9 => h9) rfl dX11_firmest_9 ?_
      refine lv_icmp_ge (tgt := 60) hx hb dX11_firmest_12 (by decide) (fun cb9 => ?_) (fun cb9 => ?_)
      · skip
        have c9 : pe.toInt ≤ x_2.toInt := zle cb9 rfl rfl
        refine lv_iload_n hx hb dX11_firmest_60 rfl (lv_at hl 1 rfl) ?_
        have hP : va_P g.1 vwCl (List.flatten [bDR g x ta o lo go tt lt mo fo ro fl9, bTown g o a pe wo tx ch jo tr dy sd f]) H := hP
        have hD : va_D A (List.flatten [bDR g x ta o lo go tt lt mo fo ro fl9, bTown g o a pe wo tx ch jo tr dy sd f]) := hD
        exact mret_i hx hb hr hlocks hS (Nat.le_of_ble_eq_true rfl) (Nat.le_of_ble_eq_true rfl) dX11_firmest_61 (x_1) rfl (show (x_1 = zFrm9 (pe, wo, tx, ch, jo, tr, dy, sd, f)) from (zBst_x i5 (by omega))) hP hD
      · skip
        have c10 : x_2.toInt < pe.toInt := zlti (Int32.not_le.mp cb9) rfl rfl
        have n11 : x_2.toInt ≤ 7 := zL1 (b := 8) c10 b_pe.2 (by decide)
        have n12 : 1 ≤ pe.toInt := zL2 (a := 0) c10 i4.1 (by decide)
        refine lv_aload_n hx hb dX11_firmest_15 rfl (lv_at hl 0 rfl) ?_
        refine va_get (D := g.1) (ci := 9) (v := .ref o) (C := RX11) (T := TX11) (N := 10) hx hb hts izRX11 hown hK hP 0 rfl rfl 1 (by decide) (hts _ k538) (fun _ h9 => h9) rfl dX11_firmest_16 ?_
        refine lv_iload_n hx hb dX11_firmest_19 rfl (lv_at hl 2 rfl) ?_
        refine mcallV' (g := g) (q0 := 0) (ci := 7) (As := [.int x_2]) (rest := []) St hK hT hA hP hD hS hl.1 [1] [0] rfl rfl rfl (c_isHereF l g o a pe wo tx ch jo tr dy sd f x_2 (⟨i4.1, n11⟩)) (cwV 1 hts (zgL (zl4 k655 k54 k55 k24) k51) rfl rfl rfl (by decide +kernel) ⟨Nat.le_of_ble_eq_true rfl, Nat.le_of_ble_eq_true rfl⟩) rfl rfl rfl rfl (Nat.le_of_ble_eq_true rfl) dX11_firmest_20 ⟨(Nat.le_of_ble_eq_true rfl), (Nat.le_of_ble_eq_true rfl)⟩ (fun q_13 H locs hq14 hP hD hS => ?_)
        replace hq14 : (q_13 = 1 ∧ (f 3 x_2.toInt.toNat).toInt = -1 ∨ q_13 = 0 ∧ ¬ (f 3 x_2.toInt.toNat).toInt = -1) := hq14
        have hP : va_P g.1 vwCl (List.flatten [bDR g x ta o lo go tt lt mo fo ro fl9, bTown g o a pe wo tx ch jo tr dy sd f]) H := hP
        have hD : va_D A (List.flatten [bDR g x ta o lo go tt lt mo fo ro fl9, bTown g o a pe wo tx ch jo tr dy sd f]) := hD
        refine W.widen (k := 0) (n := 0) (Nat.le_of_ble_eq_true rfl) (Nat.le_of_ble_eq_true rfl) ?_
        refine W.eq (g2 := F0 m 23 ls [.int q_13]) rfl ?_
        rcases hq14 with ⟨rfl, hq14_k⟩ | ⟨rfl, hq14_k⟩
        · skip
          refine lv_if_eq (tgt := 54) hx hb dX11_firmest_23 (by decide) (fun c15 => absurd c15 (by decide)) (fun _ => ?_)
          refine lv_iload_n hx hb dX11_firmest_26 rfl (lv_at hl 1 rfl) ?_
          refine lv_iconst (v := (-1)) hx hb dX11_firmest_27 (by decide) ?_
          refine lv_icmp_eq (tgt := 52) hx hb dX11_firmest_28 (by decide) (fun cb9 => ?_) (fun cb9 => ?_)
          · skip
            have c16 : x_1.toInt = (-1) := zeq cb9 rfl (by decide)
            have n17 : x_1.toInt ≤ (-1) := Int.le_trans (Int.le_of_eq c16) (Int.le_refl _)
            refine lv_iload_n hx hb dX11_firmest_52 rfl (lv_at hl 2 rfl) ?_
            refine lv_istore_n (lv' := [(1, .int x_2), (0, .ref x), (2, .int x_2)]) hx hb dX11_firmest_53 rfl hl (by decide) rfl (fun ls hl => ?_)
            refine ziinc3 (n' := 1) (a' := 1) (b' := 8) (lv' := fun v9 => [(2, .int v9), (1, .int x_2), (0, .ref x)]) hx hb dX11_firmest_54 hl (k := 2) rfl (by decide) (fun _ => rfl) (zaddK (i := x_2.toInt) (j := 1) rfl (by decide) i4.1 n11 (Int.le_refl _) (Int.le_refl _) (by decide)) (fun x_18 ls hx_18 hl => ?_)
            refine lv_goto (tgt := 4) hx hb dX11_firmest_57 (by decide) ?_
            have hl := lv_sub (l' := [(0, .ref x), (1, .int x_2), (2, .int x_18)]) hl [2, 1, 0] rfl
            have hP : va_P g.1 vwCl (List.flatten [bDR g x ta o lo go tt lt mo fo ro fl9, bTown g o a pe wo tx ch jo tr dy sd f]) H := hP
            have hD : va_D A (List.flatten [bDR g x ta o lo go tt lt mo fo ro fl9, bTown g o a pe wo tx ch jo tr dy sd f]) := hD
            exact ih4_8 x_2 x_18 ⟨(Int.le_trans (by decide) i4.1), n11⟩ ⟨(Int.le_trans (by decide) hx_18.2.1), hx_18.2.2⟩ (zBst_y i5 hx_18.1 (by omega) (decide_eq_true hq14_k) (by omega)) (by first | omega | assumption | decide) H _ ls (zmK hx_18.1 (by decide) n11 (by decide) hk4_8)  hP hD hS (lv_sub hl [0, 1, 2] rfl)
          · skip
            have c19 : ¬ x_1.toInt = (-1) := zne cb9 rfl (by decide)
            have n20 : 0 ≤ x_1.toInt := zN1 c19 i3.1 (by decide)
            refine lv_aload_n hx hb dX11_firmest_31 rfl (lv_at hl 0 rfl) ?_
            refine va_get (D := g.1) (ci := 9) (v := .ref o) (C := RX11) (T := TX11) (N := 10) hx hb hts izRX11 hown hK hP 0 rfl rfl 1 (by decide) (hts _ k538) (fun _ h9 => h9) rfl dX11_firmest_32 ?_
            refine va_get (D := g.1) (ci := 7) (v := .ref (a 0)) (C := RX9) (T := TX9) (N := 19) hx hb hts izRX9 hown hK hP 1 rfl rfl 8 (by decide) (hts _ k613) (fun _ h9 => h9) rfl dX11_firmest_35 ?_
            refine lv_iload_n hx hb dX11_firmest_38 rfl (lv_at hl 2 rfl) ?_
            refine va_iald hx hb hK hP 2 0 rfl rfl (zinK (a := 0) (b := 7) i4.1 n11 (by decide)) dX11_firmest_39 ?_
            refine ztop (r := (f 0 x_2.toInt.toNat)) rfl ?_
            refine lv_aload_n hx hb dX11_firmest_40 rfl (lv_at hl 0 rfl) ?_
            refine va_get (D := g.1) (ci := 9) (v := .ref o) (C := RX11) (T := TX11) (N := 10) hx hb hts izRX11 hown hK hP 0 rfl rfl 1 (by decide) (hts _ k538) (fun _ h9 => h9) rfl dX11_firmest_41 ?_
            refine va_get (D := g.1) (ci := 7) (v := .ref (a 0)) (C := RX9) (T := TX9) (N := 19) hx hb hts izRX9 hown hK hP 1 rfl rfl 8 (by decide) (hts _ k613) (fun _ h9 => h9) rfl dX11_firmest_44 ?_
            refine lv_iload_n hx hb dX11_firmest_47 rfl (lv_at hl 1 rfl) ?_
            refine va_iald hx hb hK hP 2 0 rfl rfl (zinK (a := 0) (b := 7) n20 i3.2 (by decide)) dX11_firmest_48 ?_
            refine ztop (r := (f 0 x_1.toInt.toNat)) rfl ?_
            refine lv_icmp_le (tgt := 54) hx hb dX11_firmest_49 (by decide) (fun cb9 => ?_) (fun cb9 => ?_)
            · skip
              have c21 : (f 0 x_2.toInt.toNat).toInt ≤ (f 0 x_1.toInt.toNat).toInt := zle cb9 rfl rfl
              refine ziinc3 (n' := 1) (a' := 1) (b' := 8) (lv' := fun v9 => [(2, .int v9), (0, .ref x), (1, .int x_1)]) hx hb dX11_firmest_54 hl (k := 2) rfl (by decide) (fun _ => rfl) (zaddK (i := x_2.toInt) (j := 1) rfl (by decide) i4.1 n11 (Int.le_refl _) (Int.le_refl _) (by decide)) (fun x_22 ls hx_22 hl => ?_)
              refine lv_goto (tgt := 4) hx hb dX11_firmest_57 (by decide) ?_
              have hl := lv_sub (l' := [(0, .ref x), (1, .int x_1), (2, .int x_22)]) hl [1, 2, 0] rfl
              have hP : va_P g.1 vwCl (List.flatten [bDR g x ta o lo go tt lt mo fo ro fl9, bTown g o a pe wo tx ch jo tr dy sd f]) H := hP
              have hD : va_D A (List.flatten [bDR g x ta o lo go tt lt mo fo ro fl9, bTown g o a pe wo tx ch jo tr dy sd f]) := hD
              exact ih4_8 x_1 x_22 ⟨(Int.le_trans (by decide) n20), i3.2⟩ ⟨(Int.le_trans (by decide) hx_22.2.1), hx_22.2.2⟩ (zBst_n i5 hx_22.1 (by omega) (fun q9 => by have h9 := q9.2; omega)) (by first | omega | assumption | decide) H _ ls (zmK hx_22.1 (by decide) n11 (by decide) hk4_8)  hP hD hS (lv_sub hl [0, 1, 2] rfl)
            · skip
              have c23 : (f 0 x_1.toInt.toNat).toInt < (f 0 x_2.toInt.toNat).toInt := zlti (Int32.not_le.mp cb9) rfl rfl
              refine lv_iload_n hx hb dX11_firmest_52 rfl (lv_at hl 2 rfl) ?_
              refine lv_istore_n (lv' := [(1, .int x_2), (0, .ref x), (2, .int x_2)]) hx hb dX11_firmest_53 rfl hl (by decide) rfl (fun ls hl => ?_)
              refine ziinc3 (n' := 1) (a' := 1) (b' := 8) (lv' := fun v9 => [(2, .int v9), (1, .int x_2), (0, .ref x)]) hx hb dX11_firmest_54 hl (k := 2) rfl (by decide) (fun _ => rfl) (zaddK (i := x_2.toInt) (j := 1) rfl (by decide) i4.1 n11 (Int.le_refl _) (Int.le_refl _) (by decide)) (fun x_24 ls hx_24 hl => ?_)
              refine lv_goto (tgt := 4) hx hb dX11_firmest_57 (by decide) ?_
              have hl := lv_sub (l' := [(0, .ref x), (1, .int x_2), (2, .int x_24)]) hl [2, 1, 0] rfl
              have hP : va_P g.1 vwCl (List.flatten [bDR g x ta o lo go tt lt mo fo ro fl9, bTown g o a pe wo tx ch jo tr dy sd f]) H := hP
              have hD : va_D A (List.flatten [bDR g x ta o lo go tt lt mo fo ro fl9, bTown g o a pe wo tx ch jo tr dy sd f]) := hD
              exact ih4_8 x_2 x_24 ⟨(Int.le_trans (by decide) i4.1), n11⟩ ⟨(Int.le_trans (by decide) hx_24.2.1), hx_24.2.2⟩ (zBst_y i5 hx_24.1 (by omega) (decide_eq_true hq14_k) (by omega)) (by first | omega | assumption | decide) H _ ls (zmK hx_24.1 (by decide) n11 (by decide) hk4_8)  hP hD hS (lv_sub hl [0, 1, 2] rfl)
        · skip
          refine lv_if_eq (tgt := 54) hx hb dX11_firmest_23 (by decide) (fun _ => ?_) (fun c25 => absurd (by decide) c25)
          refine ziinc3 (n' := 1) (a' := 1) (b' := 8) (lv' := fun v9 => [(2, .int v9), (0, .ref x), (1, .int x_1)]) hx hb dX11_firmest_54 hl (k := 2) rfl (by decide) (fun _ => rfl) (zaddK (i := x_2.toInt) (j := 1) rfl (by decide) i4.1 n11 (Int.le_refl _) (Int.le_refl _) (by decide)) (fun x_26 ls hx_26 hl => ?_)
          refine lv_goto (tgt := 4) hx hb dX11_firmest_57 (by decide) ?_
          have hl := lv_sub (l' := [(0, .ref x), (1, .int x_1), (2, .int x_26)]) hl [1, 2, 0] rfl
          have hP : va_P g.1 vwCl (List.flatten [bDR g x ta o lo go tt lt mo fo ro fl9, bTown g o a pe wo tx ch jo tr dy sd f]) H := hP
          have hD : va_D A (List.flatten [bDR g x ta o lo go tt lt mo fo ro fl9, bTown g o a pe wo tx ch jo tr dy sd f]) := hD
          exact ih4_8 x_1 x_26 ⟨i3.1, i3.2⟩ ⟨(Int.le_trans (by decide) hx_26.2.1), hx_26.2.2⟩ (zBst_n i5 hx_26.1 (by omega) (fun q9 => absurd (of_decide_eq_true q9.1) hq14_k)) (by first | omega | assumption | decide) H _ ls (zmK hx_26.1 (by decide) n11 (by decide) hk4_8)  hP hD hS (lv_sub hl [0, 1, 2] rfl)
  have hLn1 : ((-1) : Int32).toInt = (-1) := by decide
  have hL0 : (0 : Int32).toInt = 0 := by decide
  have hP : va_P g.1 vwCl (List.flatten [bDR g x ta o lo go tt lt mo fo ro fl9, bTown g o a pe wo tx ch jo tr dy sd f]) s.heap := hP
  have hD : va_D A (List.flatten [bDR g x ta o lo go tt lt mo fo ro fl9, bTown g o a pe wo tx ch jo tr dy sd f]) := hD
  exact LP4_7 _ (-1) 0 (by decide) (by decide) (zBst_0 rfl (by decide)) (by first | omega | assumption | decide) s.heap _ ls (Nat.lt_succ_self _)  hP hD hS (lv_sub hl [0, 1, 2] rfl)
set_option maxRecDepth 100000 in
set_option maxHeartbeats 4000000 in
theorem m_worthG (l : Launch) (g : zG) (o : Nat) (a : Nat → Nat) (th : Int32) (hi : Int32) (ac : Int32) (tp : Int32) (ba : Int32) (en : Int32) (tA : Int32) (fl : Int32) (de : Int32) (iD : Int32) (iO : Int32) (tU : Int32) (fm : Nat → Int32) (fk : Nat → Int32) (fa : Nat → Int32) (fc : Nat → Int32) (ft : Nat → Int32) (ff : Nat → Int32) (fb : Nat → Int32) (fi : Nat → Int32) (x : Int32) (rfm : rM fm) (b_x : 0 ≤ x.toInt ∧ x.toInt ≤ 7) : zM' g l yX12_worth (Cond.code yX12_worth cX12_worth 2 (some .int) :: zB) ({ frames := 5, cells := 0, slots := 0, locals := 106 } : Room) [.ref o, .int x] [bMo g o a th hi ac tp ba en tA fl de iD iO tU fm fk fa fc ft ff fb fi] (fun _ : Unit => some (.int (zWth (zV fm) (fm 3).toInt.toNat x.toInt.toNat))) (fun _ : Unit => True) (fun _ : Unit => [bMo g o a th hi ac tp ba en tA fl de iD iO tU fm fk fa fc ft ff fb fi]) := by
  refine zM'.of (cc := cX12_worth) (maxL := 2) (rt := (some .int)) (by decide) rfl (Nat.le_of_ble_eq_true rfl) ?_
  intro p e s m args below meth c A ls St hr hlocks hin hK hT hA hP hD hS hl
  obtain ⟨hx, hb, hml, hown, hts⟩ := id St
  have hl : lv_has ls 2 [(0, .ref o), (1, .int x)] := hl
  have hrm3 := rM3 rfm
  have hrm4 := rM4 rfm
  refine lv_aload_n hx hb dX12_worth_0 rfl (lv_at hl 0 rfl) ?_
  refine lv_iload_n hx hb dX12_worth_1 rfl (lv_at hl 1 rfl) ?_
  refine lv_iconst (v := 1) hx hb dX12_worth_2 (by decide) ?_
  refine mcallV' (g := g) (q0 := 0) (ci := 10) (As := [.int x, .int 1]) (rest := []) St hK hT hA hP hD hS hl.1 [0] [] rfl rfl rfl (m_of1F l g o a th hi ac tp ba en tA fl de iD iO tU fm fk fa fc ft ff fb fi x b_x) (cwV 2 hts (zgL (zl4 k842 k843 k844 k839) k831) rfl rfl rfl (by decide +kernel) ⟨Nat.le_of_ble_eq_true rfl, Nat.le_of_ble_eq_true rfl⟩) rfl rfl rfl rfl (Nat.le_of_ble_eq_true rfl) dX12_worth_3 ⟨(Nat.le_of_ble_eq_true rfl), (Nat.le_of_ble_eq_true rfl)⟩ (fun _u H locs hq1 hP hD hS => ?_)
  have hP : va_P g.1 vwCl (List.flatten [bMo g o a th hi ac tp ba en tA fl de iD iO tU fm fk fa fc ft ff fb fi]) H := hP
  have hD : va_D A (List.flatten [bMo g o a th hi ac tp ba en tA fl de iD iO tU fm fk fa fc ft ff fb fi]) := hD
  refine W.widen (k := 0) (n := 0) (Nat.le_of_ble_eq_true rfl) (Nat.le_of_ble_eq_true rfl) ?_
  refine W.eq (g2 := F0 m 6 ls [.int (zV fm 1 x.toInt.toNat)]) rfl ?_
  refine lv_aload_n hx hb dX12_worth_6 rfl (lv_at hl 0 rfl) ?_
  refine lv_iload_n hx hb dX12_worth_7 rfl (lv_at hl 1 rfl) ?_
  refine lv_iconst (v := 2) hx hb dX12_worth_8 (by decide) ?_
  refine mcallV' (g := g) (q0 := 0) (ci := 10) (As := [.int x, .int 2]) (rest := [.int (zV fm 1 x.toInt.toNat)]) St hK hT hA hP hD hS hl.1 [0] [] rfl rfl rfl (m_of2F l g o a th hi ac tp ba en tA fl de iD iO tU fm fk fa fc ft ff fb fi x b_x) (cwV 2 hts (zgL (zl4 k842 k843 k844 k839) k831) rfl rfl rfl (by decide +kernel) ⟨Nat.le_of_ble_eq_true rfl, Nat.le_of_ble_eq_true rfl⟩) rfl rfl rfl rfl (Nat.le_of_ble_eq_true rfl) dX12_worth_9 ⟨(Nat.le_of_ble_eq_true rfl), (Nat.le_of_ble_eq_true rfl)⟩ (fun _u H locs hq2 hP hD hS => ?_)
  have hP : va_P g.1 vwCl (List.flatten [bMo g o a th hi ac tp ba en tA fl de iD iO tU fm fk fa fc ft ff fb fi]) H := hP
  have hD : va_D A (List.flatten [bMo g o a th hi ac tp ba en tA fl de iD iO tU fm fk fa fc ft ff fb fi]) := hD
  refine W.widen (k := 0) (n := 0) (Nat.le_of_ble_eq_true rfl) (Nat.le_of_ble_eq_true rfl) ?_
  refine W.eq (g2 := F0 m 12 ls [.int (zV fm 2 x.toInt.toNat), .int (zV fm 1 x.toInt.toNat)]) rfl ?_
  refine lv_aload_n hx hb dX12_worth_12 rfl (lv_at hl 0 rfl) ?_
  refine mcallV' (g := g) (q0 := 0) (ci := 10) (As := []) (rest := [.int (zV fm 2 x.toInt.toNat), .int (zV fm 1 x.toInt.toNat)]) St hK hT hA hP hD hS hl.1 [0] [] rfl rfl rfl (m_priceNowG l g o a th hi ac tp ba en tA fl de iD iO tU fm fk fa fc ft ff fb fi rfm) (cwV 0 hts (zgL (zl4 k1029 k1030 k1031 k839) k862) rfl rfl rfl (by decide +kernel) ⟨Nat.le_of_ble_eq_true rfl, Nat.le_of_ble_eq_true rfl⟩) rfl rfl rfl rfl (Nat.le_of_ble_eq_true rfl) dX12_worth_13 ⟨(Nat.le_of_ble_eq_true rfl), (Nat.le_of_ble_eq_true rfl)⟩ (fun _u H locs hq3 hP hD hS => ?_)
  have hP : va_P g.1 vwCl (List.flatten [bMo g o a th hi ac tp ba en tA fl de iD iO tU fm fk fa fc ft ff fb fi]) H := hP
  have hD : va_D A (List.flatten [bMo g o a th hi ac tp ba en tA fl de iD iO tU fm fk fa fc ft ff fb fi]) := hD
  refine W.widen (k := 0) (n := 0) (Nat.le_of_ble_eq_true rfl) (Nat.le_of_ble_eq_true rfl) ?_
  refine W.eq (g2 := F0 m 16 ls [.int (zPrice (zV fm) (fm 3).toInt.toNat), .int (zV fm 2 x.toInt.toNat), .int (zV fm 1 x.toInt.toNat)]) rfl ?_
  refine lv_imul hx hb dX12_worth_16 ?_
  refine lv_iadd hx hb dX12_worth_17 ?_
  refine ztop (r := (zWth (zV fm) (fm 3).toInt.toNat x.toInt.toNat)) rfl ?_
  have hP : va_P g.1 vwCl (List.flatten [bMo g o a th hi ac tp ba en tA fl de iD iO tU fm fk fa fc ft ff fb fi]) H := hP
  have hD : va_D A (List.flatten [bMo g o a th hi ac tp ba en tA fl de iD iO tU fm fk fa fc ft ff fb fi]) := hD
  exact mret_i hx hb hr hlocks hS (Nat.le_of_ble_eq_true rfl) (Nat.le_of_ble_eq_true rfl) dX12_worth_18 () rfl trivial hP hD
