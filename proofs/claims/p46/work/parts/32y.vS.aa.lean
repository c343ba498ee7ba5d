/-! WHAT IS ASKED: circles -/
theorem zOf_m {P : Nat → Prop} [D : DecidablePred P] : ∀ n : Nat, n ≤ 8 → ∃ m : Nat, m < 2 ^ n ∧ zOf (fun o => if P o then zBit o else 0) n = nI m ∧ ∀ i, m.testBit i = true ↔ (i < n ∧ P i)
  | 0, _ => ⟨0, by decide, rfl, fun i => ⟨fun h => absurd h (by rw [Nat.zero_testBit]; decide), fun h => absurd h.1 (Nat.not_lt_zero _)⟩⟩
  | n + 1, hn => by
    obtain ⟨m, h1, h2, h3⟩ := zOf_m (P := P) n (by omega)
    by_cases p : P n
    · refine ⟨m ||| 2 ^ n, Nat.or_lt_two_pow (Nat.lt_of_lt_of_le h1 (Nat.pow_le_pow_right (by decide) (Nat.le_succ n))) (Nat.pow_lt_pow_right (by decide) (Nat.lt_succ_self n)), ?_, fun i => ?_⟩
      · show zOf (fun o => if P o then zBit o else 0) n ||| (if P n then zBit n else 0) = nI (m ||| 2 ^ n)
        rw [if_pos p, h2, zBitN n (by omega)]; exact zor_nI m (2 ^ n)
      · rw [Nat.testBit_or, Nat.testBit_two_pow, Bool.or_eq_true, h3 i]
        constructor
        · rintro (h | h)
          · exact ⟨by omega, h.2⟩
          · have q : n = i := of_decide_eq_true h
            subst q; exact ⟨by omega, p⟩
        · intro h
          by_cases q : i = n
          · exact Or.inr (decide_eq_true q.symm)
          · exact Or.inl ⟨by omega, h.2⟩
    · refine ⟨m, Nat.lt_of_lt_of_le h1 (Nat.pow_le_pow_right (by decide) (Nat.le_succ n)), ?_, fun i => ?_⟩
      · show zOf (fun o => if P o then zBit o else 0) n ||| (if P n then zBit n else 0) = nI m
        rw [if_neg p, h2]; exact Int32.or_zero
      · rw [h3 i]
        constructor
        · intro h; exact ⟨by omega, h.2⟩
        · intro h
          by_cases q : i = n
          · exact absurd (q ▸ h.2) p
          · exact ⟨by omega, h.2⟩
abbrev zCbx (f : zRw) (pe x o : Nat) : Prop := ¬ ((zPs f pe (zBit x) 8 >>> (nI o &&& 31)) &&& 1).toInt = 0
abbrev zCrP (f : zRw) (pe x o : Nat) : Prop := zCbx f pe x o ∧ zCbx f pe o x
theorem zCrP_s {f : zRw} {pe x o : Nat} (h : zCrP f pe x o) : zCrP f pe o x := ⟨h.2, h.1⟩
def zCrG (f : zRw) (pe x : Nat) : Nat → Int32 := fun o => if ¬ o = x ∧ zCrP f pe x o then zBit o else 0
def zCrc (f : zRw) (pe x : Nat) : Int32 := zOf (zCrG f pe x) pe
def zCrH (f : zRw) (pe x : Nat) : Nat → Int32 := fun o => if zCrP f pe x o then zBit o else 0
def zCrm (f : zRw) (pe x : Nat) : Int32 := zBit x ||| zOf (zCrH f pe x) pe
theorem zWbN : ∀ m, m < 256 → ∀ x, x < 8 → ∀ o, o < 8 → ((((nI m &&& (zBit x ^^^ -1)) >>> (nI o &&& 31)) &&& 1).toInt = 0 ↔ (o = x ∨ ((nI m >>> (nI o &&& 31)) &&& 1).toInt = 0)) := by decide +kernel
theorem zWb {f : zRw} {pe x o : Nat} (hp : pe ≤ 8) (hx : x < pe) (ho : o < pe) : ((zWrd f pe x >>> (nI o &&& 31)) &&& 1).toInt = 0 ↔ (o = x ∨ ¬ zCbx f pe x o) := by
  obtain ⟨m, e, hm, _⟩ := zSb_Ps (f := f) hp (zSb_bit hx hp) 8
  have z := zWbN m hm x (by omega) o (by omega)
  unfold zWrd zCbx
  rw [e, Decidable.not_not]; exact z
theorem zCr_y {f : zRw} {pe : Nat} {acc k x : Int32} (hp : pe ≤ 8) (hx : 0 ≤ x.toInt ∧ x.toInt.toNat < pe) (hk : 0 ≤ k.toInt ∧ k.toInt.toNat < pe) (c1 : ¬ ((zWrd f pe x.toInt.toNat >>> (k &&& 31)) &&& 1).toInt = 0) (c2 : ¬ ((zWrd f pe k.toInt.toNat >>> (x &&& 31)) &&& 1).toInt = 0) : acc ||| zBit k.toInt.toNat = acc ||| zCrG f pe x.toInt.toNat k.toInt.toNat := by
  have e : nI k.toInt.toNat = k := (znat hk.1).symm
  have e2 : nI x.toInt.toNat = x := (znat hx.1).symm
  have a := zWb (f := f) hp hx.2 hk.2
  have b := zWb (f := f) hp hk.2 hx.2
  rw [e] at a
  rw [e2] at b
  have a1 := fun q => c1 (a.mpr q)
  have b1 := fun q => c2 (b.mpr q)
  unfold zCrG
  rw [if_pos ⟨fun q => a1 (Or.inl q), Decidable.not_not.mp (fun q => a1 (Or.inr q)), Decidable.not_not.mp (fun q => b1 (Or.inr q))⟩]
theorem zCr_n1 {f : zRw} {pe : Nat} {acc k x : Int32} (hp : pe ≤ 8) (hx : 0 ≤ x.toInt ∧ x.toInt.toNat < pe) (hk : 0 ≤ k.toInt ∧ k.toInt.toNat < pe) (c1 : ((zWrd f pe x.toInt.toNat >>> (k &&& 31)) &&& 1).toInt = 0) : acc = acc ||| zCrG f pe x.toInt.toNat k.toInt.toNat := by
  have e : nI k.toInt.toNat = k := (znat hk.1).symm
  have a := zWb (f := f) hp hx.2 hk.2
  rw [e] at a
  have a1 := a.mp c1
  unfold zCrG
  rw [if_neg (fun q => a1.elim (fun w => q.1 w) (fun w => w q.2.1))]; exact Int32.or_zero.symm
theorem zCr_n2 {f : zRw} {pe : Nat} {acc k x : Int32} (hp : pe ≤ 8) (hx : 0 ≤ x.toInt ∧ x.toInt.toNat < pe) (hk : 0 ≤ k.toInt ∧ k.toInt.toNat < pe) (c2 : ((zWrd f pe k.toInt.toNat >>> (x &&& 31)) &&& 1).toInt = 0) : acc = acc ||| zCrG f pe x.toInt.toNat k.toInt.toNat := by
  have e2 : nI x.toInt.toNat = x := (znat hx.1).symm
  have b := zWb (f := f) hp hk.2 hx.2
  rw [e2] at b
  have b1 := b.mp c2
  unfold zCrG
  rw [if_neg (fun q => b1.elim (fun w => q.1 w.symm) (fun w => w q.2.2))]; exact Int32.or_zero.symm
theorem zCr_x {f : zRw} {pe x : Nat} {acc k n : Int32} (h : acc = zOf (zCrG f n.toInt.toNat x) k.toInt.toNat) (e : k.toInt = n.toInt) : acc = zCrc f n.toInt.toNat x := by rw [e] at h; exact h
/-! the model's circle: with oneself -/
theorem zCm_0 {x : Nat} {g : Nat → Int32} {a k : Int32} (ha : a = zBit x) (hk : k.toInt = 0) : a = zBit x ||| zOf g k.toInt.toNat := by
  rw [hk, ha]; exact Int32.or_zero.symm
theorem zCm_s {x : Nat} {g : Nat → Int32} {a a' k k' v : Int32} (h : a = zBit x ||| zOf g k.toInt.toNat) (hk : k'.toInt = k.toInt + 1) (h0 : 0 ≤ k.toInt) (e : a' = a ||| v) (ev : v = g k.toInt.toNat) : a' = zBit x ||| zOf g k'.toInt.toNat := by
  rw [show k'.toInt.toNat = k.toInt.toNat + 1 by omega]
  show a' = zBit x ||| (zOf g k.toInt.toNat ||| g k.toInt.toNat)
  rw [e, h, ev, Int32.or_assoc]
theorem zCrH_y {f : zRw} {pe : Nat} {k x : Int32} (h0 : 0 ≤ k.toInt) (h1 : 0 ≤ x.toInt) (c1 : ¬ ((zPs f pe (zBit x.toInt.toNat) (8 : Int32).toInt.toNat >>> (k &&& 31)) &&& 1).toInt = 0) (c2 : ¬ ((zPs f pe (zBit k.toInt.toNat) (8 : Int32).toInt.toNat >>> (x &&& 31)) &&& 1).toInt = 0) : zBit k.toInt.toNat = zCrH f pe x.toInt.toNat k.toInt.toNat := by
  have e : nI k.toInt.toNat = k := (znat h0).symm
  have e2 : nI x.toInt.toNat = x := (znat h1).symm
  unfold zCrH zCrP zCbx
  rw [e, e2, if_pos ⟨c1, c2⟩]
theorem zCrH_n1 {f : zRw} {pe : Nat} {k x : Int32} (h0 : 0 ≤ k.toInt) (c1 : ((zPs f pe (zBit x.toInt.toNat) (8 : Int32).toInt.toNat >>> (k &&& 31)) &&& 1).toInt = 0) : 0 = zCrH f pe x.toInt.toNat k.toInt.toNat := by
  have e : nI k.toInt.toNat = k := (znat h0).symm
  unfold zCrH zCrP zCbx
  rw [e, if_neg (fun q => q.1 c1)]
theorem zCrH_n2 {f : zRw} {pe : Nat} {k x : Int32} (h1 : 0 ≤ x.toInt) (c2 : ((zPs f pe (zBit k.toInt.toNat) (8 : Int32).toInt.toNat >>> (x &&& 31)) &&& 1).toInt = 0) : 0 = zCrH f pe x.toInt.toNat k.toInt.toNat := by
  have e2 : nI x.toInt.toNat = x := (znat h1).symm
  unfold zCrH zCrP zCbx
  rw [e2, if_neg (fun q => q.2 c2)]
theorem zCm_x {f : zRw} {x : Nat} {acc k n : Int32} (h : acc = zBit x ||| zOf (zCrH f n.toInt.toNat x) k.toInt.toNat) (e : k.toInt = n.toInt) : acc = zCrm f n.toInt.toNat x := by rw [e] at h; exact h
/-! how many -/
def zCcG (f : zRw) (pe : Nat) : Nat → Int32 := fun x => if ¬ (zCrc f pe x).toInt = 0 ∧ ((zOf (zCrc f pe) x >>> (nI x &&& 31)) &&& 1).toInt = 0 then 1 else 0
def zCi (f : zRw) (pe : Nat) : Int32 := zSu (zCcG f pe) pe
def zCi9 (s : zT9) : Int32 := zCi s.2.2.2.2.2.2.2.2 s.1.toInt.toNat
theorem zCrc_c {f g : zRw} {pe x : Nat} (h : zEq f g) (hp : pe ≤ 8) : zCrc f pe x = zCrc g pe x := zFo_c pe (fun o ho => by
  unfold zCrG zCrP zCbx
  rw [zPs_c h hp, zPs_c h hp])
theorem zCi9_c {s t : zT9} (h : zR9 s t) (k : zOk s) : zCi9 s = zCi9 t := by
  have e1 : s.1 = t.1 := h.1
  have b := k.1
  unfold zCi9 zCi
  rw [← e1]
  refine zFo_c s.1.toInt.toNat (fun x hx => ?_)
  have z : zCrc s.2.2.2.2.2.2.2.2 s.1.toInt.toNat = zCrc t.2.2.2.2.2.2.2.2 s.1.toInt.toNat := funext (fun y => zCrc_c h.2.2.2.2.2.2.2.2 (by omega))
  unfold zCcG
  rw [z]
theorem zCc_y {f : zRw} {pe : Nat} {acc sn k : Int32} (I : sn = zOf (zCrc f pe) k.toInt.toNat) (h0 : 0 ≤ k.toInt) (c1 : ¬ (zCrc f pe k.toInt.toNat).toInt = 0) (c2 : ((sn >>> (k &&& 31)) &&& 1).toInt = 0) : acc + 1 = acc + zCcG f pe k.toInt.toNat := by
  have e : nI k.toInt.toNat = k := (znat h0).symm
  unfold zCcG
  rw [e, ← I, if_pos ⟨c1, c2⟩]
theorem zCc_n {f : zRw} {pe : Nat} {acc sn k : Int32} (I : sn = zOf (zCrc f pe) k.toInt.toNat) (h0 : 0 ≤ k.toInt) (c : ¬ (¬ (zCrc f pe k.toInt.toNat).toInt = 0 ∧ ((sn >>> (k &&& 31)) &&& 1).toInt = 0)) : acc = acc + zCcG f pe k.toInt.toNat := by
  have e : nI k.toInt.toNat = k := (znat h0).symm
  unfold zCcG
  rw [e, ← I, if_neg c]; exact (Int32.add_zero _).symm
theorem zCc_x {f : zRw} {acc k n : Int32} (h : acc = zSu (zCcG f n.toInt.toNat) k.toInt.toNat) (e : k.toInt = n.toInt) : acc = zCi f n.toInt.toNat := by rw [e] at h; exact h
/-! both say the same -/
theorem zCpN : ∀ m, m < 256 → ∀ x, x < 8 → ((1 < (zPop (zBit x ||| nI m)).toInt) ↔ ∃ i, i < 8 ∧ ¬ i = x ∧ m.testBit i = true) := by decide +kernel
theorem zClN : ∀ m, m < 256 → ∀ x, x < 8 → (((zBit x ||| nI m) &&& (zBit x - 1)).toInt = 0 ↔ ∀ i, i < x → ¬ m.testBit i = true) := by decide +kernel
theorem zCbN : ∀ m, m < 256 → ∀ x, x < 8 → (((nI m >>> (nI x &&& 31)) &&& 1).toInt = 0 ↔ ¬ m.testBit x = true) := by decide +kernel
theorem zCzN : ∀ m, m < 256 → (¬ (nI m).toInt = 0 ↔ ∃ i, i < 8 ∧ m.testBit i = true) := by decide +kernel
theorem zCs_m {f : zRw} {pe : Nat} (hp : pe ≤ 8) : ∀ n : Nat, ∃ m : Nat, m < 256 ∧ zOf (zCrc f pe) n = nI m ∧ ∀ i, m.testBit i = true ↔ ∃ y, y < n ∧ i < pe ∧ ¬ i = y ∧ zCrP f pe y i
  | 0 => ⟨0, by decide, rfl, fun i => ⟨fun h => absurd h (by rw [Nat.zero_testBit]; decide), fun ⟨y, h, _⟩ => absurd h (Nat.not_lt_zero _)⟩⟩
  | n + 1 => by
    obtain ⟨m, h1, h2, h3⟩ := zCs_m (f := f) hp n
    obtain ⟨c, c1, c2, c3⟩ := zOf_m (P := fun o => ¬ o = n ∧ zCrP f pe n o) pe hp
    have c256 : c < 256 := Nat.lt_of_lt_of_le c1 (show 2 ^ pe ≤ 2 ^ 8 from Nat.pow_le_pow_right (by decide) hp)
    refine ⟨m ||| c, Nat.or_lt_two_pow (n := 8) h1 c256, ?_, fun i => ?_⟩
    · show zOf (zCrc f pe) n ||| zCrc f pe n = nI (m ||| c)
      rw [h2, show zCrc f pe n = nI c from c2]; exact zor_nI m c
    · rw [Nat.testBit_or, Bool.or_eq_true, h3 i, c3 i]
      constructor
      · rintro (⟨y, a, b⟩ | ⟨a, b, d⟩)
        · exact ⟨y, by omega, b⟩
        · exact ⟨n, by omega, a, b, d⟩
      · rintro ⟨y, a, b, d, e⟩
        by_cases q : y = n
        · rw [q] at d e; exact Or.inr ⟨b, d, e⟩
        · exact Or.inl ⟨y, by omega, b, d, e⟩
theorem zCc_i {f : zRw} {pe x : Nat} (hp : pe ≤ 8) (hx : x < pe) : (1 < (zPop (zCrm f pe x)).toInt ∧ (zCrm f pe x &&& (zBit x - 1)).toInt = 0) ↔ (¬ (zCrc f pe x).toInt = 0 ∧ ((zOf (zCrc f pe) x >>> (nI x &&& 31)) &&& 1).toInt = 0) := by
  obtain ⟨m, h1, h2, h3⟩ := zOf_m (P := fun o => zCrP f pe x o) pe hp
  obtain ⟨c, c1, c2, c3⟩ := zOf_m (P := fun o => ¬ o = x ∧ zCrP f pe x o) pe hp
  obtain ⟨q, q1, q2, q3⟩ := zCs_m (f := f) hp x
  have l8 : 2 ^ pe ≤ 2 ^ 8 := Nat.pow_le_pow_right (by decide) hp
  have m256 : m < 256 := Nat.lt_of_lt_of_le h1 l8
  have c256 : c < 256 := Nat.lt_of_lt_of_le c1 l8
  have e1 : zCrm f pe x = zBit x ||| nI m := by
    show zBit x ||| zOf (zCrH f pe x) pe = _
    rw [show zOf (zCrH f pe x) pe = nI m from h2]
  have e2 : zCrc f pe x = nI c := c2
  rw [e1, e2, q2, zCpN m m256 x (by omega), zClN m m256 x (by omega), zCbN q q1 x (by omega), zCzN c c256, q3 x]
  constructor
  · rintro ⟨⟨i, _, i2, i3⟩, j⟩
    have k := (h3 i).mp i3
    refine ⟨⟨i, by omega, (c3 i).mpr ⟨k.1, i2, k.2⟩⟩, ?_⟩
    rintro ⟨y, y1, y2, y3, y4⟩
    exact j y y1 ((h3 y).mpr ⟨by omega, zCrP_s y4⟩)
  · rintro ⟨⟨i, i1, i2⟩, j⟩
    have k := (c3 i).mp i2
    refine ⟨⟨i, i1, k.2.1, (h3 i).mpr ⟨k.1, k.2.2⟩⟩, fun y y1 y2 => ?_⟩
    have w := (h3 y).mp y2
    exact j ⟨y, y1, hx, by omega, zCrP_s w.2⟩
theorem zCd_y {f : zRw} {pe : Nat} {acc v k : Int32} (hp : pe ≤ 8) (h0 : 0 ≤ k.toInt ∧ k.toInt.toNat < pe) (e : v = zCrm f pe k.toInt.toNat) (c1 : 1 < (zPop v).toInt) (c2 : (v &&& (zBit k.toInt.toNat - 1)).toInt = 0) : acc + 1 = acc + zCcG f pe k.toInt.toNat := by
  rw [e] at c1 c2
  unfold zCcG
  rw [if_pos ((zCc_i hp h0.2).mp ⟨c1, c2⟩)]
theorem zCd_n {f : zRw} {pe : Nat} {acc v k : Int32} (hp : pe ≤ 8) (h0 : 0 ≤ k.toInt ∧ k.toInt.toNat < pe) (e : v = zCrm f pe k.toInt.toNat) (c : ¬ (1 < (zPop v).toInt ∧ (v &&& (zBit k.toInt.toNat - 1)).toInt = 0)) : acc + 0 = acc + zCcG f pe k.toInt.toNat := by
  rw [e] at c
  unfold zCcG
  rw [if_neg (fun q => c ((zCc_i hp h0.2).mpr q))]
/-! works chosen -/
def zSm1 (f : zRw) (r : Nat) (S : Int32) : Nat → Int32 → Int32 := fun w a => if ((S >>> (nI w &&& 31)) &&& 1).toInt = 0 then a else a + f r w
def zSmw (f : zRw) (r : Nat) (S : Int32) (wo : Nat) : Int32 := zIt (zSm1 f r S) 0 wo
section ZSm
variable {f : zRw} {r : Nat} {S a k : Int32}
theorem zSm_y (h : 0 ≤ k.toInt) (c : ¬ ((S >>> (k &&& 31)) &&& 1).toInt = 0) : a + f r k.toInt.toNat = zSm1 f r S k.toInt.toNat a := by
  have e : nI k.toInt.toNat = k := (znat h).symm
  unfold zSm1
  rw [e, if_neg c]
theorem zSm_n (h : 0 ≤ k.toInt) (c : ((S >>> (k &&& 31)) &&& 1).toInt = 0) : a = zSm1 f r S k.toInt.toNat a := by
  have e : nI k.toInt.toNat = k := (znat h).symm
  unfold zSm1
  rw [e, if_pos c]
theorem zSm_z (h : 0 ≤ k.toInt) (c : ((S >>> (k &&& 31)) &&& 1).toInt = 0) : a + 0 = zSm1 f r S k.toInt.toNat a := (Int32.add_zero a).trans (zSm_n h c)
end ZSm
theorem zSm_c {f g : zRw} {r wo : Nat} {S : Int32} (h : zEq f g) (hr : 6 ≤ r ∧ r ≤ 9) (hw : wo ≤ 6) : zSmw f r S wo = zSmw g r S wo :=
  zIt_c (R := Eq) rfl wo (fun w u v hw9 e => by
    subst e
    unfold zSm1
    rw [h.2.2 r w hr.1 hr.2 (by omega)])
abbrev zMyP (f : zRw) (bl : Int32) (w : Nat) : Prop := (f 9 w).toInt = 0 ∧ (f 7 w).toInt ≤ bl.toInt
def zMyG (f : zRw) (bl : Int32) : Nat → Int32 := fun w => if zMyP f bl w then zBit w else 0
def zMay (f : zRw) (pe wo : Nat) : Int32 := zOf (zMyG f (zBel f pe)) wo
theorem zMay_c {f g : zRw} {pe wo : Nat} (h : zEq f g) (hp : pe ≤ 8) (hw : wo ≤ 6) : zMay f pe wo = zMay g pe wo := zFo_c wo (fun w hw9 => by
  have e : ((f 9 w).toInt = 0 ∧ (f 7 w).toInt ≤ (zBel f pe).toInt) = ((g 9 w).toInt = 0 ∧ (g 7 w).toInt ≤ (zBel g pe).toInt) := by
    rw [h.2.2 9 w (by decide) (by decide) (by omega), h.2.2 7 w (by decide) (by decide) (by omega), zBel_c h hp]
  unfold zMyG
  exact ite_congr e (fun _ => rfl) (fun _ => rfl))
theorem zMay_x {f : zRw} {pe : Nat} {acc k n : Int32} (h : acc = zOf (zMyG f (zBel f pe)) k.toInt.toNat) (e : k.toInt = n.toInt) : acc = zMay f pe n.toInt.toNat := by rw [e] at h; exact h
/-- a set that can be built -/
abbrev zCaX (f : zRw) (pe wo : Nat) (ch S : Int32) : Prop := (S &&& (zMay f pe wo ^^^ -1)).toInt = 0 ∧ (zSmw f 6 S wo).toInt ≤ ch.toInt
def zCaP (f : zRw) (bl S : Int32) (k : Nat) : Prop := ∀ w, w < k → ¬ ((S >>> (nI w &&& 31)) &&& 1).toInt = 0 → zMyP f bl w
theorem zCaP_0 {f : zRw} {bl S k : Int32} (h : k.toInt = 0) : zCaP f bl S k.toInt.toNat := fun w hw => absurd hw (by omega)
theorem zCaP_s {f : zRw} {bl S k k' : Int32} (h : zCaP f bl S k.toInt.toNat) (hk : k'.toInt = k.toInt + 1) (h0 : 0 ≤ k.toInt) (c : ((S >>> (k &&& 31)) &&& 1).toInt = 0 ∨ zMyP f bl k.toInt.toNat) : zCaP f bl S k'.toInt.toNat := fun w hw q => by
  by_cases e : w = k.toInt.toNat
  · rcases c with c | c
    · rw [e, (znat h0).symm] at q; exact absurd c q
    · rw [e]; exact c
  · exact h w (by omega) q
theorem zMkN : ∀ m, m < 64 → ∀ M, M < 64 → ((nI m &&& (nI M ^^^ -1)).toInt = 0 ↔ ∀ i, i < 6 → m.testBit i = true → M.testBit i = true) := by decide +kernel
theorem zBi2 : ∀ n, n ≤ 8 → (zBit n).toInt = ((2 ^ n : Nat) : Int) := by decide +kernel
theorem zBit_b {n : Nat} (h : n ≤ 8) : 1 ≤ (zBit n).toInt ∧ (zBit n).toInt ≤ 256 := by
  have e := zBi2 n h
  have l : 2 ^ n ≤ 2 ^ 8 := Nat.pow_le_pow_right (by decide) h
  have g : 0 < 2 ^ n := Nat.pow_pos (by decide)
  omega
theorem zBit_b6 {n : Nat} (h : n ≤ 6) : 1 ≤ (zBit n).toInt ∧ (zBit n).toInt ≤ 64 := by
  have e := zBi2 n (by omega)
  have l : 2 ^ n ≤ 2 ^ 6 := Nat.pow_le_pow_right (by decide) h
  have g : 0 < 2 ^ n := Nat.pow_pos (by decide)
  omega
theorem zCa_i {f : zRw} {pe wo : Nat} {S : Int32} (hw : wo ≤ 6) (h0 : 0 ≤ S.toInt) (h1 : S.toInt < (zBit wo).toInt) : zCaP f (zBel f pe) S wo ↔ (S &&& (zMay f pe wo ^^^ -1)).toInt = 0 := by
  obtain ⟨M, a1, a2, a3⟩ := zOf_m (P := fun w => zMyP f (zBel f pe) w) wo (by omega)
  have l6 : 2 ^ wo ≤ 2 ^ 6 := Nat.pow_le_pow_right (by decide) hw
  have hM : M < 64 := Nat.lt_of_lt_of_le a1 l6
  have e2 := zBi2 wo (by omega)
  obtain ⟨m, hm⟩ : ∃ m : Nat, S = nI m ∧ m < 2 ^ wo := ⟨S.toInt.toNat, znat h0, by omega⟩
  have m64 : m < 64 := Nat.lt_of_lt_of_le hm.2 l6
  rw [show zMay f pe wo = nI M from a2, hm.1, zMkN m m64 M hM]
  constructor
  · intro h i hi b
    have b' : ¬ ((nI m >>> (nI i &&& 31)) &&& 1).toInt = 0 := fun z => ((zCbN m (by omega) i (by omega)).mp z) b
    have iw : i < wo := by
      rcases Nat.lt_or_ge i wo with q | q
      · exact q
      · have z := Nat.testBit_lt_two_pow (Nat.lt_of_lt_of_le hm.2 (Nat.pow_le_pow_right (by decide) q) : m < 2 ^ i)
        rw [z] at b; exact absurd b (by decide)
    exact (a3 i).mpr ⟨iw, h i iw b'⟩
  · intro h w hw9 q
    have b : m.testBit w = true := Decidable.not_not.mp (fun c => q ((zCbN m (by omega) w (by omega)).mpr c))
    exact ((a3 w).mp (h w (by omega) b)).2
theorem zCa_no {f : zRw} {pe wo : Nat} {ch S k : Int32} (hw : wo ≤ 6) (h0 : 0 ≤ S.toInt ∧ S.toInt < (zBit wo).toInt) (hk : 0 ≤ k.toInt ∧ k.toInt.toNat < wo) (b : ¬ ((S >>> (k &&& 31)) &&& 1).toInt = 0) (c : ¬ zMyP f (zBel f pe) k.toInt.toNat) : ¬ zCaX f pe wo ch S := fun q => c ((zCa_i hw h0.1 h0.2).mpr q.1 k.toInt.toNat hk.2 (by rw [(znat hk.1).symm]; exact b))
theorem zCa_yes {f : zRw} {pe : Nat} {ch S k n v : Int32} (hw : n.toInt.toNat ≤ 6) (h0 : 0 ≤ S.toInt ∧ S.toInt < (zBit n.toInt.toNat).toInt) (h : zCaP f (zBel f pe) S k.toInt.toNat) (hs : v = zIt (zSm1 f 6 S) 0 k.toInt.toNat) (e : k.toInt = n.toInt) (c : v.toInt ≤ ch.toInt) : zCaX f pe n.toInt.toNat ch S := by
  rw [e] at h hs
  refine ⟨(zCa_i hw h0.1 h0.2).mp h, ?_⟩
  show (zIt (zSm1 f 6 S) 0 n.toInt.toNat).toInt ≤ ch.toInt
  rw [← hs]; exact c
theorem zCa_cost {f : zRw} {pe : Nat} {ch S k n v : Int32} (hs : v = zIt (zSm1 f 6 S) 0 k.toInt.toNat) (e : k.toInt = n.toInt) (c : ¬ v.toInt ≤ ch.toInt) : ¬ zCaX f pe n.toInt.toNat ch S := by
  rw [e] at hs
  intro q
  have q2 := q.2
  unfold zSmw at q2
  rw [← hs] at q2; exact c q2
/-- the best of several -/
def zCho (P : Nat → Bool) (W : Int32 → Int32) : Nat → Int32
  | 0 => 0
  | k + 1 => if P k = true ∧ (W (zCho P W k)).toInt < (W (nI k)).toInt then nI k else zCho P W k
section ZCh
variable {P : Nat → Bool} {W : Int32 → Int32} {b k k' : Int32}
theorem zCho_0 (hb : b = 0) (hk : k.toInt = 0) : b = zCho P W k.toInt.toNat := by rw [hk]; exact hb
theorem zCho_1 (hb : b = 0) (hk : k.toInt = 1) : b = zCho P W k.toInt.toNat := by
  rw [hk, hb]
  show (0 : Int32) = if P 0 = true ∧ (W 0).toInt < (W (nI 0)).toInt then nI 0 else 0
  rw [if_neg (fun q => absurd q.2 (Int.lt_irrefl _))]
theorem zCho_y (h : b = zCho P W k.toInt.toNat) (hk : k'.toInt = k.toInt + 1) (h0 : 0 ≤ k.toInt) (p : P k.toInt.toNat = true) (c : (W b).toInt < (W k).toInt) : k = zCho P W k'.toInt.toNat := by
  rw [show k'.toInt.toNat = k.toInt.toNat + 1 by omega]
  show k = if P k.toInt.toNat = true ∧ (W (zCho P W k.toInt.toNat)).toInt < (W (nI k.toInt.toNat)).toInt then nI k.toInt.toNat else zCho P W k.toInt.toNat
  rw [← h, (znat h0).symm, if_pos ⟨p, c⟩]
theorem zCho_n (h : b = zCho P W k.toInt.toNat) (hk : k'.toInt = k.toInt + 1) (h0 : 0 ≤ k.toInt) (p : ¬ (P k.toInt.toNat = true ∧ (W b).toInt < (W k).toInt)) : b = zCho P W k'.toInt.toNat := by
  rw [show k'.toInt.toNat = k.toInt.toNat + 1 by omega]
  show b = if P k.toInt.toNat = true ∧ (W (zCho P W k.toInt.toNat)).toInt < (W (nI k.toInt.toNat)).toInt then nI k.toInt.toNat else zCho P W k.toInt.toNat
  rw [← h, (znat h0).symm, if_neg p]
theorem zCho_x {n : Int32} (h : b = zCho P W k.toInt.toNat) (e : k.toInt = n.toInt) : b = zCho P W n.toInt.toNat := by rw [← e]; exact h
end ZCh
def zChP (f : zRw) (pe wo : Nat) (ch : Int32) : Nat → Bool := fun k => decide (zCaX f pe wo ch (nI k))
theorem zChP_y {f : zRw} {pe wo : Nat} {ch k : Int32} (h0 : 0 ≤ k.toInt) (c : zCaX f pe wo ch k) : zChP f pe wo ch k.toInt.toNat = true := by
  unfold zChP
  rw [(znat h0).symm]; exact decide_eq_true c
theorem zChP_n {f : zRw} {pe wo : Nat} {ch k : Int32} (h0 : 0 ≤ k.toInt) (c : ¬ zCaX f pe wo ch k) : ¬ zChP f pe wo ch k.toInt.toNat = true := by
  unfold zChP
  rw [(znat h0).symm]; exact fun q => c (of_decide_eq_true q)
def zChs (f : zRw) (pe wo : Nat) (ch : Int32) : Int32 := zCho (zChP f pe wo ch) (fun S => zSmw f 8 S wo) (zBit wo).toInt.toNat
theorem zChs_x {f : zRw} {pe wo : Nat} {ch b k : Int32} (h : b = zCho (zChP f pe wo ch) (fun S => zSmw f 8 S wo) k.toInt.toNat) (e : k.toInt = (zBit wo).toInt) : b = zChs f pe wo ch := by rw [e] at h; exact h
theorem zChs_c {f g : zRw} {pe wo : Nat} {ch : Int32} (h : zEq f g) (hp : pe ≤ 8) (hw : wo ≤ 6) : zChs f pe wo ch = zChs g pe wo ch := by
  have e1 : zChP f pe wo ch = zChP g pe wo ch := funext (fun k => by
    unfold zChP zCaX
    rw [zMay_c h hp hw, zSm_c h (by decide) hw])
  have e2 : (fun S => zSmw f 8 S wo) = (fun S => zSmw g 8 S wo) := funext (fun S => zSm_c h (by decide) hw)
  unfold zChs
  rw [e1, e2]
def zCh9 (c : Int32) (s : zT9) : Int32 := if c.toInt = 0 then zChs s.2.2.2.2.2.2.2.2 s.1.toInt.toNat s.2.1.toInt.toNat s.2.2.2.1 else zSmw s.2.2.2.2.2.2.2.2 8 (zChs s.2.2.2.2.2.2.2.2 s.1.toInt.toNat s.2.1.toInt.toNat s.2.2.2.1) s.2.1.toInt.toNat
theorem zCh9_c {c : Int32} {s t : zT9} (h : zR9 s t) (k : zOk s) : zCh9 c s = zCh9 c t := by
  have e1 : s.1 = t.1 := h.1
  have e2 : s.2.1 = t.2.1 := h.2.1
  have e4 : s.2.2.2.1 = t.2.2.2.1 := h.2.2.2.1
  have b := k.1
  have b6 := k.2.1
  have z := h.2.2.2.2.2.2.2.2
  unfold zCh9
  rw [← e1, ← e2, ← e4, zChs_c z (by omega) (by omega), zSm_c z (by decide) (by omega)]
section ZCk
variable {c pe wo tx ch jo tr dy sd : Int32} {f : zRw}
theorem zCh9_0 {v : Int32} (h : c.toInt = 0) (e : v = zChs f pe.toInt.toNat wo.toInt.toNat ch) : v = zCh9 c (pe, wo, tx, ch, jo, tr, dy, sd, f) := e.trans (if_pos h).symm
theorem zCh9_1 {v : Int32} (h : ¬ c.toInt = 0) (e : v = zChs f pe.toInt.toNat wo.toInt.toNat ch) : zSmw f 8 v wo.toInt.toNat = zCh9 c (pe, wo, tx, ch, jo, tr, dy, sd, f) := by
  rw [e]; exact (if_neg h).symm
end ZCk
theorem zCh9_m0 {c v : Int32} {m : Nat → Int32} (h : c.toInt = 0) (e : v = zChs (zV m) (m 3).toInt.toNat (m 4).toInt.toNat (m 5)) : v = zCh9 c (zM9 m) := e.trans (if_pos h).symm
theorem zCh9_m1 {c v : Int32} {m : Nat → Int32} (h : ¬ c.toInt = 0) (e : v = zChs (zV m) (m 3).toInt.toNat (m 4).toInt.toNat (m 5)) : zSmw (zV m) 8 v (m 4).toInt.toNat = zCh9 c (zM9 m) := by
  rw [e]; exact (if_neg h).symm
theorem zMy_y {f : zRw} {bl acc : Int32} {w : Nat} (h9 : (f 9 w).toInt = 0) (h7 : (f 7 w).toInt ≤ bl.toInt) : acc ||| zBit w = acc ||| zMyG f bl w := by
  unfold zMyG
  rw [if_pos ⟨h9, h7⟩]
theorem zMy_n {f : zRw} {bl acc : Int32} {w : Nat} (c : ¬ zMyP f bl w) : acc ||| 0 = acc ||| zMyG f bl w := by
  unfold zMyG
  rw [if_neg c]
/-! the fewest told -/
def zFw (Q : Nat → Bool) : Nat → Int32
  | 0 => -1
  | k + 1 => if Q k = true ∧ ((zFw Q k).toInt = -1 ∨ (zPop (nI k)).toInt < (zPop (zFw Q k)).toInt) then nI k else zFw Q k
section ZFw
variable {Q : Nat → Bool} {b k k' : Int32}
theorem zFw_0 (hb : b = -1) (hk : k.toInt = 0) : b = zFw Q k.toInt.toNat := by rw [hk]; exact hb
theorem zFw_y (h : b = zFw Q k.toInt.toNat) (hk : k'.toInt = k.toInt + 1) (h0 : 0 ≤ k.toInt) (p : Q k.toInt.toNat = true) (c : b.toInt = -1 ∨ (zPop k).toInt < (zPop b).toInt) : k = zFw Q k'.toInt.toNat := by
  rw [show k'.toInt.toNat = k.toInt.toNat + 1 by omega]
  show k = if Q k.toInt.toNat = true ∧ ((zFw Q k.toInt.toNat).toInt = -1 ∨ (zPop (nI k.toInt.toNat)).toInt < (zPop (zFw Q k.toInt.toNat)).toInt) then nI k.toInt.toNat else zFw Q k.toInt.toNat
  rw [← h, (znat h0).symm, if_pos ⟨p, c⟩]
theorem zFw_n (h : b = zFw Q k.toInt.toNat) (hk : k'.toInt = k.toInt + 1) (h0 : 0 ≤ k.toInt) (p : ¬ (Q k.toInt.toNat = true ∧ (b.toInt = -1 ∨ (zPop k).toInt < (zPop b).toInt))) : b = zFw Q k'.toInt.toNat := by
  rw [show k'.toInt.toNat = k.toInt.toNat + 1 by omega]
  show b = if Q k.toInt.toNat = true ∧ ((zFw Q k.toInt.toNat).toInt = -1 ∨ (zPop (nI k.toInt.toNat)).toInt < (zPop (zFw Q k.toInt.toNat)).toInt) then nI k.toInt.toNat else zFw Q k.toInt.toNat
  rw [← h, (znat h0).symm, if_neg p]
theorem zFw_x {n : Int32} (h : b = zFw Q k.toInt.toNat) (e : k.toInt = n.toInt) : b = zFw Q n.toInt.toNat := by rw [← e]; exact h
end ZFw
theorem zFw_p (Q : Nat → Bool) : ∀ n : Nat, n ≤ 256 → (zFw Q n = -1 ∧ ∀ k, k < n → ¬ Q k = true) ∨ (∃ b, b < n ∧ zFw Q n = nI b ∧ Q b = true ∧ ∀ k, k < n → Q k = true → (zPop (nI b)).toInt < (zPop (nI k)).toInt ∨ ((zPop (nI b)).toInt = (zPop (nI k)).toInt ∧ b ≤ k))
  | 0, _ => Or.inl ⟨rfl, fun k h => absurd h (Nat.not_lt_zero _)⟩
  | n + 1, hn => by
    have u : zFw Q (n + 1) = if Q n = true ∧ ((zFw Q n).toInt = -1 ∨ (zPop (nI n)).toInt < (zPop (zFw Q n)).toInt) then nI n else zFw Q n := rfl
    rcases zFw_p Q n (by omega) with ⟨e, h⟩ | ⟨b, b1, b2, b3, b4⟩
    · rw [u, e]
      by_cases q : Q n = true
      · rw [if_pos ⟨q, Or.inl (by decide)⟩]
        refine Or.inr ⟨n, by omega, rfl, q, fun k hk qk => ?_⟩
        by_cases c : k = n
        · rw [c]; exact Or.inr ⟨rfl, Nat.le_refl _⟩
        · exact absurd qk (h k (by omega))
      · rw [if_neg (fun w => q w.1)]
        refine Or.inl ⟨rfl, fun k hk => ?_⟩
        by_cases c : k = n
        · rw [c]; exact q
        · exact h k (by omega)
    · have nb : ¬ (zFw Q n).toInt = -1 := by rw [b2, nI_toInt (by omega)]; omega
      rw [u]
      by_cases q : Q n = true ∧ (zPop (nI n)).toInt < (zPop (nI b)).toInt
      · rw [if_pos ⟨q.1, Or.inr (by rw [b2]; exact q.2)⟩]
        refine Or.inr ⟨n, by omega, rfl, q.1, fun k hk qk => ?_⟩
        by_cases c : k = n
        · rw [c]; exact Or.inr ⟨rfl, Nat.le_refl _⟩
        · have z := b4 k (by omega) qk
          have z2 := q.2
          exact Or.inl (by omega)
      · rw [if_neg (fun w => w.2.elim nb (fun w2 => q ⟨w.1, by rw [b2] at w2; exact w2⟩))]
        refine Or.inr ⟨b, by omega, b2, b3, fun k hk qk => ?_⟩
        by_cases c : k = n
        · rw [c] at qk ⊢
          have z : ¬ (zPop (nI n)).toInt < (zPop (nI b)).toInt := fun w => q ⟨qk, w⟩
          omega
        · exact b4 k (by omega) qk
/-- those with fewer don't do; those ahead don't do -/
def zMuO (Q : Nat → Bool) (N : Nat) (t : Int) : Prop := ∀ k, k < N → Q k = true → t ≤ (zPop (nI k)).toInt
def zMuI (Q : Nat → Bool) (s : Nat) (t : Int) : Prop := ∀ k, k < s → Q k = true → ¬ (zPop (nI k)).toInt = t
theorem zMuO_0 {Q : Nat → Bool} {N : Nat} {t : Int32} (hN : N ≤ 256) (ht : t.toInt = 0) : zMuO Q N t.toInt := fun k hk _ => by
  have z := zPop_N k (by omega)
  omega
theorem zMuO_s {Q : Nat → Bool} {N s : Nat} {t t' : Int32} (h : zMuO Q N t.toInt) (i : zMuI Q s t.toInt) (e : s = N) (ht : t'.toInt = t.toInt + 1) : zMuO Q N t'.toInt := fun k hk q => by
  have a := h k hk q
  have b := i k (by omega) q
  omega
theorem zMuI_0 {Q : Nat → Bool} {k : Int32} {t : Int} (h : k.toInt = 0) : zMuI Q k.toInt.toNat t := fun j hj => absurd hj (by omega)
theorem zMuI_s {Q : Nat → Bool} {k k' : Int32} {t : Int} (h : zMuI Q k.toInt.toNat t) (hk : k'.toInt = k.toInt + 1) (h0 : 0 ≤ k.toInt) (c : ¬ Q k.toInt.toNat = true ∨ ¬ (zPop k).toInt = t) : zMuI Q k'.toInt.toNat t := fun j hj q => by
  by_cases e : j = k.toInt.toNat
  · rcases c with c | c
    · rw [e] at q; exact absurd q c
    · rw [e, (znat h0).symm]; exact c
  · exact h j (by omega) q
theorem zMu_hit {Q : Nat → Bool} {N : Nat} {s t : Int32} (O : zMuO Q N t.toInt) (I : zMuI Q s.toInt.toNat t.toInt) (q : Q s.toInt.toNat = true) (w : (zPop s).toInt = t.toInt) (h0 : 0 ≤ s.toInt) (hs : s.toInt.toNat < N) (hN : N ≤ 256) : s = zFw Q N := by
  have e : nI s.toInt.toNat = s := (znat h0).symm
  rcases zFw_p Q N hN with ⟨_, h⟩ | ⟨b, b1, b2, b3, b4⟩
  · exact absurd q (h _ hs)
  · have a := O b b1 b3
    have c := b4 _ hs q
    rw [e] at c
    have d : s.toInt.toNat = b := by
      rcases Nat.lt_or_ge b s.toInt.toNat with l | l
      · exact absurd (show (zPop (nI b)).toInt = t.toInt by omega) (I b l b3)
      · omega
    rw [b2, ← d, e]
theorem zPopM : ∀ p : Nat, p ≤ 8 → ∀ k : Nat, k < 2 ^ p → (zPop (nI k)).toInt ≤ (p : Int) := by decide +kernel
theorem zBtn {n : Nat} (h : n ≤ 8) : (zBit n).toInt.toNat = 2 ^ n := by rw [zBi2 n h]; exact Int.toNat_natCast _
theorem zBn8 {n : Nat} (h : n ≤ 8) : (zBit n).toInt.toNat ≤ 256 := by
  rw [zBtn h]; exact (show 2 ^ n ≤ 2 ^ 8 from Nat.pow_le_pow_right (by decide) h)
theorem zMu_none {Q : Nat → Bool} {p : Nat} {t : Int} (O : zMuO Q (zBit p).toInt.toNat t) (hp : p ≤ 8) (ht : (p : Int) < t) : (-1 : Int32) = zFw Q (zBit p).toInt.toNat := by
  rcases zFw_p Q _ (zBn8 hp) with ⟨e, _⟩ | ⟨b, b1, b2, b3, _⟩
  · exact e.symm
  · have a := O b b1 b3
    rw [zBtn hp] at b1
    have c := zPopM p hp b b1
    omega
def zHs9 (s : zT9) : Int32 := zHs s.2.2.2.2.2.2.2.2 s.1.toInt.toNat
def zMuW (L : zLw) (n : Int32) (s : zT9) (S : Int32) : Int32 := zBl9 (zLk L S 20 n.toInt.toNat s)
def zMuQ (L : zLw) (x n : Int32) (s : zT9) : Nat → Bool := fun k => decide ((nI k &&& (zHs9 s ^^^ -1)).toInt = 0 ∧ x.toInt ≤ (zMuW L n s (nI k)).toInt)
theorem zMuW_e {L : zLw} {n q S : Int32} {s d : zT9} (g : zR9 d (zLk L S 20 n.toInt.toNat s)) (e : q = zBl9 d) (b : s.1.toInt ≤ 8) : q = zMuW L n s S := by
  have b1 : d.1 = s.1 := g.1
  rw [e]; exact zBl9_c g (by rw [b1]; exact b)
theorem zMuQ_y {L : zLw} {x n k q : Int32} {s : zT9} (h0 : 0 ≤ k.toInt) (c1 : (k &&& (zHs9 s ^^^ -1)).toInt = 0) (e : q = zMuW L n s k) (c2 : x.toInt ≤ q.toInt) : zMuQ L x n s k.toInt.toNat = true := by
  unfold zMuQ
  rw [(znat h0).symm]
  exact decide_eq_true ⟨c1, by rw [← e]; exact c2⟩
theorem zMuQ_a {L : zLw} {x n k : Int32} {s : zT9} (h0 : 0 ≤ k.toInt) (c1 : ¬ (k &&& (zHs9 s ^^^ -1)).toInt = 0) : ¬ zMuQ L x n s k.toInt.toNat = true := by
  unfold zMuQ
  rw [(znat h0).symm]
  exact fun q => c1 (of_decide_eq_true q).1
theorem zMuQ_b {L : zLw} {x n k q : Int32} {s : zT9} (h0 : 0 ≤ k.toInt) (e : q = zMuW L n s k) (c2 : ¬ x.toInt ≤ q.toInt) : ¬ zMuQ L x n s k.toInt.toNat = true := by
  unfold zMuQ
  rw [(znat h0).symm]
  intro w
  have w2 := (of_decide_eq_true w).2
  rw [← e] at w2; exact c2 w2
def zdMust (L : zLw) (x n : Int32) (s : zT9) : Int32 × Int32 := zk2 ((1 ≤ x.toInt ∧ x.toInt ≤ 792) ∧ (0 ≤ n.toInt ∧ n.toInt ≤ 30)) True (zFw (zMuQ L x n s) (zBit s.1.toInt.toNat).toInt.toNat)
theorem zdMust_c {L : zLw} {x n : Int32} {s t : zT9} (h : zR9 s t) (k : zOk s) : zdMust L x n s = zdMust L x n t := by
  have e1 : s.1 = t.1 := h.1
  have b := k.1
  have eq : zMuQ L x n s = zMuQ L x n t := funext (fun j => by
    unfold zMuQ zMuW zHs9
    rw [zBl9_c (zLk_c (L := L) (st := nI j) (by9 := 20) (n := n.toInt.toNat) h k) k.1.2, ← e1, zHs_c h.2.2.2.2.2.2.2.2 (by omega)])
  unfold zdMust
  rw [← e1, eq]
section ZMu
variable {L : zLw} {x n q pe wo tx ch jo tr dy sd : Int32} {f : zRw} {m : Nat → Int32}
theorem zdMust_c1 (k : ¬ ((1 ≤ x.toInt ∧ x.toInt ≤ 792) ∧ (0 ≤ n.toInt ∧ n.toInt ≤ 30))) : (1, 0) = zdMust L x n (pe, wo, tx, ch, jo, tr, dy, sd, f) := zk2_1 k
theorem zdMust_c0 (k : (1 ≤ x.toInt ∧ x.toInt ≤ 792) ∧ (0 ≤ n.toInt ∧ n.toInt ≤ 30)) (e : q = zFw (zMuQ L x n (pe, wo, tx, ch, jo, tr, dy, sd, f)) (zBit pe.toInt.toNat).toInt.toNat) : (0, q) = zdMust L x n (pe, wo, tx, ch, jo, tr, dy, sd, f) := zk2_0 k trivial e
theorem zdMust_1 (k : ¬ ((1 ≤ x.toInt ∧ x.toInt ≤ 792) ∧ (0 ≤ n.toInt ∧ n.toInt ≤ 30))) : (1, 0) = zdMust L x n (zM9 m) := zk2_1 k
theorem zdMust_m (k : (1 ≤ x.toInt ∧ x.toInt ≤ 792) ∧ (0 ≤ n.toInt ∧ n.toInt ≤ 30)) (e : q = zFw (zMuQ L x n (zM9 m)) (zBit (m 3).toInt.toNat).toInt.toNat) : (0, q) = zdMust L x n (zM9 m) := zk2_0 k trivial e
end ZMu
