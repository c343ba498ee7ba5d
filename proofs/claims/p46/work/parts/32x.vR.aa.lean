/-! WHAT IS ASKED: a word passed on -/
def zT1 (f : zRw) (S : Int32) (x : Nat) : Nat → Int32 → Int32 := fun o a => if (¬ o = x ∧ ¬ ((S >>> (nI o &&& 31)) &&& 1).toInt = 0) ∧ 0 < (f 5 (8 * x + o)).toInt then a ||| zBit x else a
def zTo (f : zRw) (pe : Nat) (S : Int32) : Nat → Int32 → Int32 := fun x a => zIt (zT1 f S x) a pe
def zTr (f : zRw) (pe : Nat) (S acc : Int32) : Int32 := zIt (zTo f pe S) acc pe
def zPs (f : zRw) (pe : Nat) (S : Int32) (n : Nat) : Int32 := zIt (fun _ a => zTr f pe a a) S n
section ZT
variable {f g : zRw} {S a c : Int32} {x k : Int32} {pe : Nat}
theorem zT1_y (h0 : 0 ≤ k.toInt) (h1 : 0 ≤ x.toInt) (c1 : ¬ k.toInt = x.toInt) (c2 : ¬ ((S >>> (k &&& 31)) &&& 1).toInt = 0) (c3 : 0 < (f 5 (8 * x.toInt.toNat + k.toInt.toNat)).toInt) : a ||| zBit x.toInt.toNat = zT1 f S x.toInt.toNat k.toInt.toNat a := by
  have e : nI k.toInt.toNat = k := (znat h0).symm
  show _ = if (¬ k.toInt.toNat = x.toInt.toNat ∧ ¬ ((S >>> (nI k.toInt.toNat &&& 31)) &&& 1).toInt = 0) ∧ 0 < (f 5 (8 * x.toInt.toNat + k.toInt.toNat)).toInt then a ||| zBit x.toInt.toNat else a
  rw [e, if_pos ⟨⟨by omega, c2⟩, c3⟩]
theorem zT1_n1 (c1 : k.toInt = x.toInt) : a = zT1 f S x.toInt.toNat k.toInt.toNat a := (if_neg (fun q => q.1.1 (by omega))).symm
theorem zT1_n2 (h0 : 0 ≤ k.toInt) (c2 : ((S >>> (k &&& 31)) &&& 1).toInt = 0) : a = zT1 f S x.toInt.toNat k.toInt.toNat a := by
  have e : nI k.toInt.toNat = k := (znat h0).symm
  show a = if (¬ k.toInt.toNat = x.toInt.toNat ∧ ¬ ((S >>> (nI k.toInt.toNat &&& 31)) &&& 1).toInt = 0) ∧ 0 < (f 5 (8 * x.toInt.toNat + k.toInt.toNat)).toInt then a ||| zBit x.toInt.toNat else a
  rw [e, if_neg (fun q => q.1.2 c2)]
theorem zT1_n3 (c3 : ¬ 0 < (f 5 (8 * x.toInt.toNat + k.toInt.toNat)).toInt) : a = zT1 f S x.toInt.toNat k.toInt.toNat a := (if_neg (fun q => c3 q.2)).symm
end ZT
theorem zT1_c {f g : zRw} {S a : Int32} {x o : Nat} (h : zEq f g) (hx : x < 8) (ho : o < 8) : zT1 f S x o a = zT1 g S x o a := by
  by_cases q : o = x
  · rw [show zT1 f S x o a = a from if_neg (fun w => w.1.1 q), show zT1 g S x o a = a from if_neg (fun w => w.1.1 q)]
  · show (if (¬ o = x ∧ ¬ ((S >>> (nI o &&& 31)) &&& 1).toInt = 0) ∧ 0 < (f 5 (8 * x + o)).toInt then a ||| zBit x else a) = if (¬ o = x ∧ ¬ ((S >>> (nI o &&& 31)) &&& 1).toInt = 0) ∧ 0 < (g 5 (8 * x + o)).toInt then a ||| zBit x else a
    rw [h.2.1 x o hx ho (fun w => q w.symm)]
theorem zTr_c {f g : zRw} {pe : Nat} {S a : Int32} (h : zEq f g) (hp : pe ≤ 8) : zTr f pe S a = zTr g pe S a :=
  zIt_c (R := Eq) rfl pe (fun x u v hx e => by
    subst e
    exact zIt_c (R := Eq) rfl pe (fun o u v ho e => by subst e; exact zT1_c h (by omega) (by omega)))
theorem zPs_c {f g : zRw} {pe n : Nat} {S : Int32} (h : zEq f g) (hp : pe ≤ 8) : zPs f pe S n = zPs g pe S n :=
  zIt_c (R := Eq) rfl n (fun k u v hk e => by subst e; exact zTr_c h hp)
theorem zT1_or (f : zRw) (S : Int32) (x o : Nat) (a c : Int32) : zT1 f S x o (a ||| c) = a ||| zT1 f S x o c := by
  by_cases q : (¬ o = x ∧ ¬ ((S >>> (nI o &&& 31)) &&& 1).toInt = 0) ∧ 0 < (f 5 (8 * x + o)).toInt
  · rw [show zT1 f S x o (a ||| c) = (a ||| c) ||| zBit x from if_pos q, show zT1 f S x o c = c ||| zBit x from if_pos q, Int32.or_assoc]
  · rw [show zT1 f S x o (a ||| c) = a ||| c from if_neg q, show zT1 f S x o c = c from if_neg q]
theorem zTo_or (f : zRw) (S : Int32) (x : Nat) (a c : Int32) : ∀ n : Nat, zIt (zT1 f S x) (a ||| c) n = a ||| zIt (zT1 f S x) c n
  | 0 => rfl
  | n + 1 => by
    show zT1 f S x n (zIt (zT1 f S x) (a ||| c) n) = a ||| zT1 f S x n (zIt (zT1 f S x) c n)
    rw [zTo_or f S x a c n, zT1_or]
theorem zTr_or (f : zRw) (pe : Nat) (S a c : Int32) : ∀ n : Nat, zIt (zTo f pe S) (a ||| c) n = a ||| zIt (zTo f pe S) c n
  | 0 => rfl
  | n + 1 => by
    show zTo f pe S n (zIt (zTo f pe S) (a ||| c) n) = a ||| zTo f pe S n (zIt (zTo f pe S) c n)
    rw [zTr_or f pe S a c n]
    exact zTo_or f S n a _ pe
theorem zTr_0 (f : zRw) (pe : Nat) (S a : Int32) : zTr f pe S a = a ||| zTr f pe S 0 := by
  have h := zTr_or f pe S a 0 pe
  rw [Int32.or_zero] at h; exact h
/-- a set of some of so many -/
def zSb (pe : Nat) (S : Int32) : Prop := ∃ m : Nat, S = nI m ∧ m < 256 ∧ ∀ i, m.testBit i = true → i < pe
theorem zSb_0 (pe : Nat) : zSb pe 0 := ⟨0, rfl, by decide, fun i h => absurd h (by rw [Nat.zero_testBit]; decide)⟩
theorem zSb_or {pe : Nat} {a b : Int32} (h : zSb pe a) (k : zSb pe b) : zSb pe (a ||| b) := by
  obtain ⟨m, e, hm, hb⟩ := h
  obtain ⟨n, e2, hn, hc⟩ := k
  refine ⟨m ||| n, by rw [e, e2]; exact zor_nI m n, Nat.or_lt_two_pow (n := 8) hm hn, fun i hi => ?_⟩
  rw [Nat.testBit_or] at hi
  cases q : m.testBit i with
  | true => exact hb i q
  | false => rw [q, Bool.false_or] at hi; exact hc i hi
theorem zBitN : ∀ n, n < 8 → zBit n = nI (2 ^ n) := by decide +kernel
theorem zSb_bit {pe x : Nat} (hx : x < pe) (hp : pe ≤ 8) : zSb pe (zBit x) := by
  refine ⟨2 ^ x, zBitN x (by omega), Nat.pow_lt_pow_right (by decide) (by omega : x < 8), fun i hi => ?_⟩
  rw [Nat.testBit_two_pow] at hi
  have q : x = i := of_decide_eq_true hi
  omega
theorem zIt_p {σ : Type} {P : σ → Prop} {F : Nat → σ → σ} {s : σ} (h : P s) : ∀ n : Nat, (∀ k a, k < n → P a → P (F k a)) → P (zIt F s n)
  | 0, _ => h
  | n + 1, H => H n _ (Nat.lt_succ_self n) (zIt_p h n (fun k a hk => H k a (Nat.lt_succ_of_lt hk)))
theorem zSb_Tr {f : zRw} {pe : Nat} {S a : Int32} (hp : pe ≤ 8) (h : zSb pe a) : zSb pe (zTr f pe S a) :=
  zIt_p h pe (fun x u hx hu => zIt_p hu pe (fun o v ho hv => by
    by_cases q : (¬ o = x ∧ ¬ ((S >>> (nI o &&& 31)) &&& 1).toInt = 0) ∧ 0 < (f 5 (8 * x + o)).toInt
    · rw [show zT1 f S x o v = v ||| zBit x from if_pos q]; exact zSb_or hv (zSb_bit hx hp)
    · rw [show zT1 f S x o v = v from if_neg q]; exact hv))
theorem zSb_Ps {f : zRw} {pe : Nat} {S : Int32} (hp : pe ≤ 8) (h : zSb pe S) (n : Nat) : zSb pe (zPs f pe S n) := zIt_p h n (fun _ a _ ha => zSb_Tr hp ha)
/-- how many bits -/
def zcn (m : Nat) : Nat → Nat
  | 0 => 0
  | n + 1 => zcn m n + (if m.testBit n = true then 1 else 0)
theorem zcn_le {a b : Nat} (h : ∀ i, a.testBit i = true → b.testBit i = true) : ∀ n : Nat, zcn a n ≤ zcn b n
  | 0 => Nat.le_refl _
  | n + 1 => by
    have ih := zcn_le h n
    show zcn a n + (if a.testBit n = true then 1 else 0) ≤ zcn b n + (if b.testBit n = true then 1 else 0)
    by_cases q : a.testBit n = true
    · rw [if_pos q, if_pos (h n q)]; omega
    · rw [if_neg q]; omega
theorem zcn_lt {a b i : Nat} (h : ∀ i, a.testBit i = true → b.testBit i = true) (hb : b.testBit i = true) (ha : ¬ a.testBit i = true) : ∀ n : Nat, i < n → zcn a n < zcn b n
  | 0, q => absurd q (by omega)
  | n + 1, q => by
    show zcn a n + (if a.testBit n = true then 1 else 0) < zcn b n + (if b.testBit n = true then 1 else 0)
    by_cases e : i = n
    · have le := zcn_le h n
      rw [← e] at le
      rw [← e, if_neg ha, if_pos hb]; omega
    · have ih := zcn_lt h hb ha n (by omega)
      by_cases w : a.testBit n = true
      · rw [if_pos w, if_pos (h n w)]; omega
      · rw [if_neg w]; omega
theorem zcn_b {m pe : Nat} (h : ∀ i, m.testBit i = true → i < pe) : ∀ n : Nat, zcn m n ≤ n ∧ zcn m n ≤ pe
  | 0 => ⟨Nat.le_refl _, Nat.zero_le _⟩
  | n + 1 => by
    have ih := zcn_b h n
    show zcn m n + (if m.testBit n = true then 1 else 0) ≤ n + 1 ∧ zcn m n + (if m.testBit n = true then 1 else 0) ≤ pe
    by_cases q : m.testBit n = true
    · have l := h n q
      rw [if_pos q]; omega
    · rw [if_neg q]; omega
def zci (S : Int32) : Nat := zcn S.toInt.toNat 8
theorem zci_n {m : Nat} (h : m < 256) : zci (nI m) = zcn m 8 := by
  unfold zci
  rw [nI_toInt (by omega), Int.toNat_natCast]
theorem zci_le {pe : Nat} {S : Int32} (h : zSb pe S) : zci S ≤ pe := by
  obtain ⟨m, e, hm, hb⟩ := h
  rw [e, zci_n hm]; exact (zcn_b hb 8).2
theorem zci_bit : ∀ n, n < 8 → 1 ≤ zci (zBit n) := by decide +kernel
theorem zSb_lt {f : zRw} {pe : Nat} {a : Int32} (hp : pe ≤ 8) (h : zSb pe a) (ne : ¬ zTr f pe a a = a) : zci a < zci (zTr f pe a a) := by
  obtain ⟨m, e, hm, hb⟩ := h
  subst e
  obtain ⟨t, et, ht, hbt⟩ := zSb_Tr (f := f) (S := nI m) hp (zSb_0 pe)
  have q : zTr f pe (nI m) (nI m) = nI (m ||| t) := by
    rw [zTr_0 f pe (nI m) (nI m), et]; exact zor_nI m t
  have hlt : m ||| t < 256 := Nat.or_lt_two_pow (n := 8) hm ht
  have hne : ¬ m ||| t = m := fun w => ne (by rw [q, w])
  have hex : ∃ i, (m ||| t).testBit i = true ∧ ¬ m.testBit i = true := Classical.byContradiction (fun w => hne (Nat.eq_of_testBit_eq (fun i => by
    cases b : m.testBit i with
    | true => rw [Nat.testBit_or, b]; rfl
    | false =>
      cases b2 : (m ||| t).testBit i with
      | false => rfl
      | true => exact absurd ⟨i, b2, by rw [b]; decide⟩ w)))
  obtain ⟨i, hi1, hi2⟩ := hex
  have hi : i < pe := by
    have z := hi1
    rw [Nat.testBit_or] at z
    cases b : m.testBit i with
    | true => exact absurd b hi2
    | false => rw [b, Bool.false_or] at z; exact hbt i z
  rw [q, zci_n hm, zci_n hlt]
  exact zcn_lt (fun j hj => by rw [Nat.testBit_or, hj]; rfl) hi1 hi2 8 (by omega)
theorem zPs_gr {f : zRw} {pe : Nat} {S : Int32} (hp : pe ≤ 8) (hS : zSb pe S) (h1 : 1 ≤ zci S) : ∀ k : Nat, ¬ zPs f pe S (k + 1) = zPs f pe S k → k + 2 ≤ zci (zPs f pe S (k + 1))
  | 0, w => by
    have z := zSb_lt (f := f) hp hS w
    have e : zPs f pe S (0 + 1) = zTr f pe S S := rfl
    rw [e]; omega
  | k + 1, w => by
    have n : ¬ zPs f pe S (k + 1) = zPs f pe S k := fun q => w (by
      show zTr f pe (zPs f pe S (k + 1)) (zPs f pe S (k + 1)) = zPs f pe S (k + 1)
      rw [q]; exact q)
    have ih := zPs_gr hp hS h1 k n
    have z := zSb_lt (f := f) hp (zSb_Ps (f := f) hp hS (k + 1)) w
    have e : zPs f pe S (k + 1 + 1) = zTr f pe (zPs f pe S (k + 1)) (zPs f pe S (k + 1)) := rfl
    rw [e]; omega
theorem zPs_st {f : zRw} {pe : Nat} {S : Int32} (hp : pe ≤ 8) (h0 : 1 ≤ pe) (hS : zSb pe S) (h1 : 1 ≤ zci S) : ∀ d : Nat, zPs f pe S (pe - 1 + d) = zPs f pe S (pe - 1)
  | 0 => rfl
  | d + 1 => by
    have st : zPs f pe S (pe - 1 + 1) = zPs f pe S (pe - 1) := Classical.byContradiction (fun w => by
      have a := zPs_gr (f := f) hp hS h1 (pe - 1) w
      have b := zci_le (zSb_Ps (f := f) hp hS (pe - 1 + 1))
      omega)
    have ih := zPs_st (f := f) hp h0 hS h1 d
    show zTr f pe (zPs f pe S (pe - 1 + d)) (zPs f pe S (pe - 1 + d)) = zPs f pe S (pe - 1)
    rw [ih]; exact st
/-- what the class hears -/
def zWc (f : zRw) (pe x : Nat) (n : Nat) : Int32 := zIt (fun _ a => a ||| zTr f pe (a ||| zBit x) 0) 0 n
theorem zWc_s (f : zRw) (pe x n : Nat) : zWc f pe x (n + 1) = zWc f pe x n ||| zTr f pe (zWc f pe x n ||| zBit x) 0 := rfl
theorem zWc_P (f : zRw) (pe x : Nat) : ∀ n : Nat, zPs f pe (zBit x) n = zWc f pe x n ||| zBit x
  | 0 => (Int32.zero_or).symm
  | n + 1 => by
    have ih := zWc_P f pe x n
    show zTr f pe (zPs f pe (zBit x) n) (zPs f pe (zBit x) n) = _
    rw [zTr_0, ih, zWc_s, Int32.or_assoc, Int32.or_assoc, Int32.or_comm (zBit x)]
theorem zWc_b {f : zRw} {pe x : Nat} (hp : pe ≤ 8) (n : Nat) : zSb pe (zWc f pe x n) := zIt_p (zSb_0 pe) n (fun _ _ _ ha => zSb_or ha (zSb_Tr hp (zSb_0 pe)))
theorem zMaskN : ∀ w, w < 256 → ∀ x, x < 8 → (nI w ||| zBit x) &&& (zBit x ^^^ -1) = nI w &&& (zBit x ^^^ -1) := by decide +kernel
def zWrd (f : zRw) (pe x : Nat) : Int32 := zPs f pe (zBit x) 8 &&& (zBit x ^^^ -1)
theorem zWrd_w {f : zRw} {pe x : Nat} (hx : x < pe) (hp : pe ≤ 8) : zWc f pe x pe &&& (zBit x ^^^ -1) = zWrd f pe x := by
  have hS := zSb_bit hx hp
  have h1 := zci_bit x (by omega)
  have s1 := zPs_st (f := f) hp (by omega) hS h1 1
  have s2 := zPs_st (f := f) hp (by omega) hS h1 (8 - (pe - 1))
  rw [show pe - 1 + 1 = pe by omega] at s1
  rw [show pe - 1 + (8 - (pe - 1)) = 8 by omega] at s2
  obtain ⟨w, e, hw, _⟩ := zWc_b (f := f) (x := x) hp pe
  unfold zWrd
  rw [s2, ← s1, zWc_P, e]
  exact (zMaskN w hw x (by omega)).symm
theorem zWrd_c {f g : zRw} {pe x : Nat} (h : zEq f g) (hp : pe ≤ 8) : zWrd f pe x = zWrd g pe x := by
  unfold zWrd
  rw [zPs_c h hp]
def zoWord (x : Int32) (s : zT9) : Int32 × Int32 := zk2 (0 ≤ x.toInt ∧ x.toInt < s.1.toInt) True (zWrd s.2.2.2.2.2.2.2.2 s.1.toInt.toNat x.toInt.toNat)
theorem zoWord_c {x : Int32} {s t : zT9} (h : zR9 s t) (k : zOk s) : zoWord x s = zoWord x t := by
  have e1 : s.1 = t.1 := h.1
  have b := k.1
  unfold zoWord
  rw [← e1, zWrd_c h.2.2.2.2.2.2.2.2 (by omega)]
section ZW
variable {x v pe wo tx ch jo tr dy sd : Int32} {f : zRw} {m : Nat → Int32}
theorem zoWord_c1 (h : ¬ (0 ≤ x.toInt ∧ x.toInt < pe.toInt)) : (1, 0) = zoWord x (pe, wo, tx, ch, jo, tr, dy, sd, f) := zk2_1 h
theorem zoWord_c0 (h : 0 ≤ x.toInt ∧ x.toInt < pe.toInt) : (0, zWrd f pe.toInt.toNat x.toInt.toNat) = zoWord x (pe, wo, tx, ch, jo, tr, dy, sd, f) := zk2_0 h trivial rfl
theorem zoWord_1 (h : ¬ (0 ≤ x.toInt ∧ x.toInt < (m 3).toInt)) : (1, 0) = zoWord x (zM9 m) := zk2_1 h
theorem zoWord_m (h : 0 ≤ x.toInt ∧ x.toInt < (m 3).toInt) : (0, zPs (zV m) (m 3).toInt.toNat (zBit x.toInt.toNat) (8 : Int32).toInt.toNat &&& (zBit x.toInt.toNat ^^^ -1)) = zoWord x (zM9 m) := zk2_0 h trivial rfl
end ZW
/-! hermits -/
theorem zIt_k0 {f : zRw} {S : Int32} {x : Nat} : ∀ n : Nat, (∀ o, o < n → zT1 f S x o 0 = 0) → zIt (zT1 f S x) 0 n = 0
  | 0, _ => rfl
  | n + 1, h => by
    show zT1 f S x n (zIt (zT1 f S x) 0 n) = 0
    rw [zIt_k0 n (fun o ho => h o (by omega))]; exact h n (by omega)
/-! in so many steps -/
def zFsA (P : Nat → Bool) : Nat → Int32
  | 0 => -1
  | k + 1 => if (zFsA P k).toInt = -1 ∧ P (k + 1) = true then nI (k + 1) else zFsA P k
theorem zFsA_0 {P : Nat → Bool} {k : Int32} (hk : k.toInt = 1) : (-1 : Int32) = zFsA P (k.toInt.toNat - 1) := by rw [hk]; rfl
theorem zFsA_n {P : Nat → Bool} {k k' : Int32} (h : (-1 : Int32) = zFsA P (k.toInt.toNat - 1)) (hk : k'.toInt = k.toInt + 1) (h1 : 1 ≤ k.toInt) (p : ¬ P k.toInt.toNat = true) : (-1 : Int32) = zFsA P (k'.toInt.toNat - 1) := by
  rw [show k'.toInt.toNat - 1 = (k.toInt.toNat - 1) + 1 by omega]
  show (-1 : Int32) = if (zFsA P (k.toInt.toNat - 1)).toInt = -1 ∧ P (k.toInt.toNat - 1 + 1) = true then nI (k.toInt.toNat - 1 + 1) else zFsA P (k.toInt.toNat - 1)
  rw [show k.toInt.toNat - 1 + 1 = k.toInt.toNat by omega, if_neg (fun q => p q.2)]; exact h
theorem zFsA_up {P : Nat → Bool} {b : Int32} {k : Nat} (h : b = zFsA P k) (hb : ¬ b.toInt = -1) : ∀ d : Nat, b = zFsA P (k + d)
  | 0 => h
  | d + 1 => by
    have ih := zFsA_up h hb d
    show b = if (zFsA P (k + d)).toInt = -1 ∧ P (k + d + 1) = true then nI (k + d + 1) else zFsA P (k + d)
    rw [← ih, if_neg (fun q => hb q.1)]
theorem zFsA_hit {P : Nat → Bool} {k : Int32} (h : (-1 : Int32) = zFsA P (k.toInt.toNat - 1)) (h1 : 1 ≤ k.toInt ∧ k.toInt ≤ 7) (p : P k.toInt.toNat = true) : k = zFsA P 7 := by
  have e : k = zFsA P (k.toInt.toNat - 1 + 1) := by
    show k = if (zFsA P (k.toInt.toNat - 1)).toInt = -1 ∧ P (k.toInt.toNat - 1 + 1) = true then nI (k.toInt.toNat - 1 + 1) else zFsA P (k.toInt.toNat - 1)
    rw [← h, show k.toInt.toNat - 1 + 1 = k.toInt.toNat by omega, if_pos ⟨by decide, p⟩]; exact znat (by omega)
  have u := zFsA_up e (by omega) (7 - k.toInt.toNat)
  rw [show k.toInt.toNat - 1 + 1 + (7 - k.toInt.toNat) = 7 by omega] at u
  exact u
theorem zFsA_f {P : Nat → Bool} : ∀ n : Nat, n < 100 → (-1 : Int32) = zFsA P n → ∀ j, 1 ≤ j → j ≤ n → ¬ P j = true
  | 0, _, _, j, h1, h2 => by omega
  | n + 1, hn, h, j, h1, h2 => by
    have h' : (-1 : Int32) = if (zFsA P n).toInt = -1 ∧ P (n + 1) = true then nI (n + 1) else zFsA P n := h
    by_cases q : (zFsA P n).toInt = -1 ∧ P (n + 1) = true
    · rw [if_pos q] at h'
      have z := congrArg Int32.toInt h'
      rw [nI_toInt (by omega), show (-1 : Int32).toInt = -1 by decide] at z
      omega
    · rw [if_neg q] at h'
      intro p
      by_cases e : j = n + 1
      · rw [e] at p; exact q ⟨by rw [← h']; decide, p⟩
      · exact zFsA_f n (by omega) h' j h1 (by omega) p
theorem zFsA_out {P : Nat → Bool} {n : Nat} (h : (-1 : Int32) = zFsA P n) (e : ∀ j, n < j → ¬ P j = true) : ∀ d : Nat, (-1 : Int32) = zFsA P (n + d)
  | 0 => h
  | d + 1 => by
    have ih := zFsA_out h e d
    show (-1 : Int32) = if (zFsA P (n + d)).toInt = -1 ∧ P (n + d + 1) = true then nI (n + d + 1) else zFsA P (n + d)
    rw [if_neg (fun q => e (n + d + 1) (by omega) q.2)]; exact ih
theorem zFsA_c {P Q : Nat → Bool} (h : ∀ k, P k = Q k) : ∀ n : Nat, zFsA P n = zFsA Q n
  | 0 => rfl
  | n + 1 => by
    show (if (zFsA P n).toInt = -1 ∧ P (n + 1) = true then nI (n + 1) else zFsA P n) = if (zFsA Q n).toInt = -1 ∧ Q (n + 1) = true then nI (n + 1) else zFsA Q n
    rw [zFsA_c h n, h (n + 1)]
def zStP (f : zRw) (pe x : Nat) (o : Int32) : Nat → Bool := fun j => decide (¬ ((zPs f pe (zBit x) j >>> (o &&& 31)) &&& 1).toInt = 0)
theorem zStP_y {f : zRw} {pe x j : Nat} {o v : Int32} (e : v = zPs f pe (zBit x) j) (c : ¬ ((v >>> (o &&& 31)) &&& 1).toInt = 0) : zStP f pe x o j = true := by subst e; exact decide_eq_true c
theorem zStP_n {f : zRw} {pe x j : Nat} {o v : Int32} (e : v = zPs f pe (zBit x) j) (c : ((v >>> (o &&& 31)) &&& 1).toInt = 0) : ¬ zStP f pe x o j = true := by subst e; exact fun q => (of_decide_eq_true q) c
theorem zPs_s {f : zRw} {pe : Nat} {S v : Int32} {n k : Nat} (e : v = zPs f pe S n) (hk : k = n + 1) : v ||| zTr f pe v 0 = zPs f pe S k := by
  subst hk; subst e
  show _ = zTr f pe (zPs f pe S n) (zPs f pe S n)
  rw [zTr_0 f pe (zPs f pe S n) (zPs f pe S n)]
theorem zStO {f : zRw} {pe x : Nat} {o k : Int32} (h : (-1 : Int32) = zFsA (zStP f pe x o) (k.toInt.toNat - 1)) (hk : k.toInt.toNat = pe) (h2 : 2 ≤ pe) (hp : pe ≤ 8) (hx : x < pe) : (-1 : Int32) = zFsA (zStP f pe x o) 7 := by
  rw [hk] at h
  have hS := zSb_bit hx hp
  have h1 := zci_bit x (by omega)
  have z := zFsA_out h (fun j hj => by
    have st := zPs_st (f := f) hp (by omega) hS h1 (j - (pe - 1))
    rw [show pe - 1 + (j - (pe - 1)) = j by omega] at st
    have n := zFsA_f (pe - 1) (by omega) h (pe - 1) (by omega) (Nat.le_refl _)
    unfold zStP
    rw [st]; exact n) (8 - pe)
  rw [show pe - 1 + (8 - pe) = 7 by omega] at z
  exact z
def zoSteps (x o : Int32) (s : zT9) : Int32 × Int32 := zk2 ((0 ≤ x.toInt ∧ x.toInt < s.1.toInt) ∧ (0 ≤ o.toInt ∧ o.toInt < s.1.toInt)) (¬ x.toInt = o.toInt) (zFsA (zStP s.2.2.2.2.2.2.2.2 s.1.toInt.toNat x.toInt.toNat o) 7)
theorem zoSteps_c {x o : Int32} {s t : zT9} (h : zR9 s t) (k : zOk s) : zoSteps x o s = zoSteps x o t := by
  have e1 : s.1 = t.1 := h.1
  have b := k.1
  unfold zoSteps
  rw [← e1, zFsA_c (P := zStP s.2.2.2.2.2.2.2.2 s.1.toInt.toNat x.toInt.toNat o) (Q := zStP t.2.2.2.2.2.2.2.2 s.1.toInt.toNat x.toInt.toNat o) (fun j => by unfold zStP; rw [zPs_c h.2.2.2.2.2.2.2.2 (by omega)]) 7]
section ZX
variable {x o v pe wo tx ch jo tr dy sd : Int32} {f : zRw} {m : Nat → Int32}
theorem zoSteps_c1 (h : ¬ ((0 ≤ x.toInt ∧ x.toInt < pe.toInt) ∧ (0 ≤ o.toInt ∧ o.toInt < pe.toInt))) : (1, 0) = zoSteps x o (pe, wo, tx, ch, jo, tr, dy, sd, f) := zk2_1 h
theorem zoSteps_c2 (h : (0 ≤ x.toInt ∧ x.toInt < pe.toInt) ∧ (0 ≤ o.toInt ∧ o.toInt < pe.toInt)) (k : x.toInt = o.toInt) : (2, 0) = zoSteps x o (pe, wo, tx, ch, jo, tr, dy, sd, f) := zk2_2 h (fun q => q k)
theorem zoSteps_c0 (h : (0 ≤ x.toInt ∧ x.toInt < pe.toInt) ∧ (0 ≤ o.toInt ∧ o.toInt < pe.toInt)) (k : ¬ x.toInt = o.toInt) (e : v = zFsA (zStP f pe.toInt.toNat x.toInt.toNat o) 7) : (0, v) = zoSteps x o (pe, wo, tx, ch, jo, tr, dy, sd, f) := zk2_0 h k e
theorem zoSteps_m1 (h : ¬ ((0 ≤ x.toInt ∧ x.toInt < (m 3).toInt) ∧ (0 ≤ o.toInt ∧ o.toInt < (m 3).toInt))) : (1, 0) = zoSteps x o (zM9 m) := zk2_1 h
theorem zoSteps_m2 (h : (0 ≤ x.toInt ∧ x.toInt < (m 3).toInt) ∧ (0 ≤ o.toInt ∧ o.toInt < (m 3).toInt)) (k : x.toInt = o.toInt) : (2, 0) = zoSteps x o (zM9 m) := zk2_2 h (fun q => q k)
theorem zoSteps_m0 (h : (0 ≤ x.toInt ∧ x.toInt < (m 3).toInt) ∧ (0 ≤ o.toInt ∧ o.toInt < (m 3).toInt)) (k : ¬ x.toInt = o.toInt) (e : v = zFsA (zStP (zV m) (m 3).toInt.toNat x.toInt.toNat o) 7) : (0, v) = zoSteps x o (zM9 m) := zk2_0 h k e
end ZX
theorem zFsA_8 {P : Nat → Bool} {k : Int32} (h : (-1 : Int32) = zFsA P (k.toInt.toNat - 1)) (e : k.toInt = 8) : (-1 : Int32) = zFsA P 7 := by rw [e] at h; exact h
/-! hermits: nobody trusts them, they trust nobody -/
def zHas (pe y : Nat) (S : Int32) : Prop := ∃ s : Int32, zSb pe s ∧ S = s ||| zBit y
theorem zHas_T1 {f : zRw} {S a : Int32} {pe x o y : Nat} (hx : x < pe) (hp : pe ≤ 8) (h : zHas pe y a) : zHas pe y (zT1 f S x o a) := by
  obtain ⟨s, hs, e⟩ := h
  by_cases q : (¬ o = x ∧ ¬ ((S >>> (nI o &&& 31)) &&& 1).toInt = 0) ∧ 0 < (f 5 (8 * x + o)).toInt
  · rw [show zT1 f S x o a = a ||| zBit x from if_pos q]
    exact ⟨s ||| zBit x, zSb_or hs (zSb_bit hx hp), by rw [e, Int32.or_assoc, Int32.or_assoc, Int32.or_comm (zBit y)]⟩
  · rw [show zT1 f S x o a = a from if_neg q]; exact ⟨s, hs, e⟩
theorem zIt_hit {σ : Type} {P0 P : σ → Prop} {F : Nat → σ → σ} {s : σ} {j : Nat} (h0 : P0 s) (hj : ∀ a, P0 a → P (F j a)) : ∀ n : Nat, (∀ k a, k < n → P0 a → P0 (F k a)) → (∀ k a, k < n → P a → P (F k a)) → j < n → P (zIt F s n)
  | 0, _, _, q => absurd q (by omega)
  | n + 1, hp, hs, q => by
    show P (F n (zIt F s n))
    by_cases e : j = n
    · have z := hj _ (zIt_p h0 j (fun k a hk => hp k a (by omega)))
      rw [e] at z; exact z
    · exact hs n _ (by omega) (zIt_hit h0 hj n (fun k a hk => hp k a (by omega)) (fun k a hk => hs k a (by omega)) (by omega))
theorem zBtN : ∀ x, x < 8 → ∀ o, o < 8 → (((zBit x >>> (nI o &&& 31)) &&& 1).toInt = 0 ↔ ¬ o = x) := by decide +kernel
theorem zHasN : ∀ m, m < 256 → ∀ y, y < 8 → ¬ (nI m ||| zBit y).toInt = 0 := by decide +kernel
theorem zHas_0 {pe y : Nat} {S : Int32} (hy : y < 8) (h : zHas pe y S) : ¬ S.toInt = 0 := by
  obtain ⟨s, ⟨m, em, hm, _⟩, e⟩ := h
  rw [e, em]; exact zHasN m hm y hy
theorem zSb_T1 {f : zRw} {S a : Int32} {pe x o : Nat} (hx : x < pe) (hp : pe ≤ 8) (h : zSb pe a) : zSb pe (zT1 f S x o a) := by
  by_cases q : (¬ o = x ∧ ¬ ((S >>> (nI o &&& 31)) &&& 1).toInt = 0) ∧ 0 < (f 5 (8 * x + o)).toInt
  · rw [show zT1 f S x o a = a ||| zBit x from if_pos q]; exact zSb_or h (zSb_bit hx hp)
  · rw [show zT1 f S x o a = a from if_neg q]; exact h
theorem zTr_hit {f : zRw} {pe x y : Nat} (hp : pe ≤ 8) (hy : y < pe) (hx : x < pe) (ne : ¬ x = y) (c : 0 < (f 5 (8 * y + x)).toInt) : ¬ (zTr f pe (zBit x) 0).toInt = 0 := by
  have b : ¬ ((zBit x >>> (nI x &&& 31)) &&& 1).toInt = 0 := fun q => (zBtN x (by omega) x (by omega)).mp q rfl
  have z : zHas pe y (zTr f pe (zBit x) 0) := zIt_hit (P0 := zSb pe) (P := zHas pe y) (j := y) (zSb_0 pe)
    (fun a ha => zIt_hit (P0 := zSb pe) (P := zHas pe y) (j := x) ha (fun v hv => ⟨v, hv, if_pos ⟨⟨ne, b⟩, c⟩⟩) pe (fun k v _ hv => zSb_T1 hy hp hv) (fun k v _ hv => zHas_T1 hy hp hv) hx)
    pe (fun k a hk ha => zIt_p ha pe (fun o v _ hv => zSb_T1 hk hp hv)) (fun k a hk ha => zIt_p ha pe (fun o v _ hv => zHas_T1 hk hp hv)) hy
  exact zHas_0 (by omega) z
theorem zTr_miss {f : zRw} {pe x : Nat} (hp : pe ≤ 8) (hx : x < 8) (h : ∀ y, y < pe → ¬ y = x → ¬ 0 < (f 5 (8 * y + x)).toInt) : zTr f pe (zBit x) 0 = 0 :=
  zIt_p (P := fun v => v = 0) rfl pe (fun y a hy ha => zIt_p (P := fun v => v = 0) ha pe (fun o v ho hv => by
    have hv' : v = 0 := hv
    show zT1 f (zBit x) y o v = 0
    rw [hv']
    by_cases q : o = x
    · refine if_neg (fun w => h y hy (fun e => w.1.1 (by omega)) ?_)
      have w2 := w.2
      rw [q] at w2; exact w2
    · exact if_neg (fun w => w.1.2 ((zBtN x hx o (by omega)).mpr q))))
def zHeQ (f : zRw) (x : Nat) (k : Nat) : Prop := ∀ o, o < k → ¬ o = x → (f 5 (8 * o + x)).toInt = 0
theorem zHeQ_i {f : zRw} {pe x : Nat} (hz : zRg f) (hp : pe ≤ 8) (hx : x < pe) : zHeQ f x pe ↔ (zTr f pe (zBit x) 0).toInt = 0 := by
  constructor
  · intro h
    rw [zTr_miss hp (by omega) (fun y hy n q => by have z := h y hy n; omega)]; decide
  · intro h o ho n
    have r := hz.2 o x (by omega) (by omega) n
    by_cases c : 0 < (f 5 (8 * o + x)).toInt
    · exact absurd h (zTr_hit hp ho hx (fun e => n e.symm) c)
    · omega
def zHeG (f : zRw) (pe : Nat) : Nat → Int32 := fun x => if (zTie f pe x).toInt = 0 ∧ (zTr f pe (zBit x) 0).toInt = 0 then zBit x else 0
def zHe (f : zRw) (pe : Nat) : Int32 := zOf (zHeG f pe) pe
def zHe9 (s : zT9) : Int32 := zHe s.2.2.2.2.2.2.2.2 s.1.toInt.toNat
theorem zHe9_c {s t : zT9} (h : zR9 s t) (k : zOk s) : zHe9 s = zHe9 t := by
  have e1 : s.1 = t.1 := h.1
  have b := k.1
  unfold zHe9 zHe
  rw [← e1]
  refine zFo_c s.1.toInt.toNat (fun x hx => ?_)
  unfold zHeG
  rw [zTie_c h.2.2.2.2.2.2.2.2 (by omega) (by omega), zTr_c h.2.2.2.2.2.2.2.2 (by omega)]
def zHeA (f : zRw) (pe x : Nat) (a k : Int32) : Prop := (a = 1 ∧ (zTie f pe x).toInt = 0 ∧ zHeQ f x k.toInt.toNat) ∨ (a = 0 ∧ ¬ ((zTie f pe x).toInt = 0 ∧ zHeQ f x pe))
theorem zHeA_y {f : zRw} {pe x : Nat} {k : Int32} (h : (zTie f pe x).toInt = 0) (hk : k.toInt = 0) : zHeA f pe x 1 k := Or.inl ⟨rfl, h, fun o ho => absurd ho (by omega)⟩
theorem zHeA_n {f : zRw} {pe x : Nat} {k : Int32} (h : ¬ (zTie f pe x).toInt = 0) : zHeA f pe x 0 k := Or.inr ⟨rfl, fun q => h q.1⟩
theorem zHeA_s {f : zRw} {pe x : Nat} {a k k' : Int32} (I : zHeA f pe x a k) (ha : ¬ a.toInt = 0) (hk : k'.toInt = k.toInt + 1) (h0 : 0 ≤ k.toInt) (c : k.toInt.toNat = x ∨ (f 5 (8 * k.toInt.toNat + x)).toInt = 0) : zHeA f pe x 1 k' := by
  rcases I with ⟨_, h, q⟩ | ⟨e, _⟩
  · refine Or.inl ⟨rfl, h, fun o ho n => ?_⟩
    by_cases w : o = k.toInt.toNat
    · rcases c with c | c
      · exact absurd (w.trans c) n
      · rw [w]; exact c
    · exact q o (by omega) n
  · rw [e] at ha; exact absurd (by decide) ha
theorem zHeA_f {f : zRw} {pe x : Nat} {k k' : Int32} (hl : k.toInt.toNat < pe) (c : ¬ k.toInt.toNat = x) (c2 : ¬ (f 5 (8 * k.toInt.toNat + x)).toInt = 0) : zHeA f pe x 0 k' := Or.inr ⟨rfl, fun q => c2 (q.2 _ hl c)⟩
theorem zHeA_1 {f : zRw} {pe x : Nat} {a k acc : Int32} (hz : zRg f) (hp : pe ≤ 8) (hx : x < pe) (I : zHeA f pe x a k) (ha : ¬ a.toInt = 0) (e : k.toInt.toNat = pe) : acc ||| zBit x = acc ||| zHeG f pe x := by
  rcases I with ⟨_, h, q⟩ | ⟨w, _⟩
  · rw [e] at q
    rw [show zHeG f pe x = zBit x from if_pos ⟨h, (zHeQ_i hz hp hx).mp q⟩]
  · rw [w] at ha; exact absurd (by decide) ha
theorem zHeA_0 {f : zRw} {pe x : Nat} {a k acc : Int32} (hz : zRg f) (hp : pe ≤ 8) (hx : x < pe) (I : zHeA f pe x a k) (ha : a.toInt = 0) : acc ||| 0 = acc ||| zHeG f pe x := by
  rcases I with ⟨w, _⟩ | ⟨_, h⟩
  · rw [w] at ha; exact absurd ha (by decide)
  · rw [show zHeG f pe x = 0 from if_neg (fun q => h ⟨q.1, (zHeQ_i hz hp hx).mpr q.2⟩)]
theorem zHe_y {f : zRw} {pe : Nat} {acc x : Int32} (h : (zTie f pe x.toInt.toNat).toInt = 0) (k : (zTr f pe (zBit x.toInt.toNat) 0).toInt = 0) : acc ||| zBit x.toInt.toNat = acc ||| zHeG f pe x.toInt.toNat := by
  rw [show zHeG f pe x.toInt.toNat = zBit x.toInt.toNat from if_pos ⟨h, k⟩]
theorem zHe_n {f : zRw} {pe : Nat} {acc x : Int32} (h : ¬ ((zTie f pe x.toInt.toNat).toInt = 0 ∧ (zTr f pe (zBit x.toInt.toNat) 0).toInt = 0)) : acc = acc ||| zHeG f pe x.toInt.toNat := by
  rw [show zHeG f pe x.toInt.toNat = 0 from if_neg h]; exact Int32.or_zero.symm
theorem zHe_x {f : zRw} {acc k n : Int32} (h : acc = zOf (zHeG f n.toInt.toNat) k.toInt.toNat) (e : k.toInt = n.toInt) : acc = zHe f n.toInt.toNat := by rw [e] at h; exact h
