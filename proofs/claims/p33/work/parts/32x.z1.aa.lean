/-! WHO LIES -/
def zbt (s a : Int32) : Int32 := (s >>> (a &&& 31)) &&& 1
/-- one says of another that it's honest -/
def zAns (s a b : Int32) : Prop := zbt s a = zbt s b
theorem zAns_y {x y s a b : Int32} (hx : x = zbt s a) (hy : y = zbt s b) (c : x.toInt = y.toInt) : zAns s a b := by subst hx; subst hy; exact Int32.toInt_inj.mp c
theorem zAns_n {x y s a b : Int32} (hx : x = zbt s a) (hy : y = zbt s b) (c : ¬ x.toInt = y.toInt) : ¬ zAns s a b := by subst hx; subst hy; exact fun h => c (congrArg Int32.toInt h)
def zFt (f : Nat → Int32) (s : Int32) (j : Nat) : Prop := zAns s (f (3 * j)) (f (3 * j + 1)) ↔ (f (3 * j + 2)).toInt = 1
/-- the set s of the honest fits all that is told -/
def zFs (f : Nat → Int32) (n : Int) (s : Int32) : Prop := ∀ j : Nat, 3 * (j : Int) + 2 < n → zFt f s j
def zFi (f : Nat → Int32) (s : Int32) (k : Int) : Prop := k % 3 = 0 ∧ 0 ≤ k ∧ ∀ j : Nat, 3 * (j : Int) < k → zFt f s j
theorem zFi_0 {f : Nat → Int32} {s : Int32} {k : Int} (e : k = 0) : zFi f s k := ⟨by omega, by omega, fun j h => absurd h (by omega)⟩
theorem zFt_x {f : Nat → Int32} {s x0 x1 x2 : Int32} {k : Int} (hk : k % 3 = 0) (h0 : 0 ≤ k) (e0 : x0.toInt = k) (e1 : x1.toInt = k + 1) (e2 : x2.toInt = k + 2) : zFt f s (k / 3).toNat ↔ (zAns s (f x0.toNatClampNeg) (f x1.toNatClampNeg) ↔ (f x2.toNatClampNeg).toInt = 1) := by
  rw [zcl, zcl, zcl, show x0.toInt.toNat = 3 * (k / 3).toNat by omega, show x1.toInt.toNat = 3 * (k / 3).toNat + 1 by omega, show x2.toInt.toNat = 3 * (k / 3).toNat + 2 by omega]
  exact Iff.rfl
theorem zFi_s {f : Nat → Int32} {s x0 x1 x2 : Int32} {k k' : Int} (h : zFi f s k) (e0 : x0.toInt = k) (e1 : x1.toInt = k + 1) (e2 : x2.toInt = k + 2) (z : zAns s (f x0.toNatClampNeg) (f x1.toNatClampNeg) ↔ (f x2.toNatClampNeg).toInt = 1) (e : k' = k + 3) : zFi f s k' := by
  obtain ⟨h1, h2, h3⟩ := h
  refine ⟨by omega, by omega, fun j hj => ?_⟩
  by_cases q : 3 * (j : Int) < k
  · exact h3 j q
  · rw [show j = (k / 3).toNat by omega]
    exact (zFt_x h1 h2 e0 e1 e2).mpr z
theorem zFi_x {f : Nat → Int32} {s x0 x1 x2 : Int32} {k n : Int} (h : zFi f s k) (hn : k + 2 < n) (e0 : x0.toInt = k) (e1 : x1.toInt = k + 1) (e2 : x2.toInt = k + 2) (z : ¬ (zAns s (f x0.toNatClampNeg) (f x1.toNatClampNeg) ↔ (f x2.toNatClampNeg).toInt = 1)) : ¬ zFs f n s := fun o =>
  z ((zFt_x h.1 h.2.1 e0 e1 e2).mp (o _ (by have := h.1; have := h.2.1; omega)))
theorem zFi_e {f : Nat → Int32} {s : Int32} {k n : Int} (h : zFi f s k) (hn : n % 3 = 0) (e : n ≤ k + 2) : zFs f n s := fun j hj => h.2.2 j (by have := h.1; omega)
theorem ziff1 {p q : Prop} (a : p) (b : q) : (p ↔ q) := ⟨fun _ => b, fun _ => a⟩
theorem ziff0 {p q : Prop} (a : ¬ p) (b : ¬ q) : (p ↔ q) := ⟨fun h => absurd h a, fun h => absurd h b⟩
theorem zniff1 {p q : Prop} (a : p) (b : ¬ q) : ¬ (p ↔ q) := fun h => b (h.mp a)
theorem zniff0 {p q : Prop} (a : ¬ p) (b : q) : ¬ (p ↔ q) := fun h => a (h.mpr b)
theorem zshN : ∀ n : Nat, n < 9 → ((1 : Int32) <<< (nI n &&& 31)).toInt = ((2 ^ n : Nat) : Int) ∧ 1 ≤ ((1 : Int32) <<< (nI n &&& 31)).toInt ∧ ((1 : Int32) <<< (nI n &&& 31)).toInt ≤ 256 := by decide +kernel
theorem zshE {p : Int32} (h : 0 ≤ p.toInt ∧ p.toInt ≤ 8) : ((1 : Int32) <<< (p &&& 31)).toInt = ((2 ^ p.toInt.toNat : Nat) : Int) ∧ 1 ≤ ((1 : Int32) <<< (p &&& 31)).toInt ∧ ((1 : Int32) <<< (p &&& 31)).toInt ≤ 256 := by
  have e := znat h.1
  have := zshN p.toInt.toNat (by omega)
  rw [← e] at this; exact this
/-- how many of a row are not 0 -/
def zCn (b : Nat → Int32) : Nat → Int
  | 0 => 0
  | k + 1 => zCn b k + (if (b k).toInt = 0 then 0 else 1)
theorem zCn_c {b b' : Nat → Int32} : ∀ n : Nat, (∀ i, i < n → b i = b' i) → zCn b n = zCn b' n
  | 0, _ => rfl
  | n + 1, h => by
    show zCn b n + (if (b n).toInt = 0 then 0 else 1) = zCn b' n + (if (b' n).toInt = 0 then 0 else 1)
    rw [zCn_c n (fun i hi => h i (by omega)), h n (by omega)]
theorem zCn_b (b : Nat → Int32) : ∀ n : Nat, 0 ≤ zCn b n ∧ zCn b n ≤ n
  | 0 => ⟨Int.le_refl _, Int.le_refl _⟩
  | n + 1 => by
    have h := zCn_b b n
    show 0 ≤ zCn b n + (if (b n).toInt = 0 then 0 else 1) ∧ zCn b n + (if (b n).toInt = 0 then 0 else 1) ≤ ((n + 1 : Nat) : Int)
    split <;> omega
/-- the row of the sets that fit, as far as k -/
def zHr (f : Nat → Int32) (n : Int) (b : Nat → Int32) (k c : Int) : Prop := 0 ≤ k ∧ (∀ j : Nat, (j : Int) < k → (b j = 1 ∧ zFs f n (nI j)) ∨ (b j = 0 ∧ ¬ zFs f n (nI j))) ∧ c = zCn b k.toNat
theorem zHr_0 {f : Nat → Int32} {n : Int} {b : Nat → Int32} {k c : Int} (e : k = 0) (ec : c = 0) : zHr f n b k c := by subst e; subst ec; exact ⟨Int.le_refl _, fun j h => absurd h (by omega), rfl⟩
theorem zHr_s {f : Nat → Int32} {n : Int} {b : Nat → Int32} {k k' c c' : Int} {x v : Int32} (h : zHr f n b k c) (hx : x.toInt = k) (hv : (v = 1 ∧ zFs f n x ∧ c' = c + 1) ∨ (v = 0 ∧ ¬ zFs f n x ∧ c' = c)) (e : k' = k + 1) : zHr f n (upd b x.toNatClampNeg v) k' c' := by
  obtain ⟨h0, h1, h2⟩ := h
  have ex : x.toNatClampNeg = k.toNat := by rw [zcl, hx]
  have en : x = nI k.toNat := by
    have := znat (x := x) (by omega)
    rw [hx] at this; exact this
  rw [ex]
  refine ⟨by omega, fun j hj => ?_, ?_⟩
  · show (upd b k.toNat v j = 1 ∧ _) ∨ (upd b k.toNat v j = 0 ∧ _)
    unfold upd
    by_cases q : j = k.toNat
    · rw [if_pos q, q, ← en]
      rcases hv with ⟨a, z, _⟩ | ⟨a, z, _⟩
      · exact Or.inl ⟨a, z⟩
      · exact Or.inr ⟨a, z⟩
    · rw [if_neg q]; exact h1 j (by omega)
  · rw [show k'.toNat = k.toNat + 1 by omega]
    show c' = zCn (upd b k.toNat v) k.toNat + (if (upd b k.toNat v k.toNat).toInt = 0 then 0 else 1)
    rw [zCn_c (b := upd b k.toNat v) (b' := b) k.toNat (fun i hi => by unfold upd; rw [if_neg (by omega)]), ← h2]
    have eu : upd b k.toNat v k.toNat = v := by unfold upd; rw [if_pos rfl]
    rw [eu]
    rcases hv with ⟨a, _, z⟩ | ⟨a, _, z⟩
    · rw [a, z, if_neg (by decide)]
    · rw [a, z, if_pos (by decide)]; omega
theorem zHr_e {f : Nat → Int32} {n : Int} {b : Nat → Int32} {k k' c : Int} (h : zHr f n b k c) (e : k' = k) : zHr f n b k' c := by subst e; exact h
/-- what is told is such -/
def zSaid (f : Nat → Int32) (n pe : Int) : Prop := n ≤ 36 ∧ n % 3 = 0 ∧ ∀ j : Nat, 3 * (j : Int) + 2 < n → (f (3 * j)).toInt < pe ∧ (f (3 * j + 1)).toInt < pe ∧ ¬ (f (3 * j)).toInt = (f (3 * j + 1)).toInt ∧ (f (3 * j + 2)).toInt ≤ 1
def zSi (f : Nat → Int32) (pe k : Int) : Prop := k % 3 = 0 ∧ 0 ≤ k ∧ ∀ j : Nat, 3 * (j : Int) < k → (f (3 * j)).toInt < pe ∧ (f (3 * j + 1)).toInt < pe ∧ ¬ (f (3 * j)).toInt = (f (3 * j + 1)).toInt ∧ (f (3 * j + 2)).toInt ≤ 1
theorem zSi_0 {f : Nat → Int32} {pe k : Int} (e : k = 0) : zSi f pe k := ⟨by omega, by omega, fun j h => absurd h (by omega)⟩
theorem zSi_s {f : Nat → Int32} {pe k k' : Int} {x0 x1 x2 : Int32} (h : zSi f pe k) (e0 : x0.toInt = k) (e1 : x1.toInt = k + 1) (e2 : x2.toInt = k + 2) (z : (f x0.toNatClampNeg).toInt < pe ∧ (f x1.toNatClampNeg).toInt < pe ∧ ¬ (f x0.toNatClampNeg).toInt = (f x1.toNatClampNeg).toInt ∧ (f x2.toNatClampNeg).toInt ≤ 1) (e : k' = k + 3) : zSi f pe k' := by
  obtain ⟨h1, h2, h3⟩ := h
  refine ⟨by omega, by omega, fun j hj => ?_⟩
  by_cases q : 3 * (j : Int) < k
  · exact h3 j q
  · rw [zcl, zcl, zcl, show x0.toInt.toNat = 3 * j by omega, show x1.toInt.toNat = 3 * j + 1 by omega, show x2.toInt.toNat = 3 * j + 2 by omega] at z
    exact z
theorem zSi_x {f : Nat → Int32} {pe k n : Int} {x0 x1 x2 : Int32} (h : zSi f pe k) (hn : k + 2 < n) (e0 : x0.toInt = k) (e1 : x1.toInt = k + 1) (e2 : x2.toInt = k + 2) (z : ¬ ((f x0.toNatClampNeg).toInt < pe ∧ (f x1.toNatClampNeg).toInt < pe ∧ ¬ (f x0.toNatClampNeg).toInt = (f x1.toNatClampNeg).toInt ∧ (f x2.toNatClampNeg).toInt ≤ 1)) : ¬ zSaid f n pe := fun o => by
  obtain ⟨h1, h2, h3⟩ := h
  have := o.2.2 (k / 3).toNat (by omega)
  rw [zcl, zcl, zcl, show x0.toInt.toNat = 3 * (k / 3).toNat by omega, show x1.toInt.toNat = 3 * (k / 3).toNat + 1 by omega, show x2.toInt.toNat = 3 * (k / 3).toNat + 2 by omega] at z
  exact z this
theorem zr3mN : ∀ n : Nat, n < 401 → (nI n - nI n / 3 * 3).toInt = (n : Int) % 3 := by decide +kernel
theorem zr3m {x : Int32} (h : 0 ≤ x.toInt ∧ x.toInt ≤ 400) : (x - x / 3 * 3).toInt = x.toInt % 3 := by
  have e := znat h.1
  have := zr3mN x.toInt.toNat (by omega)
  rw [← e] at this; omega
theorem zSi_e {f : Nat → Int32} {pe k n : Int} (h : zSi f pe k) (h36 : n ≤ 36) (hn : n % 3 = 0) (e : n ≤ k + 2) : zSaid f n pe := ⟨h36, hn, fun j hj => h.2.2 j (by have := h.1; omega)⟩
/-- what all sets of a row have -/
def zAd (b : Nat → Int32) (i : Int32) : Nat → Int32
  | 0 => i
  | k + 1 => if (b k).toInt = 0 then zAd b i k else zAd b i k &&& nI k
theorem zAd_c {b b' : Nat → Int32} {i : Int32} : ∀ n : Nat, (∀ j, j < n → b j = b' j) → zAd b i n = zAd b' i n
  | 0, _ => rfl
  | n + 1, h => by
    show (if (b n).toInt = 0 then zAd b i n else zAd b i n &&& nI n) = (if (b' n).toInt = 0 then zAd b' i n else zAd b' i n &&& nI n)
    rw [zAd_c n (fun j hj => h j (by omega)), h n (by omega)]
theorem zAd_s0 {b : Nat → Int32} {i x y : Int32} {k k' : Int} (h : y = zAd b i k.toNat) (hx : x.toInt = k) (h0 : 0 ≤ k) (hb : (b x.toNatClampNeg).toInt = 0) (e : k' = k + 1) : y = zAd b i k'.toNat := by
  rw [zcl, hx] at hb
  rw [show k'.toNat = k.toNat + 1 by omega]
  show y = if (b k.toNat).toInt = 0 then zAd b i k.toNat else zAd b i k.toNat &&& nI k.toNat
  rw [if_pos hb]; exact h
theorem zAd_s1 {b : Nat → Int32} {i x y z : Int32} {k k' : Int} (h : y = zAd b i k.toNat) (hx : x.toInt = k) (h0 : 0 ≤ k) (hb : ¬ (b x.toNatClampNeg).toInt = 0) (hz : z = y &&& x) (e : k' = k + 1) : z = zAd b i k'.toNat := by
  have en : x = nI k.toNat := by
    have := znat (x := x) (by omega)
    rw [hx] at this; exact this
  rw [zcl, hx] at hb
  rw [show k'.toNat = k.toNat + 1 by omega]
  show z = if (b k.toNat).toInt = 0 then zAd b i k.toNat else zAd b i k.toNat &&& nI k.toNat
  rw [if_neg hb, hz, h, ← en]
theorem zAd_e {b : Nat → Int32} {i y : Int32} {k : Int} {n : Nat} (h : y = zAd b i k.toNat) (e : k.toNat = n) : y = zAd b i n := by subst e; exact h
/-- honest in all, of so many sets that fit -/
def zSure (b : Nat → Int32) (c : Int) (p : Int32) : Int32 := zAd b (if c = 0 then 0 else ((1 : Int32) <<< (p &&& 31)) - 1) (2 ^ p.toInt.toNat)
/-- what is asked: how many sets fit, or who is honest in all of these -/
def zLia (f : Nat → Int32) (n pe su : Int) (q : Int32) : Prop := ∃ (b : Nat → Int32) (c : Int) (p : Int32), p.toInt = pe ∧ zHr f n b ((2 ^ p.toInt.toNat : Nat) : Int) c ∧ ((su = 0 ∧ q.toInt = c) ∨ (¬ su = 0 ∧ q = zSure b c p))
theorem zHr_u {f : Nat → Int32} {n k c c' : Int} {b b' : Nat → Int32} (h : zHr f n b k c) (h' : zHr f n b' k c') : (∀ j : Nat, j < k.toNat → b j = b' j) ∧ c = c' := by
  have e : ∀ j : Nat, j < k.toNat → b j = b' j := fun j hj => by
    have := h.1
    rcases h.2.1 j (by omega) with ⟨a, z⟩ | ⟨a, z⟩
    · rcases h'.2.1 j (by omega) with ⟨a', _⟩ | ⟨_, z'⟩
      · rw [a, a']
      · exact absurd z z'
    · rcases h'.2.1 j (by omega) with ⟨_, z'⟩ | ⟨a', _⟩
      · exact absurd z' z
      · rw [a, a']
  exact ⟨e, by rw [h.2.2, h'.2.2, zCn_c _ e]⟩
theorem zLia_det {f : Nat → Int32} {n pe su : Int} {q q' : Int32} (h : zLia f n pe su q) (h' : zLia f n pe su q') : q = q' := by
  obtain ⟨b, c, p, e, hr, hq⟩ := h
  obtain ⟨b', c', p', e', hr', hq'⟩ := h'
  have ep : p = p' := Int32.toInt_inj.mp (e.trans e'.symm)
  subst ep
  obtain ⟨eb, ec⟩ := zHr_u hr hr'
  rcases hq with ⟨s, hq⟩ | ⟨s, hq⟩
  · rcases hq' with ⟨_, hq'⟩ | ⟨s', _⟩
    · exact Int32.toInt_inj.mp (by omega)
    · exact absurd s s'
  · rcases hq' with ⟨s', _⟩ | ⟨_, hq'⟩
    · exact absurd s' s
    · rw [hq, hq', ec]
      exact zAd_c _ (fun j hj => eb j (by omega))
set_option maxRecDepth 100000 in
set_option maxHeartbeats 4000000 in
theorem c_r_answersF (l : Launch) (g : zG) (ro : Nat) (rw : Nat) (ri : Int32) (rt : Int32) (rb : Nat → Int32) (st0 : Int32) (x1 : Int32) (x2 : Int32)  : zM' g l yX5_answers (Cond.code yX5_answers cX5_answers 4 (some .boolean) :: zB) ({ frames := 0, cells := 0, slots := 0, locals := 0 } : Room) [.ref ro, .int st0, .int x1, .int x2] [bRi g ro rw ri rt rb] (fun (q : Int32) => some (.int q)) (fun (q : Int32) => (q = 1 ∧ zAns st0 x1 x2 ∨ q = 0 ∧ ¬ zAns st0 x1 x2)) (fun (q : Int32) => [bRi g ro rw ri rt rb]) := by
  refine zM'.of (cc := cX5_answers) (maxL := 4) (rt := (some .boolean)) (by decide) rfl (Nat.le_of_ble_eq_true rfl) ?_
  intro p e s m args below meth c A ls St hr hlocks hin hK hT hA hP hD hS hl
  obtain ⟨hx, hb, hml, hown, hts⟩ := id St
  have hl : lv_has ls 4 [(0, .ref ro), (1, .int st0), (2, .int x1), (3, .int x2)] := hl
  refine lv_iload_n hx hb dX5_answers_0 rfl (lv_at hl 1 rfl) ?_
  refine lv_iload_n hx hb dX5_answers_1 rfl (lv_at hl 2 rfl) ?_
  refine lv_ishr hx hb dX5_answers_2 ?_
  refine lv_iconst (v := 1) hx hb dX5_answers_3 (by decide) ?_
  refine lv_iand hx hb dX5_answers_4 ?_
  refine zgp2 (P := fun r9 : Int32 => r9 = zbt st0 x1) rfl (fun x_1 hx_1 => ?_)
  refine lv_iload_n hx hb dX5_answers_5 rfl (lv_at hl 1 rfl) ?_
  refine lv_iload_n hx hb dX5_answers_6 rfl (lv_at hl 3 rfl) ?_
  refine lv_ishr hx hb dX5_answers_7 ?_
  refine lv_iconst (v := 1) hx hb dX5_answers_8 (by decide) ?_
  refine lv_iand hx hb dX5_answers_9 ?_
  refine zgp2 (P := fun r9 : Int32 => r9 = zbt st0 x2) rfl (fun x_2 hx_2 => ?_)
  refine lv_icmp_ne (tgt := 17) hx hb dX5_answers_10 (by decide) (fun cb9 => ?_) (fun cb9 => ?_)
  · skip
    have c3 : ¬ x_1.toInt = x_2.toInt := zne cb9 rfl rfl
    refine lv_iconst (v := 0) hx hb dX5_answers_17 (by decide) ?_
    have hP : va_P g.1 vwCl (List.flatten [bRi g ro rw ri rt rb]) s.heap := hP
    have hD : va_D A (List.flatten [bRi g ro rw ri rt rb]) := hD
    exact mret_z hx hb hr hlocks hS (Nat.le_of_ble_eq_true rfl) (Nat.le_of_ble_eq_true rfl) dX5_answers_18 ((0 : Int32)) rfl (by decide) (show (0 = 1 ∧ zAns st0 x1 x2 ∨ 0 = 0 ∧ ¬ zAns st0 x1 x2) from (Or.inr ⟨rfl, zAns_n hx_1 hx_2 c3⟩)) hP hD
  · skip
    have c4 : x_1.toInt = x_2.toInt := zeq cb9 rfl rfl
    refine lv_iconst (v := 1) hx hb dX5_answers_13 (by decide) ?_
    refine lv_goto (tgt := 18) hx hb dX5_answers_14 (by decide) ?_
    have hP : va_P g.1 vwCl (List.flatten [bRi g ro rw ri rt rb]) s.heap := hP
    have hD : va_D A (List.flatten [bRi g ro rw ri rt rb]) := hD
    exact mret_z hx hb hr hlocks hS (Nat.le_of_ble_eq_true rfl) (Nat.le_of_ble_eq_true rfl) dX5_answers_18 ((1 : Int32)) rfl (by decide) (show (1 = 1 ∧ zAns st0 x1 x2 ∨ 1 = 0 ∧ ¬ zAns st0 x1 x2) from (Or.inl ⟨rfl, zAns_y hx_1 hx_2 c4⟩)) hP hD
set_option maxRecDepth 100000 in
set_option maxHeartbeats 4000000 in
theorem c_r_fitsAllF (l : Launch) (g : zG) (ro : Nat) (rw : Nat) (ri : Int32) (rt : Int32) (rb : Nat → Int32) (ta : Nat) (ab : Nat) (sz : Int32) (ln : Int32) (kd : Int32) (bg : Int32) (nx : Int32) (ft : Int32) (fb : Nat → Int32) (n : Int32) (st0 : Int32) (b_n : 0 ≤ n.toInt ∧ n.toInt ≤ 36) (hn3 : n.toInt % 3 = 0) : zM' g l yX5_fitsAll (Cond.code yX5_fitsAll cX5_fitsAll 5 (some .boolean) :: zB) ({ frames := 1, cells := 0, slots := 0, locals := 23 } : Room) [.ref ro, .ref ta, .int n, .int st0] [bRi g ro rw ri rt rb, bTape g ta ab sz ln kd bg nx ft fb] (fun (q : Int32) => some (.int q)) (fun (q : Int32) => (q = 1 ∧ zFs fb n.toInt st0 ∨ q = 0 ∧ ¬ zFs fb n.toInt st0)) (fun (q : Int32) => [bRi g ro rw ri rt rb, bTape g ta ab sz ln kd bg nx ft fb]) := by
  refine zM'.of (cc := cX5_fitsAll) (maxL := 5) (rt := (some .boolean)) (by decide) rfl (Nat.le_of_ble_eq_true rfl) ?_
  intro p e s m args below meth c A ls St hr hlocks hin hK hT hA hP hD hS hl
  obtain ⟨hx, hb, hml, hown, hts⟩ := id St
  have hl : lv_has ls 5 [(0, .ref ro), (1, .ref ta), (2, .int n), (3, .int st0)] := hl
  refine lv_iconst (v := 0) hx hb dX5_fitsAll_0 (by decide) ?_
  refine lv_istore (lv' := [(4, .int 0), (0, .ref ro), (1, .ref ta), (2, .int n), (3, .int st0)]) hx hb dX5_fitsAll_1 hl (by decide) rfl (fun ls hl => ?_)
  have hl := lv_sub (l' := [(0, .ref ro), (1, .ref ta), (2, .int n), (3, .int st0), (4, .int 0)]) hl [1, 2, 3, 4, 0] rfl
  have LP3_4 : ∀ (kf : Nat) (x_1 : Int32), (0 ≤ x_1.toInt ∧ x_1.toInt ≤ 39) → (zFi fb st0 x_1.toInt) → ∀ (H : Heap) (locs : List Loc) (ls : Array Slot), ((40 - x_1.toInt).toNat) < kf → va_P g.1 vwCl (List.flatten [bRi g ro rw ri rt rb, bTape g ta ab sz ln kd bg nx ft fb]) H → va_D A (List.flatten [bRi g ro rw ri rt rb, bTape g ta ab sz ln kd bg nx ft fb]) → va_S A s.heap H locs → lv_has ls 5 [(0, .ref ro), (1, .ref ta), (2, .int n), (3, .int st0), (4, .int x_1)] → W p l e ({ frames := 1, cells := 0, slots := 0, locals := 23 } : Room) s m args below meth c H locs (0) (0) (zF g (fun (q : Int32) => some (.int q)) (fun (q : Int32) => (q = 1 ∧ zFs fb n.toInt st0 ∨ q = 0 ∧ ¬ zFs fb n.toInt st0)) (fun (q : Int32) => [bRi g ro rw ri rt rb, bTape g ta ab sz ln kd bg nx ft fb]) ({ frames := 1, cells := 0, slots := 0, locals := 23 } : Room) below args s A) (F0 m 3 ls []) := by
    intro kf
    induction kf with
    | zero => intro x_1 i2 i3 H locs ls hk; exact absurd hk (Nat.not_lt_zero _)
    | succ kf ih3_5 =>
      intro x_1 i2 i3 H locs ls hk3_5 hP hD hS hl
      refine lv_iload hx hb dX5_fitsAll_3 (lv_at hl 4 rfl) ?_
      refine lv_iconst (v := 2) hx hb dX5_fitsAll_5 (by decide) ?_
      refine lv_iadd hx hb dX5_fitsAll_6 ?_
      refine zg3 (zaddK (i := x_1.toInt) (j := 2) (a' := 2) (b' := 41) rfl (by decide) i2.1 i2.2 (Int.le_refl _) (Int.le_refl _) (by decide)) (fun x_6 hx_6 => ?_)
      refine lv_iload_n hx hb dX5_fitsAll_7 rfl (lv_at hl 2 rfl) ?_
      refine lv_icmp_ge (tgt := 71) hx hb dX5_fitsAll_8 (by decide) (fun cb9 => ?_) (fun cb9 => ?_)
      · skip
        have c7 : n.toInt ≤ x_6.toInt := zle cb9 rfl rfl
        refine lv_iconst (v := 1) hx hb dX5_fitsAll_71 (by decide) ?_
        have hP : va_P g.1 vwCl (List.flatten [bRi g ro rw ri rt rb, bTape g ta ab sz ln kd bg nx ft fb]) H := hP
        have hD : va_D A (List.flatten [bRi g ro rw ri rt rb, bTape g ta ab sz ln kd bg nx ft fb]) := hD
        exact mret_z hx hb hr hlocks hS (Nat.le_of_ble_eq_true rfl) (Nat.le_of_ble_eq_true rfl) dX5_fitsAll_72 ((1 : Int32)) rfl (by decide) (show (1 = 1 ∧ zFs fb n.toInt st0 ∨ 1 = 0 ∧ ¬ zFs fb n.toInt st0) from (Or.inl ⟨rfl, zFi_e i3 (by omega) (by omega)⟩)) hP hD
      · skip
        have c8 : x_6.toInt < n.toInt := zlti (Int32.not_le.mp cb9) rfl rfl
        have n9 : x_6.toInt ≤ 35 := zL1 (b := 36) c8 b_n.2 (by decide)
        have n10 : 3 ≤ n.toInt := zL2 (a := 2) c8 hx_6.2.1 (by decide)
        refine lv_iload hx hb dX5_fitsAll_11 (lv_at hl 4 rfl) ?_
        refine lv_iconst (v := 2) hx hb dX5_fitsAll_13 (by decide) ?_
        refine lv_iadd hx hb dX5_fitsAll_14 ?_
        refine zg3 (zaddK (i := x_1.toInt) (j := 2) (a' := 2) (b' := 41) rfl (by decide) i2.1 i2.2 (Int.le_refl _) (Int.le_refl _) (by decide)) (fun x_11 hx_11 => ?_)
        refine lv_sipush (v := 400) hx hb dX5_fitsAll_15 (by decide) ?_
        refine lv_icmp_ge (tgt := 71) hx hb dX5_fitsAll_18 (by decide) (fun cb9 => ?_) (fun cb9 => ?_)
        · skip
          exact absurd (show 400 ≤ x_11.toInt from zle cb9 (by decide) rfl) (zDle (a := 400) (b := 41) (Int.le_refl _) hx_11.2.2 (by decide))
        · skip
          have c13 : x_11.toInt < 400 := zlti (Int32.not_le.mp cb9) rfl (by decide)
          refine lv_aload_n hx hb dX5_fitsAll_21 rfl (lv_at hl 0 rfl) ?_
          refine lv_iload_n hx hb dX5_fitsAll_22 rfl (lv_at hl 3 rfl) ?_
          refine lv_aload_n hx hb dX5_fitsAll_23 rfl (lv_at hl 1 rfl) ?_
          refine va_get (D := g.1) (ci := 6) (v := .ref ab) (C := RX6) (T := TX6) (N := 7) hx hb hts izRX6 hown hK hP 2 rfl rfl 0 (by decide) (hts _ k385) (fun _ h9 => h9) rfl dX5_fitsAll_24 ?_
          refine lv_iload hx hb dX5_fitsAll_27 (lv_at hl 4 rfl) ?_
          refine va_iald hx hb hK hP 3 0 rfl rfl (zinK (a := 0) (b := 39) i2.1 i2.2 (by decide)) dX5_fitsAll_29 ?_
          refine lv_aload_n hx hb dX5_fitsAll_30 rfl (lv_at hl 1 rfl) ?_
          refine va_get (D := g.1) (ci := 6) (v := .ref ab) (C := RX6) (T := TX6) (N := 7) hx hb hts izRX6 hown hK hP 2 rfl rfl 0 (by decide) (hts _ k385) (fun _ h9 => h9) rfl dX5_fitsAll_31 ?_
          refine lv_iload hx hb dX5_fitsAll_34 (lv_at hl 4 rfl) ?_
          refine lv_iconst (v := 1) hx hb dX5_fitsAll_36 (by decide) ?_
          refine lv_iadd hx hb dX5_fitsAll_37 ?_
          refine zg3 (zaddK (i := x_1.toInt) (j := 1) (a' := 1) (b' := 40) rfl (by decide) i2.1 i2.2 (Int.le_refl _) (Int.le_refl _) (by decide)) (fun x_14 hx_14 => ?_)
          refine va_iald hx hb hK hP 3 0 rfl rfl (zinK (a := 1) (b := 40) hx_14.2.1 hx_14.2.2 (by decide)) dX5_fitsAll_38 ?_
          refine mcallV' (g := g) (q0 := 0) (ci := 5) (As := [.int st0, .int (fb x_1.toNatClampNeg), .int (fb x_14.toNatClampNeg)]) (rest := []) St hK hT hA hP hD hS hl.1 [0] [1] rfl rfl rfl (c_r_answersF l g ro rw ri rt rb st0 (fb x_1.toNatClampNeg) (fb x_14.toNatClampNeg) ) (cwV 3 hts (zgL (zl4 k386 k387 k388 k389) k383) rfl rfl rfl (by decide +kernel) ⟨Nat.le_of_ble_eq_true rfl, Nat.le_of_ble_eq_true rfl⟩) rfl rfl rfl rfl (Nat.le_of_ble_eq_true rfl) dX5_fitsAll_39 ⟨(Nat.le_of_ble_eq_true rfl), (Nat.le_of_ble_eq_true rfl)⟩ (fun q_15 H locs hq16 hP hD hS => ?_)
          replace hq16 : (q_15 = 1 ∧ zAns st0 (fb x_1.toNatClampNeg) (fb x_14.toNatClampNeg) ∨ q_15 = 0 ∧ ¬ zAns st0 (fb x_1.toNatClampNeg) (fb x_14.toNatClampNeg)) := hq16
          have hP : va_P g.1 vwCl (List.flatten [bTape g ta ab sz ln kd bg nx ft fb, bRi g ro rw ri rt rb]) H := hP
          have hD : va_D A (List.flatten [bTape g ta ab sz ln kd bg nx ft fb, bRi g ro rw ri rt rb]) := hD
          refine W.widen (k := 0) (n := 0) (Nat.le_of_ble_eq_true rfl) (Nat.le_of_ble_eq_true rfl) ?_
          refine W.eq (g2 := F0 m 42 ls [.int q_15]) rfl ?_
          rcases hq16 with ⟨rfl, hq16_k⟩ | ⟨rfl, hq16_k⟩
          · skip
            refine lv_aload_n hx hb dX5_fitsAll_42 rfl (lv_at hl 1 rfl) ?_
            refine va_get (D := g.1) (ci := 6) (v := .ref ab) (C := RX6) (T := TX6) (N := 7) hx hb hts izRX6 hown hK hP 0 rfl rfl 0 (by decide) (hts _ k385) (fun _ h9 => h9) rfl dX5_fitsAll_43 ?_
            refine lv_iload hx hb dX5_fitsAll_46 (lv_at hl 4 rfl) ?_
            refine lv_iconst (v := 2) hx hb dX5_fitsAll_48 (by decide) ?_
            refine lv_iadd hx hb dX5_fitsAll_49 ?_
            refine zg3 (zaddK (i := x_1.toInt) (j := 2) (a' := 2) (b' := 41) rfl (by decide) i2.1 i2.2 (Int.le_refl _) (Int.le_refl _) (by decide)) (fun x_17 hx_17 => ?_)
            refine va_iald hx hb hK hP 1 0 rfl rfl (zinK (a := 2) (b := 41) hx_17.2.1 hx_17.2.2 (by decide)) dX5_fitsAll_50 ?_
            refine lv_iconst (v := 1) hx hb dX5_fitsAll_51 (by decide) ?_
            refine lv_icmp_ne (tgt := 59) hx hb dX5_fitsAll_52 (by decide) (fun cb9 => ?_) (fun cb9 => ?_)
            · skip
              have c18 : ¬ (fb x_17.toNatClampNeg).toInt = 1 := zne cb9 rfl (by decide)
              refine lv_iconst (v := 0) hx hb dX5_fitsAll_59 (by decide) ?_
              refine lv_icmp_eq (tgt := 65) hx hb dX5_fitsAll_60 (by decide) (fun c19 => absurd c19 (by decide)) (fun _ => ?_)
              refine lv_iconst (v := 0) hx hb dX5_fitsAll_63 (by decide) ?_
              have hP : va_P g.1 vwCl (List.flatten [bTape g ta ab sz ln kd bg nx ft fb, bRi g ro rw ri rt rb]) H := hP
              have hD : va_D A (List.flatten [bTape g ta ab sz ln kd bg nx ft fb, bRi g ro rw ri rt rb]) := hD
              obtain ⟨hP, hD⟩ := zord (g := g) (Bs' := [bRi g ro rw ri rt rb, bTape g ta ab sz ln kd bg nx ft fb]) [1, 0] rfl rfl hP hD
              exact mret_z hx hb hr hlocks hS (Nat.le_of_ble_eq_true rfl) (Nat.le_of_ble_eq_true rfl) dX5_fitsAll_64 ((0 : Int32)) rfl (by decide) (show (0 = 1 ∧ zFs fb n.toInt st0 ∨ 0 = 0 ∧ ¬ zFs fb n.toInt st0) from (Or.inr ⟨rfl, zFi_x (x0 := x_1) (x1 := x_14) (x2 := x_17) i3 (by omega) rfl (by omega) (by omega) (zniff1 hq16_k c18)⟩)) hP hD
            · skip
              have c20 : (fb x_17.toNatClampNeg).toInt = 1 := zeq cb9 rfl (by decide)
              have n21 : 1 ≤ (fb x_17.toNatClampNeg).toInt := Int.le_trans (Int.le_refl _) (Int.le_of_eq c20.symm)
              have n22 : (fb x_17.toNatClampNeg).toInt ≤ 1 := Int.le_trans (Int.le_of_eq c20) (Int.le_refl _)
              refine lv_iconst (v := 1) hx hb dX5_fitsAll_55 (by decide) ?_
              refine lv_goto (tgt := 60) hx hb dX5_fitsAll_56 (by decide) ?_
              refine lv_icmp_eq (tgt := 65) hx hb dX5_fitsAll_60 (by decide) (fun _ => ?_) (fun c23 => absurd (by decide) c23)
              refine ziinc3 (n' := 3) (a' := 3) (b' := 42) (lv' := fun v9 => [(4, .int v9), (0, .ref ro), (1, .ref ta), (2, .int n), (3, .int st0)]) hx hb dX5_fitsAll_65 hl (k := 4) rfl (by decide) (fun _ => rfl) (zaddK (i := x_1.toInt) (j := 3) rfl (by decide) i2.1 i2.2 (Int.le_refl _) (Int.le_refl _) (by decide)) (fun x_24 ls hx_24 hl => ?_)
              refine lv_goto (tgt := 3) hx hb dX5_fitsAll_68 (by decide) ?_
              have hl := lv_sub (l' := [(0, .ref ro), (1, .ref ta), (2, .int n), (3, .int st0), (4, .int x_24)]) hl [1, 2, 3, 4, 0] rfl
              have hP : va_P g.1 vwCl (List.flatten [bTape g ta ab sz ln kd bg nx ft fb, bRi g ro rw ri rt rb]) H := hP
              have hD : va_D A (List.flatten [bTape g ta ab sz ln kd bg nx ft fb, bRi g ro rw ri rt rb]) := hD
              obtain ⟨hP, hD⟩ := zord (g := g) (Bs' := [bRi g ro rw ri rt rb, bTape g ta ab sz ln kd bg nx ft fb]) [1, 0] rfl rfl hP hD
              have hP : va_P g.1 vwCl (List.flatten [bRi g ro rw ri rt rb, bTape g ta ab sz ln kd bg nx ft fb]) H := hP
              have hD : va_D A (List.flatten [bRi g ro rw ri rt rb, bTape g ta ab sz ln kd bg nx ft fb]) := hD
              exact ih3_5 x_24 (by first | omega | assumption | decide) (zFi_s (x0 := x_1) (x1 := x_14) (x2 := x_17) i3 rfl (by omega) (by omega) (ziff1 hq16_k c20) (by omega)) H _ ls (by omega)  hP hD hS (lv_sub hl [0, 1, 2, 3, 4] rfl)
          · skip
            refine lv_aload_n hx hb dX5_fitsAll_42 rfl (lv_at hl 1 rfl) ?_
            refine va_get (D := g.1) (ci := 6) (v := .ref ab) (C := RX6) (T := TX6) (N := 7) hx hb hts izRX6 hown hK hP 0 rfl rfl 0 (by decide) (hts _ k385) (fun _ h9 => h9) rfl dX5_fitsAll_43 ?_
            refine lv_iload hx hb dX5_fitsAll_46 (lv_at hl 4 rfl) ?_
            refine lv_iconst (v := 2) hx hb dX5_fitsAll_48 (by decide) ?_
            refine lv_iadd hx hb dX5_fitsAll_49 ?_
            refine zg3 (zaddK (i := x_1.toInt) (j := 2) (a' := 2) (b' := 41) rfl (by decide) i2.1 i2.2 (Int.le_refl _) (Int.le_refl _) (by decide)) (fun x_25 hx_25 => ?_)
            refine va_iald hx hb hK hP 1 0 rfl rfl (zinK (a := 2) (b := 41) hx_25.2.1 hx_25.2.2 (by decide)) dX5_fitsAll_50 ?_
            refine lv_iconst (v := 1) hx hb dX5_fitsAll_51 (by decide) ?_
            refine lv_icmp_ne (tgt := 59) hx hb dX5_fitsAll_52 (by decide) (fun cb9 => ?_) (fun cb9 => ?_)
            · skip
              have c26 : ¬ (fb x_25.toNatClampNeg).toInt = 1 := zne cb9 rfl (by decide)
              refine lv_iconst (v := 0) hx hb dX5_fitsAll_59 (by decide) ?_
              refine lv_icmp_eq (tgt := 65) hx hb dX5_fitsAll_60 (by decide) (fun _ => ?_) (fun c27 => absurd (by decide) c27)
              refine ziinc3 (n' := 3) (a' := 3) (b' := 42) (lv' := fun v9 => [(4, .int v9), (0, .ref ro), (1, .ref ta), (2, .int n), (3, .int st0)]) hx hb dX5_fitsAll_65 hl (k := 4) rfl (by decide) (fun _ => rfl) (zaddK (i := x_1.toInt) (j := 3) rfl (by decide) i2.1 i2.2 (Int.le_refl _) (Int.le_refl _) (by decide)) (fun x_28 ls hx_28 hl => ?_)
              refine lv_goto (tgt := 3) hx hb dX5_fitsAll_68 (by decide) ?_
              have hl := lv_sub (l' := [(0, .ref ro), (1, .ref ta), (2, .int n), (3, .int st0), (4, .int x_28)]) hl [1, 2, 3, 4, 0] rfl
              have hP : va_P g.1 vwCl (List.flatten [bTape g ta ab sz ln kd bg nx ft fb, bRi g ro rw ri rt rb]) H := hP
              have hD : va_D A (List.flatten [bTape g ta ab sz ln kd bg nx ft fb, bRi g ro rw ri rt rb]) := hD
              obtain ⟨hP, hD⟩ := zord (g := g) (Bs' := [bRi g ro rw ri rt rb, bTape g ta ab sz ln kd bg nx ft fb]) [1, 0] rfl rfl hP hD
              have hP : va_P g.1 vwCl (List.flatten [bRi g ro rw ri rt rb, bTape g ta ab sz ln kd bg nx ft fb]) H := hP
              have hD : va_D A (List.flatten [bRi g ro rw ri rt rb, bTape g ta ab sz ln kd bg nx ft fb]) := hD
              exact ih3_5 x_28 (by first | omega | assumption | decide) (zFi_s (x0 := x_1) (x1 := x_14) (x2 := x_25) i3 rfl (by omega) (by omega) (ziff0 hq16_k c26) (by omega)) H _ ls (by omega)  hP hD hS (lv_sub hl [0, 1, 2, 3, 4] rfl)
            · skip
              have c29 : (fb x_25.toNatClampNeg).toInt = 1 := zeq cb9 rfl (by decide)
              have n30 : 1 ≤ (fb x_25.toNatClampNeg).toInt := Int.le_trans (Int.le_refl _) (Int.le_of_eq c29.symm)
              have n31 : (fb x_25.toNatClampNeg).toInt ≤ 1 := Int.le_trans (Int.le_of_eq c29) (Int.le_refl _)
              refine lv_iconst (v := 1) hx hb dX5_fitsAll_55 (by decide) ?_
              refine lv_goto (tgt := 60) hx hb dX5_fitsAll_56 (by decide) ?_
              refine lv_icmp_eq (tgt := 65) hx hb dX5_fitsAll_60 (by decide) (fun c32 => absurd c32 (by decide)) (fun _ => ?_)
              refine lv_iconst (v := 0) hx hb dX5_fitsAll_63 (by decide) ?_
              have hP : va_P g.1 vwCl (List.flatten [bTape g ta ab sz ln kd bg nx ft fb, bRi g ro rw ri rt rb]) H := hP
              have hD : va_D A (List.flatten [bTape g ta ab sz ln kd bg nx ft fb, bRi g ro rw ri rt rb]) := hD
              obtain ⟨hP, hD⟩ := zord (g := g) (Bs' := [bRi g ro rw ri rt rb, bTape g ta ab sz ln kd bg nx ft fb]) [1, 0] rfl rfl hP hD
              exact mret_z hx hb hr hlocks hS (Nat.le_of_ble_eq_true rfl) (Nat.le_of_ble_eq_true rfl) dX5_fitsAll_64 ((0 : Int32)) rfl (by decide) (show (0 = 1 ∧ zFs fb n.toInt st0 ∨ 0 = 0 ∧ ¬ zFs fb n.toInt st0) from (Or.inr ⟨rfl, zFi_x (x0 := x_1) (x1 := x_14) (x2 := x_25) i3 (by omega) rfl (by omega) (by omega) (zniff0 hq16_k c29)⟩)) hP hD
  have hL0 : (0 : Int32).toInt = 0 := by decide
  have hP : va_P g.1 vwCl (List.flatten [bRi g ro rw ri rt rb, bTape g ta ab sz ln kd bg nx ft fb]) s.heap := hP
  have hD : va_D A (List.flatten [bRi g ro rw ri rt rb, bTape g ta ab sz ln kd bg nx ft fb]) := hD
  exact LP3_4 _ 0 (by decide) (zFi_0 (by decide)) s.heap _ ls (Nat.lt_succ_self _)  hP hD hS (lv_sub hl [0, 1, 2, 3, 4] rfl)
set_option maxRecDepth 100000 in
set_option maxHeartbeats 4000000 in
theorem c_r_hearF (l : Launch) (g : zG) (ro : Nat) (rw : Nat) (ri : Int32) (rt : Int32) (rb : Nat → Int32) (ta : Nat) (ab : Nat) (sz : Int32) (ln : Int32) (kd : Int32) (bg : Int32) (nx : Int32) (ft : Int32) (fb : Nat → Int32) (n : Int32) (pp : Int32) (b_n : 0 ≤ n.toInt ∧ n.toInt ≤ 36) (b_pp : 0 ≤ pp.toInt ∧ pp.toInt ≤ 8) (hn3 : n.toInt % 3 = 0) : zM' g l yX5_hear (Cond.code yX5_hear cX5_hear 5 none :: zB) ({ frames := 2, cells := 0, slots := 0, locals := 47 } : Room) [.ref ro, .ref ta, .int n, .int pp] [bRi g ro rw ri rt rb, bTape g ta ab sz ln kd bg nx ft fb] (fun u : Int32 × Int32 × (Nat → Int32) => (fun (ri2 : Int32) (rt2 : Int32) (rb2 : Nat → Int32) => none) (u.1) (u.2.1) (u.2.2)) (fun u : Int32 × Int32 × (Nat → Int32) => (fun (ri2 : Int32) (rt2 : Int32) (rb2 : Nat → Int32) => (0 ≤ ri2.toInt ∧ ri2.toInt ≤ 8) ∧ (ri2.toInt = pp.toInt) ∧ (0 ≤ rt2.toInt ∧ rt2.toInt ≤ 256) ∧ (zHr fb n.toInt rb2 ((2 ^ ri2.toInt.toNat : Nat) : Int) rt2.toInt)) (u.1) (u.2.1) (u.2.2)) (fun u : Int32 × Int32 × (Nat → Int32) => (fun (ri2 : Int32) (rt2 : Int32) (rb2 : Nat → Int32) => [bRi g ro rw ri2 rt2 rb2, bTape g ta ab sz ln kd bg nx ft fb]) (u.1) (u.2.1) (u.2.2)) := by
  refine zM'.of (cc := cX5_hear) (maxL := 5) (rt := none) (by decide) rfl (Nat.le_of_ble_eq_true rfl) ?_
  intro p e s m args below meth c A ls St hr hlocks hin hK hT hA hP hD hS hl
  obtain ⟨hx, hb, hml, hown, hts⟩ := id St
  have hl : lv_has ls 5 [(0, .ref ro), (1, .ref ta), (2, .int n), (3, .int pp)] := hl
  refine lv_aload_n hx hb dX5_hear_0 rfl (lv_at hl 0 rfl) ?_
  refine lv_iload_n hx hb dX5_hear_1 rfl (lv_at hl 3 rfl) ?_
  refine lv_bipush (v := 8) hx hb dX5_hear_2 (by decide) ?_
  refine va_mmin hx hb (by rw [hml]; exact hl.1.symm) hown (hts _ k391) (hts _ k41) (hts _ k42) (hts _ k43) (Nat.le_of_ble_eq_true rfl) (Nat.le_of_ble_eq_true rfl) (Nat.le_of_ble_eq_true rfl) (Nat.le_of_ble_eq_true rfl) dX5_hear_4 ?_
  refine zgmn (i := pp.toInt) (j := 8) rfl (by decide) (fun x_1 hx_1 => ?_)
  refine va_put (D := g.1) (ci := 5) (v := .int x_1) (ty := .int) (C := RX5) (T := TX5) (N := 3) hx hb hts izRX5 tyX5 tyX5_ok nmX5 hown hK hP hD hS 0 rfl rfl 1 (by decide) (hts _ k392) (fun _ h9 => h9) rfl (by decide +kernel) rfl rfl (Nat.le_of_ble_eq_true rfl) dX5_hear_7 (fun H locs hP hD hS => ?_)
  have hP : va_P g.1 vwCl (List.flatten [bRi g ro rw x_1 rt rb, bTape g ta ab sz ln kd bg nx ft fb]) H := hP
  have hD : va_D A (List.flatten [bRi g ro rw x_1 rt rb, bTape g ta ab sz ln kd bg nx ft fb]) := hD
  refine lv_aload_n hx hb dX5_hear_10 rfl (lv_at hl 0 rfl) ?_
  refine lv_iconst (v := 0) hx hb dX5_hear_11 (by decide) ?_
  refine va_put (D := g.1) (ci := 5) (v := .int 0) (ty := .int) (C := RX5) (T := TX5) (N := 3) hx hb hts izRX5 tyX5 tyX5_ok nmX5 hown hK hP hD hS 0 rfl rfl 2 (by decide) (hts _ k393) (fun _ h9 => h9) rfl (by decide +kernel) rfl rfl (Nat.le_of_ble_eq_true rfl) dX5_hear_12 (fun H locs hP hD hS => ?_)
  have hP : va_P g.1 vwCl (List.flatten [bRi g ro rw x_1 0 rb, bTape g ta ab sz ln kd bg nx ft fb]) H := hP
  have hD : va_D A (List.flatten [bRi g ro rw x_1 0 rb, bTape g ta ab sz ln kd bg nx ft fb]) := hD
  refine lv_iconst (v := 0) hx hb dX5_hear_15 (by decide) ?_
  refine lv_istore (lv' := [(4, .int 0), (0, .ref ro), (1, .ref ta), (2, .int n), (3, .int pp)]) hx hb dX5_hear_16 hl (by decide) rfl (fun ls hl => ?_)
  have hl := lv_sub (l' := [(0, .ref ro), (1, .ref ta), (2, .int n), (3, .int pp), (4, .int 0)]) hl [1, 2, 3, 4, 0] rfl
  have LP18_10 : ∀ (kf : Nat) (x_2 : Int32) (x_3 : Int32) (rb_4 : Nat → Int32), (0 ≤ x_2.toInt ∧ x_2.toInt ≤ 256) → (0 ≤ x_3.toInt ∧ x_3.toInt ≤ 256) → (zHr fb n.toInt rb_4 x_2.toInt x_3.toInt) → (0 ≤ x_3.toInt ∧ x_3.toInt ≤ x_2.toInt) → (x_2.toInt ≤ ((2 ^ x_1.toInt.toNat : Nat) : Int)) → ∀ (H : Heap) (locs : List Loc) (ls : Array Slot), ((257 - x_2.toInt).toNat) < kf → va_P g.1 vwCl (List.flatten [bRi g ro rw x_1 x_3 rb_4, bTape g ta ab sz ln kd bg nx ft fb]) H → va_D A (List.flatten [bRi g ro rw x_1 x_3 rb_4, bTape g ta ab sz ln kd bg nx ft fb]) → va_S A s.heap H locs → lv_has ls 5 [(0, .ref ro), (1, .ref ta), (2, .int n), (3, .int pp), (4, .int x_2)] → W p l e ({ frames := 2, cells := 0, slots := 0, locals := 47 } : Room) s m args below meth c H locs (0) (0) (zF g (fun u : Int32 × Int32 × (Nat → Int32) => (fun (ri2 : Int32) (rt2 : Int32) (rb2 : Nat → Int32) => none) (u.1) (u.2.1) (u.2.2)) (fun u : Int32 × Int32 × (Nat → Int32) => (fun (ri2 : Int32) (rt2 : Int32) (rb2 : Nat → Int32) => (0 ≤ ri2.toInt ∧ ri2.toInt ≤ 8) ∧ (ri2.toInt = pp.toInt) ∧ (0 ≤ rt2.toInt ∧ rt2.toInt ≤ 256) ∧ (zHr fb n.toInt rb2 ((2 ^ ri2.toInt.toNat : Nat) : Int) rt2.toInt)) (u.1) (u.2.1) (u.2.2)) (fun u : Int32 × Int32 × (Nat → Int32) => (fun (ri2 : Int32) (rt2 : Int32) (rb2 : Nat → Int32) => [bRi g ro rw ri2 rt2 rb2, bTape g ta ab sz ln kd bg nx ft fb]) (u.1) (u.2.1) (u.2.2)) ({ frames := 2, cells := 0, slots := 0, locals := 47 } : Room) below args s A) (F0 m 18 ls []) := by
    intro kf
    induction kf with
    | zero => intro x_2 x_3 rb_4 i5 i6 i7 i8 i9 H locs ls hk; exact absurd hk (Nat.not_lt_zero _)
    | succ kf ih18_11 =>
      intro x_2 x_3 rb_4 i5 i6 i7 i8 i9 H locs ls hk18_11 hP hD hS hl
      refine lv_iload hx hb dX5_hear_18 (lv_at hl 4 rfl) ?_
      refine lv_iconst (v := 1) hx hb dX5_hear_20 (by decide) ?_
      refine lv_aload_n hx hb dX5_hear_21 rfl (lv_at hl 0 rfl) ?_
      refine va_get (D := g.1) (ci := 5) (v := .int x_1) (C := RX5) (T := TX5) (N := 3) hx hb hts izRX5 hown hK hP 0 rfl rfl 1 (by decide) (hts _ k392) (fun _ h9 => h9) rfl dX5_hear_22 ?_
      refine lv_ishl hx hb dX5_hear_25 ?_
      refine zgp2 (P := fun r9 : Int32 => r9.toInt = ((2 ^ x_1.toInt.toNat : Nat) : Int) ∧ 1 ≤ r9.toInt ∧ r9.toInt ≤ 256) (zshE (by omega)) (fun x_12 hx_12 => ?_)
      refine lv_icmp_ge (tgt := 70) hx hb dX5_hear_26 (by decide) (fun cb9 => ?_) (fun cb9 => ?_)
      · skip
        have c13 : x_12.toInt ≤ x_2.toInt := zle cb9 rfl rfl
        have n14 : 1 ≤ x_2.toInt := Int.le_trans hx_12.2.1 c13
        have hP : va_P g.1 vwCl (List.flatten [bRi g ro rw x_1 x_3 rb_4, bTape g ta ab sz ln kd bg nx ft fb]) H := hP
        have hD : va_D A (List.flatten [bRi g ro rw x_1 x_3 rb_4, bTape g ta ab sz ln kd bg nx ft fb]) := hD
        exact mret_v hx hb hr hlocks hS (Nat.le_of_ble_eq_true rfl) (Nat.le_of_ble_eq_true rfl) dX5_hear_70 (x_1, x_3, rb_4) rfl (show (0 ≤ x_1.toInt ∧ x_1.toInt ≤ 8) ∧ (x_1.toInt = pp.toInt) ∧ (0 ≤ x_3.toInt ∧ x_3.toInt ≤ 256) ∧ (zHr fb n.toInt rb_4 ((2 ^ x_1.toInt.toNat : Nat) : Int) x_3.toInt) from ⟨(by first | assumption | omega | decide), (by first | assumption | omega | decide), (by first | assumption | omega | decide), (zHr_e i7 (by omega))⟩) hP hD
      · skip
        have c15 : x_2.toInt < x_12.toInt := zlti (Int32.not_le.mp cb9) rfl rfl
        have n16 : x_2.toInt ≤ 255 := zL1 (b := 256) c15 hx_12.2.2 (by decide)
        refine lv_aload_n hx hb dX5_hear_29 rfl (lv_at hl 0 rfl) ?_
        refine va_get (D := g.1) (ci := 5) (v := .ref rw) (C := RX5) (T := TX5) (N := 3) hx hb hts izRX5 hown hK hP 0 rfl rfl 0 (by decide) (hts _ k382) (fun _ h9 => h9) rfl dX5_hear_30 ?_
        refine lv_iload hx hb dX5_hear_33 (lv_at hl 4 rfl) ?_
        refine lv_aload_n hx hb dX5_hear_35 rfl (lv_at hl 0 rfl) ?_
        refine lv_aload_n hx hb dX5_hear_36 rfl (lv_at hl 1 rfl) ?_
        refine lv_iload_n hx hb dX5_hear_37 rfl (lv_at hl 2 rfl) ?_
        refine lv_iload hx hb dX5_hear_38 (lv_at hl 4 rfl) ?_
        refine mcallV' (g := g) (q0 := 0) (ci := 5) (As := [.ref ta, .int n, .int x_2]) (rest := [.int x_2, .ref rw]) St hK hT hA hP hD hS hl.1 [0, 1] [] rfl rfl rfl (c_r_fitsAllF l g ro rw x_1 x_3 rb_4 ta ab sz ln kd bg nx ft fb n x_2 b_n hn3) (cwV 3 hts (zgL (zl4 k394 k395 k396 k389) k384) rfl rfl rfl (by decide +kernel) ⟨Nat.le_of_ble_eq_true rfl, Nat.le_of_ble_eq_true rfl⟩) rfl rfl rfl rfl (Nat.le_of_ble_eq_true rfl) dX5_hear_40 ⟨(Nat.le_of_ble_eq_true rfl), (Nat.le_of_ble_eq_true rfl)⟩ (fun q_17 H locs hq18 hP hD hS => ?_)
        replace hq18 : (q_17 = 1 ∧ zFs fb n.toInt x_2 ∨ q_17 = 0 ∧ ¬ zFs fb n.toInt x_2) := hq18
        have hP : va_P g.1 vwCl (List.flatten [bRi g ro rw x_1 x_3 rb_4, bTape g ta ab sz ln kd bg nx ft fb]) H := hP
        have hD : va_D A (List.flatten [bRi g ro rw x_1 x_3 rb_4, bTape g ta ab sz ln kd bg nx ft fb]) := hD
        refine W.widen (k := 0) (n := 0) (Nat.le_of_ble_eq_true rfl) (Nat.le_of_ble_eq_true rfl) ?_
        refine W.eq (g2 := F0 m 43 ls [.int q_17, .int x_2, .ref rw]) rfl ?_
        rcases hq18 with ⟨rfl, hq18_k⟩ | ⟨rfl, hq18_k⟩
        · skip
          refine va_zast hx hb hK hP hD hS 1 1 rfl rfl (zinK (a := 0) (b := 255) i5.1 n16 (by decide)) dX5_hear_43 (fun H locs hP hD hS => ?_)
          obtain ⟨rb_19, ⟨hvrb_19, hrrb_19⟩, hP, hD⟩ : ∃ rb_19 : Nat → Int32, (rb_19 x_2.toNatClampNeg = 1 ∧ (∀ c9 : Int, (c9 = x_3.toInt + 1) → zHr fb n.toInt rb_19 (x_2.toInt + 1) c9)) ∧ va_P g.1 vwCl (List.flatten [bRi g ro rw x_1 x_3 rb_19, bTape g ta ab sz ln kd bg nx ft fb]) H ∧ va_D A (List.flatten [bRi g ro rw x_1 x_3 rb_19, bTape g ta ab sz ln kd bg nx ft fb]) := ⟨upd rb_4 x_2.toNatClampNeg (vp_nar .boolean 1), ⟨(by unfold upd; rw [if_pos rfl]; first | rfl | decide), fun c9 h9 => zHr_s (x := x_2) i7 rfl (Or.inl ⟨(by first | rfl | decide), hq18_k, h9⟩) rfl⟩, hP, hD⟩
          refine lv_aload_n hx hb dX5_hear_44 rfl (lv_at hl 0 rfl) ?_
          refine va_get (D := g.1) (ci := 5) (v := .ref rw) (C := RX5) (T := TX5) (N := 3) hx hb hts izRX5 hown hK hP 0 rfl rfl 0 (by decide) (hts _ k382) (fun _ h9 => h9) rfl dX5_hear_45 ?_
          refine lv_iload hx hb dX5_hear_48 (lv_at hl 4 rfl) ?_
          refine va_zald hx hb hK hP 1 1 rfl rfl (zinK (a := 0) (b := 255) i5.1 n16 (by decide)) dX5_hear_50 ?_
          refine ztop (r := 1) hvrb_19 ?_
          refine lv_if_eq (tgt := 64) hx hb dX5_hear_51 (by decide) (fun c20 => absurd c20 (by decide)) (fun _ => ?_)
          refine lv_aload_n hx hb dX5_hear_54 rfl (lv_at hl 0 rfl) ?_
          refine lv_dup hx hb dX5_hear_55 rfl ?_
          refine va_get (D := g.1) (ci := 5) (v := .int x_3) (C := RX5) (T := TX5) (N := 3) hx hb hts izRX5 hown hK hP 0 rfl rfl 2 (by decide) (hts _ k393) (fun _ h9 => h9) rfl dX5_hear_56 ?_
          have w21 : 0 ≤ x_3.toInt ∧ x_3.toInt ≤ 255 := by omega
          refine lv_iconst (v := 1) hx hb dX5_hear_59 (by decide) ?_
          refine lv_iadd hx hb dX5_hear_60 ?_
          refine zg3 (zaddK (i := x_3.toInt) (j := 1) (a' := 1) (b' := 256) rfl (by decide) w21.1 w21.2 (Int.le_refl _) (Int.le_refl _) (by decide)) (fun x_22 hx_22 => ?_)
          refine va_put (D := g.1) (ci := 5) (v := .int x_22) (ty := .int) (C := RX5) (T := TX5) (N := 3) hx hb hts izRX5 tyX5 tyX5_ok nmX5 hown hK hP hD hS 0 rfl rfl 2 (by decide) (hts _ k393) (fun _ h9 => h9) rfl (by decide +kernel) rfl rfl (Nat.le_of_ble_eq_true rfl) dX5_hear_61 (fun H locs hP hD hS => ?_)
          have hP : va_P g.1 vwCl (List.flatten [bRi g ro rw x_1 x_22 rb_19, bTape g ta ab sz ln kd bg nx ft fb]) H := hP
          have hD : va_D A (List.flatten [bRi g ro rw x_1 x_22 rb_19, bTape g ta ab sz ln kd bg nx ft fb]) := hD
          refine ziinc3 (n' := 1) (a' := 1) (b' := 256) (lv' := fun v9 => [(4, .int v9), (0, .ref ro), (1, .ref ta), (2, .int n), (3, .int pp)]) hx hb dX5_hear_64 hl (k := 4) rfl (by decide) (fun _ => rfl) (zaddK (i := x_2.toInt) (j := 1) rfl (by decide) i5.1 n16 (Int.le_refl _) (Int.le_refl _) (by decide)) (fun x_23 ls hx_23 hl => ?_)
          refine lv_goto (tgt := 18) hx hb dX5_hear_67 (by decide) ?_
          have hl := lv_sub (l' := [(0, .ref ro), (1, .ref ta), (2, .int n), (3, .int pp), (4, .int x_23)]) hl [1, 2, 3, 4, 0] rfl
          have hP : va_P g.1 vwCl (List.flatten [bRi g ro rw x_1 x_22 rb_19, bTape g ta ab sz ln kd bg nx ft fb]) H := hP
          have hD : va_D A (List.flatten [bRi g ro rw x_1 x_22 rb_19, bTape g ta ab sz ln kd bg nx ft fb]) := hD
          exact ih18_11 x_23 x_22 rb_19 ⟨(Int.le_trans (by decide) hx_23.2.1), hx_23.2.2⟩ ⟨(Int.le_trans (by decide) hx_22.2.1), hx_22.2.2⟩ (zHr_e (hrrb_19 _ (by omega)) (by omega)) (by first | omega | assumption | decide) (by first | omega | assumption | decide) H _ ls (zmK hx_23.1 (by decide) n16 (by decide) hk18_11)  hP hD hS (lv_sub hl [0, 1, 2, 3, 4] rfl)
        · skip
          refine va_zast hx hb hK hP hD hS 1 1 rfl rfl (zinK (a := 0) (b := 255) i5.1 n16 (by decide)) dX5_hear_43 (fun H locs hP hD hS => ?_)
          obtain ⟨rb_24, ⟨hvrb_24, hrrb_24⟩, hP, hD⟩ : ∃ rb_24 : Nat → Int32, (rb_24 x_2.toNatClampNeg = 0 ∧ (∀ c9 : Int, (c9 = x_3.toInt + 0) → zHr fb n.toInt rb_24 (x_2.toInt + 1) c9)) ∧ va_P g.1 vwCl (List.flatten [bRi g ro rw x_1 x_3 rb_24, bTape g ta ab sz ln kd bg nx ft fb]) H ∧ va_D A (List.flatten [bRi g ro rw x_1 x_3 rb_24, bTape g ta ab sz ln kd bg nx ft fb]) := ⟨upd rb_4 x_2.toNatClampNeg (vp_nar .boolean 0), ⟨(by unfold upd; rw [if_pos rfl]; first | rfl | decide), fun c9 h9 => zHr_s (x := x_2) i7 rfl (Or.inr ⟨(by first | rfl | decide), hq18_k, (by omega)⟩) rfl⟩, hP, hD⟩
          refine lv_aload_n hx hb dX5_hear_44 rfl (lv_at hl 0 rfl) ?_
          refine va_get (D := g.1) (ci := 5) (v := .ref rw) (C := RX5) (T := TX5) (N := 3) hx hb hts izRX5 hown hK hP 0 rfl rfl 0 (by decide) (hts _ k382) (fun _ h9 => h9) rfl dX5_hear_45 ?_
          refine lv_iload hx hb dX5_hear_48 (lv_at hl 4 rfl) ?_
          refine va_zald hx hb hK hP 1 1 rfl rfl (zinK (a := 0) (b := 255) i5.1 n16 (by decide)) dX5_hear_50 ?_
          refine ztop (r := 0) hvrb_24 ?_
          refine lv_if_eq (tgt := 64) hx hb dX5_hear_51 (by decide) (fun _ => ?_) (fun c25 => absurd (by decide) c25)
          refine ziinc3 (n' := 1) (a' := 1) (b' := 256) (lv' := fun v9 => [(4, .int v9), (0, .ref ro), (1, .ref ta), (2, .int n), (3, .int pp)]) hx hb dX5_hear_64 hl (k := 4) rfl (by decide) (fun _ => rfl) (zaddK (i := x_2.toInt) (j := 1) rfl (by decide) i5.1 n16 (Int.le_refl _) (Int.le_refl _) (by decide)) (fun x_26 ls hx_26 hl => ?_)
          refine lv_goto (tgt := 18) hx hb dX5_hear_67 (by decide) ?_
          have hl := lv_sub (l' := [(0, .ref ro), (1, .ref ta), (2, .int n), (3, .int pp), (4, .int x_26)]) hl [1, 2, 3, 4, 0] rfl
          have hP : va_P g.1 vwCl (List.flatten [bRi g ro rw x_1 x_3 rb_24, bTape g ta ab sz ln kd bg nx ft fb]) H := hP
          have hD : va_D A (List.flatten [bRi g ro rw x_1 x_3 rb_24, bTape g ta ab sz ln kd bg nx ft fb]) := hD
          exact ih18_11 x_26 x_3 rb_24 ⟨(Int.le_trans (by decide) hx_26.2.1), hx_26.2.2⟩ ⟨i6.1, i6.2⟩ (zHr_e (hrrb_24 _ (by omega)) (by omega)) (by first | omega | assumption | decide) (by first | omega | assumption | decide) H _ ls (zmK hx_26.1 (by decide) n16 (by decide) hk18_11)  hP hD hS (lv_sub hl [0, 1, 2, 3, 4] rfl)
  have hL0 : (0 : Int32).toInt = 0 := by decide
  have hP : va_P g.1 vwCl (List.flatten [bRi g ro rw x_1 0 rb, bTape g ta ab sz ln kd bg nx ft fb]) H := hP
  have hD : va_D A (List.flatten [bRi g ro rw x_1 0 rb, bTape g ta ab sz ln kd bg nx ft fb]) := hD
  exact LP18_10 _ 0 0 rb (by decide) (by decide) (zHr_0 (by decide) (by decide)) (by first | omega | assumption | decide) (by first | omega | assumption | exact Int.natCast_nonneg _ | decide) H _ ls (Nat.lt_succ_self _)  hP hD hS (lv_sub hl [0, 1, 2, 3, 4] rfl)
set_option maxRecDepth 100000 in
set_option maxHeartbeats 4000000 in
theorem c_r_honestInAllF (l : Launch) (g : zG) (ro : Nat) (rw : Nat) (ri : Int32) (rt : Int32) (rb : Nat → Int32) (b_ri : 0 ≤ ri.toInt ∧ ri.toInt ≤ 8) : zM' g l yX5_honestInAll (Cond.code yX5_honestInAll cX5_honestInAll 3 (some .int) :: zB) ({ frames := 0, cells := 0, slots := 0, locals := 0 } : Room) [.ref ro] [bRi g ro rw ri rt rb] (fun (q : Int32) => some (.int q)) (fun (q : Int32) => (q = zSure rb rt.toInt ri)) (fun (q : Int32) => [bRi g ro rw ri rt rb]) := by
  refine zM'.of (cc := cX5_honestInAll) (maxL := 3) (rt := (some .int)) (by decide) rfl (Nat.le_of_ble_eq_true rfl) ?_
  intro p e s m args below meth c A ls St hr hlocks hin hK hT hA hP hD hS hl
  obtain ⟨hx, hb, hml, hown, hts⟩ := id St
  have hl : lv_has ls 3 [(0, .ref ro)] := hl
  refine lv_aload_n hx hb dX5_honestInAll_0 rfl (lv_at hl 0 rfl) ?_
  refine va_get (D := g.1) (ci := 5) (v := .int rt) (C := RX5) (T := TX5) (N := 3) hx hb hts izRX5 hown hK hP 0 rfl rfl 2 (by decide) (hts _ k393) (fun _ h9 => h9) rfl dX5_honestInAll_1 ?_
  refine lv_if_ne (tgt := 11) hx hb dX5_honestInAll_4 (by decide) (fun cb9 => ?_) (fun cb9 => ?_)
  · skip
    have c1 : ¬ rt.toInt = 0 := zne cb9 rfl (by decide)
    refine lv_iconst (v := 1) hx hb dX5_honestInAll_11 (by decide) ?_
    refine lv_aload_n hx hb dX5_honestInAll_12 rfl (lv_at hl 0 rfl) ?_
    refine va_get (D := g.1) (ci := 5) (v := .int ri) (C := RX5) (T := TX5) (N := 3) hx hb hts izRX5 hown hK hP 0 rfl rfl 1 (by decide) (hts _ k392) (fun _ h9 => h9) rfl dX5_honestInAll_13 ?_
    refine lv_ishl hx hb dX5_honestInAll_16 ?_
    refine lv_iconst (v := 1) hx hb dX5_honestInAll_17 (by decide) ?_
    refine lv_isub hx hb dX5_honestInAll_18 ?_
    refine zgp2 (P := fun r9 : Int32 => r9 = ((1 : Int32) <<< (ri &&& 31)) - 1) rfl (fun x_2 hx_2 => ?_)
    refine lv_istore_n (lv' := [(1, .int x_2), (0, .ref ro)]) hx hb dX5_honestInAll_19 rfl hl (by decide) rfl (fun ls hl => ?_)
    refine lv_iconst (v := 0) hx hb dX5_honestInAll_20 (by decide) ?_
    refine lv_istore_n (lv' := [(2, .int 0), (1, .int x_2), (0, .ref ro)]) hx hb dX5_honestInAll_21 rfl hl (by decide) rfl (fun ls hl => ?_)
    have hl := lv_sub (l' := [(0, .ref ro), (1, .int x_2), (2, .int 0)]) hl [2, 1, 0] rfl
    have LP22_8 : ∀ (kf : Nat) (x_3 : Int32) (x_4 : Int32), (0 ≤ x_4.toInt ∧ x_4.toInt ≤ 256) → (x_3 = zAd rb (if rt.toInt = 0 then 0 else ((1 : Int32) <<< (ri &&& 31)) - 1) (x_4.toInt).toNat) → (x_4.toInt ≤ ((2 ^ ri.toInt.toNat : Nat) : Int)) → ∀ (H : Heap) (locs : List Loc) (ls : Array Slot), ((257 - x_4.toInt).toNat) < kf → va_P g.1 vwCl (List.flatten [bRi g ro rw ri rt rb]) H → va_D A (List.flatten [bRi g ro rw ri rt rb]) → va_S A s.heap H locs → lv_has ls 3 [(0, .ref ro), (1, .int x_3), (2, .int x_4)] → W p l e ({ frames := 0, cells := 0, slots := 0, locals := 0 } : Room) s m args below meth c H locs (0) (0) (zF g (fun (q : Int32) => some (.int q)) (fun (q : Int32) => (q = zSure rb rt.toInt ri)) (fun (q : Int32) => [bRi g ro rw ri rt rb]) ({ frames := 0, cells := 0, slots := 0, locals := 0 } : Room) below args s A) (F0 m 22 ls []) := by
      intro kf
      induction kf with
      | zero => intro x_3 x_4 i5 i6 i7 H locs ls hk; exact absurd hk (Nat.not_lt_zero _)
      | succ kf ih22_9 =>
        intro x_3 x_4 i5 i6 i7 H locs ls hk22_9 hP hD hS hl
        refine lv_iload_n hx hb dX5_honestInAll_22 rfl (lv_at hl 2 rfl) ?_
        refine lv_iconst (v := 1) hx hb dX5_honestInAll_23 (by decide) ?_
        refine lv_aload_n hx hb dX5_honestInAll_24 rfl (lv_at hl 0 rfl) ?_
        refine va_get (D := g.1) (ci := 5) (v := .int ri) (C := RX5) (T := TX5) (N := 3) hx hb hts izRX5 hown hK hP 0 rfl rfl 1 (by decide) (hts _ k392) (fun _ h9 => h9) rfl dX5_honestInAll_25 ?_
        refine lv_ishl hx hb dX5_honestInAll_28 ?_
        refine zgp2 (P := fun r9 : Int32 => r9.toInt = ((2 ^ ri.toInt.toNat : Nat) : Int) ∧ 1 ≤ r9.toInt ∧ r9.toInt ≤ 256) (zshE ⟨b_ri.1, b_ri.2⟩) (fun x_10 hx_10 => ?_)
        refine lv_icmp_ge (tgt := 51) hx hb dX5_honestInAll_29 (by decide) (fun cb9 => ?_) (fun cb9 => ?_)
        · skip
          have c11 : x_10.toInt ≤ x_4.toInt := zle cb9 rfl rfl
          have n12 : 1 ≤ x_4.toInt := Int.le_trans hx_10.2.1 c11
          refine lv_iload_n hx hb dX5_honestInAll_51 rfl (lv_at hl 1 rfl) ?_
          have hP : va_P g.1 vwCl (List.flatten [bRi g ro rw ri rt rb]) H := hP
          have hD : va_D A (List.flatten [bRi g ro rw ri rt rb]) := hD
          exact mret_i hx hb hr hlocks hS (Nat.le_of_ble_eq_true rfl) (Nat.le_of_ble_eq_true rfl) dX5_honestInAll_52 (x_3) rfl (show (x_3 = zSure rb rt.toInt ri) from (zAd_e i6 (by have h9 := hx_10.1; omega))) hP hD
        · skip
          have c13 : x_4.toInt < x_10.toInt := zlti (Int32.not_le.mp cb9) rfl rfl
          have n14 : x_4.toInt ≤ 255 := zL1 (b := 256) c13 hx_10.2.2 (by decide)
          refine lv_aload_n hx hb dX5_honestInAll_32 rfl (lv_at hl 0 rfl) ?_
          refine va_get (D := g.1) (ci := 5) (v := .ref rw) (C := RX5) (T := TX5) (N := 3) hx hb hts izRX5 hown hK hP 0 rfl rfl 0 (by decide) (hts _ k382) (fun _ h9 => h9) rfl dX5_honestInAll_33 ?_
          refine lv_iload_n hx hb dX5_honestInAll_36 rfl (lv_at hl 2 rfl) ?_
          refine va_zald hx hb hK hP 1 1 rfl rfl (zinK (a := 0) (b := 255) i5.1 n14 (by decide)) dX5_honestInAll_37 ?_
          refine lv_if_eq (tgt := 45) hx hb dX5_honestInAll_38 (by decide) (fun cb9 => ?_) (fun cb9 => ?_)
          · skip
            have c15 : (rb x_4.toNatClampNeg).toInt = 0 := zeq cb9 rfl (by decide)
            have n16 : 0 ≤ (rb x_4.toNatClampNeg).toInt := Int.le_trans (Int.le_refl _) (Int.le_of_eq c15.symm)
            have n17 : (rb x_4.toNatClampNeg).toInt ≤ 0 := Int.le_trans (Int.le_of_eq c15) (Int.le_refl _)
            refine ziinc3 (n' := 1) (a' := 1) (b' := 256) (lv' := fun v9 => [(2, .int v9), (0, .ref ro), (1, .int x_3)]) hx hb dX5_honestInAll_45 hl (k := 2) rfl (by decide) (fun _ => rfl) (zaddK (i := x_4.toInt) (j := 1) rfl (by decide) i5.1 n14 (Int.le_refl _) (Int.le_refl _) (by decide)) (fun x_18 ls hx_18 hl => ?_)
            refine lv_goto (tgt := 22) hx hb dX5_honestInAll_48 (by decide) ?_
            have hl := lv_sub (l' := [(0, .ref ro), (1, .int x_3), (2, .int x_18)]) hl [1, 2, 0] rfl
            have hP : va_P g.1 vwCl (List.flatten [bRi g ro rw ri rt rb]) H := hP
            have hD : va_D A (List.flatten [bRi g ro rw ri rt rb]) := hD
            exact ih22_9 x_3 x_18 ⟨(Int.le_trans (by decide) hx_18.2.1), hx_18.2.2⟩ (zAd_s0 (x := x_4) i6 rfl (by omega) c15 (by omega)) (by first | omega | assumption | decide) H _ ls (zmK hx_18.1 (by decide) n14 (by decide) hk22_9)  hP hD hS (lv_sub hl [0, 1, 2] rfl)
          · skip
            have c19 : ¬ (rb x_4.toNatClampNeg).toInt = 0 := zne cb9 rfl (by decide)
            refine lv_iload_n hx hb dX5_honestInAll_41 rfl (lv_at hl 1 rfl) ?_
            refine lv_iload_n hx hb dX5_honestInAll_42 rfl (lv_at hl 2 rfl) ?_
            refine lv_iand hx hb dX5_honestInAll_43 ?_
            refine zgp2 (P := fun r9 : Int32 => r9 = x_3 &&& x_4) rfl (fun x_20 hx_20 => ?_)
            refine lv_istore_n (lv' := [(1, .int x_20), (0, .ref ro), (2, .int x_4)]) hx hb dX5_honestInAll_44 rfl hl (by decide) rfl (fun ls hl => ?_)
            refine ziinc3 (n' := 1) (a' := 1) (b' := 256) (lv' := fun v9 => [(2, .int v9), (1, .int x_20), (0, .ref ro)]) hx hb dX5_honestInAll_45 hl (k := 2) rfl (by decide) (fun _ => rfl) (zaddK (i := x_4.toInt) (j := 1) rfl (by decide) i5.1 n14 (Int.le_refl _) (Int.le_refl _) (by decide)) (fun x_21 ls hx_21 hl => ?_)
            refine lv_goto (tgt := 22) hx hb dX5_honestInAll_48 (by decide) ?_
            have hl := lv_sub (l' := [(0, .ref ro), (1, .int x_20), (2, .int x_21)]) hl [2, 1, 0] rfl
            have hP : va_P g.1 vwCl (List.flatten [bRi g ro rw ri rt rb]) H := hP
            have hD : va_D A (List.flatten [bRi g ro rw ri rt rb]) := hD
            exact ih22_9 x_20 x_21 ⟨(Int.le_trans (by decide) hx_21.2.1), hx_21.2.2⟩ (zAd_s1 (x := x_4) i6 rfl (by omega) c19 hx_20 (by omega)) (by first | omega | assumption | decide) H _ ls (zmK hx_21.1 (by decide) n14 (by decide) hk22_9)  hP hD hS (lv_sub hl [0, 1, 2] rfl)
    have hL0 : (0 : Int32).toInt = 0 := by decide
    have hP : va_P g.1 vwCl (List.flatten [bRi g ro rw ri rt rb]) s.heap := hP
    have hD : va_D A (List.flatten [bRi g ro rw ri rt rb]) := hD
    exact LP22_8 _ x_2 0 (by decide) (show x_2 = zAd rb (if rt.toInt = 0 then 0 else ((1 : Int32) <<< (ri &&& 31)) - 1) 0 from (hx_2.trans (if_neg c1).symm)) (by first | omega | assumption | exact Int.natCast_nonneg _ | decide) s.heap _ ls (Nat.lt_succ_self _)  hP hD hS (lv_sub hl [0, 1, 2] rfl)
  · skip
    have c22 : rt.toInt = 0 := zeq cb9 rfl (by decide)
    have n23 : 0 ≤ rt.toInt := Int.le_trans (Int.le_refl _) (Int.le_of_eq c22.symm)
    have n24 : rt.toInt ≤ 0 := Int.le_trans (Int.le_of_eq c22) (Int.le_refl _)
    refine lv_iconst (v := 0) hx hb dX5_honestInAll_7 (by decide) ?_
    refine lv_goto (tgt := 19) hx hb dX5_honestInAll_8 (by decide) ?_
    refine lv_istore_n (lv' := [(1, .int 0), (0, .ref ro)]) hx hb dX5_honestInAll_19 rfl hl (by decide) rfl (fun ls hl => ?_)
    refine lv_iconst (v := 0) hx hb dX5_honestInAll_20 (by decide) ?_
    refine lv_istore_n (lv' := [(2, .int 0), (1, .int 0), (0, .ref ro)]) hx hb dX5_honestInAll_21 rfl hl (by decide) rfl (fun ls hl => ?_)
    have hl := lv_sub (l' := [(0, .ref ro), (1, .int 0), (2, .int 0)]) hl [2, 1, 0] rfl
    have LP22_30 : ∀ (kf : Nat) (x_25 : Int32) (x_26 : Int32), (0 ≤ x_26.toInt ∧ x_26.toInt ≤ 256) → (x_25 = zAd rb (if rt.toInt = 0 then 0 else ((1 : Int32) <<< (ri &&& 31)) - 1) (x_26.toInt).toNat) → (x_26.toInt ≤ ((2 ^ ri.toInt.toNat : Nat) : Int)) → ∀ (H : Heap) (locs : List Loc) (ls : Array Slot), ((257 - x_26.toInt).toNat) < kf → va_P g.1 vwCl (List.flatten [bRi g ro rw ri rt rb]) H → va_D A (List.flatten [bRi g ro rw ri rt rb]) → va_S A s.heap H locs → lv_has ls 3 [(0, .ref ro), (1, .int x_25), (2, .int x_26)] → W p l e ({ frames := 0, cells := 0, slots := 0, locals := 0 } : Room) s m args below meth c H locs (0) (0) (zF g (fun (q : Int32) => some (.int q)) (fun (q : Int32) => (q = zSure rb rt.toInt ri)) (fun (q : Int32) => [bRi g ro rw ri rt rb]) ({ frames := 0, cells := 0, slots := 0, locals := 0 } : Room) below args s A) (F0 m 22 ls []) := by
      intro kf
      induction kf with
      | zero => intro x_25 x_26 i27 i28 i29 H locs ls hk; exact absurd hk (Nat.not_lt_zero _)
      | succ kf ih22_31 =>
        intro x_25 x_26 i27 i28 i29 H locs ls hk22_31 hP hD hS hl
        refine lv_iload_n hx hb dX5_honestInAll_22 rfl (lv_at hl 2 rfl) ?_
        refine lv_iconst (v := 1) hx hb dX5_honestInAll_23 (by decide) ?_
        refine lv_aload_n hx hb dX5_honestInAll_24 rfl (lv_at hl 0 rfl) ?_
        refine va_get (D := g.1) (ci := 5) (v := .int ri) (C := RX5) (T := TX5) (N := 3) hx hb hts izRX5 hown hK hP 0 rfl rfl 1 (by decide) (hts _ k392) (fun _ h9 => h9) rfl dX5_honestInAll_25 ?_
        refine lv_ishl hx hb dX5_honestInAll_28 ?_
        refine zgp2 (P := fun r9 : Int32 => r9.toInt = ((2 ^ ri.toInt.toNat : Nat) : Int) ∧ 1 ≤ r9.toInt ∧ r9.toInt ≤ 256) (zshE ⟨b_ri.1, b_ri.2⟩) (fun x_32 hx_32 => ?_)
        refine lv_icmp_ge (tgt := 51) hx hb dX5_honestInAll_29 (by decide) (fun cb9 => ?_) (fun cb9 => ?_)
        · skip
          have c33 : x_32.toInt ≤ x_26.toInt := zle cb9 rfl rfl
          have n34 : 1 ≤ x_26.toInt := Int.le_trans hx_32.2.1 c33
          refine lv_iload_n hx hb dX5_honestInAll_51 rfl (lv_at hl 1 rfl) ?_
          have hP : va_P g.1 vwCl (List.flatten [bRi g ro rw ri rt rb]) H := hP
          have hD : va_D A (List.flatten [bRi g ro rw ri rt rb]) := hD
          exact mret_i hx hb hr hlocks hS (Nat.le_of_ble_eq_true rfl) (Nat.le_of_ble_eq_true rfl) dX5_honestInAll_52 (x_25) rfl (show (x_25 = zSure rb rt.toInt ri) from (zAd_e i28 (by have h9 := hx_32.1; omega))) hP hD
        · skip
          have c35 : x_26.toInt < x_32.toInt := zlti (Int32.not_le.mp cb9) rfl rfl
          have n36 : x_26.toInt ≤ 255 := zL1 (b := 256) c35 hx_32.2.2 (by decide)
          refine lv_aload_n hx hb dX5_honestInAll_32 rfl (lv_at hl 0 rfl) ?_
          refine va_get (D := g.1) (ci := 5) (v := .ref rw) (C := RX5) (T := TX5) (N := 3) hx hb hts izRX5 hown hK hP 0 rfl rfl 0 (by decide) (hts _ k382) (fun _ h9 => h9) rfl dX5_honestInAll_33 ?_
          refine lv_iload_n hx hb dX5_honestInAll_36 rfl (lv_at hl 2 rfl) ?_
          refine va_zald hx hb hK hP 1 1 rfl rfl (zinK (a := 0) (b := 255) i27.1 n36 (by decide)) dX5_honestInAll_37 ?_
          refine lv_if_eq (tgt := 45) hx hb dX5_honestInAll_38 (by decide) (fun cb9 => ?_) (fun cb9 => ?_)
          · skip
            have c37 : (rb x_26.toNatClampNeg).toInt = 0 := zeq cb9 rfl (by decide)
            have n38 : 0 ≤ (rb x_26.toNatClampNeg).toInt := Int.le_trans (Int.le_refl _) (Int.le_of_eq c37.symm)
            have n39 : (rb x_26.toNatClampNeg).toInt ≤ 0 := Int.le_trans (Int.le_of_eq c37) (Int.le_refl _)
            refine ziinc3 (n' := 1) (a' := 1) (b' := 256) (lv' := fun v9 => [(2, .int v9), (0, .ref ro), (1, .int x_25)]) hx hb dX5_honestInAll_45 hl (k := 2) rfl (by decide) (fun _ => rfl) (zaddK (i := x_26.toInt) (j := 1) rfl (by decide) i27.1 n36 (Int.le_refl _) (Int.le_refl _) (by decide)) (fun x_40 ls hx_40 hl => ?_)
            refine lv_goto (tgt := 22) hx hb dX5_honestInAll_48 (by decide) ?_
            have hl := lv_sub (l' := [(0, .ref ro), (1, .int x_25), (2, .int x_40)]) hl [1, 2, 0] rfl
            have hP : va_P g.1 vwCl (List.flatten [bRi g ro rw ri rt rb]) H := hP
            have hD : va_D A (List.flatten [bRi g ro rw ri rt rb]) := hD
            exact ih22_31 x_25 x_40 ⟨(Int.le_trans (by decide) hx_40.2.1), hx_40.2.2⟩ (zAd_s0 (x := x_26) i28 rfl (by omega) c37 (by omega)) (by first | omega | assumption | decide) H _ ls (zmK hx_40.1 (by decide) n36 (by decide) hk22_31)  hP hD hS (lv_sub hl [0, 1, 2] rfl)
          · skip
            have c41 : ¬ (rb x_26.toNatClampNeg).toInt = 0 := zne cb9 rfl (by decide)
            refine lv_iload_n hx hb dX5_honestInAll_41 rfl (lv_at hl 1 rfl) ?_
            refine lv_iload_n hx hb dX5_honestInAll_42 rfl (lv_at hl 2 rfl) ?_
            refine lv_iand hx hb dX5_honestInAll_43 ?_
            refine zgp2 (P := fun r9 : Int32 => r9 = x_25 &&& x_26) rfl (fun x_42 hx_42 => ?_)
            refine lv_istore_n (lv' := [(1, .int x_42), (0, .ref ro), (2, .int x_26)]) hx hb dX5_honestInAll_44 rfl hl (by decide) rfl (fun ls hl => ?_)
            refine ziinc3 (n' := 1) (a' := 1) (b' := 256) (lv' := fun v9 => [(2, .int v9), (1, .int x_42), (0, .ref ro)]) hx hb dX5_honestInAll_45 hl (k := 2) rfl (by decide) (fun _ => rfl) (zaddK (i := x_26.toInt) (j := 1) rfl (by decide) i27.1 n36 (Int.le_refl _) (Int.le_refl _) (by decide)) (fun x_43 ls hx_43 hl => ?_)
            refine lv_goto (tgt := 22) hx hb dX5_honestInAll_48 (by decide) ?_
            have hl := lv_sub (l' := [(0, .ref ro), (1, .int x_42), (2, .int x_43)]) hl [2, 1, 0] rfl
            have hP : va_P g.1 vwCl (List.flatten [bRi g ro rw ri rt rb]) H := hP
            have hD : va_D A (List.flatten [bRi g ro rw ri rt rb]) := hD
            exact ih22_31 x_42 x_43 ⟨(Int.le_trans (by decide) hx_43.2.1), hx_43.2.2⟩ (zAd_s1 (x := x_26) i28 rfl (by omega) c41 hx_42 (by omega)) (by first | omega | assumption | decide) H _ ls (zmK hx_43.1 (by decide) n36 (by decide) hk22_31)  hP hD hS (lv_sub hl [0, 1, 2] rfl)
    have hL0 : (0 : Int32).toInt = 0 := by decide
    have hP : va_P g.1 vwCl (List.flatten [bRi g ro rw ri rt rb]) s.heap := hP
    have hD : va_D A (List.flatten [bRi g ro rw ri rt rb]) := hD
    exact LP22_30 _ 0 0 (by decide) (show (0 : Int32) = zAd rb (if rt.toInt = 0 then 0 else ((1 : Int32) <<< (ri &&& 31)) - 1) 0 from (if_pos c22).symm) (by first | omega | assumption | exact Int.natCast_nonneg _ | decide) s.heap _ ls (Nat.lt_succ_self _)  hP hD hS (lv_sub hl [0, 1, 2] rfl)
set_option maxRecDepth 100000 in
set_option maxHeartbeats 4000000 in
theorem c_t_holdsSaidF (l : Launch) (g : zG) (ta : Nat) (ab : Nat) (sz : Int32) (ln : Int32) (kd : Int32) (bg : Int32) (nx : Int32) (ft : Int32) (fb : Nat → Int32) (n : Int32) (pp : Int32) (b_n : 0 ≤ n.toInt ∧ n.toInt ≤ 36) : zM' g l yX6_holdsSaid (Cond.code yX6_holdsSaid cX6_holdsSaid 6 (some .boolean) :: zB) ({ frames := 0, cells := 0, slots := 0, locals := 0 } : Room) [.ref ta, .int n, .int pp] [bTape g ta ab sz ln kd bg nx ft fb] (fun (q : Int32) => some (.int q)) (fun (q : Int32) => (q = 1 ∧ zSaid fb n.toInt pp.toInt ∨ q = 0 ∧ ¬ zSaid fb n.toInt pp.toInt)) (fun (q : Int32) => [bTape g ta ab sz ln kd bg nx ft fb]) := by
  refine zM'.of (cc := cX6_holdsSaid) (maxL := 6) (rt := (some .boolean)) (by decide) rfl (Nat.le_of_ble_eq_true rfl) ?_
  intro p e s m args below meth c A ls St hr hlocks hin hK hT hA hP hD hS hl
  obtain ⟨hx, hb, hml, hown, hts⟩ := id St
  have hl : lv_has ls 6 [(0, .ref ta), (1, .int n), (2, .int pp)] := hl
  refine lv_iload_n hx hb dX6_holdsSaid_0 rfl (lv_at hl 1 rfl) ?_
  refine lv_iconst (v := 3) hx hb dX6_holdsSaid_1 (by decide) ?_
  refine lv_irem hx hb dX6_holdsSaid_2 (by decide) ?_
  refine zgp2 (P := fun r9 : Int32 => r9.toInt = n.toInt % 3) (zr3m ⟨b_n.1, (Int.le_trans b_n.2 (by decide))⟩) (fun x_1 hx_1 => ?_)
  refine lv_if_eq (tgt := 8) hx hb dX6_holdsSaid_3 (by decide) (fun cb9 => ?_) (fun cb9 => ?_)
  · skip
    have c2 : x_1.toInt = 0 := zeq cb9 rfl (by decide)
    have n3 : 0 ≤ x_1.toInt := Int.le_trans (Int.le_refl _) (Int.le_of_eq c2.symm)
    have n4 : x_1.toInt ≤ 0 := Int.le_trans (Int.le_of_eq c2) (Int.le_refl _)
    refine lv_iconst (v := 0) hx hb dX6_holdsSaid_8 (by decide) ?_
    refine lv_istore_n (lv' := [(3, .int 0), (0, .ref ta), (1, .int n), (2, .int pp)]) hx hb dX6_holdsSaid_9 rfl hl (by decide) rfl (fun ls hl => ?_)
    have hl := lv_sub (l' := [(0, .ref ta), (1, .int n), (2, .int pp), (3, .int 0)]) hl [1, 2, 3, 0] rfl
    have LP10_8 : ∀ (kf : Nat) (x_5 : Int32), (0 ≤ x_5.toInt ∧ x_5.toInt ≤ 39) → (zSi fb pp.toInt x_5.toInt) → ∀ (H : Heap) (locs : List Loc) (ls : Array Slot), ((40 - x_5.toInt).toNat) < kf → va_P g.1 vwCl (List.flatten [bTape g ta ab sz ln kd bg nx ft fb]) H → va_D A (List.flatten [bTape g ta ab sz ln kd bg nx ft fb]) → va_S A s.heap H locs → lv_has ls 6 [(0, .ref ta), (1, .int n), (2, .int pp), (3, .int x_5)] → W p l e ({ frames := 0, cells := 0, slots := 0, locals := 0 } : Room) s m args below meth c H locs (0) (0) (zF g (fun (q : Int32) => some (.int q)) (fun (q : Int32) => (q = 1 ∧ zSaid fb n.toInt pp.toInt ∨ q = 0 ∧ ¬ zSaid fb n.toInt pp.toInt)) (fun (q : Int32) => [bTape g ta ab sz ln kd bg nx ft fb]) ({ frames := 0, cells := 0, slots := 0, locals := 0 } : Room) below args s A) (F0 m 10 ls []) := by
      intro kf
      induction kf with
      | zero => intro x_5 i6 i7 H locs ls hk; exact absurd hk (Nat.not_lt_zero _)
      | succ kf ih10_9 =>
        intro x_5 i6 i7 H locs ls hk10_9 hP hD hS hl
        refine lv_iload_n hx hb dX6_holdsSaid_10 rfl (lv_at hl 3 rfl) ?_
        refine lv_iconst (v := 2) hx hb dX6_holdsSaid_11 (by decide) ?_
        refine lv_iadd hx hb dX6_holdsSaid_12 ?_
        refine zg3 (zaddK (i := x_5.toInt) (j := 2) (a' := 2) (b' := 41) rfl (by decide) i6.1 i6.2 (Int.le_refl _) (Int.le_refl _) (by decide)) (fun x_10 hx_10 => ?_)
        refine lv_iload_n hx hb dX6_holdsSaid_13 rfl (lv_at hl 1 rfl) ?_
        refine lv_icmp_ge (tgt := 74) hx hb dX6_holdsSaid_14 (by decide) (fun cb9 => ?_) (fun cb9 => ?_)
        · skip
          have c11 : n.toInt ≤ x_10.toInt := zle cb9 rfl rfl
          refine lv_iconst (v := 1) hx hb dX6_holdsSaid_74 (by decide) ?_
          have hP : va_P g.1 vwCl (List.flatten [bTape g ta ab sz ln kd bg nx ft fb]) H := hP
          have hD : va_D A (List.flatten [bTape g ta ab sz ln kd bg nx ft fb]) := hD
          exact mret_z hx hb hr hlocks hS (Nat.le_of_ble_eq_true rfl) (Nat.le_of_ble_eq_true rfl) dX6_holdsSaid_75 ((1 : Int32)) rfl (by decide) (show (1 = 1 ∧ zSaid fb n.toInt pp.toInt ∨ 1 = 0 ∧ ¬ zSaid fb n.toInt pp.toInt) from (Or.inl ⟨rfl, zSi_e i7 (by omega) (by omega) (by omega)⟩)) hP hD
        · skip
          have c12 : x_10.toInt < n.toInt := zlti (Int32.not_le.mp cb9) rfl rfl
          have n13 : x_10.toInt ≤ 35 := zL1 (b := 36) c12 b_n.2 (by decide)
          have n14 : 3 ≤ n.toInt := zL2 (a := 2) c12 hx_10.2.1 (by decide)
          refine lv_aload_n hx hb dX6_holdsSaid_17 rfl (lv_at hl 0 rfl) ?_
          refine va_get (D := g.1) (ci := 6) (v := .ref ab) (C := RX6) (T := TX6) (N := 7) hx hb hts izRX6 hown hK hP 0 rfl rfl 0 (by decide) (hts _ k261) (fun _ h9 => h9) rfl dX6_holdsSaid_18 ?_
          refine lv_iload_n hx hb dX6_holdsSaid_21 rfl (lv_at hl 3 rfl) ?_
          refine va_iald hx hb hK hP 1 0 rfl rfl (zinK (a := 0) (b := 39) i6.1 i6.2 (by decide)) dX6_holdsSaid_22 ?_
          refine lv_istore (lv' := [(4, .int (fb x_5.toNatClampNeg)), (0, .ref ta), (1, .int n), (2, .int pp), (3, .int x_5)]) hx hb dX6_holdsSaid_23 hl (by decide) rfl (fun ls hl => ?_)
          refine lv_aload_n hx hb dX6_holdsSaid_25 rfl (lv_at hl 1 rfl) ?_
          refine va_get (D := g.1) (ci := 6) (v := .ref ab) (C := RX6) (T := TX6) (N := 7) hx hb hts izRX6 hown hK hP 0 rfl rfl 0 (by decide) (hts _ k261) (fun _ h9 => h9) rfl dX6_holdsSaid_26 ?_
          refine lv_iload_n hx hb dX6_holdsSaid_29 rfl (lv_at hl 4 rfl) ?_
          refine lv_iconst (v := 1) hx hb dX6_holdsSaid_30 (by decide) ?_
          refine lv_iadd hx hb dX6_holdsSaid_31 ?_
          refine zg3 (zaddK (i := x_5.toInt) (j := 1) (a' := 1) (b' := 40) rfl (by decide) i6.1 i6.2 (Int.le_refl _) (Int.le_refl _) (by decide)) (fun x_15 hx_15 => ?_)
          refine va_iald hx hb hK hP 1 0 rfl rfl (zinK (a := 1) (b := 40) hx_15.2.1 hx_15.2.2 (by decide)) dX6_holdsSaid_32 ?_
          refine lv_istore (lv' := [(5, .int (fb x_15.toNatClampNeg)), (4, .int (fb x_5.toNatClampNeg)), (0, .ref ta), (1, .int n), (2, .int pp), (3, .int x_5)]) hx hb dX6_holdsSaid_33 hl (by decide) rfl (fun ls hl => ?_)
          refine lv_iload hx hb dX6_holdsSaid_35 (lv_at hl 1 rfl) ?_
          refine lv_iload_n hx hb dX6_holdsSaid_37 rfl (lv_at hl 4 rfl) ?_
          refine lv_icmp_ge (tgt := 66) hx hb dX6_holdsSaid_38 (by decide) (fun cb9 => ?_) (fun cb9 => ?_)
          · skip
            have c16 : pp.toInt ≤ (fb x_5.toNatClampNeg).toInt := zle cb9 rfl rfl
            refine lv_iconst (v := 0) hx hb dX6_holdsSaid_66 (by decide) ?_
            have hP : va_P g.1 vwCl (List.flatten [bTape g ta ab sz ln kd bg nx ft fb]) H := hP
            have hD : va_D A (List.flatten [bTape g ta ab sz ln kd bg nx ft fb]) := hD
            exact mret_z hx hb hr hlocks hS (Nat.le_of_ble_eq_true rfl) (Nat.le_of_ble_eq_true rfl) dX6_holdsSaid_67 ((0 : Int32)) rfl (by decide) (show (0 = 1 ∧ zSaid fb n.toInt pp.toInt ∨ 0 = 0 ∧ ¬ zSaid fb n.toInt pp.toInt) from (Or.inr ⟨rfl, zSi_x (x0 := x_5) (x1 := x_15) (x2 := (x_5 + 2)) i7 (by omega) rfl (by omega) (zadd (i := x_5.toInt) (j := 2) rfl (by decide) (by omega)) (by omega)⟩)) hP hD
          · skip
            have c17 : (fb x_5.toNatClampNeg).toInt < pp.toInt := zlti (Int32.not_le.mp cb9) rfl rfl
            refine lv_iload hx hb dX6_holdsSaid_41 (lv_at hl 0 rfl) ?_
            refine lv_iload_n hx hb dX6_holdsSaid_43 rfl (lv_at hl 4 rfl) ?_
            refine lv_icmp_ge (tgt := 66) hx hb dX6_holdsSaid_44 (by decide) (fun cb9 => ?_) (fun cb9 => ?_)
            · skip
              have c18 : pp.toInt ≤ (fb x_15.toNatClampNeg).toInt := zle cb9 rfl rfl
              refine lv_iconst (v := 0) hx hb dX6_holdsSaid_66 (by decide) ?_
              have hP : va_P g.1 vwCl (List.flatten [bTape g ta ab sz ln kd bg nx ft fb]) H := hP
              have hD : va_D A (List.flatten [bTape g ta ab sz ln kd bg nx ft fb]) := hD
              exact mret_z hx hb hr hlocks hS (Nat.le_of_ble_eq_true rfl) (Nat.le_of_ble_eq_true rfl) dX6_holdsSaid_67 ((0 : Int32)) rfl (by decide) (show (0 = 1 ∧ zSaid fb n.toInt pp.toInt ∨ 0 = 0 ∧ ¬ zSaid fb n.toInt pp.toInt) from (Or.inr ⟨rfl, zSi_x (x0 := x_5) (x1 := x_15) (x2 := (x_5 + 2)) i7 (by omega) rfl (by omega) (zadd (i := x_5.toInt) (j := 2) rfl (by decide) (by omega)) (by omega)⟩)) hP hD
            · skip
              have c19 : (fb x_15.toNatClampNeg).toInt < pp.toInt := zlti (Int32.not_le.mp cb9) rfl rfl
              refine lv_iload hx hb dX6_holdsSaid_47 (lv_at hl 1 rfl) ?_
              refine lv_iload hx hb dX6_holdsSaid_49 (lv_at hl 0 rfl) ?_
              refine lv_icmp_eq (tgt := 66) hx hb dX6_holdsSaid_51 (by decide) (fun cb9 => ?_) (fun cb9 => ?_)
              · skip
                have c20 : (fb x_5.toNatClampNeg).toInt = (fb x_15.toNatClampNeg).toInt := zeq cb9 rfl rfl
                refine lv_iconst (v := 0) hx hb dX6_holdsSaid_66 (by decide) ?_
                have hP : va_P g.1 vwCl (List.flatten [bTape g ta ab sz ln kd bg nx ft fb]) H := hP
                have hD : va_D A (List.flatten [bTape g ta ab sz ln kd bg nx ft fb]) := hD
                exact mret_z hx hb hr hlocks hS (Nat.le_of_ble_eq_true rfl) (Nat.le_of_ble_eq_true rfl) dX6_holdsSaid_67 ((0 : Int32)) rfl (by decide) (show (0 = 1 ∧ zSaid fb n.toInt pp.toInt ∨ 0 = 0 ∧ ¬ zSaid fb n.toInt pp.toInt) from (Or.inr ⟨rfl, zSi_x (x0 := x_5) (x1 := x_15) (x2 := (x_5 + 2)) i7 (by omega) rfl (by omega) (zadd (i := x_5.toInt) (j := 2) rfl (by decide) (by omega)) (by omega)⟩)) hP hD
              · skip
                have c21 : ¬ (fb x_5.toNatClampNeg).toInt = (fb x_15.toNatClampNeg).toInt := zne cb9 rfl rfl
                refine lv_aload_n hx hb dX6_holdsSaid_54 rfl (lv_at hl 2 rfl) ?_
                refine va_get (D := g.1) (ci := 6) (v := .ref ab) (C := RX6) (T := TX6) (N := 7) hx hb hts izRX6 hown hK hP 0 rfl rfl 0 (by decide) (hts _ k261) (fun _ h9 => h9) rfl dX6_holdsSaid_55 ?_
                refine lv_iload_n hx hb dX6_holdsSaid_58 rfl (lv_at hl 5 rfl) ?_
                refine lv_iconst (v := 2) hx hb dX6_holdsSaid_59 (by decide) ?_
                refine lv_iadd hx hb dX6_holdsSaid_60 ?_
                refine zg3 (zaddK (i := x_5.toInt) (j := 2) (a' := 2) (b' := 41) rfl (by decide) i6.1 i6.2 (Int.le_refl _) (Int.le_refl _) (by decide)) (fun x_22 hx_22 => ?_)
                refine va_iald hx hb hK hP 1 0 rfl rfl (zinK (a := 2) (b := 41) hx_22.2.1 hx_22.2.2 (by decide)) dX6_holdsSaid_61 ?_
                refine lv_iconst (v := 1) hx hb dX6_holdsSaid_62 (by decide) ?_
                refine lv_icmp_le (tgt := 68) hx hb dX6_holdsSaid_63 (by decide) (fun cb9 => ?_) (fun cb9 => ?_)
                · skip
                  have c23 : (fb x_22.toNatClampNeg).toInt ≤ 1 := zle cb9 rfl (by decide)
                  have n24 : (fb x_22.toNatClampNeg).toInt ≤ 1 := Int.le_trans c23 (Int.le_refl _)
                  refine ziinc3 (n' := 3) (a' := 3) (b' := 42) (lv' := fun v9 => [(3, .int v9), (5, .int (fb x_15.toNatClampNeg)), (4, .int (fb x_5.toNatClampNeg)), (0, .ref ta), (1, .int n), (2, .int pp)]) hx hb dX6_holdsSaid_68 hl (k := 5) rfl (by decide) (fun _ => rfl) (zaddK (i := x_5.toInt) (j := 3) rfl (by decide) i6.1 i6.2 (Int.le_refl _) (Int.le_refl _) (by decide)) (fun x_25 ls hx_25 hl => ?_)
                  refine lv_goto (tgt := 10) hx hb dX6_holdsSaid_71 (by decide) ?_
                  have hl := lv_sub (l' := [(0, .ref ta), (1, .int n), (2, .int pp), (3, .int x_25), (4, .int (fb x_5.toNatClampNeg)), (5, .int (fb x_15.toNatClampNeg))]) hl [3, 4, 5, 0, 2, 1] rfl
                  have hP : va_P g.1 vwCl (List.flatten [bTape g ta ab sz ln kd bg nx ft fb]) H := hP
                  have hD : va_D A (List.flatten [bTape g ta ab sz ln kd bg nx ft fb]) := hD
                  exact ih10_9 x_25 (by first | omega | assumption | decide) (zSi_s (x0 := x_5) (x1 := x_15) (x2 := x_22) i7 rfl (by omega) (by omega) (by omega) (by omega)) H _ ls (by omega)  hP hD hS (lv_sub hl [0, 1, 2, 3] rfl)
                · skip
                  have c26 : 1 < (fb x_22.toNatClampNeg).toInt := zlti (Int32.not_le.mp cb9) (by decide) rfl
                  have n27 : 2 ≤ (fb x_22.toNatClampNeg).toInt := zL2 (a := 1) c26 (Int.le_refl _) (by decide)
                  refine lv_iconst (v := 0) hx hb dX6_holdsSaid_66 (by decide) ?_
                  have hP : va_P g.1 vwCl (List.flatten [bTape g ta ab sz ln kd bg nx ft fb]) H := hP
                  have hD : va_D A (List.flatten [bTape g ta ab sz ln kd bg nx ft fb]) := hD
                  exact mret_z hx hb hr hlocks hS (Nat.le_of_ble_eq_true rfl) (Nat.le_of_ble_eq_true rfl) dX6_holdsSaid_67 ((0 : Int32)) rfl (by decide) (show (0 = 1 ∧ zSaid fb n.toInt pp.toInt ∨ 0 = 0 ∧ ¬ zSaid fb n.toInt pp.toInt) from (Or.inr ⟨rfl, zSi_x (x0 := x_5) (x1 := x_15) (x2 := x_22) i7 (by omega) rfl (by omega) (by omega) (by omega)⟩)) hP hD
    have hL0 : (0 : Int32).toInt = 0 := by decide
    have hP : va_P g.1 vwCl (List.flatten [bTape g ta ab sz ln kd bg nx ft fb]) s.heap := hP
    have hD : va_D A (List.flatten [bTape g ta ab sz ln kd bg nx ft fb]) := hD
    exact LP10_8 _ 0 (by decide) (zSi_0 (by decide)) s.heap _ ls (Nat.lt_succ_self _)  hP hD hS (lv_sub hl [0, 1, 2, 3] rfl)
  · skip
    have c28 : ¬ x_1.toInt = 0 := zne cb9 rfl (by decide)
    refine lv_iconst (v := 0) hx hb dX6_holdsSaid_6 (by decide) ?_
    have hP : va_P g.1 vwCl (List.flatten [bTape g ta ab sz ln kd bg nx ft fb]) s.heap := hP
    have hD : va_D A (List.flatten [bTape g ta ab sz ln kd bg nx ft fb]) := hD
    exact mret_z hx hb hr hlocks hS (Nat.le_of_ble_eq_true rfl) (Nat.le_of_ble_eq_true rfl) dX6_holdsSaid_7 ((0 : Int32)) rfl (by decide) (show (0 = 1 ∧ zSaid fb n.toInt pp.toInt ∨ 0 = 0 ∧ ¬ zSaid fb n.toInt pp.toInt) from (Or.inr ⟨rfl, fun h9 => absurd h9.2.1 (by omega)⟩)) hP hD
set_option maxRecDepth 100000 in
set_option maxHeartbeats 4000000 in
theorem c_x_nwF_0_36 (l : Launch) (hfl : l.stackTraces = false) (g : zG) (x : Nat) (ta : Nat) (o : Nat) (lo : Nat) (go : Nat) (tt : Nat) (lt : Nat) (mo : Nat) (fo : Nat) (ro : Nat) (fl9 : Int32) (n : Int32)  : zX' g l yX11_needWithin (Cond.code yX11_needWithin cX11_needWithin 4 none :: zB) ({ frames := 6, cells := 1, slots := 6, locals := 82 } : Room) [.ref x, .int n, .int 0, .int 36] [bDR g x ta o lo go tt lt mo fo ro fl9] (fun _ : Unit => none) (fun _ : Unit => (0 ≤ n.toInt ∧ n.toInt ≤ 36)) (fun _ : Unit => [bDR g x ta o lo go tt lt mo fo ro fl9]) (fun (E : String) (_ : Unit) => (E = "java/lang/IllegalArgumentException") ∧ (¬ (0 ≤ n.toInt ∧ n.toInt ≤ 36))) (fun _ : Unit => [bDR g x ta o lo go tt lt mo fo ro fl9]) := by
  refine zX'.of (cc := cX11_needWithin) (maxL := 4) (rt := none) (by decide) rfl (Nat.le_of_ble_eq_true rfl) ?_
  intro p e s m args below meth c A ls St hr hlocks htab hin hK hT hA hP hD hS hl
  obtain ⟨hx, hb, hml, hown, hts⟩ := id St
  have hl : lv_has ls 4 [(0, .ref x), (1, .int n), (2, .int 0), (3, .int 36)] := hl
  refine lv_iload_n hx hb dX11_needWithin_0 rfl (lv_at hl 1 rfl) ?_
  refine lv_iload_n hx hb dX11_needWithin_1 rfl (lv_at hl 2 rfl) ?_
  refine lv_icmp_lt (tgt := 10) hx hb dX11_needWithin_2 (by decide) (fun cb9 => ?_) (fun cb9 => ?_)
  · skip
    have c1 : n.toInt < 0 := zlti cb9 rfl (by decide)
    have n2 : n.toInt ≤ (-1) := zL1 (b := 0) c1 (Int.le_refl _) (by decide)
    obtain ⟨sa3, hsa3⟩ := hT.1.2.2.1 _ (List.mem_of_getElem? (i := 10) rfl)
    exact vx_throwSW (A := A) (names := ["java/lang/RuntimeException", "java/lang/Exception"]) hx hb hfl hown (by decide +kernel) (by decide +kernel) (hts _ k576) (hts _ k577) hsa3 (zhat hat_RX11_110_IllegalArgumentExceptiona hat_RX11_110_IllegalArgumentExceptionb hts (hT.1.2.2.2.2.1 _ (List.mem_of_getElem? (i := 1) rfl))) hat_RX11_110_IllegalArgumentExceptionc hT.1.1 hT.1.2.1 hS (by rw [hml]; exact hl.1) dX11_needWithin_10 dX11_needWithin_13 dX11_needWithin_14 dX11_needWithin_17 dX11_needWithin_20 (fun x hx => (htab x hx).elim) (Nat.le_of_ble_eq_true rfl) (Nat.le_of_ble_eq_true rfl) (Nat.le_of_ble_eq_true rfl) (Nat.le_of_ble_eq_true rfl) hlocks (fun t ht hz hk => ⟨⟨(), ⟨rfl, (show ¬ (0 ≤ n.toInt ∧ n.toInt ≤ 36) from (by first | assumption | omega | exact fun h9 => absurd h9.2.2 (by assumption)))⟩, hP.kept (fun k q hq => hk q.1 (hP k q hq).lt), hD⟩, ⟨Nat.le_trans hS.1 hz, fun q h1 h2 => (hk q (Nat.lt_of_lt_of_le h1 hS.1)).trans (hS.2.1 q h1 h2)⟩⟩) hS.2.2 (Nat.le_of_ble_eq_true rfl) (Nat.le_of_ble_eq_true rfl)
  · skip
    have c4 : 0 ≤ n.toInt := zle (Int32.not_lt.mp cb9) (by decide) rfl
    have n5 : 0 ≤ n.toInt := Int.le_trans (Int.le_refl _) c4
    refine lv_iload_n hx hb dX11_needWithin_5 rfl (lv_at hl 1 rfl) ?_
    refine lv_iload_n hx hb dX11_needWithin_6 rfl (lv_at hl 3 rfl) ?_
    refine lv_icmp_le (tgt := 21) hx hb dX11_needWithin_7 (by decide) (fun cb9 => ?_) (fun cb9 => ?_)
    · skip
      have c6 : n.toInt ≤ 36 := zle cb9 rfl (by decide)
      have n7 : n.toInt ≤ 36 := Int.le_trans c6 (Int.le_refl _)
      have hP : va_P g.1 vwCl (List.flatten [bDR g x ta o lo go tt lt mo fo ro fl9]) s.heap := hP
      have hD : va_D A (List.flatten [bDR g x ta o lo go tt lt mo fo ro fl9]) := hD
      exact zret_v hx hb hr hlocks hS (Nat.le_of_ble_eq_true rfl) (Nat.le_of_ble_eq_true rfl) dX11_needWithin_21 () rfl (show (0 ≤ n.toInt ∧ n.toInt ≤ 36) from (by first | assumption | omega | decide | exact rfl | exact zb01 (by omega) | exact Or.inl (by decide) | exact Or.inr (by first | omega | decide))) hP hD
    · skip
      have c8 : 36 < n.toInt := zlti (Int32.not_le.mp cb9) (by decide) rfl
      have n9 : 37 ≤ n.toInt := zL2 (a := 36) c8 (Int.le_refl _) (by decide)
      obtain ⟨sa10, hsa10⟩ := hT.1.2.2.1 _ (List.mem_of_getElem? (i := 10) rfl)
      exact vx_throwSW (A := A) (names := ["java/lang/RuntimeException", "java/lang/Exception"]) hx hb hfl hown (by decide +kernel) (by decide +kernel) (hts _ k576) (hts _ k577) hsa10 (zhat hat_RX11_110_IllegalArgumentExceptiona hat_RX11_110_IllegalArgumentExceptionb hts (hT.1.2.2.2.2.1 _ (List.mem_of_getElem? (i := 1) rfl))) hat_RX11_110_IllegalArgumentExceptionc hT.1.1 hT.1.2.1 hS (by rw [hml]; exact hl.1) dX11_needWithin_10 dX11_needWithin_13 dX11_needWithin_14 dX11_needWithin_17 dX11_needWithin_20 (fun x hx => (htab x hx).elim) (Nat.le_of_ble_eq_true rfl) (Nat.le_of_ble_eq_true rfl) (Nat.le_of_ble_eq_true rfl) (Nat.le_of_ble_eq_true rfl) hlocks (fun t ht hz hk => ⟨⟨(), ⟨rfl, (show ¬ (0 ≤ n.toInt ∧ n.toInt ≤ 36) from (by first | assumption | omega | exact fun h9 => absurd h9.2.2 (by assumption)))⟩, hP.kept (fun k q hq => hk q.1 (hP k q hq).lt), hD⟩, ⟨Nat.le_trans hS.1 hz, fun q h1 h2 => (hk q (Nat.lt_of_lt_of_le h1 hS.1)).trans (hS.2.1 q h1 h2)⟩⟩) hS.2.2 (Nat.le_of_ble_eq_true rfl) (Nat.le_of_ble_eq_true rfl)
set_option maxRecDepth 100000 in
set_option maxHeartbeats 4000000 in
theorem c_x_needSaidF (l : Launch) (hfl : l.stackTraces = false) (g : zG) (x : Nat) (ta : Nat) (o : Nat) (lo : Nat) (go : Nat) (tt : Nat) (lt : Nat) (mo : Nat) (fo : Nat) (ro : Nat) (fl9 : Int32) (a : Nat → Nat) (pe : Int32) (wo : Int32) (tx : Int32) (ch : Int32) (jo : Int32) (tr : Int32) (dy : Int32) (sd : Int32) (f : Nat → Nat → Int32) (ab : Nat) (sz : Int32) (ln : Int32) (kd : Int32) (bg : Int32) (nx : Int32) (ft : Int32) (fb : Nat → Int32) (ln9 : Int32) (b_pe : 0 ≤ pe.toInt ∧ pe.toInt ≤ 8) (b_wo : 0 ≤ wo.toInt ∧ wo.toInt ≤ 6) (rf : zZ4 f) (b_sz : 0 ≤ sz.toInt ∧ sz.toInt ≤ 400) (b_ln9 : 0 ≤ ln9.toInt ∧ ln9.toInt ≤ 400) : zX' g l yX11_needSaid (Cond.code yX11_needSaid cX11_needSaid 2 none :: zB) ({ frames := 7, cells := 2, slots := 12, locals := 105 } : Room) [.ref x, .int ln9] [bDR g x ta o lo go tt lt mo fo ro fl9, bTown g o a pe wo tx ch jo tr dy sd f, bTape g ta ab sz ln kd bg nx ft fb] (fun _ : Unit => none) (fun _ : Unit => (0 ≤ ln9.toInt ∧ ln9.toInt ≤ 36) ∧ (zSaid fb ln9.toInt pe.toInt)) (fun _ : Unit => [bDR g x ta o lo go tt lt mo fo ro fl9, bTown g o a pe wo tx ch jo tr dy sd f, bTape g ta ab sz ln kd bg nx ft fb]) (fun (E : String) (_ : Unit) => (E = "java/lang/IllegalArgumentException") ∧ (¬ (ln9.toInt ≤ 36 ∧ zSaid fb ln9.toInt pe.toInt))) (fun _ : Unit => [bDR g x ta o lo go tt lt mo fo ro fl9, bTown g o a pe wo tx ch jo tr dy sd f, bTape g ta ab sz ln kd bg nx ft fb]) := by
  refine zX'.of (cc := cX11_needSaid) (maxL := 2) (rt := none) (by decide) rfl (Nat.le_of_ble_eq_true rfl) ?_
  intro p e s m args below meth c A ls St hr hlocks htab hin hK hT hA hP hD hS hl
  obtain ⟨hx, hb, hml, hown, hts⟩ := id St
  have hl : lv_has ls 2 [(0, .ref x), (1, .int ln9)] := hl
  refine lv_aload_n hx hb dX11_needSaid_0 rfl (lv_at hl 0 rfl) ?_
  refine lv_iload_n hx hb dX11_needSaid_1 rfl (lv_at hl 1 rfl) ?_
  refine lv_iconst (v := 0) hx hb dX11_needSaid_2 (by decide) ?_
  refine lv_bipush (v := 36) hx hb dX11_needSaid_3 (by decide) ?_
  refine xcallV' (g := g) (q0 := 0) (ci := 9) (As := [.int ln9, .int 0, .int 36]) (rest := []) St hK hT hA hP hD hS hl.1 [0] [1, 2] rfl rfl rfl (c_x_nwF_0_36 l hfl g x ta o lo go tt lt mo fo ro fl9 ln9 ) (cwV 3 hts (zgL (zl4 k668 k669 k670 k621) k667) rfl rfl rfl (by decide +kernel) ⟨Nat.le_of_ble_eq_true rfl, Nat.le_of_ble_eq_true rfl⟩) rfl rfl rfl rfl (Nat.le_of_ble_eq_true rfl) dX11_needSaid_5 ⟨(Nat.le_of_ble_eq_true rfl), (Nat.le_of_ble_eq_true rfl)⟩ (fun E ce q9 u9 H locs hpx hP hD hS hce hcv hcl => ?_) (fun _u H locs hq1 hP hD hS => ?_)
  · skip
    have hpx : (E = "java/lang/IllegalArgumentException") ∧ (¬ (0 ≤ ln9.toInt ∧ ln9.toInt ≤ 36)) := hpx
    have hP : va_P g.1 vwCl (List.flatten [bTown g o a pe wo tx ch jo tr dy sd f, bTape g ta ab sz ln kd bg nx ft fb, bDR g x ta o lo go tt lt mo fo ro fl9]) H := hP
    have hD : va_D A (List.flatten [bTown g o a pe wo tx ch jo tr dy sd f, bTape g ta ab sz ln kd bg nx ft fb, bDR g x ta o lo go tt lt mo fo ro fl9]) := hD
    obtain ⟨hE9, hy2⟩ := hpx
    have hP : va_P g.1 vwCl (List.flatten [bTown g o a pe wo tx ch jo tr dy sd f, bTape g ta ab sz ln kd bg nx ft fb, bDR g x ta o lo go tt lt mo fo ro fl9]) H := hP
    have hD : va_D A (List.flatten [bTown g o a pe wo tx ch jo tr dy sd f, bTape g ta ab sz ln kd bg nx ft fb, bDR g x ta o lo go tt lt mo fo ro fl9]) := hD
    obtain ⟨hP, hD⟩ := zord (g := g) (Bs' := [bDR g x ta o lo go tt lt mo fo ro fl9, bTown g o a pe wo tx ch jo tr dy sd f, bTape g ta ab sz ln kd bg nx ft fb]) [2, 0, 1] rfl rfl hP hD
    exact zout htab hlocks hS (Nat.le_of_ble_eq_true rfl) (Nat.le_of_ble_eq_true rfl) hce hcv hcl () (show (E = "java/lang/IllegalArgumentException") ∧ (¬ (ln9.toInt ≤ 36 ∧ zSaid fb ln9.toInt pe.toInt)) from ⟨hE9, (show ¬ (ln9.toInt ≤ 36 ∧ zSaid fb ln9.toInt pe.toInt) from (by first | assumption | omega | exact fun h9 => absurd h9.2 (by assumption)))⟩) hP hD
  · skip
    replace hq1 : (0 ≤ ln9.toInt ∧ ln9.toInt ≤ 36) := hq1
    have hP : va_P g.1 vwCl (List.flatten [bTown g o a pe wo tx ch jo tr dy sd f, bTape g ta ab sz ln kd bg nx ft fb, bDR g x ta o lo go tt lt mo fo ro fl9]) H := hP
    have hD : va_D A (List.flatten [bTown g o a pe wo tx ch jo tr dy sd f, bTape g ta ab sz ln kd bg nx ft fb, bDR g x ta o lo go tt lt mo fo ro fl9]) := hD
    refine W.widen (k := 1) (n := 6) (Nat.le_of_ble_eq_true rfl) (Nat.le_of_ble_eq_true rfl) ?_
    refine W.eq (g2 := F0 m 8 ls []) rfl ?_
    refine lv_aload_n hx hb dX11_needSaid_8 rfl (lv_at hl 0 rfl) ?_
    refine va_get (D := g.1) (ci := 9) (v := .ref ta) (C := RX11) (T := TX11) (N := 10) hx hb hts izRX11 hown hK hP 14 rfl rfl 0 (by decide) (hts _ k536) (fun _ h9 => h9) rfl dX11_needSaid_9 ?_
    refine lv_iload_n hx hb dX11_needSaid_12 rfl (lv_at hl 1 rfl) ?_
    refine lv_aload_n hx hb dX11_needSaid_13 rfl (lv_at hl 0 rfl) ?_
    refine va_get (D := g.1) (ci := 9) (v := .ref o) (C := RX11) (T := TX11) (N := 10) hx hb hts izRX11 hown hK hP 14 rfl rfl 1 (by decide) (hts _ k538) (fun _ h9 => h9) rfl dX11_needSaid_14 ?_
    refine va_get (D := g.1) (ci := 7) (v := .int pe) (C := RX9) (T := TX9) (N := 19) hx hb hts izRX9 hown hK hP 0 rfl rfl 0 (by decide) (hts _ k610) (fun _ h9 => h9) rfl dX11_needSaid_17 ?_
    refine mcallV' (g := g) (q0 := 0) (ci := 6) (As := [.int ln9, .int pe]) (rest := []) St hK hT hA hP hD hS hl.1 [1] [0, 2] rfl rfl rfl (c_t_holdsSaidF l g ta ab sz ln kd bg nx ft fb ln9 pe hq1) (cwV 2 hts (zgL (zl4 k734 k735 k736 k277) k427) rfl rfl rfl (by decide +kernel) ⟨Nat.le_of_ble_eq_true rfl, Nat.le_of_ble_eq_true rfl⟩) rfl rfl rfl rfl (Nat.le_of_ble_eq_true rfl) dX11_needSaid_20 ⟨(Nat.le_of_ble_eq_true rfl), (Nat.le_of_ble_eq_true rfl)⟩ (fun q_3 H locs hq4 hP hD hS => ?_)
    replace hq4 : (q_3 = 1 ∧ zSaid fb ln9.toInt pe.toInt ∨ q_3 = 0 ∧ ¬ zSaid fb ln9.toInt pe.toInt) := hq4
    have hP : va_P g.1 vwCl (List.flatten [bTown g o a pe wo tx ch jo tr dy sd f, bDR g x ta o lo go tt lt mo fo ro fl9, bTape g ta ab sz ln kd bg nx ft fb]) H := hP
    have hD : va_D A (List.flatten [bTown g o a pe wo tx ch jo tr dy sd f, bDR g x ta o lo go tt lt mo fo ro fl9, bTape g ta ab sz ln kd bg nx ft fb]) := hD
    refine W.widen (k := 1) (n := 6) (Nat.le_of_ble_eq_true rfl) (Nat.le_of_ble_eq_true rfl) ?_
    refine W.eq (g2 := F0 m 23 ls [.int q_3]) rfl ?_
    rcases hq4 with ⟨rfl, hq4_k⟩ | ⟨rfl, hq4_k⟩
    · skip
      refine lv_if_ne (tgt := 37) hx hb dX11_needSaid_23 (by decide) (fun _ => ?_) (fun c5 => absurd c5 (by decide))
      have hP : va_P g.1 vwCl (List.flatten [bTown g o a pe wo tx ch jo tr dy sd f, bDR g x ta o lo go tt lt mo fo ro fl9, bTape g ta ab sz ln kd bg nx ft fb]) H := hP
      have hD : va_D A (List.flatten [bTown g o a pe wo tx ch jo tr dy sd f, bDR g x ta o lo go tt lt mo fo ro fl9, bTape g ta ab sz ln kd bg nx ft fb]) := hD
      obtain ⟨hP, hD⟩ := zord (g := g) (Bs' := [bDR g x ta o lo go tt lt mo fo ro fl9, bTown g o a pe wo tx ch jo tr dy sd f, bTape g ta ab sz ln kd bg nx ft fb]) [1, 0, 2] rfl rfl hP hD
      exact zret_v hx hb hr hlocks hS (Nat.le_of_ble_eq_true rfl) (Nat.le_of_ble_eq_true rfl) dX11_needSaid_37 () rfl (show (0 ≤ ln9.toInt ∧ ln9.toInt ≤ 36) ∧ (zSaid fb ln9.toInt pe.toInt) from ⟨hq1, (by first | assumption | omega | decide | exact rfl | exact zb01 (by omega) | exact Or.inl (by decide) | exact Or.inr (by first | omega | decide))⟩) hP hD
    · skip
      refine lv_if_ne (tgt := 37) hx hb dX11_needSaid_23 (by decide) (fun c6 => absurd (by decide) c6) (fun _ => ?_)
      obtain ⟨sa7, hsa7⟩ := hT.1.2.2.1 _ (List.mem_of_getElem? (i := 12) rfl)
      have hP : va_P g.1 vwCl (List.flatten [bTown g o a pe wo tx ch jo tr dy sd f, bDR g x ta o lo go tt lt mo fo ro fl9, bTape g ta ab sz ln kd bg nx ft fb]) H := hP
      have hD : va_D A (List.flatten [bTown g o a pe wo tx ch jo tr dy sd f, bDR g x ta o lo go tt lt mo fo ro fl9, bTape g ta ab sz ln kd bg nx ft fb]) := hD
      obtain ⟨hP, hD⟩ := zord (g := g) (Bs' := [bDR g x ta o lo go tt lt mo fo ro fl9, bTown g o a pe wo tx ch jo tr dy sd f, bTape g ta ab sz ln kd bg nx ft fb]) [1, 0, 2] rfl rfl hP hD
      exact vx_throwSW (A := A) (names := ["java/lang/RuntimeException", "java/lang/Exception"]) hx hb hfl hown (by decide +kernel) (by decide +kernel) (hts _ k576) (hts _ k577) hsa7 (zhat hat_RX11_110_IllegalArgumentExceptiona hat_RX11_110_IllegalArgumentExceptionb hts (hT.1.2.2.2.2.1 _ (List.mem_of_getElem? (i := 1) rfl))) hat_RX11_110_IllegalArgumentExceptionc hT.1.1 hT.1.2.1 hS (by rw [hml]; exact hl.1) dX11_needSaid_26 dX11_needSaid_29 dX11_needSaid_30 dX11_needSaid_33 dX11_needSaid_36 (fun x hx => (htab x hx).elim) (Nat.le_of_ble_eq_true rfl) (Nat.le_of_ble_eq_true rfl) (Nat.le_of_ble_eq_true rfl) (Nat.le_of_ble_eq_true rfl) hlocks (fun t ht hz hk => ⟨⟨(), ⟨rfl, (show ¬ (ln9.toInt ≤ 36 ∧ zSaid fb ln9.toInt pe.toInt) from (by first | assumption | omega | exact fun h9 => absurd h9.2 (by assumption)))⟩, hP.kept (fun k q hq => hk q.1 (hP k q hq).lt), hD⟩, ⟨Nat.le_trans hS.1 hz, fun q h1 h2 => (hk q (Nat.lt_of_lt_of_le h1 hS.1)).trans (hS.2.1 q h1 h2)⟩⟩) hS.2.2 (Nat.le_of_ble_eq_true rfl) (Nat.le_of_ble_eq_true rfl)
set_option maxRecDepth 100000 in
set_option maxHeartbeats 4000000 in
theorem c_x_liarsF (l : Launch) (hfl : l.stackTraces = false) (g : zG) (x : Nat) (ta : Nat) (o : Nat) (lo : Nat) (go : Nat) (tt : Nat) (lt : Nat) (mo : Nat) (fo : Nat) (ro : Nat) (fl9 : Int32) (a : Nat → Nat) (pe : Int32) (wo : Int32) (tx : Int32) (ch : Int32) (jo : Int32) (tr : Int32) (dy : Int32) (sd : Int32) (f : Nat → Nat → Int32) (ab : Nat) (sz : Int32) (ln : Int32) (kd : Int32) (bg : Int32) (nx : Int32) (ft : Int32) (fb : Nat → Int32) (rw : Nat) (ri : Int32) (rt : Int32) (rb : Nat → Int32) (su : Int32) (b_pe : 0 ≤ pe.toInt ∧ pe.toInt ≤ 8) (b_wo : 0 ≤ wo.toInt ∧ wo.toInt ≤ 6) (rf : zZ4 f) (b_sz : 0 ≤ sz.toInt ∧ sz.toInt ≤ 400) (b_ri : 0 ≤ ri.toInt ∧ ri.toInt ≤ 8) : zX' g l yX11_liars (Cond.code yX11_liars cX11_liars 3 (some .int) :: zB) ({ frames := 8, cells := 2, slots := 12, locals := 126 } : Room) [.ref x, .int su] [bDR g x ta o lo go tt lt mo fo ro fl9, bTown g o a pe wo tx ch jo tr dy sd f, bTape g ta ab sz ln kd bg nx ft fb, bRi g ro rw ri rt rb] (fun u : Int32 × Int32 × (Nat → Int32) × Int32 => (fun (ri2 : Int32) (rt2 : Int32) (rb2 : Nat → Int32) (q : Int32) => some (.int q)) (u.1) (u.2.1) (u.2.2.1) (u.2.2.2)) (fun u : Int32 × Int32 × (Nat → Int32) × Int32 => (fun (ri2 : Int32) (rt2 : Int32) (rb2 : Nat → Int32) (q : Int32) => (0 ≤ ri2.toInt ∧ ri2.toInt ≤ 8) ∧ (sz.toInt ≤ 36 ∧ zSaid fb sz.toInt pe.toInt) ∧ (zLia fb sz.toInt pe.toInt su.toInt q)) (u.1) (u.2.1) (u.2.2.1) (u.2.2.2)) (fun u : Int32 × Int32 × (Nat → Int32) × Int32 => (fun (ri2 : Int32) (rt2 : Int32) (rb2 : Nat → Int32) (q : Int32) => [bDR g x ta o lo go tt lt mo fo ro fl9, bTown g o a pe wo tx ch jo tr dy sd f, bTape g ta ab 0 ln kd bg nx ft fb, bRi g ro rw ri2 rt2 rb2]) (u.1) (u.2.1) (u.2.2.1) (u.2.2.2)) (fun (E : String) => fun u : Int32 × Int32 × (Nat → Int32) => (fun (ri2 : Int32) (rt2 : Int32) (rb2 : Nat → Int32) => (E = "java/lang/IllegalArgumentException") ∧ (0 ≤ ri2.toInt ∧ ri2.toInt ≤ 8) ∧ (¬ (sz.toInt ≤ 36 ∧ zSaid fb sz.toInt pe.toInt))) (u.1) (u.2.1) (u.2.2)) (fun u : Int32 × Int32 × (Nat → Int32) => (fun (ri2 : Int32) (rt2 : Int32) (rb2 : Nat → Int32) => [bDR g x ta o lo go tt lt mo fo ro fl9, bTown g o a pe wo tx ch jo tr dy sd f, bTape g ta ab 0 ln kd bg nx ft fb, bRi g ro rw ri2 rt2 rb2]) (u.1) (u.2.1) (u.2.2)) := by
  refine zX'.of (cc := cX11_liars) (maxL := 3) (rt := (some .int)) (by decide) rfl (Nat.le_of_ble_eq_true rfl) ?_
  intro p e s m args below meth c A ls St hr hlocks htab hin hK hT hA hP hD hS hl
  obtain ⟨hx, hb, hml, hown, hts⟩ := id St
  have hl : lv_has ls 3 [(0, .ref x), (1, .int su)] := hl
  refine lv_aload_n hx hb dX11_liars_0 rfl (lv_at hl 0 rfl) ?_
  refine va_get (D := g.1) (ci := 9) (v := .ref ta) (C := RX11) (T := TX11) (N := 10) hx hb hts izRX11 hown hK hP 0 rfl rfl 0 (by decide) (hts _ k536) (fun _ h9 => h9) rfl dX11_liars_1 ?_
  refine mcallV' (g := g) (q0 := 0) (ci := 6) (As := []) (rest := []) St hK hT hA hP hD hS hl.1 [2] [0, 1, 3] rfl rfl rfl (c_t_useUp l g ta ab sz ln kd bg nx ft fb ) (cwV 0 hts (zgL (zl4 k583 k584 k585 k277) k424) rfl rfl rfl (by decide +kernel) ⟨Nat.le_of_ble_eq_true rfl, Nat.le_of_ble_eq_true rfl⟩) rfl rfl rfl rfl (Nat.le_of_ble_eq_true rfl) dX11_liars_4 ⟨(Nat.le_of_ble_eq_true rfl), (Nat.le_of_ble_eq_true rfl)⟩ (fun _u H locs hq1 hP hD hS => ?_)
  have hP : va_P g.1 vwCl (List.flatten [bDR g x ta o lo go tt lt mo fo ro fl9, bTown g o a pe wo tx ch jo tr dy sd f, bRi g ro rw ri rt rb, bTape g ta ab 0 ln kd bg nx ft fb]) H := hP
  have hD : va_D A (List.flatten [bDR g x ta o lo go tt lt mo fo ro fl9, bTown g o a pe wo tx ch jo tr dy sd f, bRi g ro rw ri rt rb, bTape g ta ab 0 ln kd bg nx ft fb]) := hD
  refine W.widen (k := 0) (n := 0) (Nat.le_of_ble_eq_true rfl) (Nat.le_of_ble_eq_true rfl) ?_
  refine W.eq (g2 := F0 m 7 ls [.int sz]) rfl ?_
  refine lv_istore_n (lv' := [(2, .int sz), (0, .ref x), (1, .int su)]) hx hb dX11_liars_7 rfl hl (by decide) rfl (fun ls hl => ?_)
  refine lv_aload_n hx hb dX11_liars_8 rfl (lv_at hl 1 rfl) ?_
  refine lv_iload_n hx hb dX11_liars_9 rfl (lv_at hl 0 rfl) ?_
  have hL0 : (0 : Int32).toInt = 0 := by decide
  refine xcallV' (g := g) (q0 := 0) (ci := 9) (As := [.int sz]) (rest := []) St hK hT hA hP hD hS hl.1 [0, 1, 3] [2] rfl rfl rfl (c_x_needSaidF l hfl g x ta o lo go tt lt mo fo ro fl9 a pe wo tx ch jo tr dy sd f ab 0 ln kd bg nx ft fb sz b_pe b_wo rf (by decide) b_sz) (cwV 1 hts (zgL (zl4 k738 k739 k740 k621) k733) rfl rfl rfl (by decide +kernel) ⟨Nat.le_of_ble_eq_true rfl, Nat.le_of_ble_eq_true rfl⟩) rfl rfl rfl rfl (Nat.le_of_ble_eq_true rfl) dX11_liars_10 ⟨(Nat.le_of_ble_eq_true rfl), (Nat.le_of_ble_eq_true rfl)⟩ (fun E ce q9 u9 H locs hpx hP hD hS hce hcv hcl => ?_) (fun _u H locs hq2 hP hD hS => ?_)
  · skip
    have hpx : (E = "java/lang/IllegalArgumentException") ∧ (¬ (sz.toInt ≤ 36 ∧ zSaid fb sz.toInt pe.toInt)) := hpx
    have hP : va_P g.1 vwCl (List.flatten [bRi g ro rw ri rt rb, bDR g x ta o lo go tt lt mo fo ro fl9, bTown g o a pe wo tx ch jo tr dy sd f, bTape g ta ab 0 ln kd bg nx ft fb]) H := hP
    have hD : va_D A (List.flatten [bRi g ro rw ri rt rb, bDR g x ta o lo go tt lt mo fo ro fl9, bTown g o a pe wo tx ch jo tr dy sd f, bTape g ta ab 0 ln kd bg nx ft fb]) := hD
    obtain ⟨hE9, hy3⟩ := hpx
    have hP : va_P g.1 vwCl (List.flatten [bRi g ro rw ri rt rb, bDR g x ta o lo go tt lt mo fo ro fl9, bTown g o a pe wo tx ch jo tr dy sd f, bTape g ta ab 0 ln kd bg nx ft fb]) H := hP
    have hD : va_D A (List.flatten [bRi g ro rw ri rt rb, bDR g x ta o lo go tt lt mo fo ro fl9, bTown g o a pe wo tx ch jo tr dy sd f, bTape g ta ab 0 ln kd bg nx ft fb]) := hD
    obtain ⟨hP, hD⟩ := zord (g := g) (Bs' := [bDR g x ta o lo go tt lt mo fo ro fl9, bTown g o a pe wo tx ch jo tr dy sd f, bTape g ta ab 0 ln kd bg nx ft fb, bRi g ro rw ri rt rb]) [1, 2, 3, 0] rfl rfl hP hD
    exact zout htab hlocks hS (Nat.le_of_ble_eq_true rfl) (Nat.le_of_ble_eq_true rfl) hce hcv hcl (ri, rt, rb) (show (E = "java/lang/IllegalArgumentException") ∧ (0 ≤ ri.toInt ∧ ri.toInt ≤ 8) ∧ (¬ (sz.toInt ≤ 36 ∧ zSaid fb sz.toInt pe.toInt)) from ⟨hE9, (show 0 ≤ ri.toInt ∧ ri.toInt ≤ 8 from b_ri), (show ¬ (sz.toInt ≤ 36 ∧ zSaid fb sz.toInt pe.toInt) from hy3)⟩) hP hD
  · skip
    replace hq2 : (0 ≤ sz.toInt ∧ sz.toInt ≤ 36) ∧ (zSaid fb sz.toInt pe.toInt) := hq2
    have hP : va_P g.1 vwCl (List.flatten [bRi g ro rw ri rt rb, bDR g x ta o lo go tt lt mo fo ro fl9, bTown g o a pe wo tx ch jo tr dy sd f, bTape g ta ab 0 ln kd bg nx ft fb]) H := hP
    have hD : va_D A (List.flatten [bRi g ro rw ri rt rb, bDR g x ta o lo go tt lt mo fo ro fl9, bTown g o a pe wo tx ch jo tr dy sd f, bTape g ta ab 0 ln kd bg nx ft fb]) := hD
    refine W.widen (k := 2) (n := 12) (Nat.le_of_ble_eq_true rfl) (Nat.le_of_ble_eq_true rfl) ?_
    refine W.eq (g2 := F0 m 13 ls []) rfl ?_
    obtain ⟨hq2_0, hq2_1⟩ := hq2
    have w4 : sz.toInt % 3 = 0 := hq2_1.2.1
    refine lv_aload_n hx hb dX11_liars_13 rfl (lv_at hl 1 rfl) ?_
    refine va_get (D := g.1) (ci := 9) (v := .ref ro) (C := RX11) (T := TX11) (N := 10) hx hb hts izRX11 hown hK hP 2 rfl rfl 8 (by decide) (hts _ k557) (fun _ h9 => h9) rfl dX11_liars_14 ?_
    refine lv_aload_n hx hb dX11_liars_17 rfl (lv_at hl 1 rfl) ?_
    refine va_get (D := g.1) (ci := 9) (v := .ref ta) (C := RX11) (T := TX11) (N := 10) hx hb hts izRX11 hown hK hP 2 rfl rfl 0 (by decide) (hts _ k536) (fun _ h9 => h9) rfl dX11_liars_18 ?_
    refine lv_iload_n hx hb dX11_liars_21 rfl (lv_at hl 0 rfl) ?_
    refine lv_aload_n hx hb dX11_liars_22 rfl (lv_at hl 1 rfl) ?_
    refine va_get (D := g.1) (ci := 9) (v := .ref o) (C := RX11) (T := TX11) (N := 10) hx hb hts izRX11 hown hK hP 2 rfl rfl 1 (by decide) (hts _ k538) (fun _ h9 => h9) rfl dX11_liars_23 ?_
    refine va_get (D := g.1) (ci := 7) (v := .int pe) (C := RX9) (T := TX9) (N := 19) hx hb hts izRX9 hown hK hP 3 rfl rfl 0 (by decide) (hts _ k610) (fun _ h9 => h9) rfl dX11_liars_26 ?_
    refine mcallV' (g := g) (q0 := 0) (ci := 5) (As := [.ref ta, .int sz, .int pe]) (rest := []) St hK hT hA hP hD hS hl.1 [0, 3] [1, 2] rfl rfl rfl (c_r_hearF l g ro rw ri rt rb ta ab 0 ln kd bg nx ft fb sz pe hq2_0 b_pe (by first | assumption | omega | decide | exact Or.inl (by decide) | exact Or.inr (by decide))) (cwV 3 hts (zgL (zl4 k741 k742 k743 k389) k390) rfl rfl rfl (by decide +kernel) ⟨Nat.le_of_ble_eq_true rfl, Nat.le_of_ble_eq_true rfl⟩) rfl rfl rfl rfl (Nat.le_of_ble_eq_true rfl) dX11_liars_29 ⟨(Nat.le_of_ble_eq_true rfl), (Nat.le_of_ble_eq_true rfl)⟩ (fun u_ H locs hq8 hP hD hS => ?_)
    obtain ⟨ri2_5, rt2_6, rb2_7⟩ := u_
    replace hq8 : (0 ≤ ri2_5.toInt ∧ ri2_5.toInt ≤ 8) ∧ (ri2_5.toInt = pe.toInt) ∧ (0 ≤ rt2_6.toInt ∧ rt2_6.toInt ≤ 256) ∧ (zHr fb sz.toInt rb2_7 ((2 ^ ri2_5.toInt.toNat : Nat) : Int) rt2_6.toInt) := hq8
    have hP : va_P g.1 vwCl (List.flatten [bDR g x ta o lo go tt lt mo fo ro fl9, bTown g o a pe wo tx ch jo tr dy sd f, bRi g ro rw ri2_5 rt2_6 rb2_7, bTape g ta ab 0 ln kd bg nx ft fb]) H := hP
    have hD : va_D A (List.flatten [bDR g x ta o lo go tt lt mo fo ro fl9, bTown g o a pe wo tx ch jo tr dy sd f, bRi g ro rw ri2_5 rt2_6 rb2_7, bTape g ta ab 0 ln kd bg nx ft fb]) := hD
    refine W.widen (k := 2) (n := 12) (Nat.le_of_ble_eq_true rfl) (Nat.le_of_ble_eq_true rfl) ?_
    refine W.eq (g2 := F0 m 32 ls []) rfl ?_
    obtain ⟨hq8_0, hq8_1, hq8_2, hq8_3⟩ := hq8
    refine lv_iload_n hx hb dX11_liars_32 rfl (lv_at hl 2 rfl) ?_
    refine lv_if_eq (tgt := 46) hx hb dX11_liars_33 (by decide) (fun cb9 => ?_) (fun cb9 => ?_)
    · skip
      have c9 : su.toInt = 0 := zeq cb9 rfl (by decide)
      have n10 : 0 ≤ su.toInt := Int.le_trans (Int.le_refl _) (Int.le_of_eq c9.symm)
      have n11 : su.toInt ≤ 0 := Int.le_trans (Int.le_of_eq c9) (Int.le_refl _)
      refine lv_aload_n hx hb dX11_liars_46 rfl (lv_at hl 1 rfl) ?_
      refine va_get (D := g.1) (ci := 9) (v := .ref ro) (C := RX11) (T := TX11) (N := 10) hx hb hts izRX11 hown hK hP 0 rfl rfl 8 (by decide) (hts _ k557) (fun _ h9 => h9) rfl dX11_liars_47 ?_
      refine va_get (D := g.1) (ci := 5) (v := .int rt2_6) (C := RX5) (T := TX5) (N := 3) hx hb hts izRX5 hown hK hP 13 rfl rfl 2 (by decide) (hts _ k737) (fun _ h9 => h9) rfl dX11_liars_50 ?_
      have hP : va_P g.1 vwCl (List.flatten [bDR g x ta o lo go tt lt mo fo ro fl9, bTown g o a pe wo tx ch jo tr dy sd f, bRi g ro rw ri2_5 rt2_6 rb2_7, bTape g ta ab 0 ln kd bg nx ft fb]) H := hP
      have hD : va_D A (List.flatten [bDR g x ta o lo go tt lt mo fo ro fl9, bTown g o a pe wo tx ch jo tr dy sd f, bRi g ro rw ri2_5 rt2_6 rb2_7, bTape g ta ab 0 ln kd bg nx ft fb]) := hD
      obtain ⟨hP, hD⟩ := zord (g := g) (Bs' := [bDR g x ta o lo go tt lt mo fo ro fl9, bTown g o a pe wo tx ch jo tr dy sd f, bTape g ta ab 0 ln kd bg nx ft fb, bRi g ro rw ri2_5 rt2_6 rb2_7]) [0, 1, 3, 2] rfl rfl hP hD
      exact zret_i hx hb hr hlocks hS (Nat.le_of_ble_eq_true rfl) (Nat.le_of_ble_eq_true rfl) dX11_liars_53 (ri2_5, rt2_6, rb2_7, rt2_6) rfl (show (0 ≤ ri2_5.toInt ∧ ri2_5.toInt ≤ 8) ∧ (sz.toInt ≤ 36 ∧ zSaid fb sz.toInt pe.toInt) ∧ (zLia fb sz.toInt pe.toInt su.toInt rt2_6) from ⟨(by first | assumption | omega | decide), ⟨(by omega), hq2_1⟩, ⟨_, _, _, hq8_1, hq8_3, (Or.inl ⟨(by omega), rfl⟩)⟩⟩) hP hD
    · skip
      have c12 : ¬ su.toInt = 0 := zne cb9 rfl (by decide)
      refine lv_aload_n hx hb dX11_liars_36 rfl (lv_at hl 1 rfl) ?_
      refine va_get (D := g.1) (ci := 9) (v := .ref ro) (C := RX11) (T := TX11) (N := 10) hx hb hts izRX11 hown hK hP 0 rfl rfl 8 (by decide) (hts _ k557) (fun _ h9 => h9) rfl dX11_liars_37 ?_
      refine mcallV' (g := g) (q0 := 0) (ci := 5) (As := []) (rest := []) St hK hT hA hP hD hS hl.1 [2] [0, 1, 3] rfl rfl rfl (c_r_honestInAllF l g ro rw ri2_5 rt2_6 rb2_7 hq8_0) (cwV 0 hts (zgL (zl4 k744 k745 k746 k389) k397) rfl rfl rfl (by decide +kernel) ⟨Nat.le_of_ble_eq_true rfl, Nat.le_of_ble_eq_true rfl⟩) rfl rfl rfl rfl (Nat.le_of_ble_eq_true rfl) dX11_liars_40 ⟨(Nat.le_of_ble_eq_true rfl), (Nat.le_of_ble_eq_true rfl)⟩ (fun q_13 H locs hq14 hP hD hS => ?_)
      replace hq14 : (q_13 = zSure rb2_7 rt2_6.toInt ri2_5) := hq14
      have hP : va_P g.1 vwCl (List.flatten [bDR g x ta o lo go tt lt mo fo ro fl9, bTown g o a pe wo tx ch jo tr dy sd f, bTape g ta ab 0 ln kd bg nx ft fb, bRi g ro rw ri2_5 rt2_6 rb2_7]) H := hP
      have hD : va_D A (List.flatten [bDR g x ta o lo go tt lt mo fo ro fl9, bTown g o a pe wo tx ch jo tr dy sd f, bTape g ta ab 0 ln kd bg nx ft fb, bRi g ro rw ri2_5 rt2_6 rb2_7]) := hD
      refine W.widen (k := 2) (n := 12) (Nat.le_of_ble_eq_true rfl) (Nat.le_of_ble_eq_true rfl) ?_
      refine W.eq (g2 := F0 m 43 ls [.int q_13]) rfl ?_
      refine lv_goto (tgt := 53) hx hb dX11_liars_43 (by decide) ?_
      have hP : va_P g.1 vwCl (List.flatten [bDR g x ta o lo go tt lt mo fo ro fl9, bTown g o a pe wo tx ch jo tr dy sd f, bTape g ta ab 0 ln kd bg nx ft fb, bRi g ro rw ri2_5 rt2_6 rb2_7]) H := hP
      have hD : va_D A (List.flatten [bDR g x ta o lo go tt lt mo fo ro fl9, bTown g o a pe wo tx ch jo tr dy sd f, bTape g ta ab 0 ln kd bg nx ft fb, bRi g ro rw ri2_5 rt2_6 rb2_7]) := hD
      exact zret_i hx hb hr hlocks hS (Nat.le_of_ble_eq_true rfl) (Nat.le_of_ble_eq_true rfl) dX11_liars_53 (ri2_5, rt2_6, rb2_7, q_13) rfl (show (0 ≤ ri2_5.toInt ∧ ri2_5.toInt ≤ 8) ∧ (sz.toInt ≤ 36 ∧ zSaid fb sz.toInt pe.toInt) ∧ (zLia fb sz.toInt pe.toInt su.toInt q_13) from ⟨(by first | assumption | omega | decide), ⟨(by omega), hq2_1⟩, ⟨_, _, _, hq8_1, hq8_3, (Or.inr ⟨(by omega), hq14⟩)⟩⟩) hP hD
