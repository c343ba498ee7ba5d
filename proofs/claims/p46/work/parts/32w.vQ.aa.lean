/-! WHAT IS ASKED: a person -/
def zPr9 (L : zLw) (f : zRw) (pe wo : Nat) (dy : Int32) (x : Nat) (k : Int) : Int32 := if k = 0 then f 0 x else if k = 1 then f 1 x else if k = 2 then f 2 x else if k = 3 then f 4 x else if k = 4 then f 3 x else if k = 5 then zPull f pe x else if k = 6 then L (zEnv f pe wo dy x) else if k = 7 then zWth f pe x else zShr f pe x
section ZP
variable {L : zLw} {f : zRw} {pe wo x : Nat} {dy : Int32} {k : Int}
theorem zPr9_0 (h : k = 0) : f 0 x = zPr9 L f pe wo dy x k := by subst h; rfl
theorem zPr9_1 (h : k = 1) : f 1 x = zPr9 L f pe wo dy x k := by subst h; rfl
theorem zPr9_2 (h : k = 2) : f 2 x = zPr9 L f pe wo dy x k := by subst h; rfl
theorem zPr9_3 (h : k = 3) : f 4 x = zPr9 L f pe wo dy x k := by subst h; rfl
theorem zPr9_4 (h : k = 4) : f 3 x = zPr9 L f pe wo dy x k := by subst h; rfl
theorem zPr9_5 (h : k = 5) : zPull f pe x = zPr9 L f pe wo dy x k := by subst h; rfl
theorem zPr9_6 (h : k = 6) : L (zEnv f pe wo dy x) = zPr9 L f pe wo dy x k := by subst h; rfl
theorem zPr9_7 (h : k = 7) : zWth f pe x = zPr9 L f pe wo dy x k := by subst h; rfl
theorem zPr9_8 (h : k = 8) : zShr f pe x = zPr9 L f pe wo dy x k := by subst h; rfl
theorem zPr9_y (z : zZ4 f) (hx : x < 8) (h : ¬ (f 4 x).toInt = 0) (e : k = 3) : 1 = zPr9 L f pe wo dy x k := by
  rw [← zPr9_3 e]
  rcases zD01 z hx with q | q
  · rw [q] at h; exact absurd (by decide) h
  · exact q.symm
theorem zPr9_z (z : zZ4 f) (hx : x < 8) (h : (f 4 x).toInt = 0) (e : k = 3) : 0 = zPr9 L f pe wo dy x k := by
  rw [← zPr9_3 e]
  rcases zD01 z hx with q | q
  · exact q.symm
  · rw [q] at h; exact absurd h (by decide)
end ZP
theorem zPr9_c {L : zLw} {f g : zRw} {pe wo x : Nat} {dy : Int32} {k : Int} (h : zEq f g) (hp : pe ≤ 8) (hw : wo ≤ 6) (hx : x < 8) : zPr9 L f pe wo dy x k = zPr9 L g pe wo dy x k := by
  unfold zPr9
  rw [h.1 0 x (by decide) hx, h.1 1 x (by decide) hx, h.1 2 x (by decide) hx, h.1 4 x (by decide) hx, h.1 3 x (by decide) hx, zPull_c h hp hx, zEnv_c h hp hw hx, zWth_c h hp hx, zShr_c h hp hx]
theorem zPr9_ml {L : zLw} {m : Nat → Int32} {pe wo x : Nat} {dy : Int32} {k : Int} (h : 0 ≤ k ∧ k < 5) : m (11 + 5 * x + k.toNat) = zPr9 L (zV m) pe wo dy x k := by
  rcases (show k = 0 ∨ k = 1 ∨ k = 2 ∨ k = 3 ∨ k = 4 by omega) with e | e | e | e | e <;> subst e
  · exact congrArg m (show 11 + 5 * x + 0 = 11 + 5 * x by omega)
  · exact congrArg m (show 11 + 5 * x + 1 = 12 + 5 * x by omega)
  · exact congrArg m (show 11 + 5 * x + 2 = 13 + 5 * x by omega)
  · exact congrArg m (show 11 + 5 * x + 3 = 14 + 5 * x by omega)
  · exact congrArg m (show 11 + 5 * x + 4 = 15 + 5 * x by omega)
def zoPers (L : zLw) (x k : Int32) (s : zT9) : Int32 × Int32 := zk2 (0 ≤ x.toInt ∧ x.toInt < s.1.toInt) (0 ≤ k.toInt ∧ k.toInt ≤ 8) (zPr9 L s.2.2.2.2.2.2.2.2 s.1.toInt.toNat s.2.1.toInt.toNat s.2.2.2.2.2.2.1 x.toInt.toNat k.toInt)
theorem zoPers_c {L : zLw} {x q : Int32} {s t : zT9} (h : zR9 s t) (k : zOk s) : zoPers L x q s = zoPers L x q t := by
  have e1 : s.1 = t.1 := h.1
  have e2 : s.2.1 = t.2.1 := h.2.1
  have e7 : s.2.2.2.2.2.2.1 = t.2.2.2.2.2.2.1 := h.2.2.2.2.2.2.1
  have b := k.1
  have b6 := k.2.1
  unfold zoPers
  rw [← e1, ← e2, ← e7]
  exact zk2_c Iff.rfl (fun _ => Iff.rfl) (fun a _ => zPr9_c h.2.2.2.2.2.2.2.2 (by omega) (by omega) (by omega))
section ZQ
variable {L : zLw} {x n v pe wo tx ch jo tr dy sd : Int32} {f : zRw} {m : Nat → Int32}
theorem zoPers_c1 (h : ¬ (0 ≤ x.toInt ∧ x.toInt < pe.toInt)) : (1, 0) = zoPers L x n (pe, wo, tx, ch, jo, tr, dy, sd, f) := zk2_1 h
theorem zoPers_c2 (h : 0 ≤ x.toInt ∧ x.toInt < pe.toInt) (k : ¬ (0 ≤ n.toInt ∧ n.toInt ≤ 8)) : (2, 0) = zoPers L x n (pe, wo, tx, ch, jo, tr, dy, sd, f) := zk2_2 h k
theorem zoPers_c0 (h : 0 ≤ x.toInt ∧ x.toInt < pe.toInt) (k : 0 ≤ n.toInt ∧ n.toInt ≤ 8) (e : v = zPr9 L f pe.toInt.toNat wo.toInt.toNat dy x.toInt.toNat n.toInt) : (0, v) = zoPers L x n (pe, wo, tx, ch, jo, tr, dy, sd, f) := zk2_0 h k e
theorem zoPers_1 (h : ¬ (0 ≤ x.toInt ∧ x.toInt < (m 3).toInt)) : (1, 0) = zoPers L x n (zM9 m) := zk2_1 h
theorem zoPers_2 (h : 0 ≤ x.toInt ∧ x.toInt < (m 3).toInt) (k : ¬ (0 ≤ n.toInt ∧ n.toInt ≤ 8)) : (2, 0) = zoPers L x n (zM9 m) := zk2_2 h k
theorem zoPers_m (h : 0 ≤ x.toInt ∧ x.toInt < (m 3).toInt) (k : 0 ≤ n.toInt ∧ n.toInt ≤ 8) (e : v = zPr9 L (zV m) (m 3).toInt.toNat (m 4).toInt.toNat (m 8) x.toInt.toNat n.toInt) : (0, v) = zoPers L x n (zM9 m) := zk2_0 h k e
end ZQ
/-! ruin -/
abbrev zRuX (f : zRw) (pe : Nat) : Prop := 0 < (zPop (zHs f pe)).toInt ∧ ¬ (3 * zPop (zDb f pe)).toInt < (2 * zPop (zHs f pe)).toInt
theorem zRu_c {f g : zRw} {pe : Nat} (h : zEq f g) (hp : pe ≤ 8) : zRuX f pe ↔ zRuX g pe := by
  unfold zRuX
  rw [zHs_c h hp, zDb_c h hp]
theorem zPop_0N : ∀ n, n < 256 → ((zPop (nI n)).toInt = 0 ↔ (nI n).toInt = 0) := by decide +kernel
theorem zHs_0 {f : zRw} {n : Nat} (hn : n ≤ 8) : (zPop (zHs f n)).toInt = 0 ↔ (zHs f n).toInt = 0 := by
  obtain ⟨m, h1, h2⟩ := zHs_b f hn
  rw [h2]; exact zPop_0N m h1
theorem zHs_p {f : zRw} {n : Nat} (hn : n ≤ 8) (h : ¬ (zHs f n).toInt = 0) : 0 < (zPop (zHs f n)).toInt := by
  have a := zPop_b (zHs_i f hn)
  have b := (zHs_0 (f := f) hn)
  omega
def zRuP (L : zLw) (s : zT9) : Nat → Bool := fun j => decide (zRuX (zGo L 0 j s).2.2.2.2.2.2.2.2 s.1.toInt.toNat)
theorem zRuP_y {L : zLw} {s d : zT9} {j : Nat} (h : zR9 d (zGo L 0 j s)) (b : d.1.toInt ≤ 8) (c : zRuX d.2.2.2.2.2.2.2.2 d.1.toInt.toNat) : zRuP L s j = true := by
  have e : d.1 = s.1 := h.1
  rw [e] at c b
  exact decide_eq_true ((zRu_c h.2.2.2.2.2.2.2.2 (by omega)).mp c)
theorem zRuP_n {L : zLw} {s d : zT9} {j : Nat} (h : zR9 d (zGo L 0 j s)) (b : d.1.toInt ≤ 8) (c : ¬ zRuX d.2.2.2.2.2.2.2.2 d.1.toInt.toNat) : ¬ zRuP L s j = true := by
  have e : d.1 = s.1 := h.1
  rw [e] at c b
  exact fun q => c ((zRu_c h.2.2.2.2.2.2.2.2 (by omega)).mpr (of_decide_eq_true q))
def zdRuin (L : zLw) (s : zT9) : Int32 := zFst (zRuP L s) 101
theorem zdRuin_c {L : zLw} {s t : zT9} (h : zR9 s t) (k : zOk s) : zdRuin L s = zdRuin L t := zFst_c (fun j => by
  have z := (zGo_n (L := L) (tl := 0) (n := j) h k).1
  have e1 : s.1 = t.1 := h.1
  have b := k.1.2
  unfold zRuP
  rw [← e1]
  exact decide_eq_decide.mpr (zRu_c z.2.2.2.2.2.2.2.2 (by omega))) 101
/-! the dearest share -/
theorem zSu_bd {g : Nat → Int32} : ∀ n : Nat, n ≤ 8 → (∀ i, i < n → 0 ≤ (g i).toInt ∧ (g i).toInt ≤ 99) → 0 ≤ (zSu g n).toInt ∧ (zSu g n).toInt ≤ 99 * (n : Int)
  | 0, _, _ => by
    show 0 ≤ (0 : Int32).toInt ∧ (0 : Int32).toInt ≤ 99 * ((0 : Nat) : Int)
    rw [zi0]; omega
  | n + 1, hn, h => by
    have ih := zSu_bd n (by omega) (fun i hi => h i (by omega))
    have hg := h n (by omega)
    show 0 ≤ (zSu g n + g n).toInt ∧ (zSu g n + g n).toInt ≤ 99 * ((n + 1 : Nat) : Int)
    rw [zadd (i := (zSu g n).toInt) (j := (g n).toInt) rfl rfl (by omega)]; omega
theorem zBel_bd {f : zRw} {n : Nat} (h : zRg f) (hn : n ≤ 8) : 0 ≤ (zBel f n).toInt ∧ (zBel f n).toInt ≤ 792 := by
  have z := zSu_bd (g := fun x => if (f 3 x).toInt = -1 then f 0 x else 0) n hn (fun i hi => by
    by_cases q : (f 3 i).toInt = -1
    · show 0 ≤ (if (f 3 i).toInt = -1 then f 0 i else 0).toInt ∧ (if (f 3 i).toInt = -1 then f 0 i else 0).toInt ≤ 99
      rw [if_pos q]; exact h.1 i (by omega)
    · show 0 ≤ (if (f 3 i).toInt = -1 then f 0 i else 0).toInt ∧ (if (f 3 i).toInt = -1 then f 0 i else 0).toInt ≤ 99
      rw [if_neg q, zi0]; omega)
  have e : zBel f n = zSu (fun x => if (f 3 x).toInt = -1 then f 0 x else 0) n := rfl
  rw [e]; omega
theorem zMean_bd {f : zRw} {n : Nat} (h : zRg f) (hn : n ≤ 8) : 0 ≤ (zMean f n).toInt ∧ (zMean f n).toInt ≤ 792 := by
  have b := zBel_bd h hn
  have p := zPop_b (zHs_i f hn)
  unfold zMean
  by_cases q : (zPop (zHs f n)).toInt = 0
  · rw [if_pos q, zi0]; omega
  · rw [if_neg q]
    have z := zdiv (x := zBel f n) (y := zPop (zHs f n)) (j := (zBel f n).toInt) (d := (zPop (zHs f n)).toInt.toNat) rfl (by omega) b.1 (by omega)
    omega
theorem zPrice_p {f : zRw} {n : Nat} (h : zRg f) (hn : n ≤ 8) : 1 ≤ (zPrice f n).toInt := by
  have b := zMean_bd h hn
  have s1 : 0 ≤ (zMean f n).toInt * (zMean f n).toInt := Int.mul_nonneg b.1 b.1
  have s2 : (zMean f n).toInt * (zMean f n).toInt ≤ 792 * 792 := Int.mul_le_mul b.2 b.2 b.1 (by decide)
  have m := zmul (x := zMean f n) (y := zMean f n) rfl rfl ⟨by omega, by omega⟩
  have z := zdiv (x := zMean f n * zMean f n) (y := 50) (d := 50) m (by decide) s1 (by decide)
  unfold zPrice
  rw [zadd (x := zMean f n * zMean f n / 50) (y := 1) (i := (zMean f n * zMean f n / 50).toInt) (j := 1) rfl (by decide) (by omega)]; omega
def zMx (W : Nat → Int32) : Nat → Int32 × Int32
  | 0 => (0, W 0)
  | k + 1 => if (zMx W k).2.toInt < (W (k + 1)).toInt then (nI (k + 1), W (k + 1)) else zMx W k
theorem zMx_0 {W : Nat → Int32} {b k : Int32} (hk : k.toInt = 1) (e : b = W 0) : (0, b) = zMx W (k.toInt.toNat - 1) := by rw [hk, e]; rfl
theorem zMx_y {W : Nat → Int32} {a b v k k' : Int32} (h : (a, b) = zMx W (k.toInt.toNat - 1)) (hk : k'.toInt = k.toInt + 1) (h1 : 1 ≤ k.toInt) (e : v = W k.toInt.toNat) (c : b.toInt < v.toInt) : (k, v) = zMx W (k'.toInt.toNat - 1) := by
  rw [show k'.toInt.toNat - 1 = (k.toInt.toNat - 1) + 1 by omega]
  show (k, v) = if (zMx W (k.toInt.toNat - 1)).2.toInt < (W (k.toInt.toNat - 1 + 1)).toInt then (nI (k.toInt.toNat - 1 + 1), W (k.toInt.toNat - 1 + 1)) else zMx W (k.toInt.toNat - 1)
  rw [← h, show k.toInt.toNat - 1 + 1 = k.toInt.toNat by omega, ← e]
  have z : nI k.toInt.toNat = k := (znat (by omega)).symm
  rw [if_pos (show (a, b).2.toInt < v.toInt from c), z]
theorem zMx_n {W : Nat → Int32} {a b v k k' : Int32} (h : (a, b) = zMx W (k.toInt.toNat - 1)) (hk : k'.toInt = k.toInt + 1) (h1 : 1 ≤ k.toInt) (e : v = W k.toInt.toNat) (c : ¬ b.toInt < v.toInt) : (a, b) = zMx W (k'.toInt.toNat - 1) := by
  rw [show k'.toInt.toNat - 1 = (k.toInt.toNat - 1) + 1 by omega]
  show (a, b) = if (zMx W (k.toInt.toNat - 1)).2.toInt < (W (k.toInt.toNat - 1 + 1)).toInt then (nI (k.toInt.toNat - 1 + 1), W (k.toInt.toNat - 1 + 1)) else zMx W (k.toInt.toNat - 1)
  rw [← h, show k.toInt.toNat - 1 + 1 = k.toInt.toNat by omega, ← e]
  rw [if_neg (show ¬ (a, b).2.toInt < v.toInt from c)]
theorem zMx_x {W : Nat → Int32} {a b k n : Int32} (h : (a, b) = zMx W (k.toInt.toNat - 1)) (e : k.toInt = n.toInt + 1) (h0 : 0 ≤ n.toInt) : (a, b) = zMx W n.toInt.toNat := by rw [show k.toInt.toNat - 1 = n.toInt.toNat by omega] at h; exact h
theorem zMx_c {W V : Nat → Int32} (e : ∀ k, W k = V k) : ∀ n : Nat, zMx W n = zMx V n
  | 0 => by show (0, W 0) = (0, V 0); rw [e 0]
  | n + 1 => by
    show (if (zMx W n).2.toInt < (W (n + 1)).toInt then (nI (n + 1), W (n + 1)) else zMx W n) = if (zMx V n).2.toInt < (V (n + 1)).toInt then (nI (n + 1), V (n + 1)) else zMx V n
    rw [zMx_c e n, e (n + 1)]
def zMxV (c : Int32) (p : Int32 × Int32) : Int32 := if c.toInt = 0 then p.1 else p.2
theorem zMxV_0 {c a b : Int32} {p : Int32 × Int32} (h : (a, b) = p) (hc : c.toInt = 0) : a = zMxV c p := by subst h; exact (if_pos hc).symm
theorem zMxV_1 {c a b : Int32} {p : Int32 × Int32} (h : (a, b) = p) (hc : ¬ c.toInt = 0) : b = zMxV c p := by subst h; exact (if_neg hc).symm
def zMd (W : Nat → Int32) (k a b : Int32) : Prop := (k.toInt = 0 ∧ a = 0 ∧ b = 0) ∨ (1 ≤ k.toInt ∧ (a, b) = zMx W (k.toInt.toNat - 1))
theorem zMd_s {W : Nat → Int32} {k k' a a2 b v q : Int32} (I : zMd W k a b) (hk : k'.toInt = k.toInt + 1) (e : v = W k.toInt.toNat) (hp : 1 ≤ v.toInt) (g : b.toInt ≤ q.toInt ∧ v.toInt ≤ q.toInt ∧ (q.toInt = b.toInt ∨ q.toInt = v.toInt)) (c : (b.toInt < v.toInt ∧ a2 = k) ∨ (¬ b.toInt < v.toInt ∧ a2 = a)) : zMd W k' a2 q := by
  rcases I with ⟨h0, ha, hb⟩ | ⟨h1, h⟩
  · have b0 : b.toInt = 0 := by rw [hb]; decide
    have k0 : k = 0 := Int32.toInt_inj.mp (by rw [h0]; decide)
    have q0 : q = v := Int32.toInt_inj.mp (by omega)
    refine Or.inr ⟨by omega, ?_⟩
    rcases c with ⟨_, c⟩ | ⟨c, _⟩
    · rw [c, q0, k0]; exact zMx_0 (by omega) (by rw [e, h0]; rfl)
    · exact absurd (show b.toInt < v.toInt by omega) c
  · refine Or.inr ⟨by omega, ?_⟩
    rcases c with ⟨c1, c⟩ | ⟨c1, c⟩
    · have q0 : q = v := Int32.toInt_inj.mp (by omega)
      rw [c, q0]; exact zMx_y h hk h1 e c1
    · have q0 : q = b := Int32.toInt_inj.mp (by omega)
      rw [c, q0]; exact zMx_n h hk h1 e c1
theorem zMd_x {W : Nat → Int32} {k a b n : Int32} (I : zMd W k a b) (e : k.toInt = n.toInt + 1) (h0 : 0 ≤ n.toInt) : (a, b) = zMx W n.toInt.toNat := by
  rcases I with ⟨h, _⟩ | ⟨_, h⟩
  · omega
  · exact zMx_x h e h0
def zPrW (L : zLw) (s : zT9) : Nat → Int32 := fun j => zPrc9 (zGo L 0 j s)
theorem zPrW_e {L : zLw} {v : Int32} {s d : zT9} {j : Nat} (g : zR9 d (zGo L 0 j s)) (b : d.1.toInt ≤ 8) (e : v = zPrc9 d) : v = zPrW L s j := by
  have e1 : d.1 = (zGo L 0 j s).1 := g.1
  rw [e]
  show zPrice d.2.2.2.2.2.2.2.2 d.1.toInt.toNat = zPrice (zGo L 0 j s).2.2.2.2.2.2.2.2 (zGo L 0 j s).1.toInt.toNat
  rw [← e1]; exact zPrice_c g.2.2.2.2.2.2.2.2 (by omega)
theorem zGoC_1 {L : zLw} {tl k : Int32} {pe wo tx ch jo tr dy sd : Int32} {f h : zRw} (J : zEq h f) (hk : k.toInt = 1) : zR9 (pe, wo, tx, ch, jo, tr, dy, sd, h) (zGo L tl (k.toInt.toNat - 1) (pe, wo, tx, ch, jo, tr, dy, sd, f)) := by
  rw [hk]; exact zR9_f J
theorem zGo_at0 {L : zLw} {tl k : Int32} {s t : zT9} (h : zR9 t (zGo L tl (k.toInt.toNat - 1) s)) (hk : k.toInt = 1) : zR9 t (zGo L tl 0 s) := by rw [hk] at h; exact h
def zdDear (L : zLw) (n c : Int32) (s : zT9) : Int32 × Int32 := zk2 (0 ≤ n.toInt ∧ n.toInt ≤ 100) True (zMxV c (zMx (zPrW L s) n.toInt.toNat))
theorem zdDear_c {L : zLw} {n c : Int32} {s t : zT9} (h : zR9 s t) (k : zOk s) : zdDear L n c s = zdDear L n c t := by
  have b := k.1.2
  unfold zdDear
  rw [zMx_c (W := zPrW L s) (V := zPrW L t) (fun j => zPrW_e (zGo_n (L := L) (tl := 0) (n := j) h k).1 b rfl) n.toInt.toNat]
section ZR
variable {L : zLw} {n c v pe wo tx ch jo tr dy sd : Int32} {f : zRw} {m : Nat → Int32}
theorem zdDear_c1 (k : ¬ (0 ≤ n.toInt ∧ n.toInt ≤ 100)) : (1, 0) = zdDear L n c (pe, wo, tx, ch, jo, tr, dy, sd, f) := zk2_1 k
theorem zdDear_c0 (k : 0 ≤ n.toInt ∧ n.toInt ≤ 100) (e : v = zMxV c (zMx (zPrW L (pe, wo, tx, ch, jo, tr, dy, sd, f)) n.toInt.toNat)) : (0, v) = zdDear L n c (pe, wo, tx, ch, jo, tr, dy, sd, f) := zk2_0 k trivial e
theorem zdDear_1 (k : ¬ (0 ≤ n.toInt ∧ n.toInt ≤ 100)) : (1, 0) = zdDear L n c (zM9 m) := zk2_1 k
theorem zdDear_m (k : 0 ≤ n.toInt ∧ n.toInt ≤ 100) (e : v = zMxV c (zMx (zPrW L (zM9 m)) n.toInt.toNat)) : (0, v) = zdDear L n c (zM9 m) := zk2_0 k trivial e
end ZR
/-! choices at rest -/
def zRb (a b : Int32) : Int32 := if a.toInt = 0 then (if b.toInt = 0 then 5 else 20) else (if b.toInt = 0 then -10 else 0)
theorem zRb_1 {a b : Int32} (h : a.toInt = 0) (k : b.toInt = 0) : 5 = zRb a b := ((if_pos h).trans (if_pos k)).symm
theorem zRb_2 {a b : Int32} (h : a.toInt = 0) (k : ¬ b.toInt = 0) : 20 = zRb a b := ((if_pos h).trans (if_neg k)).symm
theorem zRb_3 {a b : Int32} (h : ¬ a.toInt = 0) (k : b.toInt = 0) : -10 = zRb a b := ((if_neg h).trans (if_pos k)).symm
theorem zRb_4 {a b : Int32} (h : ¬ a.toInt = 0) (k : ¬ b.toInt = 0) : 0 = zRb a b := ((if_neg h).trans (if_neg k)).symm
def zThl (a b : Int32) : Int32 := zRb a b - (if a.toInt = 0 then 4 else 0)
theorem zTh_1 {a b : Int32} (h : a.toInt = 0) : zRb a b - 4 = zThl a b := by unfold zThl; rw [if_pos h]
theorem zTh_2 {a b : Int32} (h : ¬ a.toInt = 0) : zRb a b - 0 = zThl a b := by unfold zThl; rw [if_neg h]
def zDh (a b t : Int32) : Int32 := -(zRb a b) - (if b.toInt = 0 then t else 0)
theorem zDh_1 {a b t : Int32} (h : b.toInt = 0) : -(zRb a b) - t = zDh a b t := by unfold zDh; rw [if_pos h]
theorem zDh_2 {a b t : Int32} (h : ¬ b.toInt = 0) : -(zRb a b) - 0 = zDh a b t := by unfold zDh; rw [if_neg h]
def zReG (t : Int32) (i : Nat) : Int32 := if (zThl (1 - nI i / 2) (nI i - nI i / 2 * 2)).toInt ≤ (zThl (nI i / 2) (nI i - nI i / 2 * 2)).toInt ∧ (zDh (nI i / 2) (1 - (nI i - nI i / 2 * 2)) t).toInt ≤ (zDh (nI i / 2) (nI i - nI i / 2 * 2) t).toInt then zBit i else 0
theorem zReG_y {acc t k : Int32} (h : 0 ≤ k.toInt) (c1 : (zThl (1 - k / 2) (k - k / 2 * 2)).toInt ≤ (zThl (k / 2) (k - k / 2 * 2)).toInt) (c2 : (zDh (k / 2) (1 - (k - k / 2 * 2)) t).toInt ≤ (zDh (k / 2) (k - k / 2 * 2) t).toInt) : acc ||| zBit k.toInt.toNat = acc ||| zReG t k.toInt.toNat := by
  have e : nI k.toInt.toNat = k := (znat h).symm
  unfold zReG
  rw [e, if_pos ⟨c1, c2⟩]
theorem zReG_n {acc t k : Int32} (h : 0 ≤ k.toInt) (c : ¬ ((zThl (1 - k / 2) (k - k / 2 * 2)).toInt ≤ (zThl (k / 2) (k - k / 2 * 2)).toInt ∧ (zDh (k / 2) (1 - (k - k / 2 * 2)) t).toInt ≤ (zDh (k / 2) (k - k / 2 * 2) t).toInt)) : acc = acc ||| zReG t k.toInt.toNat := by
  have e : nI k.toInt.toNat = k := (znat h).symm
  unfold zReG
  rw [e, if_neg c]; exact Int32.or_zero.symm
def zRests (t : Int32) : Int32 := zOf (zReG t) 4
theorem zRests_x {t acc k : Int32} (h : acc = zOf (zReG t) k.toInt.toNat) (e : k.toInt = 4) : acc = zRests t := by rw [e] at h; exact h
def zoRests (x o : Int32) (s : zT9) : Int32 × Int32 := zk2 ((0 ≤ x.toInt ∧ x.toInt < s.1.toInt) ∧ (0 ≤ o.toInt ∧ o.toInt < s.1.toInt)) (¬ x.toInt = o.toInt) (zRests (s.2.2.2.2.2.2.2.2 5 (8 * x.toInt.toNat + o.toInt.toNat)))
theorem zoRests_c {x o : Int32} {s t : zT9} (h : zR9 s t) (k : zOk s) : zoRests x o s = zoRests x o t := by
  have e1 : s.1 = t.1 := h.1
  have b := k.1
  unfold zoRests
  rw [← e1]
  exact zk2_c Iff.rfl (fun _ => Iff.rfl) (fun a c => by rw [h.2.2.2.2.2.2.2.2.2.1 x.toInt.toNat o.toInt.toNat (by omega) (by omega) (by omega)])
section ZS
variable {x o v pe wo tx ch jo tr dy sd : Int32} {f : zRw} {m : Nat → Int32}
theorem zoRests_c1 (h : ¬ ((0 ≤ x.toInt ∧ x.toInt < pe.toInt) ∧ (0 ≤ o.toInt ∧ o.toInt < pe.toInt))) : (1, 0) = zoRests x o (pe, wo, tx, ch, jo, tr, dy, sd, f) := zk2_1 h
theorem zoRests_c2 (h : (0 ≤ x.toInt ∧ x.toInt < pe.toInt) ∧ (0 ≤ o.toInt ∧ o.toInt < pe.toInt)) (k : x.toInt = o.toInt) : (2, 0) = zoRests x o (pe, wo, tx, ch, jo, tr, dy, sd, f) := zk2_2 h (fun q => q k)
theorem zoRests_c0 (h : (0 ≤ x.toInt ∧ x.toInt < pe.toInt) ∧ (0 ≤ o.toInt ∧ o.toInt < pe.toInt)) (k : ¬ x.toInt = o.toInt) (e : v = zRests (f 5 (8 * x.toInt.toNat + o.toInt.toNat))) : (0, v) = zoRests x o (pe, wo, tx, ch, jo, tr, dy, sd, f) := zk2_0 h k e
theorem zoRests_m1 (h : ¬ ((0 ≤ x.toInt ∧ x.toInt < (m 3).toInt) ∧ (0 ≤ o.toInt ∧ o.toInt < (m 3).toInt))) : (1, 0) = zoRests x o (zM9 m) := zk2_1 h
theorem zoRests_m2 (h : (0 ≤ x.toInt ∧ x.toInt < (m 3).toInt) ∧ (0 ≤ o.toInt ∧ o.toInt < (m 3).toInt)) (k : x.toInt = o.toInt) : (2, 0) = zoRests x o (zM9 m) := zk2_2 h (fun q => q k)
theorem zoRests_m0 (h : (0 ≤ x.toInt ∧ x.toInt < (m 3).toInt) ∧ (0 ≤ o.toInt ∧ o.toInt < (m 3).toInt)) (k : ¬ x.toInt = o.toInt) (e : v = zRests (zV m 5 (8 * x.toInt.toNat + o.toInt.toNat))) : (0, v) = zoRests x o (zM9 m) := zk2_0 h k e
end ZS
