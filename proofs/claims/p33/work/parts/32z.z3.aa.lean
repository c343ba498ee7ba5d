/-! THE BEST QUESTION -/
/-- of the sets that fit, as far as k: how many say yes -/
def zYs (b : Nat → Int32) (w h : Int32) : Nat → Int
  | 0 => 0
  | k + 1 => zYs b w h k + (if (b k).toInt = 0 then 0 else if zbt (nI k) w = zbt (nI k) h then 1 else 0)
theorem zYs_c {b b' : Nat → Int32} {w h : Int32} : ∀ n : Nat, (∀ i, i < n → b i = b' i) → zYs b w h n = zYs b' w h n
  | 0, _ => rfl
  | n + 1, e => by
    show zYs b w h n + (if (b n).toInt = 0 then 0 else if zbt (nI n) w = zbt (nI n) h then 1 else 0) = zYs b' w h n + (if (b' n).toInt = 0 then 0 else if zbt (nI n) w = zbt (nI n) h then 1 else 0)
    rw [zYs_c n (fun i hi => e i (by omega)), e n (by omega)]
theorem zYs_s0 {b : Nat → Int32} {w h x : Int32} {y k k' : Int} (e : y = zYs b w h k.toNat) (hx : x.toInt = k) (h0 : 0 ≤ k) (hb : (b x.toNatClampNeg).toInt = 0) (e' : k' = k + 1) : y = zYs b w h k'.toNat := by
  rw [zcl, hx] at hb
  rw [show k'.toNat = k.toNat + 1 by omega]
  show y = zYs b w h k.toNat + (if (b k.toNat).toInt = 0 then 0 else if zbt (nI k.toNat) w = zbt (nI k.toNat) h then 1 else 0)
  rw [if_pos hb, Int.add_zero]; exact e
theorem zYs_s1 {b : Nat → Int32} {w h x : Int32} {y k k' : Int} (e : y = zYs b w h k.toNat) (hx : x.toInt = k) (h0 : 0 ≤ k) (hb : ¬ (b x.toNatClampNeg).toInt = 0) (z : ¬ zAns x w h) (e' : k' = k + 1) : y = zYs b w h k'.toNat := by
  have en : x = nI k.toNat := by
    have := znat (x := x) (by omega)
    rw [hx] at this; exact this
  rw [en] at z
  rw [zcl, hx] at hb
  rw [show k'.toNat = k.toNat + 1 by omega]
  show y = zYs b w h k.toNat + (if (b k.toNat).toInt = 0 then 0 else if zbt (nI k.toNat) w = zbt (nI k.toNat) h then 1 else 0)
  have z9 : ¬ zbt (nI k.toNat) w = zbt (nI k.toNat) h := z
  rw [if_neg hb, if_neg z9, Int.add_zero]; exact e
theorem zYs_s2 {b : Nat → Int32} {w h x : Int32} {y y' k k' : Int} (e : y = zYs b w h k.toNat) (hx : x.toInt = k) (h0 : 0 ≤ k) (hb : ¬ (b x.toNatClampNeg).toInt = 0) (z : zAns x w h) (e' : k' = k + 1) (ey : y' = y + 1) : y' = zYs b w h k'.toNat := by
  have en : x = nI k.toNat := by
    have := znat (x := x) (by omega)
    rw [hx] at this; exact this
  rw [en] at z
  rw [zcl, hx] at hb
  rw [show k'.toNat = k.toNat + 1 by omega]
  show y' = zYs b w h k.toNat + (if (b k.toNat).toInt = 0 then 0 else if zbt (nI k.toNat) w = zbt (nI k.toNat) h then 1 else 0)
  have z9 : zbt (nI k.toNat) w = zbt (nI k.toNat) h := z
  rw [if_neg hb, if_pos z9, ← e]; exact ey
/-- the greater part of those that fit: these that say yes, those that say no -/
def zGp (b : Nat → Int32) (c : Int) (p w h : Int32) : Int := if c - zYs b w h (2 ^ p.toInt.toNat) ≤ zYs b w h (2 ^ p.toInt.toNat) then zYs b w h (2 ^ p.toInt.toNat) else c - zYs b w h (2 ^ p.toInt.toNat)
theorem zGp_e {b : Nat → Int32} {p w h : Int32} {c y q k : Int} (e : y = zYs b w h k.toNat) (hk : k.toNat = 2 ^ p.toInt.toNat) (m : y ≤ q ∧ c - y ≤ q ∧ (q = y ∨ q = c - y)) : q = zGp b c p w h := by
  unfold zGp
  rw [← hk, ← e]
  split <;> omega
def zGf (b : Nat → Int32) (c : Int) (p : Int32) (w h : Int) : Int := zGp b c p (nI w.toNat) (nI h.toNat)
theorem zGf_e {b : Nat → Int32} {c : Int} {p x y : Int32} (hx : 0 ≤ x.toInt) (hy : 0 ≤ y.toInt) : zGf b c p x.toInt y.toInt = zGp b c p x y := by
  unfold zGf
  rw [← znat hx, ← znat hy]
theorem zGf_c {b b' : Nat → Int32} {c : Int} {p : Int32} (e : ∀ i, i < 2 ^ p.toInt.toNat → b i = b' i) : zGf b c p = zGf b' c p := by
  funext w h
  unfold zGf zGp
  rw [zYs_c _ e]
/-- the first of the best questions, of those before T -/
def zBs (G : Int → Int → Int) (pe T best least : Int) : Prop :=
  (best = -1 ∧ ∀ w h : Int, 0 ≤ w → w < pe → 0 ≤ h → h < pe → 8 * w + h < T → w = h) ∨
  (∃ w h : Int, 0 ≤ w ∧ w < pe ∧ 0 ≤ h ∧ h < pe ∧ 8 * w + h < T ∧ ¬ w = h ∧ best = 10 * w + h ∧ least = G w h ∧
    ∀ w' h' : Int, 0 ≤ w' → w' < pe → 0 ≤ h' → h' < pe → 8 * w' + h' < T → ¬ w' = h' → G w h ≤ G w' h' ∧ (8 * w' + h' < 8 * w + h → G w h < G w' h'))
theorem zBs_0 {G : Int → Int → Int} {pe T best least : Int} (e : T = 0) (eb : best = -1) : zBs G pe T best least := Or.inl ⟨eb, fun w h a b c d o => by omega⟩
theorem zBs_t {G : Int → Int → Int} {pe T T' best least : Int} (h : zBs G pe T best least) (e : T' = T) : zBs G pe T' best least := by subst e; exact h
theorem zBs_q {G : Int → Int → Int} {pe T T' best least : Int} (z : zBs G pe T best least) (le : T ≤ T') (s : ∀ w h : Int, 0 ≤ w → w < pe → 0 ≤ h → h < pe → 8 * w + h < T' → ¬ w = h → 8 * w + h < T) : zBs G pe T' best least := by
  rcases z with ⟨eb, z⟩ | ⟨w, h, a1, a2, a3, a4, a5, a6, a7, a8, z⟩
  · exact Or.inl ⟨eb, fun w h a b c d o => Classical.byContradiction fun ne => ne (z w h a b c d (s w h a b c d o ne))⟩
  · exact Or.inr ⟨w, h, a1, a2, a3, a4, by omega, a6, a7, a8, fun w' h' a b c d o ne => z w' h' a b c d (s w' h' a b c d o ne) ne⟩
theorem zBs_r {G : Int → Int → Int} {pe T T' best least u : Int} (z : zBs G pe T best least) (e : T = 8 * u + pe) (e' : T' = 8 * (u + 1)) (h8 : pe ≤ 8) : zBs G pe T' best least := zBs_q z (by omega) (fun w h a b c d o _ => by omega)
theorem zBs_k {G : Int → Int → Int} {pe T T' best least u v : Int} (z : zBs G pe T best least) (e : T = 8 * u + v) (hv : 0 ≤ v) (hv8 : v < pe) (h8 : pe ≤ 8) (ne : u = v) (e' : T' = T + 1) : zBs G pe T' best least := zBs_q z (by omega) (fun w h a b c d o n => by omega)
theorem zBs_n {G : Int → Int → Int} {pe T T' best least u v g : Int} (z : zBs G pe T best least) (e : T = 8 * u + v) (hv : 0 ≤ v) (hv8 : v < pe) (h8 : pe ≤ 8) (nb : ¬ best = -1) (hg : g = G u v) (hl : least ≤ g) (e' : T' = T + 1) : zBs G pe T' best least := by
  rcases z with ⟨eb, _⟩ | ⟨w, h, a1, a2, a3, a4, a5, a6, a7, a8, z⟩
  · exact absurd eb nb
  · refine Or.inr ⟨w, h, a1, a2, a3, a4, by omega, a6, a7, a8, fun w' h' a b c d o ne => ?_⟩
    by_cases q : 8 * w' + h' < T
    · exact z w' h' a b c d q ne
    · have e1 : w' = u := by omega
      have e2 : h' = v := by omega
      subst e1; subst e2
      exact ⟨by omega, fun o2 => by omega⟩
theorem zBs_u {G : Int → Int → Int} {pe T T' best least best' least' u v g : Int} (z : zBs G pe T best least) (e : T = 8 * u + v) (hu : 0 ≤ u) (hu8 : u < pe) (hv : 0 ≤ v) (hv8 : v < pe) (h8 : pe ≤ 8) (ne : ¬ u = v) (hg : g = G u v) (c : best = -1 ∨ g < least) (eb : best' = 10 * u + v) (el : least' = g) (e' : T' = T + 1) : zBs G pe T' best' least' := by
  refine Or.inr ⟨u, v, hu, hu8, hv, hv8, by omega, ne, eb, by omega, fun w' h' a b c1 d o ne' => ?_⟩
  by_cases q : 8 * w' + h' < T
  · rcases z with ⟨_, z⟩ | ⟨w, h, a1, a2, a3, a4, a5, a6, a7, a8, z⟩
    · exact absurd (z w' h' a b c1 d q) ne'
    · have l := (z w' h' a b c1 d q ne').1
      have l2 : g < least := c.resolve_left (by omega)
      exact ⟨by omega, fun _ => by omega⟩
  · have e1 : w' = u := by omega
    have e2 : h' = v := by omega
    subst e1; subst e2
    exact ⟨Int.le_refl _, fun o2 => by omega⟩
theorem zBs_d {G : Int → Int → Int} {pe T b l b' l' : Int} (h8 : pe ≤ 8) (z : zBs G pe T b l) (z' : zBs G pe T b' l') : b = b' := by
  rcases z with ⟨e, z⟩ | ⟨w, h, a1, a2, a3, a4, a5, a6, a7, a8, z⟩
  · rcases z' with ⟨e', _⟩ | ⟨w', h', b1, b2, b3, b4, b5, b6, _, _, _⟩
    · rw [e, e']
    · exact absurd (z w' h' b1 b2 b3 b4 b5) b6
  · rcases z' with ⟨_, z'⟩ | ⟨w', h', b1, b2, b3, b4, b5, b6, b7, b8, z'⟩
    · exact absurd (z' w h a1 a2 a3 a4 a5) a6
    · have p := z w' h' b1 b2 b3 b4 b5 b6
      have p' := z' w h a1 a2 a3 a4 a5 a6
      rcases Int.lt_trichotomy (8 * w + h) (8 * w' + h') with t | t | t
      · have := p'.2 t; omega
      · omega
      · have := p.2 t; omega
theorem zBq_r {G : Int → Int → Int} {pe c u q l : Int} (z : zBs G pe (8 * u) q l) (hu : u = 0 ∨ 2 ≤ c) (hx : pe ≤ u ∨ c < 2) (le : u ≤ pe) : (c < 2 ∧ q = -1) ∨ (2 ≤ c ∧ ∃ l9, zBs G pe (8 * pe) q l9) := by
  by_cases k : c < 2
  · refine Or.inl ⟨k, ?_⟩
    rcases z with ⟨e, _⟩ | ⟨w, h, a1, a2, a3, a4, a5, _⟩
    · exact e
    · omega
  · exact Or.inr ⟨by omega, l, zBs_t z (by omega)⟩
/-- what's asked best -/
def zAsk (f : Nat → Int32) (n pe : Int) (q : Int32) : Prop := ∃ (b : Nat → Int32) (c : Int) (p : Int32), p.toInt = pe ∧ p.toInt ≤ 8 ∧ zHr f n b ((2 ^ p.toInt.toNat : Nat) : Int) c ∧ ((c < 2 ∧ q.toInt = -1) ∨ (2 ≤ c ∧ ∃ l9, zBs (zGf b c p) p.toInt (8 * p.toInt) q.toInt l9))
theorem zAsk_det {f : Nat → Int32} {n pe : Int} {q q' : Int32} (h : zAsk f n pe q) (h' : zAsk f n pe q') : q = q' := by
  obtain ⟨b, c, p, e, h8, hr, hq⟩ := h
  obtain ⟨b', c', p', e', _, hr', hq'⟩ := h'
  have ep : p = p' := Int32.toInt_inj.mp (e.trans e'.symm)
  subst ep
  obtain ⟨eb, ec⟩ := zHr_u hr hr'
  subst ec
  refine Int32.toInt_inj.mp ?_
  rcases hq with ⟨s, hq⟩ | ⟨s, l, hq⟩
  · rcases hq' with ⟨_, hq'⟩ | ⟨s', _⟩
    · rw [hq, hq']
    · omega
  · rcases hq' with ⟨s', _⟩ | ⟨_, l', hq'⟩
    · omega
    · rw [← zGf_c (b := b) (b' := b') (fun j hj => eb j (by omega))] at hq'
      exact zBs_d h8 hq hq'

theorem zYs_s0e {b : Nat → Int32} {w h x : Int32} {y y' k k' : Int} (e : y = zYs b w h k.toNat) (hx : x.toInt = k) (h0 : 0 ≤ k) (hb : (b x.toNatClampNeg).toInt = 0) (e' : k' = k + 1) (ey : y' = y) : y' = zYs b w h k'.toNat := ey.trans (zYs_s0 e hx h0 hb e')
theorem zYs_s1e {b : Nat → Int32} {w h x : Int32} {y y' k k' : Int} (e : y = zYs b w h k.toNat) (hx : x.toInt = k) (h0 : 0 ≤ k) (hb : ¬ (b x.toNatClampNeg).toInt = 0) (z : ¬ zAns x w h) (e' : k' = k + 1) (ey : y' = y) : y' = zYs b w h k'.toNat := ey.trans (zYs_s1 e hx h0 hb z e')
theorem zAsE {f f' : Nat → Int32} {z t P P' : Int} {a : Int64} {q : Int32} (hR : f = f') (hz : z = t) (eP : P = P') (h : ∃ v9, zAsk f z P v9 ∧ a = v9.toInt64) (h' : zAsk f' t P' q) : a = q.toInt64 := by
  subst hR; subst hz; subst eP
  obtain ⟨v, h, e⟩ := h
  rw [e, zAsk_det h h']
set_option maxRecDepth 100000 in
set_option maxHeartbeats 4000000 in
theorem c_r_greaterPartF (l : Launch) (g : zG) (ro : Nat) (rw : Nat) (ri : Int32) (rt : Int32) (rb : Nat → Int32) (x1 : Int32) (x2 : Int32) (b_ri : 0 ≤ ri.toInt ∧ ri.toInt ≤ 8) (hrt : 0 ≤ rt.toInt ∧ rt.toInt ≤ 256) : zM' g l yX5_greaterPart (Cond.code yX5_greaterPart cX5_greaterPart 5 (some .int) :: zB) ({ frames := 1, cells := 0, slots := 0, locals := 23 } : Room) [.ref ro, .int x1, .int x2] [bRi g ro rw ri rt rb] (fun (q : Int32) => some (.int q)) (fun (q : Int32) => (q.toInt = zGp rb rt.toInt ri x1 x2)) (fun (q : Int32) => [bRi g ro rw ri rt rb]) := by
  refine zM'.of (cc := cX5_greaterPart) (maxL := 5) (rt := (some .int)) (by decide) rfl (Nat.le_of_ble_eq_true rfl) ?_
  intro p e s m args below meth c A ls St hr hlocks hin hK hT hA hP hD hS hl
  obtain ⟨hx, hb, hml, hown, hts⟩ := id St
  have hl : lv_has ls 5 [(0, .ref ro), (1, .int x1), (2, .int x2)] := hl
  refine lv_iconst (v := 0) hx hb dX5_greaterPart_0 (by decide) ?_
  refine lv_istore_n (lv' := [(3, .int 0), (0, .ref ro), (1, .int x1), (2, .int x2)]) hx hb dX5_greaterPart_1 rfl hl (by decide) rfl (fun ls hl => ?_)
  refine lv_iconst (v := 0) hx hb dX5_greaterPart_2 (by decide) ?_
  refine lv_istore (lv' := [(4, .int 0), (3, .int 0), (0, .ref ro), (1, .int x1), (2, .int x2)]) hx hb dX5_greaterPart_3 hl (by decide) rfl (fun ls hl => ?_)
  have hl := lv_sub (l' := [(0, .ref ro), (1, .int x1), (2, .int x2), (3, .int 0), (4, .int 0)]) hl [2, 3, 4, 1, 0] rfl
  have LP5_8 : ∀ (kf : Nat) (x_1 : Int32) (x_2 : Int32), (0 ≤ x_1.toInt ∧ x_1.toInt ≤ 256) → (0 ≤ x_2.toInt ∧ x_2.toInt ≤ 256) → (x_1.toInt = zYs rb x1 x2 (x_2.toInt).toNat) → (x_1.toInt ≤ x_2.toInt) → (x_2.toInt ≤ ((2 ^ ri.toInt.toNat : Nat) : Int)) → ∀ (H : Heap) (locs : List Loc) (ls : Array Slot), ((257 - x_2.toInt).toNat) < kf → va_P g.1 vwCl (List.flatten [bRi g ro rw ri rt rb]) H → va_D A (List.flatten [bRi g ro rw ri rt rb]) → va_S A s.heap H locs → lv_has ls 5 [(0, .ref ro), (1, .int x1), (2, .int x2), (3, .int x_1), (4, .int x_2)] → W p l e ({ frames := 1, cells := 0, slots := 0, locals := 23 } : Room) s m args below meth c H locs (0) (0) (zF g (fun (q : Int32) => some (.int q)) (fun (q : Int32) => (q.toInt = zGp rb rt.toInt ri x1 x2)) (fun (q : Int32) => [bRi g ro rw ri rt rb]) ({ frames := 1, cells := 0, slots := 0, locals := 23 } : Room) below args s A) (F0 m 5 ls []) := by
    intro kf
    induction kf with
    | zero => intro x_1 x_2 i3 i4 i5 i6 i7 H locs ls hk; exact absurd hk (Nat.not_lt_zero _)
    | succ kf ih5_9 =>
      intro x_1 x_2 i3 i4 i5 i6 i7 H locs ls hk5_9 hP hD hS hl
      refine lv_iload hx hb dX5_greaterPart_5 (lv_at hl 4 rfl) ?_
      refine lv_iconst (v := 1) hx hb dX5_greaterPart_7 (by decide) ?_
      refine lv_aload_n hx hb dX5_greaterPart_8 rfl (lv_at hl 0 rfl) ?_
      refine va_get (D := g.1) (ci := 5) (v := .int ri) (C := RX5) (T := TX5) (N := 3) hx hb hts izRX5 hown hK hP 0 rfl rfl 1 (by decide) (hts _ k392) (fun _ h9 => h9) rfl dX5_greaterPart_9 ?_
      refine lv_ishl hx hb dX5_greaterPart_12 ?_
      refine zgp2 (P := fun r9 : Int32 => r9.toInt = ((2 ^ ri.toInt.toNat : Nat) : Int) ∧ 1 ≤ r9.toInt ∧ r9.toInt ≤ 256) (zshE ⟨b_ri.1, b_ri.2⟩) (fun x_10 hx_10 => ?_)
      refine lv_icmp_ge (tgt := 46) hx hb dX5_greaterPart_13 (by decide) (fun cb9 => ?_) (fun cb9 => ?_)
      · skip
        have c11 : x_10.toInt ≤ x_2.toInt := zle cb9 rfl rfl
        have n12 : 1 ≤ x_2.toInt := Int.le_trans hx_10.2.1 c11
        refine lv_iload_n hx hb dX5_greaterPart_46 rfl (lv_at hl 3 rfl) ?_
        refine lv_aload_n hx hb dX5_greaterPart_47 rfl (lv_at hl 0 rfl) ?_
        refine va_get (D := g.1) (ci := 5) (v := .int rt) (C := RX5) (T := TX5) (N := 3) hx hb hts izRX5 hown hK hP 0 rfl rfl 2 (by decide) (hts _ k393) (fun _ h9 => h9) rfl dX5_greaterPart_48 ?_
        refine lv_iload_n hx hb dX5_greaterPart_51 rfl (lv_at hl 3 rfl) ?_
        refine lv_isub hx hb dX5_greaterPart_52 ?_
        refine zg3 (zsubK (i := rt.toInt) (j := x_1.toInt) (a' := (-256)) (b' := 256) rfl rfl hrt.1 hrt.2 i3.1 i3.2 (by decide)) (fun x_13 hx_13 => ?_)
        refine va_mmax hx hb (by rw [hml]; exact hl.1.symm) hown (hts _ k399) (hts _ k45) (hts _ k42) (hts _ k46) (Nat.le_of_ble_eq_true rfl) (Nat.le_of_ble_eq_true rfl) (Nat.le_of_ble_eq_true rfl) (Nat.le_of_ble_eq_true rfl) dX5_greaterPart_53 ?_
        refine zgmx (i := x_1.toInt) (j := x_13.toInt) rfl rfl (fun x_14 hx_14 => ?_)
        have hP : va_P g.1 vwCl (List.flatten [bRi g ro rw ri rt rb]) H := hP
        have hD : va_D A (List.flatten [bRi g ro rw ri rt rb]) := hD
        exact mret_i hx hb hr hlocks hS (Nat.le_of_ble_eq_true rfl) (Nat.le_of_ble_eq_true rfl) dX5_greaterPart_56 (x_14) rfl (show (x_14.toInt = zGp rb rt.toInt ri x1 x2) from (zGp_e i5 (by have h9 := hx_10.1; omega) (by omega))) hP hD
      · skip
        have c15 : x_2.toInt < x_10.toInt := zlti (Int32.not_le.mp cb9) rfl rfl
        have n16 : x_2.toInt ≤ 255 := zL1 (b := 256) c15 hx_10.2.2 (by decide)
        refine lv_aload_n hx hb dX5_greaterPart_16 rfl (lv_at hl 0 rfl) ?_
        refine va_get (D := g.1) (ci := 5) (v := .ref rw) (C := RX5) (T := TX5) (N := 3) hx hb hts izRX5 hown hK hP 0 rfl rfl 0 (by decide) (hts _ k382) (fun _ h9 => h9) rfl dX5_greaterPart_17 ?_
        refine lv_iload hx hb dX5_greaterPart_20 (lv_at hl 4 rfl) ?_
        refine va_zald hx hb hK hP 1 1 rfl rfl (zinK (a := 0) (b := 255) i4.1 n16 (by decide)) dX5_greaterPart_22 ?_
        refine lv_if_eq (tgt := 40) hx hb dX5_greaterPart_23 (by decide) (fun cb9 => ?_) (fun cb9 => ?_)
        · skip
          have c17 : (rb x_2.toNatClampNeg).toInt = 0 := zeq cb9 rfl (by decide)
          have n18 : 0 ≤ (rb x_2.toNatClampNeg).toInt := Int.le_trans (Int.le_refl _) (Int.le_of_eq c17.symm)
          have n19 : (rb x_2.toNatClampNeg).toInt ≤ 0 := Int.le_trans (Int.le_of_eq c17) (Int.le_refl _)
          refine ziinc3 (n' := 1) (a' := 1) (b' := 256) (lv' := fun v9 => [(4, .int v9), (0, .ref ro), (1, .int x1), (2, .int x2), (3, .int x_1)]) hx hb dX5_greaterPart_40 hl (k := 4) rfl (by decide) (fun _ => rfl) (zaddK (i := x_2.toInt) (j := 1) rfl (by decide) i4.1 n16 (Int.le_refl _) (Int.le_refl _) (by decide)) (fun x_20 ls hx_20 hl => ?_)
          refine lv_goto (tgt := 5) hx hb dX5_greaterPart_43 (by decide) ?_
          have hl := lv_sub (l' := [(0, .ref ro), (1, .int x1), (2, .int x2), (3, .int x_1), (4, .int x_20)]) hl [1, 2, 3, 4, 0] rfl
          have hP : va_P g.1 vwCl (List.flatten [bRi g ro rw ri rt rb]) H := hP
          have hD : va_D A (List.flatten [bRi g ro rw ri rt rb]) := hD
          exact ih5_9 x_1 x_20 ⟨i3.1, i3.2⟩ ⟨(Int.le_trans (by decide) hx_20.2.1), hx_20.2.2⟩ (zYs_s0 (x := x_2) i5 rfl (by omega) c17 (by omega)) (by first | omega | assumption | decide) (by have h9 := hx_10.1; omega) H _ ls (by omega)  hP hD hS (lv_sub hl [0, 1, 2, 3, 4] rfl)
        · skip
          have c21 : ¬ (rb x_2.toNatClampNeg).toInt = 0 := zne cb9 rfl (by decide)
          refine lv_aload_n hx hb dX5_greaterPart_26 rfl (lv_at hl 0 rfl) ?_
          refine lv_iload hx hb dX5_greaterPart_27 (lv_at hl 4 rfl) ?_
          refine lv_iload_n hx hb dX5_greaterPart_29 rfl (lv_at hl 1 rfl) ?_
          refine lv_iload_n hx hb dX5_greaterPart_30 rfl (lv_at hl 2 rfl) ?_
          refine mcallV' (g := g) (q0 := 0) (ci := 5) (As := [.int x_2, .int x1, .int x2]) (rest := []) St hK hT hA hP hD hS hl.1 [0] [] rfl rfl rfl (c_r_answersF l g ro rw ri rt rb x_2 x1 x2 ) (cwV 3 hts (zgL (zl4 k386 k387 k388 k389) k383) rfl rfl rfl (by decide +kernel) ⟨Nat.le_of_ble_eq_true rfl, Nat.le_of_ble_eq_true rfl⟩) rfl rfl rfl rfl (Nat.le_of_ble_eq_true rfl) dX5_greaterPart_31 ⟨(Nat.le_of_ble_eq_true rfl), (Nat.le_of_ble_eq_true rfl)⟩ (fun q_22 H locs hq23 hP hD hS => ?_)
          replace hq23 : (q_22 = 1 ∧ zAns x_2 x1 x2 ∨ q_22 = 0 ∧ ¬ zAns x_2 x1 x2) := hq23
          have hP : va_P g.1 vwCl (List.flatten [bRi g ro rw ri rt rb]) H := hP
          have hD : va_D A (List.flatten [bRi g ro rw ri rt rb]) := hD
          refine W.widen (k := 0) (n := 0) (Nat.le_of_ble_eq_true rfl) (Nat.le_of_ble_eq_true rfl) ?_
          refine W.eq (g2 := F0 m 34 ls [.int q_22]) rfl ?_
          rcases hq23 with ⟨rfl, hq23_k⟩ | ⟨rfl, hq23_k⟩
          · skip
            refine lv_if_eq (tgt := 40) hx hb dX5_greaterPart_34 (by decide) (fun c24 => absurd c24 (by decide)) (fun _ => ?_)
            refine ziinc3 (n' := 1) (a' := 1) (b' := 257) (lv' := fun v9 => [(3, .int v9), (0, .ref ro), (1, .int x1), (2, .int x2), (4, .int x_2)]) hx hb dX5_greaterPart_37 hl (k := 3) rfl (by decide) (fun _ => rfl) (zaddK (i := x_1.toInt) (j := 1) rfl (by decide) i3.1 i3.2 (Int.le_refl _) (Int.le_refl _) (by decide)) (fun x_25 ls hx_25 hl => ?_)
            refine ziinc3 (n' := 1) (a' := 1) (b' := 256) (lv' := fun v9 => [(4, .int v9), (3, .int x_25), (0, .ref ro), (1, .int x1), (2, .int x2)]) hx hb dX5_greaterPart_40 hl (k := 4) rfl (by decide) (fun _ => rfl) (zaddK (i := x_2.toInt) (j := 1) rfl (by decide) i4.1 n16 (Int.le_refl _) (Int.le_refl _) (by decide)) (fun x_26 ls hx_26 hl => ?_)
            refine lv_goto (tgt := 5) hx hb dX5_greaterPart_43 (by decide) ?_
            have hl := lv_sub (l' := [(0, .ref ro), (1, .int x1), (2, .int x2), (3, .int x_25), (4, .int x_26)]) hl [2, 3, 4, 1, 0] rfl
            have hP : va_P g.1 vwCl (List.flatten [bRi g ro rw ri rt rb]) H := hP
            have hD : va_D A (List.flatten [bRi g ro rw ri rt rb]) := hD
            exact ih5_9 x_25 x_26 (by first | omega | assumption | decide) ⟨(Int.le_trans (by decide) hx_26.2.1), hx_26.2.2⟩ (zYs_s2 (x := x_2) i5 rfl (by omega) c21 hq23_k (by omega) (by omega)) (by first | omega | assumption | decide) (by have h9 := hx_10.1; omega) H _ ls (by omega)  hP hD hS (lv_sub hl [0, 1, 2, 3, 4] rfl)
          · skip
            refine lv_if_eq (tgt := 40) hx hb dX5_greaterPart_34 (by decide) (fun _ => ?_) (fun c27 => absurd (by decide) c27)
            refine ziinc3 (n' := 1) (a' := 1) (b' := 256) (lv' := fun v9 => [(4, .int v9), (0, .ref ro), (1, .int x1), (2, .int x2), (3, .int x_1)]) hx hb dX5_greaterPart_40 hl (k := 4) rfl (by decide) (fun _ => rfl) (zaddK (i := x_2.toInt) (j := 1) rfl (by decide) i4.1 n16 (Int.le_refl _) (Int.le_refl _) (by decide)) (fun x_28 ls hx_28 hl => ?_)
            refine lv_goto (tgt := 5) hx hb dX5_greaterPart_43 (by decide) ?_
            have hl := lv_sub (l' := [(0, .ref ro), (1, .int x1), (2, .int x2), (3, .int x_1), (4, .int x_28)]) hl [1, 2, 3, 4, 0] rfl
            have hP : va_P g.1 vwCl (List.flatten [bRi g ro rw ri rt rb]) H := hP
            have hD : va_D A (List.flatten [bRi g ro rw ri rt rb]) := hD
            exact ih5_9 x_1 x_28 ⟨i3.1, i3.2⟩ ⟨(Int.le_trans (by decide) hx_28.2.1), hx_28.2.2⟩ (zYs_s1 (x := x_2) i5 rfl (by omega) c21 hq23_k (by omega)) (by first | omega | assumption | decide) (by have h9 := hx_10.1; omega) H _ ls (by omega)  hP hD hS (lv_sub hl [0, 1, 2, 3, 4] rfl)
  have hL0 : (0 : Int32).toInt = 0 := by decide
  have hP : va_P g.1 vwCl (List.flatten [bRi g ro rw ri rt rb]) s.heap := hP
  have hD : va_D A (List.flatten [bRi g ro rw ri rt rb]) := hD
  exact LP5_8 _ 0 0 (by decide) (by decide) (show (0 : Int) = zYs rb x1 x2 0 from rfl) (by first | omega | assumption | decide) (by first | omega | assumption | exact Int.natCast_nonneg _ | decide) s.heap _ ls (Nat.lt_succ_self _)  hP hD hS (lv_sub hl [0, 1, 2, 3, 4] rfl)
set_option maxRecDepth 100000 in
set_option maxHeartbeats 4000000 in
theorem c_r_bestQuestionF (l : Launch) (g : zG) (ro : Nat) (rw : Nat) (ri : Int32) (rt : Int32) (rb : Nat → Int32) (b_ri : 0 ≤ ri.toInt ∧ ri.toInt ≤ 8) (hrt : 0 ≤ rt.toInt ∧ rt.toInt ≤ 256) : zM' g l yX5_bestQuestion (Cond.code yX5_bestQuestion cX5_bestQuestion 6 (some .int) :: zB) ({ frames := 2, cells := 0, slots := 0, locals := 47 } : Room) [.ref ro] [bRi g ro rw ri rt rb] (fun (q : Int32) => some (.int q)) (fun (q : Int32) => ((rt.toInt < 2 ∧ q.toInt = -1) ∨ (2 ≤ rt.toInt ∧ ∃ l9, zBs (zGf rb rt.toInt ri) ri.toInt (8 * ri.toInt) q.toInt l9))) (fun (q : Int32) => [bRi g ro rw ri rt rb]) := by
  refine zM'.of (cc := cX5_bestQuestion) (maxL := 6) (rt := (some .int)) (by decide) rfl (Nat.le_of_ble_eq_true rfl) ?_
  intro p e s m args below meth c A ls St hr hlocks hin hK hT hA hP hD hS hl
  obtain ⟨hx, hb, hml, hown, hts⟩ := id St
  have hl : lv_has ls 6 [(0, .ref ro)] := hl
  refine lv_iconst (v := (-1)) hx hb dX5_bestQuestion_0 (by decide) ?_
  refine lv_istore_n (lv' := [(1, .int (-1)), (0, .ref ro)]) hx hb dX5_bestQuestion_1 rfl hl (by decide) rfl (fun ls hl => ?_)
  refine lv_iconst (v := 0) hx hb dX5_bestQuestion_2 (by decide) ?_
  refine lv_istore_n (lv' := [(2, .int 0), (1, .int (-1)), (0, .ref ro)]) hx hb dX5_bestQuestion_3 rfl hl (by decide) rfl (fun ls hl => ?_)
  refine lv_iconst (v := 0) hx hb dX5_bestQuestion_4 (by decide) ?_
  refine lv_istore_n (lv' := [(3, .int 0), (2, .int 0), (1, .int (-1)), (0, .ref ro)]) hx hb dX5_bestQuestion_5 rfl hl (by decide) rfl (fun ls hl => ?_)
  have hl := lv_sub (l' := [(0, .ref ro), (1, .int (-1)), (2, .int 0), (3, .int 0)]) hl [3, 2, 1, 0] rfl
  have LP6_9 : ∀ (kf : Nat) (x_1 : Int32) (x_2 : Int32) (x_3 : Int32), ((-1) ≤ x_1.toInt ∧ x_1.toInt ≤ 77) → (0 ≤ x_3.toInt ∧ x_3.toInt ≤ 8) → (zBs (zGf rb rt.toInt ri) ri.toInt (8 * x_3.toInt) x_1.toInt x_2.toInt) → (x_3.toInt = 0 ∨ 2 ≤ rt.toInt) → (x_3.toInt ≤ ri.toInt) → ∀ (H : Heap) (locs : List Loc) (ls : Array Slot), ((9 - x_3.toInt).toNat) < kf → va_P g.1 vwCl (List.flatten [bRi g ro rw ri rt rb]) H → va_D A (List.flatten [bRi g ro rw ri rt rb]) → va_S A s.heap H locs → lv_has ls 6 [(0, .ref ro), (1, .int x_1), (2, .int x_2), (3, .int x_3)] → W p l e ({ frames := 2, cells := 0, slots := 0, locals := 47 } : Room) s m args below meth c H locs (0) (0) (zF g (fun (q : Int32) => some (.int q)) (fun (q : Int32) => ((rt.toInt < 2 ∧ q.toInt = -1) ∨ (2 ≤ rt.toInt ∧ ∃ l9, zBs (zGf rb rt.toInt ri) ri.toInt (8 * ri.toInt) q.toInt l9))) (fun (q : Int32) => [bRi g ro rw ri rt rb]) ({ frames := 2, cells := 0, slots := 0, locals := 47 } : Room) below args s A) (F0 m 6 ls []) := by
    intro kf
    induction kf with
    | zero => intro x_1 x_2 x_3 i4 i5 i6 i7 i8 H locs ls hk; exact absurd hk (Nat.not_lt_zero _)
    | succ kf ih6_10 =>
      intro x_1 x_2 x_3 i4 i5 i6 i7 i8 H locs ls hk6_10 hP hD hS hl
      refine lv_iload_n hx hb dX5_bestQuestion_6 rfl (lv_at hl 3 rfl) ?_
      refine lv_aload_n hx hb dX5_bestQuestion_7 rfl (lv_at hl 0 rfl) ?_
      refine va_get (D := g.1) (ci := 5) (v := .int ri) (C := RX5) (T := TX5) (N := 3) hx hb hts izRX5 hown hK hP 0 rfl rfl 1 (by decide) (hts _ k392) (fun _ h9 => h9) rfl dX5_bestQuestion_8 ?_
      refine lv_icmp_ge (tgt := 83) hx hb dX5_bestQuestion_11 (by decide) (fun cb9 => ?_) (fun cb9 => ?_)
      · skip
        have c11 : ri.toInt ≤ x_3.toInt := zle cb9 rfl rfl
        refine lv_iload_n hx hb dX5_bestQuestion_83 rfl (lv_at hl 1 rfl) ?_
        have hP : va_P g.1 vwCl (List.flatten [bRi g ro rw ri rt rb]) H := hP
        have hD : va_D A (List.flatten [bRi g ro rw ri rt rb]) := hD
        exact mret_i hx hb hr hlocks hS (Nat.le_of_ble_eq_true rfl) (Nat.le_of_ble_eq_true rfl) dX5_bestQuestion_84 (x_1) rfl (show ((rt.toInt < 2 ∧ x_1.toInt = -1) ∨ (2 ≤ rt.toInt ∧ ∃ l9, zBs (zGf rb rt.toInt ri) ri.toInt (8 * ri.toInt) x_1.toInt l9)) from (zBq_r i6 (by omega) (by omega) (by omega))) hP hD
      · skip
        have c12 : x_3.toInt < ri.toInt := zlti (Int32.not_le.mp cb9) rfl rfl
        have n13 : x_3.toInt ≤ 7 := zL1 (b := 8) c12 b_ri.2 (by decide)
        have n14 : 1 ≤ ri.toInt := zL2 (a := 0) c12 i5.1 (by decide)
        refine lv_aload_n hx hb dX5_bestQuestion_14 rfl (lv_at hl 0 rfl) ?_
        refine va_get (D := g.1) (ci := 5) (v := .int rt) (C := RX5) (T := TX5) (N := 3) hx hb hts izRX5 hown hK hP 0 rfl rfl 2 (by decide) (hts _ k393) (fun _ h9 => h9) rfl dX5_bestQuestion_15 ?_
        refine lv_iconst (v := 2) hx hb dX5_bestQuestion_18 (by decide) ?_
        refine lv_icmp_lt (tgt := 83) hx hb dX5_bestQuestion_19 (by decide) (fun cb9 => ?_) (fun cb9 => ?_)
        · skip
          have c15 : rt.toInt < 2 := zlti cb9 rfl (by decide)
          have n16 : rt.toInt ≤ 1 := zL1 (b := 2) c15 (Int.le_refl _) (by decide)
          refine lv_iload_n hx hb dX5_bestQuestion_83 rfl (lv_at hl 1 rfl) ?_
          have hP : va_P g.1 vwCl (List.flatten [bRi g ro rw ri rt rb]) H := hP
          have hD : va_D A (List.flatten [bRi g ro rw ri rt rb]) := hD
          exact mret_i hx hb hr hlocks hS (Nat.le_of_ble_eq_true rfl) (Nat.le_of_ble_eq_true rfl) dX5_bestQuestion_84 (x_1) rfl (show ((rt.toInt < 2 ∧ x_1.toInt = -1) ∨ (2 ≤ rt.toInt ∧ ∃ l9, zBs (zGf rb rt.toInt ri) ri.toInt (8 * ri.toInt) x_1.toInt l9)) from (zBq_r i6 (by omega) (by omega) (by omega))) hP hD
        · skip
          have c17 : 2 ≤ rt.toInt := zle (Int32.not_lt.mp cb9) (by decide) rfl
          have n18 : 2 ≤ rt.toInt := Int.le_trans (Int.le_refl _) c17
          refine lv_iconst (v := 0) hx hb dX5_bestQuestion_22 (by decide) ?_
          refine lv_istore (lv' := [(4, .int 0), (0, .ref ro), (1, .int x_1), (2, .int x_2), (3, .int x_3)]) hx hb dX5_bestQuestion_23 hl (by decide) rfl (fun ls hl => ?_)
          have hl := lv_sub (l' := [(0, .ref ro), (1, .int x_1), (2, .int x_2), (3, .int x_3), (4, .int 0)]) hl [1, 2, 3, 4, 0] rfl
          have LP25_26 : ∀ (kf : Nat) (x_19 : Int32) (x_20 : Int32) (x_21 : Int32), ((-1) ≤ x_19.toInt ∧ x_19.toInt ≤ 77) → (0 ≤ x_21.toInt ∧ x_21.toInt ≤ 8) → (zBs (zGf rb rt.toInt ri) ri.toInt (8 * x_3.toInt + x_21.toInt) x_19.toInt x_20.toInt) → (x_21.toInt ≤ ri.toInt) → ∀ (H : Heap) (locs : List Loc) (ls : Array Slot), ((9 - x_21.toInt).toNat) < kf → va_P g.1 vwCl (List.flatten [bRi g ro rw ri rt rb]) H → va_D A (List.flatten [bRi g ro rw ri rt rb]) → va_S A s.heap H locs → lv_has ls 6 [(0, .ref ro), (1, .int x_19), (2, .int x_20), (3, .int x_3), (4, .int x_21)] → W p l e ({ frames := 2, cells := 0, slots := 0, locals := 47 } : Room) s m args below meth c H locs (0) (0) (zF g (fun (q : Int32) => some (.int q)) (fun (q : Int32) => ((rt.toInt < 2 ∧ q.toInt = -1) ∨ (2 ≤ rt.toInt ∧ ∃ l9, zBs (zGf rb rt.toInt ri) ri.toInt (8 * ri.toInt) q.toInt l9))) (fun (q : Int32) => [bRi g ro rw ri rt rb]) ({ frames := 2, cells := 0, slots := 0, locals := 47 } : Room) below args s A) (F0 m 25 ls []) := by
            intro kf
            induction kf with
            | zero => intro x_19 x_20 x_21 i22 i23 i24 i25 H locs ls hk; exact absurd hk (Nat.not_lt_zero _)
            | succ kf ih25_27 =>
              intro x_19 x_20 x_21 i22 i23 i24 i25 H locs ls hk25_27 hP hD hS hl
              refine lv_iload hx hb dX5_bestQuestion_25 (lv_at hl 4 rfl) ?_
              refine lv_aload_n hx hb dX5_bestQuestion_27 rfl (lv_at hl 0 rfl) ?_
              refine va_get (D := g.1) (ci := 5) (v := .int ri) (C := RX5) (T := TX5) (N := 3) hx hb hts izRX5 hown hK hP 0 rfl rfl 1 (by decide) (hts _ k392) (fun _ h9 => h9) rfl dX5_bestQuestion_28 ?_
              refine lv_icmp_ge (tgt := 77) hx hb dX5_bestQuestion_31 (by decide) (fun cb9 => ?_) (fun cb9 => ?_)
              · skip
                have c28 : ri.toInt ≤ x_21.toInt := zle cb9 rfl rfl
                have n29 : 1 ≤ x_21.toInt := Int.le_trans n14 c28
                refine ziinc3 (n' := 1) (a' := 1) (b' := 8) (lv' := fun v9 => [(3, .int v9), (0, .ref ro), (1, .int x_19), (2, .int x_20), (4, .int x_21)]) hx hb dX5_bestQuestion_77 hl (k := 3) rfl (by decide) (fun _ => rfl) (zaddK (i := x_3.toInt) (j := 1) rfl (by decide) i5.1 n13 (Int.le_refl _) (Int.le_refl _) (by decide)) (fun x_30 ls hx_30 hl => ?_)
                refine lv_goto (tgt := 6) hx hb dX5_bestQuestion_80 (by decide) ?_
                have hl := lv_sub (l' := [(0, .ref ro), (1, .int x_19), (2, .int x_20), (3, .int x_30), (4, .int x_21)]) hl [1, 2, 3, 0, 4] rfl
                have hP : va_P g.1 vwCl (List.flatten [bRi g ro rw ri rt rb]) H := hP
                have hD : va_D A (List.flatten [bRi g ro rw ri rt rb]) := hD
                exact ih6_10 x_19 x_20 x_30 ⟨i22.1, i22.2⟩ ⟨(Int.le_trans (by decide) hx_30.2.1), hx_30.2.2⟩ (zBs_r (u := x_3.toInt) i24 (by omega) (by omega) (by omega)) (by first | omega | assumption | decide) (by first | omega | assumption | decide) H _ ls (zmK hx_30.1 (by decide) n13 (by decide) hk6_10)  hP hD hS (lv_sub hl [0, 1, 2, 3] rfl)
              · skip
                have c31 : x_21.toInt < ri.toInt := zlti (Int32.not_le.mp cb9) rfl rfl
                have n32 : x_21.toInt ≤ 7 := zL1 (b := 8) c31 b_ri.2 (by decide)
                refine lv_aload_n hx hb dX5_bestQuestion_34 rfl (lv_at hl 0 rfl) ?_
                refine lv_iload_n hx hb dX5_bestQuestion_35 rfl (lv_at hl 3 rfl) ?_
                refine lv_iload hx hb dX5_bestQuestion_36 (lv_at hl 4 rfl) ?_
                refine mcallV' (g := g) (q0 := 0) (ci := 5) (As := [.int x_3, .int x_21]) (rest := []) St hK hT hA hP hD hS hl.1 [0] [] rfl rfl rfl (c_r_greaterPartF l g ro rw ri rt rb x_3 x_21 b_ri hrt) (cwV 2 hts (zgL (zl4 k401 k402 k403 k389) k398) rfl rfl rfl (by decide +kernel) ⟨Nat.le_of_ble_eq_true rfl, Nat.le_of_ble_eq_true rfl⟩) rfl rfl rfl rfl (Nat.le_of_ble_eq_true rfl) dX5_bestQuestion_38 ⟨(Nat.le_of_ble_eq_true rfl), (Nat.le_of_ble_eq_true rfl)⟩ (fun q_33 H locs hq34 hP hD hS => ?_)
                replace hq34 : (q_33.toInt = zGp rb rt.toInt ri x_3 x_21) := hq34
                have hP : va_P g.1 vwCl (List.flatten [bRi g ro rw ri rt rb]) H := hP
                have hD : va_D A (List.flatten [bRi g ro rw ri rt rb]) := hD
                refine W.widen (k := 0) (n := 0) (Nat.le_of_ble_eq_true rfl) (Nat.le_of_ble_eq_true rfl) ?_
                refine W.eq (g2 := F0 m 41 ls [.int q_33]) rfl ?_
                refine lv_istore (lv' := [(5, .int q_33), (0, .ref ro), (1, .int x_19), (2, .int x_20), (3, .int x_3), (4, .int x_21)]) hx hb dX5_bestQuestion_41 hl (by decide) rfl (fun ls hl => ?_)
                refine lv_iload_n hx hb dX5_bestQuestion_43 rfl (lv_at hl 4 rfl) ?_
                refine lv_iload hx hb dX5_bestQuestion_44 (lv_at hl 5 rfl) ?_
                refine lv_icmp_eq (tgt := 71) hx hb dX5_bestQuestion_46 (by decide) (fun cb9 => ?_) (fun cb9 => ?_)
                · skip
                  have c35 : x_3.toInt = x_21.toInt := zeq cb9 rfl rfl
                  refine ziinc3 (n' := 1) (a' := 1) (b' := 8) (lv' := fun v9 => [(4, .int v9), (5, .int q_33), (0, .ref ro), (1, .int x_19), (2, .int x_20), (3, .int x_3)]) hx hb dX5_bestQuestion_71 hl (k := 5) rfl (by decide) (fun _ => rfl) (zaddK (i := x_21.toInt) (j := 1) rfl (by decide) i23.1 n32 (Int.le_refl _) (Int.le_refl _) (by decide)) (fun x_36 ls hx_36 hl => ?_)
                  refine lv_goto (tgt := 25) hx hb dX5_bestQuestion_74 (by decide) ?_
                  have hl := lv_sub (l' := [(0, .ref ro), (1, .int x_19), (2, .int x_20), (3, .int x_3), (4, .int x_36), (5, .int q_33)]) hl [2, 3, 4, 5, 0, 1] rfl
                  have hP : va_P g.1 vwCl (List.flatten [bRi g ro rw ri rt rb]) H := hP
                  have hD : va_D A (List.flatten [bRi g ro rw ri rt rb]) := hD
                  exact ih25_27 x_19 x_20 x_36 ⟨i22.1, i22.2⟩ ⟨(Int.le_trans (by decide) hx_36.2.1), hx_36.2.2⟩ (zBs_k (u := x_3.toInt) (v := x_21.toInt) i24 rfl (by omega) (by omega) (by omega) (by omega) (by omega)) (by first | omega | assumption | decide) H _ ls (zmK hx_36.1 (by decide) n32 (by decide) hk25_27)  hP hD hS (lv_sub hl [0, 1, 2, 3, 4] rfl)
                · skip
                  have c37 : ¬ x_3.toInt = x_21.toInt := zne cb9 rfl rfl
                  refine lv_iload_n hx hb dX5_bestQuestion_49 rfl (lv_at hl 2 rfl) ?_
                  refine lv_iconst (v := (-1)) hx hb dX5_bestQuestion_50 (by decide) ?_
                  refine lv_icmp_eq (tgt := 60) hx hb dX5_bestQuestion_51 (by decide) (fun cb9 => ?_) (fun cb9 => ?_)
                  · skip
                    have c38 : x_19.toInt = (-1) := zeq cb9 rfl (by decide)
                    have n39 : x_19.toInt ≤ (-1) := Int.le_trans (Int.le_of_eq c38) (Int.le_refl _)
                    refine lv_bipush (v := 10) hx hb dX5_bestQuestion_60 (by decide) ?_
                    refine lv_iload_n hx hb dX5_bestQuestion_62 rfl (lv_at hl 4 rfl) ?_
                    refine lv_imul hx hb dX5_bestQuestion_63 ?_
                    refine zg3 (zmulKL (i := x_3.toInt) (n := 10) (a' := 0) (b' := 70) rfl (by decide) i5.1 n13 (by decide) (by decide)) (fun x_40 hx_40 => ?_)
                    refine lv_iload hx hb dX5_bestQuestion_64 (lv_at hl 5 rfl) ?_
                    refine lv_iadd hx hb dX5_bestQuestion_66 ?_
                    refine zg3 (zaddK (i := x_40.toInt) (j := x_21.toInt) (a' := 0) (b' := 77) rfl rfl hx_40.2.1 hx_40.2.2 i23.1 n32 (by decide)) (fun x_41 hx_41 => ?_)
                    refine lv_istore_n (lv' := [(1, .int x_41), (5, .int q_33), (0, .ref ro), (2, .int x_20), (3, .int x_3), (4, .int x_21)]) hx hb dX5_bestQuestion_67 rfl hl (by decide) rfl (fun ls hl => ?_)
                    refine lv_iload hx hb dX5_bestQuestion_68 (lv_at hl 1 rfl) ?_
                    refine lv_istore_n (lv' := [(2, .int q_33), (1, .int x_41), (5, .int q_33), (0, .ref ro), (3, .int x_3), (4, .int x_21)]) hx hb dX5_bestQuestion_70 rfl hl (by decide) rfl (fun ls hl => ?_)
                    refine ziinc3 (n' := 1) (a' := 1) (b' := 8) (lv' := fun v9 => [(4, .int v9), (2, .int q_33), (1, .int x_41), (5, .int q_33), (0, .ref ro), (3, .int x_3)]) hx hb dX5_bestQuestion_71 hl (k := 5) rfl (by decide) (fun _ => rfl) (zaddK (i := x_21.toInt) (j := 1) rfl (by decide) i23.1 n32 (Int.le_refl _) (Int.le_refl _) (by decide)) (fun x_42 ls hx_42 hl => ?_)
                    refine lv_goto (tgt := 25) hx hb dX5_bestQuestion_74 (by decide) ?_
                    have hl := lv_sub (l' := [(0, .ref ro), (1, .int x_41), (2, .int q_33), (3, .int x_3), (4, .int x_42), (5, .int q_33)]) hl [4, 2, 1, 5, 0, 3] rfl
                    have hP : va_P g.1 vwCl (List.flatten [bRi g ro rw ri rt rb]) H := hP
                    have hD : va_D A (List.flatten [bRi g ro rw ri rt rb]) := hD
                    exact ih25_27 x_41 q_33 x_42 ⟨(Int.le_trans (by decide) hx_41.2.1), hx_41.2.2⟩ ⟨(Int.le_trans (by decide) hx_42.2.1), hx_42.2.2⟩ (zBs_u (u := x_3.toInt) (v := x_21.toInt) i24 rfl (by omega) (by omega) (by omega) (by omega) (by omega) (by omega) (hq34.trans (zGf_e (by omega) (by omega)).symm) (by omega) (by omega) (by omega) (by omega)) (by first | omega | assumption | decide) H _ ls (zmK hx_42.1 (by decide) n32 (by decide) hk25_27)  hP hD hS (lv_sub hl [0, 1, 2, 3, 4] rfl)
                  · skip
                    have c43 : ¬ x_19.toInt = (-1) := zne cb9 rfl (by decide)
                    have n44 : 0 ≤ x_19.toInt := zN1 c43 i22.1 (by decide)
                    refine lv_iload hx hb dX5_bestQuestion_54 (lv_at hl 0 rfl) ?_
                    refine lv_iload_n hx hb dX5_bestQuestion_56 rfl (lv_at hl 3 rfl) ?_
                    refine lv_icmp_ge (tgt := 71) hx hb dX5_bestQuestion_57 (by decide) (fun cb9 => ?_) (fun cb9 => ?_)
                    · skip
                      have c45 : x_20.toInt ≤ q_33.toInt := zle cb9 rfl rfl
                      refine ziinc3 (n' := 1) (a' := 1) (b' := 8) (lv' := fun v9 => [(4, .int v9), (5, .int q_33), (0, .ref ro), (1, .int x_19), (2, .int x_20), (3, .int x_3)]) hx hb dX5_bestQuestion_71 hl (k := 5) rfl (by decide) (fun _ => rfl) (zaddK (i := x_21.toInt) (j := 1) rfl (by decide) i23.1 n32 (Int.le_refl _) (Int.le_refl _) (by decide)) (fun x_46 ls hx_46 hl => ?_)
                      refine lv_goto (tgt := 25) hx hb dX5_bestQuestion_74 (by decide) ?_
                      have hl := lv_sub (l' := [(0, .ref ro), (1, .int x_19), (2, .int x_20), (3, .int x_3), (4, .int x_46), (5, .int q_33)]) hl [2, 3, 4, 5, 0, 1] rfl
                      have hP : va_P g.1 vwCl (List.flatten [bRi g ro rw ri rt rb]) H := hP
                      have hD : va_D A (List.flatten [bRi g ro rw ri rt rb]) := hD
                      exact ih25_27 x_19 x_20 x_46 ⟨(Int.le_trans (by decide) n44), i22.2⟩ ⟨(Int.le_trans (by decide) hx_46.2.1), hx_46.2.2⟩ (zBs_n (u := x_3.toInt) (v := x_21.toInt) i24 rfl (by omega) (by omega) (by omega) (by omega) (hq34.trans (zGf_e (by omega) (by omega)).symm) (by omega) (by omega)) (by first | omega | assumption | decide) H _ ls (zmK hx_46.1 (by decide) n32 (by decide) hk25_27)  hP hD hS (lv_sub hl [0, 1, 2, 3, 4] rfl)
                    · skip
                      have c47 : q_33.toInt < x_20.toInt := zlti (Int32.not_le.mp cb9) rfl rfl
                      refine lv_bipush (v := 10) hx hb dX5_bestQuestion_60 (by decide) ?_
                      refine lv_iload_n hx hb dX5_bestQuestion_62 rfl (lv_at hl 4 rfl) ?_
                      refine lv_imul hx hb dX5_bestQuestion_63 ?_
                      refine zg3 (zmulKL (i := x_3.toInt) (n := 10) (a' := 0) (b' := 70) rfl (by decide) i5.1 n13 (by decide) (by decide)) (fun x_48 hx_48 => ?_)
                      refine lv_iload hx hb dX5_bestQuestion_64 (lv_at hl 5 rfl) ?_
                      refine lv_iadd hx hb dX5_bestQuestion_66 ?_
                      refine zg3 (zaddK (i := x_48.toInt) (j := x_21.toInt) (a' := 0) (b' := 77) rfl rfl hx_48.2.1 hx_48.2.2 i23.1 n32 (by decide)) (fun x_49 hx_49 => ?_)
                      refine lv_istore_n (lv' := [(1, .int x_49), (5, .int q_33), (0, .ref ro), (2, .int x_20), (3, .int x_3), (4, .int x_21)]) hx hb dX5_bestQuestion_67 rfl hl (by decide) rfl (fun ls hl => ?_)
                      refine lv_iload hx hb dX5_bestQuestion_68 (lv_at hl 1 rfl) ?_
                      refine lv_istore_n (lv' := [(2, .int q_33), (1, .int x_49), (5, .int q_33), (0, .ref ro), (3, .int x_3), (4, .int x_21)]) hx hb dX5_bestQuestion_70 rfl hl (by decide) rfl (fun ls hl => ?_)
                      refine ziinc3 (n' := 1) (a' := 1) (b' := 8) (lv' := fun v9 => [(4, .int v9), (2, .int q_33), (1, .int x_49), (5, .int q_33), (0, .ref ro), (3, .int x_3)]) hx hb dX5_bestQuestion_71 hl (k := 5) rfl (by decide) (fun _ => rfl) (zaddK (i := x_21.toInt) (j := 1) rfl (by decide) i23.1 n32 (Int.le_refl _) (Int.le_refl _) (by decide)) (fun x_50 ls hx_50 hl => ?_)
                      refine lv_goto (tgt := 25) hx hb dX5_bestQuestion_74 (by decide) ?_
                      have hl := lv_sub (l' := [(0, .ref ro), (1, .int x_49), (2, .int q_33), (3, .int x_3), (4, .int x_50), (5, .int q_33)]) hl [4, 2, 1, 5, 0, 3] rfl
                      have hP : va_P g.1 vwCl (List.flatten [bRi g ro rw ri rt rb]) H := hP
                      have hD : va_D A (List.flatten [bRi g ro rw ri rt rb]) := hD
                      exact ih25_27 x_49 q_33 x_50 ⟨(Int.le_trans (by decide) hx_49.2.1), hx_49.2.2⟩ ⟨(Int.le_trans (by decide) hx_50.2.1), hx_50.2.2⟩ (zBs_u (u := x_3.toInt) (v := x_21.toInt) i24 rfl (by omega) (by omega) (by omega) (by omega) (by omega) (by omega) (hq34.trans (zGf_e (by omega) (by omega)).symm) (by omega) (by omega) (by omega) (by omega)) (by first | omega | assumption | decide) H _ ls (zmK hx_50.1 (by decide) n32 (by decide) hk25_27)  hP hD hS (lv_sub hl [0, 1, 2, 3, 4] rfl)
          have hL0 : (0 : Int32).toInt = 0 := by decide
          have hP : va_P g.1 vwCl (List.flatten [bRi g ro rw ri rt rb]) H := hP
          have hD : va_D A (List.flatten [bRi g ro rw ri rt rb]) := hD
          exact LP25_26 _ x_1 x_2 0 ⟨i4.1, i4.2⟩ (by decide) (zBs_t i6 (by omega)) (by first | omega | assumption | decide) H _ ls (Nat.lt_succ_self _)  hP hD hS (lv_sub hl [0, 1, 2, 3, 4] rfl)
  have hLn1 : ((-1) : Int32).toInt = (-1) := by decide
  have hL0 : (0 : Int32).toInt = 0 := by decide
  have hP : va_P g.1 vwCl (List.flatten [bRi g ro rw ri rt rb]) s.heap := hP
  have hD : va_D A (List.flatten [bRi g ro rw ri rt rb]) := hD
  exact LP6_9 _ (-1) 0 0 (by decide) (by decide) (zBs_0 (by decide) (by decide)) (by first | omega | assumption | decide) (by first | omega | assumption | decide) s.heap _ ls (Nat.lt_succ_self _)  hP hD hS (lv_sub hl [0, 1, 2, 3] rfl)
set_option maxRecDepth 100000 in
set_option maxHeartbeats 4000000 in
theorem c_x_askF (l : Launch) (hfl : l.stackTraces = false) (g : zG) (x : Nat) (ta : Nat) (o : Nat) (lo : Nat) (go : Nat) (tt : Nat) (lt : Nat) (mo : Nat) (fo : Nat) (ro : Nat) (fl9 : Int32) (a : Nat → Nat) (pe : Int32) (wo : Int32) (tx : Int32) (ch : Int32) (jo : Int32) (tr : Int32) (dy : Int32) (sd : Int32) (f : Nat → Nat → Int32) (ab : Nat) (sz : Int32) (ln : Int32) (kd : Int32) (bg : Int32) (nx : Int32) (ft : Int32) (fb : Nat → Int32) (rw : Nat) (ri : Int32) (rt : Int32) (rb : Nat → Int32) (b_pe : 0 ≤ pe.toInt ∧ pe.toInt ≤ 8) (b_wo : 0 ≤ wo.toInt ∧ wo.toInt ≤ 6) (rf : zZ4 f) (b_sz : 0 ≤ sz.toInt ∧ sz.toInt ≤ 400) (b_ri : 0 ≤ ri.toInt ∧ ri.toInt ≤ 8) : zX' g l yX11_ask (Cond.code yX11_ask cX11_ask 2 (some .int) :: zB) ({ frames := 8, cells := 2, slots := 12, locals := 126 } : Room) [.ref x] [bDR g x ta o lo go tt lt mo fo ro fl9, bTown g o a pe wo tx ch jo tr dy sd f, bTape g ta ab sz ln kd bg nx ft fb, bRi g ro rw ri rt rb] (fun u : Int32 × Int32 × (Nat → Int32) × Int32 => (fun (ri2 : Int32) (rt2 : Int32) (rb2 : Nat → Int32) (q : Int32) => some (.int q)) (u.1) (u.2.1) (u.2.2.1) (u.2.2.2)) (fun u : Int32 × Int32 × (Nat → Int32) × Int32 => (fun (ri2 : Int32) (rt2 : Int32) (rb2 : Nat → Int32) (q : Int32) => (0 ≤ ri2.toInt ∧ ri2.toInt ≤ 8) ∧ (sz.toInt ≤ 36 ∧ zSaid fb sz.toInt pe.toInt) ∧ (zAsk fb sz.toInt pe.toInt q)) (u.1) (u.2.1) (u.2.2.1) (u.2.2.2)) (fun u : Int32 × Int32 × (Nat → Int32) × Int32 => (fun (ri2 : Int32) (rt2 : Int32) (rb2 : Nat → Int32) (q : Int32) => [bDR g x ta o lo go tt lt mo fo ro fl9, bTown g o a pe wo tx ch jo tr dy sd f, bTape g ta ab 0 ln kd bg nx ft fb, bRi g ro rw ri2 rt2 rb2]) (u.1) (u.2.1) (u.2.2.1) (u.2.2.2)) (fun (E : String) => fun u : Int32 × Int32 × (Nat → Int32) => (fun (ri2 : Int32) (rt2 : Int32) (rb2 : Nat → Int32) => (E = "java/lang/IllegalArgumentException") ∧ (0 ≤ ri2.toInt ∧ ri2.toInt ≤ 8) ∧ (¬ (sz.toInt ≤ 36 ∧ zSaid fb sz.toInt pe.toInt))) (u.1) (u.2.1) (u.2.2)) (fun u : Int32 × Int32 × (Nat → Int32) => (fun (ri2 : Int32) (rt2 : Int32) (rb2 : Nat → Int32) => [bDR g x ta o lo go tt lt mo fo ro fl9, bTown g o a pe wo tx ch jo tr dy sd f, bTape g ta ab 0 ln kd bg nx ft fb, bRi g ro rw ri2 rt2 rb2]) (u.1) (u.2.1) (u.2.2)) := by
  refine zX'.of (cc := cX11_ask) (maxL := 2) (rt := (some .int)) (by decide) rfl (Nat.le_of_ble_eq_true rfl) ?_
  intro p e s m args below meth c A ls St hr hlocks htab hin hK hT hA hP hD hS hl
  obtain ⟨hx, hb, hml, hown, hts⟩ := id St
  have hl : lv_has ls 2 [(0, .ref x)] := hl
  refine lv_aload_n hx hb dX11_ask_0 rfl (lv_at hl 0 rfl) ?_
  refine va_get (D := g.1) (ci := 9) (v := .ref ta) (C := RX11) (T := TX11) (N := 10) hx hb hts izRX11 hown hK hP 0 rfl rfl 0 (by decide) (hts _ k536) (fun _ h9 => h9) rfl dX11_ask_1 ?_
  refine mcallV' (g := g) (q0 := 0) (ci := 6) (As := []) (rest := []) St hK hT hA hP hD hS hl.1 [2] [0, 1, 3] rfl rfl rfl (c_t_useUp l g ta ab sz ln kd bg nx ft fb ) (cwV 0 hts (zgL (zl4 k583 k584 k585 k277) k424) rfl rfl rfl (by decide +kernel) ⟨Nat.le_of_ble_eq_true rfl, Nat.le_of_ble_eq_true rfl⟩) rfl rfl rfl rfl (Nat.le_of_ble_eq_true rfl) dX11_ask_4 ⟨(Nat.le_of_ble_eq_true rfl), (Nat.le_of_ble_eq_true rfl)⟩ (fun _u H locs hq1 hP hD hS => ?_)
  have hP : va_P g.1 vwCl (List.flatten [bDR g x ta o lo go tt lt mo fo ro fl9, bTown g o a pe wo tx ch jo tr dy sd f, bRi g ro rw ri rt rb, bTape g ta ab 0 ln kd bg nx ft fb]) H := hP
  have hD : va_D A (List.flatten [bDR g x ta o lo go tt lt mo fo ro fl9, bTown g o a pe wo tx ch jo tr dy sd f, bRi g ro rw ri rt rb, bTape g ta ab 0 ln kd bg nx ft fb]) := hD
  refine W.widen (k := 0) (n := 0) (Nat.le_of_ble_eq_true rfl) (Nat.le_of_ble_eq_true rfl) ?_
  refine W.eq (g2 := F0 m 7 ls [.int sz]) rfl ?_
  refine lv_istore_n (lv' := [(1, .int sz), (0, .ref x)]) hx hb dX11_ask_7 rfl hl (by decide) rfl (fun ls hl => ?_)
  refine lv_aload_n hx hb dX11_ask_8 rfl (lv_at hl 1 rfl) ?_
  refine lv_iload_n hx hb dX11_ask_9 rfl (lv_at hl 0 rfl) ?_
  have hL0 : (0 : Int32).toInt = 0 := by decide
  refine xcallV' (g := g) (q0 := 0) (ci := 9) (As := [.int sz]) (rest := []) St hK hT hA hP hD hS hl.1 [0, 1, 3] [2] rfl rfl rfl (c_x_needSaidF l hfl g x ta o lo go tt lt mo fo ro fl9 a pe wo tx ch jo tr dy sd f ab 0 ln kd bg nx ft fb sz b_pe b_wo rf (by decide) b_sz) (cwV 1 hts (zgL (zl4 k738 k739 k740 k621) k733) rfl rfl rfl (by decide +kernel) ⟨Nat.le_of_ble_eq_true rfl, Nat.le_of_ble_eq_true rfl⟩) rfl rfl rfl rfl (Nat.le_of_ble_eq_true rfl) dX11_ask_10 ⟨(Nat.le_of_ble_eq_true rfl), (Nat.le_of_ble_eq_true rfl)⟩ (fun E ce q9 u9 H locs hpx hP hD hS hce hcv hcl => ?_) (fun _u H locs hq2 hP hD hS => ?_)
  · skip
    have hpx : (E = "java/lang/IllegalArgumentException") ∧ (¬ (sz.toInt ≤ 36 ∧ zSaid fb sz.toInt pe.toInt)) := hpx
    have hP : va_P g.1 vwCl (List.flatten [bRi g ro rw ri rt rb, bDR g x ta o lo go tt lt mo fo ro fl9, bTown g o a pe wo tx ch jo tr dy sd f, bTape g ta ab 0 ln kd bg nx ft fb]) H := hP
    have hD : va_D A (List.flatten [bRi g ro rw ri rt rb, bDR g x ta o lo go tt lt mo fo ro fl9, bTown g o a pe wo tx ch jo tr dy sd f, bTape g ta ab 0 ln kd bg nx ft fb]) := hD
    obtain ⟨hE9, hy3⟩ := hpx
    have hP : va_P g.1 vwCl (List.flatten [bRi g ro rw ri rt rb, bDR g x ta o lo go tt lt mo fo ro fl9, bTown g o a pe wo tx ch jo tr dy sd f, bTape g ta ab 0 ln kd bg nx ft fb]) H := hP
    have hD : va_D A (List.flatten [bRi g ro rw ri rt rb, bDR g x ta o lo go tt lt mo fo ro fl9, bTown g o a pe wo tx ch jo tr dy sd f, bTape g ta ab 0 ln kd bg nx ft fb]) := hD
    obtain ⟨hP, hD⟩ := zord (g := g) (Bs' := [bDR g x ta o lo go tt lt mo fo ro fl9, bTown g o a pe wo tx ch jo tr dy sd f, bTape g ta ab 0 ln kd bg nx ft fb, bRi g ro rw ri rt rb]) [1, 2, 3, 0] rfl rfl hP hD
    exact zout htab hlocks hS (Nat.le_of_ble_eq_true rfl) (Nat.le_of_ble_eq_true rfl) hce hcv hcl (ri, rt, rb) (show (E = "java/lang/IllegalArgumentException") ∧ (0 ≤ ri.toInt ∧ ri.toInt ≤ 8) ∧ (¬ (sz.toInt ≤ 36 ∧ zSaid fb sz.toInt pe.toInt)) from ⟨hE9, (show 0 ≤ ri.toInt ∧ ri.toInt ≤ 8 from b_ri), (show ¬ (sz.toInt ≤ 36 ∧ zSaid fb sz.toInt pe.toInt) from hy3)⟩) hP hD
  · skip
    replace hq2 : (0 ≤ sz.toInt ∧ sz.toInt ≤ 36) ∧ (zSaid fb sz.toInt pe.toInt) := hq2
    have hP : va_P g.1 vwCl (List.flatten [bRi g ro rw ri rt rb, bDR g x ta o lo go tt lt mo fo ro fl9, bTown g o a pe wo tx ch jo tr dy sd f, bTape g ta ab 0 ln kd bg nx ft fb]) H := hP
    have hD : va_D A (List.flatten [bRi g ro rw ri rt rb, bDR g x ta o lo go tt lt mo fo ro fl9, bTown g o a pe wo tx ch jo tr dy sd f, bTape g ta ab 0 ln kd bg nx ft fb]) := hD
    refine W.widen (k := 2) (n := 12) (Nat.le_of_ble_eq_true rfl) (Nat.le_of_ble_eq_true rfl) ?_
    refine W.eq (g2 := F0 m 13 ls []) rfl ?_
    obtain ⟨hq2_0, hq2_1⟩ := hq2
    have w4 : sz.toInt % 3 = 0 := hq2_1.2.1
    refine lv_aload_n hx hb dX11_ask_13 rfl (lv_at hl 1 rfl) ?_
    refine va_get (D := g.1) (ci := 9) (v := .ref ro) (C := RX11) (T := TX11) (N := 10) hx hb hts izRX11 hown hK hP 2 rfl rfl 8 (by decide) (hts _ k557) (fun _ h9 => h9) rfl dX11_ask_14 ?_
    refine lv_aload_n hx hb dX11_ask_17 rfl (lv_at hl 1 rfl) ?_
    refine va_get (D := g.1) (ci := 9) (v := .ref ta) (C := RX11) (T := TX11) (N := 10) hx hb hts izRX11 hown hK hP 2 rfl rfl 0 (by decide) (hts _ k536) (fun _ h9 => h9) rfl dX11_ask_18 ?_
    refine lv_iload_n hx hb dX11_ask_21 rfl (lv_at hl 0 rfl) ?_
    refine lv_aload_n hx hb dX11_ask_22 rfl (lv_at hl 1 rfl) ?_
    refine va_get (D := g.1) (ci := 9) (v := .ref o) (C := RX11) (T := TX11) (N := 10) hx hb hts izRX11 hown hK hP 2 rfl rfl 1 (by decide) (hts _ k538) (fun _ h9 => h9) rfl dX11_ask_23 ?_
    refine va_get (D := g.1) (ci := 7) (v := .int pe) (C := RX9) (T := TX9) (N := 19) hx hb hts izRX9 hown hK hP 3 rfl rfl 0 (by decide) (hts _ k610) (fun _ h9 => h9) rfl dX11_ask_26 ?_
    refine mcallV' (g := g) (q0 := 0) (ci := 5) (As := [.ref ta, .int sz, .int pe]) (rest := []) St hK hT hA hP hD hS hl.1 [0, 3] [1, 2] rfl rfl rfl (c_r_hearF l g ro rw ri rt rb ta ab 0 ln kd bg nx ft fb sz pe hq2_0 b_pe (by first | assumption | omega | decide | exact Or.inl (by decide) | exact Or.inr (by decide))) (cwV 3 hts (zgL (zl4 k741 k742 k743 k389) k390) rfl rfl rfl (by decide +kernel) ⟨Nat.le_of_ble_eq_true rfl, Nat.le_of_ble_eq_true rfl⟩) rfl rfl rfl rfl (Nat.le_of_ble_eq_true rfl) dX11_ask_29 ⟨(Nat.le_of_ble_eq_true rfl), (Nat.le_of_ble_eq_true rfl)⟩ (fun u_ H locs hq8 hP hD hS => ?_)
    obtain ⟨ri2_5, rt2_6, rb2_7⟩ := u_
    replace hq8 : (0 ≤ ri2_5.toInt ∧ ri2_5.toInt ≤ 8) ∧ (ri2_5.toInt = pe.toInt) ∧ (0 ≤ rt2_6.toInt ∧ rt2_6.toInt ≤ 256) ∧ (zHr fb sz.toInt rb2_7 ((2 ^ ri2_5.toInt.toNat : Nat) : Int) rt2_6.toInt) := hq8
    have hP : va_P g.1 vwCl (List.flatten [bDR g x ta o lo go tt lt mo fo ro fl9, bTown g o a pe wo tx ch jo tr dy sd f, bRi g ro rw ri2_5 rt2_6 rb2_7, bTape g ta ab 0 ln kd bg nx ft fb]) H := hP
    have hD : va_D A (List.flatten [bDR g x ta o lo go tt lt mo fo ro fl9, bTown g o a pe wo tx ch jo tr dy sd f, bRi g ro rw ri2_5 rt2_6 rb2_7, bTape g ta ab 0 ln kd bg nx ft fb]) := hD
    refine W.widen (k := 2) (n := 12) (Nat.le_of_ble_eq_true rfl) (Nat.le_of_ble_eq_true rfl) ?_
    refine W.eq (g2 := F0 m 32 ls []) rfl ?_
    obtain ⟨hq8_0, hq8_1, hq8_2, hq8_3⟩ := hq8
    refine lv_aload_n hx hb dX11_ask_32 rfl (lv_at hl 1 rfl) ?_
    refine va_get (D := g.1) (ci := 9) (v := .ref ro) (C := RX11) (T := TX11) (N := 10) hx hb hts izRX11 hown hK hP 0 rfl rfl 8 (by decide) (hts _ k557) (fun _ h9 => h9) rfl dX11_ask_33 ?_
    refine mcallV' (g := g) (q0 := 0) (ci := 5) (As := []) (rest := []) St hK hT hA hP hD hS hl.1 [2] [0, 1, 3] rfl rfl rfl (c_r_bestQuestionF l g ro rw ri2_5 rt2_6 rb2_7 hq8_0 hq8_2) (cwV 0 hts (zgL (zl4 k748 k749 k750 k389) k400) rfl rfl rfl (by decide +kernel) ⟨Nat.le_of_ble_eq_true rfl, Nat.le_of_ble_eq_true rfl⟩) rfl rfl rfl rfl (Nat.le_of_ble_eq_true rfl) dX11_ask_36 ⟨(Nat.le_of_ble_eq_true rfl), (Nat.le_of_ble_eq_true rfl)⟩ (fun q_9 H locs hq10 hP hD hS => ?_)
    replace hq10 : ((rt2_6.toInt < 2 ∧ q_9.toInt = -1) ∨ (2 ≤ rt2_6.toInt ∧ ∃ l9, zBs (zGf rb2_7 rt2_6.toInt ri2_5) ri2_5.toInt (8 * ri2_5.toInt) q_9.toInt l9)) := hq10
    have hP : va_P g.1 vwCl (List.flatten [bDR g x ta o lo go tt lt mo fo ro fl9, bTown g o a pe wo tx ch jo tr dy sd f, bTape g ta ab 0 ln kd bg nx ft fb, bRi g ro rw ri2_5 rt2_6 rb2_7]) H := hP
    have hD : va_D A (List.flatten [bDR g x ta o lo go tt lt mo fo ro fl9, bTown g o a pe wo tx ch jo tr dy sd f, bTape g ta ab 0 ln kd bg nx ft fb, bRi g ro rw ri2_5 rt2_6 rb2_7]) := hD
    refine W.widen (k := 2) (n := 12) (Nat.le_of_ble_eq_true rfl) (Nat.le_of_ble_eq_true rfl) ?_
    refine W.eq (g2 := F0 m 39 ls [.int q_9]) rfl ?_
    have hP : va_P g.1 vwCl (List.flatten [bDR g x ta o lo go tt lt mo fo ro fl9, bTown g o a pe wo tx ch jo tr dy sd f, bTape g ta ab 0 ln kd bg nx ft fb, bRi g ro rw ri2_5 rt2_6 rb2_7]) H := hP
    have hD : va_D A (List.flatten [bDR g x ta o lo go tt lt mo fo ro fl9, bTown g o a pe wo tx ch jo tr dy sd f, bTape g ta ab 0 ln kd bg nx ft fb, bRi g ro rw ri2_5 rt2_6 rb2_7]) := hD
    exact zret_i hx hb hr hlocks hS (Nat.le_of_ble_eq_true rfl) (Nat.le_of_ble_eq_true rfl) dX11_ask_39 (ri2_5, rt2_6, rb2_7, q_9) rfl (show (0 ≤ ri2_5.toInt ∧ ri2_5.toInt ≤ 8) ∧ (sz.toInt ≤ 36 ∧ zSaid fb sz.toInt pe.toInt) ∧ (zAsk fb sz.toInt pe.toInt q_9) from ⟨(by first | assumption | omega | decide), ⟨(by omega), hq2_1⟩, ⟨_, _, _, hq8_1, (by omega), hq8_3, hq10⟩⟩) hP hD
set_option maxRecDepth 100000 in
set_option maxHeartbeats 4000000 in
theorem m_askF (l : Launch) (g : zG) (o : Nat) (a : Nat → Nat) (th : Int32) (hi : Int32) (ac : Int32) (tp : Int32) (ba : Int32) (en : Int32) (tA : Int32) (fl : Int32) (de : Int32) (iD : Int32) (iO : Int32) (tU : Int32) (fm : Nat → Int32) (fk : Nat → Int32) (fa : Nat → Int32) (fc : Nat → Int32) (ft : Nat → Int32) (ff : Nat → Int32) (fb : Nat → Int32) (fi : Nat → Int32) (rfm : rM fm) (htp : 0 ≤ tp.toInt ∧ tp.toInt ≤ 400) : zM' g l yX12_ask (Cond.code yX12_ask cX12_ask 8 (some .int) :: zB) ({ frames := 3, cells := 0, slots := 0, locals := 68 } : Room) [.ref o] [bMo g o a th hi ac tp ba en tA fl de iD iO tU fm fk fa fc ft ff fb fi] (fun u : (Nat → Int32) × Int32 × Int32 => (fun (fi2 : Nat → Int32) (th2 : Int32) (q : Int32) => some (.int q)) (u.1) (u.2.1) (u.2.2)) (fun u : (Nat → Int32) × Int32 × Int32 => (fun (fi2 : Nat → Int32) (th2 : Int32) (q : Int32) => (th2 = 0 ∧ zSaid ft tp.toInt (fm 3).toInt ∧ zAsk ft tp.toInt (fm 3).toInt q ∨ th2 = 1 ∧ ¬ zSaid ft tp.toInt (fm 3).toInt)) (u.1) (u.2.1) (u.2.2)) (fun u : (Nat → Int32) × Int32 × Int32 => (fun (fi2 : Nat → Int32) (th2 : Int32) (q : Int32) => [bMo g o a th2 hi ac 0 ba en tA fl de iD iO tU fm fk fa fc ft ff fb fi2]) (u.1) (u.2.1) (u.2.2)) := by
  refine zM'.of (cc := cX12_ask) (maxL := 8) (rt := (some .int)) (by decide) rfl (Nat.le_of_ble_eq_true rfl) ?_
  intro p e s m args below meth c A ls St hr hlocks hin hK hT hA hP hD hS hl
  obtain ⟨hx, hb, hml, hown, hts⟩ := id St
  have hl : lv_has ls 8 [(0, .ref o)] := hl
  have hrm3 := rM3 rfm
  refine lv_aload_n hx hb dX12_ask_0 rfl (lv_at hl 0 rfl) ?_
  refine mcallV' (g := g) (q0 := 0) (ci := 10) (As := []) (rest := []) St hK hT hA hP hD hS hl.1 [0] [] rfl rfl rfl (m_toldF l g o a th hi ac tp ba en tA fl de iD iO tU fm fk fa fc ft ff fb fi rfm htp) (cwV 0 hts (zgL (zl4 k1104 k1105 k1106 k839) k1100) rfl rfl rfl (by decide +kernel) ⟨Nat.le_of_ble_eq_true rfl, Nat.le_of_ble_eq_true rfl⟩) rfl rfl rfl rfl (Nat.le_of_ble_eq_true rfl) dX12_ask_1 ⟨(Nat.le_of_ble_eq_true rfl), (Nat.le_of_ble_eq_true rfl)⟩ (fun u_ H locs hq3 hP hD hS => ?_)
  obtain ⟨fi2_1, q_2⟩ := u_
  replace hq3 : (((0 ≤ q_2.toInt ∧ q_2.toInt ≤ 256) ∧ zSaid ft tp.toInt (fm 3).toInt ∧ zHr ft tp.toInt fi2_1 ((2 ^ (fm 3).toInt.toNat : Nat) : Int) q_2.toInt) ∨ q_2 = (-1) ∧ ¬ zSaid ft tp.toInt (fm 3).toInt) := hq3
  have hP : va_P g.1 vwCl (List.flatten [bMo g o a th hi ac 0 ba en tA fl de iD iO tU fm fk fa fc ft ff fb fi2_1]) H := hP
  have hD : va_D A (List.flatten [bMo g o a th hi ac 0 ba en tA fl de iD iO tU fm fk fa fc ft ff fb fi2_1]) := hD
  refine W.widen (k := 0) (n := 0) (Nat.le_of_ble_eq_true rfl) (Nat.le_of_ble_eq_true rfl) ?_
  refine W.eq (g2 := F0 m 4 ls [.int q_2]) rfl ?_
  rcases hq3 with ⟨hq3_kn, hq3_ks, hq3_k⟩ | ⟨rfl, hq3_k⟩
  · skip
    refine lv_istore_n (lv' := [(1, .int q_2), (0, .ref o)]) hx hb dX12_ask_4 rfl hl (by decide) rfl (fun ls hl => ?_)
    refine lv_aload_n hx hb dX12_ask_5 rfl (lv_at hl 1 rfl) ?_
    refine lv_iload_n hx hb dX12_ask_6 rfl (lv_at hl 0 rfl) ?_
    refine lv_iconst (v := (-1)) hx hb dX12_ask_7 (by decide) ?_
    refine lv_icmp_ne (tgt := 15) hx hb dX12_ask_8 (by decide) (fun cb9 => ?_) (fun cb9 => ?_)
    · skip
      have c4 : ¬ q_2.toInt = (-1) := zne cb9 rfl (by decide)
      refine lv_iconst (v := 0) hx hb dX12_ask_15 (by decide) ?_
      refine va_put (D := g.1) (ci := 10) (v := .int 0) (ty := .int) (C := RX12) (T := TX12) (N := 20) hx hb hts izRX12 tyX12 tyX12_ok nmX12 hown hK hP hD hS 0 rfl rfl 0 (by decide) (hts _ k825) (fun _ h9 => h9) rfl (by decide +kernel) rfl rfl (Nat.le_of_ble_eq_true rfl) dX12_ask_16 (fun H locs hP hD hS => ?_)
      have hP : va_P g.1 vwCl (List.flatten [bMo g o a 0 hi ac 0 ba en tA fl de iD iO tU fm fk fa fc ft ff fb fi2_1]) H := hP
      have hD : va_D A (List.flatten [bMo g o a 0 hi ac 0 ba en tA fl de iD iO tU fm fk fa fc ft ff fb fi2_1]) := hD
      refine lv_aload_n hx hb dX12_ask_19 rfl (lv_at hl 1 rfl) ?_
      refine va_get (D := g.1) (ci := 10) (v := .int 0) (C := RX12) (T := TX12) (N := 20) hx hb hts izRX12 hown hK hP 0 rfl rfl 0 (by decide) (hts _ k825) (fun _ h9 => h9) rfl dX12_ask_20 ?_
      refine lv_if_le (tgt := 28) hx hb dX12_ask_23 (by decide) (fun _ => ?_) (fun c5 => absurd (by decide) c5)
      refine lv_iconst (v := (-1)) hx hb dX12_ask_28 (by decide) ?_
      refine lv_istore_n (lv' := [(2, .int (-1)), (1, .int q_2), (0, .ref o)]) hx hb dX12_ask_29 rfl hl (by decide) rfl (fun ls hl => ?_)
      refine lv_ldcw (v := 2000000000) hx hb hown (hts _ k1108) dX12_ask_30 ?_
      refine lv_istore_n (lv' := [(3, .int 2000000000), (2, .int (-1)), (1, .int q_2), (0, .ref o)]) hx hb dX12_ask_33 rfl hl (by decide) rfl (fun ls hl => ?_)
      refine lv_iconst (v := 0) hx hb dX12_ask_34 (by decide) ?_
      refine lv_istore (lv' := [(4, .int 0), (3, .int 2000000000), (2, .int (-1)), (1, .int q_2), (0, .ref o)]) hx hb dX12_ask_35 hl (by decide) rfl (fun ls hl => ?_)
      have hl := lv_sub (l' := [(0, .ref o), (1, .int q_2), (2, .int (-1)), (3, .int 2000000000), (4, .int 0)]) hl [4, 3, 2, 1, 0] rfl
      have LP37_16 : ∀ (kf : Nat) (x_6 : Int32) (x_7 : Int32) (x_8 : Int32), ((-1) ≤ x_6.toInt ∧ x_6.toInt ≤ 77) → (0 ≤ x_7.toInt ∧ x_7.toInt ≤ 2000000000) → (0 ≤ x_8.toInt ∧ x_8.toInt ≤ 8) → (zBs (zGf fi2_1 q_2.toInt (fm 3)) (fm 3).toInt (8 * x_8.toInt) x_6.toInt x_7.toInt) → (x_8.toInt = 0 ∨ 2 ≤ q_2.toInt) → (x_8.toInt ≤ (fm 3).toInt) → ((¬ x_6.toInt = -1 ∨ x_7.toInt = 2000000000)) → ∀ (H : Heap) (locs : List Loc) (ls : Array Slot), ((9 - x_8.toInt).toNat) < kf → va_P g.1 vwCl (List.flatten [bMo g o a 0 hi ac 0 ba en tA fl de iD iO tU fm fk fa fc ft ff fb fi2_1]) H → va_D A (List.flatten [bMo g o a 0 hi ac 0 ba en tA fl de iD iO tU fm fk fa fc ft ff fb fi2_1]) → va_S A s.heap H locs → lv_has ls 8 [(0, .ref o), (1, .int q_2), (2, .int x_6), (3, .int x_7), (4, .int x_8)] → W p l e ({ frames := 3, cells := 0, slots := 0, locals := 68 } : Room) s m args below meth c H locs (0) (0) (zF g (fun u : (Nat → Int32) × Int32 × Int32 => (fun (fi2 : Nat → Int32) (th2 : Int32) (q : Int32) => some (.int q)) (u.1) (u.2.1) (u.2.2)) (fun u : (Nat → Int32) × Int32 × Int32 => (fun (fi2 : Nat → Int32) (th2 : Int32) (q : Int32) => (th2 = 0 ∧ zSaid ft tp.toInt (fm 3).toInt ∧ zAsk ft tp.toInt (fm 3).toInt q ∨ th2 = 1 ∧ ¬ zSaid ft tp.toInt (fm 3).toInt)) (u.1) (u.2.1) (u.2.2)) (fun u : (Nat → Int32) × Int32 × Int32 => (fun (fi2 : Nat → Int32) (th2 : Int32) (q : Int32) => [bMo g o a th2 hi ac 0 ba en tA fl de iD iO tU fm fk fa fc ft ff fb fi2]) (u.1) (u.2.1) (u.2.2)) ({ frames := 3, cells := 0, slots := 0, locals := 68 } : Room) below args s A) (F0 m 37 ls []) := by
        intro kf
        induction kf with
        | zero => intro x_6 x_7 x_8 i9 i10 i11 i12 i13 i14 i15 H locs ls hk; exact absurd hk (Nat.not_lt_zero _)
        | succ kf ih37_17 =>
          intro x_6 x_7 x_8 i9 i10 i11 i12 i13 i14 i15 H locs ls hk37_17 hP hD hS hl
          refine lv_iload hx hb dX12_ask_37 (lv_at hl 4 rfl) ?_
          refine lv_aload_n hx hb dX12_ask_39 rfl (lv_at hl 0 rfl) ?_
          refine va_get (D := g.1) (ci := 10) (v := .ref (a 0)) (C := RX12) (T := TX12) (N := 20) hx hb hts izRX12 hown hK hP 0 rfl rfl 1 (by decide) (hts _ k815) (fun _ h9 => h9) rfl dX12_ask_40 ?_
          refine lv_iconst (v := 3) hx hb dX12_ask_43 (by decide) ?_
          refine va_iald hx hb hK hP 1 0 rfl rfl (zin rfl) dX12_ask_44 ?_
          refine zgq (r := fm 3) rfl (rM3 rfm) (fun x_18 hx_18 => ?_)
          refine lv_icmp_ge (tgt := 181) hx hb dX12_ask_45 (by decide) (fun cb9 => ?_) (fun cb9 => ?_)
          · skip
            have c19 : x_18.toInt ≤ x_8.toInt := zle cb9 rfl rfl
            refine lv_iload_n hx hb dX12_ask_181 rfl (lv_at hl 2 rfl) ?_
            have hP : va_P g.1 vwCl (List.flatten [bMo g o a 0 hi ac 0 ba en tA fl de iD iO tU fm fk fa fc ft ff fb fi2_1]) H := hP
            have hD : va_D A (List.flatten [bMo g o a 0 hi ac 0 ba en tA fl de iD iO tU fm fk fa fc ft ff fb fi2_1]) := hD
            exact mret_i hx hb hr hlocks hS (Nat.le_of_ble_eq_true rfl) (Nat.le_of_ble_eq_true rfl) dX12_ask_182 (fi2_1, (0 : Int32), x_6) rfl (show (0 = 0 ∧ zSaid ft tp.toInt (fm 3).toInt ∧ zAsk ft tp.toInt (fm 3).toInt x_6 ∨ 0 = 1 ∧ ¬ zSaid ft tp.toInt (fm 3).toInt) from (Or.inl ⟨rfl, hq3_ks, _, _, fm 3, rfl, (rM3 rfm).2, hq3_k, zBq_r i12 (by omega) (by omega) (by omega)⟩)) hP hD
          · skip
            have c20 : x_8.toInt < x_18.toInt := zlti (Int32.not_le.mp cb9) rfl rfl
            have n21 : x_8.toInt ≤ 7 := zL1 (b := 8) c20 hx_18.2.1 (by decide)
            have n22 : 1 ≤ x_18.toInt := zL2 (a := 0) c20 i11.1 (by decide)
            refine lv_iload_n hx hb dX12_ask_48 rfl (lv_at hl 1 rfl) ?_
            refine lv_iconst (v := 1) hx hb dX12_ask_49 (by decide) ?_
            refine lv_icmp_le (tgt := 181) hx hb dX12_ask_50 (by decide) (fun cb9 => ?_) (fun cb9 => ?_)
            · skip
              have c23 : q_2.toInt ≤ 1 := zle cb9 rfl (by decide)
              have n24 : q_2.toInt ≤ 1 := Int.le_trans c23 (Int.le_refl _)
              refine lv_iload_n hx hb dX12_ask_181 rfl (lv_at hl 2 rfl) ?_
              have hP : va_P g.1 vwCl (List.flatten [bMo g o a 0 hi ac 0 ba en tA fl de iD iO tU fm fk fa fc ft ff fb fi2_1]) H := hP
              have hD : va_D A (List.flatten [bMo g o a 0 hi ac 0 ba en tA fl de iD iO tU fm fk fa fc ft ff fb fi2_1]) := hD
              exact mret_i hx hb hr hlocks hS (Nat.le_of_ble_eq_true rfl) (Nat.le_of_ble_eq_true rfl) dX12_ask_182 (fi2_1, (0 : Int32), x_6) rfl (show (0 = 0 ∧ zSaid ft tp.toInt (fm 3).toInt ∧ zAsk ft tp.toInt (fm 3).toInt x_6 ∨ 0 = 1 ∧ ¬ zSaid ft tp.toInt (fm 3).toInt) from (Or.inl ⟨rfl, hq3_ks, _, _, fm 3, rfl, (rM3 rfm).2, hq3_k, zBq_r i12 (by omega) (by omega) (by omega)⟩)) hP hD
            · skip
              have c25 : 1 < q_2.toInt := zlti (Int32.not_le.mp cb9) (by decide) rfl
              have n26 : 2 ≤ q_2.toInt := zL2 (a := 1) c25 (Int.le_refl _) (by decide)
              refine lv_iconst (v := 0) hx hb dX12_ask_53 (by decide) ?_
              refine lv_istore (lv' := [(5, .int 0), (0, .ref o), (1, .int q_2), (2, .int x_6), (3, .int x_7), (4, .int x_8)]) hx hb dX12_ask_54 hl (by decide) rfl (fun ls hl => ?_)
              have hl := lv_sub (l' := [(0, .ref o), (1, .int q_2), (2, .int x_6), (3, .int x_7), (4, .int x_8), (5, .int 0)]) hl [1, 2, 3, 4, 5, 0] rfl
              have LP56_36 : ∀ (kf : Nat) (x_27 : Int32) (x_28 : Int32) (x_29 : Int32), ((-1) ≤ x_27.toInt ∧ x_27.toInt ≤ 77) → (0 ≤ x_28.toInt ∧ x_28.toInt ≤ 2000000000) → (0 ≤ x_29.toInt ∧ x_29.toInt ≤ 8) → (zBs (zGf fi2_1 q_2.toInt (fm 3)) (fm 3).toInt (8 * x_8.toInt + x_29.toInt) x_27.toInt x_28.toInt) → (x_29.toInt ≤ (fm 3).toInt) → ((¬ x_27.toInt = -1 ∨ x_28.toInt = 2000000000)) → ∀ (H : Heap) (locs : List Loc) (ls : Array Slot), ((9 - x_29.toInt).toNat) < kf → va_P g.1 vwCl (List.flatten [bMo g o a 0 hi ac 0 ba en tA fl de iD iO tU fm fk fa fc ft ff fb fi2_1]) H → va_D A (List.flatten [bMo g o a 0 hi ac 0 ba en tA fl de iD iO tU fm fk fa fc ft ff fb fi2_1]) → va_S A s.heap H locs → lv_has ls 8 [(0, .ref o), (1, .int q_2), (2, .int x_27), (3, .int x_28), (4, .int x_8), (5, .int x_29)] → W p l e ({ frames := 3, cells := 0, slots := 0, locals := 68 } : Room) s m args below meth c H locs (0) (0) (zF g (fun u : (Nat → Int32) × Int32 × Int32 => (fun (fi2 : Nat → Int32) (th2 : Int32) (q : Int32) => some (.int q)) (u.1) (u.2.1) (u.2.2)) (fun u : (Nat → Int32) × Int32 × Int32 => (fun (fi2 : Nat → Int32) (th2 : Int32) (q : Int32) => (th2 = 0 ∧ zSaid ft tp.toInt (fm 3).toInt ∧ zAsk ft tp.toInt (fm 3).toInt q ∨ th2 = 1 ∧ ¬ zSaid ft tp.toInt (fm 3).toInt)) (u.1) (u.2.1) (u.2.2)) (fun u : (Nat → Int32) × Int32 × Int32 => (fun (fi2 : Nat → Int32) (th2 : Int32) (q : Int32) => [bMo g o a th2 hi ac 0 ba en tA fl de iD iO tU fm fk fa fc ft ff fb fi2]) (u.1) (u.2.1) (u.2.2)) ({ frames := 3, cells := 0, slots := 0, locals := 68 } : Room) below args s A) (F0 m 56 ls []) := by
                intro kf
                induction kf with
                | zero => intro x_27 x_28 x_29 i30 i31 i32 i33 i34 i35 H locs ls hk; exact absurd hk (Nat.not_lt_zero _)
                | succ kf ih56_37 =>
                  intro x_27 x_28 x_29 i30 i31 i32 i33 i34 i35 H locs ls hk56_37 hP hD hS hl
                  refine lv_iload hx hb dX12_ask_56 (lv_at hl 5 rfl) ?_
                  refine lv_aload_n hx hb dX12_ask_58 rfl (lv_at hl 0 rfl) ?_
                  refine va_get (D := g.1) (ci := 10) (v := .ref (a 0)) (C := RX12) (T := TX12) (N := 20) hx hb hts izRX12 hown hK hP 0 rfl rfl 1 (by decide) (hts _ k815) (fun _ h9 => h9) rfl dX12_ask_59 ?_
                  refine lv_iconst (v := 3) hx hb dX12_ask_62 (by decide) ?_
                  refine va_iald hx hb hK hP 1 0 rfl rfl (zin rfl) dX12_ask_63 ?_
                  refine zgq (r := fm 3) rfl (rM3 rfm) (fun x_38 hx_38 => ?_)
                  refine lv_icmp_ge (tgt := 175) hx hb dX12_ask_64 (by decide) (fun cb9 => ?_) (fun cb9 => ?_)
                  · skip
                    have c39 : x_38.toInt ≤ x_29.toInt := zle cb9 rfl rfl
                    refine ziinc3 (n' := 1) (a' := 1) (b' := 8) (lv' := fun v9 => [(4, .int v9), (0, .ref o), (1, .int q_2), (2, .int x_27), (3, .int x_28), (5, .int x_29)]) hx hb dX12_ask_175 hl (k := 4) rfl (by decide) (fun _ => rfl) (zaddK (i := x_8.toInt) (j := 1) rfl (by decide) i11.1 n21 (Int.le_refl _) (Int.le_refl _) (by decide)) (fun x_40 ls hx_40 hl => ?_)
                    refine lv_goto (tgt := 37) hx hb dX12_ask_178 (by decide) ?_
                    have hl := lv_sub (l' := [(0, .ref o), (1, .int q_2), (2, .int x_27), (3, .int x_28), (4, .int x_40), (5, .int x_29)]) hl [1, 2, 3, 4, 0, 5] rfl
                    have hP : va_P g.1 vwCl (List.flatten [bMo g o a 0 hi ac 0 ba en tA fl de iD iO tU fm fk fa fc ft ff fb fi2_1]) H := hP
                    have hD : va_D A (List.flatten [bMo g o a 0 hi ac 0 ba en tA fl de iD iO tU fm fk fa fc ft ff fb fi2_1]) := hD
                    exact ih37_17 x_27 x_28 x_40 ⟨i30.1, i30.2⟩ ⟨i31.1, i31.2⟩ ⟨(Int.le_trans (by decide) hx_40.2.1), hx_40.2.2⟩ (zBs_r (u := x_8.toInt) i33 (by omega) (by omega) (by omega)) (by first | omega | assumption | decide) (by first | omega | assumption | decide) i35 H _ ls (zmK hx_40.1 (by decide) n21 (by decide) hk37_17)  hP hD hS (lv_sub hl [0, 1, 2, 3, 4] rfl)
                  · skip
                    have c41 : x_29.toInt < x_38.toInt := zlti (Int32.not_le.mp cb9) rfl rfl
                    have n42 : x_29.toInt ≤ 7 := zL1 (b := 8) c41 hx_38.2.1 (by decide)
                    have n43 : 1 ≤ x_38.toInt := zL2 (a := 0) c41 i32.1 (by decide)
                    refine lv_iload hx hb dX12_ask_67 (lv_at hl 4 rfl) ?_
                    refine lv_iload hx hb dX12_ask_69 (lv_at hl 5 rfl) ?_
                    refine lv_icmp_ne (tgt := 77) hx hb dX12_ask_71 (by decide) (fun cb9 => ?_) (fun cb9 => ?_)
                    · skip
                      have c44 : ¬ x_8.toInt = x_29.toInt := zne cb9 rfl rfl
                      refine lv_iconst (v := 0) hx hb dX12_ask_77 (by decide) ?_
                      refine lv_istore (lv' := [(6, .int 0), (0, .ref o), (1, .int q_2), (2, .int x_27), (3, .int x_28), (4, .int x_8), (5, .int x_29)]) hx hb dX12_ask_78 hl (by decide) rfl (fun ls hl => ?_)
                      refine lv_iconst (v := 0) hx hb dX12_ask_80 (by decide) ?_
                      refine lv_istore (lv' := [(7, .int 0), (6, .int 0), (0, .ref o), (1, .int q_2), (2, .int x_27), (3, .int x_28), (4, .int x_8), (5, .int x_29)]) hx hb dX12_ask_81 hl (by decide) rfl (fun ls hl => ?_)
                      have hl := lv_sub (l' := [(0, .ref o), (1, .int q_2), (2, .int x_27), (3, .int x_28), (4, .int x_8), (5, .int x_29), (6, .int 0), (7, .int 0)]) hl [2, 3, 4, 5, 6, 7, 1, 0] rfl
                      have LP83_52 : ∀ (kf : Nat) (x_45 : Int32) (x_46 : Int32), (0 ≤ x_45.toInt ∧ x_45.toInt ≤ 256) → (0 ≤ x_46.toInt ∧ x_46.toInt ≤ 256) → (x_45.toInt = zYs fi2_1 x_8 x_29 (x_46.toInt).toNat) → (x_45.toInt ≤ x_46.toInt) → (x_46.toInt ≤ ((2 ^ (fm 3).toInt.toNat : Nat) : Int)) → ∀ (H : Heap) (locs : List Loc) (ls : Array Slot), ((257 - x_46.toInt).toNat) < kf → va_P g.1 vwCl (List.flatten [bMo g o a 0 hi ac 0 ba en tA fl de iD iO tU fm fk fa fc ft ff fb fi2_1]) H → va_D A (List.flatten [bMo g o a 0 hi ac 0 ba en tA fl de iD iO tU fm fk fa fc ft ff fb fi2_1]) → va_S A s.heap H locs → lv_has ls 8 [(0, .ref o), (1, .int q_2), (2, .int x_27), (3, .int x_28), (4, .int x_8), (5, .int x_29), (6, .int x_45), (7, .int x_46)] → W p l e ({ frames := 3, cells := 0, slots := 0, locals := 68 } : Room) s m args below meth c H locs (0) (0) (zF g (fun u : (Nat → Int32) × Int32 × Int32 => (fun (fi2 : Nat → Int32) (th2 : Int32) (q : Int32) => some (.int q)) (u.1) (u.2.1) (u.2.2)) (fun u : (Nat → Int32) × Int32 × Int32 => (fun (fi2 : Nat → Int32) (th2 : Int32) (q : Int32) => (th2 = 0 ∧ zSaid ft tp.toInt (fm 3).toInt ∧ zAsk ft tp.toInt (fm 3).toInt q ∨ th2 = 1 ∧ ¬ zSaid ft tp.toInt (fm 3).toInt)) (u.1) (u.2.1) (u.2.2)) (fun u : (Nat → Int32) × Int32 × Int32 => (fun (fi2 : Nat → Int32) (th2 : Int32) (q : Int32) => [bMo g o a th2 hi ac 0 ba en tA fl de iD iO tU fm fk fa fc ft ff fb fi2]) (u.1) (u.2.1) (u.2.2)) ({ frames := 3, cells := 0, slots := 0, locals := 68 } : Room) below args s A) (F0 m 83 ls []) := by
                        intro kf
                        induction kf with
                        | zero => intro x_45 x_46 i47 i48 i49 i50 i51 H locs ls hk; exact absurd hk (Nat.not_lt_zero _)
                        | succ kf ih83_53 =>
                          intro x_45 x_46 i47 i48 i49 i50 i51 H locs ls hk83_53 hP hD hS hl
                          refine lv_iload hx hb dX12_ask_83 (lv_at hl 7 rfl) ?_
                          refine lv_iconst (v := 1) hx hb dX12_ask_85 (by decide) ?_
                          refine lv_aload_n hx hb dX12_ask_86 rfl (lv_at hl 0 rfl) ?_
                          refine va_get (D := g.1) (ci := 10) (v := .ref (a 0)) (C := RX12) (T := TX12) (N := 20) hx hb hts izRX12 hown hK hP 0 rfl rfl 1 (by decide) (hts _ k815) (fun _ h9 => h9) rfl dX12_ask_87 ?_
                          refine lv_iconst (v := 3) hx hb dX12_ask_90 (by decide) ?_
                          refine va_iald hx hb hK hP 1 0 rfl rfl (zin rfl) dX12_ask_91 ?_
                          refine zgq (r := fm 3) rfl (rM3 rfm) (fun x_54 hx_54 => ?_)
                          refine lv_ishl hx hb dX12_ask_92 ?_
                          refine zgp2 (P := fun r9 : Int32 => r9.toInt = ((2 ^ x_54.toInt.toNat : Nat) : Int) ∧ 1 ≤ r9.toInt ∧ r9.toInt ≤ 256) (zshE ⟨hx_54.1, hx_54.2.1⟩) (fun x_55 hx_55 => ?_)
                          have w56 : x_55.toInt = ((2 ^ (fm 3).toInt.toNat : Nat) : Int) := hx_55.1.trans (zpw (by omega))
                          refine lv_icmp_ge (tgt := 134) hx hb dX12_ask_93 (by decide) (fun cb9 => ?_) (fun cb9 => ?_)
                          · skip
                            have c57 : x_55.toInt ≤ x_46.toInt := zle cb9 rfl rfl
                            have n58 : 1 ≤ x_46.toInt := Int.le_trans hx_55.2.1 c57
                            refine lv_iload hx hb dX12_ask_134 (lv_at hl 6 rfl) ?_
                            refine lv_iload_n hx hb dX12_ask_136 rfl (lv_at hl 1 rfl) ?_
                            refine lv_iload hx hb dX12_ask_137 (lv_at hl 6 rfl) ?_
                            refine lv_isub hx hb dX12_ask_139 ?_
                            refine zg3 (zsubK (i := q_2.toInt) (j := x_45.toInt) (a' := (-254)) (b' := 256) rfl rfl n26 hq3_kn.2 i47.1 i47.2 (by decide)) (fun x_59 hx_59 => ?_)
                            refine mcallS' (g := g) (As := [.int x_45, .int x_59]) (rest := []) St hK hT hA hP hD hS hl.1 [] [0] rfl rfl rfl (m_greater l g x_45 x_59 ) (va_cwS 2 hts (zgL (zl3 k1003 k1004 k839) k828) rfl rfl rfl (by decide +kernel) ⟨Nat.le_of_ble_eq_true rfl, Nat.le_of_ble_eq_true rfl⟩) rfl rfl (Nat.le_of_ble_eq_true rfl) dX12_ask_140 ⟨(Nat.le_of_ble_eq_true rfl), (Nat.le_of_ble_eq_true rfl)⟩ (fun q_60 H locs hq61 hP hD hS => ?_)
                            replace hq61 : (x_45.toInt ≤ q_60.toInt ∧ x_59.toInt ≤ q_60.toInt ∧ (q_60.toInt = x_45.toInt ∨ q_60.toInt = x_59.toInt)) := hq61
                            have hP : va_P g.1 vwCl (List.flatten [bMo g o a 0 hi ac 0 ba en tA fl de iD iO tU fm fk fa fc ft ff fb fi2_1]) H := hP
                            have hD : va_D A (List.flatten [bMo g o a 0 hi ac 0 ba en tA fl de iD iO tU fm fk fa fc ft ff fb fi2_1]) := hD
                            refine W.widen (k := 0) (n := 0) (Nat.le_of_ble_eq_true rfl) (Nat.le_of_ble_eq_true rfl) ?_
                            refine W.eq (g2 := F0 m 143 ls [.int q_60]) rfl ?_
                            refine lv_iload_n hx hb dX12_ask_143 rfl (lv_at hl 3 rfl) ?_
                            refine lv_icmp_lt (tgt := 150) hx hb dX12_ask_144 (by decide) (fun cb9 => ?_) (fun cb9 => ?_)
                            · skip
                              have c62 : q_60.toInt < x_28.toInt := zlti cb9 rfl rfl
                              refine lv_iload hx hb dX12_ask_150 (lv_at hl 6 rfl) ?_
                              refine lv_iload_n hx hb dX12_ask_152 rfl (lv_at hl 1 rfl) ?_
                              refine lv_iload hx hb dX12_ask_153 (lv_at hl 6 rfl) ?_
                              refine lv_isub hx hb dX12_ask_155 ?_
                              refine zg3 (zsubK (i := q_2.toInt) (j := x_45.toInt) (a' := (-254)) (b' := 256) rfl rfl n26 hq3_kn.2 i47.1 i47.2 (by decide)) (fun x_63 hx_63 => ?_)
                              refine mcallS' (g := g) (As := [.int x_45, .int x_63]) (rest := []) St hK hT hA hP hD hS hl.1 [] [0] rfl rfl rfl (m_greater l g x_45 x_63 ) (va_cwS 2 hts (zgL (zl3 k1003 k1004 k839) k828) rfl rfl rfl (by decide +kernel) ⟨Nat.le_of_ble_eq_true rfl, Nat.le_of_ble_eq_true rfl⟩) rfl rfl (Nat.le_of_ble_eq_true rfl) dX12_ask_156 ⟨(Nat.le_of_ble_eq_true rfl), (Nat.le_of_ble_eq_true rfl)⟩ (fun q_64 H locs hq65 hP hD hS => ?_)
                              replace hq65 : (x_45.toInt ≤ q_64.toInt ∧ x_63.toInt ≤ q_64.toInt ∧ (q_64.toInt = x_45.toInt ∨ q_64.toInt = x_63.toInt)) := hq65
                              have hP : va_P g.1 vwCl (List.flatten [bMo g o a 0 hi ac 0 ba en tA fl de iD iO tU fm fk fa fc ft ff fb fi2_1]) H := hP
                              have hD : va_D A (List.flatten [bMo g o a 0 hi ac 0 ba en tA fl de iD iO tU fm fk fa fc ft ff fb fi2_1]) := hD
                              refine W.widen (k := 0) (n := 0) (Nat.le_of_ble_eq_true rfl) (Nat.le_of_ble_eq_true rfl) ?_
                              refine W.eq (g2 := F0 m 159 ls [.int q_64]) rfl ?_
                              refine lv_istore_n (lv' := [(3, .int q_64), (0, .ref o), (1, .int q_2), (2, .int x_27), (4, .int x_8), (5, .int x_29), (6, .int x_45), (7, .int x_46)]) hx hb dX12_ask_159 rfl hl (by decide) rfl (fun ls hl => ?_)
                              refine lv_bipush (v := 10) hx hb dX12_ask_160 (by decide) ?_
                              refine lv_iload hx hb dX12_ask_162 (lv_at hl 4 rfl) ?_
                              refine lv_imul hx hb dX12_ask_164 ?_
                              refine zg3 (zmulKL (i := x_8.toInt) (n := 10) (a' := 0) (b' := 70) rfl (by decide) i11.1 n21 (by decide) (by decide)) (fun x_66 hx_66 => ?_)
                              refine lv_iload hx hb dX12_ask_165 (lv_at hl 5 rfl) ?_
                              refine lv_iadd hx hb dX12_ask_167 ?_
                              refine zg3 (zaddK (i := x_66.toInt) (j := x_29.toInt) (a' := 0) (b' := 77) rfl rfl hx_66.2.1 hx_66.2.2 i32.1 n42 (by decide)) (fun x_67 hx_67 => ?_)
                              refine lv_istore_n (lv' := [(2, .int x_67), (3, .int q_64), (0, .ref o), (1, .int q_2), (4, .int x_8), (5, .int x_29), (6, .int x_45), (7, .int x_46)]) hx hb dX12_ask_168 rfl hl (by decide) rfl (fun ls hl => ?_)
                              refine ziinc3 (n' := 1) (a' := 1) (b' := 8) (lv' := fun v9 => [(5, .int v9), (2, .int x_67), (3, .int q_64), (0, .ref o), (1, .int q_2), (4, .int x_8), (6, .int x_45), (7, .int x_46)]) hx hb dX12_ask_169 hl (k := 5) rfl (by decide) (fun _ => rfl) (zaddK (i := x_29.toInt) (j := 1) rfl (by decide) i32.1 n42 (Int.le_refl _) (Int.le_refl _) (by decide)) (fun x_68 ls hx_68 hl => ?_)
                              refine lv_goto (tgt := 56) hx hb dX12_ask_172 (by decide) ?_
                              have hl := lv_sub (l' := [(0, .ref o), (1, .int q_2), (2, .int x_67), (3, .int q_64), (4, .int x_8), (5, .int x_68), (6, .int x_45), (7, .int x_46)]) hl [3, 4, 1, 2, 5, 0, 6, 7] rfl
                              have hP : va_P g.1 vwCl (List.flatten [bMo g o a 0 hi ac 0 ba en tA fl de iD iO tU fm fk fa fc ft ff fb fi2_1]) H := hP
                              have hD : va_D A (List.flatten [bMo g o a 0 hi ac 0 ba en tA fl de iD iO tU fm fk fa fc ft ff fb fi2_1]) := hD
                              exact ih56_37 x_67 q_64 x_68 ⟨(Int.le_trans (by decide) hx_67.2.1), hx_67.2.2⟩ (by first | omega | assumption | decide) ⟨(Int.le_trans (by decide) hx_68.2.1), hx_68.2.2⟩ (zBs_u (g := q_60.toInt) (u := x_8.toInt) (v := x_29.toInt) i33 rfl (by omega) (by omega) (by omega) (by omega) (by omega) (by omega) ((zGp_e i49 (by omega) (by omega)).trans (zGf_e (by omega) (by omega)).symm) (by omega) (by omega) (by omega) (by omega)) (by first | omega | assumption | decide) (by first | omega | assumption | decide) H _ ls (zmK hx_68.1 (by decide) n42 (by decide) hk56_37)  hP hD hS (lv_sub hl [0, 1, 2, 3, 4, 5] rfl)
                            · skip
                              have c69 : x_28.toInt ≤ q_60.toInt := zle (Int32.not_lt.mp cb9) rfl rfl
                              refine lv_goto (tgt := 169) hx hb dX12_ask_147 (by decide) ?_
                              refine ziinc3 (n' := 1) (a' := 1) (b' := 8) (lv' := fun v9 => [(5, .int v9), (0, .ref o), (1, .int q_2), (2, .int x_27), (3, .int x_28), (4, .int x_8), (6, .int x_45), (7, .int x_46)]) hx hb dX12_ask_169 hl (k := 5) rfl (by decide) (fun _ => rfl) (zaddK (i := x_29.toInt) (j := 1) rfl (by decide) i32.1 n42 (Int.le_refl _) (Int.le_refl _) (by decide)) (fun x_70 ls hx_70 hl => ?_)
                              refine lv_goto (tgt := 56) hx hb dX12_ask_172 (by decide) ?_
                              have hl := lv_sub (l' := [(0, .ref o), (1, .int q_2), (2, .int x_27), (3, .int x_28), (4, .int x_8), (5, .int x_70), (6, .int x_45), (7, .int x_46)]) hl [1, 2, 3, 4, 5, 0, 6, 7] rfl
                              have hP : va_P g.1 vwCl (List.flatten [bMo g o a 0 hi ac 0 ba en tA fl de iD iO tU fm fk fa fc ft ff fb fi2_1]) H := hP
                              have hD : va_D A (List.flatten [bMo g o a 0 hi ac 0 ba en tA fl de iD iO tU fm fk fa fc ft ff fb fi2_1]) := hD
                              exact ih56_37 x_27 x_28 x_70 ⟨i30.1, i30.2⟩ (by first | omega | assumption | decide) ⟨(Int.le_trans (by decide) hx_70.2.1), hx_70.2.2⟩ (zBs_n (g := q_60.toInt) (u := x_8.toInt) (v := x_29.toInt) i33 rfl (by omega) (by omega) (by omega) (by omega) ((zGp_e i49 (by omega) (by omega)).trans (zGf_e (by omega) (by omega)).symm) (by omega) (by omega)) (by first | omega | assumption | decide) i35 H _ ls (zmK hx_70.1 (by decide) n42 (by decide) hk56_37)  hP hD hS (lv_sub hl [0, 1, 2, 3, 4, 5] rfl)
                          · skip
                            have c71 : x_46.toInt < x_55.toInt := zlti (Int32.not_le.mp cb9) rfl rfl
                            have n72 : x_46.toInt ≤ 255 := zL1 (b := 256) c71 hx_55.2.2 (by decide)
                            refine lv_iload hx hb dX12_ask_96 (lv_at hl 6 rfl) ?_
                            refine lv_aload_n hx hb dX12_ask_98 rfl (lv_at hl 0 rfl) ?_
                            refine va_get (D := g.1) (ci := 10) (v := .ref (a 7)) (C := RX12) (T := TX12) (N := 20) hx hb hts izRX12 hown hK hP 0 rfl rfl 19 (by decide) (hts _ k823) (fun _ h9 => h9) rfl dX12_ask_99 ?_
                            refine lv_iload hx hb dX12_ask_102 (lv_at hl 7 rfl) ?_
                            refine va_zald hx hb hK hP 8 1 rfl rfl (zinK (a := 0) (b := 255) i48.1 n72 (by decide)) dX12_ask_104 ?_
                            refine lv_if_eq (tgt := 124) hx hb dX12_ask_105 (by decide) (fun cb9 => ?_) (fun cb9 => ?_)
                            · skip
                              have c73 : (fi2_1 x_46.toNatClampNeg).toInt = 0 := zeq cb9 rfl (by decide)
                              have n74 : 0 ≤ (fi2_1 x_46.toNatClampNeg).toInt := Int.le_trans (Int.le_refl _) (Int.le_of_eq c73.symm)
                              have n75 : (fi2_1 x_46.toNatClampNeg).toInt ≤ 0 := Int.le_trans (Int.le_of_eq c73) (Int.le_refl _)
                              refine lv_iconst (v := 0) hx hb dX12_ask_124 (by decide) ?_
                              refine lv_iadd hx hb dX12_ask_125 ?_
                              refine zg3 (zaddK (i := x_45.toInt) (j := 0) (a' := 0) (b' := 256) rfl (by decide) i47.1 i47.2 (Int.le_refl _) (Int.le_refl _) (by decide)) (fun x_76 hx_76 => ?_)
                              refine lv_istore (lv' := [(6, .int x_76), (0, .ref o), (1, .int q_2), (2, .int x_27), (3, .int x_28), (4, .int x_8), (5, .int x_29), (7, .int x_46)]) hx hb dX12_ask_126 hl (by decide) rfl (fun ls hl => ?_)
                              refine ziinc3 (n' := 1) (a' := 1) (b' := 256) (lv' := fun v9 => [(7, .int v9), (6, .int x_76), (0, .ref o), (1, .int q_2), (2, .int x_27), (3, .int x_28), (4, .int x_8), (5, .int x_29)]) hx hb dX12_ask_128 hl (k := 7) rfl (by decide) (fun _ => rfl) (zaddK (i := x_46.toInt) (j := 1) rfl (by decide) i48.1 n72 (Int.le_refl _) (Int.le_refl _) (by decide)) (fun x_77 ls hx_77 hl => ?_)
                              refine lv_goto (tgt := 83) hx hb dX12_ask_131 (by decide) ?_
                              have hl := lv_sub (l' := [(0, .ref o), (1, .int q_2), (2, .int x_27), (3, .int x_28), (4, .int x_8), (5, .int x_29), (6, .int x_76), (7, .int x_77)]) hl [2, 3, 4, 5, 6, 7, 1, 0] rfl
                              have hP : va_P g.1 vwCl (List.flatten [bMo g o a 0 hi ac 0 ba en tA fl de iD iO tU fm fk fa fc ft ff fb fi2_1]) H := hP
                              have hD : va_D A (List.flatten [bMo g o a 0 hi ac 0 ba en tA fl de iD iO tU fm fk fa fc ft ff fb fi2_1]) := hD
                              exact ih83_53 x_76 x_77 ⟨hx_76.2.1, hx_76.2.2⟩ ⟨(Int.le_trans (by decide) hx_77.2.1), hx_77.2.2⟩ (zYs_s0e (x := x_46) i49 rfl (by omega) c73 (by omega) (by omega)) (by first | omega | assumption | decide) (by first | omega | assumption | decide) H _ ls (zmK hx_77.1 (by decide) n72 (by decide) hk83_53)  hP hD hS (lv_sub hl [0, 1, 2, 3, 4, 5, 6, 7] rfl)
                            · skip
                              have c78 : ¬ (fi2_1 x_46.toNatClampNeg).toInt = 0 := zne cb9 rfl (by decide)
                              refine lv_iload hx hb dX12_ask_108 (lv_at hl 7 rfl) ?_
                              refine lv_iload hx hb dX12_ask_110 (lv_at hl 4 rfl) ?_
                              refine lv_iload hx hb dX12_ask_112 (lv_at hl 5 rfl) ?_
                              refine mcallS' (g := g) (As := [.int x_46, .int x_8, .int x_29]) (rest := [.int x_45]) St hK hT hA hP hD hS hl.1 [] [0] rfl rfl rfl (m_saysF l g x_46 x_8 x_29 ) (va_cwS 3 hts (zgL (zl3 k1101 k1102 k839) k1099) rfl rfl rfl (by decide +kernel) ⟨Nat.le_of_ble_eq_true rfl, Nat.le_of_ble_eq_true rfl⟩) rfl rfl (Nat.le_of_ble_eq_true rfl) dX12_ask_114 ⟨(Nat.le_of_ble_eq_true rfl), (Nat.le_of_ble_eq_true rfl)⟩ (fun q_79 H locs hq80 hP hD hS => ?_)
                              replace hq80 : (q_79 = 1 ∧ zAns x_46 x_8 x_29 ∨ q_79 = 0 ∧ ¬ zAns x_46 x_8 x_29) := hq80
                              have hP : va_P g.1 vwCl (List.flatten [bMo g o a 0 hi ac 0 ba en tA fl de iD iO tU fm fk fa fc ft ff fb fi2_1]) H := hP
                              have hD : va_D A (List.flatten [bMo g o a 0 hi ac 0 ba en tA fl de iD iO tU fm fk fa fc ft ff fb fi2_1]) := hD
                              refine W.widen (k := 0) (n := 0) (Nat.le_of_ble_eq_true rfl) (Nat.le_of_ble_eq_true rfl) ?_
                              refine W.eq (g2 := F0 m 117 ls [.int q_79, .int x_45]) rfl ?_
                              rcases hq80 with ⟨rfl, hq80_k⟩ | ⟨rfl, hq80_k⟩
                              · skip
                                refine lv_if_eq (tgt := 124) hx hb dX12_ask_117 (by decide) (fun c81 => absurd c81 (by decide)) (fun _ => ?_)
                                refine lv_iconst (v := 1) hx hb dX12_ask_120 (by decide) ?_
                                refine lv_goto (tgt := 125) hx hb dX12_ask_121 (by decide) ?_
                                refine lv_iadd hx hb dX12_ask_125 ?_
                                refine zg3 (zaddK (i := x_45.toInt) (j := 1) (a' := 1) (b' := 257) rfl (by decide) i47.1 i47.2 (Int.le_refl _) (Int.le_refl _) (by decide)) (fun x_82 hx_82 => ?_)
                                refine lv_istore (lv' := [(6, .int x_82), (0, .ref o), (1, .int q_2), (2, .int x_27), (3, .int x_28), (4, .int x_8), (5, .int x_29), (7, .int x_46)]) hx hb dX12_ask_126 hl (by decide) rfl (fun ls hl => ?_)
                                refine ziinc3 (n' := 1) (a' := 1) (b' := 256) (lv' := fun v9 => [(7, .int v9), (6, .int x_82), (0, .ref o), (1, .int q_2), (2, .int x_27), (3, .int x_28), (4, .int x_8), (5, .int x_29)]) hx hb dX12_ask_128 hl (k := 7) rfl (by decide) (fun _ => rfl) (zaddK (i := x_46.toInt) (j := 1) rfl (by decide) i48.1 n72 (Int.le_refl _) (Int.le_refl _) (by decide)) (fun x_83 ls hx_83 hl => ?_)
                                refine lv_goto (tgt := 83) hx hb dX12_ask_131 (by decide) ?_
                                have hl := lv_sub (l' := [(0, .ref o), (1, .int q_2), (2, .int x_27), (3, .int x_28), (4, .int x_8), (5, .int x_29), (6, .int x_82), (7, .int x_83)]) hl [2, 3, 4, 5, 6, 7, 1, 0] rfl
                                have hP : va_P g.1 vwCl (List.flatten [bMo g o a 0 hi ac 0 ba en tA fl de iD iO tU fm fk fa fc ft ff fb fi2_1]) H := hP
                                have hD : va_D A (List.flatten [bMo g o a 0 hi ac 0 ba en tA fl de iD iO tU fm fk fa fc ft ff fb fi2_1]) := hD
                                exact ih83_53 x_82 x_83 (by first | omega | assumption | decide) ⟨(Int.le_trans (by decide) hx_83.2.1), hx_83.2.2⟩ (zYs_s2 (x := x_46) i49 rfl (by omega) c78 hq80_k (by omega) (by omega)) (by first | omega | assumption | decide) (by first | omega | assumption | decide) H _ ls (zmK hx_83.1 (by decide) n72 (by decide) hk83_53)  hP hD hS (lv_sub hl [0, 1, 2, 3, 4, 5, 6, 7] rfl)
                              · skip
                                refine lv_if_eq (tgt := 124) hx hb dX12_ask_117 (by decide) (fun _ => ?_) (fun c84 => absurd (by decide) c84)
                                refine lv_iconst (v := 0) hx hb dX12_ask_124 (by decide) ?_
                                refine lv_iadd hx hb dX12_ask_125 ?_
                                refine zg3 (zaddK (i := x_45.toInt) (j := 0) (a' := 0) (b' := 256) rfl (by decide) i47.1 i47.2 (Int.le_refl _) (Int.le_refl _) (by decide)) (fun x_85 hx_85 => ?_)
                                refine lv_istore (lv' := [(6, .int x_85), (0, .ref o), (1, .int q_2), (2, .int x_27), (3, .int x_28), (4, .int x_8), (5, .int x_29), (7, .int x_46)]) hx hb dX12_ask_126 hl (by decide) rfl (fun ls hl => ?_)
                                refine ziinc3 (n' := 1) (a' := 1) (b' := 256) (lv' := fun v9 => [(7, .int v9), (6, .int x_85), (0, .ref o), (1, .int q_2), (2, .int x_27), (3, .int x_28), (4, .int x_8), (5, .int x_29)]) hx hb dX12_ask_128 hl (k := 7) rfl (by decide) (fun _ => rfl) (zaddK (i := x_46.toInt) (j := 1) rfl (by decide) i48.1 n72 (Int.le_refl _) (Int.le_refl _) (by decide)) (fun x_86 ls hx_86 hl => ?_)
                                refine lv_goto (tgt := 83) hx hb dX12_ask_131 (by decide) ?_
                                have hl := lv_sub (l' := [(0, .ref o), (1, .int q_2), (2, .int x_27), (3, .int x_28), (4, .int x_8), (5, .int x_29), (6, .int x_85), (7, .int x_86)]) hl [2, 3, 4, 5, 6, 7, 1, 0] rfl
                                have hP : va_P g.1 vwCl (List.flatten [bMo g o a 0 hi ac 0 ba en tA fl de iD iO tU fm fk fa fc ft ff fb fi2_1]) H := hP
                                have hD : va_D A (List.flatten [bMo g o a 0 hi ac 0 ba en tA fl de iD iO tU fm fk fa fc ft ff fb fi2_1]) := hD
                                exact ih83_53 x_85 x_86 ⟨hx_85.2.1, hx_85.2.2⟩ ⟨(Int.le_trans (by decide) hx_86.2.1), hx_86.2.2⟩ (zYs_s1e (x := x_46) i49 rfl (by omega) c78 hq80_k (by omega) (by omega)) (by first | omega | assumption | decide) (by first | omega | assumption | decide) H _ ls (zmK hx_86.1 (by decide) n72 (by decide) hk83_53)  hP hD hS (lv_sub hl [0, 1, 2, 3, 4, 5, 6, 7] rfl)
                      have hL0 : (0 : Int32).toInt = 0 := by decide
                      have hP : va_P g.1 vwCl (List.flatten [bMo g o a 0 hi ac 0 ba en tA fl de iD iO tU fm fk fa fc ft ff fb fi2_1]) H := hP
                      have hD : va_D A (List.flatten [bMo g o a 0 hi ac 0 ba en tA fl de iD iO tU fm fk fa fc ft ff fb fi2_1]) := hD
                      exact LP83_52 _ 0 0 (by decide) (by decide) (show (0 : Int) = zYs fi2_1 x_8 x_29 0 from rfl) (by first | omega | assumption | decide) (by first | omega | assumption | exact Int.natCast_nonneg _ | decide) H _ ls (Nat.lt_succ_self _)  hP hD hS (lv_sub hl [0, 1, 2, 3, 4, 5, 6, 7] rfl)
                    · skip
                      have c87 : x_8.toInt = x_29.toInt := zeq cb9 rfl rfl
                      refine lv_goto (tgt := 169) hx hb dX12_ask_74 (by decide) ?_
                      refine ziinc3 (n' := 1) (a' := 1) (b' := 8) (lv' := fun v9 => [(5, .int v9), (0, .ref o), (1, .int q_2), (2, .int x_27), (3, .int x_28), (4, .int x_8)]) hx hb dX12_ask_169 hl (k := 5) rfl (by decide) (fun _ => rfl) (zaddK (i := x_29.toInt) (j := 1) rfl (by decide) i32.1 n42 (Int.le_refl _) (Int.le_refl _) (by decide)) (fun x_88 ls hx_88 hl => ?_)
                      refine lv_goto (tgt := 56) hx hb dX12_ask_172 (by decide) ?_
                      have hl := lv_sub (l' := [(0, .ref o), (1, .int q_2), (2, .int x_27), (3, .int x_28), (4, .int x_8), (5, .int x_88)]) hl [1, 2, 3, 4, 5, 0] rfl
                      have hP : va_P g.1 vwCl (List.flatten [bMo g o a 0 hi ac 0 ba en tA fl de iD iO tU fm fk fa fc ft ff fb fi2_1]) H := hP
                      have hD : va_D A (List.flatten [bMo g o a 0 hi ac 0 ba en tA fl de iD iO tU fm fk fa fc ft ff fb fi2_1]) := hD
                      exact ih56_37 x_27 x_28 x_88 ⟨i30.1, i30.2⟩ ⟨i31.1, i31.2⟩ ⟨(Int.le_trans (by decide) hx_88.2.1), hx_88.2.2⟩ (zBs_k (u := x_8.toInt) (v := x_29.toInt) i33 rfl (by omega) (by omega) (by omega) (by omega) (by omega)) (by first | omega | assumption | decide) i35 H _ ls (zmK hx_88.1 (by decide) n42 (by decide) hk56_37)  hP hD hS (lv_sub hl [0, 1, 2, 3, 4, 5] rfl)
              have hL0 : (0 : Int32).toInt = 0 := by decide
              have hP : va_P g.1 vwCl (List.flatten [bMo g o a 0 hi ac 0 ba en tA fl de iD iO tU fm fk fa fc ft ff fb fi2_1]) H := hP
              have hD : va_D A (List.flatten [bMo g o a 0 hi ac 0 ba en tA fl de iD iO tU fm fk fa fc ft ff fb fi2_1]) := hD
              exact LP56_36 _ x_6 x_7 0 ⟨i9.1, i9.2⟩ ⟨i10.1, i10.2⟩ (by decide) (zBs_t i12 (by omega)) (by first | omega | assumption | decide) i15 H _ ls (Nat.lt_succ_self _)  hP hD hS (lv_sub hl [0, 1, 2, 3, 4, 5] rfl)
      have hLn1 : ((-1) : Int32).toInt = (-1) := by decide
      have hL2000000000 : (2000000000 : Int32).toInt = 2000000000 := by decide
      have hL0 : (0 : Int32).toInt = 0 := by decide
      have hP : va_P g.1 vwCl (List.flatten [bMo g o a 0 hi ac 0 ba en tA fl de iD iO tU fm fk fa fc ft ff fb fi2_1]) H := hP
      have hD : va_D A (List.flatten [bMo g o a 0 hi ac 0 ba en tA fl de iD iO tU fm fk fa fc ft ff fb fi2_1]) := hD
      exact LP37_16 _ (-1) 2000000000 0 (by decide) (by decide) (by decide) (zBs_0 (by decide) (by decide)) (by first | omega | assumption | decide) (by first | omega | assumption | decide) (by first | omega | assumption | decide) H _ ls (Nat.lt_succ_self _)  hP hD hS (lv_sub hl [0, 1, 2, 3, 4] rfl)
    · skip
      exact absurd (show q_2.toInt = (-1) from zeq cb9 rfl (by decide)) (zDeq2 (a := 0) (b := (-1)) hq3_kn.1 (Int.le_refl _) (by decide))
  · skip
    refine lv_istore_n (lv' := [(1, .int (-1)), (0, .ref o)]) hx hb dX12_ask_4 rfl hl (by decide) rfl (fun ls hl => ?_)
    refine lv_aload_n hx hb dX12_ask_5 rfl (lv_at hl 1 rfl) ?_
    refine lv_iload_n hx hb dX12_ask_6 rfl (lv_at hl 0 rfl) ?_
    refine lv_iconst (v := (-1)) hx hb dX12_ask_7 (by decide) ?_
    refine lv_icmp_ne (tgt := 15) hx hb dX12_ask_8 (by decide) (fun c90 => absurd (by decide) c90) (fun _ => ?_)
    refine lv_iconst (v := 1) hx hb dX12_ask_11 (by decide) ?_
    refine lv_goto (tgt := 16) hx hb dX12_ask_12 (by decide) ?_
    refine va_put (D := g.1) (ci := 10) (v := .int 1) (ty := .int) (C := RX12) (T := TX12) (N := 20) hx hb hts izRX12 tyX12 tyX12_ok nmX12 hown hK hP hD hS 0 rfl rfl 0 (by decide) (hts _ k825) (fun _ h9 => h9) rfl (by decide +kernel) rfl rfl (Nat.le_of_ble_eq_true rfl) dX12_ask_16 (fun H locs hP hD hS => ?_)
    have hP : va_P g.1 vwCl (List.flatten [bMo g o a 1 hi ac 0 ba en tA fl de iD iO tU fm fk fa fc ft ff fb fi2_1]) H := hP
    have hD : va_D A (List.flatten [bMo g o a 1 hi ac 0 ba en tA fl de iD iO tU fm fk fa fc ft ff fb fi2_1]) := hD
    refine lv_aload_n hx hb dX12_ask_19 rfl (lv_at hl 1 rfl) ?_
    refine va_get (D := g.1) (ci := 10) (v := .int 1) (C := RX12) (T := TX12) (N := 20) hx hb hts izRX12 hown hK hP 0 rfl rfl 0 (by decide) (hts _ k825) (fun _ h9 => h9) rfl dX12_ask_20 ?_
    refine lv_if_le (tgt := 28) hx hb dX12_ask_23 (by decide) (fun c91 => absurd c91 (by decide)) (fun _ => ?_)
    refine lv_iconst (v := 0) hx hb dX12_ask_26 (by decide) ?_
    have hP : va_P g.1 vwCl (List.flatten [bMo g o a 1 hi ac 0 ba en tA fl de iD iO tU fm fk fa fc ft ff fb fi2_1]) H := hP
    have hD : va_D A (List.flatten [bMo g o a 1 hi ac 0 ba en tA fl de iD iO tU fm fk fa fc ft ff fb fi2_1]) := hD
    exact mret_i hx hb hr hlocks hS (Nat.le_of_ble_eq_true rfl) (Nat.le_of_ble_eq_true rfl) dX12_ask_27 (fi2_1, (1 : Int32), (0 : Int32)) rfl (show (1 = 0 ∧ zSaid ft tp.toInt (fm 3).toInt ∧ zAsk ft tp.toInt (fm 3).toInt 0 ∨ 1 = 1 ∧ ¬ zSaid ft tp.toInt (fm 3).toInt) from (Or.inr ⟨rfl, hq3_k⟩)) hP hD
set_option maxRecDepth 100000 in
set_option maxHeartbeats 4000000 in
theorem l_ask (l : Launch) (hfl : l.stackTraces = false) (g : zG) (x : Nat) (ta : Nat) (o : Nat) (lo : Nat) (go : Nat) (tt : Nat) (lt : Nat) (mo : Nat) (fo : Nat) (ro : Nat) (fl9 : Int32) (a : Nat → Nat) (pe : Int32) (wo : Int32) (tx : Int32) (ch : Int32) (jo : Int32) (tr : Int32) (dy : Int32) (sd : Int32) (f : Nat → Nat → Int32) (ab : Nat) (sz : Int32) (ln : Int32) (kd : Int32) (bg : Int32) (nx : Int32) (ft : Int32) (fb : Nat → Int32) (rw : Nat) (ri : Int32) (rt : Int32) (rb : Nat → Int32) (oa : Nat) (fz : Nat → Int64) (b_pe : 0 ≤ pe.toInt ∧ pe.toInt ≤ 8) (b_wo : 0 ≤ wo.toInt ∧ wo.toInt ≤ 6) (rf : zZ4 f) (b_sz : 0 ≤ sz.toInt ∧ sz.toInt ≤ 400) (b_ri : 0 ≤ ri.toInt ∧ ri.toInt ≤ 8) : zX' g l yL_ask (Cond.codeWith yL_ask cL_ask 3 (some .int) [(0, 8, 11, 13)] :: zB) ({ frames := 9, cells := 2, slots := 12, locals := 147 } : Room) [.ref x, .ref oa] [bDR g x ta o lo go tt lt mo fo ro fl9, bTown g o a pe wo tx ch jo tr dy sd f, bTape g ta ab sz ln kd bg nx ft fb, bRi g ro rw ri rt rb, bOut g oa fz] (fun u : Int32 × Int32 × (Nat → Int32) × (Nat → Int64) × Int32 => (fun (ri2 : Int32) (rt2 : Int32) (rb2 : Nat → Int32) (fz2 : Nat → Int64) (q : Int32) => some (.int q)) (u.1) (u.2.1) (u.2.2.1) (u.2.2.2.1) (u.2.2.2.2)) (fun u : Int32 × Int32 × (Nat → Int32) × (Nat → Int64) × Int32 => (fun (ri2 : Int32) (rt2 : Int32) (rb2 : Nat → Int32) (fz2 : Nat → Int64) (q : Int32) => (0 ≤ ri2.toInt ∧ ri2.toInt ≤ 8) ∧ (q = 0 ∧ (sz.toInt ≤ 36 ∧ zSaid fb sz.toInt pe.toInt) ∧ (∃ v9, zAsk fb sz.toInt pe.toInt v9 ∧ fz2 0 = v9.toInt64) ∨ q = 1 ∧ ¬ (sz.toInt ≤ 36 ∧ zSaid fb sz.toInt pe.toInt))) (u.1) (u.2.1) (u.2.2.1) (u.2.2.2.1) (u.2.2.2.2)) (fun u : Int32 × Int32 × (Nat → Int32) × (Nat → Int64) × Int32 => (fun (ri2 : Int32) (rt2 : Int32) (rb2 : Nat → Int32) (fz2 : Nat → Int64) (q : Int32) => [bDR g x ta o lo go tt lt mo fo ro fl9, bTown g o a pe wo tx ch jo tr dy sd f, bTape g ta ab 0 ln kd bg nx ft fb, bRi g ro rw ri2 rt2 rb2, bOut g oa fz2]) (u.1) (u.2.1) (u.2.2.1) (u.2.2.2.1) (u.2.2.2.2)) zNo zN0 := by
  refine zX'.ofH (cc := cL_ask) (maxL := 3) (rt := (some .int)) (by decide) rfl (Nat.le_of_ble_eq_true rfl) ?_
  intro p e s m args below meth c A ls St hr hlocks htab hin hK hT hA hP hD hS hl
  obtain ⟨hx, hb, hml, hown, hts⟩ := id St
  have hl : lv_has ls 3 [(0, .ref x), (1, .ref oa)] := hl
  refine lv_aload_n hx hb dL_ask_0 rfl (lv_at hl 1 rfl) ?_
  refine lv_iconst (v := 0) hx hb dL_ask_1 (by decide) ?_
  refine lv_aload_n hx hb dL_ask_2 rfl (lv_at hl 0 rfl) ?_
  refine xcallV' (g := g) (q0 := 0) (ci := 9) (As := []) (rest := [.int 0, .ref oa]) St hK hT hA hP hD hS hl.1 [0, 1, 2, 3] [4] rfl rfl rfl (c_x_askF l hfl g x ta o lo go tt lt mo fo ro fl9 a pe wo tx ch jo tr dy sd f ab sz ln kd bg nx ft fb rw ri rt rb b_pe b_wo rf b_sz b_ri) (cwV 0 hts (zgL (zl4 k1256 k1257 k1258 k621) k751) rfl rfl rfl (by decide +kernel) ⟨Nat.le_of_ble_eq_true rfl, Nat.le_of_ble_eq_true rfl⟩) rfl rfl rfl rfl (Nat.le_of_ble_eq_true rfl) dL_ask_3 ⟨(Nat.le_of_ble_eq_true rfl), (Nat.le_of_ble_eq_true rfl)⟩ (fun E ce q9 u9 H locs hpx hP hD hS hce hcv hcl => ?_) (fun u_ H locs hq5 hP hD hS => ?_)
  · skip
    obtain ⟨ri2_6, rt2_7, rb2_8⟩ := u9
    have hpx : (E = "java/lang/IllegalArgumentException") ∧ (0 ≤ ri2_6.toInt ∧ ri2_6.toInt ≤ 8) ∧ (¬ (sz.toInt ≤ 36 ∧ zSaid fb sz.toInt pe.toInt)) := hpx
    have hP : va_P g.1 vwCl (List.flatten [bOut g oa fz, bDR g x ta o lo go tt lt mo fo ro fl9, bTown g o a pe wo tx ch jo tr dy sd f, bTape g ta ab 0 ln kd bg nx ft fb, bRi g ro rw ri2_6 rt2_7 rb2_8]) H := hP
    have hD : va_D A (List.flatten [bOut g oa fz, bDR g x ta o lo go tt lt mo fo ro fl9, bTown g o a pe wo tx ch jo tr dy sd f, bTape g ta ab 0 ln kd bg nx ft fb, bRi g ro rw ri2_6 rt2_7 rb2_8]) := hD
    obtain ⟨hE9, hy9, hy10⟩ := hpx
    obtain rfl := hE9
    refine vx_catch hown [] ⟨0, 8, 11, 13⟩ [] (by rw [htab]; rfl) (fun z hz => absurd hz List.not_mem_nil) (by decide) (by decide) (hts _ k1155) ((hT.1.2.2.2.2.1 _ (List.mem_of_getElem? (i := 1) rfl)).use) hce hcv hcl ?_
    refine W.widen (k := 2) (n := 12) (Nat.le_of_ble_eq_true rfl) (Nat.le_of_ble_eq_true rfl) ?_
    refine lv_astore_n (lv' := [(2, .ref q9), (0, .ref x), (1, .ref oa)]) hx hb dL_ask_11 rfl hl (by decide) rfl (fun ls hl => ?_)
    refine lv_iconst (v := 1) hx hb dL_ask_12 (by decide) ?_
    have hP : va_P g.1 vwCl (List.flatten [bOut g oa fz, bDR g x ta o lo go tt lt mo fo ro fl9, bTown g o a pe wo tx ch jo tr dy sd f, bTape g ta ab 0 ln kd bg nx ft fb, bRi g ro rw ri2_6 rt2_7 rb2_8]) H := hP
    have hD : va_D A (List.flatten [bOut g oa fz, bDR g x ta o lo go tt lt mo fo ro fl9, bTown g o a pe wo tx ch jo tr dy sd f, bTape g ta ab 0 ln kd bg nx ft fb, bRi g ro rw ri2_6 rt2_7 rb2_8]) := hD
    obtain ⟨hP, hD⟩ := zord (g := g) (Bs' := [bDR g x ta o lo go tt lt mo fo ro fl9, bTown g o a pe wo tx ch jo tr dy sd f, bTape g ta ab 0 ln kd bg nx ft fb, bRi g ro rw ri2_6 rt2_7 rb2_8, bOut g oa fz]) [1, 2, 3, 4, 0] rfl rfl hP hD
    exact zret_i hx hb hr hlocks hS (Nat.le_of_ble_eq_true rfl) (Nat.le_of_ble_eq_true rfl) dL_ask_13 (ri2_6, rt2_7, rb2_8, fz, (1 : Int32)) rfl (show (0 ≤ ri2_6.toInt ∧ ri2_6.toInt ≤ 8) ∧ (1 = 0 ∧ (sz.toInt ≤ 36 ∧ zSaid fb sz.toInt pe.toInt) ∧ (∃ v9, zAsk fb sz.toInt pe.toInt v9 ∧ fz 0 = v9.toInt64) ∨ 1 = 1 ∧ ¬ (sz.toInt ≤ 36 ∧ zSaid fb sz.toInt pe.toInt)) from ⟨(by first | assumption | omega | decide), (Or.inr ⟨rfl, hy10⟩)⟩) hP hD
  · skip
    obtain ⟨ri2_1, rt2_2, rb2_3, q_4⟩ := u_
    replace hq5 : (0 ≤ ri2_1.toInt ∧ ri2_1.toInt ≤ 8) ∧ (sz.toInt ≤ 36 ∧ zSaid fb sz.toInt pe.toInt) ∧ (zAsk fb sz.toInt pe.toInt q_4) := hq5
    have hP : va_P g.1 vwCl (List.flatten [bOut g oa fz, bDR g x ta o lo go tt lt mo fo ro fl9, bTown g o a pe wo tx ch jo tr dy sd f, bTape g ta ab 0 ln kd bg nx ft fb, bRi g ro rw ri2_1 rt2_2 rb2_3]) H := hP
    have hD : va_D A (List.flatten [bOut g oa fz, bDR g x ta o lo go tt lt mo fo ro fl9, bTown g o a pe wo tx ch jo tr dy sd f, bTape g ta ab 0 ln kd bg nx ft fb, bRi g ro rw ri2_1 rt2_2 rb2_3]) := hD
    refine W.widen (k := 2) (n := 12) (Nat.le_of_ble_eq_true rfl) (Nat.le_of_ble_eq_true rfl) ?_
    refine W.eq (g2 := F0 m 6 ls [.int q_4, .int 0, .ref oa]) rfl ?_
    obtain ⟨hq5_0, hq5_1, hq5_2⟩ := hq5
    refine lv_i2l (v := (q_4 : Int32).toInt64) hx hb dL_ask_6 rfl ?_
    refine va_last hx hb hK hP hD hS 0 2 rfl rfl (zin rfl) dL_ask_7 (fun H locs hP hD hS => ?_)
    have hP : va_P g.1 vwCl (List.flatten [[(oa, .inl (g.2 2, 1, .inr (.inl (vp_updL fz 0 ((q_4 : Int32).toInt64)))))], bDR g x ta o lo go tt lt mo fo ro fl9, bTown g o a pe wo tx ch jo tr dy sd f, bTape g ta ab 0 ln kd bg nx ft fb, bRi g ro rw ri2_1 rt2_2 rb2_3]) H := hP
    have hD : va_D A (List.flatten [[(oa, .inl (g.2 2, 1, .inr (.inl (vp_updL fz 0 ((q_4 : Int32).toInt64)))))], bDR g x ta o lo go tt lt mo fo ro fl9, bTown g o a pe wo tx ch jo tr dy sd f, bTape g ta ab 0 ln kd bg nx ft fb, bRi g ro rw ri2_1 rt2_2 rb2_3]) := hD
    refine lv_goto (tgt := 14) hx hb dL_ask_8 (by decide) ?_
    refine lv_iconst (v := 0) hx hb dL_ask_14 (by decide) ?_
    have hP : va_P g.1 vwCl (List.flatten [bOut g oa (vp_updL fz 0 ((q_4 : Int32).toInt64)), bDR g x ta o lo go tt lt mo fo ro fl9, bTown g o a pe wo tx ch jo tr dy sd f, bTape g ta ab 0 ln kd bg nx ft fb, bRi g ro rw ri2_1 rt2_2 rb2_3]) H := hP
    have hD : va_D A (List.flatten [bOut g oa (vp_updL fz 0 ((q_4 : Int32).toInt64)), bDR g x ta o lo go tt lt mo fo ro fl9, bTown g o a pe wo tx ch jo tr dy sd f, bTape g ta ab 0 ln kd bg nx ft fb, bRi g ro rw ri2_1 rt2_2 rb2_3]) := hD
    obtain ⟨hP, hD⟩ := zord (g := g) (Bs' := [bDR g x ta o lo go tt lt mo fo ro fl9, bTown g o a pe wo tx ch jo tr dy sd f, bTape g ta ab 0 ln kd bg nx ft fb, bRi g ro rw ri2_1 rt2_2 rb2_3, bOut g oa (vp_updL fz 0 ((q_4 : Int32).toInt64))]) [1, 2, 3, 4, 0] rfl rfl hP hD
    exact zret_i hx hb hr hlocks hS (Nat.le_of_ble_eq_true rfl) (Nat.le_of_ble_eq_true rfl) dL_ask_15 (ri2_1, rt2_2, rb2_3, vp_updL fz 0 ((q_4 : Int32).toInt64), (0 : Int32)) rfl (show (0 ≤ ri2_1.toInt ∧ ri2_1.toInt ≤ 8) ∧ (0 = 0 ∧ (sz.toInt ≤ 36 ∧ zSaid fb sz.toInt pe.toInt) ∧ (∃ v9, zAsk fb sz.toInt pe.toInt v9 ∧ (vp_updL fz 0 ((q_4 : Int32).toInt64)) 0 = v9.toInt64) ∨ 0 = 1 ∧ ¬ (sz.toInt ≤ 36 ∧ zSaid fb sz.toInt pe.toInt)) from ⟨(by first | assumption | omega | decide), (Or.inl ⟨rfl, hq5_1, _, hq5_2, rfl⟩)⟩) hP hD
