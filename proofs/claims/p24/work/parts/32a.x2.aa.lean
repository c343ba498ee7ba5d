/-! THE READER: what stands on the tape -/
def zwg (c : Int → Bool) (f : Nat → Int32) (e : Nat) : Nat → Nat → Nat
  | 0, p => p
  | n + 1, p => if p < e ∧ c (f p).toInt = true then zwg c f e n (p + 1) else p
/-- from p on, as long as it's such a sign -/
def zw (c : Int → Bool) (f : Nat → Int32) (e p : Nat) : Nat := zwg c f e (e - p) p
theorem zw_s {c : Int → Bool} {f : Nat → Int32} {e p : Nat} (h : p < e) (hc : c (f p).toInt = true) : zw c f e p = zw c f e (p + 1) := by
  unfold zw
  rw [show e - p = (e - (p + 1)) + 1 by omega]
  show (if p < e ∧ c (f p).toInt = true then zwg c f e (e - (p + 1)) (p + 1) else p) = _
  rw [if_pos ⟨h, hc⟩]
theorem zw_n {c : Int → Bool} {f : Nat → Int32} {e p : Nat} (h : ¬ (p < e ∧ c (f p).toInt = true)) : zw c f e p = p := by
  unfold zw
  cases e - p with
  | zero => rfl
  | succ k => show (if p < e ∧ c (f p).toInt = true then zwg c f e k (p + 1) else p) = p; rw [if_neg h]
theorem zwg_b {c : Int → Bool} {f : Nat → Int32} {e : Nat} : ∀ (n p : Nat), p ≤ zwg c f e n p ∧ (p ≤ e → zwg c f e n p ≤ e)
  | 0, p => ⟨Nat.le_refl _, fun h => h⟩
  | n + 1, p => by
    show p ≤ (if p < e ∧ c (f p).toInt = true then zwg c f e n (p + 1) else p) ∧ (p ≤ e → (if p < e ∧ c (f p).toInt = true then zwg c f e n (p + 1) else p) ≤ e)
    by_cases q : p < e ∧ c (f p).toInt = true
    · rw [if_pos q]; have := zwg_b (c := c) (f := f) (e := e) n (p + 1); exact ⟨by omega, fun _ => this.2 (by omega)⟩
    · rw [if_neg q]; exact ⟨Nat.le_refl _, fun h => h⟩
theorem zw_ge {c : Int → Bool} {f : Nat → Int32} {e p : Nat} : p ≤ zw c f e p := (zwg_b _ _).1
theorem zw_le {c : Int → Bool} {f : Nat → Int32} {e p : Nat} (h : p ≤ e) : zw c f e p ≤ e := (zwg_b _ _).2 h
theorem zw_sI {c : Int → Bool} {f : Nat → Int32} {n : Int} {x x' : Int32} (h0 : 0 ≤ x.toInt) (hl : x.toInt < n) (hc : c (f x.toNatClampNeg).toInt = true) (e : x'.toInt = x.toInt + 1) : zw c f n.toNat x.toInt.toNat = zw c f n.toNat x'.toInt.toNat := by
  rw [zcl] at hc
  rw [zw_s (by omega) hc, show x'.toInt.toNat = x.toInt.toNat + 1 by omega]
theorem zw_nE {c : Int → Bool} {f : Nat → Int32} {n : Int} {x : Int32} (h : n ≤ x.toInt) : zw c f n.toNat x.toInt.toNat = x.toInt.toNat := zw_n (fun q => absurd q.1 (by omega))
theorem zw_nC {c : Int → Bool} {f : Nat → Int32} {n : Int} {x : Int32} (h : c (f x.toNatClampNeg).toInt = false) : zw c f n.toNat x.toInt.toNat = x.toInt.toNat := zw_n (fun q => by rw [zcl] at h; rw [h] at q; exact absurd q.2 (by decide))
def zcS (x : Int) : Bool := decide (x = 32)
def zcL (x : Int) : Bool := decide (97 ≤ x ∧ x ≤ 122)
def zcD (x : Int) : Bool := decide (48 ≤ x ∧ x ≤ 57)
theorem zcS_t {x : Int} (h : x = 32) : zcS x = true := decide_eq_true h
theorem zcS_f {x : Int} (h : ¬ x = 32) : zcS x = false := decide_eq_false h
theorem zcL_t {x : Int} (h : 97 ≤ x) (h2 : x ≤ 122) : zcL x = true := decide_eq_true ⟨h, h2⟩
theorem zcL_f {x : Int} (h : ¬ (97 ≤ x ∧ x ≤ 122)) : zcL x = false := decide_eq_false h
theorem zcD_t {x : Int} (h : 48 ≤ x) (h2 : x ≤ 57) : zcD x = true := decide_eq_true ⟨h, h2⟩
theorem zcD_f {x : Int} (h : ¬ (48 ≤ x ∧ x ≤ 57)) : zcD x = false := decide_eq_false h
def zSk (f : Nat → Int32) (n p b : Int) : Prop := b = (zw zcS f n.toNat p.toNat : Nat)
theorem zSk_mk {f : Nat → Int32} {n p : Int} {x : Int32} (h : zw zcS f n.toNat p.toNat = zw zcS f n.toNat x.toInt.toNat) (h0 : 0 ≤ x.toInt) (e : zw zcS f n.toNat x.toInt.toNat = x.toInt.toNat) : zSk f n p x.toInt := by
  unfold zSk
  rw [h, e]; omega
/-- the kind of what stands at b, and where it ends -/
def zkd (f : Nat → Int32) (n b : Int) : Int := if n ≤ b then 0 else if zcL (f b.toNat).toInt = true then 1 else if zcD (f b.toNat).toInt = true then 2 else 3
def znx (f : Nat → Int32) (n b : Int) : Int := if n ≤ b then b else if zcL (f b.toNat).toInt = true then (zw zcL f n.toNat (b.toNat + 1) : Nat) else if zcD (f b.toNat).toInt = true then (zw zcD f n.toNat (b.toNat + 1) : Nat) else b + 1
def zTk (f : Nat → Int32) (n k b x : Int) : Prop := k = zkd f n b ∧ x = znx f n b
theorem zTk_e {f : Nat → Int32} {n k b : Int} (hk : k = 0) (h : n ≤ b) : zTk f n k b b := by unfold zTk zkd znx; rw [if_pos h, if_pos h]; exact ⟨hk, rfl⟩
theorem zTk_w {f : Nat → Int32} {n k : Int} {b x : Int32} (hk : k = 1) (h : b.toInt < n) (hc : zcL (f b.toNatClampNeg).toInt = true) (h0 : 0 ≤ x.toInt) (i : zw zcL f n.toNat (b.toInt.toNat + 1) = zw zcL f n.toNat x.toInt.toNat) (e : zw zcL f n.toNat x.toInt.toNat = x.toInt.toNat) : zTk f n k b.toInt x.toInt := by
  rw [zcl] at hc
  unfold zTk zkd znx
  have h' : ¬ n ≤ b.toInt := by omega
  rw [if_neg h', if_neg h', if_pos hc, if_pos hc, i, e]; exact ⟨hk, by omega⟩
theorem zTk_d {f : Nat → Int32} {n k : Int} {b x : Int32} (hk : k = 2) (h : b.toInt < n) (hl : zcL (f b.toNatClampNeg).toInt = false) (hc : zcD (f b.toNatClampNeg).toInt = true) (h0 : 0 ≤ x.toInt) (i : zw zcD f n.toNat (b.toInt.toNat + 1) = zw zcD f n.toNat x.toInt.toNat) (e : zw zcD f n.toNat x.toInt.toNat = x.toInt.toNat) : zTk f n k b.toInt x.toInt := by
  rw [zcl] at hc hl
  unfold zTk zkd znx
  have h' : ¬ n ≤ b.toInt := by omega
  have hl' : ¬ zcL (f b.toInt.toNat).toInt = true := by rw [hl]; decide
  rw [if_neg h', if_neg h', if_neg hl', if_neg hl', if_pos hc, if_pos hc, i, e]; exact ⟨hk, by omega⟩
theorem zTk_s {f : Nat → Int32} {n k x : Int} {b : Int32} (hk : k = 3) (h : b.toInt < n) (hl : zcL (f b.toNatClampNeg).toInt = false) (hd : zcD (f b.toNatClampNeg).toInt = false) (e : x = b.toInt + 1) : zTk f n k b.toInt x := by
  rw [zcl] at hd hl
  unfold zTk zkd znx
  have h' : ¬ n ≤ b.toInt := by omega
  have hl' : ¬ zcL (f b.toInt.toNat).toInt = true := by rw [hl]; decide
  have hd' : ¬ zcD (f b.toInt.toNat).toInt = true := by rw [hd]; decide
  rw [if_neg h', if_neg h', if_neg hl', if_neg hl', if_neg hd', if_neg hd']; exact ⟨hk, e⟩
theorem zlitA : ∀ q ∈ zLit, ∀ i, i < q.2.2.2.length → 97 ≤ (q.2.2.2.getD i 0).toInt ∧ (q.2.2.2.getD i 0).toInt ≤ 122 := by decide +kernel
theorem zlitB {j : Nat} {q : String × Nat × String × List Int32} (h : zLit[j]? = some q) : ∀ i : Nat, i < q.2.2.2.length → 97 ≤ (q.2.2.2.getD i 0).toInt ∧ (q.2.2.2.getD i 0).toInt ≤ 122 := zlitA q (List.mem_of_getElem? h)
theorem zchN : ∀ n : Nat, n < 128 → ((nI n &&& 255).toUInt32 % 65536).toInt32 = nI n := by decide +kernel
theorem zchr {v : Int32} (h : 97 ≤ v.toInt ∧ v.toInt ≤ 122) : ((v &&& 255).toUInt32 % 65536).toInt32 = v := by
  obtain ⟨n, h1, e, h3⟩ := znN (x := v) rfl (by omega)
  rw [e]; exact zchN n (by omega)
def zpfx (f : Nat → Int32) (b : Int) (bs : List Int32) (k : Int) : Prop := ∀ i : Nat, (i : Int) < k → f (b.toNat + i) = bs.getD i 0
theorem zpfx0 (f : Nat → Int32) (b : Int) (bs : List Int32) : zpfx f b bs 0 := fun i h => absurd h (by omega)
theorem zpfx_s {f : Nat → Int32} {b k k' : Int} {bs : List Int32} {x y z : Int32} (h : zpfx f b bs k) (hx : x.toInt = b + z.toInt) (hz : z.toInt = k) (h0 : 0 ≤ k) (hb : 0 ≤ b) (e : k' = k + 1) (hc : (f x.toNatClampNeg).toInt = y.toInt) (hy : y = bs.getD z.toInt.toNat 0) : zpfx f b bs k' := by
  intro i hi
  rcases (show (i : Int) < k ∨ (i : Int) = k by omega) with q | q
  · exact h i q
  · rw [zcl] at hc
    have e1 : x.toInt.toNat = b.toNat + i := by omega
    have e2 : z.toInt.toNat = i := by omega
    rw [e1] at hc; rw [e2] at hy
    rw [← hy]; exact Int32.toInt_inj.mp hc
theorem zpfx_x {f : Nat → Int32} {b n : Int} {bs : List Int32} {x y z : Int32} (hx : x.toInt = b + z.toInt) (h0 : 0 ≤ z.toInt) (hb : 0 ≤ b) (hn : z.toInt < n) (hc : ¬ (f x.toNatClampNeg).toInt = y.toInt) (hy : y = bs.getD z.toInt.toNat 0) : ¬ zpfx f b bs n := by
  intro h
  have := h z.toInt.toNat (by omega)
  rw [zcl] at hc
  have e1 : x.toInt.toNat = b.toNat + z.toInt.toNat := by omega
  rw [e1, this, ← hy] at hc; exact hc rfl
/-- the word bs stands at b -/
def zisW (f : Nat → Int32) (n b : Int) (bs : List Int32) : Prop := zkd f n b = 1 ∧ znx f n b - b = (bs.length : Int) ∧ zpfx f b bs (bs.length : Int)
theorem zisW_k {f : Nat → Int32} {n k b x : Int} {bs : List Int32} (h : zTk f n k b x) (hk : ¬ k = 1) : ¬ zisW f n b bs := fun q => hk (h.1.trans q.1)
theorem zisW_l {f : Nat → Int32} {n k b x y : Int} {bs : List Int32} (h : zTk f n k b x) (hy : y = (bs.length : Int)) (hl : ¬ y = x - b) : ¬ zisW f n b bs := fun q => hl (by rw [hy, h.2]; exact q.2.1.symm)
theorem zisW_y {f : Nat → Int32} {n k b x y z : Int} {bs : List Int32} (h : zTk f n k b x) (hk : k = 1) (hy : y = (bs.length : Int)) (hl : y = x - b) (hp : zpfx f b bs z) (hz : (bs.length : Int) ≤ z) : zisW f n b bs := ⟨h.1 ▸ hk, by rw [← h.2, ← hy, hl], fun i hi => hp i (by omega)⟩
def zisS (f : Nat → Int32) (n b c : Int) : Prop := zkd f n b = 3 ∧ (f b.toNat).toInt = c
theorem zisS_y {f : Nat → Int32} {n k x : Int} {b c : Int32} (h : zTk f n k b.toInt x) (hk : k = 3) (hc : (f b.toNatClampNeg).toInt = c.toInt) : zisS f n b.toInt c.toInt := ⟨h.1 ▸ hk, by rw [zcl] at hc; exact hc⟩
theorem zisS_k {f : Nat → Int32} {n k b x c : Int} (h : zTk f n k b x) (hk : ¬ k = 3) : ¬ zisS f n b c := fun q => hk (h.1.trans q.1)
theorem zisS_c {f : Nat → Int32} {n : Int} {b c : Int32} (hc : ¬ (f b.toNatClampNeg).toInt = c.toInt) : ¬ zisS f n b.toInt c.toInt := fun q => by rw [zcl] at hc; exact hc q.2
/-- behind what stands at b, spaces skipped -/
def zMv (f : Nat → Int32) (n b b2 : Int) : Prop := zSk f n (znx f n b) b2
theorem zMv_mk {f : Nat → Int32} {n k b x b2 : Int} (h : zTk f n k b x) (h2 : zSk f n x b2) : zMv f n b b2 := by unfold zMv; rw [← h.2]; exact h2
def zvl (f : Nat → Int32) (b : Nat) : Nat → Int32
  | 0 => 0
  | k + 1 => zvl f b k * 10 + f (b + k) - 48
theorem zvl_s {f : Nat → Int32} {B : Int} {v x x' : Int32} (h : v.toInt = (zvl f B.toNat (x.toInt - B).toNat).toInt) (h0 : 0 ≤ B) (hb : B ≤ x.toInt) (e : x'.toInt = x.toInt + 1) : (v * 10 + f x.toNatClampNeg - 48).toInt = (zvl f B.toNat (x'.toInt - B).toNat).toInt := by
  rw [show (x'.toInt - B).toNat = (x.toInt - B).toNat + 1 by omega, Int32.toInt_inj.mp h]
  show _ = (zvl f B.toNat (x.toInt - B).toNat * 10 + f (B.toNat + (x.toInt - B).toNat) - 48).toInt
  rw [zcl, show x.toInt.toNat = B.toNat + (x.toInt - B).toNat by omega]
/-- a number of at most three figures, within bounds -/
def zNu (f : Nat → Int32) (n b lo hi : Int) (v : Int32) : Prop := (zkd f n b = 2 ∧ znx f n b - b ≤ 3) ∧ v = zvl f b.toNat (znx f n b - b).toNat ∧ lo ≤ v.toInt ∧ v.toInt ≤ hi
theorem zNu_y {f : Nat → Int32} {n k b x y lo hi : Int} {v : Int32} (h : zTk f n k b x) (hk : k = 2) (hl : x - b ≤ 3) (hv : v.toInt = (zvl f b.toNat (y - b).toNat).toInt) (hy : y = x) (h1 : lo ≤ v.toInt) (h2 : v.toInt ≤ hi) : zNu f n b lo hi v := by
  subst hy
  refine ⟨⟨h.1 ▸ hk, by rw [← h.2]; exact hl⟩, ?_, h1, h2⟩
  rw [← h.2]; exact Int32.toInt_inj.mp hv
theorem zNu_k {f : Nat → Int32} {n k b x lo hi : Int} (h : zTk f n k b x) (hk : ¬ (k = 2 ∧ x - b ≤ 3)) : ¬ ∃ v, zNu f n b lo hi v := fun ⟨_, q, _⟩ => hk ⟨h.1.trans q.1, by rw [h.2]; exact q.2⟩
theorem zNu_v {f : Nat → Int32} {n k b x y lo hi : Int} {v : Int32} (h : zTk f n k b x) (hv : v.toInt = (zvl f b.toNat (y - b).toNat).toInt) (hy : y = x) (hn : ¬ (lo ≤ v.toInt ∧ v.toInt ≤ hi)) : ¬ ∃ v, zNu f n b lo hi v := fun ⟨w, _, q, r⟩ => by
  subst hy
  rw [← h.2] at q
  rw [q, ← hv] at r; exact hn r
set_option maxRecDepth 100000 in
set_option maxHeartbeats 4000000 in
theorem c_t_stepF (l : Launch) (g : zG) (ta : Nat) (ab : Nat) (sz : Int32) (ln : Int32) (kd : Int32) (bg : Int32) (nx : Int32) (ft : Int32) (fb : Nat → Int32) (hln : 0 ≤ ln.toInt ∧ ln.toInt ≤ 400) (hnx : 0 ≤ nx.toInt ∧ nx.toInt ≤ 400) : zM' g l yX6_step (Cond.code yX6_step cX6_step 2 none :: zB) ({ frames := 0, cells := 0, slots := 0, locals := 0 } : Room) [.ref ta] [bTape g ta ab sz ln kd bg nx ft fb] (fun u : Int32 × Int32 × Int32 => (fun (kd2 : Int32) (bg2 : Int32) (nx2 : Int32) => none) (u.1) (u.2.1) (u.2.2)) (fun u : Int32 × Int32 × Int32 => (fun (kd2 : Int32) (bg2 : Int32) (nx2 : Int32) => (0 ≤ nx2.toInt ∧ nx2.toInt ≤ 400) ∧ (0 ≤ bg2.toInt ∧ bg2.toInt ≤ 400) ∧ (zKd kd2.toInt bg2.toInt nx2.toInt) ∧ (zSk fb ln.toInt nx.toInt bg2.toInt) ∧ (zTk fb ln.toInt kd2.toInt bg2.toInt nx2.toInt)) (u.1) (u.2.1) (u.2.2)) (fun u : Int32 × Int32 × Int32 => (fun (kd2 : Int32) (bg2 : Int32) (nx2 : Int32) => [bTape g ta ab sz ln kd2 bg2 nx2 ft fb]) (u.1) (u.2.1) (u.2.2)) := by
  refine zM'.of (cc := cX6_step) (maxL := 2) (rt := none) (by decide) rfl (Nat.le_of_ble_eq_true rfl) ?_
  intro p e s m args below meth c A ls St hr hlocks hin hK hT hA hP hD hS hl
  obtain ⟨hx, hb, hml, hown, hts⟩ := id St
  have hl : lv_has ls 2 [(0, .ref ta)] := hl
  have LP0_4 : ∀ (kf : Nat) (x_1 : Int32), (0 ≤ x_1.toInt ∧ x_1.toInt ≤ 400) → (zw zcS fb ln.toInt.toNat nx.toInt.toNat = zw zcS fb ln.toInt.toNat (x_1.toInt).toNat) → ∀ (H : Heap) (locs : List Loc) (ls : Array Slot), ((ln.toInt - x_1.toInt).toNat) < kf → va_P g.1 vwCl (List.flatten [bTape g ta ab sz ln kd bg x_1 ft fb]) H → va_D A (List.flatten [bTape g ta ab sz ln kd bg x_1 ft fb]) → va_S A s.heap H locs → lv_has ls 2 [(0, .ref ta)] → W p l e ({ frames := 0, cells := 0, slots := 0, locals := 0 } : Room) s m args below meth c H locs (0) (0) (zF g (fun u : Int32 × Int32 × Int32 => (fun (kd2 : Int32) (bg2 : Int32) (nx2 : Int32) => none) (u.1) (u.2.1) (u.2.2)) (fun u : Int32 × Int32 × Int32 => (fun (kd2 : Int32) (bg2 : Int32) (nx2 : Int32) => (0 ≤ nx2.toInt ∧ nx2.toInt ≤ 400) ∧ (0 ≤ bg2.toInt ∧ bg2.toInt ≤ 400) ∧ (zKd kd2.toInt bg2.toInt nx2.toInt) ∧ (zSk fb ln.toInt nx.toInt bg2.toInt) ∧ (zTk fb ln.toInt kd2.toInt bg2.toInt nx2.toInt)) (u.1) (u.2.1) (u.2.2)) (fun u : Int32 × Int32 × Int32 => (fun (kd2 : Int32) (bg2 : Int32) (nx2 : Int32) => [bTape g ta ab sz ln kd2 bg2 nx2 ft fb]) (u.1) (u.2.1) (u.2.2)) ({ frames := 0, cells := 0, slots := 0, locals := 0 } : Room) below args s A) (F0 m 0 ls []) := by
    intro kf
    induction kf with
    | zero => intro x_1 i2 i3 H locs ls hk; exact absurd hk (Nat.not_lt_zero _)
    | succ kf ih0_5 =>
      intro x_1 i2 i3 H locs ls hk0_5 hP hD hS hl
      refine lv_aload_n hx hb dX6_step_0 rfl (lv_at hl 0 rfl) ?_
      refine va_get (D := g.1) (ci := 6) (v := .int x_1) (C := RX6) (T := TX6) (N := 7) hx hb hts izRX6 hown hK hP 0 rfl rfl 5 (by decide) (hts _ k259) (fun _ h9 => h9) rfl dX6_step_1 ?_
      refine lv_aload_n hx hb dX6_step_4 rfl (lv_at hl 0 rfl) ?_
      refine va_get (D := g.1) (ci := 6) (v := .int ln) (C := RX6) (T := TX6) (N := 7) hx hb hts izRX6 hown hK hP 0 rfl rfl 2 (by decide) (hts _ k272) (fun _ h9 => h9) rfl dX6_step_5 ?_
      refine lv_icmp_ge (tgt := 38) hx hb dX6_step_8 (by decide) (fun cb9 => ?_) (fun cb9 => ?_)
      · skip
        have c6 : ln.toInt ≤ x_1.toInt := zle cb9 rfl rfl
        refine lv_aload_n hx hb dX6_step_38 rfl (lv_at hl 0 rfl) ?_
        refine lv_aload_n hx hb dX6_step_39 rfl (lv_at hl 0 rfl) ?_
        refine va_get (D := g.1) (ci := 6) (v := .int x_1) (C := RX6) (T := TX6) (N := 7) hx hb hts izRX6 hown hK hP 0 rfl rfl 5 (by decide) (hts _ k259) (fun _ h9 => h9) rfl dX6_step_40 ?_
        refine va_put (D := g.1) (ci := 6) (v := .int x_1) (ty := .int) (C := RX6) (T := TX6) (N := 7) hx hb hts izRX6 tyX6 tyX6_ok nmX6 hown hK hP hD hS 0 rfl rfl 4 (by decide) (hts _ k260) (fun _ h9 => h9) rfl (by decide +kernel) rfl rfl (Nat.le_of_ble_eq_true rfl) dX6_step_43 (fun H locs hP hD hS => ?_)
        have hP : va_P g.1 vwCl (List.flatten [bTape g ta ab sz ln kd x_1 x_1 ft fb]) H := hP
        have hD : va_D A (List.flatten [bTape g ta ab sz ln kd x_1 x_1 ft fb]) := hD
        refine lv_aload_n hx hb dX6_step_46 rfl (lv_at hl 0 rfl) ?_
        refine va_get (D := g.1) (ci := 6) (v := .int x_1) (C := RX6) (T := TX6) (N := 7) hx hb hts izRX6 hown hK hP 0 rfl rfl 5 (by decide) (hts _ k259) (fun _ h9 => h9) rfl dX6_step_47 ?_
        refine lv_aload_n hx hb dX6_step_50 rfl (lv_at hl 0 rfl) ?_
        refine va_get (D := g.1) (ci := 6) (v := .int ln) (C := RX6) (T := TX6) (N := 7) hx hb hts izRX6 hown hK hP 0 rfl rfl 2 (by decide) (hts _ k272) (fun _ h9 => h9) rfl dX6_step_51 ?_
        refine lv_icmp_lt (tgt := 63) hx hb dX6_step_54 (by decide) (fun cb9 => ?_) (fun cb9 => ?_)
        · skip
          have c7 : x_1.toInt < ln.toInt := zlti cb9 rfl rfl
          have n8 : x_1.toInt ≤ 399 := zL1 (b := 400) c7 hln.2 (by decide)
          have n9 : 1 ≤ ln.toInt := zL2 (a := 0) c7 i2.1 (by decide)
          refine lv_aload_n hx hb dX6_step_63 rfl (lv_at hl 0 rfl) ?_
          refine va_get (D := g.1) (ci := 6) (v := .ref ab) (C := RX6) (T := TX6) (N := 7) hx hb hts izRX6 hown hK hP 0 rfl rfl 0 (by decide) (hts _ k261) (fun _ h9 => h9) rfl dX6_step_64 ?_
          refine lv_aload_n hx hb dX6_step_67 rfl (lv_at hl 0 rfl) ?_
          refine va_get (D := g.1) (ci := 6) (v := .int x_1) (C := RX6) (T := TX6) (N := 7) hx hb hts izRX6 hown hK hP 0 rfl rfl 5 (by decide) (hts _ k259) (fun _ h9 => h9) rfl dX6_step_68 ?_
          refine va_iald hx hb hK hP 1 0 rfl rfl (zinK (a := 0) (b := 399) i2.1 n8 (by decide)) dX6_step_71 ?_
          refine lv_istore_n (lv' := [(1, .int (fb x_1.toNatClampNeg)), (0, .ref ta)]) hx hb dX6_step_72 rfl hl (by decide) rfl (fun ls hl => ?_)
          refine lv_aload_n hx hb dX6_step_73 rfl (lv_at hl 1 rfl) ?_
          refine lv_dup hx hb dX6_step_74 rfl ?_
          refine va_get (D := g.1) (ci := 6) (v := .int x_1) (C := RX6) (T := TX6) (N := 7) hx hb hts izRX6 hown hK hP 0 rfl rfl 5 (by decide) (hts _ k259) (fun _ h9 => h9) rfl dX6_step_75 ?_
          refine lv_iconst (v := 1) hx hb dX6_step_78 (by decide) ?_
          refine lv_iadd hx hb dX6_step_79 ?_
          refine zg3 (zaddK (i := x_1.toInt) (j := 1) (a' := 1) (b' := 400) rfl (by decide) i2.1 n8 (Int.le_refl _) (Int.le_refl _) (by decide)) (fun x_10 hx_10 => ?_)
          refine va_put (D := g.1) (ci := 6) (v := .int x_10) (ty := .int) (C := RX6) (T := TX6) (N := 7) hx hb hts izRX6 tyX6 tyX6_ok nmX6 hown hK hP hD hS 0 rfl rfl 5 (by decide) (hts _ k259) (fun _ h9 => h9) rfl (by decide +kernel) rfl rfl (Nat.le_of_ble_eq_true rfl) dX6_step_80 (fun H locs hP hD hS => ?_)
          have hP : va_P g.1 vwCl (List.flatten [bTape g ta ab sz ln kd x_1 x_10 ft fb]) H := hP
          have hD : va_D A (List.flatten [bTape g ta ab sz ln kd x_1 x_10 ft fb]) := hD
          refine lv_iload_n hx hb dX6_step_83 rfl (lv_at hl 0 rfl) ?_
          refine lv_bipush (v := 97) hx hb dX6_step_84 (by decide) ?_
          refine lv_icmp_lt (tgt := 152) hx hb dX6_step_86 (by decide) (fun cb9 => ?_) (fun cb9 => ?_)
          · skip
            have c11 : (fb x_1.toNatClampNeg).toInt < 97 := zlti cb9 rfl (by decide)
            have n12 : (fb x_1.toNatClampNeg).toInt ≤ 96 := zL1 (b := 97) c11 (Int.le_refl _) (by decide)
            refine lv_iload_n hx hb dX6_step_152 rfl (lv_at hl 0 rfl) ?_
            refine lv_bipush (v := 48) hx hb dX6_step_153 (by decide) ?_
            refine lv_icmp_lt (tgt := 221) hx hb dX6_step_155 (by decide) (fun cb9 => ?_) (fun cb9 => ?_)
            · skip
              have c13 : (fb x_1.toNatClampNeg).toInt < 48 := zlti cb9 rfl (by decide)
              have n14 : (fb x_1.toNatClampNeg).toInt ≤ 47 := zL1 (b := 48) c13 (Int.le_refl _) (by decide)
              refine lv_aload_n hx hb dX6_step_221 rfl (lv_at hl 1 rfl) ?_
              refine lv_iconst (v := 3) hx hb dX6_step_222 (by decide) ?_
              refine va_put (D := g.1) (ci := 6) (v := .int 3) (ty := .int) (C := RX6) (T := TX6) (N := 7) hx hb hts izRX6 tyX6 tyX6_ok nmX6 hown hK hP hD hS 0 rfl rfl 3 (by decide) (hts _ k258) (fun _ h9 => h9) rfl (by decide +kernel) rfl rfl (Nat.le_of_ble_eq_true rfl) dX6_step_223 (fun H locs hP hD hS => ?_)
              have hP : va_P g.1 vwCl (List.flatten [bTape g ta ab sz ln 3 x_1 x_10 ft fb]) H := hP
              have hD : va_D A (List.flatten [bTape g ta ab sz ln 3 x_1 x_10 ft fb]) := hD
              have hP : va_P g.1 vwCl (List.flatten [bTape g ta ab sz ln 3 x_1 x_10 ft fb]) H := hP
              have hD : va_D A (List.flatten [bTape g ta ab sz ln 3 x_1 x_10 ft fb]) := hD
              exact mret_v hx hb hr hlocks hS (Nat.le_of_ble_eq_true rfl) (Nat.le_of_ble_eq_true rfl) dX6_step_226 ((3 : Int32), x_1, x_10) rfl (show (0 ≤ x_10.toInt ∧ x_10.toInt ≤ 400) ∧ (0 ≤ x_1.toInt ∧ x_1.toInt ≤ 400) ∧ (zKd (3 : Int32).toInt x_1.toInt x_10.toInt) ∧ (zSk fb ln.toInt nx.toInt x_1.toInt) ∧ (zTk fb ln.toInt (3 : Int32).toInt x_1.toInt x_10.toInt) from ⟨(by first | assumption | omega | exact Or.inl (by decide) | exact Or.inr (by omega)), (by first | assumption | omega | exact Or.inl (by decide) | exact Or.inr (by omega)), (by first | assumption | omega | exact Or.inl (by decide) | exact Or.inr (by omega)), (zSk_mk i3 (by omega) (zw_nE (by omega))), (zTk_s (by decide) (by omega) (zcL_f (by omega)) (zcD_f (by omega)) (by omega))⟩) hP hD
            · skip
              have c15 : 48 ≤ (fb x_1.toNatClampNeg).toInt := zle (Int32.not_lt.mp cb9) (by decide) rfl
              have n16 : 48 ≤ (fb x_1.toNatClampNeg).toInt := Int.le_trans (Int.le_refl _) c15
              refine lv_iload_n hx hb dX6_step_158 rfl (lv_at hl 0 rfl) ?_
              refine lv_bipush (v := 57) hx hb dX6_step_159 (by decide) ?_
              refine lv_icmp_gt (tgt := 221) hx hb dX6_step_161 (by decide) (fun cb9 => ?_) (fun cb9 => ?_)
              · skip
                have c17 : 57 < (fb x_1.toNatClampNeg).toInt := zlti cb9 (by decide) rfl
                have n18 : 58 ≤ (fb x_1.toNatClampNeg).toInt := zL2 (a := 57) c17 (Int.le_refl _) (by decide)
                refine lv_aload_n hx hb dX6_step_221 rfl (lv_at hl 1 rfl) ?_
                refine lv_iconst (v := 3) hx hb dX6_step_222 (by decide) ?_
                refine va_put (D := g.1) (ci := 6) (v := .int 3) (ty := .int) (C := RX6) (T := TX6) (N := 7) hx hb hts izRX6 tyX6 tyX6_ok nmX6 hown hK hP hD hS 0 rfl rfl 3 (by decide) (hts _ k258) (fun _ h9 => h9) rfl (by decide +kernel) rfl rfl (Nat.le_of_ble_eq_true rfl) dX6_step_223 (fun H locs hP hD hS => ?_)
                have hP : va_P g.1 vwCl (List.flatten [bTape g ta ab sz ln 3 x_1 x_10 ft fb]) H := hP
                have hD : va_D A (List.flatten [bTape g ta ab sz ln 3 x_1 x_10 ft fb]) := hD
                have hP : va_P g.1 vwCl (List.flatten [bTape g ta ab sz ln 3 x_1 x_10 ft fb]) H := hP
                have hD : va_D A (List.flatten [bTape g ta ab sz ln 3 x_1 x_10 ft fb]) := hD
                exact mret_v hx hb hr hlocks hS (Nat.le_of_ble_eq_true rfl) (Nat.le_of_ble_eq_true rfl) dX6_step_226 ((3 : Int32), x_1, x_10) rfl (show (0 ≤ x_10.toInt ∧ x_10.toInt ≤ 400) ∧ (0 ≤ x_1.toInt ∧ x_1.toInt ≤ 400) ∧ (zKd (3 : Int32).toInt x_1.toInt x_10.toInt) ∧ (zSk fb ln.toInt nx.toInt x_1.toInt) ∧ (zTk fb ln.toInt (3 : Int32).toInt x_1.toInt x_10.toInt) from ⟨(by first | assumption | omega | exact Or.inl (by decide) | exact Or.inr (by omega)), (by first | assumption | omega | exact Or.inl (by decide) | exact Or.inr (by omega)), (by first | assumption | omega | exact Or.inl (by decide) | exact Or.inr (by omega)), (zSk_mk i3 (by omega) (zw_nE (by omega))), (zTk_s (by decide) (by omega) (zcL_f (by omega)) (zcD_f (by omega)) (by omega))⟩) hP hD
              · skip
                have c19 : (fb x_1.toNatClampNeg).toInt ≤ 57 := zle (Int32.not_lt.mp cb9) rfl (by decide)
                have n20 : (fb x_1.toNatClampNeg).toInt ≤ 57 := Int.le_trans c19 (Int.le_refl _)
                refine lv_aload_n hx hb dX6_step_164 rfl (lv_at hl 1 rfl) ?_
                refine lv_iconst (v := 2) hx hb dX6_step_165 (by decide) ?_
                refine va_put (D := g.1) (ci := 6) (v := .int 2) (ty := .int) (C := RX6) (T := TX6) (N := 7) hx hb hts izRX6 tyX6 tyX6_ok nmX6 hown hK hP hD hS 0 rfl rfl 3 (by decide) (hts _ k258) (fun _ h9 => h9) rfl (by decide +kernel) rfl rfl (Nat.le_of_ble_eq_true rfl) dX6_step_166 (fun H locs hP hD hS => ?_)
                have hP : va_P g.1 vwCl (List.flatten [bTape g ta ab sz ln 2 x_1 x_10 ft fb]) H := hP
                have hD : va_D A (List.flatten [bTape g ta ab sz ln 2 x_1 x_10 ft fb]) := hD
                have hl := lv_sub (l' := [(0, .ref ta), (1, .int (fb x_1.toNatClampNeg))]) hl [1, 0] rfl
                have LP169_25 : ∀ (kf : Nat) (x_21 : Int32), (1 ≤ x_21.toInt ∧ x_21.toInt ≤ 400) → (x_1.toInt < x_21.toInt) → (zw zcD fb ln.toInt.toNat ((x_1.toInt).toNat + 1) = zw zcD fb ln.toInt.toNat (x_21.toInt).toNat) → ∀ (H : Heap) (locs : List Loc) (ls : Array Slot), ((ln.toInt - x_21.toInt).toNat) < kf → va_P g.1 vwCl (List.flatten [bTape g ta ab sz ln 2 x_1 x_21 ft fb]) H → va_D A (List.flatten [bTape g ta ab sz ln 2 x_1 x_21 ft fb]) → va_S A s.heap H locs → lv_has ls 2 [(0, .ref ta), (1, .int (fb x_1.toNatClampNeg))] → W p l e ({ frames := 0, cells := 0, slots := 0, locals := 0 } : Room) s m args below meth c H locs (0) (0) (zF g (fun u : Int32 × Int32 × Int32 => (fun (kd2 : Int32) (bg2 : Int32) (nx2 : Int32) => none) (u.1) (u.2.1) (u.2.2)) (fun u : Int32 × Int32 × Int32 => (fun (kd2 : Int32) (bg2 : Int32) (nx2 : Int32) => (0 ≤ nx2.toInt ∧ nx2.toInt ≤ 400) ∧ (0 ≤ bg2.toInt ∧ bg2.toInt ≤ 400) ∧ (zKd kd2.toInt bg2.toInt nx2.toInt) ∧ (zSk fb ln.toInt nx.toInt bg2.toInt) ∧ (zTk fb ln.toInt kd2.toInt bg2.toInt nx2.toInt)) (u.1) (u.2.1) (u.2.2)) (fun u : Int32 × Int32 × Int32 => (fun (kd2 : Int32) (bg2 : Int32) (nx2 : Int32) => [bTape g ta ab sz ln kd2 bg2 nx2 ft fb]) (u.1) (u.2.1) (u.2.2)) ({ frames := 0, cells := 0, slots := 0, locals := 0 } : Room) below args s A) (F0 m 169 ls []) := by
                  intro kf
                  induction kf with
                  | zero => intro x_21 i22 i23 i24 H locs ls hk; exact absurd hk (Nat.not_lt_zero _)
                  | succ kf ih169_26 =>
                    intro x_21 i22 i23 i24 H locs ls hk169_26 hP hD hS hl
                    refine lv_aload_n hx hb dX6_step_169 rfl (lv_at hl 0 rfl) ?_
                    refine va_get (D := g.1) (ci := 6) (v := .int x_21) (C := RX6) (T := TX6) (N := 7) hx hb hts izRX6 hown hK hP 0 rfl rfl 5 (by decide) (hts _ k259) (fun _ h9 => h9) rfl dX6_step_170 ?_
                    refine lv_aload_n hx hb dX6_step_173 rfl (lv_at hl 0 rfl) ?_
                    refine va_get (D := g.1) (ci := 6) (v := .int ln) (C := RX6) (T := TX6) (N := 7) hx hb hts izRX6 hown hK hP 0 rfl rfl 2 (by decide) (hts _ k272) (fun _ h9 => h9) rfl dX6_step_174 ?_
                    refine lv_icmp_ge (tgt := 226) hx hb dX6_step_177 (by decide) (fun cb9 => ?_) (fun cb9 => ?_)
                    · skip
                      have c27 : ln.toInt ≤ x_21.toInt := zle cb9 rfl rfl
                      have hP : va_P g.1 vwCl (List.flatten [bTape g ta ab sz ln 2 x_1 x_21 ft fb]) H := hP
                      have hD : va_D A (List.flatten [bTape g ta ab sz ln 2 x_1 x_21 ft fb]) := hD
                      exact mret_v hx hb hr hlocks hS (Nat.le_of_ble_eq_true rfl) (Nat.le_of_ble_eq_true rfl) dX6_step_226 ((2 : Int32), x_1, x_21) rfl (show (0 ≤ x_21.toInt ∧ x_21.toInt ≤ 400) ∧ (0 ≤ x_1.toInt ∧ x_1.toInt ≤ 400) ∧ (zKd (2 : Int32).toInt x_1.toInt x_21.toInt) ∧ (zSk fb ln.toInt nx.toInt x_1.toInt) ∧ (zTk fb ln.toInt (2 : Int32).toInt x_1.toInt x_21.toInt) from ⟨(by first | assumption | omega | exact Or.inl (by decide) | exact Or.inr (by omega)), (by first | assumption | omega | exact Or.inl (by decide) | exact Or.inr (by omega)), (by first | assumption | omega | exact Or.inl (by decide) | exact Or.inr (by omega)), (zSk_mk i3 (by omega) (zw_nE (by omega))), (zTk_d (by decide) (by omega) (zcL_f (by omega)) (zcD_t (by omega) (by omega)) (by omega) i24 (zw_nE (by omega)))⟩) hP hD
                    · skip
                      have c28 : x_21.toInt < ln.toInt := zlti (Int32.not_le.mp cb9) rfl rfl
                      have n29 : x_21.toInt ≤ 399 := zL1 (b := 400) c28 hln.2 (by decide)
                      have n30 : 2 ≤ ln.toInt := zL2 (a := 1) c28 i22.1 (by decide)
                      refine lv_aload_n hx hb dX6_step_180 rfl (lv_at hl 0 rfl) ?_
                      refine va_get (D := g.1) (ci := 6) (v := .ref ab) (C := RX6) (T := TX6) (N := 7) hx hb hts izRX6 hown hK hP 0 rfl rfl 0 (by decide) (hts _ k261) (fun _ h9 => h9) rfl dX6_step_181 ?_
                      refine lv_aload_n hx hb dX6_step_184 rfl (lv_at hl 0 rfl) ?_
                      refine va_get (D := g.1) (ci := 6) (v := .int x_21) (C := RX6) (T := TX6) (N := 7) hx hb hts izRX6 hown hK hP 0 rfl rfl 5 (by decide) (hts _ k259) (fun _ h9 => h9) rfl dX6_step_185 ?_
                      refine va_iald hx hb hK hP 1 0 rfl rfl (zinK (a := 1) (b := 399) i22.1 n29 (by decide)) dX6_step_188 ?_
                      refine lv_bipush (v := 48) hx hb dX6_step_189 (by decide) ?_
                      refine lv_icmp_lt (tgt := 226) hx hb dX6_step_191 (by decide) (fun cb9 => ?_) (fun cb9 => ?_)
                      · skip
                        have c31 : (fb x_21.toNatClampNeg).toInt < 48 := zlti cb9 rfl (by decide)
                        have n32 : (fb x_21.toNatClampNeg).toInt ≤ 47 := zL1 (b := 48) c31 (Int.le_refl _) (by decide)
                        have hP : va_P g.1 vwCl (List.flatten [bTape g ta ab sz ln 2 x_1 x_21 ft fb]) H := hP
                        have hD : va_D A (List.flatten [bTape g ta ab sz ln 2 x_1 x_21 ft fb]) := hD
                        exact mret_v hx hb hr hlocks hS (Nat.le_of_ble_eq_true rfl) (Nat.le_of_ble_eq_true rfl) dX6_step_226 ((2 : Int32), x_1, x_21) rfl (show (0 ≤ x_21.toInt ∧ x_21.toInt ≤ 400) ∧ (0 ≤ x_1.toInt ∧ x_1.toInt ≤ 400) ∧ (zKd (2 : Int32).toInt x_1.toInt x_21.toInt) ∧ (zSk fb ln.toInt nx.toInt x_1.toInt) ∧ (zTk fb ln.toInt (2 : Int32).toInt x_1.toInt x_21.toInt) from ⟨(by first | assumption | omega | exact Or.inl (by decide) | exact Or.inr (by omega)), (by first | assumption | omega | exact Or.inl (by decide) | exact Or.inr (by omega)), (by first | assumption | omega | exact Or.inl (by decide) | exact Or.inr (by omega)), (zSk_mk i3 (by omega) (zw_nE (by omega))), (zTk_d (by decide) (by omega) (zcL_f (by omega)) (zcD_t (by omega) (by omega)) (by omega) i24 (zw_nC (zcD_f (by omega))))⟩) hP hD
                      · skip
                        have c33 : 48 ≤ (fb x_21.toNatClampNeg).toInt := zle (Int32.not_lt.mp cb9) (by decide) rfl
                        have n34 : 48 ≤ (fb x_21.toNatClampNeg).toInt := Int.le_trans (Int.le_refl _) c33
                        refine lv_aload_n hx hb dX6_step_194 rfl (lv_at hl 0 rfl) ?_
                        refine va_get (D := g.1) (ci := 6) (v := .ref ab) (C := RX6) (T := TX6) (N := 7) hx hb hts izRX6 hown hK hP 0 rfl rfl 0 (by decide) (hts _ k261) (fun _ h9 => h9) rfl dX6_step_195 ?_
                        refine lv_aload_n hx hb dX6_step_198 rfl (lv_at hl 0 rfl) ?_
                        refine va_get (D := g.1) (ci := 6) (v := .int x_21) (C := RX6) (T := TX6) (N := 7) hx hb hts izRX6 hown hK hP 0 rfl rfl 5 (by decide) (hts _ k259) (fun _ h9 => h9) rfl dX6_step_199 ?_
                        refine va_iald hx hb hK hP 1 0 rfl rfl (zinK (a := 1) (b := 399) i22.1 n29 (by decide)) dX6_step_202 ?_
                        refine lv_bipush (v := 57) hx hb dX6_step_203 (by decide) ?_
                        refine lv_icmp_gt (tgt := 226) hx hb dX6_step_205 (by decide) (fun cb9 => ?_) (fun cb9 => ?_)
                        · skip
                          have c35 : 57 < (fb x_21.toNatClampNeg).toInt := zlti cb9 (by decide) rfl
                          have n36 : 58 ≤ (fb x_21.toNatClampNeg).toInt := zL2 (a := 57) c35 (Int.le_refl _) (by decide)
                          have hP : va_P g.1 vwCl (List.flatten [bTape g ta ab sz ln 2 x_1 x_21 ft fb]) H := hP
                          have hD : va_D A (List.flatten [bTape g ta ab sz ln 2 x_1 x_21 ft fb]) := hD
                          exact mret_v hx hb hr hlocks hS (Nat.le_of_ble_eq_true rfl) (Nat.le_of_ble_eq_true rfl) dX6_step_226 ((2 : Int32), x_1, x_21) rfl (show (0 ≤ x_21.toInt ∧ x_21.toInt ≤ 400) ∧ (0 ≤ x_1.toInt ∧ x_1.toInt ≤ 400) ∧ (zKd (2 : Int32).toInt x_1.toInt x_21.toInt) ∧ (zSk fb ln.toInt nx.toInt x_1.toInt) ∧ (zTk fb ln.toInt (2 : Int32).toInt x_1.toInt x_21.toInt) from ⟨(by first | assumption | omega | exact Or.inl (by decide) | exact Or.inr (by omega)), (by first | assumption | omega | exact Or.inl (by decide) | exact Or.inr (by omega)), (by first | assumption | omega | exact Or.inl (by decide) | exact Or.inr (by omega)), (zSk_mk i3 (by omega) (zw_nE (by omega))), (zTk_d (by decide) (by omega) (zcL_f (by omega)) (zcD_t (by omega) (by omega)) (by omega) i24 (zw_nC (zcD_f (by omega))))⟩) hP hD
                        · skip
                          have c37 : (fb x_21.toNatClampNeg).toInt ≤ 57 := zle (Int32.not_lt.mp cb9) rfl (by decide)
                          have n38 : (fb x_21.toNatClampNeg).toInt ≤ 57 := Int.le_trans c37 (Int.le_refl _)
                          refine lv_aload_n hx hb dX6_step_208 rfl (lv_at hl 0 rfl) ?_
                          refine lv_dup hx hb dX6_step_209 rfl ?_
                          refine va_get (D := g.1) (ci := 6) (v := .int x_21) (C := RX6) (T := TX6) (N := 7) hx hb hts izRX6 hown hK hP 0 rfl rfl 5 (by decide) (hts _ k259) (fun _ h9 => h9) rfl dX6_step_210 ?_
                          refine lv_iconst (v := 1) hx hb dX6_step_213 (by decide) ?_
                          refine lv_iadd hx hb dX6_step_214 ?_
                          refine zg3 (zaddK (i := x_21.toInt) (j := 1) (a' := 2) (b' := 400) rfl (by decide) i22.1 n29 (Int.le_refl _) (Int.le_refl _) (by decide)) (fun x_39 hx_39 => ?_)
                          refine va_put (D := g.1) (ci := 6) (v := .int x_39) (ty := .int) (C := RX6) (T := TX6) (N := 7) hx hb hts izRX6 tyX6 tyX6_ok nmX6 hown hK hP hD hS 0 rfl rfl 5 (by decide) (hts _ k259) (fun _ h9 => h9) rfl (by decide +kernel) rfl rfl (Nat.le_of_ble_eq_true rfl) dX6_step_215 (fun H locs hP hD hS => ?_)
                          have hP : va_P g.1 vwCl (List.flatten [bTape g ta ab sz ln 2 x_1 x_39 ft fb]) H := hP
                          have hD : va_D A (List.flatten [bTape g ta ab sz ln 2 x_1 x_39 ft fb]) := hD
                          refine lv_goto (tgt := 169) hx hb dX6_step_218 (by decide) ?_
                          have hP : va_P g.1 vwCl (List.flatten [bTape g ta ab sz ln 2 x_1 x_39 ft fb]) H := hP
                          have hD : va_D A (List.flatten [bTape g ta ab sz ln 2 x_1 x_39 ft fb]) := hD
                          exact ih169_26 x_39 ⟨(Int.le_trans (by decide) hx_39.2.1), hx_39.2.2⟩ (by first | omega | assumption | decide) (i24.trans (zw_sI (by omega) (by omega) (zcD_t (by omega) (by omega)) (by omega))) H _ ls (by omega)  hP hD hS (lv_sub hl [0, 1] rfl)
                have hP : va_P g.1 vwCl (List.flatten [bTape g ta ab sz ln 2 x_1 x_10 ft fb]) H := hP
                have hD : va_D A (List.flatten [bTape g ta ab sz ln 2 x_1 x_10 ft fb]) := hD
                exact LP169_25 _ x_10 ⟨hx_10.2.1, hx_10.2.2⟩ (by first | omega | assumption | decide) (congrArg (zw zcD fb ln.toInt.toNat) (by omega)) H _ ls (Nat.lt_succ_self _)  hP hD hS (lv_sub hl [0, 1] rfl)
          · skip
            have c40 : 97 ≤ (fb x_1.toNatClampNeg).toInt := zle (Int32.not_lt.mp cb9) (by decide) rfl
            have n41 : 97 ≤ (fb x_1.toNatClampNeg).toInt := Int.le_trans (Int.le_refl _) c40
            refine lv_iload_n hx hb dX6_step_89 rfl (lv_at hl 0 rfl) ?_
            refine lv_bipush (v := 122) hx hb dX6_step_90 (by decide) ?_
            refine lv_icmp_gt (tgt := 152) hx hb dX6_step_92 (by decide) (fun cb9 => ?_) (fun cb9 => ?_)
            · skip
              have c42 : 122 < (fb x_1.toNatClampNeg).toInt := zlti cb9 (by decide) rfl
              have n43 : 123 ≤ (fb x_1.toNatClampNeg).toInt := zL2 (a := 122) c42 (Int.le_refl _) (by decide)
              refine lv_iload_n hx hb dX6_step_152 rfl (lv_at hl 0 rfl) ?_
              refine lv_bipush (v := 48) hx hb dX6_step_153 (by decide) ?_
              refine lv_icmp_lt (tgt := 221) hx hb dX6_step_155 (by decide) (fun cb9 => ?_) (fun cb9 => ?_)
              · skip
                exact absurd (show (fb x_1.toNatClampNeg).toInt < 48 from zlti cb9 rfl (by decide)) (zDlt (a := 123) (b := 48) n43 (Int.le_refl _) (by decide))
              · skip
                have c45 : 48 ≤ (fb x_1.toNatClampNeg).toInt := zle (Int32.not_lt.mp cb9) (by decide) rfl
                refine lv_iload_n hx hb dX6_step_158 rfl (lv_at hl 0 rfl) ?_
                refine lv_bipush (v := 57) hx hb dX6_step_159 (by decide) ?_
                refine lv_icmp_gt (tgt := 221) hx hb dX6_step_161 (by decide) (fun cb9 => ?_) (fun cb9 => ?_)
                · skip
                  have c46 : 57 < (fb x_1.toNatClampNeg).toInt := zlti cb9 (by decide) rfl
                  refine lv_aload_n hx hb dX6_step_221 rfl (lv_at hl 1 rfl) ?_
                  refine lv_iconst (v := 3) hx hb dX6_step_222 (by decide) ?_
                  refine va_put (D := g.1) (ci := 6) (v := .int 3) (ty := .int) (C := RX6) (T := TX6) (N := 7) hx hb hts izRX6 tyX6 tyX6_ok nmX6 hown hK hP hD hS 0 rfl rfl 3 (by decide) (hts _ k258) (fun _ h9 => h9) rfl (by decide +kernel) rfl rfl (Nat.le_of_ble_eq_true rfl) dX6_step_223 (fun H locs hP hD hS => ?_)
                  have hP : va_P g.1 vwCl (List.flatten [bTape g ta ab sz ln 3 x_1 x_10 ft fb]) H := hP
                  have hD : va_D A (List.flatten [bTape g ta ab sz ln 3 x_1 x_10 ft fb]) := hD
                  have hP : va_P g.1 vwCl (List.flatten [bTape g ta ab sz ln 3 x_1 x_10 ft fb]) H := hP
                  have hD : va_D A (List.flatten [bTape g ta ab sz ln 3 x_1 x_10 ft fb]) := hD
                  exact mret_v hx hb hr hlocks hS (Nat.le_of_ble_eq_true rfl) (Nat.le_of_ble_eq_true rfl) dX6_step_226 ((3 : Int32), x_1, x_10) rfl (show (0 ≤ x_10.toInt ∧ x_10.toInt ≤ 400) ∧ (0 ≤ x_1.toInt ∧ x_1.toInt ≤ 400) ∧ (zKd (3 : Int32).toInt x_1.toInt x_10.toInt) ∧ (zSk fb ln.toInt nx.toInt x_1.toInt) ∧ (zTk fb ln.toInt (3 : Int32).toInt x_1.toInt x_10.toInt) from ⟨(by first | assumption | omega | exact Or.inl (by decide) | exact Or.inr (by omega)), (by first | assumption | omega | exact Or.inl (by decide) | exact Or.inr (by omega)), (by first | assumption | omega | exact Or.inl (by decide) | exact Or.inr (by omega)), (zSk_mk i3 (by omega) (zw_nE (by omega))), (zTk_s (by decide) (by omega) (zcL_f (by omega)) (zcD_f (by omega)) (by omega))⟩) hP hD
                · skip
                  exact absurd (show (fb x_1.toNatClampNeg).toInt ≤ 57 from zle (Int32.not_lt.mp cb9) rfl (by decide)) (zDle (a := 123) (b := 57) n43 (Int.le_refl _) (by decide))
            · skip
              have c48 : (fb x_1.toNatClampNeg).toInt ≤ 122 := zle (Int32.not_lt.mp cb9) rfl (by decide)
              have n49 : (fb x_1.toNatClampNeg).toInt ≤ 122 := Int.le_trans c48 (Int.le_refl _)
              refine lv_aload_n hx hb dX6_step_95 rfl (lv_at hl 1 rfl) ?_
              refine lv_iconst (v := 1) hx hb dX6_step_96 (by decide) ?_
              refine va_put (D := g.1) (ci := 6) (v := .int 1) (ty := .int) (C := RX6) (T := TX6) (N := 7) hx hb hts izRX6 tyX6 tyX6_ok nmX6 hown hK hP hD hS 0 rfl rfl 3 (by decide) (hts _ k258) (fun _ h9 => h9) rfl (by decide +kernel) rfl rfl (Nat.le_of_ble_eq_true rfl) dX6_step_97 (fun H locs hP hD hS => ?_)
              have hP : va_P g.1 vwCl (List.flatten [bTape g ta ab sz ln 1 x_1 x_10 ft fb]) H := hP
              have hD : va_D A (List.flatten [bTape g ta ab sz ln 1 x_1 x_10 ft fb]) := hD
              have hl := lv_sub (l' := [(0, .ref ta), (1, .int (fb x_1.toNatClampNeg))]) hl [1, 0] rfl
              have LP100_54 : ∀ (kf : Nat) (x_50 : Int32), (1 ≤ x_50.toInt ∧ x_50.toInt ≤ 400) → (x_1.toInt < x_50.toInt) → (zw zcL fb ln.toInt.toNat ((x_1.toInt).toNat + 1) = zw zcL fb ln.toInt.toNat (x_50.toInt).toNat) → ∀ (H : Heap) (locs : List Loc) (ls : Array Slot), ((ln.toInt - x_50.toInt).toNat) < kf → va_P g.1 vwCl (List.flatten [bTape g ta ab sz ln 1 x_1 x_50 ft fb]) H → va_D A (List.flatten [bTape g ta ab sz ln 1 x_1 x_50 ft fb]) → va_S A s.heap H locs → lv_has ls 2 [(0, .ref ta), (1, .int (fb x_1.toNatClampNeg))] → W p l e ({ frames := 0, cells := 0, slots := 0, locals := 0 } : Room) s m args below meth c H locs (0) (0) (zF g (fun u : Int32 × Int32 × Int32 => (fun (kd2 : Int32) (bg2 : Int32) (nx2 : Int32) => none) (u.1) (u.2.1) (u.2.2)) (fun u : Int32 × Int32 × Int32 => (fun (kd2 : Int32) (bg2 : Int32) (nx2 : Int32) => (0 ≤ nx2.toInt ∧ nx2.toInt ≤ 400) ∧ (0 ≤ bg2.toInt ∧ bg2.toInt ≤ 400) ∧ (zKd kd2.toInt bg2.toInt nx2.toInt) ∧ (zSk fb ln.toInt nx.toInt bg2.toInt) ∧ (zTk fb ln.toInt kd2.toInt bg2.toInt nx2.toInt)) (u.1) (u.2.1) (u.2.2)) (fun u : Int32 × Int32 × Int32 => (fun (kd2 : Int32) (bg2 : Int32) (nx2 : Int32) => [bTape g ta ab sz ln kd2 bg2 nx2 ft fb]) (u.1) (u.2.1) (u.2.2)) ({ frames := 0, cells := 0, slots := 0, locals := 0 } : Room) below args s A) (F0 m 100 ls []) := by
                intro kf
                induction kf with
                | zero => intro x_50 i51 i52 i53 H locs ls hk; exact absurd hk (Nat.not_lt_zero _)
                | succ kf ih100_55 =>
                  intro x_50 i51 i52 i53 H locs ls hk100_55 hP hD hS hl
                  refine lv_aload_n hx hb dX6_step_100 rfl (lv_at hl 0 rfl) ?_
                  refine va_get (D := g.1) (ci := 6) (v := .int x_50) (C := RX6) (T := TX6) (N := 7) hx hb hts izRX6 hown hK hP 0 rfl rfl 5 (by decide) (hts _ k259) (fun _ h9 => h9) rfl dX6_step_101 ?_
                  refine lv_aload_n hx hb dX6_step_104 rfl (lv_at hl 0 rfl) ?_
                  refine va_get (D := g.1) (ci := 6) (v := .int ln) (C := RX6) (T := TX6) (N := 7) hx hb hts izRX6 hown hK hP 0 rfl rfl 2 (by decide) (hts _ k272) (fun _ h9 => h9) rfl dX6_step_105 ?_
                  refine lv_icmp_ge (tgt := 226) hx hb dX6_step_108 (by decide) (fun cb9 => ?_) (fun cb9 => ?_)
                  · skip
                    have c56 : ln.toInt ≤ x_50.toInt := zle cb9 rfl rfl
                    have hP : va_P g.1 vwCl (List.flatten [bTape g ta ab sz ln 1 x_1 x_50 ft fb]) H := hP
                    have hD : va_D A (List.flatten [bTape g ta ab sz ln 1 x_1 x_50 ft fb]) := hD
                    exact mret_v hx hb hr hlocks hS (Nat.le_of_ble_eq_true rfl) (Nat.le_of_ble_eq_true rfl) dX6_step_226 ((1 : Int32), x_1, x_50) rfl (show (0 ≤ x_50.toInt ∧ x_50.toInt ≤ 400) ∧ (0 ≤ x_1.toInt ∧ x_1.toInt ≤ 400) ∧ (zKd (1 : Int32).toInt x_1.toInt x_50.toInt) ∧ (zSk fb ln.toInt nx.toInt x_1.toInt) ∧ (zTk fb ln.toInt (1 : Int32).toInt x_1.toInt x_50.toInt) from ⟨(by first | assumption | omega | exact Or.inl (by decide) | exact Or.inr (by omega)), (by first | assumption | omega | exact Or.inl (by decide) | exact Or.inr (by omega)), (by first | assumption | omega | exact Or.inl (by decide) | exact Or.inr (by omega)), (zSk_mk i3 (by omega) (zw_nE (by omega))), (zTk_w (by decide) (by omega) (zcL_t (by omega) (by omega)) (by omega) i53 (zw_nE (by omega)))⟩) hP hD
                  · skip
                    have c57 : x_50.toInt < ln.toInt := zlti (Int32.not_le.mp cb9) rfl rfl
                    have n58 : x_50.toInt ≤ 399 := zL1 (b := 400) c57 hln.2 (by decide)
                    have n59 : 2 ≤ ln.toInt := zL2 (a := 1) c57 i51.1 (by decide)
                    refine lv_aload_n hx hb dX6_step_111 rfl (lv_at hl 0 rfl) ?_
                    refine va_get (D := g.1) (ci := 6) (v := .ref ab) (C := RX6) (T := TX6) (N := 7) hx hb hts izRX6 hown hK hP 0 rfl rfl 0 (by decide) (hts _ k261) (fun _ h9 => h9) rfl dX6_step_112 ?_
                    refine lv_aload_n hx hb dX6_step_115 rfl (lv_at hl 0 rfl) ?_
                    refine va_get (D := g.1) (ci := 6) (v := .int x_50) (C := RX6) (T := TX6) (N := 7) hx hb hts izRX6 hown hK hP 0 rfl rfl 5 (by decide) (hts _ k259) (fun _ h9 => h9) rfl dX6_step_116 ?_
                    refine va_iald hx hb hK hP 1 0 rfl rfl (zinK (a := 1) (b := 399) i51.1 n58 (by decide)) dX6_step_119 ?_
                    refine lv_bipush (v := 97) hx hb dX6_step_120 (by decide) ?_
                    refine lv_icmp_lt (tgt := 226) hx hb dX6_step_122 (by decide) (fun cb9 => ?_) (fun cb9 => ?_)
                    · skip
                      have c60 : (fb x_50.toNatClampNeg).toInt < 97 := zlti cb9 rfl (by decide)
                      have n61 : (fb x_50.toNatClampNeg).toInt ≤ 96 := zL1 (b := 97) c60 (Int.le_refl _) (by decide)
                      have hP : va_P g.1 vwCl (List.flatten [bTape g ta ab sz ln 1 x_1 x_50 ft fb]) H := hP
                      have hD : va_D A (List.flatten [bTape g ta ab sz ln 1 x_1 x_50 ft fb]) := hD
                      exact mret_v hx hb hr hlocks hS (Nat.le_of_ble_eq_true rfl) (Nat.le_of_ble_eq_true rfl) dX6_step_226 ((1 : Int32), x_1, x_50) rfl (show (0 ≤ x_50.toInt ∧ x_50.toInt ≤ 400) ∧ (0 ≤ x_1.toInt ∧ x_1.toInt ≤ 400) ∧ (zKd (1 : Int32).toInt x_1.toInt x_50.toInt) ∧ (zSk fb ln.toInt nx.toInt x_1.toInt) ∧ (zTk fb ln.toInt (1 : Int32).toInt x_1.toInt x_50.toInt) from ⟨(by first | assumption | omega | exact Or.inl (by decide) | exact Or.inr (by omega)), (by first | assumption | omega | exact Or.inl (by decide) | exact Or.inr (by omega)), (by first | assumption | omega | exact Or.inl (by decide) | exact Or.inr (by omega)), (zSk_mk i3 (by omega) (zw_nE (by omega))), (zTk_w (by decide) (by omega) (zcL_t (by omega) (by omega)) (by omega) i53 (zw_nC (zcL_f (by omega))))⟩) hP hD
                    · skip
                      have c62 : 97 ≤ (fb x_50.toNatClampNeg).toInt := zle (Int32.not_lt.mp cb9) (by decide) rfl
                      have n63 : 97 ≤ (fb x_50.toNatClampNeg).toInt := Int.le_trans (Int.le_refl _) c62
                      refine lv_aload_n hx hb dX6_step_125 rfl (lv_at hl 0 rfl) ?_
                      refine va_get (D := g.1) (ci := 6) (v := .ref ab) (C := RX6) (T := TX6) (N := 7) hx hb hts izRX6 hown hK hP 0 rfl rfl 0 (by decide) (hts _ k261) (fun _ h9 => h9) rfl dX6_step_126 ?_
                      refine lv_aload_n hx hb dX6_step_129 rfl (lv_at hl 0 rfl) ?_
                      refine va_get (D := g.1) (ci := 6) (v := .int x_50) (C := RX6) (T := TX6) (N := 7) hx hb hts izRX6 hown hK hP 0 rfl rfl 5 (by decide) (hts _ k259) (fun _ h9 => h9) rfl dX6_step_130 ?_
                      refine va_iald hx hb hK hP 1 0 rfl rfl (zinK (a := 1) (b := 399) i51.1 n58 (by decide)) dX6_step_133 ?_
                      refine lv_bipush (v := 122) hx hb dX6_step_134 (by decide) ?_
                      refine lv_icmp_gt (tgt := 226) hx hb dX6_step_136 (by decide) (fun cb9 => ?_) (fun cb9 => ?_)
                      · skip
                        have c64 : 122 < (fb x_50.toNatClampNeg).toInt := zlti cb9 (by decide) rfl
                        have n65 : 123 ≤ (fb x_50.toNatClampNeg).toInt := zL2 (a := 122) c64 (Int.le_refl _) (by decide)
                        have hP : va_P g.1 vwCl (List.flatten [bTape g ta ab sz ln 1 x_1 x_50 ft fb]) H := hP
                        have hD : va_D A (List.flatten [bTape g ta ab sz ln 1 x_1 x_50 ft fb]) := hD
                        exact mret_v hx hb hr hlocks hS (Nat.le_of_ble_eq_true rfl) (Nat.le_of_ble_eq_true rfl) dX6_step_226 ((1 : Int32), x_1, x_50) rfl (show (0 ≤ x_50.toInt ∧ x_50.toInt ≤ 400) ∧ (0 ≤ x_1.toInt ∧ x_1.toInt ≤ 400) ∧ (zKd (1 : Int32).toInt x_1.toInt x_50.toInt) ∧ (zSk fb ln.toInt nx.toInt x_1.toInt) ∧ (zTk fb ln.toInt (1 : Int32).toInt x_1.toInt x_50.toInt) from ⟨(by first | assumption | omega | exact Or.inl (by decide) | exact Or.inr (by omega)), (by first | assumption | omega | exact Or.inl (by decide) | exact Or.inr (by omega)), (by first | assumption | omega | exact Or.inl (by decide) | exact Or.inr (by omega)), (zSk_mk i3 (by omega) (zw_nE (by omega))), (zTk_w (by decide) (by omega) (zcL_t (by omega) (by omega)) (by omega) i53 (zw_nC (zcL_f (by omega))))⟩) hP hD
                      · skip
                        have c66 : (fb x_50.toNatClampNeg).toInt ≤ 122 := zle (Int32.not_lt.mp cb9) rfl (by decide)
                        have n67 : (fb x_50.toNatClampNeg).toInt ≤ 122 := Int.le_trans c66 (Int.le_refl _)
                        refine lv_aload_n hx hb dX6_step_139 rfl (lv_at hl 0 rfl) ?_
                        refine lv_dup hx hb dX6_step_140 rfl ?_
                        refine va_get (D := g.1) (ci := 6) (v := .int x_50) (C := RX6) (T := TX6) (N := 7) hx hb hts izRX6 hown hK hP 0 rfl rfl 5 (by decide) (hts _ k259) (fun _ h9 => h9) rfl dX6_step_141 ?_
                        refine lv_iconst (v := 1) hx hb dX6_step_144 (by decide) ?_
                        refine lv_iadd hx hb dX6_step_145 ?_
                        refine zg3 (zaddK (i := x_50.toInt) (j := 1) (a' := 2) (b' := 400) rfl (by decide) i51.1 n58 (Int.le_refl _) (Int.le_refl _) (by decide)) (fun x_68 hx_68 => ?_)
                        refine va_put (D := g.1) (ci := 6) (v := .int x_68) (ty := .int) (C := RX6) (T := TX6) (N := 7) hx hb hts izRX6 tyX6 tyX6_ok nmX6 hown hK hP hD hS 0 rfl rfl 5 (by decide) (hts _ k259) (fun _ h9 => h9) rfl (by decide +kernel) rfl rfl (Nat.le_of_ble_eq_true rfl) dX6_step_146 (fun H locs hP hD hS => ?_)
                        have hP : va_P g.1 vwCl (List.flatten [bTape g ta ab sz ln 1 x_1 x_68 ft fb]) H := hP
                        have hD : va_D A (List.flatten [bTape g ta ab sz ln 1 x_1 x_68 ft fb]) := hD
                        refine lv_goto (tgt := 100) hx hb dX6_step_149 (by decide) ?_
                        have hP : va_P g.1 vwCl (List.flatten [bTape g ta ab sz ln 1 x_1 x_68 ft fb]) H := hP
                        have hD : va_D A (List.flatten [bTape g ta ab sz ln 1 x_1 x_68 ft fb]) := hD
                        exact ih100_55 x_68 ⟨(Int.le_trans (by decide) hx_68.2.1), hx_68.2.2⟩ (by first | omega | assumption | decide) (i53.trans (zw_sI (by omega) (by omega) (zcL_t (by omega) (by omega)) (by omega))) H _ ls (by omega)  hP hD hS (lv_sub hl [0, 1] rfl)
              have hP : va_P g.1 vwCl (List.flatten [bTape g ta ab sz ln 1 x_1 x_10 ft fb]) H := hP
              have hD : va_D A (List.flatten [bTape g ta ab sz ln 1 x_1 x_10 ft fb]) := hD
              exact LP100_54 _ x_10 ⟨hx_10.2.1, hx_10.2.2⟩ (by first | omega | assumption | decide) (congrArg (zw zcL fb ln.toInt.toNat) (by omega)) H _ ls (Nat.lt_succ_self _)  hP hD hS (lv_sub hl [0, 1] rfl)
        · skip
          have c69 : ln.toInt ≤ x_1.toInt := zle (Int32.not_lt.mp cb9) rfl rfl
          refine lv_aload_n hx hb dX6_step_57 rfl (lv_at hl 0 rfl) ?_
          refine lv_iconst (v := 0) hx hb dX6_step_58 (by decide) ?_
          refine va_put (D := g.1) (ci := 6) (v := .int 0) (ty := .int) (C := RX6) (T := TX6) (N := 7) hx hb hts izRX6 tyX6 tyX6_ok nmX6 hown hK hP hD hS 0 rfl rfl 3 (by decide) (hts _ k258) (fun _ h9 => h9) rfl (by decide +kernel) rfl rfl (Nat.le_of_ble_eq_true rfl) dX6_step_59 (fun H locs hP hD hS => ?_)
          have hP : va_P g.1 vwCl (List.flatten [bTape g ta ab sz ln 0 x_1 x_1 ft fb]) H := hP
          have hD : va_D A (List.flatten [bTape g ta ab sz ln 0 x_1 x_1 ft fb]) := hD
          have hP : va_P g.1 vwCl (List.flatten [bTape g ta ab sz ln 0 x_1 x_1 ft fb]) H := hP
          have hD : va_D A (List.flatten [bTape g ta ab sz ln 0 x_1 x_1 ft fb]) := hD
          exact mret_v hx hb hr hlocks hS (Nat.le_of_ble_eq_true rfl) (Nat.le_of_ble_eq_true rfl) dX6_step_62 ((0 : Int32), x_1, x_1) rfl (show (0 ≤ x_1.toInt ∧ x_1.toInt ≤ 400) ∧ (0 ≤ x_1.toInt ∧ x_1.toInt ≤ 400) ∧ (zKd (0 : Int32).toInt x_1.toInt x_1.toInt) ∧ (zSk fb ln.toInt nx.toInt x_1.toInt) ∧ (zTk fb ln.toInt (0 : Int32).toInt x_1.toInt x_1.toInt) from ⟨(by first | assumption | omega | exact Or.inl (by decide) | exact Or.inr (by omega)), (by first | assumption | omega | exact Or.inl (by decide) | exact Or.inr (by omega)), (by first | assumption | omega | exact Or.inl (by decide) | exact Or.inr (by omega)), (zSk_mk i3 (by omega) (zw_nE (by omega))), (zTk_e (by decide) (by omega))⟩) hP hD
      · skip
        have c70 : x_1.toInt < ln.toInt := zlti (Int32.not_le.mp cb9) rfl rfl
        have n71 : x_1.toInt ≤ 399 := zL1 (b := 400) c70 hln.2 (by decide)
        have n72 : 1 ≤ ln.toInt := zL2 (a := 0) c70 i2.1 (by decide)
        refine lv_aload_n hx hb dX6_step_11 rfl (lv_at hl 0 rfl) ?_
        refine va_get (D := g.1) (ci := 6) (v := .ref ab) (C := RX6) (T := TX6) (N := 7) hx hb hts izRX6 hown hK hP 0 rfl rfl 0 (by decide) (hts _ k261) (fun _ h9 => h9) rfl dX6_step_12 ?_
        refine lv_aload_n hx hb dX6_step_15 rfl (lv_at hl 0 rfl) ?_
        refine va_get (D := g.1) (ci := 6) (v := .int x_1) (C := RX6) (T := TX6) (N := 7) hx hb hts izRX6 hown hK hP 0 rfl rfl 5 (by decide) (hts _ k259) (fun _ h9 => h9) rfl dX6_step_16 ?_
        refine va_iald hx hb hK hP 1 0 rfl rfl (zinK (a := 0) (b := 399) i2.1 n71 (by decide)) dX6_step_19 ?_
        refine lv_bipush (v := 32) hx hb dX6_step_20 (by decide) ?_
        refine lv_icmp_ne (tgt := 38) hx hb dX6_step_22 (by decide) (fun cb9 => ?_) (fun cb9 => ?_)
        · skip
          have c73 : ¬ (fb x_1.toNatClampNeg).toInt = 32 := zne cb9 rfl (by decide)
          refine lv_aload_n hx hb dX6_step_38 rfl (lv_at hl 0 rfl) ?_
          refine lv_aload_n hx hb dX6_step_39 rfl (lv_at hl 0 rfl) ?_
          refine va_get (D := g.1) (ci := 6) (v := .int x_1) (C := RX6) (T := TX6) (N := 7) hx hb hts izRX6 hown hK hP 0 rfl rfl 5 (by decide) (hts _ k259) (fun _ h9 => h9) rfl dX6_step_40 ?_
          refine va_put (D := g.1) (ci := 6) (v := .int x_1) (ty := .int) (C := RX6) (T := TX6) (N := 7) hx hb hts izRX6 tyX6 tyX6_ok nmX6 hown hK hP hD hS 0 rfl rfl 4 (by decide) (hts _ k260) (fun _ h9 => h9) rfl (by decide +kernel) rfl rfl (Nat.le_of_ble_eq_true rfl) dX6_step_43 (fun H locs hP hD hS => ?_)
          have hP : va_P g.1 vwCl (List.flatten [bTape g ta ab sz ln kd x_1 x_1 ft fb]) H := hP
          have hD : va_D A (List.flatten [bTape g ta ab sz ln kd x_1 x_1 ft fb]) := hD
          refine lv_aload_n hx hb dX6_step_46 rfl (lv_at hl 0 rfl) ?_
          refine va_get (D := g.1) (ci := 6) (v := .int x_1) (C := RX6) (T := TX6) (N := 7) hx hb hts izRX6 hown hK hP 0 rfl rfl 5 (by decide) (hts _ k259) (fun _ h9 => h9) rfl dX6_step_47 ?_
          refine lv_aload_n hx hb dX6_step_50 rfl (lv_at hl 0 rfl) ?_
          refine va_get (D := g.1) (ci := 6) (v := .int ln) (C := RX6) (T := TX6) (N := 7) hx hb hts izRX6 hown hK hP 0 rfl rfl 2 (by decide) (hts _ k272) (fun _ h9 => h9) rfl dX6_step_51 ?_
          refine lv_icmp_lt (tgt := 63) hx hb dX6_step_54 (by decide) (fun cb9 => ?_) (fun cb9 => ?_)
          · skip
            have c74 : x_1.toInt < ln.toInt := zlti cb9 rfl rfl
            refine lv_aload_n hx hb dX6_step_63 rfl (lv_at hl 0 rfl) ?_
            refine va_get (D := g.1) (ci := 6) (v := .ref ab) (C := RX6) (T := TX6) (N := 7) hx hb hts izRX6 hown hK hP 0 rfl rfl 0 (by decide) (hts _ k261) (fun _ h9 => h9) rfl dX6_step_64 ?_
            refine lv_aload_n hx hb dX6_step_67 rfl (lv_at hl 0 rfl) ?_
            refine va_get (D := g.1) (ci := 6) (v := .int x_1) (C := RX6) (T := TX6) (N := 7) hx hb hts izRX6 hown hK hP 0 rfl rfl 5 (by decide) (hts _ k259) (fun _ h9 => h9) rfl dX6_step_68 ?_
            refine va_iald hx hb hK hP 1 0 rfl rfl (zinK (a := 0) (b := 399) i2.1 n71 (by decide)) dX6_step_71 ?_
            refine lv_istore_n (lv' := [(1, .int (fb x_1.toNatClampNeg)), (0, .ref ta)]) hx hb dX6_step_72 rfl hl (by decide) rfl (fun ls hl => ?_)
            refine lv_aload_n hx hb dX6_step_73 rfl (lv_at hl 1 rfl) ?_
            refine lv_dup hx hb dX6_step_74 rfl ?_
            refine va_get (D := g.1) (ci := 6) (v := .int x_1) (C := RX6) (T := TX6) (N := 7) hx hb hts izRX6 hown hK hP 0 rfl rfl 5 (by decide) (hts _ k259) (fun _ h9 => h9) rfl dX6_step_75 ?_
            refine lv_iconst (v := 1) hx hb dX6_step_78 (by decide) ?_
            refine lv_iadd hx hb dX6_step_79 ?_
            refine zg3 (zaddK (i := x_1.toInt) (j := 1) (a' := 1) (b' := 400) rfl (by decide) i2.1 n71 (Int.le_refl _) (Int.le_refl _) (by decide)) (fun x_75 hx_75 => ?_)
            refine va_put (D := g.1) (ci := 6) (v := .int x_75) (ty := .int) (C := RX6) (T := TX6) (N := 7) hx hb hts izRX6 tyX6 tyX6_ok nmX6 hown hK hP hD hS 0 rfl rfl 5 (by decide) (hts _ k259) (fun _ h9 => h9) rfl (by decide +kernel) rfl rfl (Nat.le_of_ble_eq_true rfl) dX6_step_80 (fun H locs hP hD hS => ?_)
            have hP : va_P g.1 vwCl (List.flatten [bTape g ta ab sz ln kd x_1 x_75 ft fb]) H := hP
            have hD : va_D A (List.flatten [bTape g ta ab sz ln kd x_1 x_75 ft fb]) := hD
            refine lv_iload_n hx hb dX6_step_83 rfl (lv_at hl 0 rfl) ?_
            refine lv_bipush (v := 97) hx hb dX6_step_84 (by decide) ?_
            refine lv_icmp_lt (tgt := 152) hx hb dX6_step_86 (by decide) (fun cb9 => ?_) (fun cb9 => ?_)
            · skip
              have c76 : (fb x_1.toNatClampNeg).toInt < 97 := zlti cb9 rfl (by decide)
              have n77 : (fb x_1.toNatClampNeg).toInt ≤ 96 := zL1 (b := 97) c76 (Int.le_refl _) (by decide)
              refine lv_iload_n hx hb dX6_step_152 rfl (lv_at hl 0 rfl) ?_
              refine lv_bipush (v := 48) hx hb dX6_step_153 (by decide) ?_
              refine lv_icmp_lt (tgt := 221) hx hb dX6_step_155 (by decide) (fun cb9 => ?_) (fun cb9 => ?_)
              · skip
                have c78 : (fb x_1.toNatClampNeg).toInt < 48 := zlti cb9 rfl (by decide)
                have n79 : (fb x_1.toNatClampNeg).toInt ≤ 47 := zL1 (b := 48) c78 (Int.le_refl _) (by decide)
                refine lv_aload_n hx hb dX6_step_221 rfl (lv_at hl 1 rfl) ?_
                refine lv_iconst (v := 3) hx hb dX6_step_222 (by decide) ?_
                refine va_put (D := g.1) (ci := 6) (v := .int 3) (ty := .int) (C := RX6) (T := TX6) (N := 7) hx hb hts izRX6 tyX6 tyX6_ok nmX6 hown hK hP hD hS 0 rfl rfl 3 (by decide) (hts _ k258) (fun _ h9 => h9) rfl (by decide +kernel) rfl rfl (Nat.le_of_ble_eq_true rfl) dX6_step_223 (fun H locs hP hD hS => ?_)
                have hP : va_P g.1 vwCl (List.flatten [bTape g ta ab sz ln 3 x_1 x_75 ft fb]) H := hP
                have hD : va_D A (List.flatten [bTape g ta ab sz ln 3 x_1 x_75 ft fb]) := hD
                have hP : va_P g.1 vwCl (List.flatten [bTape g ta ab sz ln 3 x_1 x_75 ft fb]) H := hP
                have hD : va_D A (List.flatten [bTape g ta ab sz ln 3 x_1 x_75 ft fb]) := hD
                exact mret_v hx hb hr hlocks hS (Nat.le_of_ble_eq_true rfl) (Nat.le_of_ble_eq_true rfl) dX6_step_226 ((3 : Int32), x_1, x_75) rfl (show (0 ≤ x_75.toInt ∧ x_75.toInt ≤ 400) ∧ (0 ≤ x_1.toInt ∧ x_1.toInt ≤ 400) ∧ (zKd (3 : Int32).toInt x_1.toInt x_75.toInt) ∧ (zSk fb ln.toInt nx.toInt x_1.toInt) ∧ (zTk fb ln.toInt (3 : Int32).toInt x_1.toInt x_75.toInt) from ⟨(by first | assumption | omega | exact Or.inl (by decide) | exact Or.inr (by omega)), (by first | assumption | omega | exact Or.inl (by decide) | exact Or.inr (by omega)), (by first | assumption | omega | exact Or.inl (by decide) | exact Or.inr (by omega)), (zSk_mk i3 (by omega) (zw_nC (zcS_f c73))), (zTk_s (by decide) (by omega) (zcL_f (by omega)) (zcD_f (by omega)) (by omega))⟩) hP hD
              · skip
                have c80 : 48 ≤ (fb x_1.toNatClampNeg).toInt := zle (Int32.not_lt.mp cb9) (by decide) rfl
                have n81 : 48 ≤ (fb x_1.toNatClampNeg).toInt := Int.le_trans (Int.le_refl _) c80
                refine lv_iload_n hx hb dX6_step_158 rfl (lv_at hl 0 rfl) ?_
                refine lv_bipush (v := 57) hx hb dX6_step_159 (by decide) ?_
                refine lv_icmp_gt (tgt := 221) hx hb dX6_step_161 (by decide) (fun cb9 => ?_) (fun cb9 => ?_)
                · skip
                  have c82 : 57 < (fb x_1.toNatClampNeg).toInt := zlti cb9 (by decide) rfl
                  have n83 : 58 ≤ (fb x_1.toNatClampNeg).toInt := zL2 (a := 57) c82 (Int.le_refl _) (by decide)
                  refine lv_aload_n hx hb dX6_step_221 rfl (lv_at hl 1 rfl) ?_
                  refine lv_iconst (v := 3) hx hb dX6_step_222 (by decide) ?_
                  refine va_put (D := g.1) (ci := 6) (v := .int 3) (ty := .int) (C := RX6) (T := TX6) (N := 7) hx hb hts izRX6 tyX6 tyX6_ok nmX6 hown hK hP hD hS 0 rfl rfl 3 (by decide) (hts _ k258) (fun _ h9 => h9) rfl (by decide +kernel) rfl rfl (Nat.le_of_ble_eq_true rfl) dX6_step_223 (fun H locs hP hD hS => ?_)
                  have hP : va_P g.1 vwCl (List.flatten [bTape g ta ab sz ln 3 x_1 x_75 ft fb]) H := hP
                  have hD : va_D A (List.flatten [bTape g ta ab sz ln 3 x_1 x_75 ft fb]) := hD
                  have hP : va_P g.1 vwCl (List.flatten [bTape g ta ab sz ln 3 x_1 x_75 ft fb]) H := hP
                  have hD : va_D A (List.flatten [bTape g ta ab sz ln 3 x_1 x_75 ft fb]) := hD
                  exact mret_v hx hb hr hlocks hS (Nat.le_of_ble_eq_true rfl) (Nat.le_of_ble_eq_true rfl) dX6_step_226 ((3 : Int32), x_1, x_75) rfl (show (0 ≤ x_75.toInt ∧ x_75.toInt ≤ 400) ∧ (0 ≤ x_1.toInt ∧ x_1.toInt ≤ 400) ∧ (zKd (3 : Int32).toInt x_1.toInt x_75.toInt) ∧ (zSk fb ln.toInt nx.toInt x_1.toInt) ∧ (zTk fb ln.toInt (3 : Int32).toInt x_1.toInt x_75.toInt) from ⟨(by first | assumption | omega | exact Or.inl (by decide) | exact Or.inr (by omega)), (by first | assumption | omega | exact Or.inl (by decide) | exact Or.inr (by omega)), (by first | assumption | omega | exact Or.inl (by decide) | exact Or.inr (by omega)), (zSk_mk i3 (by omega) (zw_nC (zcS_f c73))), (zTk_s (by decide) (by omega) (zcL_f (by omega)) (zcD_f (by omega)) (by omega))⟩) hP hD
                · skip
                  have c84 : (fb x_1.toNatClampNeg).toInt ≤ 57 := zle (Int32.not_lt.mp cb9) rfl (by decide)
                  have n85 : (fb x_1.toNatClampNeg).toInt ≤ 57 := Int.le_trans c84 (Int.le_refl _)
                  refine lv_aload_n hx hb dX6_step_164 rfl (lv_at hl 1 rfl) ?_
                  refine lv_iconst (v := 2) hx hb dX6_step_165 (by decide) ?_
                  refine va_put (D := g.1) (ci := 6) (v := .int 2) (ty := .int) (C := RX6) (T := TX6) (N := 7) hx hb hts izRX6 tyX6 tyX6_ok nmX6 hown hK hP hD hS 0 rfl rfl 3 (by decide) (hts _ k258) (fun _ h9 => h9) rfl (by decide +kernel) rfl rfl (Nat.le_of_ble_eq_true rfl) dX6_step_166 (fun H locs hP hD hS => ?_)
                  have hP : va_P g.1 vwCl (List.flatten [bTape g ta ab sz ln 2 x_1 x_75 ft fb]) H := hP
                  have hD : va_D A (List.flatten [bTape g ta ab sz ln 2 x_1 x_75 ft fb]) := hD
                  have hl := lv_sub (l' := [(0, .ref ta), (1, .int (fb x_1.toNatClampNeg))]) hl [1, 0] rfl
                  have LP169_90 : ∀ (kf : Nat) (x_86 : Int32), (1 ≤ x_86.toInt ∧ x_86.toInt ≤ 400) → (x_1.toInt < x_86.toInt) → (zw zcD fb ln.toInt.toNat ((x_1.toInt).toNat + 1) = zw zcD fb ln.toInt.toNat (x_86.toInt).toNat) → ∀ (H : Heap) (locs : List Loc) (ls : Array Slot), ((ln.toInt - x_86.toInt).toNat) < kf → va_P g.1 vwCl (List.flatten [bTape g ta ab sz ln 2 x_1 x_86 ft fb]) H → va_D A (List.flatten [bTape g ta ab sz ln 2 x_1 x_86 ft fb]) → va_S A s.heap H locs → lv_has ls 2 [(0, .ref ta), (1, .int (fb x_1.toNatClampNeg))] → W p l e ({ frames := 0, cells := 0, slots := 0, locals := 0 } : Room) s m args below meth c H locs (0) (0) (zF g (fun u : Int32 × Int32 × Int32 => (fun (kd2 : Int32) (bg2 : Int32) (nx2 : Int32) => none) (u.1) (u.2.1) (u.2.2)) (fun u : Int32 × Int32 × Int32 => (fun (kd2 : Int32) (bg2 : Int32) (nx2 : Int32) => (0 ≤ nx2.toInt ∧ nx2.toInt ≤ 400) ∧ (0 ≤ bg2.toInt ∧ bg2.toInt ≤ 400) ∧ (zKd kd2.toInt bg2.toInt nx2.toInt) ∧ (zSk fb ln.toInt nx.toInt bg2.toInt) ∧ (zTk fb ln.toInt kd2.toInt bg2.toInt nx2.toInt)) (u.1) (u.2.1) (u.2.2)) (fun u : Int32 × Int32 × Int32 => (fun (kd2 : Int32) (bg2 : Int32) (nx2 : Int32) => [bTape g ta ab sz ln kd2 bg2 nx2 ft fb]) (u.1) (u.2.1) (u.2.2)) ({ frames := 0, cells := 0, slots := 0, locals := 0 } : Room) below args s A) (F0 m 169 ls []) := by
                    intro kf
                    induction kf with
                    | zero => intro x_86 i87 i88 i89 H locs ls hk; exact absurd hk (Nat.not_lt_zero _)
                    | succ kf ih169_91 =>
                      intro x_86 i87 i88 i89 H locs ls hk169_91 hP hD hS hl
                      refine lv_aload_n hx hb dX6_step_169 rfl (lv_at hl 0 rfl) ?_
                      refine va_get (D := g.1) (ci := 6) (v := .int x_86) (C := RX6) (T := TX6) (N := 7) hx hb hts izRX6 hown hK hP 0 rfl rfl 5 (by decide) (hts _ k259) (fun _ h9 => h9) rfl dX6_step_170 ?_
                      refine lv_aload_n hx hb dX6_step_173 rfl (lv_at hl 0 rfl) ?_
                      refine va_get (D := g.1) (ci := 6) (v := .int ln) (C := RX6) (T := TX6) (N := 7) hx hb hts izRX6 hown hK hP 0 rfl rfl 2 (by decide) (hts _ k272) (fun _ h9 => h9) rfl dX6_step_174 ?_
                      refine lv_icmp_ge (tgt := 226) hx hb dX6_step_177 (by decide) (fun cb9 => ?_) (fun cb9 => ?_)
                      · skip
                        have c92 : ln.toInt ≤ x_86.toInt := zle cb9 rfl rfl
                        have hP : va_P g.1 vwCl (List.flatten [bTape g ta ab sz ln 2 x_1 x_86 ft fb]) H := hP
                        have hD : va_D A (List.flatten [bTape g ta ab sz ln 2 x_1 x_86 ft fb]) := hD
                        exact mret_v hx hb hr hlocks hS (Nat.le_of_ble_eq_true rfl) (Nat.le_of_ble_eq_true rfl) dX6_step_226 ((2 : Int32), x_1, x_86) rfl (show (0 ≤ x_86.toInt ∧ x_86.toInt ≤ 400) ∧ (0 ≤ x_1.toInt ∧ x_1.toInt ≤ 400) ∧ (zKd (2 : Int32).toInt x_1.toInt x_86.toInt) ∧ (zSk fb ln.toInt nx.toInt x_1.toInt) ∧ (zTk fb ln.toInt (2 : Int32).toInt x_1.toInt x_86.toInt) from ⟨(by first | assumption | omega | exact Or.inl (by decide) | exact Or.inr (by omega)), (by first | assumption | omega | exact Or.inl (by decide) | exact Or.inr (by omega)), (by first | assumption | omega | exact Or.inl (by decide) | exact Or.inr (by omega)), (zSk_mk i3 (by omega) (zw_nC (zcS_f c73))), (zTk_d (by decide) (by omega) (zcL_f (by omega)) (zcD_t (by omega) (by omega)) (by omega) i89 (zw_nE (by omega)))⟩) hP hD
                      · skip
                        have c93 : x_86.toInt < ln.toInt := zlti (Int32.not_le.mp cb9) rfl rfl
                        have n94 : x_86.toInt ≤ 399 := zL1 (b := 400) c93 hln.2 (by decide)
                        have n95 : 2 ≤ ln.toInt := zL2 (a := 1) c93 i87.1 (by decide)
                        refine lv_aload_n hx hb dX6_step_180 rfl (lv_at hl 0 rfl) ?_
                        refine va_get (D := g.1) (ci := 6) (v := .ref ab) (C := RX6) (T := TX6) (N := 7) hx hb hts izRX6 hown hK hP 0 rfl rfl 0 (by decide) (hts _ k261) (fun _ h9 => h9) rfl dX6_step_181 ?_
                        refine lv_aload_n hx hb dX6_step_184 rfl (lv_at hl 0 rfl) ?_
                        refine va_get (D := g.1) (ci := 6) (v := .int x_86) (C := RX6) (T := TX6) (N := 7) hx hb hts izRX6 hown hK hP 0 rfl rfl 5 (by decide) (hts _ k259) (fun _ h9 => h9) rfl dX6_step_185 ?_
                        refine va_iald hx hb hK hP 1 0 rfl rfl (zinK (a := 1) (b := 399) i87.1 n94 (by decide)) dX6_step_188 ?_
                        refine lv_bipush (v := 48) hx hb dX6_step_189 (by decide) ?_
                        refine lv_icmp_lt (tgt := 226) hx hb dX6_step_191 (by decide) (fun cb9 => ?_) (fun cb9 => ?_)
                        · skip
                          have c96 : (fb x_86.toNatClampNeg).toInt < 48 := zlti cb9 rfl (by decide)
                          have n97 : (fb x_86.toNatClampNeg).toInt ≤ 47 := zL1 (b := 48) c96 (Int.le_refl _) (by decide)
                          have hP : va_P g.1 vwCl (List.flatten [bTape g ta ab sz ln 2 x_1 x_86 ft fb]) H := hP
                          have hD : va_D A (List.flatten [bTape g ta ab sz ln 2 x_1 x_86 ft fb]) := hD
                          exact mret_v hx hb hr hlocks hS (Nat.le_of_ble_eq_true rfl) (Nat.le_of_ble_eq_true rfl) dX6_step_226 ((2 : Int32), x_1, x_86) rfl (show (0 ≤ x_86.toInt ∧ x_86.toInt ≤ 400) ∧ (0 ≤ x_1.toInt ∧ x_1.toInt ≤ 400) ∧ (zKd (2 : Int32).toInt x_1.toInt x_86.toInt) ∧ (zSk fb ln.toInt nx.toInt x_1.toInt) ∧ (zTk fb ln.toInt (2 : Int32).toInt x_1.toInt x_86.toInt) from ⟨(by first | assumption | omega | exact Or.inl (by decide) | exact Or.inr (by omega)), (by first | assumption | omega | exact Or.inl (by decide) | exact Or.inr (by omega)), (by first | assumption | omega | exact Or.inl (by decide) | exact Or.inr (by omega)), (zSk_mk i3 (by omega) (zw_nC (zcS_f c73))), (zTk_d (by decide) (by omega) (zcL_f (by omega)) (zcD_t (by omega) (by omega)) (by omega) i89 (zw_nC (zcD_f (by omega))))⟩) hP hD
                        · skip
                          have c98 : 48 ≤ (fb x_86.toNatClampNeg).toInt := zle (Int32.not_lt.mp cb9) (by decide) rfl
                          have n99 : 48 ≤ (fb x_86.toNatClampNeg).toInt := Int.le_trans (Int.le_refl _) c98
                          refine lv_aload_n hx hb dX6_step_194 rfl (lv_at hl 0 rfl) ?_
                          refine va_get (D := g.1) (ci := 6) (v := .ref ab) (C := RX6) (T := TX6) (N := 7) hx hb hts izRX6 hown hK hP 0 rfl rfl 0 (by decide) (hts _ k261) (fun _ h9 => h9) rfl dX6_step_195 ?_
                          refine lv_aload_n hx hb dX6_step_198 rfl (lv_at hl 0 rfl) ?_
                          refine va_get (D := g.1) (ci := 6) (v := .int x_86) (C := RX6) (T := TX6) (N := 7) hx hb hts izRX6 hown hK hP 0 rfl rfl 5 (by decide) (hts _ k259) (fun _ h9 => h9) rfl dX6_step_199 ?_
                          refine va_iald hx hb hK hP 1 0 rfl rfl (zinK (a := 1) (b := 399) i87.1 n94 (by decide)) dX6_step_202 ?_
                          refine lv_bipush (v := 57) hx hb dX6_step_203 (by decide) ?_
                          refine lv_icmp_gt (tgt := 226) hx hb dX6_step_205 (by decide) (fun cb9 => ?_) (fun cb9 => ?_)
                          · skip
                            have c100 : 57 < (fb x_86.toNatClampNeg).toInt := zlti cb9 (by decide) rfl
                            have n101 : 58 ≤ (fb x_86.toNatClampNeg).toInt := zL2 (a := 57) c100 (Int.le_refl _) (by decide)
                            have hP : va_P g.1 vwCl (List.flatten [bTape g ta ab sz ln 2 x_1 x_86 ft fb]) H := hP
                            have hD : va_D A (List.flatten [bTape g ta ab sz ln 2 x_1 x_86 ft fb]) := hD
                            exact mret_v hx hb hr hlocks hS (Nat.le_of_ble_eq_true rfl) (Nat.le_of_ble_eq_true rfl) dX6_step_226 ((2 : Int32), x_1, x_86) rfl (show (0 ≤ x_86.toInt ∧ x_86.toInt ≤ 400) ∧ (0 ≤ x_1.toInt ∧ x_1.toInt ≤ 400) ∧ (zKd (2 : Int32).toInt x_1.toInt x_86.toInt) ∧ (zSk fb ln.toInt nx.toInt x_1.toInt) ∧ (zTk fb ln.toInt (2 : Int32).toInt x_1.toInt x_86.toInt) from ⟨(by first | assumption | omega | exact Or.inl (by decide) | exact Or.inr (by omega)), (by first | assumption | omega | exact Or.inl (by decide) | exact Or.inr (by omega)), (by first | assumption | omega | exact Or.inl (by decide) | exact Or.inr (by omega)), (zSk_mk i3 (by omega) (zw_nC (zcS_f c73))), (zTk_d (by decide) (by omega) (zcL_f (by omega)) (zcD_t (by omega) (by omega)) (by omega) i89 (zw_nC (zcD_f (by omega))))⟩) hP hD
                          · skip
                            have c102 : (fb x_86.toNatClampNeg).toInt ≤ 57 := zle (Int32.not_lt.mp cb9) rfl (by decide)
                            have n103 : (fb x_86.toNatClampNeg).toInt ≤ 57 := Int.le_trans c102 (Int.le_refl _)
                            refine lv_aload_n hx hb dX6_step_208 rfl (lv_at hl 0 rfl) ?_
                            refine lv_dup hx hb dX6_step_209 rfl ?_
                            refine va_get (D := g.1) (ci := 6) (v := .int x_86) (C := RX6) (T := TX6) (N := 7) hx hb hts izRX6 hown hK hP 0 rfl rfl 5 (by decide) (hts _ k259) (fun _ h9 => h9) rfl dX6_step_210 ?_
                            refine lv_iconst (v := 1) hx hb dX6_step_213 (by decide) ?_
                            refine lv_iadd hx hb dX6_step_214 ?_
                            refine zg3 (zaddK (i := x_86.toInt) (j := 1) (a' := 2) (b' := 400) rfl (by decide) i87.1 n94 (Int.le_refl _) (Int.le_refl _) (by decide)) (fun x_104 hx_104 => ?_)
                            refine va_put (D := g.1) (ci := 6) (v := .int x_104) (ty := .int) (C := RX6) (T := TX6) (N := 7) hx hb hts izRX6 tyX6 tyX6_ok nmX6 hown hK hP hD hS 0 rfl rfl 5 (by decide) (hts _ k259) (fun _ h9 => h9) rfl (by decide +kernel) rfl rfl (Nat.le_of_ble_eq_true rfl) dX6_step_215 (fun H locs hP hD hS => ?_)
                            have hP : va_P g.1 vwCl (List.flatten [bTape g ta ab sz ln 2 x_1 x_104 ft fb]) H := hP
                            have hD : va_D A (List.flatten [bTape g ta ab sz ln 2 x_1 x_104 ft fb]) := hD
                            refine lv_goto (tgt := 169) hx hb dX6_step_218 (by decide) ?_
                            have hP : va_P g.1 vwCl (List.flatten [bTape g ta ab sz ln 2 x_1 x_104 ft fb]) H := hP
                            have hD : va_D A (List.flatten [bTape g ta ab sz ln 2 x_1 x_104 ft fb]) := hD
                            exact ih169_91 x_104 ⟨(Int.le_trans (by decide) hx_104.2.1), hx_104.2.2⟩ (by first | omega | assumption | decide) (i89.trans (zw_sI (by omega) (by omega) (zcD_t (by omega) (by omega)) (by omega))) H _ ls (by omega)  hP hD hS (lv_sub hl [0, 1] rfl)
                  have hP : va_P g.1 vwCl (List.flatten [bTape g ta ab sz ln 2 x_1 x_75 ft fb]) H := hP
                  have hD : va_D A (List.flatten [bTape g ta ab sz ln 2 x_1 x_75 ft fb]) := hD
                  exact LP169_90 _ x_75 ⟨hx_75.2.1, hx_75.2.2⟩ (by first | omega | assumption | decide) (congrArg (zw zcD fb ln.toInt.toNat) (by omega)) H _ ls (Nat.lt_succ_self _)  hP hD hS (lv_sub hl [0, 1] rfl)
            · skip
              have c105 : 97 ≤ (fb x_1.toNatClampNeg).toInt := zle (Int32.not_lt.mp cb9) (by decide) rfl
              have n106 : 97 ≤ (fb x_1.toNatClampNeg).toInt := Int.le_trans (Int.le_refl _) c105
              refine lv_iload_n hx hb dX6_step_89 rfl (lv_at hl 0 rfl) ?_
              refine lv_bipush (v := 122) hx hb dX6_step_90 (by decide) ?_
              refine lv_icmp_gt (tgt := 152) hx hb dX6_step_92 (by decide) (fun cb9 => ?_) (fun cb9 => ?_)
              · skip
                have c107 : 122 < (fb x_1.toNatClampNeg).toInt := zlti cb9 (by decide) rfl
                have n108 : 123 ≤ (fb x_1.toNatClampNeg).toInt := zL2 (a := 122) c107 (Int.le_refl _) (by decide)
                refine lv_iload_n hx hb dX6_step_152 rfl (lv_at hl 0 rfl) ?_
                refine lv_bipush (v := 48) hx hb dX6_step_153 (by decide) ?_
                refine lv_icmp_lt (tgt := 221) hx hb dX6_step_155 (by decide) (fun cb9 => ?_) (fun cb9 => ?_)
                · skip
                  exact absurd (show (fb x_1.toNatClampNeg).toInt < 48 from zlti cb9 rfl (by decide)) (zDlt (a := 123) (b := 48) n108 (Int.le_refl _) (by decide))
                · skip
                  have c110 : 48 ≤ (fb x_1.toNatClampNeg).toInt := zle (Int32.not_lt.mp cb9) (by decide) rfl
                  refine lv_iload_n hx hb dX6_step_158 rfl (lv_at hl 0 rfl) ?_
                  refine lv_bipush (v := 57) hx hb dX6_step_159 (by decide) ?_
                  refine lv_icmp_gt (tgt := 221) hx hb dX6_step_161 (by decide) (fun cb9 => ?_) (fun cb9 => ?_)
                  · skip
                    have c111 : 57 < (fb x_1.toNatClampNeg).toInt := zlti cb9 (by decide) rfl
                    refine lv_aload_n hx hb dX6_step_221 rfl (lv_at hl 1 rfl) ?_
                    refine lv_iconst (v := 3) hx hb dX6_step_222 (by decide) ?_
                    refine va_put (D := g.1) (ci := 6) (v := .int 3) (ty := .int) (C := RX6) (T := TX6) (N := 7) hx hb hts izRX6 tyX6 tyX6_ok nmX6 hown hK hP hD hS 0 rfl rfl 3 (by decide) (hts _ k258) (fun _ h9 => h9) rfl (by decide +kernel) rfl rfl (Nat.le_of_ble_eq_true rfl) dX6_step_223 (fun H locs hP hD hS => ?_)
                    have hP : va_P g.1 vwCl (List.flatten [bTape g ta ab sz ln 3 x_1 x_75 ft fb]) H := hP
                    have hD : va_D A (List.flatten [bTape g ta ab sz ln 3 x_1 x_75 ft fb]) := hD
                    have hP : va_P g.1 vwCl (List.flatten [bTape g ta ab sz ln 3 x_1 x_75 ft fb]) H := hP
                    have hD : va_D A (List.flatten [bTape g ta ab sz ln 3 x_1 x_75 ft fb]) := hD
                    exact mret_v hx hb hr hlocks hS (Nat.le_of_ble_eq_true rfl) (Nat.le_of_ble_eq_true rfl) dX6_step_226 ((3 : Int32), x_1, x_75) rfl (show (0 ≤ x_75.toInt ∧ x_75.toInt ≤ 400) ∧ (0 ≤ x_1.toInt ∧ x_1.toInt ≤ 400) ∧ (zKd (3 : Int32).toInt x_1.toInt x_75.toInt) ∧ (zSk fb ln.toInt nx.toInt x_1.toInt) ∧ (zTk fb ln.toInt (3 : Int32).toInt x_1.toInt x_75.toInt) from ⟨(by first | assumption | omega | exact Or.inl (by decide) | exact Or.inr (by omega)), (by first | assumption | omega | exact Or.inl (by decide) | exact Or.inr (by omega)), (by first | assumption | omega | exact Or.inl (by decide) | exact Or.inr (by omega)), (zSk_mk i3 (by omega) (zw_nC (zcS_f c73))), (zTk_s (by decide) (by omega) (zcL_f (by omega)) (zcD_f (by omega)) (by omega))⟩) hP hD
                  · skip
                    exact absurd (show (fb x_1.toNatClampNeg).toInt ≤ 57 from zle (Int32.not_lt.mp cb9) rfl (by decide)) (zDle (a := 123) (b := 57) n108 (Int.le_refl _) (by decide))
              · skip
                have c113 : (fb x_1.toNatClampNeg).toInt ≤ 122 := zle (Int32.not_lt.mp cb9) rfl (by decide)
                have n114 : (fb x_1.toNatClampNeg).toInt ≤ 122 := Int.le_trans c113 (Int.le_refl _)
                refine lv_aload_n hx hb dX6_step_95 rfl (lv_at hl 1 rfl) ?_
                refine lv_iconst (v := 1) hx hb dX6_step_96 (by decide) ?_
                refine va_put (D := g.1) (ci := 6) (v := .int 1) (ty := .int) (C := RX6) (T := TX6) (N := 7) hx hb hts izRX6 tyX6 tyX6_ok nmX6 hown hK hP hD hS 0 rfl rfl 3 (by decide) (hts _ k258) (fun _ h9 => h9) rfl (by decide +kernel) rfl rfl (Nat.le_of_ble_eq_true rfl) dX6_step_97 (fun H locs hP hD hS => ?_)
                have hP : va_P g.1 vwCl (List.flatten [bTape g ta ab sz ln 1 x_1 x_75 ft fb]) H := hP
                have hD : va_D A (List.flatten [bTape g ta ab sz ln 1 x_1 x_75 ft fb]) := hD
                have hl := lv_sub (l' := [(0, .ref ta), (1, .int (fb x_1.toNatClampNeg))]) hl [1, 0] rfl
                have LP100_119 : ∀ (kf : Nat) (x_115 : Int32), (1 ≤ x_115.toInt ∧ x_115.toInt ≤ 400) → (x_1.toInt < x_115.toInt) → (zw zcL fb ln.toInt.toNat ((x_1.toInt).toNat + 1) = zw zcL fb ln.toInt.toNat (x_115.toInt).toNat) → ∀ (H : Heap) (locs : List Loc) (ls : Array Slot), ((ln.toInt - x_115.toInt).toNat) < kf → va_P g.1 vwCl (List.flatten [bTape g ta ab sz ln 1 x_1 x_115 ft fb]) H → va_D A (List.flatten [bTape g ta ab sz ln 1 x_1 x_115 ft fb]) → va_S A s.heap H locs → lv_has ls 2 [(0, .ref ta), (1, .int (fb x_1.toNatClampNeg))] → W p l e ({ frames := 0, cells := 0, slots := 0, locals := 0 } : Room) s m args below meth c H locs (0) (0) (zF g (fun u : Int32 × Int32 × Int32 => (fun (kd2 : Int32) (bg2 : Int32) (nx2 : Int32) => none) (u.1) (u.2.1) (u.2.2)) (fun u : Int32 × Int32 × Int32 => (fun (kd2 : Int32) (bg2 : Int32) (nx2 : Int32) => (0 ≤ nx2.toInt ∧ nx2.toInt ≤ 400) ∧ (0 ≤ bg2.toInt ∧ bg2.toInt ≤ 400) ∧ (zKd kd2.toInt bg2.toInt nx2.toInt) ∧ (zSk fb ln.toInt nx.toInt bg2.toInt) ∧ (zTk fb ln.toInt kd2.toInt bg2.toInt nx2.toInt)) (u.1) (u.2.1) (u.2.2)) (fun u : Int32 × Int32 × Int32 => (fun (kd2 : Int32) (bg2 : Int32) (nx2 : Int32) => [bTape g ta ab sz ln kd2 bg2 nx2 ft fb]) (u.1) (u.2.1) (u.2.2)) ({ frames := 0, cells := 0, slots := 0, locals := 0 } : Room) below args s A) (F0 m 100 ls []) := by
                  intro kf
                  induction kf with
                  | zero => intro x_115 i116 i117 i118 H locs ls hk; exact absurd hk (Nat.not_lt_zero _)
                  | succ kf ih100_120 =>
                    intro x_115 i116 i117 i118 H locs ls hk100_120 hP hD hS hl
                    refine lv_aload_n hx hb dX6_step_100 rfl (lv_at hl 0 rfl) ?_
                    refine va_get (D := g.1) (ci := 6) (v := .int x_115) (C := RX6) (T := TX6) (N := 7) hx hb hts izRX6 hown hK hP 0 rfl rfl 5 (by decide) (hts _ k259) (fun _ h9 => h9) rfl dX6_step_101 ?_
                    refine lv_aload_n hx hb dX6_step_104 rfl (lv_at hl 0 rfl) ?_
                    refine va_get (D := g.1) (ci := 6) (v := .int ln) (C := RX6) (T := TX6) (N := 7) hx hb hts izRX6 hown hK hP 0 rfl rfl 2 (by decide) (hts _ k272) (fun _ h9 => h9) rfl dX6_step_105 ?_
                    refine lv_icmp_ge (tgt := 226) hx hb dX6_step_108 (by decide) (fun cb9 => ?_) (fun cb9 => ?_)
                    · skip
                      have c121 : ln.toInt ≤ x_115.toInt := zle cb9 rfl rfl
                      have hP : va_P g.1 vwCl (List.flatten [bTape g ta ab sz ln 1 x_1 x_115 ft fb]) H := hP
                      have hD : va_D A (List.flatten [bTape g ta ab sz ln 1 x_1 x_115 ft fb]) := hD
                      exact mret_v hx hb hr hlocks hS (Nat.le_of_ble_eq_true rfl) (Nat.le_of_ble_eq_true rfl) dX6_step_226 ((1 : Int32), x_1, x_115) rfl (show (0 ≤ x_115.toInt ∧ x_115.toInt ≤ 400) ∧ (0 ≤ x_1.toInt ∧ x_1.toInt ≤ 400) ∧ (zKd (1 : Int32).toInt x_1.toInt x_115.toInt) ∧ (zSk fb ln.toInt nx.toInt x_1.toInt) ∧ (zTk fb ln.toInt (1 : Int32).toInt x_1.toInt x_115.toInt) from ⟨(by first | assumption | omega | exact Or.inl (by decide) | exact Or.inr (by omega)), (by first | assumption | omega | exact Or.inl (by decide) | exact Or.inr (by omega)), (by first | assumption | omega | exact Or.inl (by decide) | exact Or.inr (by omega)), (zSk_mk i3 (by omega) (zw_nC (zcS_f c73))), (zTk_w (by decide) (by omega) (zcL_t (by omega) (by omega)) (by omega) i118 (zw_nE (by omega)))⟩) hP hD
                    · skip
                      have c122 : x_115.toInt < ln.toInt := zlti (Int32.not_le.mp cb9) rfl rfl
                      have n123 : x_115.toInt ≤ 399 := zL1 (b := 400) c122 hln.2 (by decide)
                      have n124 : 2 ≤ ln.toInt := zL2 (a := 1) c122 i116.1 (by decide)
                      refine lv_aload_n hx hb dX6_step_111 rfl (lv_at hl 0 rfl) ?_
                      refine va_get (D := g.1) (ci := 6) (v := .ref ab) (C := RX6) (T := TX6) (N := 7) hx hb hts izRX6 hown hK hP 0 rfl rfl 0 (by decide) (hts _ k261) (fun _ h9 => h9) rfl dX6_step_112 ?_
                      refine lv_aload_n hx hb dX6_step_115 rfl (lv_at hl 0 rfl) ?_
                      refine va_get (D := g.1) (ci := 6) (v := .int x_115) (C := RX6) (T := TX6) (N := 7) hx hb hts izRX6 hown hK hP 0 rfl rfl 5 (by decide) (hts _ k259) (fun _ h9 => h9) rfl dX6_step_116 ?_
                      refine va_iald hx hb hK hP 1 0 rfl rfl (zinK (a := 1) (b := 399) i116.1 n123 (by decide)) dX6_step_119 ?_
                      refine lv_bipush (v := 97) hx hb dX6_step_120 (by decide) ?_
                      refine lv_icmp_lt (tgt := 226) hx hb dX6_step_122 (by decide) (fun cb9 => ?_) (fun cb9 => ?_)
                      · skip
                        have c125 : (fb x_115.toNatClampNeg).toInt < 97 := zlti cb9 rfl (by decide)
                        have n126 : (fb x_115.toNatClampNeg).toInt ≤ 96 := zL1 (b := 97) c125 (Int.le_refl _) (by decide)
                        have hP : va_P g.1 vwCl (List.flatten [bTape g ta ab sz ln 1 x_1 x_115 ft fb]) H := hP
                        have hD : va_D A (List.flatten [bTape g ta ab sz ln 1 x_1 x_115 ft fb]) := hD
                        exact mret_v hx hb hr hlocks hS (Nat.le_of_ble_eq_true rfl) (Nat.le_of_ble_eq_true rfl) dX6_step_226 ((1 : Int32), x_1, x_115) rfl (show (0 ≤ x_115.toInt ∧ x_115.toInt ≤ 400) ∧ (0 ≤ x_1.toInt ∧ x_1.toInt ≤ 400) ∧ (zKd (1 : Int32).toInt x_1.toInt x_115.toInt) ∧ (zSk fb ln.toInt nx.toInt x_1.toInt) ∧ (zTk fb ln.toInt (1 : Int32).toInt x_1.toInt x_115.toInt) from ⟨(by first | assumption | omega | exact Or.inl (by decide) | exact Or.inr (by omega)), (by first | assumption | omega | exact Or.inl (by decide) | exact Or.inr (by omega)), (by first | assumption | omega | exact Or.inl (by decide) | exact Or.inr (by omega)), (zSk_mk i3 (by omega) (zw_nC (zcS_f c73))), (zTk_w (by decide) (by omega) (zcL_t (by omega) (by omega)) (by omega) i118 (zw_nC (zcL_f (by omega))))⟩) hP hD
                      · skip
                        have c127 : 97 ≤ (fb x_115.toNatClampNeg).toInt := zle (Int32.not_lt.mp cb9) (by decide) rfl
                        have n128 : 97 ≤ (fb x_115.toNatClampNeg).toInt := Int.le_trans (Int.le_refl _) c127
                        refine lv_aload_n hx hb dX6_step_125 rfl (lv_at hl 0 rfl) ?_
                        refine va_get (D := g.1) (ci := 6) (v := .ref ab) (C := RX6) (T := TX6) (N := 7) hx hb hts izRX6 hown hK hP 0 rfl rfl 0 (by decide) (hts _ k261) (fun _ h9 => h9) rfl dX6_step_126 ?_
                        refine lv_aload_n hx hb dX6_step_129 rfl (lv_at hl 0 rfl) ?_
                        refine va_get (D := g.1) (ci := 6) (v := .int x_115) (C := RX6) (T := TX6) (N := 7) hx hb hts izRX6 hown hK hP 0 rfl rfl 5 (by decide) (hts _ k259) (fun _ h9 => h9) rfl dX6_step_130 ?_
                        refine va_iald hx hb hK hP 1 0 rfl rfl (zinK (a := 1) (b := 399) i116.1 n123 (by decide)) dX6_step_133 ?_
                        refine lv_bipush (v := 122) hx hb dX6_step_134 (by decide) ?_
                        refine lv_icmp_gt (tgt := 226) hx hb dX6_step_136 (by decide) (fun cb9 => ?_) (fun cb9 => ?_)
                        · skip
                          have c129 : 122 < (fb x_115.toNatClampNeg).toInt := zlti cb9 (by decide) rfl
                          have n130 : 123 ≤ (fb x_115.toNatClampNeg).toInt := zL2 (a := 122) c129 (Int.le_refl _) (by decide)
                          have hP : va_P g.1 vwCl (List.flatten [bTape g ta ab sz ln 1 x_1 x_115 ft fb]) H := hP
                          have hD : va_D A (List.flatten [bTape g ta ab sz ln 1 x_1 x_115 ft fb]) := hD
                          exact mret_v hx hb hr hlocks hS (Nat.le_of_ble_eq_true rfl) (Nat.le_of_ble_eq_true rfl) dX6_step_226 ((1 : Int32), x_1, x_115) rfl (show (0 ≤ x_115.toInt ∧ x_115.toInt ≤ 400) ∧ (0 ≤ x_1.toInt ∧ x_1.toInt ≤ 400) ∧ (zKd (1 : Int32).toInt x_1.toInt x_115.toInt) ∧ (zSk fb ln.toInt nx.toInt x_1.toInt) ∧ (zTk fb ln.toInt (1 : Int32).toInt x_1.toInt x_115.toInt) from ⟨(by first | assumption | omega | exact Or.inl (by decide) | exact Or.inr (by omega)), (by first | assumption | omega | exact Or.inl (by decide) | exact Or.inr (by omega)), (by first | assumption | omega | exact Or.inl (by decide) | exact Or.inr (by omega)), (zSk_mk i3 (by omega) (zw_nC (zcS_f c73))), (zTk_w (by decide) (by omega) (zcL_t (by omega) (by omega)) (by omega) i118 (zw_nC (zcL_f (by omega))))⟩) hP hD
                        · skip
                          have c131 : (fb x_115.toNatClampNeg).toInt ≤ 122 := zle (Int32.not_lt.mp cb9) rfl (by decide)
                          have n132 : (fb x_115.toNatClampNeg).toInt ≤ 122 := Int.le_trans c131 (Int.le_refl _)
                          refine lv_aload_n hx hb dX6_step_139 rfl (lv_at hl 0 rfl) ?_
                          refine lv_dup hx hb dX6_step_140 rfl ?_
                          refine va_get (D := g.1) (ci := 6) (v := .int x_115) (C := RX6) (T := TX6) (N := 7) hx hb hts izRX6 hown hK hP 0 rfl rfl 5 (by decide) (hts _ k259) (fun _ h9 => h9) rfl dX6_step_141 ?_
                          refine lv_iconst (v := 1) hx hb dX6_step_144 (by decide) ?_
                          refine lv_iadd hx hb dX6_step_145 ?_
                          refine zg3 (zaddK (i := x_115.toInt) (j := 1) (a' := 2) (b' := 400) rfl (by decide) i116.1 n123 (Int.le_refl _) (Int.le_refl _) (by decide)) (fun x_133 hx_133 => ?_)
                          refine va_put (D := g.1) (ci := 6) (v := .int x_133) (ty := .int) (C := RX6) (T := TX6) (N := 7) hx hb hts izRX6 tyX6 tyX6_ok nmX6 hown hK hP hD hS 0 rfl rfl 5 (by decide) (hts _ k259) (fun _ h9 => h9) rfl (by decide +kernel) rfl rfl (Nat.le_of_ble_eq_true rfl) dX6_step_146 (fun H locs hP hD hS => ?_)
                          have hP : va_P g.1 vwCl (List.flatten [bTape g ta ab sz ln 1 x_1 x_133 ft fb]) H := hP
                          have hD : va_D A (List.flatten [bTape g ta ab sz ln 1 x_1 x_133 ft fb]) := hD
                          refine lv_goto (tgt := 100) hx hb dX6_step_149 (by decide) ?_
                          have hP : va_P g.1 vwCl (List.flatten [bTape g ta ab sz ln 1 x_1 x_133 ft fb]) H := hP
                          have hD : va_D A (List.flatten [bTape g ta ab sz ln 1 x_1 x_133 ft fb]) := hD
                          exact ih100_120 x_133 ⟨(Int.le_trans (by decide) hx_133.2.1), hx_133.2.2⟩ (by first | omega | assumption | decide) (i118.trans (zw_sI (by omega) (by omega) (zcL_t (by omega) (by omega)) (by omega))) H _ ls (by omega)  hP hD hS (lv_sub hl [0, 1] rfl)
                have hP : va_P g.1 vwCl (List.flatten [bTape g ta ab sz ln 1 x_1 x_75 ft fb]) H := hP
                have hD : va_D A (List.flatten [bTape g ta ab sz ln 1 x_1 x_75 ft fb]) := hD
                exact LP100_119 _ x_75 ⟨hx_75.2.1, hx_75.2.2⟩ (by first | omega | assumption | decide) (congrArg (zw zcL fb ln.toInt.toNat) (by omega)) H _ ls (Nat.lt_succ_self _)  hP hD hS (lv_sub hl [0, 1] rfl)
          · skip
            have c134 : ln.toInt ≤ x_1.toInt := zle (Int32.not_lt.mp cb9) rfl rfl
            have n135 : 1 ≤ x_1.toInt := Int.le_trans n72 c134
            have n136 : ln.toInt ≤ 399 := Int.le_trans c134 n71
            refine lv_aload_n hx hb dX6_step_57 rfl (lv_at hl 0 rfl) ?_
            refine lv_iconst (v := 0) hx hb dX6_step_58 (by decide) ?_
            refine va_put (D := g.1) (ci := 6) (v := .int 0) (ty := .int) (C := RX6) (T := TX6) (N := 7) hx hb hts izRX6 tyX6 tyX6_ok nmX6 hown hK hP hD hS 0 rfl rfl 3 (by decide) (hts _ k258) (fun _ h9 => h9) rfl (by decide +kernel) rfl rfl (Nat.le_of_ble_eq_true rfl) dX6_step_59 (fun H locs hP hD hS => ?_)
            have hP : va_P g.1 vwCl (List.flatten [bTape g ta ab sz ln 0 x_1 x_1 ft fb]) H := hP
            have hD : va_D A (List.flatten [bTape g ta ab sz ln 0 x_1 x_1 ft fb]) := hD
            have hP : va_P g.1 vwCl (List.flatten [bTape g ta ab sz ln 0 x_1 x_1 ft fb]) H := hP
            have hD : va_D A (List.flatten [bTape g ta ab sz ln 0 x_1 x_1 ft fb]) := hD
            exact mret_v hx hb hr hlocks hS (Nat.le_of_ble_eq_true rfl) (Nat.le_of_ble_eq_true rfl) dX6_step_62 ((0 : Int32), x_1, x_1) rfl (show (0 ≤ x_1.toInt ∧ x_1.toInt ≤ 400) ∧ (0 ≤ x_1.toInt ∧ x_1.toInt ≤ 400) ∧ (zKd (0 : Int32).toInt x_1.toInt x_1.toInt) ∧ (zSk fb ln.toInt nx.toInt x_1.toInt) ∧ (zTk fb ln.toInt (0 : Int32).toInt x_1.toInt x_1.toInt) from ⟨(by first | assumption | omega | exact Or.inl (by decide) | exact Or.inr (by omega)), (by first | assumption | omega | exact Or.inl (by decide) | exact Or.inr (by omega)), (by first | assumption | omega | exact Or.inl (by decide) | exact Or.inr (by omega)), (zSk_mk i3 (by omega) (zw_nC (zcS_f c73))), (zTk_e (by decide) (by omega))⟩) hP hD
        · skip
          have c137 : (fb x_1.toNatClampNeg).toInt = 32 := zeq cb9 rfl (by decide)
          have n138 : 32 ≤ (fb x_1.toNatClampNeg).toInt := Int.le_trans (Int.le_refl _) (Int.le_of_eq c137.symm)
          have n139 : (fb x_1.toNatClampNeg).toInt ≤ 32 := Int.le_trans (Int.le_of_eq c137) (Int.le_refl _)
          refine lv_aload_n hx hb dX6_step_25 rfl (lv_at hl 0 rfl) ?_
          refine lv_dup hx hb dX6_step_26 rfl ?_
          refine va_get (D := g.1) (ci := 6) (v := .int x_1) (C := RX6) (T := TX6) (N := 7) hx hb hts izRX6 hown hK hP 0 rfl rfl 5 (by decide) (hts _ k259) (fun _ h9 => h9) rfl dX6_step_27 ?_
          refine lv_iconst (v := 1) hx hb dX6_step_30 (by decide) ?_
          refine lv_iadd hx hb dX6_step_31 ?_
          refine zg3 (zaddK (i := x_1.toInt) (j := 1) (a' := 1) (b' := 400) rfl (by decide) i2.1 n71 (Int.le_refl _) (Int.le_refl _) (by decide)) (fun x_140 hx_140 => ?_)
          refine va_put (D := g.1) (ci := 6) (v := .int x_140) (ty := .int) (C := RX6) (T := TX6) (N := 7) hx hb hts izRX6 tyX6 tyX6_ok nmX6 hown hK hP hD hS 0 rfl rfl 5 (by decide) (hts _ k259) (fun _ h9 => h9) rfl (by decide +kernel) rfl rfl (Nat.le_of_ble_eq_true rfl) dX6_step_32 (fun H locs hP hD hS => ?_)
          have hP : va_P g.1 vwCl (List.flatten [bTape g ta ab sz ln kd bg x_140 ft fb]) H := hP
          have hD : va_D A (List.flatten [bTape g ta ab sz ln kd bg x_140 ft fb]) := hD
          refine lv_goto (tgt := 0) hx hb dX6_step_35 (by decide) ?_
          have hP : va_P g.1 vwCl (List.flatten [bTape g ta ab sz ln kd bg x_140 ft fb]) H := hP
          have hD : va_D A (List.flatten [bTape g ta ab sz ln kd bg x_140 ft fb]) := hD
          exact ih0_5 x_140 ⟨(Int.le_trans (by decide) hx_140.2.1), hx_140.2.2⟩ (i3.trans (zw_sI (by omega) (by omega) (zcS_t c137) (by omega))) H _ ls (by omega)  hP hD hS (lv_sub hl [0] rfl)
  have hP : va_P g.1 vwCl (List.flatten [bTape g ta ab sz ln kd bg nx ft fb]) s.heap := hP
  have hD : va_D A (List.flatten [bTape g ta ab sz ln kd bg nx ft fb]) := hD
  exact LP0_4 _ nx ⟨hnx.1, hnx.2⟩ (by first | omega | assumption | decide) s.heap _ ls (Nat.lt_succ_self _)  hP hD hS (lv_sub hl [0] rfl)
set_option maxRecDepth 100000 in
set_option maxHeartbeats 4000000 in
theorem s_char1F (l : Launch) (g : zG) (k : Nat) (j : Nat) (q : String × Nat × String × List Int32) (i : Int32) (hk9 : k = g.2 (11 + 2 * j)) (hj9 : zLit[j]? = some q) (hql : 1 ≤ q.2.2.2.length ∧ q.2.2.2.length ≤ 7) (hi : 0 ≤ i.toInt ∧ i.toInt < (q.2.2.2.length : Int)) (hbs : ∀ i : Nat, i < q.2.2.2.length → 97 ≤ (q.2.2.2.getD i 0).toInt ∧ (q.2.2.2.getD i 0).toInt ≤ 122) : zM' g l yJ1_charAt_3b067 (Cond.code yJ1_charAt_3b067 cJ1_charAt_3b067 2 (some .char) :: zB) ({ frames := 2, cells := 0, slots := 0, locals := 43 } : Room) [.ref k, .int i] [] (fun (r : Int32) => some (.int r)) (fun (r : Int32) => (narrow .char (.int r) = .int r) ∧ (r = q.2.2.2.getD i.toInt.toNat 0)) (fun (r : Int32) => []) := by
  refine zM'.of (cc := cJ1_charAt_3b067) (maxL := 2) (rt := (some .char)) (by decide) rfl (Nat.le_of_ble_eq_true rfl) ?_
  intro p e s m args below meth c A ls St hr hlocks hin hK hT hA hP hD hS hl
  obtain ⟨hx, hb, hml, hown, hts⟩ := id St
  have hl : lv_has ls 2 [(0, .ref k), (1, .int i)] := hl
  subst hk9
  obtain ⟨-, hSt⟩ := hT.2.1.2.2 j q hj9
  have harr : va_T .byte (g.2 (11 + 2 * j)) q.2.2.2.length (fun i => .int (q.2.2.2.getD i 0)) A s s.heap := (hSt.1 0 Nat.one_pos).2.2.2
  refine lv_iload_n hx hb dJ1_charAt_3b067_0 rfl (lv_at hl 1 rfl) ?_
  refine lv_aload_n hx hb dJ1_charAt_3b067_1 rfl (lv_at hl 0 rfl) ?_
  refine va_tlen hx hb harr hS rfl dJ1_charAt_3b067_2 ?_
  refine zgv (i := (q.2.2.2.length : Int)) (nI_toInt (by show q.2.2.2.length < 2 ^ 31; omega)) (fun x_1 hx_1 => ?_)
  refine mcallS' (g := g) (As := [.int i, .int x_1]) (rest := []) St hK hT hA hP hD hS hl.1 [] [] rfl rfl rfl (s_ck l g i x_1 (by first | assumption | omega | decide | exact Or.inl (by decide) | exact Or.inr (by decide))) (va_cwS 2 hts (zgL (zl3 k232 k233 k223) k226) rfl rfl rfl (by decide +kernel) ⟨Nat.le_of_ble_eq_true rfl, Nat.le_of_ble_eq_true rfl⟩) rfl rfl (Nat.le_of_ble_eq_true rfl) dJ1_charAt_3b067_3 ⟨(Nat.le_of_ble_eq_true rfl), (Nat.le_of_ble_eq_true rfl)⟩ (fun _u H locs hq2 hP hD hS => ?_)
  have hP : va_P g.1 vwCl (List.flatten []) H := hP
  have hD : va_D A (List.flatten []) := hD
  refine W.widen (k := 0) (n := 0) (Nat.le_of_ble_eq_true rfl) (Nat.le_of_ble_eq_true rfl) ?_
  refine W.eq (g2 := F0 m 6 ls []) rfl ?_
  refine lv_aload_n hx hb dJ1_charAt_3b067_6 rfl (lv_at hl 0 rfl) ?_
  refine lv_iload_n hx hb dJ1_charAt_3b067_7 rfl (lv_at hl 1 rfl) ?_
  refine va_tb hx hb harr hS (zinI (by omega) (by show _ < ((q.2.2.2.length : Nat) : Int); omega)) rfl dJ1_charAt_3b067_8 ?_
  refine lv_sipush (v := 255) hx hb dJ1_charAt_3b067_9 (by decide) ?_
  refine lv_iand hx hb dJ1_charAt_3b067_12 ?_
  refine lv_i2c hx hb dJ1_charAt_3b067_13 rfl ?_
  refine zgp (P := fun y9 => narrow .char (.int y9) = .int y9 ∧ y9 = q.2.2.2.getD i.toInt.toNat 0) ⟨pk_nc _, zchr (hbs _ (by rw [zcl]; omega))⟩ (fun y3 hy9 => ?_)
  obtain ⟨hy3, hye9⟩ := hy9
  have hP : va_P g.1 vwCl (List.flatten []) H := hP
  have hD : va_D A (List.flatten []) := hD
  exact mret_n hx hb hr hlocks hS (Nat.le_of_ble_eq_true rfl) (Nat.le_of_ble_eq_true rfl) dJ1_charAt_3b067_14 (y3) rfl (by first | assumption | exact zb01 (by omega)) (show (narrow .char (.int y3) = .int y3) ∧ (y3 = q.2.2.2.getD i.toInt.toNat 0) from ⟨(by assumption), (by assumption)⟩) hP hD
set_option maxRecDepth 100000 in
set_option maxHeartbeats 4000000 in
theorem s_charF (l : Launch) (g : zG) (k : Nat) (j : Nat) (q : String × Nat × String × List Int32) (i : Int32) (hk9 : k = g.2 (10 + 2 * j)) (hj9 : zLit[j]? = some q) (hql : 1 ≤ q.2.2.2.length ∧ q.2.2.2.length ≤ 7) (hi : 0 ≤ i.toInt ∧ i.toInt < (q.2.2.2.length : Int)) (hbs : ∀ i : Nat, i < q.2.2.2.length → 97 ≤ (q.2.2.2.getD i 0).toInt ∧ (q.2.2.2.getD i 0).toInt ≤ 122) : zM' g l yJ0_charAt_5068e (Cond.code yJ0_charAt_5068e cJ0_charAt_5068e 2 (some .char) :: zB) ({ frames := 3, cells := 0, slots := 0, locals := 64 } : Room) [.ref k, .int i] [] (fun (r : Int32) => some (.int r)) (fun (r : Int32) => (narrow .char (.int r) = .int r) ∧ (r = q.2.2.2.getD i.toInt.toNat 0)) (fun (r : Int32) => []) := by
  refine zM'.of (cc := cJ0_charAt_5068e) (maxL := 2) (rt := (some .char)) (by decide) rfl (Nat.le_of_ble_eq_true rfl) ?_
  intro p e s m args below meth c A ls St hr hlocks hin hK hT hA hP hD hS hl
  obtain ⟨hx, hb, hml, hown, hts⟩ := id St
  have hl : lv_has ls 2 [(0, .ref k), (1, .int i)] := hl
  obtain ⟨-, hSt⟩ := hT.2.1.2.2 j q hj9
  have hcod : va_OF "java/lang/String" "coder" "B" (.int 0) k A s s.heap := by rw [hk9]; exact (hSt.1 0 Nat.one_pos).2.1
  have hval : va_OF "java/lang/String" "value" "[B" (.ref (g.2 (11 + 2 * j))) k A s s.heap := by rw [hk9]; exact (hSt.1 0 Nat.one_pos).2.2.1
  refine lv_aload_n hx hb dJ0_charAt_5068e_0 rfl (lv_at hl 0 rfl) ?_
  refine mcallL' (g := g) (As := []) (rest := []) St hK hT hA hP hD hS hl.1 [] [] rfl rfl rfl (s_isLatin1 l g k j q hk9 hj9 hql) (cwV 0 hts (zgL (zl4 k249 k250 k251 k223) k224) rfl rfl rfl (by decide +kernel) ⟨Nat.le_of_ble_eq_true rfl, Nat.le_of_ble_eq_true rfl⟩) (by rw [hk9]; exact zSt_recv hSt hS) rfl rfl (Nat.le_of_ble_eq_true rfl) dJ0_charAt_5068e_1 ⟨(Nat.le_of_ble_eq_true rfl), (Nat.le_of_ble_eq_true rfl)⟩ (fun _u H locs hq1 hP hD hS => ?_)
  have hP : va_P g.1 vwCl (List.flatten []) H := hP
  have hD : va_D A (List.flatten []) := hD
  refine W.widen (k := 0) (n := 0) (Nat.le_of_ble_eq_true rfl) (Nat.le_of_ble_eq_true rfl) ?_
  refine W.eq (g2 := F0 m 4 ls [.int 1]) rfl ?_
  refine lv_if_eq (tgt := 16) hx hb dJ0_charAt_5068e_4 (by decide) (fun c2 => absurd c2 (by decide)) (fun _ => ?_)
  refine lv_aload_n hx hb dJ0_charAt_5068e_7 rfl (lv_at hl 0 rfl) ?_
  refine vk_getf (o := "java/lang/String") (n := "value") (d := "[B") (v := .ref (g.2 (11 + 2 * j))) hx hb hval hS hown (hts _ k219) (fun _ h9 => h9) dJ0_charAt_5068e_8 ?_
  refine lv_iload_n hx hb dJ0_charAt_5068e_11 rfl (lv_at hl 1 rfl) ?_
  refine mcallS' (g := g) (As := [.ref (g.2 (11 + 2 * j)), .int i]) (rest := []) St hK hT hA hP hD hS hl.1 [] [] rfl rfl rfl (s_char1F l g (g.2 (11 + 2 * j)) j q i (by first | assumption | omega | decide | exact Or.inl (by decide) | exact Or.inr (by decide)) hj9 hql hi hbs) (va_cwS 2 hts (zgL (zl3 k252 k253 k254) k231) rfl rfl rfl (by decide +kernel) ⟨Nat.le_of_ble_eq_true rfl, Nat.le_of_ble_eq_true rfl⟩) rfl rfl (Nat.le_of_ble_eq_true rfl) dJ0_charAt_5068e_12 ⟨(Nat.le_of_ble_eq_true rfl), (Nat.le_of_ble_eq_true rfl)⟩ (fun r_3 H locs hq4 hP hD hS => ?_)
  replace hq4 : (narrow .char (.int r_3) = .int r_3) ∧ (r_3 = q.2.2.2.getD i.toInt.toNat 0) := hq4
  have hP : va_P g.1 vwCl (List.flatten []) H := hP
  have hD : va_D A (List.flatten []) := hD
  refine W.widen (k := 0) (n := 0) (Nat.le_of_ble_eq_true rfl) (Nat.le_of_ble_eq_true rfl) ?_
  refine W.eq (g2 := F0 m 15 ls [.int r_3]) rfl ?_
  obtain ⟨hq4_0, hq4_1⟩ := hq4
  have hP : va_P g.1 vwCl (List.flatten []) H := hP
  have hD : va_D A (List.flatten []) := hD
  exact mret_n hx hb hr hlocks hS (Nat.le_of_ble_eq_true rfl) (Nat.le_of_ble_eq_true rfl) dJ0_charAt_5068e_15 (r_3) rfl (by first | assumption | exact zb01 (by omega)) (show (narrow .char (.int r_3) = .int r_3) ∧ (r_3 = q.2.2.2.getD i.toInt.toNat 0) from ⟨hq4_0, hq4_1⟩) hP hD
set_option maxRecDepth 100000 in
set_option maxHeartbeats 4000000 in
theorem c_t_isWordF (l : Launch) (g : zG) (ta : Nat) (ab : Nat) (sz : Int32) (ln : Int32) (kd : Int32) (bg : Int32) (nx : Int32) (ft : Int32) (fb : Nat → Int32) (k : Nat) (j : Nat) (q : String × Nat × String × List Int32) (hln : 0 ≤ ln.toInt ∧ ln.toInt ≤ 400) (hnx : 0 ≤ nx.toInt ∧ nx.toInt ≤ 400) (hbg : 0 ≤ bg.toInt ∧ bg.toInt ≤ 400) (hkd : zKd kd.toInt bg.toInt nx.toInt) (hTk : zTk fb ln.toInt kd.toInt bg.toInt nx.toInt) (hk9 : k = g.2 (10 + 2 * j)) (hj9 : zLit[j]? = some q) (hql : 1 ≤ q.2.2.2.length ∧ q.2.2.2.length ≤ 7) (hbs : ∀ i : Nat, i < q.2.2.2.length → 97 ≤ (q.2.2.2.getD i 0).toInt ∧ (q.2.2.2.getD i 0).toInt ≤ 122) : zM' g l yX6_isWord (Cond.code yX6_isWord cX6_isWord 3 (some .boolean) :: zB) ({ frames := 4, cells := 0, slots := 0, locals := 85 } : Room) [.ref ta, .ref k] [bTape g ta ab sz ln kd bg nx ft fb] (fun (r : Int32) => some (.int r)) (fun (r : Int32) => (r = 1 ∧ zisW fb ln.toInt bg.toInt q.2.2.2 ∨ r = 0 ∧ ¬ zisW fb ln.toInt bg.toInt q.2.2.2)) (fun (r : Int32) => [bTape g ta ab sz ln kd bg nx ft fb]) := by
  refine zM'.of (cc := cX6_isWord) (maxL := 3) (rt := (some .boolean)) (by decide) rfl (Nat.le_of_ble_eq_true rfl) ?_
  intro p e s m args below meth c A ls St hr hlocks hin hK hT hA hP hD hS hl
  obtain ⟨hx, hb, hml, hown, hts⟩ := id St
  have hl : lv_has ls 3 [(0, .ref ta), (1, .ref k)] := hl
  obtain ⟨-, hSt⟩ := hT.2.1.2.2 j q hj9
  have hkd9 : kd.toInt = 0 ∨ bg.toInt < nx.toInt := hkd
  refine lv_aload_n hx hb dX6_isWord_0 rfl (lv_at hl 0 rfl) ?_
  refine va_get (D := g.1) (ci := 6) (v := .int kd) (C := RX6) (T := TX6) (N := 7) hx hb hts izRX6 hown hK hP 0 rfl rfl 3 (by decide) (hts _ k258) (fun _ h9 => h9) rfl dX6_isWord_1 ?_
  refine lv_iconst (v := 1) hx hb dX6_isWord_4 (by decide) ?_
  refine lv_icmp_ne (tgt := 24) hx hb dX6_isWord_5 (by decide) (fun cb9 => ?_) (fun cb9 => ?_)
  · skip
    have c1 : ¬ kd.toInt = 1 := zne cb9 rfl (by decide)
    refine lv_iconst (v := 0) hx hb dX6_isWord_24 (by decide) ?_
    have hP : va_P g.1 vwCl (List.flatten [bTape g ta ab sz ln kd bg nx ft fb]) s.heap := hP
    have hD : va_D A (List.flatten [bTape g ta ab sz ln kd bg nx ft fb]) := hD
    exact mret_z hx hb hr hlocks hS (Nat.le_of_ble_eq_true rfl) (Nat.le_of_ble_eq_true rfl) dX6_isWord_25 ((0 : Int32)) rfl (by decide) (show (0 = 1 ∧ zisW fb ln.toInt bg.toInt q.2.2.2 ∨ 0 = 0 ∧ ¬ zisW fb ln.toInt bg.toInt q.2.2.2) from (Or.inr ⟨rfl, zisW_k hTk (by omega)⟩)) hP hD
  · skip
    have c2 : kd.toInt = 1 := zeq cb9 rfl (by decide)
    have n3 : 1 ≤ kd.toInt := Int.le_trans (Int.le_refl _) (Int.le_of_eq c2.symm)
    have n4 : kd.toInt ≤ 1 := Int.le_trans (Int.le_of_eq c2) (Int.le_refl _)
    refine lv_aload_n hx hb dX6_isWord_8 rfl (lv_at hl 1 rfl) ?_
    refine mcallL' (g := g) (As := []) (rest := []) St hK hT hA hP hD hS hl.1 [] [0] rfl rfl rfl (s_length l g k j q hk9 hj9 hql) (cwV 0 hts (zgL (zl4 k262 k263 k264 k223) k218) rfl rfl rfl (by decide +kernel) ⟨Nat.le_of_ble_eq_true rfl, Nat.le_of_ble_eq_true rfl⟩) (by rw [hk9]; exact zSt_recv hSt hS) rfl rfl (Nat.le_of_ble_eq_true rfl) dX6_isWord_9 ⟨(Nat.le_of_ble_eq_true rfl), (Nat.le_of_ble_eq_true rfl)⟩ (fun r_5 H locs hq6 hP hD hS => ?_)
    replace hq6 : (r_5.toInt = (q.2.2.2.length : Int)) := hq6
    have hP : va_P g.1 vwCl (List.flatten [bTape g ta ab sz ln kd bg nx ft fb]) H := hP
    have hD : va_D A (List.flatten [bTape g ta ab sz ln kd bg nx ft fb]) := hD
    refine W.widen (k := 0) (n := 0) (Nat.le_of_ble_eq_true rfl) (Nat.le_of_ble_eq_true rfl) ?_
    refine W.eq (g2 := F0 m 12 ls [.int r_5]) rfl ?_
    refine lv_aload_n hx hb dX6_isWord_12 rfl (lv_at hl 0 rfl) ?_
    refine va_get (D := g.1) (ci := 6) (v := .int nx) (C := RX6) (T := TX6) (N := 7) hx hb hts izRX6 hown hK hP 0 rfl rfl 5 (by decide) (hts _ k259) (fun _ h9 => h9) rfl dX6_isWord_13 ?_
    refine lv_aload_n hx hb dX6_isWord_16 rfl (lv_at hl 0 rfl) ?_
    refine va_get (D := g.1) (ci := 6) (v := .int bg) (C := RX6) (T := TX6) (N := 7) hx hb hts izRX6 hown hK hP 0 rfl rfl 4 (by decide) (hts _ k260) (fun _ h9 => h9) rfl dX6_isWord_17 ?_
    refine lv_isub hx hb dX6_isWord_20 ?_
    refine zg3 (zsubK (i := nx.toInt) (j := bg.toInt) (a' := (-400)) (b' := 400) rfl rfl hnx.1 hnx.2 hbg.1 hbg.2 (by decide)) (fun x_7 hx_7 => ?_)
    refine lv_icmp_eq (tgt := 26) hx hb dX6_isWord_21 (by decide) (fun cb9 => ?_) (fun cb9 => ?_)
    · skip
      have c8 : r_5.toInt = x_7.toInt := zeq cb9 rfl rfl
      refine lv_iconst (v := 0) hx hb dX6_isWord_26 (by decide) ?_
      refine lv_istore_n (lv' := [(2, .int 0), (0, .ref ta), (1, .ref k)]) hx hb dX6_isWord_27 rfl hl (by decide) rfl (fun ls hl => ?_)
      have hl := lv_sub (l' := [(0, .ref ta), (1, .ref k), (2, .int 0)]) hl [1, 2, 0] rfl
      have LP28_12 : ∀ (kf : Nat) (x_9 : Int32), (0 ≤ x_9.toInt ∧ x_9.toInt ≤ 7) → (zpfx fb bg.toInt q.2.2.2 x_9.toInt) → ∀ (H : Heap) (locs : List Loc) (ls : Array Slot), ((8 - x_9.toInt).toNat) < kf → va_P g.1 vwCl (List.flatten [bTape g ta ab sz ln kd bg nx ft fb]) H → va_D A (List.flatten [bTape g ta ab sz ln kd bg nx ft fb]) → va_S A s.heap H locs → lv_has ls 3 [(0, .ref ta), (1, .ref k), (2, .int x_9)] → W p l e ({ frames := 4, cells := 0, slots := 0, locals := 85 } : Room) s m args below meth c H locs (0) (0) (zF g (fun (r : Int32) => some (.int r)) (fun (r : Int32) => (r = 1 ∧ zisW fb ln.toInt bg.toInt q.2.2.2 ∨ r = 0 ∧ ¬ zisW fb ln.toInt bg.toInt q.2.2.2)) (fun (r : Int32) => [bTape g ta ab sz ln kd bg nx ft fb]) ({ frames := 4, cells := 0, slots := 0, locals := 85 } : Room) below args s A) (F0 m 28 ls []) := by
        intro kf
        induction kf with
        | zero => intro x_9 i10 i11 H locs ls hk; exact absurd hk (Nat.not_lt_zero _)
        | succ kf ih28_13 =>
          intro x_9 i10 i11 H locs ls hk28_13 hP hD hS hl
          refine lv_iload_n hx hb dX6_isWord_28 rfl (lv_at hl 2 rfl) ?_
          refine lv_aload_n hx hb dX6_isWord_29 rfl (lv_at hl 1 rfl) ?_
          refine mcallL' (g := g) (As := []) (rest := [.int x_9]) St hK hT hA hP hD hS hl.1 [] [0] rfl rfl rfl (s_length l g k j q hk9 hj9 hql) (cwV 0 hts (zgL (zl4 k262 k263 k264 k223) k218) rfl rfl rfl (by decide +kernel) ⟨Nat.le_of_ble_eq_true rfl, Nat.le_of_ble_eq_true rfl⟩) (by rw [hk9]; exact zSt_recv hSt hS) rfl rfl (Nat.le_of_ble_eq_true rfl) dX6_isWord_30 ⟨(Nat.le_of_ble_eq_true rfl), (Nat.le_of_ble_eq_true rfl)⟩ (fun r_14 H locs hq15 hP hD hS => ?_)
          replace hq15 : (r_14.toInt = (q.2.2.2.length : Int)) := hq15
          have hP : va_P g.1 vwCl (List.flatten [bTape g ta ab sz ln kd bg nx ft fb]) H := hP
          have hD : va_D A (List.flatten [bTape g ta ab sz ln kd bg nx ft fb]) := hD
          refine W.widen (k := 0) (n := 0) (Nat.le_of_ble_eq_true rfl) (Nat.le_of_ble_eq_true rfl) ?_
          refine W.eq (g2 := F0 m 33 ls [.int r_14, .int x_9]) rfl ?_
          refine lv_icmp_ge (tgt := 63) hx hb dX6_isWord_33 (by decide) (fun cb9 => ?_) (fun cb9 => ?_)
          · skip
            have c16 : r_14.toInt ≤ x_9.toInt := zle cb9 rfl rfl
            refine lv_iconst (v := 1) hx hb dX6_isWord_63 (by decide) ?_
            have hP : va_P g.1 vwCl (List.flatten [bTape g ta ab sz ln kd bg nx ft fb]) H := hP
            have hD : va_D A (List.flatten [bTape g ta ab sz ln kd bg nx ft fb]) := hD
            exact mret_z hx hb hr hlocks hS (Nat.le_of_ble_eq_true rfl) (Nat.le_of_ble_eq_true rfl) dX6_isWord_64 ((1 : Int32)) rfl (by decide) (show (1 = 1 ∧ zisW fb ln.toInt bg.toInt q.2.2.2 ∨ 1 = 0 ∧ ¬ zisW fb ln.toInt bg.toInt q.2.2.2) from (Or.inl ⟨rfl, zisW_y hTk (by omega) (hq6) (by omega) i11 (by omega)⟩)) hP hD
          · skip
            have c17 : x_9.toInt < r_14.toInt := zlti (Int32.not_le.mp cb9) rfl rfl
            refine lv_aload_n hx hb dX6_isWord_36 rfl (lv_at hl 0 rfl) ?_
            refine va_get (D := g.1) (ci := 6) (v := .ref ab) (C := RX6) (T := TX6) (N := 7) hx hb hts izRX6 hown hK hP 0 rfl rfl 0 (by decide) (hts _ k261) (fun _ h9 => h9) rfl dX6_isWord_37 ?_
            refine lv_aload_n hx hb dX6_isWord_40 rfl (lv_at hl 0 rfl) ?_
            refine va_get (D := g.1) (ci := 6) (v := .int bg) (C := RX6) (T := TX6) (N := 7) hx hb hts izRX6 hown hK hP 0 rfl rfl 4 (by decide) (hts _ k260) (fun _ h9 => h9) rfl dX6_isWord_41 ?_
            refine lv_iload_n hx hb dX6_isWord_44 rfl (lv_at hl 2 rfl) ?_
            refine lv_iadd hx hb dX6_isWord_45 ?_
            refine zgv (zadd (i := bg.toInt) (j := x_9.toInt) rfl rfl (by omega)) (fun x_18 hx_18 => ?_)
            refine va_iald hx hb hK hP 1 0 rfl rfl (zinI (by omega) (by omega)) dX6_isWord_46 ?_
            refine lv_aload_n hx hb dX6_isWord_47 rfl (lv_at hl 1 rfl) ?_
            refine lv_iload_n hx hb dX6_isWord_48 rfl (lv_at hl 2 rfl) ?_
            refine mcallL' (g := g) (As := [.int x_9]) (rest := [.int (fb x_18.toNatClampNeg)]) St hK hT hA hP hD hS hl.1 [] [0] rfl rfl rfl (s_charF l g k j q x_9 hk9 hj9 hql (by first | assumption | omega | decide | exact Or.inl (by decide) | exact Or.inr (by decide)) (by first | assumption | omega | decide | exact Or.inl (by decide) | exact Or.inr (by decide))) (cwV 1 hts (zgL (zl4 k265 k266 k267 k223) k257) rfl rfl rfl (by decide +kernel) ⟨Nat.le_of_ble_eq_true rfl, Nat.le_of_ble_eq_true rfl⟩) (by rw [hk9]; exact zSt_recv hSt hS) rfl rfl (Nat.le_of_ble_eq_true rfl) dX6_isWord_49 ⟨(Nat.le_of_ble_eq_true rfl), (Nat.le_of_ble_eq_true rfl)⟩ (fun r_19 H locs hq20 hP hD hS => ?_)
            replace hq20 : (narrow .char (.int r_19) = .int r_19) ∧ (r_19 = q.2.2.2.getD x_9.toInt.toNat 0) := hq20
            have hP : va_P g.1 vwCl (List.flatten [bTape g ta ab sz ln kd bg nx ft fb]) H := hP
            have hD : va_D A (List.flatten [bTape g ta ab sz ln kd bg nx ft fb]) := hD
            refine W.widen (k := 0) (n := 0) (Nat.le_of_ble_eq_true rfl) (Nat.le_of_ble_eq_true rfl) ?_
            refine W.eq (g2 := F0 m 52 ls [.int r_19, .int (fb x_18.toNatClampNeg)]) rfl ?_
            obtain ⟨hq20_0, hq20_1⟩ := hq20
            refine lv_icmp_eq (tgt := 57) hx hb dX6_isWord_52 (by decide) (fun cb9 => ?_) (fun cb9 => ?_)
            · skip
              have c21 : (fb x_18.toNatClampNeg).toInt = r_19.toInt := zeq cb9 rfl rfl
              refine ziinc (j := x_9.toInt + 1) (lv' := fun v9 => [(2, .int v9), (0, .ref ta), (1, .ref k)]) hx hb dX6_isWord_57 hl (k := 2) rfl (by decide) (fun _ => rfl) (zadd (i := x_9.toInt) (j := 1) rfl (by decide) (by omega)) (fun x_22 ls hx_22 hl => ?_)
              refine lv_goto (tgt := 28) hx hb dX6_isWord_60 (by decide) ?_
              have hl := lv_sub (l' := [(0, .ref ta), (1, .ref k), (2, .int x_22)]) hl [1, 2, 0] rfl
              have hP : va_P g.1 vwCl (List.flatten [bTape g ta ab sz ln kd bg nx ft fb]) H := hP
              have hD : va_D A (List.flatten [bTape g ta ab sz ln kd bg nx ft fb]) := hD
              exact ih28_13 x_22 (by first | omega | assumption | decide) (zpfx_s (x := x_18) (z := x_9) i11 (by omega) rfl (by omega) (by omega) hx_22 c21 hq20_1) H _ ls (by omega)  hP hD hS (lv_sub hl [0, 1, 2] rfl)
            · skip
              have c23 : ¬ (fb x_18.toNatClampNeg).toInt = r_19.toInt := zne cb9 rfl rfl
              refine lv_iconst (v := 0) hx hb dX6_isWord_55 (by decide) ?_
              have hP : va_P g.1 vwCl (List.flatten [bTape g ta ab sz ln kd bg nx ft fb]) H := hP
              have hD : va_D A (List.flatten [bTape g ta ab sz ln kd bg nx ft fb]) := hD
              exact mret_z hx hb hr hlocks hS (Nat.le_of_ble_eq_true rfl) (Nat.le_of_ble_eq_true rfl) dX6_isWord_56 ((0 : Int32)) rfl (by decide) (show (0 = 1 ∧ zisW fb ln.toInt bg.toInt q.2.2.2 ∨ 0 = 0 ∧ ¬ zisW fb ln.toInt bg.toInt q.2.2.2) from (Or.inr ⟨rfl, fun h9 => zpfx_x (x := x_18) (z := x_9) (by omega) (by omega) (by omega) (by omega) c23 hq20_1 h9.2.2⟩)) hP hD
      have hL0 : (0 : Int32).toInt = 0 := by decide
      have hP : va_P g.1 vwCl (List.flatten [bTape g ta ab sz ln kd bg nx ft fb]) H := hP
      have hD : va_D A (List.flatten [bTape g ta ab sz ln kd bg nx ft fb]) := hD
      exact LP28_12 _ 0 (by decide) (zpfx0 _ _ _) H _ ls (Nat.lt_succ_self _)  hP hD hS (lv_sub hl [0, 1, 2] rfl)
    · skip
      have c24 : ¬ r_5.toInt = x_7.toInt := zne cb9 rfl rfl
      refine lv_iconst (v := 0) hx hb dX6_isWord_24 (by decide) ?_
      have hP : va_P g.1 vwCl (List.flatten [bTape g ta ab sz ln kd bg nx ft fb]) H := hP
      have hD : va_D A (List.flatten [bTape g ta ab sz ln kd bg nx ft fb]) := hD
      exact mret_z hx hb hr hlocks hS (Nat.le_of_ble_eq_true rfl) (Nat.le_of_ble_eq_true rfl) dX6_isWord_25 ((0 : Int32)) rfl (by decide) (show (0 = 1 ∧ zisW fb ln.toInt bg.toInt q.2.2.2 ∨ 0 = 0 ∧ ¬ zisW fb ln.toInt bg.toInt q.2.2.2) from (Or.inr ⟨rfl, zisW_l hTk (hq6) (by omega)⟩)) hP hD
set_option maxRecDepth 100000 in
set_option maxHeartbeats 4000000 in
theorem c_t_isSignF (l : Launch) (g : zG) (ta : Nat) (ab : Nat) (sz : Int32) (ln : Int32) (kd : Int32) (bg : Int32) (nx : Int32) (ft : Int32) (fb : Nat → Int32) (sg : Int32) (hln : 0 ≤ ln.toInt ∧ ln.toInt ≤ 400) (hnx : 0 ≤ nx.toInt ∧ nx.toInt ≤ 400) (hbg : 0 ≤ bg.toInt ∧ bg.toInt ≤ 400) (hkd : zKd kd.toInt bg.toInt nx.toInt) (hTk : zTk fb ln.toInt kd.toInt bg.toInt nx.toInt) : zM' g l yX6_isSign (Cond.code yX6_isSign cX6_isSign 2 (some .boolean) :: zB) ({ frames := 0, cells := 0, slots := 0, locals := 0 } : Room) [.ref ta, .int sg] [bTape g ta ab sz ln kd bg nx ft fb] (fun (q : Int32) => some (.int q)) (fun (q : Int32) => (q = 1 ∧ zisS fb ln.toInt bg.toInt sg.toInt ∨ q = 0 ∧ ¬ zisS fb ln.toInt bg.toInt sg.toInt)) (fun (q : Int32) => [bTape g ta ab sz ln kd bg nx ft fb]) := by
  refine zM'.of (cc := cX6_isSign) (maxL := 2) (rt := (some .boolean)) (by decide) rfl (Nat.le_of_ble_eq_true rfl) ?_
  intro p e s m args below meth c A ls St hr hlocks hin hK hT hA hP hD hS hl
  obtain ⟨hx, hb, hml, hown, hts⟩ := id St
  have hl : lv_has ls 2 [(0, .ref ta), (1, .int sg)] := hl
  have hkd9 : kd.toInt = 0 ∨ bg.toInt < nx.toInt := hkd
  refine lv_aload_n hx hb dX6_isSign_0 rfl (lv_at hl 0 rfl) ?_
  refine va_get (D := g.1) (ci := 6) (v := .int kd) (C := RX6) (T := TX6) (N := 7) hx hb hts izRX6 hown hK hP 0 rfl rfl 3 (by decide) (hts _ k258) (fun _ h9 => h9) rfl dX6_isSign_1 ?_
  refine lv_iconst (v := 3) hx hb dX6_isSign_4 (by decide) ?_
  refine lv_icmp_ne (tgt := 25) hx hb dX6_isSign_5 (by decide) (fun cb9 => ?_) (fun cb9 => ?_)
  · skip
    have c1 : ¬ kd.toInt = 3 := zne cb9 rfl (by decide)
    refine lv_iconst (v := 0) hx hb dX6_isSign_25 (by decide) ?_
    have hP : va_P g.1 vwCl (List.flatten [bTape g ta ab sz ln kd bg nx ft fb]) s.heap := hP
    have hD : va_D A (List.flatten [bTape g ta ab sz ln kd bg nx ft fb]) := hD
    exact mret_z hx hb hr hlocks hS (Nat.le_of_ble_eq_true rfl) (Nat.le_of_ble_eq_true rfl) dX6_isSign_26 ((0 : Int32)) rfl (by decide) (show (0 = 1 ∧ zisS fb ln.toInt bg.toInt sg.toInt ∨ 0 = 0 ∧ ¬ zisS fb ln.toInt bg.toInt sg.toInt) from (Or.inr ⟨rfl, zisS_k hTk (by omega)⟩)) hP hD
  · skip
    have c2 : kd.toInt = 3 := zeq cb9 rfl (by decide)
    have n3 : 3 ≤ kd.toInt := Int.le_trans (Int.le_refl _) (Int.le_of_eq c2.symm)
    have n4 : kd.toInt ≤ 3 := Int.le_trans (Int.le_of_eq c2) (Int.le_refl _)
    refine lv_aload_n hx hb dX6_isSign_8 rfl (lv_at hl 0 rfl) ?_
    refine va_get (D := g.1) (ci := 6) (v := .ref ab) (C := RX6) (T := TX6) (N := 7) hx hb hts izRX6 hown hK hP 0 rfl rfl 0 (by decide) (hts _ k261) (fun _ h9 => h9) rfl dX6_isSign_9 ?_
    refine lv_aload_n hx hb dX6_isSign_12 rfl (lv_at hl 0 rfl) ?_
    refine va_get (D := g.1) (ci := 6) (v := .int bg) (C := RX6) (T := TX6) (N := 7) hx hb hts izRX6 hown hK hP 0 rfl rfl 4 (by decide) (hts _ k260) (fun _ h9 => h9) rfl dX6_isSign_13 ?_
    refine va_iald hx hb hK hP 1 0 rfl rfl (zinI (by omega) (by omega)) dX6_isSign_16 ?_
    refine lv_iload_n hx hb dX6_isSign_17 rfl (lv_at hl 1 rfl) ?_
    refine lv_icmp_ne (tgt := 25) hx hb dX6_isSign_18 (by decide) (fun cb9 => ?_) (fun cb9 => ?_)
    · skip
      have c5 : ¬ (fb bg.toNatClampNeg).toInt = sg.toInt := zne cb9 rfl rfl
      refine lv_iconst (v := 0) hx hb dX6_isSign_25 (by decide) ?_
      have hP : va_P g.1 vwCl (List.flatten [bTape g ta ab sz ln kd bg nx ft fb]) s.heap := hP
      have hD : va_D A (List.flatten [bTape g ta ab sz ln kd bg nx ft fb]) := hD
      exact mret_z hx hb hr hlocks hS (Nat.le_of_ble_eq_true rfl) (Nat.le_of_ble_eq_true rfl) dX6_isSign_26 ((0 : Int32)) rfl (by decide) (show (0 = 1 ∧ zisS fb ln.toInt bg.toInt sg.toInt ∨ 0 = 0 ∧ ¬ zisS fb ln.toInt bg.toInt sg.toInt) from (Or.inr ⟨rfl, zisS_c c5⟩)) hP hD
    · skip
      have c6 : (fb bg.toNatClampNeg).toInt = sg.toInt := zeq cb9 rfl rfl
      refine lv_iconst (v := 1) hx hb dX6_isSign_21 (by decide) ?_
      refine lv_goto (tgt := 26) hx hb dX6_isSign_22 (by decide) ?_
      have hP : va_P g.1 vwCl (List.flatten [bTape g ta ab sz ln kd bg nx ft fb]) s.heap := hP
      have hD : va_D A (List.flatten [bTape g ta ab sz ln kd bg nx ft fb]) := hD
      exact mret_z hx hb hr hlocks hS (Nat.le_of_ble_eq_true rfl) (Nat.le_of_ble_eq_true rfl) dX6_isSign_26 ((1 : Int32)) rfl (by decide) (show (1 = 1 ∧ zisS fb ln.toInt bg.toInt sg.toInt ∨ 1 = 0 ∧ ¬ zisS fb ln.toInt bg.toInt sg.toInt) from (Or.inl ⟨rfl, zisS_y hTk (by omega) c6⟩)) hP hD
set_option maxRecDepth 100000 in
set_option maxHeartbeats 4000000 in
theorem c_t_takeWordF (l : Launch) (g : zG) (ta : Nat) (ab : Nat) (sz : Int32) (ln : Int32) (kd : Int32) (bg : Int32) (nx : Int32) (ft : Int32) (fb : Nat → Int32) (k : Nat) (j : Nat) (q : String × Nat × String × List Int32) (hln : 0 ≤ ln.toInt ∧ ln.toInt ≤ 400) (hnx : 0 ≤ nx.toInt ∧ nx.toInt ≤ 400) (hbg : 0 ≤ bg.toInt ∧ bg.toInt ≤ 400) (hkd : zKd kd.toInt bg.toInt nx.toInt) (hTk : zTk fb ln.toInt kd.toInt bg.toInt nx.toInt) (hk9 : k = g.2 (10 + 2 * j)) (hj9 : zLit[j]? = some q) (hql : 1 ≤ q.2.2.2.length ∧ q.2.2.2.length ≤ 7) (hbs : ∀ i : Nat, i < q.2.2.2.length → 97 ≤ (q.2.2.2.getD i 0).toInt ∧ (q.2.2.2.getD i 0).toInt ≤ 122) : zM' g l yX6_takeWord (Cond.code yX6_takeWord cX6_takeWord 2 (some .boolean) :: zB) ({ frames := 5, cells := 0, slots := 0, locals := 107 } : Room) [.ref ta, .ref k] [bTape g ta ab sz ln kd bg nx ft fb] (fun u : Int32 × Int32 × Int32 × Int32 => (fun (kd2 : Int32) (bg2 : Int32) (nx2 : Int32) (r : Int32) => some (.int r)) (u.1) (u.2.1) (u.2.2.1) (u.2.2.2)) (fun u : Int32 × Int32 × Int32 × Int32 => (fun (kd2 : Int32) (bg2 : Int32) (nx2 : Int32) (r : Int32) => (0 ≤ nx2.toInt ∧ nx2.toInt ≤ 400) ∧ (0 ≤ bg2.toInt ∧ bg2.toInt ≤ 400) ∧ (zKd kd2.toInt bg2.toInt nx2.toInt) ∧ (zTk fb ln.toInt kd2.toInt bg2.toInt nx2.toInt) ∧ (r = 1 ∧ zisW fb ln.toInt bg.toInt q.2.2.2 ∧ zMv fb ln.toInt bg.toInt bg2.toInt ∨ r = 0 ∧ ¬ zisW fb ln.toInt bg.toInt q.2.2.2 ∧ kd = kd2 ∧ bg = bg2 ∧ nx = nx2)) (u.1) (u.2.1) (u.2.2.1) (u.2.2.2)) (fun u : Int32 × Int32 × Int32 × Int32 => (fun (kd2 : Int32) (bg2 : Int32) (nx2 : Int32) (r : Int32) => [bTape g ta ab sz ln kd2 bg2 nx2 ft fb]) (u.1) (u.2.1) (u.2.2.1) (u.2.2.2)) := by
  refine zM'.of (cc := cX6_takeWord) (maxL := 2) (rt := (some .boolean)) (by decide) rfl (Nat.le_of_ble_eq_true rfl) ?_
  intro p e s m args below meth c A ls St hr hlocks hin hK hT hA hP hD hS hl
  obtain ⟨hx, hb, hml, hown, hts⟩ := id St
  have hl : lv_has ls 2 [(0, .ref ta), (1, .ref k)] := hl
  have hkd9 : kd.toInt = 0 ∨ bg.toInt < nx.toInt := hkd
  refine lv_aload_n hx hb dX6_takeWord_0 rfl (lv_at hl 0 rfl) ?_
  refine lv_aload_n hx hb dX6_takeWord_1 rfl (lv_at hl 1 rfl) ?_
  refine mcallV' (g := g) (q0 := 0) (ci := 6) (As := [.ref k]) (rest := []) St hK hT hA hP hD hS hl.1 [0] [] rfl rfl rfl (c_t_isWordF l g ta ab sz ln kd bg nx ft fb k j q hln hnx hbg hkd hTk hk9 hj9 hql hbs) (cwV 1 hts (zgL (zl4 k281 k282 k283 k277) k268) rfl rfl rfl (by decide +kernel) ⟨Nat.le_of_ble_eq_true rfl, Nat.le_of_ble_eq_true rfl⟩) rfl rfl rfl rfl (Nat.le_of_ble_eq_true rfl) dX6_takeWord_2 ⟨(Nat.le_of_ble_eq_true rfl), (Nat.le_of_ble_eq_true rfl)⟩ (fun r_1 H locs hq2 hP hD hS => ?_)
  replace hq2 : (r_1 = 1 ∧ zisW fb ln.toInt bg.toInt q.2.2.2 ∨ r_1 = 0 ∧ ¬ zisW fb ln.toInt bg.toInt q.2.2.2) := hq2
  have hP : va_P g.1 vwCl (List.flatten [bTape g ta ab sz ln kd bg nx ft fb]) H := hP
  have hD : va_D A (List.flatten [bTape g ta ab sz ln kd bg nx ft fb]) := hD
  refine W.widen (k := 0) (n := 0) (Nat.le_of_ble_eq_true rfl) (Nat.le_of_ble_eq_true rfl) ?_
  refine W.eq (g2 := F0 m 5 ls [.int r_1]) rfl ?_
  rcases hq2 with ⟨rfl, hq2_k⟩ | ⟨rfl, hq2_k⟩
  · skip
    refine lv_if_ne (tgt := 10) hx hb dX6_takeWord_5 (by decide) (fun _ => ?_) (fun c3 => absurd c3 (by decide))
    refine lv_aload_n hx hb dX6_takeWord_10 rfl (lv_at hl 0 rfl) ?_
    refine mcallV' (g := g) (q0 := 0) (ci := 6) (As := []) (rest := []) St hK hT hA hP hD hS hl.1 [0] [] rfl rfl rfl (c_t_stepF l g ta ab sz ln kd bg nx ft fb hln hnx) (cwV 0 hts (zgL (zl4 k274 k275 k276 k277) k271) rfl rfl rfl (by decide +kernel) ⟨Nat.le_of_ble_eq_true rfl, Nat.le_of_ble_eq_true rfl⟩) rfl rfl rfl rfl (Nat.le_of_ble_eq_true rfl) dX6_takeWord_11 ⟨(Nat.le_of_ble_eq_true rfl), (Nat.le_of_ble_eq_true rfl)⟩ (fun u_ H locs hq7 hP hD hS => ?_)
    obtain ⟨kd2_4, bg2_5, nx2_6⟩ := u_
    replace hq7 : (0 ≤ nx2_6.toInt ∧ nx2_6.toInt ≤ 400) ∧ (0 ≤ bg2_5.toInt ∧ bg2_5.toInt ≤ 400) ∧ (zKd kd2_4.toInt bg2_5.toInt nx2_6.toInt) ∧ (zSk fb ln.toInt nx.toInt bg2_5.toInt) ∧ (zTk fb ln.toInt kd2_4.toInt bg2_5.toInt nx2_6.toInt) := hq7
    have hP : va_P g.1 vwCl (List.flatten [bTape g ta ab sz ln kd2_4 bg2_5 nx2_6 ft fb]) H := hP
    have hD : va_D A (List.flatten [bTape g ta ab sz ln kd2_4 bg2_5 nx2_6 ft fb]) := hD
    refine W.widen (k := 0) (n := 0) (Nat.le_of_ble_eq_true rfl) (Nat.le_of_ble_eq_true rfl) ?_
    refine W.eq (g2 := F0 m 14 ls []) rfl ?_
    obtain ⟨hq7_0, hq7_1, hq7_2, hq7_3, hq7_4⟩ := hq7
    refine lv_iconst (v := 1) hx hb dX6_takeWord_14 (by decide) ?_
    have hP : va_P g.1 vwCl (List.flatten [bTape g ta ab sz ln kd2_4 bg2_5 nx2_6 ft fb]) H := hP
    have hD : va_D A (List.flatten [bTape g ta ab sz ln kd2_4 bg2_5 nx2_6 ft fb]) := hD
    exact mret_z hx hb hr hlocks hS (Nat.le_of_ble_eq_true rfl) (Nat.le_of_ble_eq_true rfl) dX6_takeWord_15 (kd2_4, bg2_5, nx2_6, (1 : Int32)) rfl (by decide) (show (0 ≤ nx2_6.toInt ∧ nx2_6.toInt ≤ 400) ∧ (0 ≤ bg2_5.toInt ∧ bg2_5.toInt ≤ 400) ∧ (zKd kd2_4.toInt bg2_5.toInt nx2_6.toInt) ∧ (zTk fb ln.toInt kd2_4.toInt bg2_5.toInt nx2_6.toInt) ∧ (1 = 1 ∧ zisW fb ln.toInt bg.toInt q.2.2.2 ∧ zMv fb ln.toInt bg.toInt bg2_5.toInt ∨ 1 = 0 ∧ ¬ zisW fb ln.toInt bg.toInt q.2.2.2 ∧ kd = kd2_4 ∧ bg = bg2_5 ∧ nx = nx2_6) from ⟨(by first | assumption | omega | exact Or.inl (by decide) | exact Or.inr (by omega)), (by first | assumption | omega | exact Or.inl (by decide) | exact Or.inr (by omega)), (by first | assumption | omega | exact Or.inl (by decide) | exact Or.inr (by omega)), hq7_4, (Or.inl ⟨rfl, hq2_k, zMv_mk hTk hq7_3⟩)⟩) hP hD
  · skip
    refine lv_if_ne (tgt := 10) hx hb dX6_takeWord_5 (by decide) (fun c8 => absurd (by decide) c8) (fun _ => ?_)
    refine lv_iconst (v := 0) hx hb dX6_takeWord_8 (by decide) ?_
    have hP : va_P g.1 vwCl (List.flatten [bTape g ta ab sz ln kd bg nx ft fb]) H := hP
    have hD : va_D A (List.flatten [bTape g ta ab sz ln kd bg nx ft fb]) := hD
    exact mret_z hx hb hr hlocks hS (Nat.le_of_ble_eq_true rfl) (Nat.le_of_ble_eq_true rfl) dX6_takeWord_9 (kd, bg, nx, (0 : Int32)) rfl (by decide) (show (0 ≤ nx.toInt ∧ nx.toInt ≤ 400) ∧ (0 ≤ bg.toInt ∧ bg.toInt ≤ 400) ∧ (zKd kd.toInt bg.toInt nx.toInt) ∧ (zTk fb ln.toInt kd.toInt bg.toInt nx.toInt) ∧ (0 = 1 ∧ zisW fb ln.toInt bg.toInt q.2.2.2 ∧ zMv fb ln.toInt bg.toInt bg.toInt ∨ 0 = 0 ∧ ¬ zisW fb ln.toInt bg.toInt q.2.2.2 ∧ kd = kd ∧ bg = bg ∧ nx = nx) from ⟨(by first | assumption | omega | exact Or.inl (by decide) | exact Or.inr (by omega)), (by first | assumption | omega | exact Or.inl (by decide) | exact Or.inr (by omega)), (by first | assumption | omega | exact Or.inl (by decide) | exact Or.inr (by omega)), hTk, (Or.inr ⟨rfl, hq2_k, rfl, rfl, rfl⟩)⟩) hP hD
set_option maxRecDepth 100000 in
set_option maxHeartbeats 4000000 in
theorem c_t_takeSignF (l : Launch) (g : zG) (ta : Nat) (ab : Nat) (sz : Int32) (ln : Int32) (kd : Int32) (bg : Int32) (nx : Int32) (ft : Int32) (fb : Nat → Int32) (sg : Int32) (hln : 0 ≤ ln.toInt ∧ ln.toInt ≤ 400) (hnx : 0 ≤ nx.toInt ∧ nx.toInt ≤ 400) (hbg : 0 ≤ bg.toInt ∧ bg.toInt ≤ 400) (hkd : zKd kd.toInt bg.toInt nx.toInt) (hTk : zTk fb ln.toInt kd.toInt bg.toInt nx.toInt) : zM' g l yX6_takeSign (Cond.code yX6_takeSign cX6_takeSign 2 (some .boolean) :: zB) ({ frames := 1, cells := 0, slots := 0, locals := 21 } : Room) [.ref ta, .int sg] [bTape g ta ab sz ln kd bg nx ft fb] (fun u : Int32 × Int32 × Int32 × Int32 => (fun (kd2 : Int32) (bg2 : Int32) (nx2 : Int32) (q : Int32) => some (.int q)) (u.1) (u.2.1) (u.2.2.1) (u.2.2.2)) (fun u : Int32 × Int32 × Int32 × Int32 => (fun (kd2 : Int32) (bg2 : Int32) (nx2 : Int32) (q : Int32) => (0 ≤ nx2.toInt ∧ nx2.toInt ≤ 400) ∧ (0 ≤ bg2.toInt ∧ bg2.toInt ≤ 400) ∧ (zKd kd2.toInt bg2.toInt nx2.toInt) ∧ (zTk fb ln.toInt kd2.toInt bg2.toInt nx2.toInt) ∧ (q = 1 ∧ zisS fb ln.toInt bg.toInt sg.toInt ∧ zMv fb ln.toInt bg.toInt bg2.toInt ∨ q = 0 ∧ ¬ zisS fb ln.toInt bg.toInt sg.toInt ∧ kd = kd2 ∧ bg = bg2 ∧ nx = nx2)) (u.1) (u.2.1) (u.2.2.1) (u.2.2.2)) (fun u : Int32 × Int32 × Int32 × Int32 => (fun (kd2 : Int32) (bg2 : Int32) (nx2 : Int32) (q : Int32) => [bTape g ta ab sz ln kd2 bg2 nx2 ft fb]) (u.1) (u.2.1) (u.2.2.1) (u.2.2.2)) := by
  refine zM'.of (cc := cX6_takeSign) (maxL := 2) (rt := (some .boolean)) (by decide) rfl (Nat.le_of_ble_eq_true rfl) ?_
  intro p e s m args below meth c A ls St hr hlocks hin hK hT hA hP hD hS hl
  obtain ⟨hx, hb, hml, hown, hts⟩ := id St
  have hl : lv_has ls 2 [(0, .ref ta), (1, .int sg)] := hl
  have hkd9 : kd.toInt = 0 ∨ bg.toInt < nx.toInt := hkd
  refine lv_aload_n hx hb dX6_takeSign_0 rfl (lv_at hl 0 rfl) ?_
  refine lv_iload_n hx hb dX6_takeSign_1 rfl (lv_at hl 1 rfl) ?_
  refine mcallV' (g := g) (q0 := 0) (ci := 6) (As := [.int sg]) (rest := []) St hK hT hA hP hD hS hl.1 [0] [] rfl rfl rfl (c_t_isSignF l g ta ab sz ln kd bg nx ft fb sg hln hnx hbg hkd hTk) (cwV 1 hts (zgL (zl4 k287 k288 k289 k277) k285) rfl rfl rfl (by decide +kernel) ⟨Nat.le_of_ble_eq_true rfl, Nat.le_of_ble_eq_true rfl⟩) rfl rfl rfl rfl (Nat.le_of_ble_eq_true rfl) dX6_takeSign_2 ⟨(Nat.le_of_ble_eq_true rfl), (Nat.le_of_ble_eq_true rfl)⟩ (fun q_1 H locs hq2 hP hD hS => ?_)
  replace hq2 : (q_1 = 1 ∧ zisS fb ln.toInt bg.toInt sg.toInt ∨ q_1 = 0 ∧ ¬ zisS fb ln.toInt bg.toInt sg.toInt) := hq2
  have hP : va_P g.1 vwCl (List.flatten [bTape g ta ab sz ln kd bg nx ft fb]) H := hP
  have hD : va_D A (List.flatten [bTape g ta ab sz ln kd bg nx ft fb]) := hD
  refine W.widen (k := 0) (n := 0) (Nat.le_of_ble_eq_true rfl) (Nat.le_of_ble_eq_true rfl) ?_
  refine W.eq (g2 := F0 m 5 ls [.int q_1]) rfl ?_
  rcases hq2 with ⟨rfl, hq2_k⟩ | ⟨rfl, hq2_k⟩
  · skip
    refine lv_if_ne (tgt := 10) hx hb dX6_takeSign_5 (by decide) (fun _ => ?_) (fun c3 => absurd c3 (by decide))
    refine lv_aload_n hx hb dX6_takeSign_10 rfl (lv_at hl 0 rfl) ?_
    refine mcallV' (g := g) (q0 := 0) (ci := 6) (As := []) (rest := []) St hK hT hA hP hD hS hl.1 [0] [] rfl rfl rfl (c_t_stepF l g ta ab sz ln kd bg nx ft fb hln hnx) (cwV 0 hts (zgL (zl4 k274 k275 k276 k277) k271) rfl rfl rfl (by decide +kernel) ⟨Nat.le_of_ble_eq_true rfl, Nat.le_of_ble_eq_true rfl⟩) rfl rfl rfl rfl (Nat.le_of_ble_eq_true rfl) dX6_takeSign_11 ⟨(Nat.le_of_ble_eq_true rfl), (Nat.le_of_ble_eq_true rfl)⟩ (fun u_ H locs hq7 hP hD hS => ?_)
    obtain ⟨kd2_4, bg2_5, nx2_6⟩ := u_
    replace hq7 : (0 ≤ nx2_6.toInt ∧ nx2_6.toInt ≤ 400) ∧ (0 ≤ bg2_5.toInt ∧ bg2_5.toInt ≤ 400) ∧ (zKd kd2_4.toInt bg2_5.toInt nx2_6.toInt) ∧ (zSk fb ln.toInt nx.toInt bg2_5.toInt) ∧ (zTk fb ln.toInt kd2_4.toInt bg2_5.toInt nx2_6.toInt) := hq7
    have hP : va_P g.1 vwCl (List.flatten [bTape g ta ab sz ln kd2_4 bg2_5 nx2_6 ft fb]) H := hP
    have hD : va_D A (List.flatten [bTape g ta ab sz ln kd2_4 bg2_5 nx2_6 ft fb]) := hD
    refine W.widen (k := 0) (n := 0) (Nat.le_of_ble_eq_true rfl) (Nat.le_of_ble_eq_true rfl) ?_
    refine W.eq (g2 := F0 m 14 ls []) rfl ?_
    obtain ⟨hq7_0, hq7_1, hq7_2, hq7_3, hq7_4⟩ := hq7
    refine lv_iconst (v := 1) hx hb dX6_takeSign_14 (by decide) ?_
    have hP : va_P g.1 vwCl (List.flatten [bTape g ta ab sz ln kd2_4 bg2_5 nx2_6 ft fb]) H := hP
    have hD : va_D A (List.flatten [bTape g ta ab sz ln kd2_4 bg2_5 nx2_6 ft fb]) := hD
    exact mret_z hx hb hr hlocks hS (Nat.le_of_ble_eq_true rfl) (Nat.le_of_ble_eq_true rfl) dX6_takeSign_15 (kd2_4, bg2_5, nx2_6, (1 : Int32)) rfl (by decide) (show (0 ≤ nx2_6.toInt ∧ nx2_6.toInt ≤ 400) ∧ (0 ≤ bg2_5.toInt ∧ bg2_5.toInt ≤ 400) ∧ (zKd kd2_4.toInt bg2_5.toInt nx2_6.toInt) ∧ (zTk fb ln.toInt kd2_4.toInt bg2_5.toInt nx2_6.toInt) ∧ (1 = 1 ∧ zisS fb ln.toInt bg.toInt sg.toInt ∧ zMv fb ln.toInt bg.toInt bg2_5.toInt ∨ 1 = 0 ∧ ¬ zisS fb ln.toInt bg.toInt sg.toInt ∧ kd = kd2_4 ∧ bg = bg2_5 ∧ nx = nx2_6) from ⟨(by first | assumption | omega | exact Or.inl (by decide) | exact Or.inr (by omega)), (by first | assumption | omega | exact Or.inl (by decide) | exact Or.inr (by omega)), (by first | assumption | omega | exact Or.inl (by decide) | exact Or.inr (by omega)), hq7_4, (Or.inl ⟨rfl, hq2_k, zMv_mk hTk hq7_3⟩)⟩) hP hD
  · skip
    refine lv_if_ne (tgt := 10) hx hb dX6_takeSign_5 (by decide) (fun c8 => absurd (by decide) c8) (fun _ => ?_)
    refine lv_iconst (v := 0) hx hb dX6_takeSign_8 (by decide) ?_
    have hP : va_P g.1 vwCl (List.flatten [bTape g ta ab sz ln kd bg nx ft fb]) H := hP
    have hD : va_D A (List.flatten [bTape g ta ab sz ln kd bg nx ft fb]) := hD
    exact mret_z hx hb hr hlocks hS (Nat.le_of_ble_eq_true rfl) (Nat.le_of_ble_eq_true rfl) dX6_takeSign_9 (kd, bg, nx, (0 : Int32)) rfl (by decide) (show (0 ≤ nx.toInt ∧ nx.toInt ≤ 400) ∧ (0 ≤ bg.toInt ∧ bg.toInt ≤ 400) ∧ (zKd kd.toInt bg.toInt nx.toInt) ∧ (zTk fb ln.toInt kd.toInt bg.toInt nx.toInt) ∧ (0 = 1 ∧ zisS fb ln.toInt bg.toInt sg.toInt ∧ zMv fb ln.toInt bg.toInt bg.toInt ∨ 0 = 0 ∧ ¬ zisS fb ln.toInt bg.toInt sg.toInt ∧ kd = kd ∧ bg = bg ∧ nx = nx) from ⟨(by first | assumption | omega | exact Or.inl (by decide) | exact Or.inr (by omega)), (by first | assumption | omega | exact Or.inl (by decide) | exact Or.inr (by omega)), (by first | assumption | omega | exact Or.inl (by decide) | exact Or.inr (by omega)), hTk, (Or.inr ⟨rfl, hq2_k, rfl, rfl, rfl⟩)⟩) hP hD
set_option maxRecDepth 100000 in
set_option maxHeartbeats 4000000 in
theorem c_t_refuseF (l : Launch) (g : zG) (ta : Nat) (ab : Nat) (sz : Int32) (ln : Int32) (kd : Int32) (bg : Int32) (nx : Int32) (fb : Nat → Int32)  : zM' g l yX6_refuse (Cond.code yX6_refuse cX6_refuse 1 (some .boolean) :: zB) ({ frames := 0, cells := 0, slots := 0, locals := 0 } : Room) [.ref ta] [bTape g ta ab sz ln kd bg nx (-1) fb] (fun _ : Unit => some (.int 0)) (fun _ : Unit => True) (fun _ : Unit => [bTape g ta ab sz ln kd bg nx bg fb]) := by
  refine zM'.of (cc := cX6_refuse) (maxL := 1) (rt := (some .boolean)) (by decide) rfl (Nat.le_of_ble_eq_true rfl) ?_
  intro p e s m args below meth c A ls St hr hlocks hin hK hT hA hP hD hS hl
  obtain ⟨hx, hb, hml, hown, hts⟩ := id St
  have hl : lv_has ls 1 [(0, .ref ta)] := hl
  refine lv_aload_n hx hb dX6_refuse_0 rfl (lv_at hl 0 rfl) ?_
  refine va_get (D := g.1) (ci := 6) (v := .int (-1)) (C := RX6) (T := TX6) (N := 7) hx hb hts izRX6 hown hK hP 0 rfl rfl 6 (by decide) (hts _ k270) (fun _ h9 => h9) rfl dX6_refuse_1 ?_
  refine lv_iconst (v := (-1)) hx hb dX6_refuse_4 (by decide) ?_
  refine lv_icmp_ne (tgt := 16) hx hb dX6_refuse_5 (by decide) (fun c1 => absurd (by decide) c1) (fun _ => ?_)
  refine lv_aload_n hx hb dX6_refuse_8 rfl (lv_at hl 0 rfl) ?_
  refine lv_aload_n hx hb dX6_refuse_9 rfl (lv_at hl 0 rfl) ?_
  refine va_get (D := g.1) (ci := 6) (v := .int bg) (C := RX6) (T := TX6) (N := 7) hx hb hts izRX6 hown hK hP 0 rfl rfl 4 (by decide) (hts _ k260) (fun _ h9 => h9) rfl dX6_refuse_10 ?_
  refine va_put (D := g.1) (ci := 6) (v := .int bg) (ty := .int) (C := RX6) (T := TX6) (N := 7) hx hb hts izRX6 tyX6 tyX6_ok nmX6 hown hK hP hD hS 0 rfl rfl 6 (by decide) (hts _ k270) (fun _ h9 => h9) rfl (by decide +kernel) rfl rfl (Nat.le_of_ble_eq_true rfl) dX6_refuse_13 (fun H locs hP hD hS => ?_)
  have hP : va_P g.1 vwCl (List.flatten [bTape g ta ab sz ln kd bg nx bg fb]) H := hP
  have hD : va_D A (List.flatten [bTape g ta ab sz ln kd bg nx bg fb]) := hD
  refine lv_iconst (v := 0) hx hb dX6_refuse_16 (by decide) ?_
  have hP : va_P g.1 vwCl (List.flatten [bTape g ta ab sz ln kd bg nx bg fb]) H := hP
  have hD : va_D A (List.flatten [bTape g ta ab sz ln kd bg nx bg fb]) := hD
  exact mret_z hx hb hr hlocks hS (Nat.le_of_ble_eq_true rfl) (Nat.le_of_ble_eq_true rfl) dX6_refuse_17 () rfl (by decide) trivial hP hD
set_option maxRecDepth 100000 in
set_option maxHeartbeats 4000000 in
theorem c_t_needWordF (l : Launch) (g : zG) (ta : Nat) (ab : Nat) (sz : Int32) (ln : Int32) (kd : Int32) (bg : Int32) (nx : Int32) (fb : Nat → Int32) (k : Nat) (j : Nat) (q : String × Nat × String × List Int32) (hln : 0 ≤ ln.toInt ∧ ln.toInt ≤ 400) (hnx : 0 ≤ nx.toInt ∧ nx.toInt ≤ 400) (hbg : 0 ≤ bg.toInt ∧ bg.toInt ≤ 400) (hkd : zKd kd.toInt bg.toInt nx.toInt) (hTk : zTk fb ln.toInt kd.toInt bg.toInt nx.toInt) (hk9 : k = g.2 (10 + 2 * j)) (hj9 : zLit[j]? = some q) (hql : 1 ≤ q.2.2.2.length ∧ q.2.2.2.length ≤ 7) (hbs : ∀ i : Nat, i < q.2.2.2.length → 97 ≤ (q.2.2.2.getD i 0).toInt ∧ (q.2.2.2.getD i 0).toInt ≤ 122) : zM' g l yX6_needWord (Cond.code yX6_needWord cX6_needWord 2 (some .boolean) :: zB) ({ frames := 6, cells := 0, slots := 0, locals := 128 } : Room) [.ref ta, .ref k] [bTape g ta ab sz ln kd bg nx (-1) fb] (fun u : Int32 × Int32 × Int32 × Int32 × Int32 => (fun (kd2 : Int32) (bg2 : Int32) (nx2 : Int32) (ft2 : Int32) (r : Int32) => some (.int r)) (u.1) (u.2.1) (u.2.2.1) (u.2.2.2.1) (u.2.2.2.2)) (fun u : Int32 × Int32 × Int32 × Int32 × Int32 => (fun (kd2 : Int32) (bg2 : Int32) (nx2 : Int32) (ft2 : Int32) (r : Int32) => (-1 ≤ ft2.toInt) ∧ (0 ≤ nx2.toInt ∧ nx2.toInt ≤ 400) ∧ (0 ≤ bg2.toInt ∧ bg2.toInt ≤ 400) ∧ (zKd kd2.toInt bg2.toInt nx2.toInt) ∧ (zTk fb ln.toInt kd2.toInt bg2.toInt nx2.toInt) ∧ (r = 1 ∧ zisW fb ln.toInt bg.toInt q.2.2.2 ∧ zMv fb ln.toInt bg.toInt bg2.toInt ∧ (-1) = ft2 ∨ r = 0 ∧ ¬ zisW fb ln.toInt bg.toInt q.2.2.2 ∧ bg = ft2 ∧ kd = kd2 ∧ bg = bg2 ∧ nx = nx2)) (u.1) (u.2.1) (u.2.2.1) (u.2.2.2.1) (u.2.2.2.2)) (fun u : Int32 × Int32 × Int32 × Int32 × Int32 => (fun (kd2 : Int32) (bg2 : Int32) (nx2 : Int32) (ft2 : Int32) (r : Int32) => [bTape g ta ab sz ln kd2 bg2 nx2 ft2 fb]) (u.1) (u.2.1) (u.2.2.1) (u.2.2.2.1) (u.2.2.2.2)) := by
  refine zM'.of (cc := cX6_needWord) (maxL := 2) (rt := (some .boolean)) (by decide) rfl (Nat.le_of_ble_eq_true rfl) ?_
  intro p e s m args below meth c A ls St hr hlocks hin hK hT hA hP hD hS hl
  obtain ⟨hx, hb, hml, hown, hts⟩ := id St
  have hl : lv_has ls 2 [(0, .ref ta), (1, .ref k)] := hl
  have hkd9 : kd.toInt = 0 ∨ bg.toInt < nx.toInt := hkd
  refine lv_aload_n hx hb dX6_needWord_0 rfl (lv_at hl 0 rfl) ?_
  refine lv_aload_n hx hb dX6_needWord_1 rfl (lv_at hl 1 rfl) ?_
  refine mcallV' (g := g) (q0 := 0) (ci := 6) (As := [.ref k]) (rest := []) St hK hT hA hP hD hS hl.1 [0] [] rfl rfl rfl (c_t_takeWordF l g ta ab sz ln kd bg nx (-1) fb k j q hln hnx hbg hkd hTk hk9 hj9 hql hbs) (cwV 1 hts (zgL (zl4 k430 k311 k312 k277) k284) rfl rfl rfl (by decide +kernel) ⟨Nat.le_of_ble_eq_true rfl, Nat.le_of_ble_eq_true rfl⟩) rfl rfl rfl rfl (Nat.le_of_ble_eq_true rfl) dX6_needWord_2 ⟨(Nat.le_of_ble_eq_true rfl), (Nat.le_of_ble_eq_true rfl)⟩ (fun u_ H locs hq5 hP hD hS => ?_)
  obtain ⟨kd2_1, bg2_2, nx2_3, r_4⟩ := u_
  replace hq5 : (0 ≤ nx2_3.toInt ∧ nx2_3.toInt ≤ 400) ∧ (0 ≤ bg2_2.toInt ∧ bg2_2.toInt ≤ 400) ∧ (zKd kd2_1.toInt bg2_2.toInt nx2_3.toInt) ∧ (zTk fb ln.toInt kd2_1.toInt bg2_2.toInt nx2_3.toInt) ∧ (r_4 = 1 ∧ zisW fb ln.toInt bg.toInt q.2.2.2 ∧ zMv fb ln.toInt bg.toInt bg2_2.toInt ∨ r_4 = 0 ∧ ¬ zisW fb ln.toInt bg.toInt q.2.2.2 ∧ kd = kd2_1 ∧ bg = bg2_2 ∧ nx = nx2_3) := hq5
  have hP : va_P g.1 vwCl (List.flatten [bTape g ta ab sz ln kd2_1 bg2_2 nx2_3 (-1) fb]) H := hP
  have hD : va_D A (List.flatten [bTape g ta ab sz ln kd2_1 bg2_2 nx2_3 (-1) fb]) := hD
  refine W.widen (k := 0) (n := 0) (Nat.le_of_ble_eq_true rfl) (Nat.le_of_ble_eq_true rfl) ?_
  refine W.eq (g2 := F0 m 5 ls [.int r_4]) rfl ?_
  obtain ⟨hq5_0, hq5_1, hq5_2, hq5_3, hq5_4⟩ := hq5
  rcases hq5_4 with ⟨rfl, hq5_k, hq5_km⟩ | ⟨rfl, hq5_k, rfl, rfl, rfl⟩
  · skip
    refine lv_if_ne (tgt := 15) hx hb dX6_needWord_5 (by decide) (fun _ => ?_) (fun c6 => absurd c6 (by decide))
    refine lv_iconst (v := 1) hx hb dX6_needWord_15 (by decide) ?_
    refine lv_goto (tgt := 20) hx hb dX6_needWord_16 (by decide) ?_
    have hP : va_P g.1 vwCl (List.flatten [bTape g ta ab sz ln kd2_1 bg2_2 nx2_3 (-1) fb]) H := hP
    have hD : va_D A (List.flatten [bTape g ta ab sz ln kd2_1 bg2_2 nx2_3 (-1) fb]) := hD
    exact mret_z hx hb hr hlocks hS (Nat.le_of_ble_eq_true rfl) (Nat.le_of_ble_eq_true rfl) dX6_needWord_20 (kd2_1, bg2_2, nx2_3, -1, (1 : Int32)) rfl (by decide) (show (-1 ≤ ((-1) : Int32).toInt) ∧ (0 ≤ nx2_3.toInt ∧ nx2_3.toInt ≤ 400) ∧ (0 ≤ bg2_2.toInt ∧ bg2_2.toInt ≤ 400) ∧ (zKd kd2_1.toInt bg2_2.toInt nx2_3.toInt) ∧ (zTk fb ln.toInt kd2_1.toInt bg2_2.toInt nx2_3.toInt) ∧ (1 = 1 ∧ zisW fb ln.toInt bg.toInt q.2.2.2 ∧ zMv fb ln.toInt bg.toInt bg2_2.toInt ∧ (-1) = (-1) ∨ 1 = 0 ∧ ¬ zisW fb ln.toInt bg.toInt q.2.2.2 ∧ bg = (-1) ∧ kd = kd2_1 ∧ bg = bg2_2 ∧ nx = nx2_3) from ⟨(by first | decide | omega), (by first | assumption | omega | exact Or.inl (by decide) | exact Or.inr (by omega)), (by first | assumption | omega | exact Or.inl (by decide) | exact Or.inr (by omega)), (by first | assumption | omega | exact Or.inl (by decide) | exact Or.inr (by omega)), hq5_3, (Or.inl ⟨rfl, hq5_k, hq5_km, rfl⟩)⟩) hP hD
  · skip
    refine lv_if_ne (tgt := 15) hx hb dX6_needWord_5 (by decide) (fun c7 => absurd (by decide) c7) (fun _ => ?_)
    refine lv_aload_n hx hb dX6_needWord_8 rfl (lv_at hl 0 rfl) ?_
    refine mcallV' (g := g) (q0 := 0) (ci := 6) (As := []) (rest := []) St hK hT hA hP hD hS hl.1 [0] [] rfl rfl rfl (c_t_refuseF l g ta ab sz ln kd bg nx fb ) (cwV 0 hts (zgL (zl4 k278 k279 k280 k277) k269) rfl rfl rfl (by decide +kernel) ⟨Nat.le_of_ble_eq_true rfl, Nat.le_of_ble_eq_true rfl⟩) rfl rfl rfl rfl (Nat.le_of_ble_eq_true rfl) dX6_needWord_9 ⟨(Nat.le_of_ble_eq_true rfl), (Nat.le_of_ble_eq_true rfl)⟩ (fun _u H locs hq8 hP hD hS => ?_)
    have hP : va_P g.1 vwCl (List.flatten [bTape g ta ab sz ln kd bg nx bg fb]) H := hP
    have hD : va_D A (List.flatten [bTape g ta ab sz ln kd bg nx bg fb]) := hD
    refine W.widen (k := 0) (n := 0) (Nat.le_of_ble_eq_true rfl) (Nat.le_of_ble_eq_true rfl) ?_
    refine W.eq (g2 := F0 m 12 ls [.int 0]) rfl ?_
    refine lv_if_eq (tgt := 19) hx hb dX6_needWord_12 (by decide) (fun _ => ?_) (fun c9 => absurd (by decide) c9)
    refine lv_iconst (v := 0) hx hb dX6_needWord_19 (by decide) ?_
    have hP : va_P g.1 vwCl (List.flatten [bTape g ta ab sz ln kd bg nx bg fb]) H := hP
    have hD : va_D A (List.flatten [bTape g ta ab sz ln kd bg nx bg fb]) := hD
    exact mret_z hx hb hr hlocks hS (Nat.le_of_ble_eq_true rfl) (Nat.le_of_ble_eq_true rfl) dX6_needWord_20 (kd, bg, nx, bg, (0 : Int32)) rfl (by decide) (show (-1 ≤ bg.toInt) ∧ (0 ≤ nx.toInt ∧ nx.toInt ≤ 400) ∧ (0 ≤ bg.toInt ∧ bg.toInt ≤ 400) ∧ (zKd kd.toInt bg.toInt nx.toInt) ∧ (zTk fb ln.toInt kd.toInt bg.toInt nx.toInt) ∧ (0 = 1 ∧ zisW fb ln.toInt bg.toInt q.2.2.2 ∧ zMv fb ln.toInt bg.toInt bg.toInt ∧ (-1) = bg ∨ 0 = 0 ∧ ¬ zisW fb ln.toInt bg.toInt q.2.2.2 ∧ bg = bg ∧ kd = kd ∧ bg = bg ∧ nx = nx) from ⟨(by first | decide | omega), (by first | assumption | omega | exact Or.inl (by decide) | exact Or.inr (by omega)), (by first | assumption | omega | exact Or.inl (by decide) | exact Or.inr (by omega)), (by first | assumption | omega | exact Or.inl (by decide) | exact Or.inr (by omega)), hTk, (Or.inr ⟨rfl, hq5_k, rfl, rfl, rfl, rfl⟩)⟩) hP hD
set_option maxRecDepth 100000 in
set_option maxHeartbeats 4000000 in
theorem c_t_needSignF (l : Launch) (g : zG) (ta : Nat) (ab : Nat) (sz : Int32) (ln : Int32) (kd : Int32) (bg : Int32) (nx : Int32) (fb : Nat → Int32) (sg : Int32) (hln : 0 ≤ ln.toInt ∧ ln.toInt ≤ 400) (hnx : 0 ≤ nx.toInt ∧ nx.toInt ≤ 400) (hbg : 0 ≤ bg.toInt ∧ bg.toInt ≤ 400) (hkd : zKd kd.toInt bg.toInt nx.toInt) (hTk : zTk fb ln.toInt kd.toInt bg.toInt nx.toInt) : zM' g l yX6_needSign (Cond.code yX6_needSign cX6_needSign 2 (some .boolean) :: zB) ({ frames := 2, cells := 0, slots := 0, locals := 42 } : Room) [.ref ta, .int sg] [bTape g ta ab sz ln kd bg nx (-1) fb] (fun u : Int32 × Int32 × Int32 × Int32 × Int32 => (fun (kd2 : Int32) (bg2 : Int32) (nx2 : Int32) (ft2 : Int32) (q : Int32) => some (.int q)) (u.1) (u.2.1) (u.2.2.1) (u.2.2.2.1) (u.2.2.2.2)) (fun u : Int32 × Int32 × Int32 × Int32 × Int32 => (fun (kd2 : Int32) (bg2 : Int32) (nx2 : Int32) (ft2 : Int32) (q : Int32) => (-1 ≤ ft2.toInt) ∧ (0 ≤ nx2.toInt ∧ nx2.toInt ≤ 400) ∧ (0 ≤ bg2.toInt ∧ bg2.toInt ≤ 400) ∧ (zKd kd2.toInt bg2.toInt nx2.toInt) ∧ (zTk fb ln.toInt kd2.toInt bg2.toInt nx2.toInt) ∧ (q = 1 ∧ zisS fb ln.toInt bg.toInt sg.toInt ∧ zMv fb ln.toInt bg.toInt bg2.toInt ∧ (-1) = ft2 ∨ q = 0 ∧ ¬ zisS fb ln.toInt bg.toInt sg.toInt ∧ bg = ft2 ∧ kd = kd2 ∧ bg = bg2 ∧ nx = nx2)) (u.1) (u.2.1) (u.2.2.1) (u.2.2.2.1) (u.2.2.2.2)) (fun u : Int32 × Int32 × Int32 × Int32 × Int32 => (fun (kd2 : Int32) (bg2 : Int32) (nx2 : Int32) (ft2 : Int32) (q : Int32) => [bTape g ta ab sz ln kd2 bg2 nx2 ft2 fb]) (u.1) (u.2.1) (u.2.2.1) (u.2.2.2.1) (u.2.2.2.2)) := by
  refine zM'.of (cc := cX6_needSign) (maxL := 2) (rt := (some .boolean)) (by decide) rfl (Nat.le_of_ble_eq_true rfl) ?_
  intro p e s m args below meth c A ls St hr hlocks hin hK hT hA hP hD hS hl
  obtain ⟨hx, hb, hml, hown, hts⟩ := id St
  have hl : lv_has ls 2 [(0, .ref ta), (1, .int sg)] := hl
  have hkd9 : kd.toInt = 0 ∨ bg.toInt < nx.toInt := hkd
  refine lv_aload_n hx hb dX6_needSign_0 rfl (lv_at hl 0 rfl) ?_
  refine lv_iload_n hx hb dX6_needSign_1 rfl (lv_at hl 1 rfl) ?_
  refine mcallV' (g := g) (q0 := 0) (ci := 6) (As := [.int sg]) (rest := []) St hK hT hA hP hD hS hl.1 [0] [] rfl rfl rfl (c_t_takeSignF l g ta ab sz ln kd bg nx (-1) fb sg hln hnx hbg hkd hTk) (cwV 1 hts (zgL (zl4 k433 k301 k302 k277) k286) rfl rfl rfl (by decide +kernel) ⟨Nat.le_of_ble_eq_true rfl, Nat.le_of_ble_eq_true rfl⟩) rfl rfl rfl rfl (Nat.le_of_ble_eq_true rfl) dX6_needSign_2 ⟨(Nat.le_of_ble_eq_true rfl), (Nat.le_of_ble_eq_true rfl)⟩ (fun u_ H locs hq5 hP hD hS => ?_)
  obtain ⟨kd2_1, bg2_2, nx2_3, q_4⟩ := u_
  replace hq5 : (0 ≤ nx2_3.toInt ∧ nx2_3.toInt ≤ 400) ∧ (0 ≤ bg2_2.toInt ∧ bg2_2.toInt ≤ 400) ∧ (zKd kd2_1.toInt bg2_2.toInt nx2_3.toInt) ∧ (zTk fb ln.toInt kd2_1.toInt bg2_2.toInt nx2_3.toInt) ∧ (q_4 = 1 ∧ zisS fb ln.toInt bg.toInt sg.toInt ∧ zMv fb ln.toInt bg.toInt bg2_2.toInt ∨ q_4 = 0 ∧ ¬ zisS fb ln.toInt bg.toInt sg.toInt ∧ kd = kd2_1 ∧ bg = bg2_2 ∧ nx = nx2_3) := hq5
  have hP : va_P g.1 vwCl (List.flatten [bTape g ta ab sz ln kd2_1 bg2_2 nx2_3 (-1) fb]) H := hP
  have hD : va_D A (List.flatten [bTape g ta ab sz ln kd2_1 bg2_2 nx2_3 (-1) fb]) := hD
  refine W.widen (k := 0) (n := 0) (Nat.le_of_ble_eq_true rfl) (Nat.le_of_ble_eq_true rfl) ?_
  refine W.eq (g2 := F0 m 5 ls [.int q_4]) rfl ?_
  obtain ⟨hq5_0, hq5_1, hq5_2, hq5_3, hq5_4⟩ := hq5
  rcases hq5_4 with ⟨rfl, hq5_k, hq5_km⟩ | ⟨rfl, hq5_k, rfl, rfl, rfl⟩
  · skip
    refine lv_if_ne (tgt := 15) hx hb dX6_needSign_5 (by decide) (fun _ => ?_) (fun c6 => absurd c6 (by decide))
    refine lv_iconst (v := 1) hx hb dX6_needSign_15 (by decide) ?_
    refine lv_goto (tgt := 20) hx hb dX6_needSign_16 (by decide) ?_
    have hP : va_P g.1 vwCl (List.flatten [bTape g ta ab sz ln kd2_1 bg2_2 nx2_3 (-1) fb]) H := hP
    have hD : va_D A (List.flatten [bTape g ta ab sz ln kd2_1 bg2_2 nx2_3 (-1) fb]) := hD
    exact mret_z hx hb hr hlocks hS (Nat.le_of_ble_eq_true rfl) (Nat.le_of_ble_eq_true rfl) dX6_needSign_20 (kd2_1, bg2_2, nx2_3, -1, (1 : Int32)) rfl (by decide) (show (-1 ≤ ((-1) : Int32).toInt) ∧ (0 ≤ nx2_3.toInt ∧ nx2_3.toInt ≤ 400) ∧ (0 ≤ bg2_2.toInt ∧ bg2_2.toInt ≤ 400) ∧ (zKd kd2_1.toInt bg2_2.toInt nx2_3.toInt) ∧ (zTk fb ln.toInt kd2_1.toInt bg2_2.toInt nx2_3.toInt) ∧ (1 = 1 ∧ zisS fb ln.toInt bg.toInt sg.toInt ∧ zMv fb ln.toInt bg.toInt bg2_2.toInt ∧ (-1) = (-1) ∨ 1 = 0 ∧ ¬ zisS fb ln.toInt bg.toInt sg.toInt ∧ bg = (-1) ∧ kd = kd2_1 ∧ bg = bg2_2 ∧ nx = nx2_3) from ⟨(by first | decide | omega), (by first | assumption | omega | exact Or.inl (by decide) | exact Or.inr (by omega)), (by first | assumption | omega | exact Or.inl (by decide) | exact Or.inr (by omega)), (by first | assumption | omega | exact Or.inl (by decide) | exact Or.inr (by omega)), hq5_3, (Or.inl ⟨rfl, hq5_k, hq5_km, rfl⟩)⟩) hP hD
  · skip
    refine lv_if_ne (tgt := 15) hx hb dX6_needSign_5 (by decide) (fun c7 => absurd (by decide) c7) (fun _ => ?_)
    refine lv_aload_n hx hb dX6_needSign_8 rfl (lv_at hl 0 rfl) ?_
    refine mcallV' (g := g) (q0 := 0) (ci := 6) (As := []) (rest := []) St hK hT hA hP hD hS hl.1 [0] [] rfl rfl rfl (c_t_refuseF l g ta ab sz ln kd bg nx fb ) (cwV 0 hts (zgL (zl4 k278 k279 k280 k277) k269) rfl rfl rfl (by decide +kernel) ⟨Nat.le_of_ble_eq_true rfl, Nat.le_of_ble_eq_true rfl⟩) rfl rfl rfl rfl (Nat.le_of_ble_eq_true rfl) dX6_needSign_9 ⟨(Nat.le_of_ble_eq_true rfl), (Nat.le_of_ble_eq_true rfl)⟩ (fun _u H locs hq8 hP hD hS => ?_)
    have hP : va_P g.1 vwCl (List.flatten [bTape g ta ab sz ln kd bg nx bg fb]) H := hP
    have hD : va_D A (List.flatten [bTape g ta ab sz ln kd bg nx bg fb]) := hD
    refine W.widen (k := 0) (n := 0) (Nat.le_of_ble_eq_true rfl) (Nat.le_of_ble_eq_true rfl) ?_
    refine W.eq (g2 := F0 m 12 ls [.int 0]) rfl ?_
    refine lv_if_eq (tgt := 19) hx hb dX6_needSign_12 (by decide) (fun _ => ?_) (fun c9 => absurd (by decide) c9)
    refine lv_iconst (v := 0) hx hb dX6_needSign_19 (by decide) ?_
    have hP : va_P g.1 vwCl (List.flatten [bTape g ta ab sz ln kd bg nx bg fb]) H := hP
    have hD : va_D A (List.flatten [bTape g ta ab sz ln kd bg nx bg fb]) := hD
    exact mret_z hx hb hr hlocks hS (Nat.le_of_ble_eq_true rfl) (Nat.le_of_ble_eq_true rfl) dX6_needSign_20 (kd, bg, nx, bg, (0 : Int32)) rfl (by decide) (show (-1 ≤ bg.toInt) ∧ (0 ≤ nx.toInt ∧ nx.toInt ≤ 400) ∧ (0 ≤ bg.toInt ∧ bg.toInt ≤ 400) ∧ (zKd kd.toInt bg.toInt nx.toInt) ∧ (zTk fb ln.toInt kd.toInt bg.toInt nx.toInt) ∧ (0 = 1 ∧ zisS fb ln.toInt bg.toInt sg.toInt ∧ zMv fb ln.toInt bg.toInt bg.toInt ∧ (-1) = bg ∨ 0 = 0 ∧ ¬ zisS fb ln.toInt bg.toInt sg.toInt ∧ bg = bg ∧ kd = kd ∧ bg = bg ∧ nx = nx) from ⟨(by first | decide | omega), (by first | assumption | omega | exact Or.inl (by decide) | exact Or.inr (by omega)), (by first | assumption | omega | exact Or.inl (by decide) | exact Or.inr (by omega)), (by first | assumption | omega | exact Or.inl (by decide) | exact Or.inr (by omega)), hTk, (Or.inr ⟨rfl, hq5_k, rfl, rfl, rfl, rfl⟩)⟩) hP hD
set_option maxRecDepth 100000 in
set_option maxHeartbeats 4000000 in
theorem c_t_numberF (l : Launch) (g : zG) (ta : Nat) (ab : Nat) (sz : Int32) (ln : Int32) (kd : Int32) (bg : Int32) (nx : Int32) (fb : Nat → Int32) (lw : Int32) (hg : Int32) (hln : 0 ≤ ln.toInt ∧ ln.toInt ≤ 400) (hnx : 0 ≤ nx.toInt ∧ nx.toInt ≤ 400) (hbg : 0 ≤ bg.toInt ∧ bg.toInt ≤ 400) (hkd : zKd kd.toInt bg.toInt nx.toInt) (hTk : zTk fb ln.toInt kd.toInt bg.toInt nx.toInt) : zM' g l yX6_number (Cond.code yX6_number cX6_number 5 (some .int) :: zB) ({ frames := 1, cells := 0, slots := 0, locals := 21 } : Room) [.ref ta, .int lw, .int hg] [bTape g ta ab sz ln kd bg nx (-1) fb] (fun u : Int32 × Int32 × Int32 × Int32 × Int32 => (fun (kd2 : Int32) (bg2 : Int32) (nx2 : Int32) (ft2 : Int32) (q : Int32) => some (.int q)) (u.1) (u.2.1) (u.2.2.1) (u.2.2.2.1) (u.2.2.2.2)) (fun u : Int32 × Int32 × Int32 × Int32 × Int32 => (fun (kd2 : Int32) (bg2 : Int32) (nx2 : Int32) (ft2 : Int32) (q : Int32) => (-1 ≤ ft2.toInt) ∧ (0 ≤ nx2.toInt ∧ nx2.toInt ≤ 400) ∧ (0 ≤ bg2.toInt ∧ bg2.toInt ≤ 400) ∧ (zKd kd2.toInt bg2.toInt nx2.toInt) ∧ (zTk fb ln.toInt kd2.toInt bg2.toInt nx2.toInt) ∧ (zNu fb ln.toInt bg.toInt lw.toInt hg.toInt q ∧ zMv fb ln.toInt bg.toInt bg2.toInt ∧ (-1) = ft2 ∨ q = -1 ∧ (¬ ∃ v9, zNu fb ln.toInt bg.toInt lw.toInt hg.toInt v9) ∧ bg = ft2 ∧ kd = kd2 ∧ bg = bg2 ∧ nx = nx2)) (u.1) (u.2.1) (u.2.2.1) (u.2.2.2.1) (u.2.2.2.2)) (fun u : Int32 × Int32 × Int32 × Int32 × Int32 => (fun (kd2 : Int32) (bg2 : Int32) (nx2 : Int32) (ft2 : Int32) (q : Int32) => [bTape g ta ab sz ln kd2 bg2 nx2 ft2 fb]) (u.1) (u.2.1) (u.2.2.1) (u.2.2.2.1) (u.2.2.2.2)) := by
  refine zM'.of (cc := cX6_number) (maxL := 5) (rt := (some .int)) (by decide) rfl (Nat.le_of_ble_eq_true rfl) ?_
  intro p e s m args below meth c A ls St hr hlocks hin hK hT hA hP hD hS hl
  obtain ⟨hx, hb, hml, hown, hts⟩ := id St
  have hl : lv_has ls 5 [(0, .ref ta), (1, .int lw), (2, .int hg)] := hl
  have hkd9 : kd.toInt = 0 ∨ bg.toInt < nx.toInt := hkd
  refine lv_iconst (v := 0) hx hb dX6_number_0 (by decide) ?_
  refine lv_istore_n (lv' := [(3, .int 0), (0, .ref ta), (1, .int lw), (2, .int hg)]) hx hb dX6_number_1 rfl hl (by decide) rfl (fun ls hl => ?_)
  refine lv_aload_n hx hb dX6_number_2 rfl (lv_at hl 1 rfl) ?_
  refine va_get (D := g.1) (ci := 6) (v := .int kd) (C := RX6) (T := TX6) (N := 7) hx hb hts izRX6 hown hK hP 0 rfl rfl 3 (by decide) (hts _ k258) (fun _ h9 => h9) rfl dX6_number_3 ?_
  refine lv_iconst (v := 2) hx hb dX6_number_6 (by decide) ?_
  refine lv_icmp_ne (tgt := 76) hx hb dX6_number_7 (by decide) (fun cb9 => ?_) (fun cb9 => ?_)
  · skip
    have c1 : ¬ kd.toInt = 2 := zne cb9 rfl (by decide)
    refine lv_aload_n hx hb dX6_number_76 rfl (lv_at hl 1 rfl) ?_
    refine mcallV' (g := g) (q0 := 0) (ci := 6) (As := []) (rest := []) St hK hT hA hP hD hS hl.1 [0] [] rfl rfl rfl (c_t_refuseF l g ta ab sz ln kd bg nx fb ) (cwV 0 hts (zgL (zl4 k278 k279 k280 k277) k269) rfl rfl rfl (by decide +kernel) ⟨Nat.le_of_ble_eq_true rfl, Nat.le_of_ble_eq_true rfl⟩) rfl rfl rfl rfl (Nat.le_of_ble_eq_true rfl) dX6_number_77 ⟨(Nat.le_of_ble_eq_true rfl), (Nat.le_of_ble_eq_true rfl)⟩ (fun _u H locs hq2 hP hD hS => ?_)
    have hP : va_P g.1 vwCl (List.flatten [bTape g ta ab sz ln kd bg nx bg fb]) H := hP
    have hD : va_D A (List.flatten [bTape g ta ab sz ln kd bg nx bg fb]) := hD
    refine W.widen (k := 0) (n := 0) (Nat.le_of_ble_eq_true rfl) (Nat.le_of_ble_eq_true rfl) ?_
    refine W.eq (g2 := F0 m 80 ls [.int 0]) rfl ?_
    refine lv_pop hx hb dX6_number_80 rfl ?_
    refine lv_iconst (v := (-1)) hx hb dX6_number_81 (by decide) ?_
    have hP : va_P g.1 vwCl (List.flatten [bTape g ta ab sz ln kd bg nx bg fb]) H := hP
    have hD : va_D A (List.flatten [bTape g ta ab sz ln kd bg nx bg fb]) := hD
    exact mret_i hx hb hr hlocks hS (Nat.le_of_ble_eq_true rfl) (Nat.le_of_ble_eq_true rfl) dX6_number_82 (kd, bg, nx, bg, -1) rfl (show (-1 ≤ bg.toInt) ∧ (0 ≤ nx.toInt ∧ nx.toInt ≤ 400) ∧ (0 ≤ bg.toInt ∧ bg.toInt ≤ 400) ∧ (zKd kd.toInt bg.toInt nx.toInt) ∧ (zTk fb ln.toInt kd.toInt bg.toInt nx.toInt) ∧ (zNu fb ln.toInt bg.toInt lw.toInt hg.toInt (-1) ∧ zMv fb ln.toInt bg.toInt bg.toInt ∧ (-1) = bg ∨ (-1) = -1 ∧ (¬ ∃ v9, zNu fb ln.toInt bg.toInt lw.toInt hg.toInt v9) ∧ bg = bg ∧ kd = kd ∧ bg = bg ∧ nx = nx) from ⟨(by first | decide | omega), (by first | assumption | omega | exact Or.inl (by decide) | exact Or.inr (by omega)), (by first | assumption | omega | exact Or.inl (by decide) | exact Or.inr (by omega)), (by first | assumption | omega | exact Or.inl (by decide) | exact Or.inr (by omega)), hTk, (Or.inr ⟨rfl, zNu_k hTk (by omega), rfl, rfl, rfl, rfl⟩)⟩) hP hD
  · skip
    have c3 : kd.toInt = 2 := zeq cb9 rfl (by decide)
    have n4 : 2 ≤ kd.toInt := Int.le_trans (Int.le_refl _) (Int.le_of_eq c3.symm)
    have n5 : kd.toInt ≤ 2 := Int.le_trans (Int.le_of_eq c3) (Int.le_refl _)
    refine lv_aload_n hx hb dX6_number_10 rfl (lv_at hl 1 rfl) ?_
    refine va_get (D := g.1) (ci := 6) (v := .int nx) (C := RX6) (T := TX6) (N := 7) hx hb hts izRX6 hown hK hP 0 rfl rfl 5 (by decide) (hts _ k259) (fun _ h9 => h9) rfl dX6_number_11 ?_
    refine lv_aload_n hx hb dX6_number_14 rfl (lv_at hl 1 rfl) ?_
    refine va_get (D := g.1) (ci := 6) (v := .int bg) (C := RX6) (T := TX6) (N := 7) hx hb hts izRX6 hown hK hP 0 rfl rfl 4 (by decide) (hts _ k260) (fun _ h9 => h9) rfl dX6_number_15 ?_
    refine lv_isub hx hb dX6_number_18 ?_
    refine zg3 (zsubK (i := nx.toInt) (j := bg.toInt) (a' := (-400)) (b' := 400) rfl rfl hnx.1 hnx.2 hbg.1 hbg.2 (by decide)) (fun x_6 hx_6 => ?_)
    refine lv_iconst (v := 3) hx hb dX6_number_19 (by decide) ?_
    refine lv_icmp_gt (tgt := 76) hx hb dX6_number_20 (by decide) (fun cb9 => ?_) (fun cb9 => ?_)
    · skip
      have c7 : 3 < x_6.toInt := zlti cb9 (by decide) rfl
      have n8 : 4 ≤ x_6.toInt := zL2 (a := 3) c7 (Int.le_refl _) (by decide)
      refine lv_aload_n hx hb dX6_number_76 rfl (lv_at hl 1 rfl) ?_
      refine mcallV' (g := g) (q0 := 0) (ci := 6) (As := []) (rest := []) St hK hT hA hP hD hS hl.1 [0] [] rfl rfl rfl (c_t_refuseF l g ta ab sz ln kd bg nx fb ) (cwV 0 hts (zgL (zl4 k278 k279 k280 k277) k269) rfl rfl rfl (by decide +kernel) ⟨Nat.le_of_ble_eq_true rfl, Nat.le_of_ble_eq_true rfl⟩) rfl rfl rfl rfl (Nat.le_of_ble_eq_true rfl) dX6_number_77 ⟨(Nat.le_of_ble_eq_true rfl), (Nat.le_of_ble_eq_true rfl)⟩ (fun _u H locs hq9 hP hD hS => ?_)
      have hP : va_P g.1 vwCl (List.flatten [bTape g ta ab sz ln kd bg nx bg fb]) H := hP
      have hD : va_D A (List.flatten [bTape g ta ab sz ln kd bg nx bg fb]) := hD
      refine W.widen (k := 0) (n := 0) (Nat.le_of_ble_eq_true rfl) (Nat.le_of_ble_eq_true rfl) ?_
      refine W.eq (g2 := F0 m 80 ls [.int 0]) rfl ?_
      refine lv_pop hx hb dX6_number_80 rfl ?_
      refine lv_iconst (v := (-1)) hx hb dX6_number_81 (by decide) ?_
      have hP : va_P g.1 vwCl (List.flatten [bTape g ta ab sz ln kd bg nx bg fb]) H := hP
      have hD : va_D A (List.flatten [bTape g ta ab sz ln kd bg nx bg fb]) := hD
      exact mret_i hx hb hr hlocks hS (Nat.le_of_ble_eq_true rfl) (Nat.le_of_ble_eq_true rfl) dX6_number_82 (kd, bg, nx, bg, -1) rfl (show (-1 ≤ bg.toInt) ∧ (0 ≤ nx.toInt ∧ nx.toInt ≤ 400) ∧ (0 ≤ bg.toInt ∧ bg.toInt ≤ 400) ∧ (zKd kd.toInt bg.toInt nx.toInt) ∧ (zTk fb ln.toInt kd.toInt bg.toInt nx.toInt) ∧ (zNu fb ln.toInt bg.toInt lw.toInt hg.toInt (-1) ∧ zMv fb ln.toInt bg.toInt bg.toInt ∧ (-1) = bg ∨ (-1) = -1 ∧ (¬ ∃ v9, zNu fb ln.toInt bg.toInt lw.toInt hg.toInt v9) ∧ bg = bg ∧ kd = kd ∧ bg = bg ∧ nx = nx) from ⟨(by first | decide | omega), (by first | assumption | omega | exact Or.inl (by decide) | exact Or.inr (by omega)), (by first | assumption | omega | exact Or.inl (by decide) | exact Or.inr (by omega)), (by first | assumption | omega | exact Or.inl (by decide) | exact Or.inr (by omega)), hTk, (Or.inr ⟨rfl, zNu_k hTk (by omega), rfl, rfl, rfl, rfl⟩)⟩) hP hD
    · skip
      have c10 : x_6.toInt ≤ 3 := zle (Int32.not_lt.mp cb9) rfl (by decide)
      have n11 : x_6.toInt ≤ 3 := Int.le_trans c10 (Int.le_refl _)
      refine lv_aload_n hx hb dX6_number_23 rfl (lv_at hl 1 rfl) ?_
      refine va_get (D := g.1) (ci := 6) (v := .int bg) (C := RX6) (T := TX6) (N := 7) hx hb hts izRX6 hown hK hP 0 rfl rfl 4 (by decide) (hts _ k260) (fun _ h9 => h9) rfl dX6_number_24 ?_
      refine lv_istore (lv' := [(4, .int bg), (3, .int 0), (0, .ref ta), (1, .int lw), (2, .int hg)]) hx hb dX6_number_27 hl (by decide) rfl (fun ls hl => ?_)
      have hl := lv_sub (l' := [(0, .ref ta), (1, .int lw), (2, .int hg), (3, .int 0), (4, .int bg)]) hl [2, 3, 4, 1, 0] rfl
      have LP29_17 : ∀ (kf : Nat) (x_12 : Int32) (x_13 : Int32), (0 ≤ x_13.toInt ∧ x_13.toInt ≤ 400) → (bg.toInt ≤ x_13.toInt ∧ x_13.toInt ≤ nx.toInt) → (x_12.toInt = (zvl fb bg.toInt.toNat (x_13.toInt - bg.toInt).toNat).toInt) → ∀ (H : Heap) (locs : List Loc) (ls : Array Slot), ((nx.toInt - x_13.toInt).toNat) < kf → va_P g.1 vwCl (List.flatten [bTape g ta ab sz ln kd bg nx (-1) fb]) H → va_D A (List.flatten [bTape g ta ab sz ln kd bg nx (-1) fb]) → va_S A s.heap H locs → lv_has ls 5 [(0, .ref ta), (1, .int lw), (2, .int hg), (3, .int x_12), (4, .int x_13)] → W p l e ({ frames := 1, cells := 0, slots := 0, locals := 21 } : Room) s m args below meth c H locs (0) (0) (zF g (fun u : Int32 × Int32 × Int32 × Int32 × Int32 => (fun (kd2 : Int32) (bg2 : Int32) (nx2 : Int32) (ft2 : Int32) (q : Int32) => some (.int q)) (u.1) (u.2.1) (u.2.2.1) (u.2.2.2.1) (u.2.2.2.2)) (fun u : Int32 × Int32 × Int32 × Int32 × Int32 => (fun (kd2 : Int32) (bg2 : Int32) (nx2 : Int32) (ft2 : Int32) (q : Int32) => (-1 ≤ ft2.toInt) ∧ (0 ≤ nx2.toInt ∧ nx2.toInt ≤ 400) ∧ (0 ≤ bg2.toInt ∧ bg2.toInt ≤ 400) ∧ (zKd kd2.toInt bg2.toInt nx2.toInt) ∧ (zTk fb ln.toInt kd2.toInt bg2.toInt nx2.toInt) ∧ (zNu fb ln.toInt bg.toInt lw.toInt hg.toInt q ∧ zMv fb ln.toInt bg.toInt bg2.toInt ∧ (-1) = ft2 ∨ q = -1 ∧ (¬ ∃ v9, zNu fb ln.toInt bg.toInt lw.toInt hg.toInt v9) ∧ bg = ft2 ∧ kd = kd2 ∧ bg = bg2 ∧ nx = nx2)) (u.1) (u.2.1) (u.2.2.1) (u.2.2.2.1) (u.2.2.2.2)) (fun u : Int32 × Int32 × Int32 × Int32 × Int32 => (fun (kd2 : Int32) (bg2 : Int32) (nx2 : Int32) (ft2 : Int32) (q : Int32) => [bTape g ta ab sz ln kd2 bg2 nx2 ft2 fb]) (u.1) (u.2.1) (u.2.2.1) (u.2.2.2.1) (u.2.2.2.2)) ({ frames := 1, cells := 0, slots := 0, locals := 21 } : Room) below args s A) (F0 m 29 ls []) := by
        intro kf
        induction kf with
        | zero => intro x_12 x_13 i14 i15 i16 H locs ls hk; exact absurd hk (Nat.not_lt_zero _)
        | succ kf ih29_18 =>
          intro x_12 x_13 i14 i15 i16 H locs ls hk29_18 hP hD hS hl
          refine lv_iload hx hb dX6_number_29 (lv_at hl 4 rfl) ?_
          refine lv_aload_n hx hb dX6_number_31 rfl (lv_at hl 0 rfl) ?_
          refine va_get (D := g.1) (ci := 6) (v := .int nx) (C := RX6) (T := TX6) (N := 7) hx hb hts izRX6 hown hK hP 0 rfl rfl 5 (by decide) (hts _ k259) (fun _ h9 => h9) rfl dX6_number_32 ?_
          refine lv_icmp_ge (tgt := 60) hx hb dX6_number_35 (by decide) (fun cb9 => ?_) (fun cb9 => ?_)
          · skip
            have c19 : nx.toInt ≤ x_13.toInt := zle cb9 rfl rfl
            refine lv_iload_n hx hb dX6_number_60 rfl (lv_at hl 3 rfl) ?_
            refine lv_iload_n hx hb dX6_number_61 rfl (lv_at hl 1 rfl) ?_
            refine lv_icmp_lt (tgt := 76) hx hb dX6_number_62 (by decide) (fun cb9 => ?_) (fun cb9 => ?_)
            · skip
              have c20 : x_12.toInt < lw.toInt := zlti cb9 rfl rfl
              refine lv_aload_n hx hb dX6_number_76 rfl (lv_at hl 0 rfl) ?_
              refine mcallV' (g := g) (q0 := 0) (ci := 6) (As := []) (rest := []) St hK hT hA hP hD hS hl.1 [0] [] rfl rfl rfl (c_t_refuseF l g ta ab sz ln kd bg nx fb ) (cwV 0 hts (zgL (zl4 k278 k279 k280 k277) k269) rfl rfl rfl (by decide +kernel) ⟨Nat.le_of_ble_eq_true rfl, Nat.le_of_ble_eq_true rfl⟩) rfl rfl rfl rfl (Nat.le_of_ble_eq_true rfl) dX6_number_77 ⟨(Nat.le_of_ble_eq_true rfl), (Nat.le_of_ble_eq_true rfl)⟩ (fun _u H locs hq21 hP hD hS => ?_)
              have hP : va_P g.1 vwCl (List.flatten [bTape g ta ab sz ln kd bg nx bg fb]) H := hP
              have hD : va_D A (List.flatten [bTape g ta ab sz ln kd bg nx bg fb]) := hD
              refine W.widen (k := 0) (n := 0) (Nat.le_of_ble_eq_true rfl) (Nat.le_of_ble_eq_true rfl) ?_
              refine W.eq (g2 := F0 m 80 ls [.int 0]) rfl ?_
              refine lv_pop hx hb dX6_number_80 rfl ?_
              refine lv_iconst (v := (-1)) hx hb dX6_number_81 (by decide) ?_
              have hP : va_P g.1 vwCl (List.flatten [bTape g ta ab sz ln kd bg nx bg fb]) H := hP
              have hD : va_D A (List.flatten [bTape g ta ab sz ln kd bg nx bg fb]) := hD
              exact mret_i hx hb hr hlocks hS (Nat.le_of_ble_eq_true rfl) (Nat.le_of_ble_eq_true rfl) dX6_number_82 (kd, bg, nx, bg, -1) rfl (show (-1 ≤ bg.toInt) ∧ (0 ≤ nx.toInt ∧ nx.toInt ≤ 400) ∧ (0 ≤ bg.toInt ∧ bg.toInt ≤ 400) ∧ (zKd kd.toInt bg.toInt nx.toInt) ∧ (zTk fb ln.toInt kd.toInt bg.toInt nx.toInt) ∧ (zNu fb ln.toInt bg.toInt lw.toInt hg.toInt (-1) ∧ zMv fb ln.toInt bg.toInt bg.toInt ∧ (-1) = bg ∨ (-1) = -1 ∧ (¬ ∃ v9, zNu fb ln.toInt bg.toInt lw.toInt hg.toInt v9) ∧ bg = bg ∧ kd = kd ∧ bg = bg ∧ nx = nx) from ⟨(by first | decide | omega), (by first | assumption | omega | exact Or.inl (by decide) | exact Or.inr (by omega)), (by first | assumption | omega | exact Or.inl (by decide) | exact Or.inr (by omega)), (by first | assumption | omega | exact Or.inl (by decide) | exact Or.inr (by omega)), hTk, (Or.inr ⟨rfl, zNu_v (y := x_13.toInt) hTk i16 (by omega) (by omega), rfl, rfl, rfl, rfl⟩)⟩) hP hD
            · skip
              have c22 : lw.toInt ≤ x_12.toInt := zle (Int32.not_lt.mp cb9) rfl rfl
              refine lv_iload_n hx hb dX6_number_65 rfl (lv_at hl 3 rfl) ?_
              refine lv_iload_n hx hb dX6_number_66 rfl (lv_at hl 2 rfl) ?_
              refine lv_icmp_gt (tgt := 76) hx hb dX6_number_67 (by decide) (fun cb9 => ?_) (fun cb9 => ?_)
              · skip
                have c23 : hg.toInt < x_12.toInt := zlti cb9 rfl rfl
                refine lv_aload_n hx hb dX6_number_76 rfl (lv_at hl 0 rfl) ?_
                refine mcallV' (g := g) (q0 := 0) (ci := 6) (As := []) (rest := []) St hK hT hA hP hD hS hl.1 [0] [] rfl rfl rfl (c_t_refuseF l g ta ab sz ln kd bg nx fb ) (cwV 0 hts (zgL (zl4 k278 k279 k280 k277) k269) rfl rfl rfl (by decide +kernel) ⟨Nat.le_of_ble_eq_true rfl, Nat.le_of_ble_eq_true rfl⟩) rfl rfl rfl rfl (Nat.le_of_ble_eq_true rfl) dX6_number_77 ⟨(Nat.le_of_ble_eq_true rfl), (Nat.le_of_ble_eq_true rfl)⟩ (fun _u H locs hq24 hP hD hS => ?_)
                have hP : va_P g.1 vwCl (List.flatten [bTape g ta ab sz ln kd bg nx bg fb]) H := hP
                have hD : va_D A (List.flatten [bTape g ta ab sz ln kd bg nx bg fb]) := hD
                refine W.widen (k := 0) (n := 0) (Nat.le_of_ble_eq_true rfl) (Nat.le_of_ble_eq_true rfl) ?_
                refine W.eq (g2 := F0 m 80 ls [.int 0]) rfl ?_
                refine lv_pop hx hb dX6_number_80 rfl ?_
                refine lv_iconst (v := (-1)) hx hb dX6_number_81 (by decide) ?_
                have hP : va_P g.1 vwCl (List.flatten [bTape g ta ab sz ln kd bg nx bg fb]) H := hP
                have hD : va_D A (List.flatten [bTape g ta ab sz ln kd bg nx bg fb]) := hD
                exact mret_i hx hb hr hlocks hS (Nat.le_of_ble_eq_true rfl) (Nat.le_of_ble_eq_true rfl) dX6_number_82 (kd, bg, nx, bg, -1) rfl (show (-1 ≤ bg.toInt) ∧ (0 ≤ nx.toInt ∧ nx.toInt ≤ 400) ∧ (0 ≤ bg.toInt ∧ bg.toInt ≤ 400) ∧ (zKd kd.toInt bg.toInt nx.toInt) ∧ (zTk fb ln.toInt kd.toInt bg.toInt nx.toInt) ∧ (zNu fb ln.toInt bg.toInt lw.toInt hg.toInt (-1) ∧ zMv fb ln.toInt bg.toInt bg.toInt ∧ (-1) = bg ∨ (-1) = -1 ∧ (¬ ∃ v9, zNu fb ln.toInt bg.toInt lw.toInt hg.toInt v9) ∧ bg = bg ∧ kd = kd ∧ bg = bg ∧ nx = nx) from ⟨(by first | decide | omega), (by first | assumption | omega | exact Or.inl (by decide) | exact Or.inr (by omega)), (by first | assumption | omega | exact Or.inl (by decide) | exact Or.inr (by omega)), (by first | assumption | omega | exact Or.inl (by decide) | exact Or.inr (by omega)), hTk, (Or.inr ⟨rfl, zNu_v (y := x_13.toInt) hTk i16 (by omega) (by omega), rfl, rfl, rfl, rfl⟩)⟩) hP hD
              · skip
                have c25 : x_12.toInt ≤ hg.toInt := zle (Int32.not_lt.mp cb9) rfl rfl
                refine lv_aload_n hx hb dX6_number_70 rfl (lv_at hl 0 rfl) ?_
                refine mcallV' (g := g) (q0 := 0) (ci := 6) (As := []) (rest := []) St hK hT hA hP hD hS hl.1 [0] [] rfl rfl rfl (c_t_stepF l g ta ab sz ln kd bg nx (-1) fb hln hnx) (cwV 0 hts (zgL (zl4 k274 k275 k276 k277) k271) rfl rfl rfl (by decide +kernel) ⟨Nat.le_of_ble_eq_true rfl, Nat.le_of_ble_eq_true rfl⟩) rfl rfl rfl rfl (Nat.le_of_ble_eq_true rfl) dX6_number_71 ⟨(Nat.le_of_ble_eq_true rfl), (Nat.le_of_ble_eq_true rfl)⟩ (fun u_ H locs hq29 hP hD hS => ?_)
                obtain ⟨kd2_26, bg2_27, nx2_28⟩ := u_
                replace hq29 : (0 ≤ nx2_28.toInt ∧ nx2_28.toInt ≤ 400) ∧ (0 ≤ bg2_27.toInt ∧ bg2_27.toInt ≤ 400) ∧ (zKd kd2_26.toInt bg2_27.toInt nx2_28.toInt) ∧ (zSk fb ln.toInt nx.toInt bg2_27.toInt) ∧ (zTk fb ln.toInt kd2_26.toInt bg2_27.toInt nx2_28.toInt) := hq29
                have hP : va_P g.1 vwCl (List.flatten [bTape g ta ab sz ln kd2_26 bg2_27 nx2_28 (-1) fb]) H := hP
                have hD : va_D A (List.flatten [bTape g ta ab sz ln kd2_26 bg2_27 nx2_28 (-1) fb]) := hD
                refine W.widen (k := 0) (n := 0) (Nat.le_of_ble_eq_true rfl) (Nat.le_of_ble_eq_true rfl) ?_
                refine W.eq (g2 := F0 m 74 ls []) rfl ?_
                obtain ⟨hq29_0, hq29_1, hq29_2, hq29_3, hq29_4⟩ := hq29
                refine lv_iload_n hx hb dX6_number_74 rfl (lv_at hl 3 rfl) ?_
                have hP : va_P g.1 vwCl (List.flatten [bTape g ta ab sz ln kd2_26 bg2_27 nx2_28 (-1) fb]) H := hP
                have hD : va_D A (List.flatten [bTape g ta ab sz ln kd2_26 bg2_27 nx2_28 (-1) fb]) := hD
                exact mret_i hx hb hr hlocks hS (Nat.le_of_ble_eq_true rfl) (Nat.le_of_ble_eq_true rfl) dX6_number_75 (kd2_26, bg2_27, nx2_28, -1, x_12) rfl (show (-1 ≤ ((-1) : Int32).toInt) ∧ (0 ≤ nx2_28.toInt ∧ nx2_28.toInt ≤ 400) ∧ (0 ≤ bg2_27.toInt ∧ bg2_27.toInt ≤ 400) ∧ (zKd kd2_26.toInt bg2_27.toInt nx2_28.toInt) ∧ (zTk fb ln.toInt kd2_26.toInt bg2_27.toInt nx2_28.toInt) ∧ (zNu fb ln.toInt bg.toInt lw.toInt hg.toInt x_12 ∧ zMv fb ln.toInt bg.toInt bg2_27.toInt ∧ (-1) = (-1) ∨ x_12 = -1 ∧ (¬ ∃ v9, zNu fb ln.toInt bg.toInt lw.toInt hg.toInt v9) ∧ bg = (-1) ∧ kd = kd2_26 ∧ bg = bg2_27 ∧ nx = nx2_28) from ⟨(by first | decide | omega), (by first | assumption | omega | exact Or.inl (by decide) | exact Or.inr (by omega)), (by first | assumption | omega | exact Or.inl (by decide) | exact Or.inr (by omega)), (by first | assumption | omega | exact Or.inl (by decide) | exact Or.inr (by omega)), hq29_4, (Or.inl ⟨zNu_y (y := x_13.toInt) hTk (by omega) (by omega) i16 (by omega) (by omega) (by omega), zMv_mk hTk hq29_3, rfl⟩)⟩) hP hD
          · skip
            have c30 : x_13.toInt < nx.toInt := zlti (Int32.not_le.mp cb9) rfl rfl
            have n31 : x_13.toInt ≤ 399 := zL1 (b := 400) c30 hnx.2 (by decide)
            have n32 : 1 ≤ nx.toInt := zL2 (a := 0) c30 i14.1 (by decide)
            refine lv_iload_n hx hb dX6_number_38 rfl (lv_at hl 3 rfl) ?_
            refine lv_bipush (v := 10) hx hb dX6_number_39 (by decide) ?_
            refine lv_imul hx hb dX6_number_41 ?_
            refine lv_aload_n hx hb dX6_number_42 rfl (lv_at hl 0 rfl) ?_
            refine va_get (D := g.1) (ci := 6) (v := .ref ab) (C := RX6) (T := TX6) (N := 7) hx hb hts izRX6 hown hK hP 0 rfl rfl 0 (by decide) (hts _ k261) (fun _ h9 => h9) rfl dX6_number_43 ?_
            refine lv_iload hx hb dX6_number_46 (lv_at hl 4 rfl) ?_
            refine va_iald hx hb hK hP 1 0 rfl rfl (zinK (a := 0) (b := 399) i14.1 n31 (by decide)) dX6_number_48 ?_
            refine lv_iadd hx hb dX6_number_49 ?_
            refine lv_bipush (v := 48) hx hb dX6_number_50 (by decide) ?_
            refine lv_isub hx hb dX6_number_52 ?_
            refine lv_istore_n (lv' := [(3, .int (((x_12 * 10) + (fb x_13.toNatClampNeg)) - 48)), (0, .ref ta), (1, .int lw), (2, .int hg), (4, .int x_13)]) hx hb dX6_number_53 rfl hl (by decide) rfl (fun ls hl => ?_)
            refine ziinc3 (n' := 1) (a' := 1) (b' := 400) (lv' := fun v9 => [(4, .int v9), (3, .int (((x_12 * 10) + (fb x_13.toNatClampNeg)) - 48)), (0, .ref ta), (1, .int lw), (2, .int hg)]) hx hb dX6_number_54 hl (k := 4) rfl (by decide) (fun _ => rfl) (zaddK (i := x_13.toInt) (j := 1) rfl (by decide) i14.1 n31 (Int.le_refl _) (Int.le_refl _) (by decide)) (fun x_33 ls hx_33 hl => ?_)
            refine lv_goto (tgt := 29) hx hb dX6_number_57 (by decide) ?_
            have hl := lv_sub (l' := [(0, .ref ta), (1, .int lw), (2, .int hg), (3, .int (((x_12 * 10) + (fb x_13.toNatClampNeg)) - 48)), (4, .int x_33)]) hl [2, 3, 4, 1, 0] rfl
            have hP : va_P g.1 vwCl (List.flatten [bTape g ta ab sz ln kd bg nx (-1) fb]) H := hP
            have hD : va_D A (List.flatten [bTape g ta ab sz ln kd bg nx (-1) fb]) := hD
            exact ih29_18 (((x_12 * 10) + (fb x_13.toNatClampNeg)) - 48) x_33 ⟨(Int.le_trans (by decide) hx_33.2.1), hx_33.2.2⟩ (by first | omega | assumption | decide) (zvl_s i16 (by omega) (by omega) hx_33.1) H _ ls (by omega)  hP hD hS (lv_sub hl [0, 1, 2, 3, 4] rfl)
      have hL0 : (0 : Int32).toInt = 0 := by decide
      have hP : va_P g.1 vwCl (List.flatten [bTape g ta ab sz ln kd bg nx (-1) fb]) s.heap := hP
      have hD : va_D A (List.flatten [bTape g ta ab sz ln kd bg nx (-1) fb]) := hD
      exact LP29_17 _ 0 bg ⟨hbg.1, hbg.2⟩ (by first | omega | assumption | decide) (by rw [show (bg.toInt - bg.toInt).toNat = 0 by omega]; rfl) s.heap _ ls (Nat.lt_succ_self _)  hP hD hS (lv_sub hl [0, 1, 2, 3, 4] rfl)
